/-! written by program (wip/gen) -/
set_option maxRecDepth 100000 in
set_option maxHeartbeats 1000000 in
theorem law_loop {p : Program} {l : Launch} {e : Env} {s : State} {m : MethodId} {below : List Frame} {meth : Method} {c : Code} {D : va_G} {b L : Nat} {xs : Nat → Int32} (hfl : l.flags = pinnedFlags ++ [noTraceFlag]) (hL : L ≤ 3074) (C0 : lw_At p s m meth c b L xs) {ko : ClassId} {ho : Nat} {k kM : Nat → ClassId} {h hM : Nat → Nat} (hK : va_K D se_cl [(ko, .long), (k 2, .byte), (k 4, .int), (k 8, .byte), (k 10, .byte), (kM 1, .int), (kM 2, .int), (kM 3, .boolean), (kM 4, .int), (kM 5, .int), (kM 6, .int)] s) : ∀ (n j : Nat) (g gm : se_G) (f : Nat → Int64) (H : Heap) (locs : List Loc) (ls : Array Slot), 6 * j ≤ L → L + 1 ≤ 6 * j + n → rl j g gm → va_P D se_cl (lw_W ko ho k h kM hM f g gm) H → va_D (fun q : Nat => s.heap.size ≤ q) (lw_W ko ho k h kM hM f g gm) → va_S (fun q : Nat => s.heap.size ≤ q) s.heap H locs → lv_has ls 7 [(0, .ref b), (1, .ref (h 0)), (2, .ref (hM 0)), (3, .ref ho), (4, .int (nI (2 + 6 * j)))] → W p l e room_1 s m #[Value.ref b] below meth c H locs (19 + j) (16203 + 6 * j) (lw_Z below #[Value.ref b] s) (F0 m 43 ls []) := by
  have C1 := C0
  obtain ⟨hx, hb, hr, hml, hown, hts0, hX, hbl, hlocks, hgv⟩ := C0
  have hts := lb_hts hts0
  have hZ := lb_Z hts0 hgv
  have hA : ∀ q : Nat, s.heap.size ≤ q → (fun q : Nat => s.heap.size ≤ q) q := fun _ h => h
  have hbA : ¬ (fun q : Nat => s.heap.size ≤ q) b := Nat.not_le.mpr hbl
  have hL2 : L < 2 ^ 31 := by omega
  intro n
  induction n with
  | zero =>
    intro j g gm f H locs ls h1 h2
    exact absurd h2 (by omega)
  | succ n ih =>
    intro j g gm f H locs ls h1 h2 hR hP hD hS hl
    refine lv_iload hx hb d_law_43 (lv_at hl 4 rfl) ?_
    refine lv_aload_n hx hb d_law_45 rfl (lv_at hl 0 rfl) ?_
    refine va_slen hx hb hX hbl hbA hS d_law_46 ?_
    refine lv_bipush (v := 6) hx hb d_law_47 (by decide) ?_
    refine lv_isub hx hb d_law_49 ?_
    refine lv_icmp_gt (tgt := 615) hx hb d_law_50 (by decide) (fun c1 => ?_) (fun c1 => ?_)
    · refine lv_iconst (v := 1) hx hb d_law_615 (by decide) ?_
      refine va_forget (fun q hq => hS.2.2 q hq) ?_
      refine W.widen (k := 1059) (n := 24491) (by omega) (by omega) ?_
      exact lw_ret hx hb hr hlocks d_law_616
    · have hj : 6 * j + 8 ≤ L := by have := lb_go (by omega) (by omega) c1; omega
      have K : ∀ (g gm : se_G) (f : Nat → Int64) (H : Heap) (locs : List Loc) (ls : Array Slot), rl (j + 1) g gm → va_P D se_cl (lw_W ko ho k h kM hM f g gm) H → va_D (fun q : Nat => s.heap.size ≤ q) (lw_W ko ho k h kM hM f g gm) → va_S (fun q : Nat => s.heap.size ≤ q) s.heap H locs → lv_has ls 7 [(0, .ref b), (1, .ref (h 0)), (2, .ref (hM 0)), (3, .ref ho), (4, .int (nI (2 + 6 * j)))] → W p l e room_1 s m #[Value.ref b] below meth c H locs (19 + j + 1) (16203 + 6 * j + 6) (lw_Z below #[Value.ref b] s) (F0 m 609 ls []) := by
        intro g gm f H locs ls hR hP hD hS hl
        refine lv_iinc (v := nI (2 + 6 * (j + 1))) (lv' := [(4, .int (nI (2 + 6 * (j + 1)))), (0, .ref b), (1, .ref (h 0)), (2, .ref (hM 0)), (3, .ref ho)]) hx hb d_law_609 hl (k := 4) rfl ((lb_6 (2 + 6 * j)).trans (by rw [show 2 + 6 * j + 6 = 2 + 6 * (j + 1) from by omega])) (by decide) rfl (fun ls hl => ?_)
        refine lv_goto (tgt := 43) hx hb d_law_612 (by decide) ?_
        refine W.widen (k := 19 + (j + 1)) (n := 16203 + 6 * (j + 1)) (by omega) (by omega) ?_
        exact ih (j + 1) g gm f H locs ls (by omega) (by omega) hR hP hD hS (lv_sub hl [1, 2, 3, 4, 0] rfl)
      refine lv_aload_n hx hb d_law_53 rfl (lv_at hl 0 rfl) ?_
      refine lv_iload hx hb d_law_54 (lv_at hl 4 rfl) ?_
      refine lb_sld hX hbl hbA hS (j := 2 + 6 * j) rfl (by omega) hL2 hx hb d_law_56 ?_
      refine lv_bipush (v := 15) hx hb d_law_57 (by decide) ?_
      refine lv_iand hx hb d_law_59 ?_
      generalize xs (2 + 6 * j) &&& 15 = op
      by_cases h0 : op = 0
      · refine se_swIn h0 hx hb d_law_60 (off := 68) (tgt := 128) (by decide) (by decide) (by decide) (by decide) ?_
        exact law_k0 hfl hL C1 hK hj hR hP hD hS hl K
      by_cases h1 : op = 1
      · refine se_swIn h1 hx hb d_law_60 (off := 121) (tgt := 181) (by decide) (by decide) (by decide) (by decide) ?_
        exact law_k1 hfl hL C1 hK hj hR hP hD hS hl K
      by_cases h2 : op = 2
      · refine se_swIn h2 hx hb d_law_60 (off := 193) (tgt := 253) (by decide) (by decide) (by decide) (by decide) ?_
        exact law_k2 hfl hL C1 hK hj hR hP hD hS hl K
      by_cases h3 : op = 3
      · refine se_swIn h3 hx hb d_law_60 (off := 209) (tgt := 269) (by decide) (by decide) (by decide) (by decide) ?_
        exact law_k3 hfl hL C1 hK hj hR hP hD hS hl K
      by_cases h4 : op = 4
      · refine se_swIn h4 hx hb d_law_60 (off := 222) (tgt := 282) (by decide) (by decide) (by decide) (by decide) ?_
        exact law_k4 hfl hL C1 hK hj hR hP hD hS hl K
      by_cases h5 : op = 5
      · refine se_swIn h5 hx hb d_law_60 (off := 235) (tgt := 295) (by decide) (by decide) (by decide) (by decide) ?_
        exact law_k5 hfl hL C1 hK hj hR hP hD hS hl K
      by_cases h6 : op = 6
      · refine se_swIn h6 hx hb d_law_60 (off := 291) (tgt := 351) (by decide) (by decide) (by decide) (by decide) ?_
        exact law_k6 hfl hL C1 hK hj hR hP hD hS hl K
      by_cases h7 : op = 7
      · refine se_swIn h7 hx hb d_law_60 (off := 304) (tgt := 364) (by decide) (by decide) (by decide) (by decide) ?_
        exact law_k7 hfl hL C1 hK hj hR hP hD hS hl K
      by_cases h8 : op = 8
      · refine se_swIn h8 hx hb d_law_60 (off := 332) (tgt := 392) (by decide) (by decide) (by decide) (by decide) ?_
        exact law_k8 hfl hL C1 hK hj hR hP hD hS hl K
      by_cases h9 : op = 9
      · refine se_swIn h9 hx hb d_law_60 (off := 360) (tgt := 420) (by decide) (by decide) (by decide) (by decide) ?_
        exact law_k9 hfl hL C1 hK hj hR hP hD hS hl K
      by_cases h10 : op = 10
      · refine se_swIn h10 hx hb d_law_60 (off := 432) (tgt := 492) (by decide) (by decide) (by decide) (by decide) ?_
        exact law_k10 hfl hL C1 hK hj hR hP hD hS hl K
      by_cases h11 : op = 11
      · refine se_swIn h11 hx hb d_law_60 (off := 508) (tgt := 568) (by decide) (by decide) (by decide) (by decide) ?_
        exact law_k11 hfl hL C1 hK hj hR hP hD hS hl K
      by_cases h12 : op = 12
      · refine se_swIn h12 hx hb d_law_60 (off := 521) (tgt := 581) (by decide) (by decide) (by decide) (by decide) ?_
        exact law_k12 hfl hL C1 hK hj hR hP hD hS hl K
      refine lv_tableOut (tgt := 609) hx hb d_law_60 (se_swOut (L := [0, 1, 2, 3, 4, 5, 6, 7, 8, 9, 10, 11, 12]) (N := 13) (by intro k hk; simp only [List.mem_cons, List.not_mem_nil, or_false] at hk; rcases hk with rfl | rfl | rfl | rfl | rfl | rfl | rfl | rfl | rfl | rfl | rfl | rfl | rfl <;> first | exact h0 | exact h1 | exact h2 | exact h3 | exact h4 | exact h5 | exact h6 | exact h7 | exact h8 | exact h9 | exact h10 | exact h11 | exact h12) (by decide) (by decide) (by decide)) (by decide) ?_
      refine W.widen (k := 19 + j + 1) (n := 16203 + 6 * j + 6) (by omega) (by omega) ?_
      exact K g gm f H locs ls (rl_skip (by omega) hR) hP hD hS hl
