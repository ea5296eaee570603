/-! written by program (wip/gen) -/
set_option maxRecDepth 100000 in
set_option maxHeartbeats 1000000 in
theorem law_k9 {p : Program} {l : Launch} {e : Env} {s : State} {m : MethodId} {below : List Frame} {meth : Method} {c : Code} {D : va_G} {b L : Nat} {xs : Nat → Int32} (hfl : l.flags = pinnedFlags ++ [noTraceFlag]) (hL : L ≤ 3074) (C0 : lw_At p s m meth c b L xs) {ko : ClassId} {ho : Nat} {k kM : Nat → ClassId} {h hM : Nat → Nat} (hK : va_K D se_cl [(ko, .long), (k 2, .byte), (k 4, .int), (k 8, .byte), (k 10, .byte), (kM 1, .int), (kM 2, .int), (kM 3, .boolean), (kM 4, .int), (kM 5, .int), (kM 6, .int)] s) {j : Nat} (hj : 6 * j + 8 ≤ L) {g gm : se_G} {f : Nat → Int64} (hR : rl j g gm) {H : Heap} {locs : List Loc} (hP : va_P D se_cl (lw_W ko ho k h kM hM f g gm) H) (hD : va_D (fun q : Nat => s.heap.size ≤ q) (lw_W ko ho k h kM hM f g gm)) (hS : va_S (fun q : Nat => s.heap.size ≤ q) s.heap H locs) {ls : Array Slot} (hl : lv_has ls 7 [(0, .ref b), (1, .ref (h 0)), (2, .ref (hM 0)), (3, .ref ho), (4, .int (nI (2 + 6 * j)))])
    (K : ∀ (g gm : se_G) (f : Nat → Int64) (H : Heap) (locs : List Loc) (ls : Array Slot), rl (j + 1) g gm → va_P D se_cl (lw_W ko ho k h kM hM f g gm) H → va_D (fun q : Nat => s.heap.size ≤ q) (lw_W ko ho k h kM hM f g gm) → va_S (fun q : Nat => s.heap.size ≤ q) s.heap H locs → lv_has ls 7 [(0, .ref b), (1, .ref (h 0)), (2, .ref (hM 0)), (3, .ref ho), (4, .int (nI (2 + 6 * j)))] → W p l e room_1 s m #[Value.ref b] below meth c H locs (19 + j + 1) (16203 + 6 * j + 6) (lw_Z below #[Value.ref b] s) (F0 m 609 ls [])) : W p l e room_1 s m #[Value.ref b] below meth c H locs (19 + j) (16203 + 6 * j) (lw_Z below #[Value.ref b] s) (F0 m 420 ls []) := by
  obtain ⟨hx, hb, hr, hml, hown, hts0, hX, hbl, hlocks, hgv⟩ := C0
  have hts := lb_hts hts0
  have hZ := lb_Z hts0 hgv
  have hA : ∀ q : Nat, s.heap.size ≤ q → (fun q : Nat => s.heap.size ≤ q) q := fun _ h => h
  have hbA : ¬ (fun q : Nat => s.heap.size ≤ q) b := Nat.not_le.mpr hbl
  have hL2 : L < 2 ^ 31 := by omega
  refine lv_aload_n hx hb d_law_420 rfl (lv_at hl 1 rfl) ?_
  refine lv_aload_n hx hb d_law_421 rfl (lv_at hl 0 rfl) ?_
  refine lv_iload hx hb d_law_422 (lv_at hl 4 rfl) ?_
  refine lv_iconst (v := 1) hx hb d_law_424 (by decide) ?_
  refine lv_iadd hx hb d_law_425 ?_
  refine lb_sld hX hbl hbA hS (j := 2 + 6 * j + 1) (nI_add (2 + 6 * j) 1) (by omega) hL2 hx hb d_law_426 ?_
  refine lv_i2l (v := Int32.toInt64 (xs (2 + 6 * j + 1))) hx hb d_law_427 rfl ?_
  refine lv_bipush (v := 32) hx hb d_law_428 (by decide) ?_
  refine lv_lshl (v := (Int32.toInt64 (xs (2 + 6 * j + 1))) <<< (Int32.toInt64 32 &&& 63)) hx hb d_law_430 rfl ?_
  refine lv_aload_n hx hb d_law_431 rfl (lv_at hl 0 rfl) ?_
  refine lv_iload hx hb d_law_432 (lv_at hl 4 rfl) ?_
  refine lv_iconst (v := 2) hx hb d_law_434 (by decide) ?_
  refine lv_iadd hx hb d_law_435 ?_
  refine lb_sld hX hbl hbA hS (j := 2 + 6 * j + 2) (nI_add (2 + 6 * j) 2) (by omega) hL2 hx hb d_law_436 ?_
  refine lv_i2l (v := Int32.toInt64 (xs (2 + 6 * j + 2))) hx hb d_law_437 rfl ?_
  refine lv_ldc2 hx hb hown (hts _ (List.mem_cons_of_mem _ qXL_k69)) d_law_438 ?_
  refine lv_land hx hb d_law_441 ?_
  refine lv_lor hx hb d_law_442 ?_
  refine lv_aload_n hx hb d_law_443 rfl (lv_at hl 0 rfl) ?_
  refine lv_iload hx hb d_law_444 (lv_at hl 4 rfl) ?_
  refine lv_iconst (v := 3) hx hb d_law_446 (by decide) ?_
  refine lv_iadd hx hb d_law_447 ?_
  refine lb_sld hX hbl hbA hS (j := 2 + 6 * j + 3) (nI_add (2 + 6 * j) 3) (by omega) hL2 hx hb d_law_448 ?_
  refine lv_aload_n hx hb d_law_449 rfl (lv_at hl 3 rfl) ?_
  have hPc := hP.sub (ws' := xe_Wo ko ho k h f g) [0, 1, 2, 3, 4, 5, 6, 7, 8, 9, 10, 11] rfl
  have hDc := hD.sub (ws' := xe_Wo ko ho k h f g) [0, 1, 2, 3, 4, 5, 6, 7, 8, 9, 10, 11] (by decide) rfl
  have hKc := hK.sub (tys' := [(ko, .long), (k 2, .byte), (k 4, .int), (k 8, .byte), (k 10, .byte)]) [0, 1, 2, 3, 4] rfl
  refine lb_ci (wf := fun u : (Nat → Int64) × se_G => xe_Wo ko ho k h u.1 u.2) (tys := [(ko, .long), (k 2, .byte), (k 4, .int), (k 8, .byte), (k 10, .byte)]) (wc := xe_Wo ko ho k h f g) (wr := (se_WM kM hM gm)) (lb_runSW (As := [.ref (h 0), .long (((Int32.toInt64 (xs (2 + 6 * j + 1))) <<< (Int32.toInt64 32 &&& 63)) ||| ((Int32.toInt64 (xs (2 + 6 * j + 2))) &&& 4294967295)), .int (xs (2 + 6 * j + 3)), .ref ho]) (rest := []) ⟨hx, hb, hml, hown, hts⟩ (h_feed l hfl D k h ko ho (lb_sa s) H.size g f (((Int32.toInt64 (xs (2 + 6 * j + 1))) <<< (Int32.toInt64 32 &&& 63)) ||| ((Int32.toInt64 (xs (2 + 6 * j + 2))) &&& 4294967295)) (xs (2 + 6 * j + 3))) (lb_kSW 4 hts q_codew_XL_feed qXL_m104 q_ini_StreamEndLaw q_static_XL_feed (by decide +kernel) ⟨Nat.le_of_ble_eq_true rfl, Nat.le_of_ble_eq_true rfl⟩ rfl rfl) ⟨xe_blind lb_ZH_c, xe_pre hPc hKc hDc (lb_ZH hZ hS (se_fr hDc hS hA))⟩ rfl rfl hl.1 rfl (lv_room (Nat.le_of_ble_eq_true rfl)) d_law_450 ⟨(by show _ ≤ 1059; omega), (by show _ ≤ 24491; omega)⟩) hP hD hS hA [0, 1, 2, 3, 4, 5, 6, 7, 8, 9, 10, 11] [12, 13, 14, 15, 16, 17, 18] rfl rfl (by decide) (by decide) (fun r1 u1 H locs hu hP hD hS => ?_)
  obtain ⟨f1, g1⟩ := u1
  replace hP := hP.sub (ws' := (lw_W ko ho k h kM hM f1 g1 gm)) [7, 8, 9, 10, 11, 12, 13, 14, 15, 16, 17, 18, 0, 1, 2, 3, 4, 5, 6] rfl
  replace hD := hD.sub (ws' := (lw_W ko ho k h kM hM f1 g1 gm)) [7, 8, 9, 10, 11, 12, 13, 14, 15, 16, 17, 18, 0, 1, 2, 3, 4, 5, 6] (by decide) rfl
  refine lv_istore (lv' := [(5, .int r1), (0, .ref b), (1, .ref (h 0)), (2, .ref (hM 0)), (3, .ref ho), (4, .int (nI (2 + 6 * j)))]) hx hb d_law_453 hl (by decide) rfl (fun ls hl => ?_)
  refine lv_aload_n hx hb d_law_455 rfl (lv_at hl 3 rfl) ?_
  refine lv_aload_n hx hb d_law_456 rfl (lv_at hl 1 rfl) ?_
  refine lv_iload hx hb d_law_457 (lv_at hl 5 rfl) ?_
  refine lv_iconst (v := 1) hx hb d_law_459 (by decide) ?_
  refine lv_iadd hx hb d_law_460 ?_
  refine lb_sld hX hbl hbA hS (j := 2 + 6 * j + 1) (nI_add (2 + 6 * j) 1) (by omega) hL2 hx hb d_law_461 ?_
  refine lv_i2l (v := Int32.toInt64 (xs (2 + 6 * j + 1))) hx hb d_law_462 rfl ?_
  refine lv_bipush (v := 32) hx hb d_law_463 (by decide) ?_
  refine lv_lshl (v := (Int32.toInt64 (xs (2 + 6 * j + 1))) <<< (Int32.toInt64 32 &&& 63)) hx hb d_law_465 rfl ?_
  refine lv_aload_n hx hb d_law_466 rfl (lv_at hl 1 rfl) ?_
  refine lv_iload hx hb d_law_467 (lv_at hl 5 rfl) ?_
  refine lv_iconst (v := 2) hx hb d_law_469 (by decide) ?_
  refine lv_iadd hx hb d_law_470 ?_
  refine lb_sld hX hbl hbA hS (j := 2 + 6 * j + 2) (nI_add (2 + 6 * j) 2) (by omega) hL2 hx hb d_law_471 ?_
  refine lv_i2l (v := Int32.toInt64 (xs (2 + 6 * j + 2))) hx hb d_law_472 rfl ?_
  refine lv_ldc2 hx hb hown (hts _ (List.mem_cons_of_mem _ qXL_k69)) d_law_473 ?_
  refine lv_land hx hb d_law_476 ?_
  refine lv_lor hx hb d_law_477 ?_
  refine lv_aload_n hx hb d_law_478 rfl (lv_at hl 1 rfl) ?_
  refine lv_iload hx hb d_law_479 (lv_at hl 5 rfl) ?_
  refine lv_iconst (v := 3) hx hb d_law_481 (by decide) ?_
  refine lv_iadd hx hb d_law_482 ?_
  refine lb_sld hX hbl hbA hS (j := 2 + 6 * j + 3) (nI_add (2 + 6 * j) 3) (by omega) hL2 hx hb d_law_483 ?_
  have hPc := hP.sub (ws' := se_WM kM hM gm) [12, 13, 14, 15, 16, 17, 18] rfl
  have hDc := hD.sub (ws' := se_WM kM hM gm) [12, 13, 14, 15, 16, 17, 18] (by decide) rfl
  have hKc := hK.sub (tys' := [(kM 1, .int), (kM 2, .int), (kM 3, .boolean), (kM 4, .int), (kM 5, .int), (kM 6, .int)]) [5, 6, 7, 8, 9, 10] rfl
  refine lb_ci (wf := fun u => se_WM kM hM u) (tys := [(kM 1, .int), (kM 2, .int), (kM 3, .boolean), (kM 4, .int), (kM 5, .int), (kM 6, .int)]) (wc := se_WM kM hM gm) (wr := (xe_Wo ko ho k h f1 g1)) (va_runV (C := RX6) (As := [.long (((Int32.toInt64 (xs (2 + 6 * j + 1))) <<< (Int32.toInt64 32 &&& 63)) ||| ((Int32.toInt64 (xs (2 + 6 * j + 2))) &&& 4294967295)), .int (xs (2 + 6 * j + 3))]) (rest := []) ⟨hx, hb, hml, hown, hts⟩ (c_M_feed l D kM hM H.size gm (((Int32.toInt64 (xs (2 + 6 * j + 1))) <<< (Int32.toInt64 32 &&& 63)) ||| ((Int32.toInt64 (xs (2 + 6 * j + 2))) &&& 4294967295)) (xs (2 + 6 * j + 3)) (rlm_feed (by omega) hR)) (se_kV 2 hts q_code_X6_feed qXL_m106 q_ini_StreamEndModel q_instanceMethod_X6_feed q_sel_X6_feed (by decide +kernel) ⟨Nat.le_of_ble_eq_true rfl, Nat.le_of_ble_eq_true rfl⟩ rfl rfl) ⟨se_blind se_ZN_ok, va_recv hKc hPc (ci := 6) (q0 := 0) rfl rfl, se_pre se_ZN_ok hPc hKc hDc hZ.1⟩ rfl rfl hl.1 rfl (lv_room (Nat.le_of_ble_eq_true rfl)) d_law_484 ⟨(by show _ ≤ 1059; omega), (by show _ ≤ 24491; omega)⟩) hP hD hS hA [12, 13, 14, 15, 16, 17, 18] [0, 1, 2, 3, 4, 5, 6, 7, 8, 9, 10, 11] rfl rfl (by decide) (by decide) (fun rgm1 gm1 H locs hgm1 hP hD hS => ?_)
  replace hP := hP.sub (ws' := (lw_W ko ho k h kM hM f1 g1 gm1)) [0, 1, 2, 3, 4, 5, 6, 7, 8, 9, 10, 11, 12, 13, 14, 15, 16, 17, 18] rfl
  replace hD := hD.sub (ws' := (lw_W ko ho k h kM hM f1 g1 gm1)) [0, 1, 2, 3, 4, 5, 6, 7, 8, 9, 10, 11, 12, 13, 14, 15, 16, 17, 18] (by decide) rfl
  refine lv_istore (lv' := [(6, .int rgm1), (5, .int r1), (0, .ref b), (1, .ref (h 0)), (2, .ref (hM 0)), (3, .ref ho), (4, .int (nI (2 + 6 * j)))]) hx hb d_law_487 hl (by decide) rfl (fun ls hl => ?_)
  refine lv_goto (tgt := 609) hx hb d_law_489 (by decide) ?_
  refine W.widen (k := 19 + j + 1) (n := 16203 + 6 * j + 6) (by omega) (by omega) ?_
  exact K g1 gm1 f1 _ _ _ (by rw [(show g1 = (F_S_feed g (((Int32.toInt64 (xs (2 + 6 * j + 1))) <<< (Int32.toInt64 32 &&& 63)) ||| ((Int32.toInt64 (xs (2 + 6 * j + 2))) &&& 4294967295)) (xs (2 + 6 * j + 3))).2.2 from hu.2.1), (show gm1 = (F_M_feed gm (((Int32.toInt64 (xs (2 + 6 * j + 1))) <<< (Int32.toInt64 32 &&& 63)) ||| ((Int32.toInt64 (xs (2 + 6 * j + 2))) &&& 4294967295)) (xs (2 + 6 * j + 3))).2 from congrArg Prod.snd hgm1)]; exact (rl_feed (by omega) hR (((Int32.toInt64 (xs (2 + 6 * j + 1))) <<< (Int32.toInt64 32 &&& 63)) ||| ((Int32.toInt64 (xs (2 + 6 * j + 2))) &&& 4294967295)) (xs (2 + 6 * j + 3))).1) hP hD hS (lv_sub hl [2, 3, 4, 5, 6] rfl)
