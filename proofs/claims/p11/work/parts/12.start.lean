/-! written by program (wip/gen) -/
set_option maxRecDepth 100000 in
set_option maxHeartbeats 4000000 in
theorem whole_start {p : Program} {e : Env} {s : State} {m : MethodId} {below : List Frame} {meth : Method} {c : Code} (l : Launch) (hfl : l.flags = pinnedFlags ++ [noTraceFlag]) {b L : Nat} {xs : Nat → Int32} (hL : L ≤ 3074) (C0 : lw_At p s m meth c b L xs) : W p l e room_1 s m #[Value.ref b] below meth c s.heap [] 0 0 (lw_Z below #[Value.ref b] s) (entryFrame m ([Value.ref b] : List Value).toArray 7) := by
  have C1 := C0
  obtain ⟨hx, hb, hr, hml, hown, hts0, hX, hbl, hlocks, hgv⟩ := C0
  have hts := lb_hts hts0
  have hZ := lb_Z hts0 hgv
  have hA : ∀ q : Nat, s.heap.size ≤ q → (fun q : Nat => s.heap.size ≤ q) q := fun _ h => h
  have hbA : ¬ (fun q : Nat => s.heap.size ≤ q) b := Nat.not_le.mpr hbl
  have hL2 : L < 2 ^ 31 := by omega
  obtain ⟨c0, i0, hKn0⟩ := u_known (C := RX0) (T := TX0) (N := 9) (n := 9) hts (se_iw iwX0) (hts _ (List.mem_cons_of_mem _ q_inst_X0))
  obtain ⟨c1, i1, hKn1⟩ := u_known (C := RX1) (T := TX1) (N := 8) (n := 8) hts (se_iw iwX1) (hts _ (List.mem_cons_of_mem _ q_inst_X1))
  obtain ⟨c2, i2, hKn2⟩ := u_known (C := RX2) (T := TX2) (N := 13) (n := 13) hts (se_iw iwX2) (hts _ (List.mem_cons_of_mem _ q_inst_X2))
  obtain ⟨c3, i3, hKn3⟩ := u_known (C := RX3) (T := TX3) (N := 7) (n := 7) hts (se_iw iwX3) (hts _ (List.mem_cons_of_mem _ q_inst_X3))
  obtain ⟨c4, i4, hKn4⟩ := u_known (C := RX4) (T := TX4) (N := 11) (n := 11) hts (se_iw iwX4) (hts _ (List.mem_cons_of_mem _ q_inst_X4))
  obtain ⟨c5, i5, hKn5⟩ := u_known (C := RX5) (T := TX5) (N := 12) (n := 12) hts (se_iw iwX5) (hts _ (List.mem_cons_of_mem _ q_inst_X5))
  obtain ⟨c6, i6, hKn6⟩ := u_known (C := RX6) (T := TX6) (N := 50) (n := 50) hts (se_iw iwX6) (hts _ (List.mem_cons_of_mem _ q_inst_X6))
  obtain ⟨D, hKc⟩ : ∃ D : va_G, ∀ (k : Nat) (q : vw_C), se_cl[k]? = some q → u_Kn s q.1 q.2.1 q.2.2 (D.1 k) (D.2 k) := by
    refine ⟨(fun k => if k = 0 then c0 else if k = 1 then c1 else if k = 2 then c2 else if k = 3 then c3 else if k = 4 then c4 else if k = 5 then c5 else c6, fun k => if k = 0 then i0 else if k = 1 then i1 else if k = 2 then i2 else if k = 3 then i3 else if k = 4 then i4 else if k = 5 then i5 else i6), ?_⟩
    intro k q hq
    match k, hq with
    | 0, hq => cases hq; exact hKn0
    | 1, hq => cases hq; exact hKn1
    | 2, hq => cases hq; exact hKn2
    | 3, hq => cases hq; exact hKn3
    | 4, hq => cases hq; exact hKn4
    | 5, hq => cases hq; exact hKn5
    | 6, hq => cases hq; exact hKn6
    | k + 7, hq => simp [se_cl] at hq
  have hS : va_S (fun q : Nat => s.heap.size ≤ q) s.heap s.heap [] := va_S.rf
  have hK : va_K D se_cl [] s := ⟨hKc, fun k q h => by simp at h⟩
  have hP : va_P D se_cl [] s.heap := fun k q h => by simp at h
  have hD : va_D (fun q : Nat => s.heap.size ≤ q) [] := ⟨fun i j p q h => by simp at h, fun k q h => by simp at h⟩
  have hl := lv_entry ([.ref b]) (n := 7) (Nat.le_of_ble_eq_true rfl)
  rw [lg_entry_eq]
  generalize (lg_sl ([.ref b]) ++ List.replicate (7 - (lg_sl ([.ref b])).length) Slot.unset).toArray = ls at hl ⊢
  replace hl : lv_has ls 7 [(0, .ref b)] := hl
  refine va_new (ci := 5) (fs := [.int 0, .int 0, .null, .null, .null, .null, .null, .null, .int 0, .int 0, .int 0, .int 0]) (C := RX5) (T := TX5) (N := 12) hx hb hts (se_iw iwX5) tyX5 tyX5_ok hown (hts _ (List.mem_cons_of_mem _ qXL_c8)) (hts _ (List.mem_cons_of_mem _ q_inst_X5)) (hts _ (List.mem_cons_of_mem _ q_ini_StreamEnd)) hK hP hD hS hA rfl (fun j hj => by rcases (show j = 0 ∨ j = 1 ∨ j = 2 ∨ j = 3 ∨ j = 4 ∨ j = 5 ∨ j = 6 ∨ j = 7 ∨ j = 8 ∨ j = 9 ∨ j = 10 ∨ j = 11 by omega) with rfl | rfl | rfl | rfl | rfl | rfl | rfl | rfl | rfl | rfl | rfl | rfl <;> rfl) (Nat.le_of_ble_eq_true rfl) (Nat.le_of_ble_eq_true rfl) d_law_0 (fun qS H hP hD hS => ?_)
  replace hP : va_P D se_cl [(qS, .inr (5, [.int 0, .int 0, .null, .null, .null, .null, .null, .null, .int 0, .int 0, .int 0, .int 0]))] H := hP
  replace hD : va_D (fun q : Nat => s.heap.size ≤ q) [(qS, .inr (5, [.int 0, .int 0, .null, .null, .null, .null, .null, .null, .int 0, .int 0, .int 0, .int 0]))] := hD
  refine lv_dup hx hb d_law_3 rfl ?_
  refine lv_aload_n hx hb d_law_4 rfl (lv_at hl 0 rfl) ?_
  refine lv_iconst (v := 0) hx hb d_law_5 (by decide) ?_
  refine se_cp (va_runS (As := [.ref b, .int 0]) (rest := [.ref qS, .ref qS]) ⟨hx, hb, hml, hown, hts⟩ (lb_cellC l hL2 (by decide)) (se_kS 2 hts q_code_XL_cell qXL_m53 q_ini_StreamEndLaw q_static_XL_cell (by decide +kernel) ⟨Nat.le_of_ble_eq_true rfl, Nat.le_of_ble_eq_true rfl⟩ rfl rfl) ⟨lb_X_c, lb_preX hX hbl hbA hS⟩ rfl rfl hl.1 rfl (lv_room (Nat.le_of_ble_eq_true rfl)) d_law_6 ⟨Nat.le_of_ble_eq_true rfl, Nat.le_of_ble_eq_true rfl⟩) ?_
  refine lv_aload_n hx hb d_law_9 rfl (lv_at hl 0 rfl) ?_
  refine lv_iconst (v := 1) hx hb d_law_10 (by decide) ?_
  refine se_cp (va_runS (As := [.ref b, .int 1]) (rest := [.int (lb_cell L xs 0), .ref qS, .ref qS]) ⟨hx, hb, hml, hown, hts⟩ (lb_cellC l hL2 (by decide)) (se_kS 2 hts q_code_XL_cell qXL_m53 q_ini_StreamEndLaw q_static_XL_cell (by decide +kernel) ⟨Nat.le_of_ble_eq_true rfl, Nat.le_of_ble_eq_true rfl⟩ rfl rfl) ⟨lb_X_c, lb_preX hX hbl hbA hS⟩ rfl rfl hl.1 rfl (lv_room (Nat.le_of_ble_eq_true rfl)) d_law_11 ⟨Nat.le_of_ble_eq_true rfl, Nat.le_of_ble_eq_true rfl⟩) ?_
  have hPc := hP.sub (ws' := [(qS, .inr (5, [.int 0, .int 0, .null, .null, .null, .null, .null, .null, .int 0, .int 0, .int 0, .int 0]))]) [0] rfl
  have hDc := hD.sub (ws' := [(qS, .inr (5, [.int 0, .int 0, .null, .null, .null, .null, .null, .null, .int 0, .int 0, .int 0, .int 0]))]) [0] (by decide) rfl
  have hKc := hK.sub (tys' := []) [] rfl
  refine lb_cn (wf := fun u : (Nat → ClassId) × (Nat → Nat) => se_WS u.1 u.2 (F_S_init ((F_A_Arrays_fill (fun _ => fun _ => 0) (-1)) 0) (lb_cell L xs 0) (lb_cell L xs 1))) (tf := fun u => [(u.1 2, .byte), (u.1 4, .int), (u.1 8, .byte), (u.1 10, .byte)]) (wc := [(qS, .inr (5, [.int 0, .int 0, .null, .null, .null, .null, .null, .null, .int 0, .int 0, .int 0, .int 0]))]) (wr := []) (va_runI (As := [.int (lb_cell L xs 0), .int (lb_cell L xs 1)]) (rest := [.ref qS]) ⟨hx, hb, hml, hown, hts⟩ (i_X5 l D qS H.size (lb_cell L xs 0) (lb_cell L xs 1)) (se_kI 2 hts q_code_X5_init qXL_m59 q_ini_StreamEnd q_instanceMethod_X5_init rfl (by decide +kernel) ⟨Nat.le_of_ble_eq_true rfl, Nat.le_of_ble_eq_true rfl⟩ rfl rfl) ⟨se_blind se_ZN_ok, se_pre se_ZN_ok hPc hKc hDc hZ.1⟩ rfl rfl hl.1 rfl (lv_room (Nat.le_of_ble_eq_true rfl)) d_law_14 ⟨Nat.le_of_ble_eq_true rfl, Nat.le_of_ble_eq_true rfl⟩) hP hD hS hA [0] [] rfl rfl (by decide) (by decide) (fun u H locs hu hK1 hP1 hD1 hS => ?_)
  clear hPc hDc hKc hP hD
  obtain ⟨k, h⟩ := u
  replace hu : h 0 = qS := hu
  subst hu
  dsimp only at hK1 hP1 hD1
  generalize hgS : (F_S_init ((F_A_Arrays_fill (fun _ => fun _ => 0) (-1)) 0) (lb_cell L xs 0) (lb_cell L xs 1)) = g0 at hP1 hD1
  have hP : va_P D se_cl (se_WS k h g0) H := hP1
  have hD : va_D (fun q : Nat => s.heap.size ≤ q) (se_WS k h g0) := hD1
  replace hK : va_K D se_cl [(k 2, .byte), (k 4, .int), (k 8, .byte), (k 10, .byte)] s := hK1
  refine lv_astore_n (lv' := [(1, .ref (h 0)), (0, .ref b)]) hx hb d_law_17 rfl hl (by decide) rfl (fun ls hl => ?_)
  refine va_new (ci := 6) (fs := [.int 0, .int 0, .int 0, .int 0, .int 0, .int 0, .int 0, .int 0, .int 0, .int 0, .int 0, .int 0, .null, .int 0, .int 0, .int 0, .int 0, .int 0, .null, .null, .int 0, .int 0, .int 0, .int 0, .int 0, .int 0, .int 0, .int 0, .int 0, .int 0, .int 0, .int 0, .int 0, .int 0, .int 0, .int 0, .int 0, .int 0, .int 0, .int 0, .int 0, .int 0, .int 0, .int 0, .null, .int 0, .int 0, .null, .null, .int 0]) (C := RX6) (T := TX6) (N := 50) hx hb hts (se_iw iwX6) tyX6 tyX6_ok hown (hts _ (List.mem_cons_of_mem _ qXL_c62)) (hts _ (List.mem_cons_of_mem _ q_inst_X6)) (hts _ (List.mem_cons_of_mem _ q_ini_StreamEndModel)) hK hP hD hS hA rfl (fun j hj => by rcases (show j = 0 ∨ j = 1 ∨ j = 2 ∨ j = 3 ∨ j = 4 ∨ j = 5 ∨ j = 6 ∨ j = 7 ∨ j = 8 ∨ j = 9 ∨ j = 10 ∨ j = 11 ∨ j = 12 ∨ j = 13 ∨ j = 14 ∨ j = 15 ∨ j = 16 ∨ j = 17 ∨ j = 18 ∨ j = 19 ∨ j = 20 ∨ j = 21 ∨ j = 22 ∨ j = 23 ∨ j = 24 ∨ j = 25 ∨ j = 26 ∨ j = 27 ∨ j = 28 ∨ j = 29 ∨ j = 30 ∨ j = 31 ∨ j = 32 ∨ j = 33 ∨ j = 34 ∨ j = 35 ∨ j = 36 ∨ j = 37 ∨ j = 38 ∨ j = 39 ∨ j = 40 ∨ j = 41 ∨ j = 42 ∨ j = 43 ∨ j = 44 ∨ j = 45 ∨ j = 46 ∨ j = 47 ∨ j = 48 ∨ j = 49 by omega) with rfl | rfl | rfl | rfl | rfl | rfl | rfl | rfl | rfl | rfl | rfl | rfl | rfl | rfl | rfl | rfl | rfl | rfl | rfl | rfl | rfl | rfl | rfl | rfl | rfl | rfl | rfl | rfl | rfl | rfl | rfl | rfl | rfl | rfl | rfl | rfl | rfl | rfl | rfl | rfl | rfl | rfl | rfl | rfl | rfl | rfl | rfl | rfl | rfl | rfl <;> rfl) (Nat.le_of_ble_eq_true rfl) (Nat.le_of_ble_eq_true rfl) d_law_18 (fun qM H hP hD hS => ?_)
  replace hP : va_P D se_cl (se_WS k h g0 ++ [(qM, .inr (6, [.int 0, .int 0, .int 0, .int 0, .int 0, .int 0, .int 0, .int 0, .int 0, .int 0, .int 0, .int 0, .null, .int 0, .int 0, .int 0, .int 0, .int 0, .null, .null, .int 0, .int 0, .int 0, .int 0, .int 0, .int 0, .int 0, .int 0, .int 0, .int 0, .int 0, .int 0, .int 0, .int 0, .int 0, .int 0, .int 0, .int 0, .int 0, .int 0, .int 0, .int 0, .int 0, .int 0, .null, .int 0, .int 0, .null, .null, .int 0]))]) H := hP
  replace hD : va_D (fun q : Nat => s.heap.size ≤ q) (se_WS k h g0 ++ [(qM, .inr (6, [.int 0, .int 0, .int 0, .int 0, .int 0, .int 0, .int 0, .int 0, .int 0, .int 0, .int 0, .int 0, .null, .int 0, .int 0, .int 0, .int 0, .int 0, .null, .null, .int 0, .int 0, .int 0, .int 0, .int 0, .int 0, .int 0, .int 0, .int 0, .int 0, .int 0, .int 0, .int 0, .int 0, .int 0, .int 0, .int 0, .int 0, .int 0, .int 0, .int 0, .int 0, .int 0, .int 0, .null, .int 0, .int 0, .null, .null, .int 0]))]) := hD
  refine lv_dup hx hb d_law_21 rfl ?_
  refine lv_aload_n hx hb d_law_22 rfl (lv_at hl 1 rfl) ?_
  refine lv_iconst (v := 0) hx hb d_law_23 (by decide) ?_
  refine se_cp (va_runS (As := [.ref b, .int 0]) (rest := [.ref qM, .ref qM]) ⟨hx, hb, hml, hown, hts⟩ (lb_cellC l hL2 (by decide)) (se_kS 2 hts q_code_XL_cell qXL_m53 q_ini_StreamEndLaw q_static_XL_cell (by decide +kernel) ⟨Nat.le_of_ble_eq_true rfl, Nat.le_of_ble_eq_true rfl⟩ rfl rfl) ⟨lb_X_c, lb_preX hX hbl hbA hS⟩ rfl rfl hl.1 rfl (lv_room (Nat.le_of_ble_eq_true rfl)) d_law_24 ⟨Nat.le_of_ble_eq_true rfl, Nat.le_of_ble_eq_true rfl⟩) ?_
  refine lv_aload_n hx hb d_law_27 rfl (lv_at hl 1 rfl) ?_
  refine lv_iconst (v := 1) hx hb d_law_28 (by decide) ?_
  refine se_cp (va_runS (As := [.ref b, .int 1]) (rest := [.int (lb_cell L xs 0), .ref qM, .ref qM]) ⟨hx, hb, hml, hown, hts⟩ (lb_cellC l hL2 (by decide)) (se_kS 2 hts q_code_XL_cell qXL_m53 q_ini_StreamEndLaw q_static_XL_cell (by decide +kernel) ⟨Nat.le_of_ble_eq_true rfl, Nat.le_of_ble_eq_true rfl⟩ rfl rfl) ⟨lb_X_c, lb_preX hX hbl hbA hS⟩ rfl rfl hl.1 rfl (lv_room (Nat.le_of_ble_eq_true rfl)) d_law_29 ⟨Nat.le_of_ble_eq_true rfl, Nat.le_of_ble_eq_true rfl⟩) ?_
  have hPc := hP.sub (ws' := [(qM, .inr (6, [.int 0, .int 0, .int 0, .int 0, .int 0, .int 0, .int 0, .int 0, .int 0, .int 0, .int 0, .int 0, .null, .int 0, .int 0, .int 0, .int 0, .int 0, .null, .null, .int 0, .int 0, .int 0, .int 0, .int 0, .int 0, .int 0, .int 0, .int 0, .int 0, .int 0, .int 0, .int 0, .int 0, .int 0, .int 0, .int 0, .int 0, .int 0, .int 0, .int 0, .int 0, .int 0, .int 0, .null, .int 0, .int 0, .null, .null, .int 0]))]) [11] rfl
  have hDc := hD.sub (ws' := [(qM, .inr (6, [.int 0, .int 0, .int 0, .int 0, .int 0, .int 0, .int 0, .int 0, .int 0, .int 0, .int 0, .int 0, .null, .int 0, .int 0, .int 0, .int 0, .int 0, .null, .null, .int 0, .int 0, .int 0, .int 0, .int 0, .int 0, .int 0, .int 0, .int 0, .int 0, .int 0, .int 0, .int 0, .int 0, .int 0, .int 0, .int 0, .int 0, .int 0, .int 0, .int 0, .int 0, .int 0, .int 0, .null, .int 0, .int 0, .null, .null, .int 0]))]) [11] (by decide) rfl
  have hKc := hK.sub (tys' := []) [] rfl
  refine lb_cn (wf := fun u : (Nat → ClassId) × (Nat → Nat) => se_WM u.1 u.2 (F_M_init (lb_cell L xs 0) (lb_cell L xs 1))) (tf := fun u => [(u.1 1, .int), (u.1 2, .int), (u.1 3, .boolean), (u.1 4, .int), (u.1 5, .int), (u.1 6, .int)]) (wc := [(qM, .inr (6, [.int 0, .int 0, .int 0, .int 0, .int 0, .int 0, .int 0, .int 0, .int 0, .int 0, .int 0, .int 0, .null, .int 0, .int 0, .int 0, .int 0, .int 0, .null, .null, .int 0, .int 0, .int 0, .int 0, .int 0, .int 0, .int 0, .int 0, .int 0, .int 0, .int 0, .int 0, .int 0, .int 0, .int 0, .int 0, .int 0, .int 0, .int 0, .int 0, .int 0, .int 0, .int 0, .int 0, .null, .int 0, .int 0, .null, .null, .int 0]))]) (wr := (se_WS k h g0)) (va_runI (As := [.int (lb_cell L xs 0), .int (lb_cell L xs 1)]) (rest := [.ref qM]) ⟨hx, hb, hml, hown, hts⟩ (i_X6 l D qM H.size (lb_cell L xs 0) (lb_cell L xs 1)) (se_kI 2 hts q_code_X6_init qXL_m64 q_ini_StreamEndModel q_instanceMethod_X6_init rfl (by decide +kernel) ⟨Nat.le_of_ble_eq_true rfl, Nat.le_of_ble_eq_true rfl⟩ rfl rfl) ⟨se_blind se_ZN_ok, se_pre se_ZN_ok hPc hKc hDc hZ.1⟩ rfl rfl hl.1 rfl (lv_room (Nat.le_of_ble_eq_true rfl)) d_law_32 ⟨Nat.le_of_ble_eq_true rfl, Nat.le_of_ble_eq_true rfl⟩) hP hD hS hA [11] [0, 1, 2, 3, 4, 5, 6, 7, 8, 9, 10] rfl rfl (by decide) (by decide) (fun u H locs hu hK1 hP1 hD1 hS => ?_)
  clear hPc hDc hKc hP hD
  obtain ⟨kM, hM⟩ := u
  replace hu : hM 0 = qM := hu
  subst hu
  dsimp only at hK1 hP1 hD1
  generalize hgM : (F_M_init (lb_cell L xs 0) (lb_cell L xs 1)) = gm0 at hP1 hD1
  have hP : va_P D se_cl (se_WS k h g0 ++ se_WM kM hM gm0) H := hP1
  have hD : va_D (fun q : Nat => s.heap.size ≤ q) (se_WS k h g0 ++ se_WM kM hM gm0) := hD1
  replace hK := hK.app hK1
  refine lv_astore_n (lv' := [(2, .ref (hM 0)), (1, .ref (h 0)), (0, .ref b)]) hx hb d_law_35 rfl hl (by decide) rfl (fun ls hl => ?_)
  refine lv_iconst (v := 1) hx hb d_law_36 (by decide) ?_
  refine va_newa (atype := .long) hx hb (hts _ (List.mem_cons_of_mem _ q_arr_long)) (ty := .long) rfl hK hP hD hS hA (n := 1) (N' := 1) (a0 := (1, .inr (.inl (fun _ => 0)))) (fun _ => rfl) (by decide) (by decide) (by decide) (Nat.le_of_ble_eq_true rfl) (Nat.le_of_ble_eq_true rfl) d_law_37 (fun ho ko H hK hP hD hS => ?_)
  refine lv_astore_n (lv' := [(3, .ref ho), (2, .ref (hM 0)), (1, .ref (h 0)), (0, .ref b)]) hx hb d_law_39 rfl hl (by decide) rfl (fun ls hl => ?_)
  refine lv_iconst (v := 2) hx hb d_law_40 (by decide) ?_
  refine lv_istore (lv' := [(4, .int 2), (3, .ref ho), (2, .ref (hM 0)), (1, .ref (h 0)), (0, .ref b)]) hx hb d_law_41 hl (by decide) rfl (fun ls hl => ?_)
  replace hP := hP.sub (ws' := (lw_W ko ho k h kM hM (fun _ => 0) g0 gm0)) [18, 0, 1, 2, 3, 4, 5, 6, 7, 8, 9, 10, 11, 12, 13, 14, 15, 16, 17] rfl
  replace hD := hD.sub (ws' := (lw_W ko ho k h kM hM (fun _ => 0) g0 gm0)) [18, 0, 1, 2, 3, 4, 5, 6, 7, 8, 9, 10, 11, 12, 13, 14, 15, 16, 17] (by decide) rfl
  replace hK := hK.sub (tys' := [(ko, .long), (k 2, .byte), (k 4, .int), (k 8, .byte), (k 10, .byte), (kM 1, .int), (kM 2, .int), (kM 3, .boolean), (kM 4, .int), (kM 5, .int), (kM 6, .int)]) [10, 0, 1, 2, 3, 4, 5, 6, 7, 8, 9] rfl
  refine W.widen (k := 19 + 0) (n := 16203 + 6 * 0) (Nat.le_of_ble_eq_true rfl) (Nat.le_of_ble_eq_true rfl) ?_
  exact law_loop hfl hL C1 hK (L + 1) 0 g0 gm0 (fun _ => 0) _ _ ls (Nat.zero_le _) (by omega) (by rw [← hgS, ← hgM]; exact rl_init _ _) hP hD hS (lv_sub hl [4, 3, 2, 1, 0] rfl)
