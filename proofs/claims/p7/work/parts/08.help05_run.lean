/-! written by program (wip/gen) -/
theorem cd_run (g : se_G) (p1 : Int32) : (F_S_run g p1).1 = 0 ∨ (F_S_run g p1).1 = 1 ∨ (F_S_run g p1).1 = 2 := by
  have hL : ∀ (n : Nat) (gj48 : se_G) (v2_48 : Int32), (F_S_run_j48 n gj48 v2_48).1 = 0 := by
    intro n
    induction n with
    | zero => intro gj48 v2_48; rfl
    | succ n ih =>
      intro gj48 v2_48
      rw [F_S_run_j48]
      repeat' split
      all_goals first | rfl | exact ih ..
  unfold F_S_run
  repeat' split
  all_goals first | (exact Or.inl (hL ..)) | simp
set_option maxRecDepth 100000 in
set_option maxHeartbeats 4000000 in
theorem h_run (l : Launch) (hfl : l.flags = pinnedFlags ++ [noTraceFlag]) (D : va_G) (k : Nat → ClassId) (h : Nat → Nat) (ko : ClassId) (ho : Nat) (sa : Nat → Nat) (sz : Nat) (g : se_G) (f : Nat → Int64) (p1 : Int32) : Met l yXL_run (Cond.codeWith yXL_run cXL_run 4 (some .int) [(0, 9, 12, 19), (0, 9, 15, 13)] :: se_all) ({ frames := 7, cells := 1, slots := 6, locals := 114 }) (va_Pc [.ref (h 0), .int p1, .ref ho] (se_Pre D se_cl [(ko, .long), (k 2, .byte), (k 4, .int), (k 8, .byte), (k 10, .byte)] (xe_Wo ko ho k h f g) (xe_ZH sa (va_A (xe_Wo ko ho k h f g) sz)) sz)) ((fun A => va_Qi (fun (r : Int32) (u : (Nat → Int64) × se_G) => r = (if (F_S_run g p1).1 = 0 then 0 else if (F_S_run g p1).1 = 1 then 1 else 2) ∧ u.2 = (F_S_run g p1).2.2 ∧ u.1 = (if (F_S_run g p1).1 = 0 then vp_updL f 0 (Int32.toInt64 (F_S_run g p1).2.1) else f)) (fun u t => va_P D se_cl (xe_Wo ko ho k h u.1 u.2) t.heap ∧ va_K D se_cl [(ko, .long), (k 2, .byte), (k 4, .int), (k 8, .byte), (k 10, .byte)] t ∧ va_D A (xe_Wo ko ho k h u.1 u.2)) A) (va_A (xe_Wo ko ho k h f g) sz)) 1 6 (va_A (xe_Wo ko ho k h f g) sz) := by
  refine xe_metW (Qc := fun A => va_Qi (fun (r : Int32) (u : (Nat → Int64) × se_G) => r = (if (F_S_run g p1).1 = 0 then 0 else if (F_S_run g p1).1 = 1 then 1 else 2) ∧ u.2 = (F_S_run g p1).2.2 ∧ u.1 = (if (F_S_run g p1).1 = 0 then vp_updL f 0 (Int32.toInt64 (F_S_run g p1).2.1) else f)) (fun u t => va_P D se_cl (xe_Wo ko ho k h u.1 u.2) t.heap ∧ va_K D se_cl [(ko, .long), (k 2, .byte), (k 4, .int), (k 8, .byte), (k 10, .byte)] t ∧ va_D A (xe_Wo ko ho k h u.1 u.2)) A) (Z := xe_ZH sa) (cc := cXL_run) (maxL := 4) (ret := some .int) (hh := [(0, 9, 12, 19), (0, 9, 15, 13)]) (by decide) rfl (Nat.le_of_ble_eq_true rfl) ?_
  intro p e s m below meth c ls A hx hb hr hts hown hlocks hml htab hA hP hK hD hS hZ hl
  replace hl : lv_has ls 4 [(0, .ref (h 0)), (1, .int p1), (2, .ref ho)] := hl
  refine lv_aload_n hx hb dXL_run_0 rfl (lv_at hl 2 rfl) ?_
  refine lv_iconst (v := 0) hx hb dXL_run_1 (by decide) ?_
  refine lv_aload_n hx hb dXL_run_2 rfl (lv_at hl 0 rfl) ?_
  refine lv_iload_n hx hb dXL_run_3 rfl (lv_at hl 1 rfl) ?_
  have hPc := hP.sub (ws' := se_WS k h g) [1, 2, 3, 4, 5, 6, 7, 8, 9, 10, 11] rfl
  have hDc := hD.sub (ws' := se_WS k h g) [1, 2, 3, 4, 5, 6, 7, 8, 9, 10, 11] (by decide) rfl
  have hKc := hK.sub (tys' := [(k 2, .byte), (k 4, .int), (k 8, .byte), (k 10, .byte)]) [1, 2, 3, 4] rfl
  refine xe_ci (wr := [(ho, .inl (ko, 1, .inr (.inl f)))]) (xe_runV (C := RX5) (As := [.int p1]) (rest := [.int 0, .ref ho]) ⟨hx, hb, hml, hown, hts⟩ (c_S_run l hfl D k h sa _ g p1) (se_kV 1 hts q_code_X5_run qXL_m31 q_ini_StreamEnd q_instanceMethod_X5_run q_sel_X5_run (by decide +kernel) ⟨Nat.le_of_ble_eq_true rfl, Nat.le_of_ble_eq_true rfl⟩ rfl rfl) ⟨xe_blind xe_ZNX_c, va_recv hKc hPc (ci := 5) (q0 := 0) rfl rfl, xe_pre hPc hKc hDc (xe_ZH_call hZ hS)⟩ rfl rfl hl.1 rfl (lv_room (Nat.le_of_ble_eq_true rfl)) dXL_run_4 ⟨Nat.le_of_ble_eq_true rfl, Nat.le_of_ble_eq_true rfl⟩) hP hD hS hA [1, 2, 3, 4, 5, 6, 7, 8, 9, 10, 11] [0] rfl rfl (by decide) (by decide) (fun E q ce u H locs hu hP hD hS hq hv hc => ?_) (fun r u H locs hu hP hD hS => ?_)
  · have hE : se_x E = (F_S_run g p1).1 := congrArg Prod.fst hu
    rcases cd_run g p1 with hw | hw | hw
    · exact absurd (hE.trans hw) se_x0ne
    · have hEn := se_x1of (hE.trans hw)
      subst hEn
      refine xe_catch1 (name := "java/lang/IllegalArgumentException") hown (htab.trans rfl) (by decide) (by decide) (hts _ (List.mem_cons_of_mem _ qXL_c19)) (va_Nw.use rfl (hZ.1 _ n_cast1 rfl)) hq hv hc ?_
      refine lv_astore_n (lv' := [(3, .ref q), (0, .ref (h 0)), (1, .int p1), (2, .ref ho)]) hx hb dXL_run_12 rfl hl (by decide) rfl (fun ls hl => ?_)
      refine lv_iconst (v := 1) hx hb dXL_run_13 (by decide) ?_
      replace hP : va_P D se_cl (xe_Wo ko ho k h f u) H := hP
      replace hD : va_D A (xe_Wo ko ho k h f u) := hD
      exact W.iret (v := 1) hx hb hr (fun t ht hW => ⟨⟨1, (f, u), rfl, ⟨by rw [hw]; decide, congrArg (fun z => z.2.2) hu, by rw [if_neg (by rw [hw]; decide)]⟩, by rw [ht]; exact hP, va_K.moved hW.alike hK, hD⟩, hS.F ht⟩) hS.2.2 dXL_run_14 hlocks
    · have hEn := se_x2of (hE.trans hw)
      subst hEn
      refine xe_catch2 (name := "java/lang/IllegalStateException") (nm := "java/lang/IllegalArgumentException") hown (htab.trans rfl) (by decide) (by decide) (hts _ (List.mem_cons_of_mem _ qXL_c19)) hZ.2.2.2.2.1 (by decide) (by decide) (hts _ (List.mem_cons_of_mem _ qXL_c13)) (va_Nw.use rfl (hZ.1 _ n_cast2 rfl)) hq hv hc ?_
      refine lv_astore_n (lv' := [(3, .ref q), (0, .ref (h 0)), (1, .int p1), (2, .ref ho)]) hx hb dXL_run_15 rfl hl (by decide) rfl (fun ls hl => ?_)
      refine lv_iconst (v := 2) hx hb dXL_run_16 (by decide) ?_
      replace hP : va_P D se_cl (xe_Wo ko ho k h f u) H := hP
      replace hD : va_D A (xe_Wo ko ho k h f u) := hD
      exact W.iret (v := 2) hx hb hr (fun t ht hW => ⟨⟨2, (f, u), rfl, ⟨by rw [hw]; decide, congrArg (fun z => z.2.2) hu, by rw [if_neg (by rw [hw]; decide)]⟩, by rw [ht]; exact hP, va_K.moved hW.alike hK, hD⟩, hS.F ht⟩) hS.2.2 dXL_run_17 hlocks
  · have hw : (F_S_run g p1).1 = 0 := (congrArg Prod.fst hu).symm
    replace hP : va_P D se_cl (xe_Wo ko ho k h f u) H := hP
    replace hD : va_D A (xe_Wo ko ho k h f u) := hD
    refine lv_i2l (v := Int32.toInt64 r) hx hb dXL_run_7 rfl ?_
    refine va_last hx hb hK hP hD hS 0 0 rfl rfl (se_inN (N := 1) (by decide) (by decide) (by decide)) dXL_run_8 (fun H locs hP hD hS => ?_)
    replace hP : va_P D se_cl (xe_Wo ko ho k h (vp_updL f 0 (Int32.toInt64 r)) u) H := hP
    replace hD : va_D A (xe_Wo ko ho k h (vp_updL f 0 (Int32.toInt64 r)) u) := hD
    refine lv_goto (tgt := 18) hx hb dXL_run_9 (by decide) ?_
    refine lv_iconst (v := 0) hx hb dXL_run_18 (by decide) ?_
    exact W.iret (v := 0) hx hb hr (fun t ht hW => ⟨⟨0, ((vp_updL f 0 (Int32.toInt64 r)), u), rfl, ⟨by rw [hw]; decide, congrArg (fun z => z.2.2) hu, by rw [if_pos hw, ← hu]⟩, by rw [ht]; exact hP, va_K.moved hW.alike hK, hD⟩, hS.F ht⟩) hS.2.2 dXL_run_19 hlocks
