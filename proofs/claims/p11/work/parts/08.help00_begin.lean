/-! written by program (wip/gen) -/
theorem cd_begin (g : se_G) (p1 : Int32) (p2 : Int32) : (F_S_begin g p1 p2).1 = 0 ∨ (F_S_begin g p1 p2).1 = 2 := by
  unfold F_S_begin
  repeat' split
  all_goals first | exact Or.inl rfl | exact Or.inr rfl | exact Or.inr (Or.inl rfl) | exact Or.inr (Or.inr rfl) | simp
set_option maxRecDepth 100000 in
set_option maxHeartbeats 4000000 in
theorem h_begin (l : Launch) (hfl : l.flags = pinnedFlags ++ [noTraceFlag]) (D : va_G) (k : Nat → ClassId) (h : Nat → Nat) (sa : Nat → Nat) (sz : Nat) (g : se_G) (p1 : Int32) (p2 : Int32) (hI : p2 = 0 ∨ p2 = 1) : Met l yXL_begin (Cond.codeWith yXL_begin cXL_begin 4 (some .int) [(0, 6, 9, 13)] :: se_all) ({ frames := 7, cells := 1, slots := 6, locals := 113 }) (va_Pc [.ref (h 0), .int p1, .int p2] (se_Pre D se_cl [(k 2, .byte), (k 4, .int), (k 8, .byte), (k 10, .byte)] (se_WS k h g) (xe_ZH sa (va_A (se_WS k h g) sz)) sz)) ((fun A => va_Qi (fun (r : Int32) (u : se_G) => r = (if (F_S_begin g p1 p2).1 = 0 then 0 else if (F_S_begin g p1 p2).1 = 2 then 1 else 2) ∧ u = (F_S_begin g p1 p2).2.2) (fun u t => va_P D se_cl (se_WS k h u) t.heap ∧ va_K D se_cl [(k 2, .byte), (k 4, .int), (k 8, .byte), (k 10, .byte)] t ∧ va_D A (se_WS k h u)) A) (va_A (se_WS k h g) sz)) 1 6 (va_A (se_WS k h g) sz) := by
  refine xe_metW (Qc := fun A => va_Qi (fun (r : Int32) (u : se_G) => r = (if (F_S_begin g p1 p2).1 = 0 then 0 else if (F_S_begin g p1 p2).1 = 2 then 1 else 2) ∧ u = (F_S_begin g p1 p2).2.2) (fun u t => va_P D se_cl (se_WS k h u) t.heap ∧ va_K D se_cl [(k 2, .byte), (k 4, .int), (k 8, .byte), (k 10, .byte)] t ∧ va_D A (se_WS k h u)) A) (Z := xe_ZH sa) (cc := cXL_begin) (maxL := 4) (ret := some .int) (hh := [(0, 6, 9, 13)]) (by decide) rfl (Nat.le_of_ble_eq_true rfl) ?_
  intro p e s m below meth c ls A hx hb hr hts hown hlocks hml htab hA hP hK hD hS hZ hl
  replace hl : lv_has ls 4 [(0, .ref (h 0)), (1, .int p1), (2, .int p2)] := hl
  refine lv_aload_n hx hb dXL_begin_0 rfl (lv_at hl 0 rfl) ?_
  refine lv_iload_n hx hb dXL_begin_1 rfl (lv_at hl 1 rfl) ?_
  refine lv_iload_n hx hb dXL_begin_2 rfl (lv_at hl 2 rfl) ?_
  have hPc := hP.sub (ws' := se_WS k h g) [0, 1, 2, 3, 4, 5, 6, 7, 8, 9, 10] rfl
  have hDc := hD.sub (ws' := se_WS k h g) [0, 1, 2, 3, 4, 5, 6, 7, 8, 9, 10] (by decide) rfl
  have hKc := hK.sub (tys' := [(k 2, .byte), (k 4, .int), (k 8, .byte), (k 10, .byte)]) [0, 1, 2, 3] rfl
  refine xe_cv (wr := []) (xe_runV (C := RX5) (As := [.int p1, .int p2]) (rest := []) ⟨hx, hb, hml, hown, hts⟩ (c_S_begin l hfl D k h sa _ g p1 p2 hI) (se_kV 2 hts q_code_X5_begin qXL_m7 q_ini_StreamEnd q_instanceMethod_X5_begin q_sel_X5_begin (by decide +kernel) ⟨Nat.le_of_ble_eq_true rfl, Nat.le_of_ble_eq_true rfl⟩ rfl rfl) ⟨xe_blind xe_ZNX_c, va_recv hKc hPc (ci := 5) (q0 := 0) rfl rfl, xe_pre hPc hKc hDc (xe_ZH_call hZ hS)⟩ rfl rfl hl.1 rfl (lv_room (Nat.le_of_ble_eq_true rfl)) dXL_begin_3 ⟨Nat.le_of_ble_eq_true rfl, Nat.le_of_ble_eq_true rfl⟩) hP hD hS hA [0, 1, 2, 3, 4, 5, 6, 7, 8, 9, 10] [] rfl rfl (by decide) (by decide) (fun E q ce u H locs hu hP hD hS hq hv hc => ?_) (fun u H locs hu hP hD hS => ?_)
  · have hE : se_x E = (F_S_begin g p1 p2).1 := congrArg Prod.fst hu
    rcases cd_begin g p1 p2 with hw | hw
    · exact absurd (hE.trans hw) se_x0ne
    · have hEn := se_x2of (hE.trans hw)
      subst hEn
      refine xe_catch1 (name := "java/lang/IllegalStateException") hown (htab.trans rfl) (by decide) (by decide) (hts _ (List.mem_cons_of_mem _ qXL_c13)) (va_Nw.use rfl (hZ.1 _ n_cast2 rfl)) hq hv hc ?_
      refine lv_astore_n (lv' := [(3, .ref q), (0, .ref (h 0)), (1, .int p1), (2, .int p2)]) hx hb dXL_begin_9 rfl hl (by decide) rfl (fun ls hl => ?_)
      refine lv_iconst (v := 1) hx hb dXL_begin_10 (by decide) ?_
      replace hP : va_P D se_cl (se_WS k h u) H := hP
      replace hD : va_D A (se_WS k h u) := hD
      exact W.iret (v := 1) hx hb hr (fun t ht hW => ⟨⟨1, u, rfl, ⟨by rw [hw]; decide, congrArg (fun z => z.2.2) hu⟩, by rw [ht]; exact hP, va_K.moved hW.alike hK, hD⟩, hS.F ht⟩) hS.2.2 dXL_begin_11 hlocks
  · have hw : (F_S_begin g p1 p2).1 = 0 := (congrArg Prod.fst hu).symm
    replace hP : va_P D se_cl (se_WS k h u) H := hP
    replace hD : va_D A (se_WS k h u) := hD
    refine lv_goto (tgt := 12) hx hb dXL_begin_6 (by decide) ?_
    refine lv_iconst (v := 0) hx hb dXL_begin_12 (by decide) ?_
    exact W.iret (v := 0) hx hb hr (fun t ht hW => ⟨⟨0, u, rfl, ⟨by rw [hw]; decide, congrArg (fun z => z.2.2) hu⟩, by rw [ht]; exact hP, va_K.moved hW.alike hK, hD⟩, hS.F ht⟩) hS.2.2 dXL_begin_13 hlocks
