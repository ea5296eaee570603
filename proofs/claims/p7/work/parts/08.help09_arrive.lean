/-! written by program (wip/gen) -/
theorem cd_arrive (g : se_G) (p1 : Int32) (p2 : Int32) (p3 : Int32) (p4 : Int32) (p5 : Int32) : (F_S_arrive g p1 p2 p3 p4 p5).1 = 0 ∨ (F_S_arrive g p1 p2 p3 p4 p5).1 = 1 := by
  unfold F_S_arrive F_S_arrive_k1
  repeat' split
  all_goals first | exact Or.inl rfl | exact Or.inr rfl | exact Or.inr (Or.inl rfl) | exact Or.inr (Or.inr rfl) | simp
set_option maxRecDepth 100000 in
set_option maxHeartbeats 4000000 in
theorem h_arrive (l : Launch) (hfl : l.flags = pinnedFlags ++ [noTraceFlag]) (D : va_G) (k : Nat → ClassId) (h : Nat → Nat) (ko : ClassId) (ho : Nat) (sa : Nat → Nat) (sz : Nat) (g : se_G) (f : Nat → Int64) (p1 : Int32) (p2 : Int32) (p3 : Int32) (p4 : Int32) (p5 : Int32) (hI : (g 7 1).toInt ≤ 1460) : Met l yXL_arrive (Cond.codeWith yXL_arrive cXL_arrive 8 (some .int) [(0, 16, 19, 19)] :: se_all) ({ frames := 7, cells := 1, slots := 6, locals := 150 }) (va_Pc [.ref (h 0), .int p1, .int p2, .int p3, .int p4, .int p5, .ref ho] (se_Pre D se_cl [(ko, .long), (k 2, .byte), (k 4, .int), (k 8, .byte), (k 10, .byte)] (xe_Wo ko ho k h f g) (xe_ZH sa (va_A (xe_Wo ko ho k h f g) sz)) sz)) ((fun A => va_Qi (fun (r : Int32) (u : (Nat → Int64) × se_G) => r = (if (F_S_arrive g p1 p2 p3 p4 p5).1 = 0 then 0 else if (F_S_arrive g p1 p2 p3 p4 p5).1 = 1 then 1 else 2) ∧ u.2 = (F_S_arrive g p1 p2 p3 p4 p5).2.2 ∧ u.1 = (if (F_S_arrive g p1 p2 p3 p4 p5).1 = 0 then vp_updL f 0 (Int32.toInt64 (F_S_arrive g p1 p2 p3 p4 p5).2.1) else f)) (fun u t => va_P D se_cl (xe_Wo ko ho k h u.1 u.2) t.heap ∧ va_K D se_cl [(ko, .long), (k 2, .byte), (k 4, .int), (k 8, .byte), (k 10, .byte)] t ∧ va_D A (xe_Wo ko ho k h u.1 u.2)) A) (va_A (xe_Wo ko ho k h f g) sz)) 1 6 (va_A (xe_Wo ko ho k h f g) sz) := by
  refine xe_metW (Qc := fun A => va_Qi (fun (r : Int32) (u : (Nat → Int64) × se_G) => r = (if (F_S_arrive g p1 p2 p3 p4 p5).1 = 0 then 0 else if (F_S_arrive g p1 p2 p3 p4 p5).1 = 1 then 1 else 2) ∧ u.2 = (F_S_arrive g p1 p2 p3 p4 p5).2.2 ∧ u.1 = (if (F_S_arrive g p1 p2 p3 p4 p5).1 = 0 then vp_updL f 0 (Int32.toInt64 (F_S_arrive g p1 p2 p3 p4 p5).2.1) else f)) (fun u t => va_P D se_cl (xe_Wo ko ho k h u.1 u.2) t.heap ∧ va_K D se_cl [(ko, .long), (k 2, .byte), (k 4, .int), (k 8, .byte), (k 10, .byte)] t ∧ va_D A (xe_Wo ko ho k h u.1 u.2)) A) (Z := xe_ZH sa) (cc := cXL_arrive) (maxL := 8) (ret := some .int) (hh := [(0, 16, 19, 19)]) (by decide) rfl (Nat.le_of_ble_eq_true rfl) ?_
  intro p e s m below meth c ls A hx hb hr hts hown hlocks hml htab hA hP hK hD hS hZ hl
  replace hl : lv_has ls 8 [(0, .ref (h 0)), (1, .int p1), (2, .int p2), (3, .int p3), (4, .int p4), (5, .int p5), (6, .ref ho)] := hl
  refine lv_aload hx hb dXL_arrive_0 (lv_at hl 6 rfl) ?_
  refine lv_iconst (v := 0) hx hb dXL_arrive_2 (by decide) ?_
  refine lv_aload_n hx hb dXL_arrive_3 rfl (lv_at hl 0 rfl) ?_
  refine lv_iload_n hx hb dXL_arrive_4 rfl (lv_at hl 1 rfl) ?_
  refine lv_iload_n hx hb dXL_arrive_5 rfl (lv_at hl 2 rfl) ?_
  refine lv_iload_n hx hb dXL_arrive_6 rfl (lv_at hl 3 rfl) ?_
  refine lv_iload hx hb dXL_arrive_7 (lv_at hl 4 rfl) ?_
  refine lv_iload hx hb dXL_arrive_9 (lv_at hl 5 rfl) ?_
  have hPc := hP.sub (ws' := se_WS k h g) [1, 2, 3, 4, 5, 6, 7, 8, 9, 10, 11] rfl
  have hDc := hD.sub (ws' := se_WS k h g) [1, 2, 3, 4, 5, 6, 7, 8, 9, 10, 11] (by decide) rfl
  have hKc := hK.sub (tys' := [(k 2, .byte), (k 4, .int), (k 8, .byte), (k 10, .byte)]) [1, 2, 3, 4] rfl
  refine xe_ci (wr := [(ho, .inl (ko, 1, .inr (.inl f)))]) (xe_runV (C := RX5) (As := [.int p1, .int p2, .int p3, .int p4, .int p5]) (rest := [.int 0, .ref ho]) ⟨hx, hb, hml, hown, hts⟩ (c_S_arrive l hfl D k h sa _ g p1 p2 p3 p4 p5 hI) (se_kV 5 hts q_code_X5_arrive qXL_m46 q_ini_StreamEnd q_instanceMethod_X5_arrive q_sel_X5_arrive (by decide +kernel) ⟨Nat.le_of_ble_eq_true rfl, Nat.le_of_ble_eq_true rfl⟩ rfl rfl) ⟨xe_blind xe_ZNX_c, va_recv hKc hPc (ci := 5) (q0 := 0) rfl rfl, xe_pre hPc hKc hDc (xe_ZH_call hZ hS)⟩ rfl rfl hl.1 rfl (lv_room (Nat.le_of_ble_eq_true rfl)) dXL_arrive_11 ⟨Nat.le_of_ble_eq_true rfl, Nat.le_of_ble_eq_true rfl⟩) hP hD hS hA [1, 2, 3, 4, 5, 6, 7, 8, 9, 10, 11] [0] rfl rfl (by decide) (by decide) (fun E q ce u H locs hu hP hD hS hq hv hc => ?_) (fun r u H locs hu hP hD hS => ?_)
  · have hE : se_x E = (F_S_arrive g p1 p2 p3 p4 p5).1 := congrArg Prod.fst hu
    rcases cd_arrive g p1 p2 p3 p4 p5 with hw | hw
    · exact absurd (hE.trans hw) se_x0ne
    · have hEn := se_x1of (hE.trans hw)
      subst hEn
      refine xe_catch1 (name := "java/lang/IllegalArgumentException") hown (htab.trans rfl) (by decide) (by decide) (hts _ (List.mem_cons_of_mem _ qXL_c19)) (va_Nw.use rfl (hZ.1 _ n_cast1 rfl)) hq hv hc ?_
      refine lv_astore (lv' := [(7, .ref q), (0, .ref (h 0)), (1, .int p1), (2, .int p2), (3, .int p3), (4, .int p4), (5, .int p5), (6, .ref ho)]) hx hb dXL_arrive_19 hl (by decide) rfl (fun ls hl => ?_)
      refine lv_iconst (v := 1) hx hb dXL_arrive_21 (by decide) ?_
      replace hP : va_P D se_cl (xe_Wo ko ho k h f u) H := hP
      replace hD : va_D A (xe_Wo ko ho k h f u) := hD
      exact W.iret (v := 1) hx hb hr (fun t ht hW => ⟨⟨1, (f, u), rfl, ⟨by rw [hw]; decide, congrArg (fun z => z.2.2) hu, by rw [if_neg (by rw [hw]; decide)]⟩, by rw [ht]; exact hP, va_K.moved hW.alike hK, hD⟩, hS.F ht⟩) hS.2.2 dXL_arrive_22 hlocks
  · have hw : (F_S_arrive g p1 p2 p3 p4 p5).1 = 0 := (congrArg Prod.fst hu).symm
    replace hP : va_P D se_cl (xe_Wo ko ho k h f u) H := hP
    replace hD : va_D A (xe_Wo ko ho k h f u) := hD
    refine lv_i2l (v := Int32.toInt64 r) hx hb dXL_arrive_14 rfl ?_
    refine va_last hx hb hK hP hD hS 0 0 rfl rfl (se_inN (N := 1) (by decide) (by decide) (by decide)) dXL_arrive_15 (fun H locs hP hD hS => ?_)
    replace hP : va_P D se_cl (xe_Wo ko ho k h (vp_updL f 0 (Int32.toInt64 r)) u) H := hP
    replace hD : va_D A (xe_Wo ko ho k h (vp_updL f 0 (Int32.toInt64 r)) u) := hD
    refine lv_goto (tgt := 23) hx hb dXL_arrive_16 (by decide) ?_
    refine lv_iconst (v := 0) hx hb dXL_arrive_23 (by decide) ?_
    exact W.iret (v := 0) hx hb hr (fun t ht hW => ⟨⟨0, ((vp_updL f 0 (Int32.toInt64 r)), u), rfl, ⟨by rw [hw]; decide, congrArg (fun z => z.2.2) hu, by rw [if_pos hw, ← hu]⟩, by rw [ht]; exact hP, va_K.moved hW.alike hK, hD⟩, hS.F ht⟩) hS.2.2 dXL_arrive_24 hlocks
