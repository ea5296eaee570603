/-! written by program (wip/gen) -/
set_option maxRecDepth 100000 in
set_option maxHeartbeats 4000000 in
theorem c_M_greet (l : Launch) (D : va_G) (k : Nat → ClassId) (h : Nat → Nat) (sz : Nat) (g : se_G) (p1 : Int32) (p2 : Int32) (p3 : Int32) (p4 : Int32) (p5 : Int32) : Met l yX6_greet (se_w_X6_greet) ({ frames := 1, cells := 0, slots := 0, locals := 21 }) (va_Pc [.ref (h 0), .int p1, .int p2, .int p3, .int p4, .int p5] (se_Pre D se_cl [(k 1, .int), (k 2, .int), (k 3, .boolean), (k 4, .int), (k 5, .int), (k 6, .int)] (se_WM k h g) se_ZN sz)) (se_Qv D se_cl [(k 1, .int), (k 2, .int), (k 3, .boolean), (k 4, .int), (k 5, .int), (k 6, .int)] (se_WM k h) (F_M_greet g p1 p2 p3 p4 p5) (va_A (se_WM k h g) sz)) 0 0 (va_A (se_WM k h g) sz) := by
  refine se_met (Qc := se_Qv D se_cl [(k 1, .int), (k 2, .int), (k 3, .boolean), (k 4, .int), (k 5, .int), (k 6, .int)] (se_WM k h) (F_M_greet g p1 p2 p3 p4 p5)) (cc := cX6_greet) (maxL := 7) (ret := none) (by decide) rfl (Nat.le_of_ble_eq_true rfl) ?_
  intro p e s m below meth c ls A hx hb hr hts hown hlocks hml hA hP hK hD hS hZ hl
  replace hl : lv_has ls 7 [(0, .ref (h 0)), (1, .int p1), (2, .int p2), (3, .int p3), (4, .int p4), (5, .int p5)] := hl
  have hF : F_M_greet g p1 p2 p3 p4 p5 = F_M_greet g p1 p2 p3 p4 p5 := rfl
  refine lv_aload_n hx hb dX6_greet_0 rfl (lv_at hl 0 rfl) ?_
  refine lv_iconst (v := 1) hx hb dX6_greet_1 (by decide) ?_
  refine va_put (D := D) (ci := 6) (v := .int 1) (ty := .boolean) (C := RX6) (T := TX6) (N := 50) hx hb hts (se_iw iwX6) tyX6 tyX6_ok nmX6 hown hK hP hD hS 0 rfl rfl 7 (by decide) (hts _ (List.mem_cons_of_mem _ qX6_f72)) (fun _ h9 => h9) rfl (by decide +kernel) rfl rfl (Nat.le_of_ble_eq_true rfl) dX6_greet_2 (fun H locs hP hD hS => ?_)
  replace hP : va_P D se_cl (se_WM k h (se_u g 0 7 1)) H := hP
  replace hD : va_D A (se_WM k h (se_u g 0 7 1)) := hD
  refine lv_aload_n hx hb dX6_greet_5 rfl (lv_at hl 0 rfl) ?_
  refine lv_iload_n hx hb dX6_greet_6 rfl (lv_at hl 2 rfl) ?_
  refine lv_iconst (v := 1) hx hb dX6_greet_7 (by decide) ?_
  refine lv_iadd hx hb dX6_greet_8 ?_
  refine va_put (D := D) (ci := 6) (v := .int (p2 + 1)) (ty := .int) (C := RX6) (T := TX6) (N := 50) hx hb hts (se_iw iwX6) tyX6 tyX6_ok nmX6 hown hK hP hD hS 0 rfl rfl 21 (by decide) (hts _ (List.mem_cons_of_mem _ qX6_f69)) (fun _ h9 => h9) rfl (by decide +kernel) rfl rfl (Nat.le_of_ble_eq_true rfl) dX6_greet_9 (fun H locs hP hD hS => ?_)
  replace hP : va_P D se_cl (se_WM k h (se_u (se_u g 0 7 1) 0 21 (p2 + 1))) H := hP
  replace hD : va_D A (se_WM k h (se_u (se_u g 0 7 1) 0 21 (p2 + 1))) := hD
  refine lv_iload hx hb dX6_greet_12 (lv_at hl 5 rfl) ?_
  refine se_join (v := ((if p5 = 0 then 536 else p5) : Int32)) (pcJ := 25) (restJ := []) (ls := ls) (fun T => ?_) ?_
  · refine lv_if_ne (tgt := 23) hx hb dX6_greet_14 (by decide) (fun c2 => ?_) (fun c2 => ?_)
    · refine lv_iload hx hb dX6_greet_23 (lv_at hl 5 rfl) ?_
      exact T _ (mo_ifn c2 rfl)
    · refine lv_sipush (v := 536) hx hb dX6_greet_17 (by decide) ?_
      refine lv_goto (tgt := 25) hx hb dX6_greet_20 (by decide) ?_
      exact T _ (mo_ifp c2 rfl)
  refine lv_istore (lv' := [(6, .int ((if p5 = 0 then 536 else p5) : Int32)), (0, .ref (h 0)), (1, .int p1), (2, .int p2), (3, .int p3), (4, .int p4), (5, .int p5)]) hx hb dX6_greet_25 hl (by decide) rfl (fun ls hl => ?_)
  refine lv_aload_n hx hb dX6_greet_27 rfl (lv_at hl 1 rfl) ?_
  refine lv_iload hx hb dX6_greet_28 (lv_at hl 0 rfl) ?_
  refine lv_aload_n hx hb dX6_greet_30 rfl (lv_at hl 1 rfl) ?_
  refine va_get (D := D) (ci := 6) (v := .int (g 0 0)) (C := RX6) (T := TX6) (N := 50) hx hb hts (se_iw iwX6) hown hK hP 0 rfl rfl 0 (by decide) (hts _ (List.mem_cons_of_mem _ qX6_f36)) (fun _ h9 => h9) rfl dX6_greet_31 ?_
  refine se_join (v := ((if (g 0 0) ≤ ((if p5 = 0 then 536 else p5) : Int32) then (g 0 0) else ((if p5 = 0 then 536 else p5) : Int32)) : Int32)) (pcJ := 46) (restJ := [.ref (h 0)]) (ls := ls) (fun T => ?_) ?_
  · refine lv_icmp_ge (tgt := 42) hx hb dX6_greet_34 (by decide) (fun c4 => ?_) (fun c4 => ?_)
    · refine lv_aload_n hx hb dX6_greet_42 rfl (lv_at hl 1 rfl) ?_
      refine va_get (D := D) (ci := 6) (v := .int (g 0 0)) (C := RX6) (T := TX6) (N := 50) hx hb hts (se_iw iwX6) hown hK hP 0 rfl rfl 0 (by decide) (hts _ (List.mem_cons_of_mem _ qX6_f36)) (fun _ h9 => h9) rfl dX6_greet_43 ?_
      exact T _ (mo_ifp c4 rfl)
    · refine lv_iload hx hb dX6_greet_37 (lv_at hl 0 rfl) ?_
      refine lv_goto (tgt := 46) hx hb dX6_greet_39 (by decide) ?_
      exact T _ (mo_ifn c4 rfl)
  refine va_put (D := D) (ci := 6) (v := .int ((if (g 0 0) ≤ ((if p5 = 0 then 536 else p5) : Int32) then (g 0 0) else ((if p5 = 0 then 536 else p5) : Int32)) : Int32)) (ty := .int) (C := RX6) (T := TX6) (N := 50) hx hb hts (se_iw iwX6) tyX6 tyX6_ok nmX6 hown hK hP hD hS 0 rfl rfl 11 (by decide) (hts _ (List.mem_cons_of_mem _ qX6_f42)) (fun _ h9 => h9) rfl (by decide +kernel) rfl rfl (Nat.le_of_ble_eq_true rfl) dX6_greet_46 (fun H locs hP hD hS => ?_)
  replace hP : va_P D se_cl (se_WM k h (se_u (se_u (se_u g 0 7 1) 0 21 (p2 + 1)) 0 11 ((if (g 0 0) ≤ ((if p5 = 0 then 536 else p5) : Int32) then (g 0 0) else ((if p5 = 0 then 536 else p5) : Int32)) : Int32))) H := hP
  replace hD : va_D A (se_WM k h (se_u (se_u (se_u g 0 7 1) 0 21 (p2 + 1)) 0 11 ((if (g 0 0) ≤ ((if p5 = 0 then 536 else p5) : Int32) then (g 0 0) else ((if p5 = 0 then 536 else p5) : Int32)) : Int32))) := hD
  refine lv_aload_n hx hb dX6_greet_49 rfl (lv_at hl 1 rfl) ?_
  refine lv_iload hx hb dX6_greet_50 (lv_at hl 5 rfl) ?_
  refine va_put (D := D) (ci := 6) (v := .int p4) (ty := .int) (C := RX6) (T := TX6) (N := 50) hx hb hts (se_iw iwX6) tyX6 tyX6_ok nmX6 hown hK hP hD hS 0 rfl rfl 15 (by decide) (hts _ (List.mem_cons_of_mem _ qX6_f63)) (fun _ h9 => h9) rfl (by decide +kernel) rfl rfl (Nat.le_of_ble_eq_true rfl) dX6_greet_52 (fun H locs hP hD hS => ?_)
  replace hP : va_P D se_cl (se_WM k h (se_u (se_u (se_u (se_u g 0 7 1) 0 21 (p2 + 1)) 0 11 ((if (g 0 0) ≤ ((if p5 = 0 then 536 else p5) : Int32) then (g 0 0) else ((if p5 = 0 then 536 else p5) : Int32)) : Int32)) 0 15 p4)) H := hP
  replace hD : va_D A (se_WM k h (se_u (se_u (se_u (se_u g 0 7 1) 0 21 (p2 + 1)) 0 11 ((if (g 0 0) ≤ ((if p5 = 0 then 536 else p5) : Int32) then (g 0 0) else ((if p5 = 0 then 536 else p5) : Int32)) : Int32)) 0 15 p4)) := hD
  refine lv_aload_n hx hb dX6_greet_55 rfl (lv_at hl 1 rfl) ?_
  refine lv_iload_n hx hb dX6_greet_56 rfl (lv_at hl 3 rfl) ?_
  refine va_put (D := D) (ci := 6) (v := .int p2) (ty := .int) (C := RX6) (T := TX6) (N := 50) hx hb hts (se_iw iwX6) tyX6 tyX6_ok nmX6 hown hK hP hD hS 0 rfl rfl 16 (by decide) (hts _ (List.mem_cons_of_mem _ qX6_f186)) (fun _ h9 => h9) rfl (by decide +kernel) rfl rfl (Nat.le_of_ble_eq_true rfl) dX6_greet_57 (fun H locs hP hD hS => ?_)
  replace hP : va_P D se_cl (se_WM k h (se_u (se_u (se_u (se_u (se_u g 0 7 1) 0 21 (p2 + 1)) 0 11 ((if (g 0 0) ≤ ((if p5 = 0 then 536 else p5) : Int32) then (g 0 0) else ((if p5 = 0 then 536 else p5) : Int32)) : Int32)) 0 15 p4) 0 16 p2)) H := hP
  replace hD : va_D A (se_WM k h (se_u (se_u (se_u (se_u (se_u g 0 7 1) 0 21 (p2 + 1)) 0 11 ((if (g 0 0) ≤ ((if p5 = 0 then 536 else p5) : Int32) then (g 0 0) else ((if p5 = 0 then 536 else p5) : Int32)) : Int32)) 0 15 p4) 0 16 p2)) := hD
  refine lv_aload_n hx hb dX6_greet_60 rfl (lv_at hl 1 rfl) ?_
  refine lv_iload_n hx hb dX6_greet_61 rfl (lv_at hl 2 rfl) ?_
  refine lv_bipush (v := 8) hx hb dX6_greet_62 (by decide) ?_
  refine se_cp (va_runS (As := [.int p1, .int 8]) (rest := [.ref (h 0)]) ⟨hx, hb, hml, hown, hts⟩ (c_M_has l D k h _ (se_u (se_u (se_u (se_u (se_u g 0 7 1) 0 21 (p2 + 1)) 0 11 ((if (g 0 0) ≤ ((if p5 = 0 then 536 else p5) : Int32) then (g 0 0) else ((if p5 = 0 then 536 else p5) : Int32)) : Int32)) 0 15 p4) 0 16 p2) p1 8) (se_kS 2 hts q_code_X6_has qX6_m178 q_ini_StreamEndModel q_static_X6_has (by decide +kernel) ⟨Nat.le_of_ble_eq_true rfl, Nat.le_of_ble_eq_true rfl⟩ rfl rfl) ⟨se_blind se_ZN_ok, se_pre se_ZN_ok hP hK hD hZ⟩ rfl rfl hl.1 rfl (lv_room (Nat.le_of_ble_eq_true rfl)) dX6_greet_64 ⟨Nat.zero_le _, Nat.zero_le _⟩) ?_
  refine se_join (v := ((if (F_M_has p1 8) = 0 then (g 0 8) else p3) : Int32)) (pcJ := 78) (restJ := [.ref (h 0)]) (ls := ls) (fun T => ?_) ?_
  · refine lv_if_eq (tgt := 74) hx hb dX6_greet_67 (by decide) (fun c6 => ?_) (fun c6 => ?_)
    · refine lv_aload_n hx hb dX6_greet_74 rfl (lv_at hl 1 rfl) ?_
      refine va_get (D := D) (ci := 6) (v := .int (g 0 8)) (C := RX6) (T := TX6) (N := 50) hx hb hts (se_iw iwX6) hown hK hP 0 rfl rfl 8 (by decide) (hts _ (List.mem_cons_of_mem _ qX6_f48)) (fun _ h9 => h9) rfl dX6_greet_75 ?_
      exact T _ (mo_ifp c6 rfl)
    · refine lv_iload_n hx hb dX6_greet_70 rfl (lv_at hl 4 rfl) ?_
      refine lv_goto (tgt := 78) hx hb dX6_greet_71 (by decide) ?_
      exact T _ (mo_ifn c6 rfl)
  refine va_put (D := D) (ci := 6) (v := .int ((if (F_M_has p1 8) = 0 then (g 0 8) else p3) : Int32)) (ty := .int) (C := RX6) (T := TX6) (N := 50) hx hb hts (se_iw iwX6) tyX6 tyX6_ok nmX6 hown hK hP hD hS 0 rfl rfl 17 (by decide) (hts _ (List.mem_cons_of_mem _ qX6_f189)) (fun _ h9 => h9) rfl (by decide +kernel) rfl rfl (Nat.le_of_ble_eq_true rfl) dX6_greet_78 (fun H locs hP hD hS => ?_)
  replace hP : va_P D se_cl (se_WM k h (se_u (se_u (se_u (se_u (se_u (se_u g 0 7 1) 0 21 (p2 + 1)) 0 11 ((if (g 0 0) ≤ ((if p5 = 0 then 536 else p5) : Int32) then (g 0 0) else ((if p5 = 0 then 536 else p5) : Int32)) : Int32)) 0 15 p4) 0 16 p2) 0 17 ((if (F_M_has p1 8) = 0 then (g 0 8) else p3) : Int32))) H := hP
  replace hD : va_D A (se_WM k h (se_u (se_u (se_u (se_u (se_u (se_u g 0 7 1) 0 21 (p2 + 1)) 0 11 ((if (g 0 0) ≤ ((if p5 = 0 then 536 else p5) : Int32) then (g 0 0) else ((if p5 = 0 then 536 else p5) : Int32)) : Int32)) 0 15 p4) 0 16 p2) 0 17 ((if (F_M_has p1 8) = 0 then (g 0 8) else p3) : Int32))) := hD
  exact se_rv hx hb hr hlocks hK hP hD hS dX6_greet_81 (by rw [F_M_greet])
set_option maxRecDepth 100000 in
set_option maxHeartbeats 4000000 in
theorem c_M_toAsking (l : Launch) (D : va_G) (k : Nat → ClassId) (h : Nat → Nat) (sz : Nat) (g : se_G) (p1 : Int32) (p2 : Int32) (p3 : Int32) (p4 : Int32) (p5 : Int32) (hI : 0 ≤ (g 0 13).toInt ∧ (g 0 13).toInt ≤ 2048) : Met l yX6_toAsking (se_w_X6_toAsking) ({ frames := 3, cells := 0, slots := 0, locals := 66 }) (va_Pc [.ref (h 0), .int p1, .int p2, .int p3, .int p4, .int p5] (se_Pre D se_cl [(k 1, .int), (k 2, .int), (k 3, .boolean), (k 4, .int), (k 5, .int), (k 6, .int)] (se_WM k h g) se_ZN sz)) (se_Qv D se_cl [(k 1, .int), (k 2, .int), (k 3, .boolean), (k 4, .int), (k 5, .int), (k 6, .int)] (se_WM k h) (F_M_toAsking g p1 p2 p3 p4 p5) (va_A (se_WM k h g) sz)) 0 0 (va_A (se_WM k h g) sz) := by
  refine se_met (Qc := se_Qv D se_cl [(k 1, .int), (k 2, .int), (k 3, .boolean), (k 4, .int), (k 5, .int), (k 6, .int)] (se_WM k h) (F_M_toAsking g p1 p2 p3 p4 p5)) (cc := cX6_toAsking) (maxL := 7) (ret := none) (by decide) rfl (Nat.le_of_ble_eq_true rfl) ?_
  intro p e s m below meth c ls A hx hb hr hts hown hlocks hml hA hP hK hD hS hZ hl
  replace hl : lv_has ls 7 [(0, .ref (h 0)), (1, .int p1), (2, .int p2), (3, .int p3), (4, .int p4), (5, .int p5)] := hl
  have J31 : ∀ (gj31 : se_G) (v1_31 : Int32) (v2_31 : Int32) (v3_31 : Int32) (v4_31 : Int32) (v5_31 : Int32) (v6_31 : Int32) (H : Heap) (locs : List Loc) (ls : Array Slot), (0 ≤ (gj31 0 13).toInt ∧ (gj31 0 13).toInt ≤ 2048) → F_M_toAsking_j31 gj31 v1_31 v2_31 v3_31 v4_31 v5_31 v6_31 = F_M_toAsking g p1 p2 p3 p4 p5 → va_P D se_cl (se_WM k h gj31) H → va_D A (se_WM k h gj31) → va_S A s.heap H locs → lv_has ls 7 [(0, .ref (h 0)), (1, .int v1_31), (2, .int v2_31), (3, .int v3_31), (4, .int v4_31), (5, .int v5_31), (6, .int v6_31)] → W p l e ({ frames := 3, cells := 0, slots := 0, locals := 66 }) s m [.ref (h 0), .int p1, .int p2, .int p3, .int p4, .int p5].toArray below meth c H locs 0 0 (MQ below (se_Qv D se_cl [(k 1, .int), (k 2, .int), (k 3, .boolean), (k 4, .int), (k 5, .int), (k 6, .int)] (se_WM k h) (F_M_toAsking g p1 p2 p3 p4 p5) A) [.ref (h 0), .int p1, .int p2, .int p3, .int p4, .int p5].toArray s 0 0 A) (F0 m 31 ls []) := by
    intro gj31 v1_31 v2_31 v3_31 v4_31 v5_31 v6_31 H locs ls hI hF hP hD hS hl
    refine lv_iload_n hx hb dX6_toAsking_31 rfl (lv_at hl 1 rfl) ?_
    refine lv_iconst (v := 4) hx hb dX6_toAsking_32 (by decide) ?_
    refine se_cp (va_runS (As := [.int v1_31, .int 4]) (rest := []) ⟨hx, hb, hml, hown, hts⟩ (c_M_has l D k h _ gj31 v1_31 4) (se_kS 2 hts q_code_X6_has qX6_m178 q_ini_StreamEndModel q_static_X6_has (by decide +kernel) ⟨Nat.le_of_ble_eq_true rfl, Nat.le_of_ble_eq_true rfl⟩ rfl rfl) ⟨se_blind se_ZN_ok, se_pre se_ZN_ok hP hK hD hZ⟩ rfl rfl hl.1 rfl (lv_room (Nat.le_of_ble_eq_true rfl)) dX6_toAsking_33 ⟨Nat.zero_le _, Nat.zero_le _⟩) ?_
    refine lv_if_eq (tgt := 53) hx hb dX6_toAsking_36 (by decide) (fun c2 => ?_) (fun c2 => ?_)
    · refine lv_iload_n hx hb dX6_toAsking_53 rfl (lv_at hl 1 rfl) ?_
      refine lv_iconst (v := 1) hx hb dX6_toAsking_54 (by decide) ?_
      refine se_cp (va_runS (As := [.int v1_31, .int 1]) (rest := []) ⟨hx, hb, hml, hown, hts⟩ (c_M_has l D k h _ gj31 v1_31 1) (se_kS 2 hts q_code_X6_has qX6_m178 q_ini_StreamEndModel q_static_X6_has (by decide +kernel) ⟨Nat.le_of_ble_eq_true rfl, Nat.le_of_ble_eq_true rfl⟩ rfl rfl) ⟨se_blind se_ZN_ok, se_pre se_ZN_ok hP hK hD hZ⟩ rfl rfl hl.1 rfl (lv_room (Nat.le_of_ble_eq_true rfl)) dX6_toAsking_55 ⟨Nat.zero_le _, Nat.zero_le _⟩) ?_
      refine lv_if_eq (tgt := 110) hx hb dX6_toAsking_58 (by decide) (fun c3 => ?_) (fun c3 => ?_)
      · exact se_rv hx hb hr hlocks hK hP hD hS dX6_toAsking_110 (by rw [← hF, F_M_toAsking_j31, if_pos (α := se_G) c2, if_pos (α := se_G) c3])
      · refine lv_aload_n hx hb dX6_toAsking_61 rfl (lv_at hl 0 rfl) ?_
        refine lv_iload_n hx hb dX6_toAsking_62 rfl (lv_at hl 1 rfl) ?_
        refine lv_iload_n hx hb dX6_toAsking_63 rfl (lv_at hl 2 rfl) ?_
        refine lv_iload_n hx hb dX6_toAsking_64 rfl (lv_at hl 3 rfl) ?_
        refine lv_iload hx hb dX6_toAsking_65 (lv_at hl 4 rfl) ?_
        refine lv_iload hx hb dX6_toAsking_67 (lv_at hl 5 rfl) ?_
        refine se_cvE (va_runV (C := RX6) (As := [.int v1_31, .int v2_31, .int v3_31, .int v4_31, .int v5_31]) (rest := []) ⟨hx, hb, hml, hown, hts⟩ (c_M_greet l D k h _ gj31 v1_31 v2_31 v3_31 v4_31 v5_31) (se_kV 5 hts q_code_X6_greet qX6_m196 q_ini_StreamEndModel q_instanceMethod_X6_greet q_sel_X6_greet (by decide +kernel) ⟨Nat.le_of_ble_eq_true rfl, Nat.le_of_ble_eq_true rfl⟩ rfl rfl) ⟨se_blind se_ZN_ok, va_recv hK hP (ci := 6) (q0 := 0) rfl rfl, se_pre se_ZN_ok hP hK hD hZ⟩ rfl rfl hl.1 rfl (lv_room (Nat.le_of_ble_eq_true rfl)) dX6_toAsking_69 ⟨Nat.zero_le _, Nat.zero_le _⟩) hD hS hA (fun g1 H locs eg1 hP hD hS => ?_)
        replace hF : (F_M_toAsking_k1 v6_31 (F_M_greet gj31 v1_31 v2_31 v3_31 v4_31 v5_31) v3_31) = F_M_toAsking g p1 p2 p3 p4 p5 := by rw [← hF, F_M_toAsking_j31, if_pos (α := se_G) c2, if_neg (α := se_G) c3]
        rw [← eg1] at hF
        replace hF : F_M_toAsking_k1 v6_31 g1 v3_31 = F_M_toAsking g p1 p2 p3 p4 p5 := hF
        replace hI : 0 ≤ (g1 0 13).toInt ∧ (g1 0 13).toInt ≤ 2048 := by rw [eg1]; exact hI
        refine lv_iload hx hb dX6_toAsking_72 (lv_at hl 6 rfl) ?_
        refine lv_if_eq (tgt := 100) hx hb dX6_toAsking_74 (by decide) (fun c4 => ?_) (fun c4 => ?_)
        · refine lv_aload_n hx hb dX6_toAsking_100 rfl (lv_at hl 0 rfl) ?_
          refine lv_iconst (v := 3) hx hb dX6_toAsking_101 (by decide) ?_
          refine va_put (D := D) (ci := 6) (v := .int 3) (ty := .int) (C := RX6) (T := TX6) (N := 50) hx hb hts (se_iw iwX6) tyX6 tyX6_ok nmX6 hown hK hP hD hS 0 rfl rfl 4 (by decide) (hts _ (List.mem_cons_of_mem _ qX6_f118)) (fun _ h9 => h9) rfl (by decide +kernel) rfl rfl (Nat.le_of_ble_eq_true rfl) dX6_toAsking_102 (fun H locs hP hD hS => ?_)
          replace hP : va_P D se_cl (se_WM k h (se_u g1 0 4 3)) H := hP
          replace hD : va_D A (se_WM k h (se_u g1 0 4 3)) := hD
          refine lv_aload_n hx hb dX6_toAsking_105 rfl (lv_at hl 0 rfl) ?_
          refine lv_iconst (v := 1) hx hb dX6_toAsking_106 (by decide) ?_
          refine va_put (D := D) (ci := 6) (v := .int 1) (ty := .boolean) (C := RX6) (T := TX6) (N := 50) hx hb hts (se_iw iwX6) tyX6 tyX6_ok nmX6 hown hK hP hD hS 0 rfl rfl 29 (by decide) (hts _ (List.mem_cons_of_mem _ qX6_f103)) (fun _ h9 => h9) rfl (by decide +kernel) rfl rfl (Nat.le_of_ble_eq_true rfl) dX6_toAsking_107 (fun H locs hP hD hS => ?_)
          replace hP : va_P D se_cl (se_WM k h (se_u (se_u g1 0 4 3) 0 29 1)) H := hP
          replace hD : va_D A (se_WM k h (se_u (se_u g1 0 4 3) 0 29 1)) := hD
          exact se_rv hx hb hr hlocks hK hP hD hS dX6_toAsking_110 (by rw [← hF, F_M_toAsking_k1, if_pos (α := se_G) c4])
        · refine lv_aload_n hx hb dX6_toAsking_77 rfl (lv_at hl 0 rfl) ?_
          refine lv_iconst (v := 4) hx hb dX6_toAsking_78 (by decide) ?_
          refine va_put (D := D) (ci := 6) (v := .int 4) (ty := .int) (C := RX6) (T := TX6) (N := 50) hx hb hts (se_iw iwX6) tyX6 tyX6_ok nmX6 hown hK hP hD hS 0 rfl rfl 4 (by decide) (hts _ (List.mem_cons_of_mem _ qX6_f118)) (fun _ h9 => h9) rfl (by decide +kernel) rfl rfl (Nat.le_of_ble_eq_true rfl) dX6_toAsking_79 (fun H locs hP hD hS => ?_)
          replace hP : va_P D se_cl (se_WM k h (se_u g1 0 4 4)) H := hP
          replace hD : va_D A (se_WM k h (se_u g1 0 4 4)) := hD
          refine lv_aload_n hx hb dX6_toAsking_82 rfl (lv_at hl 0 rfl) ?_
          refine lv_iconst (v := 0) hx hb dX6_toAsking_83 (by decide) ?_
          refine va_put (D := D) (ci := 6) (v := .int 0) (ty := .boolean) (C := RX6) (T := TX6) (N := 50) hx hb hts (se_iw iwX6) tyX6 tyX6_ok nmX6 hown hK hP hD hS 0 rfl rfl 29 (by decide) (hts _ (List.mem_cons_of_mem _ qX6_f103)) (fun _ h9 => h9) rfl (by decide +kernel) rfl rfl (Nat.le_of_ble_eq_true rfl) dX6_toAsking_84 (fun H locs hP hD hS => ?_)
          replace hP : va_P D se_cl (se_WM k h (se_u (se_u g1 0 4 4) 0 29 0)) H := hP
          replace hD : va_D A (se_WM k h (se_u (se_u g1 0 4 4) 0 29 0)) := hD
          refine lv_aload_n hx hb dX6_toAsking_87 rfl (lv_at hl 0 rfl) ?_
          refine lv_iload_n hx hb dX6_toAsking_88 rfl (lv_at hl 3 rfl) ?_
          refine se_cvE (va_runV (C := RX6) (As := [.int v3_31]) (rest := []) ⟨hx, hb, hml, hown, hts⟩ (c_M_thanked l D k h _ (se_u (se_u g1 0 4 4) 0 29 0) v3_31 hI) (se_kV 1 hts q_code_X6_thanked qX6_m200 q_ini_StreamEndModel q_instanceMethod_X6_thanked q_sel_X6_thanked (by decide +kernel) ⟨Nat.le_of_ble_eq_true rfl, Nat.le_of_ble_eq_true rfl⟩ rfl rfl) ⟨se_blind se_ZN_ok, va_recv hK hP (ci := 6) (q0 := 0) rfl rfl, se_pre se_ZN_ok hP hK hD hZ⟩ rfl rfl hl.1 rfl (lv_room (Nat.le_of_ble_eq_true rfl)) dX6_toAsking_89 ⟨Nat.zero_le _, Nat.zero_le _⟩) hD hS hA (fun g2 H locs eg2 hP hD hS => ?_)
          refine lv_aload_n hx hb dX6_toAsking_92 rfl (lv_at hl 0 rfl) ?_
          refine lv_iconst (v := 1) hx hb dX6_toAsking_93 (by decide) ?_
          refine va_put (D := D) (ci := 6) (v := .int 1) (ty := .boolean) (C := RX6) (T := TX6) (N := 50) hx hb hts (se_iw iwX6) tyX6 tyX6_ok nmX6 hown hK hP hD hS 0 rfl rfl 33 (by decide) (hts _ (List.mem_cons_of_mem _ qX6_f112)) (fun _ h9 => h9) rfl (by decide +kernel) rfl rfl (Nat.le_of_ble_eq_true rfl) dX6_toAsking_94 (fun H locs hP hD hS => ?_)
          replace hP : va_P D se_cl (se_WM k h (se_u g2 0 33 1)) H := hP
          replace hD : va_D A (se_WM k h (se_u g2 0 33 1)) := hD
          refine lv_goto (tgt := 110) hx hb dX6_toAsking_97 (by decide) ?_
          exact se_rv hx hb hr hlocks hK hP hD hS dX6_toAsking_110 (by subst eg2; rw [← hF, F_M_toAsking_k1, if_neg (α := se_G) c4])
    · refine lv_iload hx hb dX6_toAsking_39 (lv_at hl 6 rfl) ?_
      refine lv_if_eq (tgt := 110) hx hb dX6_toAsking_41 (by decide) (fun c5 => ?_) (fun c5 => ?_)
      · exact se_rv hx hb hr hlocks hK hP hD hS dX6_toAsking_110 (by rw [← hF, F_M_toAsking_j31, if_neg (α := se_G) c2, if_pos (α := se_G) c5])
      · refine lv_aload_n hx hb dX6_toAsking_44 rfl (lv_at hl 0 rfl) ?_
        refine lv_bipush (v := 11) hx hb dX6_toAsking_45 (by decide) ?_
        refine se_cvE (va_runV (C := RX6) (As := [.int 11]) (rest := []) ⟨hx, hb, hml, hown, hts⟩ (c_M_becomes l D k h _ gj31 11) (se_kV 1 hts q_code_X6_becomes qX6_m147 q_ini_StreamEndModel q_instanceMethod_X6_becomes q_sel_X6_becomes (by decide +kernel) ⟨Nat.le_of_ble_eq_true rfl, Nat.le_of_ble_eq_true rfl⟩ rfl rfl) ⟨se_blind se_ZN_ok, va_recv hK hP (ci := 6) (q0 := 0) rfl rfl, se_pre se_ZN_ok hP hK hD hZ⟩ rfl rfl hl.1 rfl (lv_room (Nat.le_of_ble_eq_true rfl)) dX6_toAsking_47 ⟨Nat.zero_le _, Nat.zero_le _⟩) hD hS hA (fun g3 H locs eg3 hP hD hS => ?_)
        refine lv_goto (tgt := 110) hx hb dX6_toAsking_50 (by decide) ?_
        exact se_rv hx hb hr hlocks hK hP hD hS dX6_toAsking_110 (by subst eg3; rw [← hF, F_M_toAsking_j31, if_neg (α := se_G) c2, if_neg (α := se_G) c5])
  have hF : F_M_toAsking g p1 p2 p3 p4 p5 = F_M_toAsking g p1 p2 p3 p4 p5 := rfl
  refine lv_iload_n hx hb dX6_toAsking_0 rfl (lv_at hl 1 rfl) ?_
  refine lv_bipush (v := 8) hx hb dX6_toAsking_1 (by decide) ?_
  refine se_cp (va_runS (As := [.int p1, .int 8]) (rest := []) ⟨hx, hb, hml, hown, hts⟩ (c_M_has l D k h _ g p1 8) (se_kS 2 hts q_code_X6_has qX6_m178 q_ini_StreamEndModel q_static_X6_has (by decide +kernel) ⟨Nat.le_of_ble_eq_true rfl, Nat.le_of_ble_eq_true rfl⟩ rfl rfl) ⟨se_blind se_ZN_ok, se_pre se_ZN_ok hP hK hD hZ⟩ rfl rfl hl.1 rfl (lv_room (Nat.le_of_ble_eq_true rfl)) dX6_toAsking_3 ⟨Nat.zero_le _, Nat.zero_le _⟩) ?_
  refine lv_istore (lv' := [(6, .int (F_M_has p1 8)), (0, .ref (h 0)), (1, .int p1), (2, .int p2), (3, .int p3), (4, .int p4), (5, .int p5)]) hx hb dX6_toAsking_6 hl (by decide) rfl (fun ls hl => ?_)
  refine lv_iload hx hb dX6_toAsking_8 (lv_at hl 0 rfl) ?_
  refine lv_if_eq (tgt := 31) hx hb dX6_toAsking_10 (by decide) (fun c1 => ?_) (fun c1 => ?_)
  · exact J31 g p1 p2 p3 p4 p5 (F_M_has p1 8) _ _ ls hI (by rw [F_M_toAsking, if_pos (α := se_G) c1]) hP hD hS (lv_sub hl [1, 2, 3, 4, 5, 6, 0] rfl)
  · refine lv_iload_n hx hb dX6_toAsking_13 rfl (lv_at hl 4 rfl) ?_
    refine lv_aload_n hx hb dX6_toAsking_14 rfl (lv_at hl 1 rfl) ?_
    refine va_get (D := D) (ci := 6) (v := .int (g 0 10)) (C := RX6) (T := TX6) (N := 50) hx hb hts (se_iw iwX6) hown hK hP 0 rfl rfl 10 (by decide) (hts _ (List.mem_cons_of_mem _ qX6_f54)) (fun _ h9 => h9) rfl dX6_toAsking_15 ?_
    refine lv_icmp_eq (tgt := 31) hx hb dX6_toAsking_18 (by decide) (fun c6 => ?_) (fun c6 => ?_)
    · exact J31 g p1 p2 p3 p4 p5 (F_M_has p1 8) _ _ ls hI (by rw [F_M_toAsking, if_neg (α := se_G) c1, if_pos (α := se_G) c6]) hP hD hS (lv_sub hl [1, 2, 3, 4, 5, 6, 0] rfl)
    · refine lv_aload_n hx hb dX6_toAsking_21 rfl (lv_at hl 1 rfl) ?_
      refine lv_iload_n hx hb dX6_toAsking_22 rfl (lv_at hl 2 rfl) ?_
      refine lv_iload_n hx hb dX6_toAsking_23 rfl (lv_at hl 3 rfl) ?_
      refine lv_iload_n hx hb dX6_toAsking_24 rfl (lv_at hl 4 rfl) ?_
      refine se_cvE (va_runV (C := RX6) (As := [.int p1, .int p2, .int p3]) (rest := []) ⟨hx, hb, hml, hown, hts⟩ (c_M_resets l D k h _ g p1 p2 p3) (se_kV 3 hts q_code_X6_resets qX6_m192 q_ini_StreamEndModel q_instanceMethod_X6_resets q_sel_X6_resets (by decide +kernel) ⟨Nat.le_of_ble_eq_true rfl, Nat.le_of_ble_eq_true rfl⟩ rfl rfl) ⟨se_blind se_ZN_ok, va_recv hK hP (ci := 6) (q0 := 0) rfl rfl, se_pre se_ZN_ok hP hK hD hZ⟩ rfl rfl hl.1 rfl (lv_room (Nat.le_of_ble_eq_true rfl)) dX6_toAsking_25 ⟨Nat.zero_le _, Nat.zero_le _⟩) hD hS hA (fun g4 H locs eg4 hP hD hS => ?_)
      refine lv_goto (tgt := 110) hx hb dX6_toAsking_28 (by decide) ?_
      exact se_rv hx hb hr hlocks hK hP hD hS dX6_toAsking_110 (by subst eg4; rw [F_M_toAsking, if_neg (α := se_G) c1, if_neg (α := se_G) c6])
