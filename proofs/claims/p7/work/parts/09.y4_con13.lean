/-! written by program (wip/gen) -/
set_option maxRecDepth 100000 in
set_option maxHeartbeats 4000000 in
theorem c_M_toListening (l : Launch) (D : va_G) (k : Nat → ClassId) (h : Nat → Nat) (sz : Nat) (g : se_G) (p1 : Int32) (p2 : Int32) (p3 : Int32) (p4 : Int32) (p5 : Int32) : Met l yX6_toListening (se_w_X6_toListening) ({ frames := 3, cells := 0, slots := 0, locals := 66 }) (va_Pc [.ref (h 0), .int p1, .int p2, .int p3, .int p4, .int p5] (se_Pre D se_cl [(k 1, .int), (k 2, .int), (k 3, .boolean), (k 4, .int), (k 5, .int), (k 6, .int)] (se_WM k h g) se_ZN sz)) (se_Qv D se_cl [(k 1, .int), (k 2, .int), (k 3, .boolean), (k 4, .int), (k 5, .int), (k 6, .int)] (se_WM k h) (F_M_toListening g p1 p2 p3 p4 p5) (va_A (se_WM k h g) sz)) 0 0 (va_A (se_WM k h g) sz) := by
  refine se_met (Qc := se_Qv D se_cl [(k 1, .int), (k 2, .int), (k 3, .boolean), (k 4, .int), (k 5, .int), (k 6, .int)] (se_WM k h) (F_M_toListening g p1 p2 p3 p4 p5)) (cc := cX6_toListening) (maxL := 6) (ret := none) (by decide) rfl (Nat.le_of_ble_eq_true rfl) ?_
  intro p e s m below meth c ls A hx hb hr hts hown hlocks hml hA hP hK hD hS hZ hl
  replace hl : lv_has ls 6 [(0, .ref (h 0)), (1, .int p1), (2, .int p2), (3, .int p3), (4, .int p4), (5, .int p5)] := hl
  have hF : F_M_toListening g p1 p2 p3 p4 p5 = F_M_toListening g p1 p2 p3 p4 p5 := rfl
  refine lv_iload_n hx hb dX6_toListening_0 rfl (lv_at hl 1 rfl) ?_
  refine lv_iconst (v := 4) hx hb dX6_toListening_1 (by decide) ?_
  refine se_cp (va_runS (As := [.int p1, .int 4]) (rest := []) ⟨hx, hb, hml, hown, hts⟩ (c_M_has l D k h _ g p1 4) (se_kS 2 hts q_code_X6_has qX6_m178 q_ini_StreamEndModel q_static_X6_has (by decide +kernel) ⟨Nat.le_of_ble_eq_true rfl, Nat.le_of_ble_eq_true rfl⟩ rfl rfl) ⟨se_blind se_ZN_ok, se_pre se_ZN_ok hP hK hD hZ⟩ rfl rfl hl.1 rfl (lv_room (Nat.le_of_ble_eq_true rfl)) dX6_toListening_2 ⟨Nat.zero_le _, Nat.zero_le _⟩) ?_
  refine lv_if_eq (tgt := 9) hx hb dX6_toListening_5 (by decide) (fun c1 => ?_) (fun c1 => ?_)
  · refine lv_iload_n hx hb dX6_toListening_9 rfl (lv_at hl 1 rfl) ?_
    refine lv_bipush (v := 8) hx hb dX6_toListening_10 (by decide) ?_
    refine se_cp (va_runS (As := [.int p1, .int 8]) (rest := []) ⟨hx, hb, hml, hown, hts⟩ (c_M_has l D k h _ g p1 8) (se_kS 2 hts q_code_X6_has qX6_m178 q_ini_StreamEndModel q_static_X6_has (by decide +kernel) ⟨Nat.le_of_ble_eq_true rfl, Nat.le_of_ble_eq_true rfl⟩ rfl rfl) ⟨se_blind se_ZN_ok, se_pre se_ZN_ok hP hK hD hZ⟩ rfl rfl hl.1 rfl (lv_room (Nat.le_of_ble_eq_true rfl)) dX6_toListening_12 ⟨Nat.zero_le _, Nat.zero_le _⟩) ?_
    refine lv_if_eq (tgt := 28) hx hb dX6_toListening_15 (by decide) (fun c2 => ?_) (fun c2 => ?_)
    · refine lv_iload_n hx hb dX6_toListening_28 rfl (lv_at hl 1 rfl) ?_
      refine lv_iconst (v := 1) hx hb dX6_toListening_29 (by decide) ?_
      refine se_cp (va_runS (As := [.int p1, .int 1]) (rest := []) ⟨hx, hb, hml, hown, hts⟩ (c_M_has l D k h _ g p1 1) (se_kS 2 hts q_code_X6_has qX6_m178 q_ini_StreamEndModel q_static_X6_has (by decide +kernel) ⟨Nat.le_of_ble_eq_true rfl, Nat.le_of_ble_eq_true rfl⟩ rfl rfl) ⟨se_blind se_ZN_ok, se_pre se_ZN_ok hP hK hD hZ⟩ rfl rfl hl.1 rfl (lv_room (Nat.le_of_ble_eq_true rfl)) dX6_toListening_30 ⟨Nat.zero_le _, Nat.zero_le _⟩) ?_
      refine lv_if_eq (tgt := 67) hx hb dX6_toListening_33 (by decide) (fun c3 => ?_) (fun c3 => ?_)
      · exact se_rv hx hb hr hlocks hK hP hD hS dX6_toListening_67 (by rw [F_M_toListening, if_pos (α := se_G) c1, if_pos (α := se_G) c2, if_pos (α := se_G) c3])
      · refine lv_aload_n hx hb dX6_toListening_36 rfl (lv_at hl 0 rfl) ?_
        refine lv_iload_n hx hb dX6_toListening_37 rfl (lv_at hl 1 rfl) ?_
        refine lv_iload_n hx hb dX6_toListening_38 rfl (lv_at hl 2 rfl) ?_
        refine lv_iload_n hx hb dX6_toListening_39 rfl (lv_at hl 3 rfl) ?_
        refine lv_iload hx hb dX6_toListening_40 (lv_at hl 4 rfl) ?_
        refine lv_iload hx hb dX6_toListening_42 (lv_at hl 5 rfl) ?_
        refine se_cvE (va_runV (C := RX6) (As := [.int p1, .int p2, .int p3, .int p4, .int p5]) (rest := []) ⟨hx, hb, hml, hown, hts⟩ (c_M_greet l D k h _ g p1 p2 p3 p4 p5) (se_kV 5 hts q_code_X6_greet qX6_m196 q_ini_StreamEndModel q_instanceMethod_X6_greet q_sel_X6_greet (by decide +kernel) ⟨Nat.le_of_ble_eq_true rfl, Nat.le_of_ble_eq_true rfl⟩ rfl rfl) ⟨se_blind se_ZN_ok, va_recv hK hP (ci := 6) (q0 := 0) rfl rfl, se_pre se_ZN_ok hP hK hD hZ⟩ rfl rfl hl.1 rfl (lv_room (Nat.le_of_ble_eq_true rfl)) dX6_toListening_44 ⟨Nat.zero_le _, Nat.zero_le _⟩) hD hS hA (fun g1 H locs eg1 hP hD hS => ?_)
        replace hF : (F_M_toListening_k1 (F_M_greet g p1 p2 p3 p4 p5)) = F_M_toListening g p1 p2 p3 p4 p5 := by rw [F_M_toListening, if_pos (α := se_G) c1, if_pos (α := se_G) c2, if_neg (α := se_G) c3]
        rw [← eg1] at hF
        replace hF : F_M_toListening_k1 g1 = F_M_toListening g p1 p2 p3 p4 p5 := hF
        refine lv_aload_n hx hb dX6_toListening_47 rfl (lv_at hl 0 rfl) ?_
        refine lv_iconst (v := 3) hx hb dX6_toListening_48 (by decide) ?_
        refine va_put (D := D) (ci := 6) (v := .int 3) (ty := .int) (C := RX6) (T := TX6) (N := 50) hx hb hts (se_iw iwX6) tyX6 tyX6_ok nmX6 hown hK hP hD hS 0 rfl rfl 4 (by decide) (hts _ (List.mem_cons_of_mem _ qX6_f118)) (fun _ h9 => h9) rfl (by decide +kernel) rfl rfl (Nat.le_of_ble_eq_true rfl) dX6_toListening_49 (fun H locs hP hD hS => ?_)
        replace hP : va_P D se_cl (se_WM k h (se_u g1 0 4 3)) H := hP
        replace hD : va_D A (se_WM k h (se_u g1 0 4 3)) := hD
        refine lv_aload_n hx hb dX6_toListening_52 rfl (lv_at hl 0 rfl) ?_
        refine lv_aload_n hx hb dX6_toListening_53 rfl (lv_at hl 0 rfl) ?_
        refine va_get (D := D) (ci := 6) (v := .int (g1 0 8)) (C := RX6) (T := TX6) (N := 50) hx hb hts (se_iw iwX6) hown hK hP 0 rfl rfl 8 (by decide) (hts _ (List.mem_cons_of_mem _ qX6_f48)) (fun _ h9 => h9) rfl dX6_toListening_54 ?_
        refine lv_iconst (v := 1) hx hb dX6_toListening_57 (by decide) ?_
        refine lv_iadd hx hb dX6_toListening_58 ?_
        refine va_put (D := D) (ci := 6) (v := .int ((g1 0 8) + 1)) (ty := .int) (C := RX6) (T := TX6) (N := 50) hx hb hts (se_iw iwX6) tyX6 tyX6_ok nmX6 hown hK hP hD hS 0 rfl rfl 10 (by decide) (hts _ (List.mem_cons_of_mem _ qX6_f54)) (fun _ h9 => h9) rfl (by decide +kernel) rfl rfl (Nat.le_of_ble_eq_true rfl) dX6_toListening_59 (fun H locs hP hD hS => ?_)
        replace hP : va_P D se_cl (se_WM k h (se_u (se_u g1 0 4 3) 0 10 ((g1 0 8) + 1))) H := hP
        replace hD : va_D A (se_WM k h (se_u (se_u g1 0 4 3) 0 10 ((g1 0 8) + 1))) := hD
        refine lv_aload_n hx hb dX6_toListening_62 rfl (lv_at hl 0 rfl) ?_
        refine lv_iconst (v := 1) hx hb dX6_toListening_63 (by decide) ?_
        refine va_put (D := D) (ci := 6) (v := .int 1) (ty := .boolean) (C := RX6) (T := TX6) (N := 50) hx hb hts (se_iw iwX6) tyX6 tyX6_ok nmX6 hown hK hP hD hS 0 rfl rfl 29 (by decide) (hts _ (List.mem_cons_of_mem _ qX6_f103)) (fun _ h9 => h9) rfl (by decide +kernel) rfl rfl (Nat.le_of_ble_eq_true rfl) dX6_toListening_64 (fun H locs hP hD hS => ?_)
        replace hP : va_P D se_cl (se_WM k h (se_u (se_u (se_u g1 0 4 3) 0 10 ((g1 0 8) + 1)) 0 29 1)) H := hP
        replace hD : va_D A (se_WM k h (se_u (se_u (se_u g1 0 4 3) 0 10 ((g1 0 8) + 1)) 0 29 1)) := hD
        exact se_rv hx hb hr hlocks hK hP hD hS dX6_toListening_67 (by rw [← hF, F_M_toListening_k1])
    · refine lv_aload_n hx hb dX6_toListening_18 rfl (lv_at hl 0 rfl) ?_
      refine lv_iload_n hx hb dX6_toListening_19 rfl (lv_at hl 1 rfl) ?_
      refine lv_iload_n hx hb dX6_toListening_20 rfl (lv_at hl 2 rfl) ?_
      refine lv_iload_n hx hb dX6_toListening_21 rfl (lv_at hl 3 rfl) ?_
      refine se_cvE (va_runV (C := RX6) (As := [.int p1, .int p2, .int p3]) (rest := []) ⟨hx, hb, hml, hown, hts⟩ (c_M_resets l D k h _ g p1 p2 p3) (se_kV 3 hts q_code_X6_resets qX6_m192 q_ini_StreamEndModel q_instanceMethod_X6_resets q_sel_X6_resets (by decide +kernel) ⟨Nat.le_of_ble_eq_true rfl, Nat.le_of_ble_eq_true rfl⟩ rfl rfl) ⟨se_blind se_ZN_ok, va_recv hK hP (ci := 6) (q0 := 0) rfl rfl, se_pre se_ZN_ok hP hK hD hZ⟩ rfl rfl hl.1 rfl (lv_room (Nat.le_of_ble_eq_true rfl)) dX6_toListening_22 ⟨Nat.zero_le _, Nat.zero_le _⟩) hD hS hA (fun g2 H locs eg2 hP hD hS => ?_)
      refine lv_goto (tgt := 67) hx hb dX6_toListening_25 (by decide) ?_
      exact se_rv hx hb hr hlocks hK hP hD hS dX6_toListening_67 (by subst eg2; rw [F_M_toListening, if_pos (α := se_G) c1, if_neg (α := se_G) c2])
  · exact se_rv hx hb hr hlocks hK hP hD hS dX6_toListening_8 (by rw [F_M_toListening, if_neg (α := se_G) c1])
set_option maxRecDepth 100000 in
set_option maxHeartbeats 4000000 in
theorem c_M_arrive (l : Launch) (D : va_G) (k : Nat → ClassId) (h : Nat → Nat) (sz : Nat) (g : se_G) (p1 : Int32) (p2 : Int32) (p3 : Int32) (p4 : Int32) (p5 : Int32) (hI : mo_pa g) : Met l yX6_arrive (se_w_X6_arrive) ({ frames := 4, cells := 0, slots := 0, locals := 95 }) (va_Pc [.ref (h 0), .int p1, .int p2, .int p3, .int p4, .int p5] (se_Pre D se_cl [(k 1, .int), (k 2, .int), (k 3, .boolean), (k 4, .int), (k 5, .int), (k 6, .int)] (se_WM k h g) se_ZN sz)) (se_Qi D se_cl [(k 1, .int), (k 2, .int), (k 3, .boolean), (k 4, .int), (k 5, .int), (k 6, .int)] (se_WM k h) (F_M_arrive g p1 p2 p3 p4 p5) (va_A (se_WM k h g) sz)) 0 0 (va_A (se_WM k h g) sz) := by
  refine se_met (Qc := se_Qi D se_cl [(k 1, .int), (k 2, .int), (k 3, .boolean), (k 4, .int), (k 5, .int), (k 6, .int)] (se_WM k h) (F_M_arrive g p1 p2 p3 p4 p5)) (cc := cX6_arrive) (maxL := 7) (ret := (some .int)) (by decide) rfl (Nat.le_of_ble_eq_true rfl) ?_
  intro p e s m below meth c ls A hx hb hr hts hown hlocks hml hA hP hK hD hS hZ hl
  replace hl : lv_has ls 7 [(0, .ref (h 0)), (1, .int p1), (2, .int p2), (3, .int p3), (4, .int p4), (5, .int p5)] := hl
  have J143 : ∀ (gj143 : se_G) (H : Heap) (locs : List Loc) (ls : Array Slot), F_M_arrive_j143 gj143 = F_M_arrive g p1 p2 p3 p4 p5 → va_P D se_cl (se_WM k h gj143) H → va_D A (se_WM k h gj143) → va_S A s.heap H locs → lv_has ls 7 [(0, .ref (h 0))] → W p l e ({ frames := 4, cells := 0, slots := 0, locals := 95 }) s m [.ref (h 0), .int p1, .int p2, .int p3, .int p4, .int p5].toArray below meth c H locs 0 0 (MQ below (se_Qi D se_cl [(k 1, .int), (k 2, .int), (k 3, .boolean), (k 4, .int), (k 5, .int), (k 6, .int)] (se_WM k h) (F_M_arrive g p1 p2 p3 p4 p5) A) [.ref (h 0), .int p1, .int p2, .int p3, .int p4, .int p5].toArray s 0 0 A) (F0 m 143 ls []) := by
    intro gj143 H locs ls hF hP hD hS hl
    refine lv_aload_n hx hb dX6_arrive_143 rfl (lv_at hl 0 rfl) ?_
    refine lv_iconst (v := 0) hx hb dX6_arrive_144 (by decide) ?_
    refine va_put (D := D) (ci := 6) (v := .int 0) (ty := .int) (C := RX6) (T := TX6) (N := 50) hx hb hts (se_iw iwX6) tyX6 tyX6_ok nmX6 hown hK hP hD hS 0 rfl rfl 45 (by decide) (hts _ (List.mem_cons_of_mem _ qX6_f175)) (fun _ h9 => h9) rfl (by decide +kernel) rfl rfl (Nat.le_of_ble_eq_true rfl) dX6_arrive_145 (fun H locs hP hD hS => ?_)
    replace hP : va_P D se_cl (se_WM k h (se_u gj143 0 45 0)) H := hP
    replace hD : va_D A (se_WM k h (se_u gj143 0 45 0)) := hD
    refine lv_aload_n hx hb dX6_arrive_148 rfl (lv_at hl 0 rfl) ?_
    refine se_cvE (va_runV (C := RX6) (As := []) (rest := []) ⟨hx, hb, hml, hown, hts⟩ (c_M_watch l D k h _ (se_u gj143 0 45 0)) (se_kV 0 hts q_code_X6_watch qX6_m136 q_ini_StreamEndModel q_instanceMethod_X6_watch q_sel_X6_watch (by decide +kernel) ⟨Nat.le_of_ble_eq_true rfl, Nat.le_of_ble_eq_true rfl⟩ rfl rfl) ⟨se_blind se_ZN_ok, va_recv hK hP (ci := 6) (q0 := 0) rfl rfl, se_pre se_ZN_ok hP hK hD hZ⟩ rfl rfl hl.1 rfl (lv_room (Nat.le_of_ble_eq_true rfl)) dX6_arrive_149 ⟨Nat.zero_le _, Nat.zero_le _⟩) hD hS hA (fun g2 H locs eg2 hP hD hS => ?_)
    replace hF : (F_M_arrive_k1 (F_M_watch (se_u gj143 0 45 0))) = F_M_arrive g p1 p2 p3 p4 p5 := by rw [← hF, F_M_arrive_j143]
    rw [← eg2] at hF
    replace hF : F_M_arrive_k1 g2 = F_M_arrive g p1 p2 p3 p4 p5 := hF
    refine lv_aload_n hx hb dX6_arrive_152 rfl (lv_at hl 0 rfl) ?_
    refine va_get (D := D) (ci := 6) (v := .int (g2 0 4)) (C := RX6) (T := TX6) (N := 50) hx hb hts (se_iw iwX6) hown hK hP 0 rfl rfl 4 (by decide) (hts _ (List.mem_cons_of_mem _ qX6_f118)) (fun _ h9 => h9) rfl dX6_arrive_153 ?_
    exact se_ri hx hb hr  hlocks hK hP hD hS dX6_arrive_156 (by rw [← hF, F_M_arrive_k1])
  have J80 : ∀ (gj80 : se_G) (v1_80 : Int32) (v2_80 : Int32) (v3_80 : Int32) (H : Heap) (locs : List Loc) (ls : Array Slot), F_M_arrive_j80 gj80 v1_80 v2_80 v3_80 = F_M_arrive g p1 p2 p3 p4 p5 → va_P D se_cl (se_WM k h gj80) H → va_D A (se_WM k h gj80) → va_S A s.heap H locs → lv_has ls 7 [(0, .ref (h 0)), (1, .int v1_80), (2, .int v2_80), (3, .int v3_80)] → W p l e ({ frames := 4, cells := 0, slots := 0, locals := 95 }) s m [.ref (h 0), .int p1, .int p2, .int p3, .int p4, .int p5].toArray below meth c H locs 0 0 (MQ below (se_Qi D se_cl [(k 1, .int), (k 2, .int), (k 3, .boolean), (k 4, .int), (k 5, .int), (k 6, .int)] (se_WM k h) (F_M_arrive g p1 p2 p3 p4 p5) A) [.ref (h 0), .int p1, .int p2, .int p3, .int p4, .int p5].toArray s 0 0 A) (F0 m 80 ls []) := by
    intro gj80 v1_80 v2_80 v3_80 H locs ls hF hP hD hS hl
    refine lv_aload_n hx hb dX6_arrive_80 rfl (lv_at hl 0 rfl) ?_
    refine lv_iload_n hx hb dX6_arrive_81 rfl (lv_at hl 1 rfl) ?_
    refine lv_iload_n hx hb dX6_arrive_82 rfl (lv_at hl 2 rfl) ?_
    refine lv_iload_n hx hb dX6_arrive_83 rfl (lv_at hl 3 rfl) ?_
    refine se_cvE (va_runV (C := RX6) (As := [.int v1_80, .int v2_80, .int v3_80]) (rest := []) ⟨hx, hb, hml, hown, hts⟩ (c_M_resets l D k h _ gj80 v1_80 v2_80 v3_80) (se_kV 3 hts q_code_X6_resets qX6_m192 q_ini_StreamEndModel q_instanceMethod_X6_resets q_sel_X6_resets (by decide +kernel) ⟨Nat.le_of_ble_eq_true rfl, Nat.le_of_ble_eq_true rfl⟩ rfl rfl) ⟨se_blind se_ZN_ok, va_recv hK hP (ci := 6) (q0 := 0) rfl rfl, se_pre se_ZN_ok hP hK hD hZ⟩ rfl rfl hl.1 rfl (lv_room (Nat.le_of_ble_eq_true rfl)) dX6_arrive_84 ⟨Nat.zero_le _, Nat.zero_le _⟩) hD hS hA (fun g1 H locs eg1 hP hD hS => ?_)
    refine lv_goto (tgt := 143) hx hb dX6_arrive_87 (by decide) ?_
    exact J143 g1 _ _ ls (by subst eg1; rw [← hF, F_M_arrive_j80]) hP hD hS (lv_sub hl [0] rfl)
  have J38 : ∀ (gj38 : se_G) (v1_38 : Int32) (v2_38 : Int32) (v3_38 : Int32) (v4_38 : Int32) (v5_38 : Int32) (H : Heap) (locs : List Loc) (ls : Array Slot), F_M_arrive_j38 gj38 v1_38 v2_38 v3_38 v4_38 v5_38 = F_M_arrive g p1 p2 p3 p4 p5 → va_P D se_cl (se_WM k h gj38) H → va_D A (se_WM k h gj38) → va_S A s.heap H locs → lv_has ls 7 [(0, .ref (h 0)), (1, .int v1_38), (2, .int v2_38), (3, .int v3_38), (4, .int v4_38), (5, .int v5_38)] → W p l e ({ frames := 4, cells := 0, slots := 0, locals := 95 }) s m [.ref (h 0), .int p1, .int p2, .int p3, .int p4, .int p5].toArray below meth c H locs 0 0 (MQ below (se_Qi D se_cl [(k 1, .int), (k 2, .int), (k 3, .boolean), (k 4, .int), (k 5, .int), (k 6, .int)] (se_WM k h) (F_M_arrive g p1 p2 p3 p4 p5) A) [.ref (h 0), .int p1, .int p2, .int p3, .int p4, .int p5].toArray s 0 0 A) (F0 m 38 ls []) := by
    intro gj38 v1_38 v2_38 v3_38 v4_38 v5_38 H locs ls hF hP hD hS hl
    refine lv_iconst (v := 0) hx hb dX6_arrive_38 (by decide) ?_
    refine lv_istore (lv' := [(6, .int 0), (0, .ref (h 0)), (1, .int v1_38), (2, .int v2_38), (3, .int v3_38), (4, .int v4_38), (5, .int v5_38)]) hx hb dX6_arrive_39 hl (by decide) rfl (fun ls hl => ?_)
    refine lv_aload_n hx hb dX6_arrive_41 rfl (lv_at hl 1 rfl) ?_
    refine lv_iload hx hb dX6_arrive_42 (lv_at hl 0 rfl) ?_
    refine lv_if_eq (tgt := 51) hx hb dX6_arrive_44 (by decide) (fun c0 => ?_) (fun c0 => absurd c0 (by decide))
    refine lv_iconst (v := 1) hx hb dX6_arrive_51 (by decide) ?_
    refine va_put (D := D) (ci := 6) (v := .int 1) (ty := .int) (C := RX6) (T := TX6) (N := 50) hx hb hts (se_iw iwX6) tyX6 tyX6_ok nmX6 hown hK hP hD hS 0 rfl rfl 2 (by decide) (hts _ (List.mem_cons_of_mem _ qX6_f45)) (fun _ h9 => h9) rfl (by decide +kernel) rfl rfl (Nat.le_of_ble_eq_true rfl) dX6_arrive_52 (fun H locs hP hD hS => ?_)
    replace hP : va_P D se_cl (se_WM k h (se_u gj38 0 2 1)) H := hP
    replace hD : va_D A (se_WM k h (se_u gj38 0 2 1)) := hD
    refine lv_aload_n hx hb dX6_arrive_55 rfl (lv_at hl 1 rfl) ?_
    refine va_get (D := D) (ci := 6) (v := .int 1) (C := RX6) (T := TX6) (N := 50) hx hb hts (se_iw iwX6) hown hK hP 0 rfl rfl 2 (by decide) (hts _ (List.mem_cons_of_mem _ qX6_f45)) (fun _ h9 => h9) rfl dX6_arrive_56 ?_
    refine lv_if_le (tgt := 64) hx hb dX6_arrive_59 (by decide) (fun c0 => absurd c0 (by decide)) (fun c0 => ?_)
    refine lv_iconst (v := 0) hx hb dX6_arrive_62 (by decide) ?_
    exact se_ri hx hb hr  hlocks hK hP hD hS dX6_arrive_63 (by rw [← hF, F_M_arrive_j38])
  have hF : F_M_arrive g p1 p2 p3 p4 p5 = F_M_arrive g p1 p2 p3 p4 p5 := rfl
  refine lv_iload_n hx hb dX6_arrive_0 rfl (lv_at hl 1 rfl) ?_
  refine lv_if_lt (tgt := 38) hx hb dX6_arrive_1 (by decide) (fun c1 => ?_) (fun c1 => ?_)
  · exact J38 g p1 p2 p3 p4 p5 _ _ ls (by rw [F_M_arrive, if_pos (α := Int32 × se_G) c1]) hP hD hS (lv_sub hl [0, 1, 2, 3, 4, 5] rfl)
  · refine lv_iload_n hx hb dX6_arrive_4 rfl (lv_at hl 1 rfl) ?_
    refine lv_bipush (v := 15) hx hb dX6_arrive_5 (by decide) ?_
    refine lv_icmp_gt (tgt := 38) hx hb dX6_arrive_7 (by decide) (fun c4 => ?_) (fun c4 => ?_)
    · exact J38 g p1 p2 p3 p4 p5 _ _ ls (by rw [F_M_arrive, if_neg (α := Int32 × se_G) c1, if_pos (α := Int32 × se_G) c4]) hP hD hS (lv_sub hl [0, 1, 2, 3, 4, 5] rfl)
    · refine lv_iload hx hb dX6_arrive_10 (lv_at hl 4 rfl) ?_
      refine lv_if_lt (tgt := 38) hx hb dX6_arrive_12 (by decide) (fun c5 => ?_) (fun c5 => ?_)
      · exact J38 g p1 p2 p3 p4 p5 _ _ ls (by rw [F_M_arrive, if_neg (α := Int32 × se_G) c1, if_neg (α := Int32 × se_G) c4, if_pos (α := Int32 × se_G) c5]) hP hD hS (lv_sub hl [0, 1, 2, 3, 4, 5] rfl)
      · refine lv_iload hx hb dX6_arrive_15 (lv_at hl 4 rfl) ?_
        refine lv_ldc hx hb hown (hts _ (List.mem_cons_of_mem _ qX6_k232)) dX6_arrive_17 ?_
        refine lv_icmp_gt (tgt := 38) hx hb dX6_arrive_19 (by decide) (fun c6 => ?_) (fun c6 => ?_)
        · exact J38 g p1 p2 p3 p4 p5 _ _ ls (by rw [F_M_arrive, if_neg (α := Int32 × se_G) c1, if_neg (α := Int32 × se_G) c4, if_neg (α := Int32 × se_G) c5, if_pos (α := Int32 × se_G) c6]) hP hD hS (lv_sub hl [0, 1, 2, 3, 4, 5] rfl)
        · refine lv_iload hx hb dX6_arrive_22 (lv_at hl 5 rfl) ?_
          refine lv_if_lt (tgt := 38) hx hb dX6_arrive_24 (by decide) (fun c7 => ?_) (fun c7 => ?_)
          · exact J38 g p1 p2 p3 p4 p5 _ _ ls (by rw [F_M_arrive, if_neg (α := Int32 × se_G) c1, if_neg (α := Int32 × se_G) c4, if_neg (α := Int32 × se_G) c5, if_neg (α := Int32 × se_G) c6, if_pos (α := Int32 × se_G) c7]) hP hD hS (lv_sub hl [0, 1, 2, 3, 4, 5] rfl)
          · refine lv_iload hx hb dX6_arrive_27 (lv_at hl 5 rfl) ?_
            refine lv_ldc hx hb hown (hts _ (List.mem_cons_of_mem _ qX6_k232)) dX6_arrive_29 ?_
            refine se_join (v := ((if 65535 < p5 then 0 else 1) : Int32)) (pcJ := 39) (restJ := []) (ls := ls) (fun T => ?_) ?_
            · refine lv_icmp_gt (tgt := 38) hx hb dX6_arrive_31 (by decide) (fun c9 => ?_) (fun c9 => ?_)
              · refine lv_iconst (v := 0) hx hb dX6_arrive_38 (by decide) ?_
                exact T _ (mo_ifp c9 rfl)
              · refine lv_iconst (v := 1) hx hb dX6_arrive_34 (by decide) ?_
                refine lv_goto (tgt := 39) hx hb dX6_arrive_35 (by decide) ?_
                exact T _ (mo_ifn c9 rfl)
            refine lv_istore (lv' := [(6, .int ((if 65535 < p5 then 0 else 1) : Int32)), (0, .ref (h 0)), (1, .int p1), (2, .int p2), (3, .int p3), (4, .int p4), (5, .int p5)]) hx hb dX6_arrive_39 hl (by decide) rfl (fun ls hl => ?_)
            refine lv_aload_n hx hb dX6_arrive_41 rfl (lv_at hl 1 rfl) ?_
            refine lv_iload hx hb dX6_arrive_42 (lv_at hl 0 rfl) ?_
            refine se_join (v := ((if ((if 65535 < p5 then 0 else 1) : Int32) = 0 then 1 else 0) : Int32)) (pcJ := 52) (restJ := [.ref (h 0)]) (ls := ls) (fun T => ?_) ?_
            · refine lv_if_eq (tgt := 51) hx hb dX6_arrive_44 (by decide) (fun c11 => ?_) (fun c11 => ?_)
              · refine lv_iconst (v := 1) hx hb dX6_arrive_51 (by decide) ?_
                exact T _ (mo_ifp c11 rfl)
              · refine lv_iconst (v := 0) hx hb dX6_arrive_47 (by decide) ?_
                refine lv_goto (tgt := 52) hx hb dX6_arrive_48 (by decide) ?_
                exact T _ (mo_ifn c11 rfl)
            refine va_put (D := D) (ci := 6) (v := .int ((if ((if 65535 < p5 then 0 else 1) : Int32) = 0 then 1 else 0) : Int32)) (ty := .int) (C := RX6) (T := TX6) (N := 50) hx hb hts (se_iw iwX6) tyX6 tyX6_ok nmX6 hown hK hP hD hS 0 rfl rfl 2 (by decide) (hts _ (List.mem_cons_of_mem _ qX6_f45)) (fun _ h9 => h9) rfl (by decide +kernel) rfl rfl (Nat.le_of_ble_eq_true rfl) dX6_arrive_52 (fun H locs hP hD hS => ?_)
            replace hP : va_P D se_cl (se_WM k h (se_u g 0 2 ((if ((if 65535 < p5 then 0 else 1) : Int32) = 0 then 1 else 0) : Int32))) H := hP
            replace hD : va_D A (se_WM k h (se_u g 0 2 ((if ((if 65535 < p5 then 0 else 1) : Int32) = 0 then 1 else 0) : Int32))) := hD
            refine lv_aload_n hx hb dX6_arrive_55 rfl (lv_at hl 1 rfl) ?_
            refine va_get (D := D) (ci := 6) (v := .int ((if ((if 65535 < p5 then 0 else 1) : Int32) = 0 then 1 else 0) : Int32)) (C := RX6) (T := TX6) (N := 50) hx hb hts (se_iw iwX6) hown hK hP 0 rfl rfl 2 (by decide) (hts _ (List.mem_cons_of_mem _ qX6_f45)) (fun _ h9 => h9) rfl dX6_arrive_56 ?_
            refine lv_if_le (tgt := 64) hx hb dX6_arrive_59 (by decide) (fun c12 => ?_) (fun c12 => ?_)
            · refine lv_aload_n hx hb dX6_arrive_64 rfl (lv_at hl 1 rfl) ?_
              refine va_get (D := D) (ci := 6) (v := .int (g 0 4)) (C := RX6) (T := TX6) (N := 50) hx hb hts (se_iw iwX6) hown hK hP 0 rfl rfl 4 (by decide) (hts _ (List.mem_cons_of_mem _ qX6_f118)) (fun _ h9 => h9) rfl dX6_arrive_65 ?_
              refine lv_if_eq (tgt := 80) hx hb dX6_arrive_68 (by decide) (fun c13 => ?_) (fun c13 => ?_)
              · exact J80 (se_u g 0 2 ((if ((if 65535 < p5 then 0 else 1) : Int32) = 0 then 1 else 0) : Int32)) p1 p2 p3 _ _ ls (by rw [F_M_arrive, if_neg (α := Int32 × se_G) c1, if_neg (α := Int32 × se_G) c4, if_neg (α := Int32 × se_G) c5, if_neg (α := Int32 × se_G) c6, if_neg (α := Int32 × se_G) c7, if_pos (α := Int32 × se_G) c12, if_pos (α := Int32 × se_G) c13]) hP hD hS (lv_sub hl [1, 2, 3, 4] rfl)
              · refine lv_aload_n hx hb dX6_arrive_71 rfl (lv_at hl 1 rfl) ?_
                refine va_get (D := D) (ci := 6) (v := .int (g 0 4)) (C := RX6) (T := TX6) (N := 50) hx hb hts (se_iw iwX6) hown hK hP 0 rfl rfl 4 (by decide) (hts _ (List.mem_cons_of_mem _ qX6_f118)) (fun _ h9 => h9) rfl dX6_arrive_72 ?_
                refine lv_bipush (v := 11) hx hb dX6_arrive_75 (by decide) ?_
                refine lv_icmp_ne (tgt := 90) hx hb dX6_arrive_77 (by decide) (fun c14 => ?_) (fun c14 => ?_)
                · refine lv_aload_n hx hb dX6_arrive_90 rfl (lv_at hl 1 rfl) ?_
                  refine va_get (D := D) (ci := 6) (v := .int (g 0 4)) (C := RX6) (T := TX6) (N := 50) hx hb hts (se_iw iwX6) hown hK hP 0 rfl rfl 4 (by decide) (hts _ (List.mem_cons_of_mem _ qX6_f118)) (fun _ h9 => h9) rfl dX6_arrive_91 ?_
                  refine lv_iconst (v := 1) hx hb dX6_arrive_94 (by decide) ?_
                  refine lv_icmp_ne (tgt := 112) hx hb dX6_arrive_95 (by decide) (fun c15 => ?_) (fun c15 => ?_)
                  · refine lv_aload_n hx hb dX6_arrive_112 rfl (lv_at hl 1 rfl) ?_
                    refine va_get (D := D) (ci := 6) (v := .int (g 0 4)) (C := RX6) (T := TX6) (N := 50) hx hb hts (se_iw iwX6) hown hK hP 0 rfl rfl 4 (by decide) (hts _ (List.mem_cons_of_mem _ qX6_f118)) (fun _ h9 => h9) rfl dX6_arrive_113 ?_
                    refine lv_iconst (v := 2) hx hb dX6_arrive_116 (by decide) ?_
                    refine lv_icmp_ne (tgt := 134) hx hb dX6_arrive_117 (by decide) (fun c16 => ?_) (fun c16 => ?_)
                    · refine lv_aload_n hx hb dX6_arrive_134 rfl (lv_at hl 1 rfl) ?_
                      refine lv_iload_n hx hb dX6_arrive_135 rfl (lv_at hl 2 rfl) ?_
                      refine lv_iload_n hx hb dX6_arrive_136 rfl (lv_at hl 3 rfl) ?_
                      refine lv_iload_n hx hb dX6_arrive_137 rfl (lv_at hl 4 rfl) ?_
                      refine lv_iload hx hb dX6_arrive_138 (lv_at hl 5 rfl) ?_
                      refine se_cvE (va_runV (C := RX6) (As := [.int p1, .int p2, .int p3, .int p4]) (rest := []) ⟨hx, hb, hml, hown, hts⟩ (c_M_toOthers l D k h _ (se_u g 0 2 ((if ((if 65535 < p5 then 0 else 1) : Int32) = 0 then 1 else 0) : Int32)) p1 p2 p3 p4 hI) (se_kV 4 hts q_code_X6_toOthers qX6_m239 q_ini_StreamEndModel q_instanceMethod_X6_toOthers q_sel_X6_toOthers (by decide +kernel) ⟨Nat.le_of_ble_eq_true rfl, Nat.le_of_ble_eq_true rfl⟩ rfl rfl) ⟨se_blind se_ZN_ok, va_recv hK hP (ci := 6) (q0 := 0) rfl rfl, se_pre se_ZN_ok hP hK hD hZ⟩ rfl rfl hl.1 rfl (lv_room (Nat.le_of_ble_eq_true rfl)) dX6_arrive_140 ⟨Nat.zero_le _, Nat.zero_le _⟩) hD hS hA (fun g3 H locs eg3 hP hD hS => ?_)
                      exact J143 g3 _ _ ls (by subst eg3; rw [F_M_arrive, if_neg (α := Int32 × se_G) c1, if_neg (α := Int32 × se_G) c4, if_neg (α := Int32 × se_G) c5, if_neg (α := Int32 × se_G) c6, if_neg (α := Int32 × se_G) c7, if_pos (α := Int32 × se_G) c12, if_neg (α := Int32 × se_G) c13, if_neg (α := Int32 × se_G) c14, if_neg (α := Int32 × se_G) c15, if_neg (α := Int32 × se_G) c16]) hP hD hS (lv_sub hl [1] rfl)
                    · refine lv_aload_n hx hb dX6_arrive_120 rfl (lv_at hl 1 rfl) ?_
                      refine lv_iload_n hx hb dX6_arrive_121 rfl (lv_at hl 2 rfl) ?_
                      refine lv_iload_n hx hb dX6_arrive_122 rfl (lv_at hl 3 rfl) ?_
                      refine lv_iload_n hx hb dX6_arrive_123 rfl (lv_at hl 4 rfl) ?_
                      refine lv_iload hx hb dX6_arrive_124 (lv_at hl 5 rfl) ?_
                      refine lv_iload hx hb dX6_arrive_126 (lv_at hl 6 rfl) ?_
                      refine se_cvE (va_runV (C := RX6) (As := [.int p1, .int p2, .int p3, .int p4, .int p5]) (rest := []) ⟨hx, hb, hml, hown, hts⟩ (c_M_toAsking l D k h _ (se_u g 0 2 ((if ((if 65535 < p5 then 0 else 1) : Int32) = 0 then 1 else 0) : Int32)) p1 p2 p3 p4 p5 hI.1) (se_kV 5 hts q_code_X6_toAsking qX6_m236 q_ini_StreamEndModel q_instanceMethod_X6_toAsking q_sel_X6_toAsking (by decide +kernel) ⟨Nat.le_of_ble_eq_true rfl, Nat.le_of_ble_eq_true rfl⟩ rfl rfl) ⟨se_blind se_ZN_ok, va_recv hK hP (ci := 6) (q0 := 0) rfl rfl, se_pre se_ZN_ok hP hK hD hZ⟩ rfl rfl hl.1 rfl (lv_room (Nat.le_of_ble_eq_true rfl)) dX6_arrive_128 ⟨Nat.zero_le _, Nat.zero_le _⟩) hD hS hA (fun g4 H locs eg4 hP hD hS => ?_)
                      refine lv_goto (tgt := 143) hx hb dX6_arrive_131 (by decide) ?_
                      exact J143 g4 _ _ ls (by subst eg4; rw [F_M_arrive, if_neg (α := Int32 × se_G) c1, if_neg (α := Int32 × se_G) c4, if_neg (α := Int32 × se_G) c5, if_neg (α := Int32 × se_G) c6, if_neg (α := Int32 × se_G) c7, if_pos (α := Int32 × se_G) c12, if_neg (α := Int32 × se_G) c13, if_neg (α := Int32 × se_G) c14, if_neg (α := Int32 × se_G) c15, if_pos (α := Int32 × se_G) c16]) hP hD hS (lv_sub hl [1] rfl)
                  · refine lv_aload_n hx hb dX6_arrive_98 rfl (lv_at hl 1 rfl) ?_
                    refine lv_iload_n hx hb dX6_arrive_99 rfl (lv_at hl 2 rfl) ?_
                    refine lv_iload_n hx hb dX6_arrive_100 rfl (lv_at hl 3 rfl) ?_
                    refine lv_iload_n hx hb dX6_arrive_101 rfl (lv_at hl 4 rfl) ?_
                    refine lv_iload hx hb dX6_arrive_102 (lv_at hl 5 rfl) ?_
                    refine lv_iload hx hb dX6_arrive_104 (lv_at hl 6 rfl) ?_
                    refine se_cvE (va_runV (C := RX6) (As := [.int p1, .int p2, .int p3, .int p4, .int p5]) (rest := []) ⟨hx, hb, hml, hown, hts⟩ (c_M_toListening l D k h _ (se_u g 0 2 ((if ((if 65535 < p5 then 0 else 1) : Int32) = 0 then 1 else 0) : Int32)) p1 p2 p3 p4 p5) (se_kV 5 hts q_code_X6_toListening qX6_m233 q_ini_StreamEndModel q_instanceMethod_X6_toListening q_sel_X6_toListening (by decide +kernel) ⟨Nat.le_of_ble_eq_true rfl, Nat.le_of_ble_eq_true rfl⟩ rfl rfl) ⟨se_blind se_ZN_ok, va_recv hK hP (ci := 6) (q0 := 0) rfl rfl, se_pre se_ZN_ok hP hK hD hZ⟩ rfl rfl hl.1 rfl (lv_room (Nat.le_of_ble_eq_true rfl)) dX6_arrive_106 ⟨Nat.zero_le _, Nat.zero_le _⟩) hD hS hA (fun g5 H locs eg5 hP hD hS => ?_)
                    refine lv_goto (tgt := 143) hx hb dX6_arrive_109 (by decide) ?_
                    exact J143 g5 _ _ ls (by subst eg5; rw [F_M_arrive, if_neg (α := Int32 × se_G) c1, if_neg (α := Int32 × se_G) c4, if_neg (α := Int32 × se_G) c5, if_neg (α := Int32 × se_G) c6, if_neg (α := Int32 × se_G) c7, if_pos (α := Int32 × se_G) c12, if_neg (α := Int32 × se_G) c13, if_neg (α := Int32 × se_G) c14, if_pos (α := Int32 × se_G) c15]) hP hD hS (lv_sub hl [1] rfl)
                · exact J80 (se_u g 0 2 ((if ((if 65535 < p5 then 0 else 1) : Int32) = 0 then 1 else 0) : Int32)) p1 p2 p3 _ _ ls (by rw [F_M_arrive, if_neg (α := Int32 × se_G) c1, if_neg (α := Int32 × se_G) c4, if_neg (α := Int32 × se_G) c5, if_neg (α := Int32 × se_G) c6, if_neg (α := Int32 × se_G) c7, if_pos (α := Int32 × se_G) c12, if_neg (α := Int32 × se_G) c13, if_pos (α := Int32 × se_G) c14]) hP hD hS (lv_sub hl [1, 2, 3, 4] rfl)
            · refine lv_iconst (v := 0) hx hb dX6_arrive_62 (by decide) ?_
              exact se_ri hx hb hr  hlocks hK hP hD hS dX6_arrive_63 (by rw [F_M_arrive, if_neg (α := Int32 × se_G) c1, if_neg (α := Int32 × se_G) c4, if_neg (α := Int32 × se_G) c5, if_neg (α := Int32 × se_G) c6, if_neg (α := Int32 × se_G) c7, if_neg (α := Int32 × se_G) c12])
