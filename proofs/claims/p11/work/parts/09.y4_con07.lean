/-! written by program (wip/gen) -/
set_option maxRecDepth 100000 in
set_option maxHeartbeats 4000000 in
theorem c_M_has (l : Launch) (D : va_G) (k : Nat → ClassId) (h : Nat → Nat) (sz : Nat) (g : se_G) (p0 : Int32) (p1 : Int32) : Met l yX6_has (se_w_X6_has) ({ frames := 0, cells := 0, slots := 0, locals := 0 }) (va_Pc [.int p0, .int p1] (se_Pre D se_cl [(k 1, .int), (k 2, .int), (k 3, .boolean), (k 4, .int), (k 5, .int), (k 6, .int)] (se_WM k h g) se_ZN sz)) (se_Qp (F_M_has p0 p1)) 0 0 (fun _ => False) := by
  refine se_metP (cc := cX6_has) (maxL := 2) (ret := (some .boolean)) (by decide) rfl (Nat.le_of_ble_eq_true rfl) ?_
  intro p e s m below meth c ls A hx hb hr hts hown hlocks hml hA hP hK hD hS hZ hl
  replace hl : lv_has ls 2 [(0, .int p0), (1, .int p1)] := hl
  have hF : F_M_has p0 p1 = F_M_has p0 p1 := rfl
  refine lv_iload_n hx hb dX6_has_0 rfl (lv_at hl 0 rfl) ?_
  refine lv_iload_n hx hb dX6_has_1 rfl (lv_at hl 1 rfl) ?_
  refine lv_iand hx hb dX6_has_2 ?_
  refine lv_if_eq (tgt := 10) hx hb dX6_has_3 (by decide) (fun c1 => ?_) (fun c1 => ?_)
  · refine lv_iconst (v := 0) hx hb dX6_has_10 (by decide) ?_
    exact se_rpz hx hb hr rfl hlocks dX6_has_11 (by rw [F_M_has, if_pos (α := Int32) c1])
  · refine lv_iconst (v := 1) hx hb dX6_has_6 (by decide) ?_
    refine lv_goto (tgt := 11) hx hb dX6_has_7 (by decide) ?_
    exact se_rpz hx hb hr rfl hlocks dX6_has_11 (by rw [F_M_has, if_neg (α := Int32) c1])
set_option maxRecDepth 100000 in
set_option maxHeartbeats 4000000 in
theorem c_M_size (l : Launch) (D : va_G) (k : Nat → ClassId) (h : Nat → Nat) (sz : Nat) (g : se_G) (p1 : Int32) : Met l yX6_size (se_w_X6_size) ({ frames := 1, cells := 0, slots := 0, locals := 21 }) (va_Pc [.ref (h 0), .int p1] (se_Pre D se_cl [(k 1, .int), (k 2, .int), (k 3, .boolean), (k 4, .int), (k 5, .int), (k 6, .int)] (se_WM k h g) se_ZN sz)) (se_Qp (F_M_size g p1)) 0 0 (fun _ => False) := by
  refine se_metP (cc := cX6_size) (maxL := 2) (ret := (some .int)) (by decide) rfl (Nat.le_of_ble_eq_true rfl) ?_
  intro p e s m below meth c ls A hx hb hr hts hown hlocks hml hA hP hK hD hS hZ hl
  replace hl : lv_has ls 2 [(0, .ref (h 0)), (1, .int p1)] := hl
  have hF : F_M_size g p1 = F_M_size g p1 := rfl
  refine lv_aload_n hx hb dX6_size_0 rfl (lv_at hl 0 rfl) ?_
  refine va_get (D := D) (ci := 6) (v := .int (g 0 45)) (C := RX6) (T := TX6) (N := 50) hx hb hts (se_iw iwX6) hown hK hP 0 rfl rfl 45 (by decide) (hts _ (List.mem_cons_of_mem _ qX6_f175)) (fun _ h9 => h9) rfl dX6_size_1 ?_
  refine lv_iload_n hx hb dX6_size_4 rfl (lv_at hl 1 rfl) ?_
  refine lv_iconst (v := 1) hx hb dX6_size_5 (by decide) ?_
  refine se_cp (va_runS (As := [.int p1, .int 1]) (rest := [.int (g 0 45)]) ⟨hx, hb, hml, hown, hts⟩ (c_M_has l D k h _ g p1 1) (se_kS 2 hts q_code_X6_has qX6_m178 q_ini_StreamEndModel q_static_X6_has (by decide +kernel) ⟨Nat.le_of_ble_eq_true rfl, Nat.le_of_ble_eq_true rfl⟩ rfl rfl) ⟨se_blind se_ZN_ok, se_pre se_ZN_ok hP hK hD hZ⟩ rfl rfl hl.1 rfl (lv_room (Nat.le_of_ble_eq_true rfl)) dX6_size_6 ⟨Nat.zero_le _, Nat.zero_le _⟩) ?_
  refine se_join (v := ((if (F_M_has p1 1) = 0 then 0 else 1) : Int32)) (pcJ := 17) (restJ := [.int (g 0 45)]) (ls := ls) (fun T => ?_) ?_
  · refine lv_if_eq (tgt := 16) hx hb dX6_size_9 (by decide) (fun c2 => ?_) (fun c2 => ?_)
    · refine lv_iconst (v := 0) hx hb dX6_size_16 (by decide) ?_
      exact T _ (mo_ifp c2 rfl)
    · refine lv_iconst (v := 1) hx hb dX6_size_12 (by decide) ?_
      refine lv_goto (tgt := 17) hx hb dX6_size_13 (by decide) ?_
      exact T _ (mo_ifn c2 rfl)
  refine lv_iadd hx hb dX6_size_17 ?_
  refine lv_iload_n hx hb dX6_size_18 rfl (lv_at hl 1 rfl) ?_
  refine lv_iconst (v := 2) hx hb dX6_size_19 (by decide) ?_
  refine se_cp (va_runS (As := [.int p1, .int 2]) (rest := [.int ((g 0 45) + ((if (F_M_has p1 1) = 0 then 0 else 1) : Int32))]) ⟨hx, hb, hml, hown, hts⟩ (c_M_has l D k h _ g p1 2) (se_kS 2 hts q_code_X6_has qX6_m178 q_ini_StreamEndModel q_static_X6_has (by decide +kernel) ⟨Nat.le_of_ble_eq_true rfl, Nat.le_of_ble_eq_true rfl⟩ rfl rfl) ⟨se_blind se_ZN_ok, se_pre se_ZN_ok hP hK hD hZ⟩ rfl rfl hl.1 rfl (lv_room (Nat.le_of_ble_eq_true rfl)) dX6_size_20 ⟨Nat.zero_le _, Nat.zero_le _⟩) ?_
  refine se_join (v := ((if (F_M_has p1 2) = 0 then 0 else 1) : Int32)) (pcJ := 31) (restJ := [.int ((g 0 45) + ((if (F_M_has p1 1) = 0 then 0 else 1) : Int32))]) (ls := ls) (fun T => ?_) ?_
  · refine lv_if_eq (tgt := 30) hx hb dX6_size_23 (by decide) (fun c4 => ?_) (fun c4 => ?_)
    · refine lv_iconst (v := 0) hx hb dX6_size_30 (by decide) ?_
      exact T _ (mo_ifp c4 rfl)
    · refine lv_iconst (v := 1) hx hb dX6_size_26 (by decide) ?_
      refine lv_goto (tgt := 31) hx hb dX6_size_27 (by decide) ?_
      exact T _ (mo_ifn c4 rfl)
  refine lv_iadd hx hb dX6_size_31 ?_
  exact se_rp hx hb hr  hlocks dX6_size_32 (by rw [F_M_size])
set_option maxRecDepth 100000 in
set_option maxHeartbeats 4000000 in
theorem c_M_resets (l : Launch) (D : va_G) (k : Nat → ClassId) (h : Nat → Nat) (sz : Nat) (g : se_G) (p1 : Int32) (p2 : Int32) (p3 : Int32) : Met l yX6_resets (se_w_X6_resets) ({ frames := 2, cells := 0, slots := 0, locals := 42 }) (va_Pc [.ref (h 0), .int p1, .int p2, .int p3] (se_Pre D se_cl [(k 1, .int), (k 2, .int), (k 3, .boolean), (k 4, .int), (k 5, .int), (k 6, .int)] (se_WM k h g) se_ZN sz)) (se_Qv D se_cl [(k 1, .int), (k 2, .int), (k 3, .boolean), (k 4, .int), (k 5, .int), (k 6, .int)] (se_WM k h) (F_M_resets g p1 p2 p3) (va_A (se_WM k h g) sz)) 0 0 (va_A (se_WM k h g) sz) := by
  refine se_met (Qc := se_Qv D se_cl [(k 1, .int), (k 2, .int), (k 3, .boolean), (k 4, .int), (k 5, .int), (k 6, .int)] (se_WM k h) (F_M_resets g p1 p2 p3)) (cc := cX6_resets) (maxL := 5) (ret := none) (by decide) rfl (Nat.le_of_ble_eq_true rfl) ?_
  intro p e s m below meth c ls A hx hb hr hts hown hlocks hml hA hP hK hD hS hZ hl
  replace hl : lv_has ls 5 [(0, .ref (h 0)), (1, .int p1), (2, .int p2), (3, .int p3)] := hl
  have hF : F_M_resets g p1 p2 p3 = F_M_resets g p1 p2 p3 := rfl
  refine lv_iload_n hx hb dX6_resets_0 rfl (lv_at hl 1 rfl) ?_
  refine lv_iconst (v := 4) hx hb dX6_resets_1 (by decide) ?_
  refine se_cp (va_runS (As := [.int p1, .int 4]) (rest := []) ⟨hx, hb, hml, hown, hts⟩ (c_M_has l D k h _ g p1 4) (se_kS 2 hts q_code_X6_has qX6_m178 q_ini_StreamEndModel q_static_X6_has (by decide +kernel) ⟨Nat.le_of_ble_eq_true rfl, Nat.le_of_ble_eq_true rfl⟩ rfl rfl) ⟨se_blind se_ZN_ok, se_pre se_ZN_ok hP hK hD hZ⟩ rfl rfl hl.1 rfl (lv_room (Nat.le_of_ble_eq_true rfl)) dX6_resets_2 ⟨Nat.zero_le _, Nat.zero_le _⟩) ?_
  refine lv_if_eq (tgt := 9) hx hb dX6_resets_5 (by decide) (fun c1 => ?_) (fun c1 => ?_)
  · refine lv_aload_n hx hb dX6_resets_9 rfl (lv_at hl 0 rfl) ?_
    refine lv_iconst (v := 1) hx hb dX6_resets_10 (by decide) ?_
    refine va_put (D := D) (ci := 6) (v := .int 1) (ty := .boolean) (C := RX6) (T := TX6) (N := 50) hx hb hts (se_iw iwX6) tyX6 tyX6_ok nmX6 hown hK hP hD hS 0 rfl rfl 25 (by decide) (hts _ (List.mem_cons_of_mem _ qX6_f150)) (fun _ h9 => h9) rfl (by decide +kernel) rfl rfl (Nat.le_of_ble_eq_true rfl) dX6_resets_11 (fun H locs hP hD hS => ?_)
    replace hP : va_P D se_cl (se_WM k h (se_u g 0 25 1)) H := hP
    replace hD : va_D A (se_WM k h (se_u g 0 25 1)) := hD
    refine lv_iload_n hx hb dX6_resets_14 rfl (lv_at hl 1 rfl) ?_
    refine lv_bipush (v := 8) hx hb dX6_resets_15 (by decide) ?_
    refine se_cp (va_runS (As := [.int p1, .int 8]) (rest := []) ⟨hx, hb, hml, hown, hts⟩ (c_M_has l D k h _ (se_u g 0 25 1) p1 8) (se_kS 2 hts q_code_X6_has qX6_m178 q_ini_StreamEndModel q_static_X6_has (by decide +kernel) ⟨Nat.le_of_ble_eq_true rfl, Nat.le_of_ble_eq_true rfl⟩ rfl rfl) ⟨se_blind se_ZN_ok, se_pre se_ZN_ok hP hK hD hZ⟩ rfl rfl hl.1 rfl (lv_room (Nat.le_of_ble_eq_true rfl)) dX6_resets_17 ⟨Nat.zero_le _, Nat.zero_le _⟩) ?_
    refine lv_istore (lv' := [(4, .int (F_M_has p1 8)), (0, .ref (h 0)), (1, .int p1), (2, .int p2), (3, .int p3)]) hx hb dX6_resets_20 hl (by decide) rfl (fun ls hl => ?_)
    refine lv_aload_n hx hb dX6_resets_22 rfl (lv_at hl 1 rfl) ?_
    refine lv_iload hx hb dX6_resets_23 (lv_at hl 0 rfl) ?_
    refine se_join (v := ((if (F_M_has p1 8) = 0 then 12 else 4) : Int32)) (pcJ := 34) (restJ := [.ref (h 0)]) (ls := ls) (fun T => ?_) ?_
    · refine lv_if_eq (tgt := 32) hx hb dX6_resets_25 (by decide) (fun c3 => ?_) (fun c3 => ?_)
      · refine lv_bipush (v := 12) hx hb dX6_resets_32 (by decide) ?_
        exact T _ (mo_ifp c3 rfl)
      · refine lv_iconst (v := 4) hx hb dX6_resets_28 (by decide) ?_
        refine lv_goto (tgt := 34) hx hb dX6_resets_29 (by decide) ?_
        exact T _ (mo_ifn c3 rfl)
    refine va_put (D := D) (ci := 6) (v := .int ((if (F_M_has p1 8) = 0 then 12 else 4) : Int32)) (ty := .int) (C := RX6) (T := TX6) (N := 50) hx hb hts (se_iw iwX6) tyX6 tyX6_ok nmX6 hown hK hP hD hS 0 rfl rfl 26 (by decide) (hts _ (List.mem_cons_of_mem _ qX6_f153)) (fun _ h9 => h9) rfl (by decide +kernel) rfl rfl (Nat.le_of_ble_eq_true rfl) dX6_resets_34 (fun H locs hP hD hS => ?_)
    replace hP : va_P D se_cl (se_WM k h (se_u (se_u g 0 25 1) 0 26 ((if (F_M_has p1 8) = 0 then 12 else 4) : Int32))) H := hP
    replace hD : va_D A (se_WM k h (se_u (se_u g 0 25 1) 0 26 ((if (F_M_has p1 8) = 0 then 12 else 4) : Int32))) := hD
    refine lv_aload_n hx hb dX6_resets_37 rfl (lv_at hl 1 rfl) ?_
    refine lv_iload hx hb dX6_resets_38 (lv_at hl 0 rfl) ?_
    refine se_join (v := ((if (F_M_has p1 8) = 0 then 0 else p3) : Int32)) (pcJ := 48) (restJ := [.ref (h 0)]) (ls := ls) (fun T => ?_) ?_
    · refine lv_if_eq (tgt := 47) hx hb dX6_resets_40 (by decide) (fun c5 => ?_) (fun c5 => ?_)
      · refine lv_iconst (v := 0) hx hb dX6_resets_47 (by decide) ?_
        exact T _ (mo_ifp c5 rfl)
      · refine lv_iload_n hx hb dX6_resets_43 rfl (lv_at hl 4 rfl) ?_
        refine lv_goto (tgt := 48) hx hb dX6_resets_44 (by decide) ?_
        exact T _ (mo_ifn c5 rfl)
    refine va_put (D := D) (ci := 6) (v := .int ((if (F_M_has p1 8) = 0 then 0 else p3) : Int32)) (ty := .int) (C := RX6) (T := TX6) (N := 50) hx hb hts (se_iw iwX6) tyX6 tyX6_ok nmX6 hown hK hP hD hS 0 rfl rfl 27 (by decide) (hts _ (List.mem_cons_of_mem _ qX6_f156)) (fun _ h9 => h9) rfl (by decide +kernel) rfl rfl (Nat.le_of_ble_eq_true rfl) dX6_resets_48 (fun H locs hP hD hS => ?_)
    replace hP : va_P D se_cl (se_WM k h (se_u (se_u (se_u g 0 25 1) 0 26 ((if (F_M_has p1 8) = 0 then 12 else 4) : Int32)) 0 27 ((if (F_M_has p1 8) = 0 then 0 else p3) : Int32))) H := hP
    replace hD : va_D A (se_WM k h (se_u (se_u (se_u g 0 25 1) 0 26 ((if (F_M_has p1 8) = 0 then 12 else 4) : Int32)) 0 27 ((if (F_M_has p1 8) = 0 then 0 else p3) : Int32))) := hD
    refine lv_aload_n hx hb dX6_resets_51 rfl (lv_at hl 1 rfl) ?_
    refine lv_iload hx hb dX6_resets_52 (lv_at hl 0 rfl) ?_
    refine se_join (v := ((if (F_M_has p1 8) = 0 then (p2 + (F_M_size (se_u (se_u (se_u g 0 25 1) 0 26 ((if (F_M_has p1 8) = 0 then 12 else 4) : Int32)) 0 27 ((if (F_M_has p1 8) = 0 then 0 else p3) : Int32)) p1)) else 0) : Int32)) (pcJ := 68) (restJ := [.ref (h 0)]) (ls := ls) (fun T => ?_) ?_
    · refine lv_if_eq (tgt := 61) hx hb dX6_resets_54 (by decide) (fun c7 => ?_) (fun c7 => ?_)
      · refine lv_iload_n hx hb dX6_resets_61 rfl (lv_at hl 3 rfl) ?_
        refine lv_aload_n hx hb dX6_resets_62 rfl (lv_at hl 1 rfl) ?_
        refine lv_iload_n hx hb dX6_resets_63 rfl (lv_at hl 2 rfl) ?_
        refine se_cp (va_runV (C := RX6) (As := [.int p1]) (rest := [.int p2, .ref (h 0)]) ⟨hx, hb, hml, hown, hts⟩ (c_M_size l D k h _ (se_u (se_u (se_u g 0 25 1) 0 26 ((if (F_M_has p1 8) = 0 then 12 else 4) : Int32)) 0 27 ((if (F_M_has p1 8) = 0 then 0 else p3) : Int32)) p1) (se_kV 1 hts q_code_X6_size qX6_m182 q_ini_StreamEndModel q_instanceMethod_X6_size q_sel_X6_size (by decide +kernel) ⟨Nat.le_of_ble_eq_true rfl, Nat.le_of_ble_eq_true rfl⟩ rfl rfl) ⟨se_blind se_ZN_ok, va_recv hK hP (ci := 6) (q0 := 0) rfl rfl, se_pre se_ZN_ok hP hK hD hZ⟩ rfl rfl hl.1 rfl (lv_room (Nat.le_of_ble_eq_true rfl)) dX6_resets_64 ⟨Nat.zero_le _, Nat.zero_le _⟩) ?_
        refine lv_iadd hx hb dX6_resets_67 ?_
        exact T _ (mo_ifp c7 rfl)
      · refine lv_iconst (v := 0) hx hb dX6_resets_57 (by decide) ?_
        refine lv_goto (tgt := 68) hx hb dX6_resets_58 (by decide) ?_
        exact T _ (mo_ifn c7 rfl)
    refine va_put (D := D) (ci := 6) (v := .int ((if (F_M_has p1 8) = 0 then (p2 + (F_M_size (se_u (se_u (se_u g 0 25 1) 0 26 ((if (F_M_has p1 8) = 0 then 12 else 4) : Int32)) 0 27 ((if (F_M_has p1 8) = 0 then 0 else p3) : Int32)) p1)) else 0) : Int32)) (ty := .int) (C := RX6) (T := TX6) (N := 50) hx hb hts (se_iw iwX6) tyX6 tyX6_ok nmX6 hown hK hP hD hS 0 rfl rfl 28 (by decide) (hts _ (List.mem_cons_of_mem _ qX6_f159)) (fun _ h9 => h9) rfl (by decide +kernel) rfl rfl (Nat.le_of_ble_eq_true rfl) dX6_resets_68 (fun H locs hP hD hS => ?_)
    replace hP : va_P D se_cl (se_WM k h (se_u (se_u (se_u (se_u g 0 25 1) 0 26 ((if (F_M_has p1 8) = 0 then 12 else 4) : Int32)) 0 27 ((if (F_M_has p1 8) = 0 then 0 else p3) : Int32)) 0 28 ((if (F_M_has p1 8) = 0 then (p2 + (F_M_size (se_u (se_u (se_u g 0 25 1) 0 26 ((if (F_M_has p1 8) = 0 then 12 else 4) : Int32)) 0 27 ((if (F_M_has p1 8) = 0 then 0 else p3) : Int32)) p1)) else 0) : Int32))) H := hP
    replace hD : va_D A (se_WM k h (se_u (se_u (se_u (se_u g 0 25 1) 0 26 ((if (F_M_has p1 8) = 0 then 12 else 4) : Int32)) 0 27 ((if (F_M_has p1 8) = 0 then 0 else p3) : Int32)) 0 28 ((if (F_M_has p1 8) = 0 then (p2 + (F_M_size (se_u (se_u (se_u g 0 25 1) 0 26 ((if (F_M_has p1 8) = 0 then 12 else 4) : Int32)) 0 27 ((if (F_M_has p1 8) = 0 then 0 else p3) : Int32)) p1)) else 0) : Int32))) := hD
    exact se_rv hx hb hr hlocks hK hP hD hS dX6_resets_71 (by rw [F_M_resets, if_pos (α := se_G) c1])
  · exact se_rv hx hb hr hlocks hK hP hD hS dX6_resets_8 (by rw [F_M_resets, if_neg (α := se_G) c1])
set_option maxRecDepth 100000 in
set_option maxHeartbeats 4000000 in
theorem c_M_fits (l : Launch) (D : va_G) (k : Nat → ClassId) (h : Nat → Nat) (sz : Nat) (g : se_G) (p1 : Int32) (p2 : Int32) : Met l yX6_fits (se_w_X6_fits) ({ frames := 2, cells := 0, slots := 0, locals := 42 }) (va_Pc [.ref (h 0), .int p1, .int p2] (se_Pre D se_cl [(k 1, .int), (k 2, .int), (k 3, .boolean), (k 4, .int), (k 5, .int), (k 6, .int)] (se_WM k h g) se_ZN sz)) (se_Qp (F_M_fits g p1 p2)) 0 0 (fun _ => False) := by
  refine se_metP (cc := cX6_fits) (maxL := 5) (ret := (some .boolean)) (by decide) rfl (Nat.le_of_ble_eq_true rfl) ?_
  intro p e s m below meth c ls A hx hb hr hts hown hlocks hml hA hP hK hD hS hZ hl
  replace hl : lv_has ls 5 [(0, .ref (h 0)), (1, .int p1), (2, .int p2)] := hl
  have hF : F_M_fits g p1 p2 = F_M_fits g p1 p2 := rfl
  refine lv_iload_n hx hb dX6_fits_0 rfl (lv_at hl 2 rfl) ?_
  refine lv_aload_n hx hb dX6_fits_1 rfl (lv_at hl 0 rfl) ?_
  refine va_get (D := D) (ci := 6) (v := .int (g 0 21)) (C := RX6) (T := TX6) (N := 50) hx hb hts (se_iw iwX6) hown hK hP 0 rfl rfl 21 (by decide) (hts _ (List.mem_cons_of_mem _ qX6_f69)) (fun _ h9 => h9) rfl dX6_fits_2 ?_
  refine lv_isub hx hb dX6_fits_5 ?_
  refine lv_istore_n (lv' := [(3, .int (p2 - (g 0 21))), (0, .ref (h 0)), (1, .int p1), (2, .int p2)]) hx hb dX6_fits_6 rfl hl (by decide) rfl (fun ls hl => ?_)
  refine lv_aload_n hx hb dX6_fits_7 rfl (lv_at hl 1 rfl) ?_
  refine lv_iload_n hx hb dX6_fits_8 rfl (lv_at hl 2 rfl) ?_
  refine se_cp (va_runV (C := RX6) (As := [.int p1]) (rest := []) ⟨hx, hb, hml, hown, hts⟩ (c_M_size l D k h _ g p1) (se_kV 1 hts q_code_X6_size qX6_m182 q_ini_StreamEndModel q_instanceMethod_X6_size q_sel_X6_size (by decide +kernel) ⟨Nat.le_of_ble_eq_true rfl, Nat.le_of_ble_eq_true rfl⟩ rfl rfl) ⟨se_blind se_ZN_ok, va_recv hK hP (ci := 6) (q0 := 0) rfl rfl, se_pre se_ZN_ok hP hK hD hZ⟩ rfl rfl hl.1 rfl (lv_room (Nat.le_of_ble_eq_true rfl)) dX6_fits_9 ⟨Nat.zero_le _, Nat.zero_le _⟩) ?_
  refine lv_istore (lv' := [(4, .int (F_M_size g p1)), (3, .int (p2 - (g 0 21))), (0, .ref (h 0)), (1, .int p1), (2, .int p2)]) hx hb dX6_fits_12 hl (by decide) rfl (fun ls hl => ?_)
  refine lv_iload hx hb dX6_fits_14 (lv_at hl 0 rfl) ?_
  refine lv_if_ne (tgt := 41) hx hb dX6_fits_16 (by decide) (fun c1 => ?_) (fun c1 => ?_)
  · refine lv_aload_n hx hb dX6_fits_41 rfl (lv_at hl 2 rfl) ?_
    refine se_cp (va_runV (C := RX6) (As := []) (rest := []) ⟨hx, hb, hml, hown, hts⟩ (c_M_room l D k h _ g) (se_kV 0 hts q_code_X6_room qX6_m139 q_ini_StreamEndModel q_instanceMethod_X6_room q_sel_X6_room (by decide +kernel) ⟨Nat.le_of_ble_eq_true rfl, Nat.le_of_ble_eq_true rfl⟩ rfl rfl) ⟨se_blind se_ZN_ok, va_recv hK hP (ci := 6) (q0 := 0) rfl rfl, se_pre se_ZN_ok hP hK hD hZ⟩ rfl rfl hl.1 rfl (lv_room (Nat.le_of_ble_eq_true rfl)) dX6_fits_42 ⟨Nat.zero_le _, Nat.zero_le _⟩) ?_
    refine lv_if_le (tgt := 67) hx hb dX6_fits_45 (by decide) (fun c2 => ?_) (fun c2 => ?_)
    · refine lv_iconst (v := 0) hx hb dX6_fits_67 (by decide) ?_
      exact se_rpz hx hb hr rfl hlocks dX6_fits_68 (by rw [F_M_fits, if_neg (α := Int32) c1, if_pos (α := Int32) c2])
    · refine lv_iload_n hx hb dX6_fits_48 rfl (lv_at hl 1 rfl) ?_
      refine lv_aload_n hx hb dX6_fits_49 rfl (lv_at hl 2 rfl) ?_
      refine se_cp (va_runV (C := RX6) (As := []) (rest := [.int (p2 - (g 0 21))]) ⟨hx, hb, hml, hown, hts⟩ (c_M_room l D k h _ g) (se_kV 0 hts q_code_X6_room qX6_m139 q_ini_StreamEndModel q_instanceMethod_X6_room q_sel_X6_room (by decide +kernel) ⟨Nat.le_of_ble_eq_true rfl, Nat.le_of_ble_eq_true rfl⟩ rfl rfl) ⟨se_blind se_ZN_ok, va_recv hK hP (ci := 6) (q0 := 0) rfl rfl, se_pre se_ZN_ok hP hK hD hZ⟩ rfl rfl hl.1 rfl (lv_room (Nat.le_of_ble_eq_true rfl)) dX6_fits_50 ⟨Nat.zero_le _, Nat.zero_le _⟩) ?_
      refine lv_icmp_ge (tgt := 67) hx hb dX6_fits_53 (by decide) (fun c3 => ?_) (fun c3 => ?_)
      · refine lv_iconst (v := 0) hx hb dX6_fits_67 (by decide) ?_
        exact se_rpz hx hb hr rfl hlocks dX6_fits_68 (by rw [F_M_fits, if_neg (α := Int32) c1, if_neg (α := Int32) c2, if_pos (α := Int32) c3])
      · refine lv_iload_n hx hb dX6_fits_56 rfl (lv_at hl 1 rfl) ?_
        refine lv_iload hx hb dX6_fits_57 (lv_at hl 0 rfl) ?_
        refine lv_iadd hx hb dX6_fits_59 ?_
        refine lv_if_le (tgt := 67) hx hb dX6_fits_60 (by decide) (fun c4 => ?_) (fun c4 => ?_)
        · refine lv_iconst (v := 0) hx hb dX6_fits_67 (by decide) ?_
          exact se_rpz hx hb hr rfl hlocks dX6_fits_68 (by rw [F_M_fits, if_neg (α := Int32) c1, if_neg (α := Int32) c2, if_neg (α := Int32) c3, if_pos (α := Int32) c4])
        · refine lv_iconst (v := 1) hx hb dX6_fits_63 (by decide) ?_
          refine lv_goto (tgt := 68) hx hb dX6_fits_64 (by decide) ?_
          exact se_rpz hx hb hr rfl hlocks dX6_fits_68 (by rw [F_M_fits, if_neg (α := Int32) c1, if_neg (α := Int32) c2, if_neg (α := Int32) c3, if_neg (α := Int32) c4])
  · refine lv_iload_n hx hb dX6_fits_19 rfl (lv_at hl 1 rfl) ?_
    refine lv_if_eq (tgt := 35) hx hb dX6_fits_20 (by decide) (fun c5 => ?_) (fun c5 => ?_)
    · refine lv_iconst (v := 1) hx hb dX6_fits_35 (by decide) ?_
      refine lv_goto (tgt := 40) hx hb dX6_fits_36 (by decide) ?_
      exact se_rpz hx hb hr rfl hlocks dX6_fits_40 (by rw [F_M_fits, if_pos (α := Int32) c1, if_pos (α := Int32) c5])
    · refine lv_iload_n hx hb dX6_fits_23 rfl (lv_at hl 1 rfl) ?_
      refine lv_if_le (tgt := 39) hx hb dX6_fits_24 (by decide) (fun c6 => ?_) (fun c6 => ?_)
      · refine lv_iconst (v := 0) hx hb dX6_fits_39 (by decide) ?_
        exact se_rpz hx hb hr rfl hlocks dX6_fits_40 (by rw [F_M_fits, if_pos (α := Int32) c1, if_neg (α := Int32) c5, if_pos (α := Int32) c6])
      · refine lv_iload_n hx hb dX6_fits_27 rfl (lv_at hl 1 rfl) ?_
        refine lv_aload_n hx hb dX6_fits_28 rfl (lv_at hl 2 rfl) ?_
        refine se_cp (va_runV (C := RX6) (As := []) (rest := [.int (p2 - (g 0 21))]) ⟨hx, hb, hml, hown, hts⟩ (c_M_room l D k h _ g) (se_kV 0 hts q_code_X6_room qX6_m139 q_ini_StreamEndModel q_instanceMethod_X6_room q_sel_X6_room (by decide +kernel) ⟨Nat.le_of_ble_eq_true rfl, Nat.le_of_ble_eq_true rfl⟩ rfl rfl) ⟨se_blind se_ZN_ok, va_recv hK hP (ci := 6) (q0 := 0) rfl rfl, se_pre se_ZN_ok hP hK hD hZ⟩ rfl rfl hl.1 rfl (lv_room (Nat.le_of_ble_eq_true rfl)) dX6_fits_29 ⟨Nat.zero_le _, Nat.zero_le _⟩) ?_
        refine lv_icmp_ge (tgt := 39) hx hb dX6_fits_32 (by decide) (fun c7 => ?_) (fun c7 => ?_)
        · refine lv_iconst (v := 0) hx hb dX6_fits_39 (by decide) ?_
          exact se_rpz hx hb hr rfl hlocks dX6_fits_40 (by rw [F_M_fits, if_pos (α := Int32) c1, if_neg (α := Int32) c5, if_neg (α := Int32) c6, if_pos (α := Int32) c7])
        · refine lv_iconst (v := 1) hx hb dX6_fits_35 (by decide) ?_
          refine lv_goto (tgt := 40) hx hb dX6_fits_36 (by decide) ?_
          exact se_rpz hx hb hr rfl hlocks dX6_fits_40 (by rw [F_M_fits, if_pos (α := Int32) c1, if_neg (α := Int32) c5, if_neg (α := Int32) c6, if_neg (α := Int32) c7])
