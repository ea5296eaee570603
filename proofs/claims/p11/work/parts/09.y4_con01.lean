/-! written by program (wip/gen) -/
set_option maxRecDepth 100000 in
set_option maxHeartbeats 4000000 in
theorem c_M_begin (l : Launch) (D : va_G) (k : Nat → ClassId) (h : Nat → Nat) (sz : Nat) (g : se_G) (p1 : Int32) (p2 : Int32) (hI : p2 = 0 ∨ p2 = 1) : Met l yX6_begin (se_w_X6_begin) ({ frames := 2, cells := 0, slots := 0, locals := 42 }) (va_Pc [.ref (h 0), .int p1, .int p2] (se_Pre D se_cl [(k 1, .int), (k 2, .int), (k 3, .boolean), (k 4, .int), (k 5, .int), (k 6, .int)] (se_WM k h g) se_ZN sz)) (se_Qv D se_cl [(k 1, .int), (k 2, .int), (k 3, .boolean), (k 4, .int), (k 5, .int), (k 6, .int)] (se_WM k h) (F_M_begin g p1 p2) (va_A (se_WM k h g) sz)) 0 0 (va_A (se_WM k h g) sz) := by
  refine se_met (Qc := se_Qv D se_cl [(k 1, .int), (k 2, .int), (k 3, .boolean), (k 4, .int), (k 5, .int), (k 6, .int)] (se_WM k h) (F_M_begin g p1 p2)) (cc := cX6_begin) (maxL := 3) (ret := none) (by decide) rfl (Nat.le_of_ble_eq_true rfl) ?_
  intro p e s m below meth c ls A hx hb hr hts hown hlocks hml hA hP hK hD hS hZ hl
  replace hl : lv_has ls 3 [(0, .ref (h 0)), (1, .int p1), (2, .int p2)] := hl
  have hF : F_M_begin g p1 p2 = F_M_begin g p1 p2 := rfl
  refine lv_aload_n hx hb dX6_begin_0 rfl (lv_at hl 0 rfl) ?_
  refine lv_aload_n hx hb dX6_begin_1 rfl (lv_at hl 0 rfl) ?_
  refine va_get (D := D) (ci := 6) (v := .int (g 0 4)) (C := RX6) (T := TX6) (N := 50) hx hb hts (se_iw iwX6) hown hK hP 0 rfl rfl 4 (by decide) (hts _ (List.mem_cons_of_mem _ qX6_f118)) (fun _ h9 => h9) rfl dX6_begin_2 ?_
  refine se_join (v := ((if (g 0 4) = 0 then 0 else ((if (g 0 4) = 11 then 0 else 1) : Int32)) : Int32)) (pcJ := 22) (restJ := [.ref (h 0)]) (ls := ls) (fun T => ?_) ?_
  · refine lv_if_eq (tgt := 17) hx hb dX6_begin_5 (by decide) (fun c2 => ?_) (fun c2 => ?_)
    · refine lv_iconst (v := 0) hx hb dX6_begin_17 (by decide) ?_
      refine lv_goto (tgt := 22) hx hb dX6_begin_18 (by decide) ?_
      exact T _ (mo_ifp c2 rfl)
    · refine lv_aload_n hx hb dX6_begin_8 rfl (lv_at hl 0 rfl) ?_
      refine va_get (D := D) (ci := 6) (v := .int (g 0 4)) (C := RX6) (T := TX6) (N := 50) hx hb hts (se_iw iwX6) hown hK hP 0 rfl rfl 4 (by decide) (hts _ (List.mem_cons_of_mem _ qX6_f118)) (fun _ h9 => h9) rfl dX6_begin_9 ?_
      refine lv_bipush (v := 11) hx hb dX6_begin_12 (by decide) ?_
      refine lv_icmp_ne (tgt := 21) hx hb dX6_begin_14 (by decide) (fun c3 => ?_) (fun c3 => ?_)
      · refine lv_iconst (v := 1) hx hb dX6_begin_21 (by decide) ?_
        exact T _ (mo_ifn c2 (mo_ifn c3 rfl))
      · refine lv_iconst (v := 0) hx hb dX6_begin_17 (by decide) ?_
        refine lv_goto (tgt := 22) hx hb dX6_begin_18 (by decide) ?_
        exact T _ (mo_ifn c2 (mo_ifp c3 rfl))
  refine va_put (D := D) (ci := 6) (v := .int ((if (g 0 4) = 0 then 0 else ((if (g 0 4) = 11 then 0 else 1) : Int32)) : Int32)) (ty := .int) (C := RX6) (T := TX6) (N := 50) hx hb hts (se_iw iwX6) tyX6 tyX6_ok nmX6 hown hK hP hD hS 0 rfl rfl 2 (by decide) (hts _ (List.mem_cons_of_mem _ qX6_f45)) (fun _ h9 => h9) rfl (by decide +kernel) rfl rfl (Nat.le_of_ble_eq_true rfl) dX6_begin_22 (fun H locs hP hD hS => ?_)
  replace hP : va_P D se_cl (se_WM k h (se_u g 0 2 ((if (g 0 4) = 0 then 0 else ((if (g 0 4) = 11 then 0 else 1) : Int32)) : Int32))) H := hP
  replace hD : va_D A (se_WM k h (se_u g 0 2 ((if (g 0 4) = 0 then 0 else ((if (g 0 4) = 11 then 0 else 1) : Int32)) : Int32))) := hD
  refine lv_aload_n hx hb dX6_begin_25 rfl (lv_at hl 0 rfl) ?_
  refine va_get (D := D) (ci := 6) (v := .int ((if (g 0 4) = 0 then 0 else ((if (g 0 4) = 11 then 0 else 1) : Int32)) : Int32)) (C := RX6) (T := TX6) (N := 50) hx hb hts (se_iw iwX6) hown hK hP 0 rfl rfl 2 (by decide) (hts _ (List.mem_cons_of_mem _ qX6_f45)) (fun _ h9 => h9) rfl dX6_begin_26 ?_
  refine lv_if_le (tgt := 33) hx hb dX6_begin_29 (by decide) (fun c4 => ?_) (fun c4 => ?_)
  · refine lv_aload_n hx hb dX6_begin_33 rfl (lv_at hl 0 rfl) ?_
    refine lv_iload_n hx hb dX6_begin_34 rfl (lv_at hl 1 rfl) ?_
    refine se_cvE (va_runV (C := RX6) (As := [.int p1]) (rest := []) ⟨hx, hb, hml, hown, hts⟩ (c_M_clear l D k h _ (se_u g 0 2 ((if (g 0 4) = 0 then 0 else ((if (g 0 4) = 11 then 0 else 1) : Int32)) : Int32)) p1) (se_kV 1 hts q_code_X6_clear qX6_m127 q_ini_StreamEndModel q_instanceMethod_X6_clear q_sel_X6_clear (by decide +kernel) ⟨Nat.le_of_ble_eq_true rfl, Nat.le_of_ble_eq_true rfl⟩ rfl rfl) ⟨se_blind se_ZN_ok, va_recv hK hP (ci := 6) (q0 := 0) rfl rfl, se_pre se_ZN_ok hP hK hD hZ⟩ rfl rfl hl.1 rfl (lv_room (Nat.le_of_ble_eq_true rfl)) dX6_begin_35 ⟨Nat.zero_le _, Nat.zero_le _⟩) hD hS hA (fun g1 H locs eg1 hP hD hS => ?_)
    replace hF : (F_M_begin_k1 p2 (F_M_clear (se_u g 0 2 ((if (g 0 4) = 0 then 0 else ((if (g 0 4) = 11 then 0 else 1) : Int32)) : Int32)) p1)) = F_M_begin g p1 p2 := by rw [F_M_begin, if_pos (α := se_G) c4]
    rw [← eg1] at hF
    replace hF : F_M_begin_k1 p2 g1 = F_M_begin g p1 p2 := hF
    refine lv_aload_n hx hb dX6_begin_38 rfl (lv_at hl 0 rfl) ?_
    refine lv_iload_n hx hb dX6_begin_39 rfl (lv_at hl 2 rfl) ?_
    refine va_put (D := D) (ci := 6) (v := .int p2) (ty := .boolean) (C := RX6) (T := TX6) (N := 50) hx hb hts (se_iw iwX6) tyX6 tyX6_ok nmX6 hown hK hP hD hS 0 rfl rfl 5 (by decide) (hts _ (List.mem_cons_of_mem _ qX6_f131)) (fun _ h9 => h9) rfl (by decide +kernel) (se_nz hI) (se_fz hI) (Nat.le_of_ble_eq_true rfl) dX6_begin_40 (fun H locs hP hD hS => ?_)
    replace hP : va_P D se_cl (se_WM k h (se_u g1 0 5 p2)) H := hP
    replace hD : va_D A (se_WM k h (se_u g1 0 5 p2)) := hD
    refine lv_aload_n hx hb dX6_begin_43 rfl (lv_at hl 0 rfl) ?_
    refine lv_iload_n hx hb dX6_begin_44 rfl (lv_at hl 2 rfl) ?_
    refine se_join (v := ((if p2 = 0 then 2 else 1) : Int32)) (pcJ := 53) (restJ := [.ref (h 0)]) (ls := ls) (fun T => ?_) ?_
    · refine lv_if_eq (tgt := 52) hx hb dX6_begin_45 (by decide) (fun c6 => ?_) (fun c6 => ?_)
      · refine lv_iconst (v := 2) hx hb dX6_begin_52 (by decide) ?_
        exact T _ (mo_ifp c6 rfl)
      · refine lv_iconst (v := 1) hx hb dX6_begin_48 (by decide) ?_
        refine lv_goto (tgt := 53) hx hb dX6_begin_49 (by decide) ?_
        exact T _ (mo_ifn c6 rfl)
    refine va_put (D := D) (ci := 6) (v := .int ((if p2 = 0 then 2 else 1) : Int32)) (ty := .int) (C := RX6) (T := TX6) (N := 50) hx hb hts (se_iw iwX6) tyX6 tyX6_ok nmX6 hown hK hP hD hS 0 rfl rfl 4 (by decide) (hts _ (List.mem_cons_of_mem _ qX6_f118)) (fun _ h9 => h9) rfl (by decide +kernel) rfl rfl (Nat.le_of_ble_eq_true rfl) dX6_begin_53 (fun H locs hP hD hS => ?_)
    replace hP : va_P D se_cl (se_WM k h (se_u (se_u g1 0 5 p2) 0 4 ((if p2 = 0 then 2 else 1) : Int32))) H := hP
    replace hD : va_D A (se_WM k h (se_u (se_u g1 0 5 p2) 0 4 ((if p2 = 0 then 2 else 1) : Int32))) := hD
    refine lv_iload_n hx hb dX6_begin_56 rfl (lv_at hl 2 rfl) ?_
    refine lv_if_ne (tgt := 75) hx hb dX6_begin_57 (by decide) (fun c7 => ?_) (fun c7 => ?_)
    · exact se_rv hx hb hr hlocks hK hP hD hS dX6_begin_75 (by rw [← hF, F_M_begin_k1, if_neg (α := se_G) c7])
    · refine lv_aload_n hx hb dX6_begin_60 rfl (lv_at hl 0 rfl) ?_
      refine lv_iconst (v := 1) hx hb dX6_begin_61 (by decide) ?_
      refine va_put (D := D) (ci := 6) (v := .int 1) (ty := .boolean) (C := RX6) (T := TX6) (N := 50) hx hb hts (se_iw iwX6) tyX6 tyX6_ok nmX6 hown hK hP hD hS 0 rfl rfl 29 (by decide) (hts _ (List.mem_cons_of_mem _ qX6_f103)) (fun _ h9 => h9) rfl (by decide +kernel) rfl rfl (Nat.le_of_ble_eq_true rfl) dX6_begin_62 (fun H locs hP hD hS => ?_)
      replace hP : va_P D se_cl (se_WM k h (se_u (se_u (se_u g1 0 5 p2) 0 4 ((if p2 = 0 then 2 else 1) : Int32)) 0 29 1)) H := hP
      replace hD : va_D A (se_WM k h (se_u (se_u (se_u g1 0 5 p2) 0 4 ((if p2 = 0 then 2 else 1) : Int32)) 0 29 1)) := hD
      refine lv_aload_n hx hb dX6_begin_65 rfl (lv_at hl 0 rfl) ?_
      refine lv_aload_n hx hb dX6_begin_66 rfl (lv_at hl 0 rfl) ?_
      refine va_get (D := D) (ci := 6) (v := .int (g1 0 8)) (C := RX6) (T := TX6) (N := 50) hx hb hts (se_iw iwX6) hown hK hP 0 rfl rfl 8 (by decide) (hts _ (List.mem_cons_of_mem _ qX6_f48)) (fun _ h9 => h9) rfl dX6_begin_67 ?_
      refine lv_iconst (v := 1) hx hb dX6_begin_70 (by decide) ?_
      refine lv_iadd hx hb dX6_begin_71 ?_
      refine va_put (D := D) (ci := 6) (v := .int ((g1 0 8) + 1)) (ty := .int) (C := RX6) (T := TX6) (N := 50) hx hb hts (se_iw iwX6) tyX6 tyX6_ok nmX6 hown hK hP hD hS 0 rfl rfl 10 (by decide) (hts _ (List.mem_cons_of_mem _ qX6_f54)) (fun _ h9 => h9) rfl (by decide +kernel) rfl rfl (Nat.le_of_ble_eq_true rfl) dX6_begin_72 (fun H locs hP hD hS => ?_)
      replace hP : va_P D se_cl (se_WM k h (se_u (se_u (se_u (se_u g1 0 5 p2) 0 4 ((if p2 = 0 then 2 else 1) : Int32)) 0 29 1) 0 10 ((g1 0 8) + 1))) H := hP
      replace hD : va_D A (se_WM k h (se_u (se_u (se_u (se_u g1 0 5 p2) 0 4 ((if p2 = 0 then 2 else 1) : Int32)) 0 29 1) 0 10 ((g1 0 8) + 1))) := hD
      exact se_rv hx hb hr hlocks hK hP hD hS dX6_begin_75 (by rw [← hF, F_M_begin_k1, if_pos (α := se_G) c7])
  · exact se_rv hx hb hr hlocks hK hP hD hS dX6_begin_32 (by rw [F_M_begin, if_neg (α := se_G) c4])
set_option maxRecDepth 100000 in
set_option maxHeartbeats 4000000 in
theorem c_M_sends (l : Launch) (D : va_G) (k : Nat → ClassId) (h : Nat → Nat) (sz : Nat) (g : se_G)  : Met l yX6_sends (se_w_X6_sends) ({ frames := 0, cells := 0, slots := 0, locals := 0 }) (va_Pc [.ref (h 0)] (se_Pre D se_cl [(k 1, .int), (k 2, .int), (k 3, .boolean), (k 4, .int), (k 5, .int), (k 6, .int)] (se_WM k h g) se_ZN sz)) (se_Qp (F_M_sends g)) 0 0 (fun _ => False) := by
  refine se_metP (cc := cX6_sends) (maxL := 1) (ret := (some .boolean)) (by decide) rfl (Nat.le_of_ble_eq_true rfl) ?_
  intro p e s m below meth c ls A hx hb hr hts hown hlocks hml hA hP hK hD hS hZ hl
  replace hl : lv_has ls 1 [(0, .ref (h 0))] := hl
  have hF : F_M_sends g = F_M_sends g := rfl
  refine lv_aload_n hx hb dX6_sends_0 rfl (lv_at hl 0 rfl) ?_
  refine va_get (D := D) (ci := 6) (v := .int (g 0 4)) (C := RX6) (T := TX6) (N := 50) hx hb hts (se_iw iwX6) hown hK hP 0 rfl rfl 4 (by decide) (hts _ (List.mem_cons_of_mem _ qX6_f118)) (fun _ h9 => h9) rfl dX6_sends_1 ?_
  refine lv_iconst (v := 4) hx hb dX6_sends_4 (by decide) ?_
  refine lv_icmp_eq (tgt := 43) hx hb dX6_sends_5 (by decide) (fun c1 => ?_) (fun c1 => ?_)
  · refine lv_iconst (v := 1) hx hb dX6_sends_43 (by decide) ?_
    refine lv_goto (tgt := 48) hx hb dX6_sends_44 (by decide) ?_
    exact se_rpz hx hb hr rfl hlocks dX6_sends_48 (by rw [F_M_sends, if_pos (α := Int32) c1])
  · refine lv_aload_n hx hb dX6_sends_8 rfl (lv_at hl 0 rfl) ?_
    refine va_get (D := D) (ci := 6) (v := .int (g 0 4)) (C := RX6) (T := TX6) (N := 50) hx hb hts (se_iw iwX6) hown hK hP 0 rfl rfl 4 (by decide) (hts _ (List.mem_cons_of_mem _ qX6_f118)) (fun _ h9 => h9) rfl dX6_sends_9 ?_
    refine lv_iconst (v := 5) hx hb dX6_sends_12 (by decide) ?_
    refine lv_icmp_eq (tgt := 43) hx hb dX6_sends_13 (by decide) (fun c2 => ?_) (fun c2 => ?_)
    · refine lv_iconst (v := 1) hx hb dX6_sends_43 (by decide) ?_
      refine lv_goto (tgt := 48) hx hb dX6_sends_44 (by decide) ?_
      exact se_rpz hx hb hr rfl hlocks dX6_sends_48 (by rw [F_M_sends, if_neg (α := Int32) c1, if_pos (α := Int32) c2])
    · refine lv_aload_n hx hb dX6_sends_16 rfl (lv_at hl 0 rfl) ?_
      refine va_get (D := D) (ci := 6) (v := .int (g 0 4)) (C := RX6) (T := TX6) (N := 50) hx hb hts (se_iw iwX6) hown hK hP 0 rfl rfl 4 (by decide) (hts _ (List.mem_cons_of_mem _ qX6_f118)) (fun _ h9 => h9) rfl dX6_sends_17 ?_
      refine lv_bipush (v := 7) hx hb dX6_sends_20 (by decide) ?_
      refine lv_icmp_eq (tgt := 43) hx hb dX6_sends_22 (by decide) (fun c3 => ?_) (fun c3 => ?_)
      · refine lv_iconst (v := 1) hx hb dX6_sends_43 (by decide) ?_
        refine lv_goto (tgt := 48) hx hb dX6_sends_44 (by decide) ?_
        exact se_rpz hx hb hr rfl hlocks dX6_sends_48 (by rw [F_M_sends, if_neg (α := Int32) c1, if_neg (α := Int32) c2, if_pos (α := Int32) c3])
      · refine lv_aload_n hx hb dX6_sends_25 rfl (lv_at hl 0 rfl) ?_
        refine va_get (D := D) (ci := 6) (v := .int (g 0 4)) (C := RX6) (T := TX6) (N := 50) hx hb hts (se_iw iwX6) hown hK hP 0 rfl rfl 4 (by decide) (hts _ (List.mem_cons_of_mem _ qX6_f118)) (fun _ h9 => h9) rfl dX6_sends_26 ?_
        refine lv_bipush (v := 8) hx hb dX6_sends_29 (by decide) ?_
        refine lv_icmp_eq (tgt := 43) hx hb dX6_sends_31 (by decide) (fun c4 => ?_) (fun c4 => ?_)
        · refine lv_iconst (v := 1) hx hb dX6_sends_43 (by decide) ?_
          refine lv_goto (tgt := 48) hx hb dX6_sends_44 (by decide) ?_
          exact se_rpz hx hb hr rfl hlocks dX6_sends_48 (by rw [F_M_sends, if_neg (α := Int32) c1, if_neg (α := Int32) c2, if_neg (α := Int32) c3, if_pos (α := Int32) c4])
        · refine lv_aload_n hx hb dX6_sends_34 rfl (lv_at hl 0 rfl) ?_
          refine va_get (D := D) (ci := 6) (v := .int (g 0 4)) (C := RX6) (T := TX6) (N := 50) hx hb hts (se_iw iwX6) hown hK hP 0 rfl rfl 4 (by decide) (hts _ (List.mem_cons_of_mem _ qX6_f118)) (fun _ h9 => h9) rfl dX6_sends_35 ?_
          refine lv_bipush (v := 9) hx hb dX6_sends_38 (by decide) ?_
          refine lv_icmp_ne (tgt := 47) hx hb dX6_sends_40 (by decide) (fun c5 => ?_) (fun c5 => ?_)
          · refine lv_iconst (v := 0) hx hb dX6_sends_47 (by decide) ?_
            exact se_rpz hx hb hr rfl hlocks dX6_sends_48 (by rw [F_M_sends, if_neg (α := Int32) c1, if_neg (α := Int32) c2, if_neg (α := Int32) c3, if_neg (α := Int32) c4, if_neg (α := Int32) c5])
          · refine lv_iconst (v := 1) hx hb dX6_sends_43 (by decide) ?_
            refine lv_goto (tgt := 48) hx hb dX6_sends_44 (by decide) ?_
            exact se_rpz hx hb hr rfl hlocks dX6_sends_48 (by rw [F_M_sends, if_neg (α := Int32) c1, if_neg (α := Int32) c2, if_neg (α := Int32) c3, if_neg (α := Int32) c4, if_pos (α := Int32) c5])
set_option maxRecDepth 100000 in
set_option maxHeartbeats 4000000 in
theorem c_M_unsent (l : Launch) (D : va_G) (k : Nat → ClassId) (h : Nat → Nat) (sz : Nat) (g : se_G)  : Met l yX6_unsent (se_w_X6_unsent) ({ frames := 0, cells := 0, slots := 0, locals := 0 }) (va_Pc [.ref (h 0)] (se_Pre D se_cl [(k 1, .int), (k 2, .int), (k 3, .boolean), (k 4, .int), (k 5, .int), (k 6, .int)] (se_WM k h g) se_ZN sz)) (se_Qp (F_M_unsent g)) 0 0 (fun _ => False) := by
  refine se_metP (cc := cX6_unsent) (maxL := 1) (ret := (some .int)) (by decide) rfl (Nat.le_of_ble_eq_true rfl) ?_
  intro p e s m below meth c ls A hx hb hr hts hown hlocks hml hA hP hK hD hS hZ hl
  replace hl : lv_has ls 1 [(0, .ref (h 0))] := hl
  have hF : F_M_unsent g = F_M_unsent g := rfl
  refine lv_aload_n hx hb dX6_unsent_0 rfl (lv_at hl 0 rfl) ?_
  refine va_get (D := D) (ci := 6) (v := .int (g 0 13)) (C := RX6) (T := TX6) (N := 50) hx hb hts (se_iw iwX6) hown hK hP 0 rfl rfl 13 (by decide) (hts _ (List.mem_cons_of_mem _ qX6_f60)) (fun _ h9 => h9) rfl dX6_unsent_1 ?_
  refine lv_aload_n hx hb dX6_unsent_4 rfl (lv_at hl 0 rfl) ?_
  refine va_get (D := D) (ci := 6) (v := .int (g 0 10)) (C := RX6) (T := TX6) (N := 50) hx hb hts (se_iw iwX6) hown hK hP 0 rfl rfl 10 (by decide) (hts _ (List.mem_cons_of_mem _ qX6_f54)) (fun _ h9 => h9) rfl dX6_unsent_5 ?_
  refine lv_aload_n hx hb dX6_unsent_8 rfl (lv_at hl 0 rfl) ?_
  refine va_get (D := D) (ci := 6) (v := .int (g 0 14)) (C := RX6) (T := TX6) (N := 50) hx hb hts (se_iw iwX6) hown hK hP 0 rfl rfl 14 (by decide) (hts _ (List.mem_cons_of_mem _ qX6_f57)) (fun _ h9 => h9) rfl dX6_unsent_9 ?_
  refine lv_isub hx hb dX6_unsent_12 ?_
  refine lv_isub hx hb dX6_unsent_13 ?_
  exact se_rp hx hb hr  hlocks dX6_unsent_14 (by rw [F_M_unsent])
set_option maxRecDepth 100000 in
set_option maxHeartbeats 4000000 in
theorem c_M_owesLast (l : Launch) (D : va_G) (k : Nat → ClassId) (h : Nat → Nat) (sz : Nat) (g : se_G)  : Met l yX6_owesLast (se_w_X6_owesLast) ({ frames := 0, cells := 0, slots := 0, locals := 0 }) (va_Pc [.ref (h 0)] (se_Pre D se_cl [(k 1, .int), (k 2, .int), (k 3, .boolean), (k 4, .int), (k 5, .int), (k 6, .int)] (se_WM k h g) se_ZN sz)) (se_Qp (F_M_owesLast g)) 0 0 (fun _ => False) := by
  refine se_metP (cc := cX6_owesLast) (maxL := 1) (ret := (some .boolean)) (by decide) rfl (Nat.le_of_ble_eq_true rfl) ?_
  intro p e s m below meth c ls A hx hb hr hts hown hlocks hml hA hP hK hD hS hZ hl
  replace hl : lv_has ls 1 [(0, .ref (h 0))] := hl
  have hF : F_M_owesLast g = F_M_owesLast g := rfl
  refine lv_aload_n hx hb dX6_owesLast_0 rfl (lv_at hl 0 rfl) ?_
  refine va_get (D := D) (ci := 6) (v := .int (g 0 6)) (C := RX6) (T := TX6) (N := 50) hx hb hts (se_iw iwX6) hown hK hP 0 rfl rfl 6 (by decide) (hts _ (List.mem_cons_of_mem _ qX6_f82)) (fun _ h9 => h9) rfl dX6_owesLast_1 ?_
  refine lv_if_eq (tgt := 27) hx hb dX6_owesLast_4 (by decide) (fun c1 => ?_) (fun c1 => ?_)
  · refine lv_iconst (v := 0) hx hb dX6_owesLast_27 (by decide) ?_
    exact se_rpz hx hb hr rfl hlocks dX6_owesLast_28 (by rw [F_M_owesLast, if_pos (α := Int32) c1])
  · refine lv_aload_n hx hb dX6_owesLast_7 rfl (lv_at hl 0 rfl) ?_
    refine va_get (D := D) (ci := 6) (v := .int (g 0 10)) (C := RX6) (T := TX6) (N := 50) hx hb hts (se_iw iwX6) hown hK hP 0 rfl rfl 10 (by decide) (hts _ (List.mem_cons_of_mem _ qX6_f54)) (fun _ h9 => h9) rfl dX6_owesLast_8 ?_
    refine lv_aload_n hx hb dX6_owesLast_11 rfl (lv_at hl 0 rfl) ?_
    refine va_get (D := D) (ci := 6) (v := .int (g 0 14)) (C := RX6) (T := TX6) (N := 50) hx hb hts (se_iw iwX6) hown hK hP 0 rfl rfl 14 (by decide) (hts _ (List.mem_cons_of_mem _ qX6_f57)) (fun _ h9 => h9) rfl dX6_owesLast_12 ?_
    refine lv_isub hx hb dX6_owesLast_15 ?_
    refine lv_aload_n hx hb dX6_owesLast_16 rfl (lv_at hl 0 rfl) ?_
    refine va_get (D := D) (ci := 6) (v := .int (g 0 13)) (C := RX6) (T := TX6) (N := 50) hx hb hts (se_iw iwX6) hown hK hP 0 rfl rfl 13 (by decide) (hts _ (List.mem_cons_of_mem _ qX6_f60)) (fun _ h9 => h9) rfl dX6_owesLast_17 ?_
    refine lv_icmp_gt (tgt := 27) hx hb dX6_owesLast_20 (by decide) (fun c2 => ?_) (fun c2 => ?_)
    · refine lv_iconst (v := 0) hx hb dX6_owesLast_27 (by decide) ?_
      exact se_rpz hx hb hr rfl hlocks dX6_owesLast_28 (by rw [F_M_owesLast, if_neg (α := Int32) c1, if_pos (α := Int32) c2])
    · refine lv_iconst (v := 1) hx hb dX6_owesLast_23 (by decide) ?_
      refine lv_goto (tgt := 28) hx hb dX6_owesLast_24 (by decide) ?_
      exact se_rpz hx hb hr rfl hlocks dX6_owesLast_28 (by rw [F_M_owesLast, if_neg (α := Int32) c1, if_neg (α := Int32) c2])
