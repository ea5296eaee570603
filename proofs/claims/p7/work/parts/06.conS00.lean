/-! written by program (wip/gen) -/
set_option maxRecDepth 100000 in
set_option maxHeartbeats 4000000 in
theorem c_S_isEnded (l : Launch) (D : va_G) (k : Nat → ClassId) (h : Nat → Nat) (sz : Nat) (g : se_G)  : Met l yX5_isEnded (se_w_X5_isEnded) ({ frames := 0, cells := 0, slots := 0, locals := 0 }) (va_Pc [.ref (h 0)] (se_Pre D se_cl [(k 2, .byte), (k 4, .int), (k 8, .byte), (k 10, .byte)] (se_WS k h g) se_ZN sz)) (se_Qp (F_S_isEnded g)) 0 0 (fun _ => False) := by
  refine se_metP (cc := cX5_isEnded) (maxL := 1) (ret := (some .boolean)) (by decide) rfl (Nat.le_of_ble_eq_true rfl) ?_
  intro p e s m below meth c ls A hx hb hr hts hown hlocks hml hA hP hK hD hS hZ hl
  replace hl : lv_has ls 1 [(0, .ref (h 0))] := hl
  have hF : F_S_isEnded g = F_S_isEnded g := rfl
  refine lv_aload_n hx hb dX5_isEnded_0 rfl (lv_at hl 0 rfl) ?_
  refine va_get (D := D) (ci := 5) (v := .int (g 0 9)) (C := RX5) (T := TX5) (N := 12) hx hb hts (se_iw iwX5) hown hK hP 0 rfl rfl 9 (by decide) (hts _ (List.mem_cons_of_mem _ qX5_f60)) (fun _ h9 => h9) rfl dX5_isEnded_1 ?_
  refine lv_if_eq (tgt := 16) hx hb dX5_isEnded_4 (by decide) (fun c1 => ?_) (fun c1 => ?_)
  · refine lv_iconst (v := 1) hx hb dX5_isEnded_16 (by decide) ?_
    refine lv_goto (tgt := 21) hx hb dX5_isEnded_17 (by decide) ?_
    exact se_rpz hx hb hr rfl hlocks dX5_isEnded_21 (by rw [F_S_isEnded, if_pos c1])
  · refine lv_aload_n hx hb dX5_isEnded_7 rfl (lv_at hl 0 rfl) ?_
    refine va_get (D := D) (ci := 5) (v := .int (g 0 9)) (C := RX5) (T := TX5) (N := 12) hx hb hts (se_iw iwX5) hown hK hP 0 rfl rfl 9 (by decide) (hts _ (List.mem_cons_of_mem _ qX5_f60)) (fun _ h9 => h9) rfl dX5_isEnded_8 ?_
    refine lv_bipush (v := 11) hx hb dX5_isEnded_11 (by decide) ?_
    refine lv_icmp_ne (tgt := 20) hx hb dX5_isEnded_13 (by decide) (fun c2 => ?_) (fun c2 => ?_)
    · refine lv_iconst (v := 0) hx hb dX5_isEnded_20 (by decide) ?_
      exact se_rpz hx hb hr rfl hlocks dX5_isEnded_21 (by rw [F_S_isEnded, if_neg c1, if_neg c2])
    · refine lv_iconst (v := 1) hx hb dX5_isEnded_16 (by decide) ?_
      refine lv_goto (tgt := 21) hx hb dX5_isEnded_17 (by decide) ?_
      exact se_rpz hx hb hr rfl hlocks dX5_isEnded_21 (by rw [F_S_isEnded, if_neg c1, if_pos c2])
set_option maxRecDepth 100000 in
set_option maxHeartbeats 4000000 in
theorem c_S_Outgoing_windowIs (l : Launch) (D : va_G) (k : Nat → ClassId) (h : Nat → Nat) (sz : Nat) (g : se_G) (p1 : Int32) (p2 : Int32) (p3 : Int32) : Met l yX2_windowIs (se_w_X2_windowIs) ({ frames := 0, cells := 0, slots := 0, locals := 0 }) (va_Pc [.ref (h 1), .int p1, .int p2, .int p3] (se_Pre D se_cl [(k 2, .byte), (k 4, .int), (k 8, .byte), (k 10, .byte)] (se_WS k h g) se_ZN sz)) (se_Qv D se_cl [(k 2, .byte), (k 4, .int), (k 8, .byte), (k 10, .byte)] (se_WS k h) (F_S_Outgoing_windowIs g p1 p2 p3) (va_A (se_WS k h g) sz)) 0 0 (va_A (se_WS k h g) sz) := by
  refine se_met (Qc := se_Qv D se_cl [(k 2, .byte), (k 4, .int), (k 8, .byte), (k 10, .byte)] (se_WS k h) (F_S_Outgoing_windowIs g p1 p2 p3)) (cc := cX2_windowIs) (maxL := 4) (ret := none) (by decide) rfl (Nat.le_of_ble_eq_true rfl) ?_
  intro p e s m below meth c ls A hx hb hr hts hown hlocks hml hA hP hK hD hS hZ hl
  replace hl : lv_has ls 4 [(0, .ref (h 1)), (1, .int p1), (2, .int p2), (3, .int p3)] := hl
  have hF : F_S_Outgoing_windowIs g p1 p2 p3 = F_S_Outgoing_windowIs g p1 p2 p3 := rfl
  refine lv_aload_n hx hb dX2_windowIs_0 rfl (lv_at hl 0 rfl) ?_
  refine lv_iload_n hx hb dX2_windowIs_1 rfl (lv_at hl 1 rfl) ?_
  refine va_put (D := D) (ci := 2) (v := .int p1) (ty := .int) (C := RX2) (T := TX2) (N := 13) hx hb hts (se_iw iwX2) tyX2 tyX2_ok nmX2 hown hK hP hD hS 1 rfl rfl 10 (by decide) (hts _ (List.mem_cons_of_mem _ qX2_f56)) (fun _ h9 => h9) rfl (by decide +kernel) rfl rfl (Nat.le_of_ble_eq_true rfl) dX2_windowIs_2 (fun H locs hP hD hS => ?_)
  replace hP : va_P D se_cl (se_WS k h (se_u g 1 10 p1)) H := hP
  replace hD : va_D A (se_WS k h (se_u g 1 10 p1)) := hD
  refine lv_aload_n hx hb dX2_windowIs_5 rfl (lv_at hl 0 rfl) ?_
  refine lv_iload_n hx hb dX2_windowIs_6 rfl (lv_at hl 2 rfl) ?_
  refine va_put (D := D) (ci := 2) (v := .int p2) (ty := .int) (C := RX2) (T := TX2) (N := 13) hx hb hts (se_iw iwX2) tyX2 tyX2_ok nmX2 hown hK hP hD hS 1 rfl rfl 11 (by decide) (hts _ (List.mem_cons_of_mem _ qX2_f84)) (fun _ h9 => h9) rfl (by decide +kernel) rfl rfl (Nat.le_of_ble_eq_true rfl) dX2_windowIs_7 (fun H locs hP hD hS => ?_)
  replace hP : va_P D se_cl (se_WS k h (se_u (se_u g 1 10 p1) 1 11 p2)) H := hP
  replace hD : va_D A (se_WS k h (se_u (se_u g 1 10 p1) 1 11 p2)) := hD
  refine lv_aload_n hx hb dX2_windowIs_10 rfl (lv_at hl 0 rfl) ?_
  refine lv_iload_n hx hb dX2_windowIs_11 rfl (lv_at hl 3 rfl) ?_
  refine va_put (D := D) (ci := 2) (v := .int p3) (ty := .int) (C := RX2) (T := TX2) (N := 13) hx hb hts (se_iw iwX2) tyX2 tyX2_ok nmX2 hown hK hP hD hS 1 rfl rfl 12 (by decide) (hts _ (List.mem_cons_of_mem _ qX2_f87)) (fun _ h9 => h9) rfl (by decide +kernel) rfl rfl (Nat.le_of_ble_eq_true rfl) dX2_windowIs_12 (fun H locs hP hD hS => ?_)
  replace hP : va_P D se_cl (se_WS k h (se_u (se_u (se_u g 1 10 p1) 1 11 p2) 1 12 p3)) H := hP
  replace hD : va_D A (se_WS k h (se_u (se_u (se_u g 1 10 p1) 1 11 p2) 1 12 p3)) := hD
  exact se_rv hx hb hr hlocks hK hP hD hS dX2_windowIs_15 (by rw [F_S_Outgoing_windowIs])
set_option maxRecDepth 100000 in
set_option maxHeartbeats 4000000 in
theorem c_S_Outgoing_restart (l : Launch) (D : va_G) (k : Nat → ClassId) (h : Nat → Nat) (sz : Nat) (g : se_G) (p1 : Int32) (p2 : Int32) : Met l yX2_restart (se_w_X2_restart) ({ frames := 1, cells := 0, slots := 0, locals := 23 }) (va_Pc [.ref (h 1), .int p1, .int p2] (se_Pre D se_cl [(k 2, .byte), (k 4, .int), (k 8, .byte), (k 10, .byte)] (se_WS k h g) se_ZN sz)) (se_Qv D se_cl [(k 2, .byte), (k 4, .int), (k 8, .byte), (k 10, .byte)] (se_WS k h) (F_S_Outgoing_restart g p1 p2) (va_A (se_WS k h g) sz)) 0 0 (va_A (se_WS k h g) sz) := by
  refine se_met (Qc := se_Qv D se_cl [(k 2, .byte), (k 4, .int), (k 8, .byte), (k 10, .byte)] (se_WS k h) (F_S_Outgoing_restart g p1 p2)) (cc := cX2_restart) (maxL := 3) (ret := none) (by decide) rfl (Nat.le_of_ble_eq_true rfl) ?_
  intro p e s m below meth c ls A hx hb hr hts hown hlocks hml hA hP hK hD hS hZ hl
  replace hl : lv_has ls 3 [(0, .ref (h 1)), (1, .int p1), (2, .int p2)] := hl
  have hF : F_S_Outgoing_restart g p1 p2 = F_S_Outgoing_restart g p1 p2 := rfl
  refine lv_aload_n hx hb dX2_restart_0 rfl (lv_at hl 0 rfl) ?_
  refine lv_iconst (v := 0) hx hb dX2_restart_1 (by decide) ?_
  refine va_put (D := D) (ci := 2) (v := .int 0) (ty := .int) (C := RX2) (T := TX2) (N := 13) hx hb hts (se_iw iwX2) tyX2 tyX2_ok nmX2 hown hK hP hD hS 1 rfl rfl 1 (by decide) (hts _ (List.mem_cons_of_mem _ qX2_f19)) (fun _ h9 => h9) rfl (by decide +kernel) rfl rfl (Nat.le_of_ble_eq_true rfl) dX2_restart_2 (fun H locs hP hD hS => ?_)
  replace hP : va_P D se_cl (se_WS k h (se_u g 1 1 0)) H := hP
  replace hD : va_D A (se_WS k h (se_u g 1 1 0)) := hD
  refine lv_aload_n hx hb dX2_restart_5 rfl (lv_at hl 0 rfl) ?_
  refine lv_iconst (v := 0) hx hb dX2_restart_6 (by decide) ?_
  refine va_put (D := D) (ci := 2) (v := .int 0) (ty := .int) (C := RX2) (T := TX2) (N := 13) hx hb hts (se_iw iwX2) tyX2 tyX2_ok nmX2 hown hK hP hD hS 1 rfl rfl 2 (by decide) (hts _ (List.mem_cons_of_mem _ qX2_f22)) (fun _ h9 => h9) rfl (by decide +kernel) rfl rfl (Nat.le_of_ble_eq_true rfl) dX2_restart_7 (fun H locs hP hD hS => ?_)
  replace hP : va_P D se_cl (se_WS k h (se_u (se_u g 1 1 0) 1 2 0)) H := hP
  replace hD : va_D A (se_WS k h (se_u (se_u g 1 1 0) 1 2 0)) := hD
  refine lv_aload_n hx hb dX2_restart_10 rfl (lv_at hl 0 rfl) ?_
  refine lv_iconst (v := 0) hx hb dX2_restart_11 (by decide) ?_
  refine va_put (D := D) (ci := 2) (v := .int 0) (ty := .int) (C := RX2) (T := TX2) (N := 13) hx hb hts (se_iw iwX2) tyX2 tyX2_ok nmX2 hown hK hP hD hS 1 rfl rfl 3 (by decide) (hts _ (List.mem_cons_of_mem _ qX2_f25)) (fun _ h9 => h9) rfl (by decide +kernel) rfl rfl (Nat.le_of_ble_eq_true rfl) dX2_restart_12 (fun H locs hP hD hS => ?_)
  replace hP : va_P D se_cl (se_WS k h (se_u (se_u (se_u g 1 1 0) 1 2 0) 1 3 0)) H := hP
  replace hD : va_D A (se_WS k h (se_u (se_u (se_u g 1 1 0) 1 2 0) 1 3 0)) := hD
  refine lv_aload_n hx hb dX2_restart_15 rfl (lv_at hl 0 rfl) ?_
  refine lv_iload_n hx hb dX2_restart_16 rfl (lv_at hl 1 rfl) ?_
  refine va_put (D := D) (ci := 2) (v := .int p1) (ty := .int) (C := RX2) (T := TX2) (N := 13) hx hb hts (se_iw iwX2) tyX2 tyX2_ok nmX2 hown hK hP hD hS 1 rfl rfl 4 (by decide) (hts _ (List.mem_cons_of_mem _ qX2_f28)) (fun _ h9 => h9) rfl (by decide +kernel) rfl rfl (Nat.le_of_ble_eq_true rfl) dX2_restart_17 (fun H locs hP hD hS => ?_)
  replace hP : va_P D se_cl (se_WS k h (se_u (se_u (se_u (se_u g 1 1 0) 1 2 0) 1 3 0) 1 4 p1)) H := hP
  replace hD : va_D A (se_WS k h (se_u (se_u (se_u (se_u g 1 1 0) 1 2 0) 1 3 0) 1 4 p1)) := hD
  refine lv_aload_n hx hb dX2_restart_20 rfl (lv_at hl 0 rfl) ?_
  refine lv_iload_n hx hb dX2_restart_21 rfl (lv_at hl 1 rfl) ?_
  refine va_put (D := D) (ci := 2) (v := .int p1) (ty := .int) (C := RX2) (T := TX2) (N := 13) hx hb hts (se_iw iwX2) tyX2 tyX2_ok nmX2 hown hK hP hD hS 1 rfl rfl 5 (by decide) (hts _ (List.mem_cons_of_mem _ qX2_f31)) (fun _ h9 => h9) rfl (by decide +kernel) rfl rfl (Nat.le_of_ble_eq_true rfl) dX2_restart_22 (fun H locs hP hD hS => ?_)
  replace hP : va_P D se_cl (se_WS k h (se_u (se_u (se_u (se_u (se_u g 1 1 0) 1 2 0) 1 3 0) 1 4 p1) 1 5 p1)) H := hP
  replace hD : va_D A (se_WS k h (se_u (se_u (se_u (se_u (se_u g 1 1 0) 1 2 0) 1 3 0) 1 4 p1) 1 5 p1)) := hD
  refine lv_aload_n hx hb dX2_restart_25 rfl (lv_at hl 0 rfl) ?_
  refine lv_iload_n hx hb dX2_restart_26 rfl (lv_at hl 1 rfl) ?_
  refine va_put (D := D) (ci := 2) (v := .int p1) (ty := .int) (C := RX2) (T := TX2) (N := 13) hx hb hts (se_iw iwX2) tyX2 tyX2_ok nmX2 hown hK hP hD hS 1 rfl rfl 6 (by decide) (hts _ (List.mem_cons_of_mem _ qX2_f34)) (fun _ h9 => h9) rfl (by decide +kernel) rfl rfl (Nat.le_of_ble_eq_true rfl) dX2_restart_27 (fun H locs hP hD hS => ?_)
  replace hP : va_P D se_cl (se_WS k h (se_u (se_u (se_u (se_u (se_u (se_u g 1 1 0) 1 2 0) 1 3 0) 1 4 p1) 1 5 p1) 1 6 p1)) H := hP
  replace hD : va_D A (se_WS k h (se_u (se_u (se_u (se_u (se_u (se_u g 1 1 0) 1 2 0) 1 3 0) 1 4 p1) 1 5 p1) 1 6 p1)) := hD
  refine lv_aload_n hx hb dX2_restart_30 rfl (lv_at hl 0 rfl) ?_
  refine lv_iconst (v := 0) hx hb dX2_restart_31 (by decide) ?_
  refine va_put (D := D) (ci := 2) (v := .int 0) (ty := .boolean) (C := RX2) (T := TX2) (N := 13) hx hb hts (se_iw iwX2) tyX2 tyX2_ok nmX2 hown hK hP hD hS 1 rfl rfl 7 (by decide) (hts _ (List.mem_cons_of_mem _ qX2_f37)) (fun _ h9 => h9) rfl (by decide +kernel) rfl rfl (Nat.le_of_ble_eq_true rfl) dX2_restart_32 (fun H locs hP hD hS => ?_)
  replace hP : va_P D se_cl (se_WS k h (se_u (se_u (se_u (se_u (se_u (se_u (se_u g 1 1 0) 1 2 0) 1 3 0) 1 4 p1) 1 5 p1) 1 6 p1) 1 7 0)) H := hP
  replace hD : va_D A (se_WS k h (se_u (se_u (se_u (se_u (se_u (se_u (se_u g 1 1 0) 1 2 0) 1 3 0) 1 4 p1) 1 5 p1) 1 6 p1) 1 7 0)) := hD
  refine lv_aload_n hx hb dX2_restart_35 rfl (lv_at hl 0 rfl) ?_
  refine lv_iconst (v := 0) hx hb dX2_restart_36 (by decide) ?_
  refine va_put (D := D) (ci := 2) (v := .int 0) (ty := .boolean) (C := RX2) (T := TX2) (N := 13) hx hb hts (se_iw iwX2) tyX2 tyX2_ok nmX2 hown hK hP hD hS 1 rfl rfl 8 (by decide) (hts _ (List.mem_cons_of_mem _ qX2_f41)) (fun _ h9 => h9) rfl (by decide +kernel) rfl rfl (Nat.le_of_ble_eq_true rfl) dX2_restart_37 (fun H locs hP hD hS => ?_)
  replace hP : va_P D se_cl (se_WS k h (se_u (se_u (se_u (se_u (se_u (se_u (se_u (se_u g 1 1 0) 1 2 0) 1 3 0) 1 4 p1) 1 5 p1) 1 6 p1) 1 7 0) 1 8 0)) H := hP
  replace hD : va_D A (se_WS k h (se_u (se_u (se_u (se_u (se_u (se_u (se_u (se_u g 1 1 0) 1 2 0) 1 3 0) 1 4 p1) 1 5 p1) 1 6 p1) 1 7 0) 1 8 0)) := hD
  refine lv_aload_n hx hb dX2_restart_40 rfl (lv_at hl 0 rfl) ?_
  refine lv_iload_n hx hb dX2_restart_41 rfl (lv_at hl 2 rfl) ?_
  refine va_put (D := D) (ci := 2) (v := .int p2) (ty := .int) (C := RX2) (T := TX2) (N := 13) hx hb hts (se_iw iwX2) tyX2 tyX2_ok nmX2 hown hK hP hD hS 1 rfl rfl 9 (by decide) (hts _ (List.mem_cons_of_mem _ qX2_f15)) (fun _ h9 => h9) rfl (by decide +kernel) rfl rfl (Nat.le_of_ble_eq_true rfl) dX2_restart_42 (fun H locs hP hD hS => ?_)
  replace hP : va_P D se_cl (se_WS k h (se_u (se_u (se_u (se_u (se_u (se_u (se_u (se_u (se_u g 1 1 0) 1 2 0) 1 3 0) 1 4 p1) 1 5 p1) 1 6 p1) 1 7 0) 1 8 0) 1 9 p2)) H := hP
  replace hD : va_D A (se_WS k h (se_u (se_u (se_u (se_u (se_u (se_u (se_u (se_u (se_u g 1 1 0) 1 2 0) 1 3 0) 1 4 p1) 1 5 p1) 1 6 p1) 1 7 0) 1 8 0) 1 9 p2)) := hD
  refine lv_aload_n hx hb dX2_restart_45 rfl (lv_at hl 0 rfl) ?_
  refine lv_iconst (v := 0) hx hb dX2_restart_46 (by decide) ?_
  refine lv_iconst (v := 0) hx hb dX2_restart_47 (by decide) ?_
  refine lv_iconst (v := 0) hx hb dX2_restart_48 (by decide) ?_
  refine se_cvE (va_runV (C := RX2) (As := [.int 0, .int 0, .int 0]) (rest := []) ⟨hx, hb, hml, hown, hts⟩ (c_S_Outgoing_windowIs l D k h _ (se_u (se_u (se_u (se_u (se_u (se_u (se_u (se_u (se_u g 1 1 0) 1 2 0) 1 3 0) 1 4 p1) 1 5 p1) 1 6 p1) 1 7 0) 1 8 0) 1 9 p2) 0 0 0) (se_kV 3 hts q_code_X2_windowIs qX2_m44 q_ini_StreamEnd_Outgoing q_instanceMethod_X2_windowIs q_sel_X2_windowIs (by decide +kernel) ⟨Nat.le_of_ble_eq_true rfl, Nat.le_of_ble_eq_true rfl⟩ rfl rfl) ⟨se_blind se_ZN_ok, va_recv hK hP (ci := 2) (q0 := 1) rfl rfl, se_pre se_ZN_ok hP hK hD hZ⟩ rfl rfl hl.1 rfl (lv_room (Nat.le_of_ble_eq_true rfl)) dX2_restart_49 ⟨Nat.zero_le _, Nat.zero_le _⟩) hD hS hA (fun g1 H locs eg1 hP hD hS => ?_)
  exact se_rv hx hb hr hlocks hK hP hD hS dX2_restart_52 (by subst eg1; rw [F_S_Outgoing_restart])
set_option maxRecDepth 100000 in
set_option maxHeartbeats 4000000 in
theorem c_S_Arrays_fill (l : Launch) (D : va_G) (k : Nat → ClassId) (h : Nat → Nat) (sz : Nat) (g : se_G) (p1 : Int32) : Met l yXA_fill (se_w_XA_fill) ({ frames := 0, cells := 0, slots := 0, locals := 0 }) (va_Pc [.ref (h 4), .int p1] (se_Pre D se_cl [(k 2, .byte), (k 4, .int), (k 8, .byte), (k 10, .byte)] (se_WS k h g) se_ZN sz)) (se_Qv D se_cl [(k 2, .byte), (k 4, .int), (k 8, .byte), (k 10, .byte)] (se_WS k h) (F_S_Arrays_fill g p1) (va_A (se_WS k h g) sz)) 0 0 (va_A (se_WS k h g) sz) := by
  refine se_met (Qc := se_Qv D se_cl [(k 2, .byte), (k 4, .int), (k 8, .byte), (k 10, .byte)] (se_WS k h) (F_S_Arrays_fill g p1)) (cc := cXA_fill) (maxL := 4) (ret := none) (by decide) rfl (Nat.le_of_ble_eq_true rfl) ?_
  intro p e s m below meth c ls A hx hb hr hts hown hlocks hml hA hP hK hD hS hZ hl
  replace hl : lv_has ls 4 [(0, .ref (h 4)), (1, .int p1)] := hl
  have L5 : ∀ (n : Nat) (gj5 : se_G) (v1_5 : Int32) (v2_5 : Int32) (v3_5 : Int32) (H : Heap) (locs : List Loc) (ls : Array Slot), (0 ≤ (v2_5).toInt ∧ v3_5 = 2048) → ((v3_5).toInt - (v2_5).toInt).toNat < n → F_S_Arrays_fill_j5 n gj5 v1_5 v2_5 v3_5 = F_S_Arrays_fill g p1 → va_P D se_cl (se_WS k h gj5) H → va_D A (se_WS k h gj5) → va_S A s.heap H locs → lv_has ls 4 [(0, .ref (h 4)), (1, .int v1_5), (2, .int v2_5), (3, .int v3_5)] → W p l e ({ frames := 0, cells := 0, slots := 0, locals := 0 }) s m [.ref (h 4), .int p1].toArray below meth c H locs 0 0 (MQ below (se_Qv D se_cl [(k 2, .byte), (k 4, .int), (k 8, .byte), (k 10, .byte)] (se_WS k h) (F_S_Arrays_fill g p1) A) [.ref (h 4), .int p1].toArray s 0 0 A) (F0 m 5 ls []) := by
    intro n
    induction n with
    | zero => intro gj5 v1_5 v2_5 v3_5 H locs ls hI hM; exact absurd hM (Nat.not_lt_zero _)
    | succ n ih =>
      intro gj5 v1_5 v2_5 v3_5 H locs ls hI hM hF hP hD hS hl
      refine lv_iload_n hx hb dXA_fill_5 rfl (lv_at hl 2 rfl) ?_
      refine lv_iload_n hx hb dXA_fill_6 rfl (lv_at hl 3 rfl) ?_
      refine lv_icmp_ge (tgt := 20) hx hb dXA_fill_7 (by decide) (fun c1 => ?_) (fun c1 => ?_)
      · exact se_rv hx hb hr hlocks hK hP hD hS dXA_fill_20 (by rw [← hF, F_S_Arrays_fill_j5, if_pos c1])
      · refine lv_aload_n hx hb dXA_fill_10 rfl (lv_at hl 0 rfl) ?_
        refine lv_iload_n hx hb dXA_fill_11 rfl (lv_at hl 2 rfl) ?_
        refine lv_iload_n hx hb dXA_fill_12 rfl (lv_at hl 1 rfl) ?_
        refine va_iast hx hb hK hP hD hS 4 1 rfl rfl (se_inN (N := 2048) (by decide) (se_nn hI.1) (hI.2 ▸ c1)) dXA_fill_13 (fun H locs hP hD hS => ?_)
        replace hP : va_P D se_cl (se_WS k h (se_u gj5 4 (Int32.toNatClampNeg v2_5) v1_5)) H := hP
        replace hD : va_D A (se_WS k h (se_u gj5 4 (Int32.toNatClampNeg v2_5) v1_5)) := hD
        refine lv_iinc (v := (v2_5 + 1)) (lv' := [(2, .int (v2_5 + 1)), (0, .ref (h 4)), (1, .int v1_5), (3, .int v3_5)]) hx hb dXA_fill_14 hl (k := 2) rfl rfl (by decide) rfl (fun ls hl => ?_)
        refine lv_goto (tgt := 5) hx hb dXA_fill_17 (by decide) ?_
        exact ih (se_u gj5 4 (Int32.toNatClampNeg v2_5) v1_5) v1_5 (v2_5 + 1) v3_5 _ _ ls ⟨se_inc0 c1 hI.1, hI.2⟩ (se_dec c1 hM) (by rw [← hF, F_S_Arrays_fill_j5, if_neg c1]) hP hD hS (lv_sub hl [1, 2, 0, 3] rfl)
  have hF : F_S_Arrays_fill g p1 = F_S_Arrays_fill g p1 := rfl
  refine lv_iconst (v := 0) hx hb dXA_fill_0 (by decide) ?_
  refine lv_istore_n (lv' := [(2, .int 0), (0, .ref (h 4)), (1, .int p1)]) hx hb dXA_fill_1 rfl hl (by decide) rfl (fun ls hl => ?_)
  refine lv_aload_n hx hb dXA_fill_2 rfl (lv_at hl 1 rfl) ?_
  refine va_alen hx hb hK hP 4 1 rfl rfl (v := 2048) rfl dXA_fill_3 ?_
  refine lv_istore_n (lv' := [(3, .int 2048), (2, .int 0), (0, .ref (h 4)), (1, .int p1)]) hx hb dXA_fill_4 rfl hl (by decide) rfl (fun ls hl => ?_)
  exact L5 ((((2048) : Int32).toInt - ((0) : Int32).toInt).toNat + 1) g p1 0 2048 _ _ ls ⟨by decide, rfl⟩ (se_fuel _ _) (by rw [F_S_Arrays_fill]) hP hD hS (lv_sub hl [2, 3, 1, 0] rfl)
set_option maxRecDepth 100000 in
set_option maxHeartbeats 4000000 in
theorem c_S_Incoming_restart (l : Launch) (D : va_G) (k : Nat → ClassId) (h : Nat → Nat) (sz : Nat) (g : se_G)  : Met l yX1_restart (se_w_X1_restart) ({ frames := 1, cells := 0, slots := 0, locals := 23 }) (va_Pc [.ref (h 3)] (se_Pre D se_cl [(k 2, .byte), (k 4, .int), (k 8, .byte), (k 10, .byte)] (se_WS k h g) se_ZN sz)) (se_Qv D se_cl [(k 2, .byte), (k 4, .int), (k 8, .byte), (k 10, .byte)] (se_WS k h) (F_S_Incoming_restart g) (va_A (se_WS k h g) sz)) 0 0 (va_A (se_WS k h g) sz) := by
  refine se_met (Qc := se_Qv D se_cl [(k 2, .byte), (k 4, .int), (k 8, .byte), (k 10, .byte)] (se_WS k h) (F_S_Incoming_restart g)) (cc := cX1_restart) (maxL := 1) (ret := none) (by decide) rfl (Nat.le_of_ble_eq_true rfl) ?_
  intro p e s m below meth c ls A hx hb hr hts hown hlocks hml hA hP hK hD hS hZ hl
  replace hl : lv_has ls 1 [(0, .ref (h 3))] := hl
  have hF : F_S_Incoming_restart g = F_S_Incoming_restart g := rfl
  refine lv_aload_n hx hb dX1_restart_0 rfl (lv_at hl 0 rfl) ?_
  refine va_get (D := D) (ci := 1) (v := .ref (h 4)) (C := RX1) (T := TX1) (N := 8) hx hb hts (se_iw iwX1) hown hK hP 3 rfl rfl 0 (by decide) (hts _ (List.mem_cons_of_mem _ qX1_f9)) (fun _ h9 => h9) rfl dX1_restart_1 ?_
  refine lv_iconst (v := (-1)) hx hb dX1_restart_4 (by decide) ?_
  refine se_cvE (va_runS (As := [.ref (h 4), .int (-1)]) (rest := []) ⟨hx, hb, hml, hown, hts⟩ (c_S_Arrays_fill l D k h _ g (-1)) (se_kS 2 hts q_code_XA_fill qX1_m15 q_ini_java_util_Arrays q_static_XA_fill (by decide +kernel) ⟨Nat.le_of_ble_eq_true rfl, Nat.le_of_ble_eq_true rfl⟩ rfl rfl) ⟨se_blind se_ZN_ok, se_pre se_ZN_ok hP hK hD hZ⟩ rfl rfl hl.1 rfl (lv_room (Nat.le_of_ble_eq_true rfl)) dX1_restart_5 ⟨Nat.zero_le _, Nat.zero_le _⟩) hD hS hA (fun g1 H locs eg1 hP hD hS => ?_)
  refine lv_aload_n hx hb dX1_restart_8 rfl (lv_at hl 0 rfl) ?_
  refine lv_iconst (v := 0) hx hb dX1_restart_9 (by decide) ?_
  refine va_put (D := D) (ci := 1) (v := .int 0) (ty := .boolean) (C := RX1) (T := TX1) (N := 8) hx hb hts (se_iw iwX1) tyX1 tyX1_ok nmX1 hown hK hP hD hS 3 rfl rfl 1 (by decide) (hts _ (List.mem_cons_of_mem _ qX1_f21)) (fun _ h9 => h9) rfl (by decide +kernel) rfl rfl (Nat.le_of_ble_eq_true rfl) dX1_restart_10 (fun H locs hP hD hS => ?_)
  replace hP : va_P D se_cl (se_WS k h (se_u g1 3 1 0)) H := hP
  replace hD : va_D A (se_WS k h (se_u g1 3 1 0)) := hD
  refine lv_aload_n hx hb dX1_restart_13 rfl (lv_at hl 0 rfl) ?_
  refine lv_iconst (v := 0) hx hb dX1_restart_14 (by decide) ?_
  refine va_put (D := D) (ci := 1) (v := .int 0) (ty := .int) (C := RX1) (T := TX1) (N := 8) hx hb hts (se_iw iwX1) tyX1 tyX1_ok nmX1 hown hK hP hD hS 3 rfl rfl 2 (by decide) (hts _ (List.mem_cons_of_mem _ qX1_f25)) (fun _ h9 => h9) rfl (by decide +kernel) rfl rfl (Nat.le_of_ble_eq_true rfl) dX1_restart_15 (fun H locs hP hD hS => ?_)
  replace hP : va_P D se_cl (se_WS k h (se_u (se_u g1 3 1 0) 3 2 0)) H := hP
  replace hD : va_D A (se_WS k h (se_u (se_u g1 3 1 0) 3 2 0)) := hD
  refine lv_aload_n hx hb dX1_restart_18 rfl (lv_at hl 0 rfl) ?_
  refine lv_iconst (v := 0) hx hb dX1_restart_19 (by decide) ?_
  refine va_put (D := D) (ci := 1) (v := .int 0) (ty := .int) (C := RX1) (T := TX1) (N := 8) hx hb hts (se_iw iwX1) tyX1 tyX1_ok nmX1 hown hK hP hD hS 3 rfl rfl 3 (by decide) (hts _ (List.mem_cons_of_mem _ qX1_f29)) (fun _ h9 => h9) rfl (by decide +kernel) rfl rfl (Nat.le_of_ble_eq_true rfl) dX1_restart_20 (fun H locs hP hD hS => ?_)
  replace hP : va_P D se_cl (se_WS k h (se_u (se_u (se_u g1 3 1 0) 3 2 0) 3 3 0)) H := hP
  replace hD : va_D A (se_WS k h (se_u (se_u (se_u g1 3 1 0) 3 2 0) 3 3 0)) := hD
  refine lv_aload_n hx hb dX1_restart_23 rfl (lv_at hl 0 rfl) ?_
  refine lv_iconst (v := 0) hx hb dX1_restart_24 (by decide) ?_
  refine va_put (D := D) (ci := 1) (v := .int 0) (ty := .int) (C := RX1) (T := TX1) (N := 8) hx hb hts (se_iw iwX1) tyX1 tyX1_ok nmX1 hown hK hP hD hS 3 rfl rfl 4 (by decide) (hts _ (List.mem_cons_of_mem _ qX1_f32)) (fun _ h9 => h9) rfl (by decide +kernel) rfl rfl (Nat.le_of_ble_eq_true rfl) dX1_restart_25 (fun H locs hP hD hS => ?_)
  replace hP : va_P D se_cl (se_WS k h (se_u (se_u (se_u (se_u g1 3 1 0) 3 2 0) 3 3 0) 3 4 0)) H := hP
  replace hD : va_D A (se_WS k h (se_u (se_u (se_u (se_u g1 3 1 0) 3 2 0) 3 3 0) 3 4 0)) := hD
  refine lv_aload_n hx hb dX1_restart_28 rfl (lv_at hl 0 rfl) ?_
  refine lv_iconst (v := 0) hx hb dX1_restart_29 (by decide) ?_
  refine va_put (D := D) (ci := 1) (v := .int 0) (ty := .boolean) (C := RX1) (T := TX1) (N := 8) hx hb hts (se_iw iwX1) tyX1 tyX1_ok nmX1 hown hK hP hD hS 3 rfl rfl 5 (by decide) (hts _ (List.mem_cons_of_mem _ qX1_f35)) (fun _ h9 => h9) rfl (by decide +kernel) rfl rfl (Nat.le_of_ble_eq_true rfl) dX1_restart_30 (fun H locs hP hD hS => ?_)
  replace hP : va_P D se_cl (se_WS k h (se_u (se_u (se_u (se_u (se_u g1 3 1 0) 3 2 0) 3 3 0) 3 4 0) 3 5 0)) H := hP
  replace hD : va_D A (se_WS k h (se_u (se_u (se_u (se_u (se_u g1 3 1 0) 3 2 0) 3 3 0) 3 4 0) 3 5 0)) := hD
  refine lv_aload_n hx hb dX1_restart_33 rfl (lv_at hl 0 rfl) ?_
  refine lv_iconst (v := 0) hx hb dX1_restart_34 (by decide) ?_
  refine va_put (D := D) (ci := 1) (v := .int 0) (ty := .int) (C := RX1) (T := TX1) (N := 8) hx hb hts (se_iw iwX1) tyX1 tyX1_ok nmX1 hown hK hP hD hS 3 rfl rfl 6 (by decide) (hts _ (List.mem_cons_of_mem _ qX1_f38)) (fun _ h9 => h9) rfl (by decide +kernel) rfl rfl (Nat.le_of_ble_eq_true rfl) dX1_restart_35 (fun H locs hP hD hS => ?_)
  replace hP : va_P D se_cl (se_WS k h (se_u (se_u (se_u (se_u (se_u (se_u g1 3 1 0) 3 2 0) 3 3 0) 3 4 0) 3 5 0) 3 6 0)) H := hP
  replace hD : va_D A (se_WS k h (se_u (se_u (se_u (se_u (se_u (se_u g1 3 1 0) 3 2 0) 3 3 0) 3 4 0) 3 5 0) 3 6 0)) := hD
  refine lv_aload_n hx hb dX1_restart_38 rfl (lv_at hl 0 rfl) ?_
  refine lv_iconst (v := 0) hx hb dX1_restart_39 (by decide) ?_
  refine va_put (D := D) (ci := 1) (v := .int 0) (ty := .boolean) (C := RX1) (T := TX1) (N := 8) hx hb hts (se_iw iwX1) tyX1 tyX1_ok nmX1 hown hK hP hD hS 3 rfl rfl 7 (by decide) (hts _ (List.mem_cons_of_mem _ qX1_f41)) (fun _ h9 => h9) rfl (by decide +kernel) rfl rfl (Nat.le_of_ble_eq_true rfl) dX1_restart_40 (fun H locs hP hD hS => ?_)
  replace hP : va_P D se_cl (se_WS k h (se_u (se_u (se_u (se_u (se_u (se_u (se_u g1 3 1 0) 3 2 0) 3 3 0) 3 4 0) 3 5 0) 3 6 0) 3 7 0)) H := hP
  replace hD : va_D A (se_WS k h (se_u (se_u (se_u (se_u (se_u (se_u (se_u g1 3 1 0) 3 2 0) 3 3 0) 3 4 0) 3 5 0) 3 6 0) 3 7 0)) := hD
  exact se_rv hx hb hr hlocks hK hP hD hS dX1_restart_43 (by subst eg1; rw [F_S_Incoming_restart])
set_option maxRecDepth 100000 in
set_option maxHeartbeats 4000000 in
theorem c_S_Watch_restart (l : Launch) (D : va_G) (k : Nat → ClassId) (h : Nat → Nat) (sz : Nat) (g : se_G)  : Met l yX4_restart (se_w_X4_restart) ({ frames := 0, cells := 0, slots := 0, locals := 0 }) (va_Pc [.ref (h 5)] (se_Pre D se_cl [(k 2, .byte), (k 4, .int), (k 8, .byte), (k 10, .byte)] (se_WS k h g) se_ZN sz)) (se_Qv D se_cl [(k 2, .byte), (k 4, .int), (k 8, .byte), (k 10, .byte)] (se_WS k h) (F_S_Watch_restart g) (va_A (se_WS k h g) sz)) 0 0 (va_A (se_WS k h g) sz) := by
  refine se_met (Qc := se_Qv D se_cl [(k 2, .byte), (k 4, .int), (k 8, .byte), (k 10, .byte)] (se_WS k h) (F_S_Watch_restart g)) (cc := cX4_restart) (maxL := 1) (ret := none) (by decide) rfl (Nat.le_of_ble_eq_true rfl) ?_
  intro p e s m below meth c ls A hx hb hr hts hown hlocks hml hA hP hK hD hS hZ hl
  replace hl : lv_has ls 1 [(0, .ref (h 5))] := hl
  have hF : F_S_Watch_restart g = F_S_Watch_restart g := rfl
  refine lv_aload_n hx hb dX4_restart_0 rfl (lv_at hl 0 rfl) ?_
  refine lv_iconst (v := 0) hx hb dX4_restart_1 (by decide) ?_
  refine va_put (D := D) (ci := 4) (v := .int 0) (ty := .boolean) (C := RX4) (T := TX4) (N := 11) hx hb hts (se_iw iwX4) tyX4 tyX4_ok nmX4 hown hK hP hD hS 5 rfl rfl 1 (by decide) (hts _ (List.mem_cons_of_mem _ qX4_f13)) (fun _ h9 => h9) rfl (by decide +kernel) rfl rfl (Nat.le_of_ble_eq_true rfl) dX4_restart_2 (fun H locs hP hD hS => ?_)
  replace hP : va_P D se_cl (se_WS k h (se_u g 5 1 0)) H := hP
  replace hD : va_D A (se_WS k h (se_u g 5 1 0)) := hD
  refine lv_aload_n hx hb dX4_restart_5 rfl (lv_at hl 0 rfl) ?_
  refine lv_iconst (v := 0) hx hb dX4_restart_6 (by decide) ?_
  refine va_put (D := D) (ci := 4) (v := .int 0) (ty := .int) (C := RX4) (T := TX4) (N := 11) hx hb hts (se_iw iwX4) tyX4 tyX4_ok nmX4 hown hK hP hD hS 5 rfl rfl 2 (by decide) (hts _ (List.mem_cons_of_mem _ qX4_f17)) (fun _ h9 => h9) rfl (by decide +kernel) rfl rfl (Nat.le_of_ble_eq_true rfl) dX4_restart_7 (fun H locs hP hD hS => ?_)
  replace hP : va_P D se_cl (se_WS k h (se_u (se_u g 5 1 0) 5 2 0)) H := hP
  replace hD : va_D A (se_WS k h (se_u (se_u g 5 1 0) 5 2 0)) := hD
  refine lv_aload_n hx hb dX4_restart_10 rfl (lv_at hl 0 rfl) ?_
  refine lv_iconst (v := 0) hx hb dX4_restart_11 (by decide) ?_
  refine va_put (D := D) (ci := 4) (v := .int 0) (ty := .int) (C := RX4) (T := TX4) (N := 11) hx hb hts (se_iw iwX4) tyX4 tyX4_ok nmX4 hown hK hP hD hS 5 rfl rfl 3 (by decide) (hts _ (List.mem_cons_of_mem _ qX4_f20)) (fun _ h9 => h9) rfl (by decide +kernel) rfl rfl (Nat.le_of_ble_eq_true rfl) dX4_restart_12 (fun H locs hP hD hS => ?_)
  replace hP : va_P D se_cl (se_WS k h (se_u (se_u (se_u g 5 1 0) 5 2 0) 5 3 0)) H := hP
  replace hD : va_D A (se_WS k h (se_u (se_u (se_u g 5 1 0) 5 2 0) 5 3 0)) := hD
  refine lv_aload_n hx hb dX4_restart_15 rfl (lv_at hl 0 rfl) ?_
  refine lv_bipush (v := 60) hx hb dX4_restart_16 (by decide) ?_
  refine va_put (D := D) (ci := 4) (v := .int 60) (ty := .int) (C := RX4) (T := TX4) (N := 11) hx hb hts (se_iw iwX4) tyX4 tyX4_ok nmX4 hown hK hP hD hS 5 rfl rfl 4 (by decide) (hts _ (List.mem_cons_of_mem _ qX4_f9)) (fun _ h9 => h9) rfl (by decide +kernel) rfl rfl (Nat.le_of_ble_eq_true rfl) dX4_restart_18 (fun H locs hP hD hS => ?_)
  replace hP : va_P D se_cl (se_WS k h (se_u (se_u (se_u (se_u g 5 1 0) 5 2 0) 5 3 0) 5 4 60)) H := hP
  replace hD : va_D A (se_WS k h (se_u (se_u (se_u (se_u g 5 1 0) 5 2 0) 5 3 0) 5 4 60)) := hD
  refine lv_aload_n hx hb dX4_restart_21 rfl (lv_at hl 0 rfl) ?_
  refine lv_iconst (v := 0) hx hb dX4_restart_22 (by decide) ?_
  refine va_put (D := D) (ci := 4) (v := .int 0) (ty := .boolean) (C := RX4) (T := TX4) (N := 11) hx hb hts (se_iw iwX4) tyX4 tyX4_ok nmX4 hown hK hP hD hS 5 rfl rfl 5 (by decide) (hts _ (List.mem_cons_of_mem _ qX4_f23)) (fun _ h9 => h9) rfl (by decide +kernel) rfl rfl (Nat.le_of_ble_eq_true rfl) dX4_restart_23 (fun H locs hP hD hS => ?_)
  replace hP : va_P D se_cl (se_WS k h (se_u (se_u (se_u (se_u (se_u g 5 1 0) 5 2 0) 5 3 0) 5 4 60) 5 5 0)) H := hP
  replace hD : va_D A (se_WS k h (se_u (se_u (se_u (se_u (se_u g 5 1 0) 5 2 0) 5 3 0) 5 4 60) 5 5 0)) := hD
  refine lv_aload_n hx hb dX4_restart_26 rfl (lv_at hl 0 rfl) ?_
  refine lv_iconst (v := 0) hx hb dX4_restart_27 (by decide) ?_
  refine va_put (D := D) (ci := 4) (v := .int 0) (ty := .int) (C := RX4) (T := TX4) (N := 11) hx hb hts (se_iw iwX4) tyX4 tyX4_ok nmX4 hown hK hP hD hS 5 rfl rfl 6 (by decide) (hts _ (List.mem_cons_of_mem _ qX4_f26)) (fun _ h9 => h9) rfl (by decide +kernel) rfl rfl (Nat.le_of_ble_eq_true rfl) dX4_restart_28 (fun H locs hP hD hS => ?_)
  replace hP : va_P D se_cl (se_WS k h (se_u (se_u (se_u (se_u (se_u (se_u g 5 1 0) 5 2 0) 5 3 0) 5 4 60) 5 5 0) 5 6 0)) H := hP
  replace hD : va_D A (se_WS k h (se_u (se_u (se_u (se_u (se_u (se_u g 5 1 0) 5 2 0) 5 3 0) 5 4 60) 5 5 0) 5 6 0)) := hD
  refine lv_aload_n hx hb dX4_restart_31 rfl (lv_at hl 0 rfl) ?_
  refine lv_iconst (v := 0) hx hb dX4_restart_32 (by decide) ?_
  refine va_put (D := D) (ci := 4) (v := .int 0) (ty := .int) (C := RX4) (T := TX4) (N := 11) hx hb hts (se_iw iwX4) tyX4 tyX4_ok nmX4 hown hK hP hD hS 5 rfl rfl 7 (by decide) (hts _ (List.mem_cons_of_mem _ qX4_f29)) (fun _ h9 => h9) rfl (by decide +kernel) rfl rfl (Nat.le_of_ble_eq_true rfl) dX4_restart_33 (fun H locs hP hD hS => ?_)
  replace hP : va_P D se_cl (se_WS k h (se_u (se_u (se_u (se_u (se_u (se_u (se_u g 5 1 0) 5 2 0) 5 3 0) 5 4 60) 5 5 0) 5 6 0) 5 7 0)) H := hP
  replace hD : va_D A (se_WS k h (se_u (se_u (se_u (se_u (se_u (se_u (se_u g 5 1 0) 5 2 0) 5 3 0) 5 4 60) 5 5 0) 5 6 0) 5 7 0)) := hD
  refine lv_aload_n hx hb dX4_restart_36 rfl (lv_at hl 0 rfl) ?_
  refine lv_iconst (v := 0) hx hb dX4_restart_37 (by decide) ?_
  refine va_put (D := D) (ci := 4) (v := .int 0) (ty := .boolean) (C := RX4) (T := TX4) (N := 11) hx hb hts (se_iw iwX4) tyX4 tyX4_ok nmX4 hown hK hP hD hS 5 rfl rfl 8 (by decide) (hts _ (List.mem_cons_of_mem _ qX4_f32)) (fun _ h9 => h9) rfl (by decide +kernel) rfl rfl (Nat.le_of_ble_eq_true rfl) dX4_restart_38 (fun H locs hP hD hS => ?_)
  replace hP : va_P D se_cl (se_WS k h (se_u (se_u (se_u (se_u (se_u (se_u (se_u (se_u g 5 1 0) 5 2 0) 5 3 0) 5 4 60) 5 5 0) 5 6 0) 5 7 0) 5 8 0)) H := hP
  replace hD : va_D A (se_WS k h (se_u (se_u (se_u (se_u (se_u (se_u (se_u (se_u g 5 1 0) 5 2 0) 5 3 0) 5 4 60) 5 5 0) 5 6 0) 5 7 0) 5 8 0)) := hD
  refine lv_aload_n hx hb dX4_restart_41 rfl (lv_at hl 0 rfl) ?_
  refine lv_iconst (v := 0) hx hb dX4_restart_42 (by decide) ?_
  refine va_put (D := D) (ci := 4) (v := .int 0) (ty := .int) (C := RX4) (T := TX4) (N := 11) hx hb hts (se_iw iwX4) tyX4 tyX4_ok nmX4 hown hK hP hD hS 5 rfl rfl 9 (by decide) (hts _ (List.mem_cons_of_mem _ qX4_f35)) (fun _ h9 => h9) rfl (by decide +kernel) rfl rfl (Nat.le_of_ble_eq_true rfl) dX4_restart_43 (fun H locs hP hD hS => ?_)
  replace hP : va_P D se_cl (se_WS k h (se_u (se_u (se_u (se_u (se_u (se_u (se_u (se_u (se_u g 5 1 0) 5 2 0) 5 3 0) 5 4 60) 5 5 0) 5 6 0) 5 7 0) 5 8 0) 5 9 0)) H := hP
  replace hD : va_D A (se_WS k h (se_u (se_u (se_u (se_u (se_u (se_u (se_u (se_u (se_u g 5 1 0) 5 2 0) 5 3 0) 5 4 60) 5 5 0) 5 6 0) 5 7 0) 5 8 0) 5 9 0)) := hD
  refine lv_aload_n hx hb dX4_restart_46 rfl (lv_at hl 0 rfl) ?_
  refine lv_iconst (v := 0) hx hb dX4_restart_47 (by decide) ?_
  refine va_put (D := D) (ci := 4) (v := .int 0) (ty := .int) (C := RX4) (T := TX4) (N := 11) hx hb hts (se_iw iwX4) tyX4 tyX4_ok nmX4 hown hK hP hD hS 5 rfl rfl 10 (by decide) (hts _ (List.mem_cons_of_mem _ qX4_f38)) (fun _ h9 => h9) rfl (by decide +kernel) rfl rfl (Nat.le_of_ble_eq_true rfl) dX4_restart_48 (fun H locs hP hD hS => ?_)
  replace hP : va_P D se_cl (se_WS k h (se_u (se_u (se_u (se_u (se_u (se_u (se_u (se_u (se_u (se_u g 5 1 0) 5 2 0) 5 3 0) 5 4 60) 5 5 0) 5 6 0) 5 7 0) 5 8 0) 5 9 0) 5 10 0)) H := hP
  replace hD : va_D A (se_WS k h (se_u (se_u (se_u (se_u (se_u (se_u (se_u (se_u (se_u (se_u g 5 1 0) 5 2 0) 5 3 0) 5 4 60) 5 5 0) 5 6 0) 5 7 0) 5 8 0) 5 9 0) 5 10 0)) := hD
  exact se_rv hx hb hr hlocks hK hP hD hS dX4_restart_51 (by rw [F_S_Watch_restart])
set_option maxRecDepth 100000 in
set_option maxHeartbeats 4000000 in
theorem c_S_Due_dropStream (l : Launch) (D : va_G) (k : Nat → ClassId) (h : Nat → Nat) (sz : Nat) (g : se_G)  : Met l yX0_dropStream (se_w_X0_dropStream) ({ frames := 0, cells := 0, slots := 0, locals := 0 }) (va_Pc [.ref (h 6)] (se_Pre D se_cl [(k 2, .byte), (k 4, .int), (k 8, .byte), (k 10, .byte)] (se_WS k h g) se_ZN sz)) (se_Qv D se_cl [(k 2, .byte), (k 4, .int), (k 8, .byte), (k 10, .byte)] (se_WS k h) (F_S_Due_dropStream g) (va_A (se_WS k h g) sz)) 0 0 (va_A (se_WS k h g) sz) := by
  refine se_met (Qc := se_Qv D se_cl [(k 2, .byte), (k 4, .int), (k 8, .byte), (k 10, .byte)] (se_WS k h) (F_S_Due_dropStream g)) (cc := cX0_dropStream) (maxL := 1) (ret := none) (by decide) rfl (Nat.le_of_ble_eq_true rfl) ?_
  intro p e s m below meth c ls A hx hb hr hts hown hlocks hml hA hP hK hD hS hZ hl
  replace hl : lv_has ls 1 [(0, .ref (h 6))] := hl
  have hF : F_S_Due_dropStream g = F_S_Due_dropStream g := rfl
  refine lv_aload_n hx hb dX0_dropStream_0 rfl (lv_at hl 0 rfl) ?_
  refine lv_iconst (v := 0) hx hb dX0_dropStream_1 (by decide) ?_
  refine va_put (D := D) (ci := 0) (v := .int 0) (ty := .boolean) (C := RX0) (T := TX0) (N := 9) hx hb hts (se_iw iwX0) tyX0 tyX0_ok nmX0 hown hK hP hD hS 6 rfl rfl 4 (by decide) (hts _ (List.mem_cons_of_mem _ qX0_f19)) (fun _ h9 => h9) rfl (by decide +kernel) rfl rfl (Nat.le_of_ble_eq_true rfl) dX0_dropStream_2 (fun H locs hP hD hS => ?_)
  replace hP : va_P D se_cl (se_WS k h (se_u g 6 4 0)) H := hP
  replace hD : va_D A (se_WS k h (se_u g 6 4 0)) := hD
  refine lv_aload_n hx hb dX0_dropStream_5 rfl (lv_at hl 0 rfl) ?_
  refine lv_iconst (v := 0) hx hb dX0_dropStream_6 (by decide) ?_
  refine va_put (D := D) (ci := 0) (v := .int 0) (ty := .boolean) (C := RX0) (T := TX0) (N := 9) hx hb hts (se_iw iwX0) tyX0 tyX0_ok nmX0 hown hK hP hD hS 6 rfl rfl 6 (by decide) (hts _ (List.mem_cons_of_mem _ qX0_f22)) (fun _ h9 => h9) rfl (by decide +kernel) rfl rfl (Nat.le_of_ble_eq_true rfl) dX0_dropStream_7 (fun H locs hP hD hS => ?_)
  replace hP : va_P D se_cl (se_WS k h (se_u (se_u g 6 4 0) 6 6 0)) H := hP
  replace hD : va_D A (se_WS k h (se_u (se_u g 6 4 0) 6 6 0)) := hD
  refine lv_aload_n hx hb dX0_dropStream_10 rfl (lv_at hl 0 rfl) ?_
  refine lv_iconst (v := 0) hx hb dX0_dropStream_11 (by decide) ?_
  refine va_put (D := D) (ci := 0) (v := .int 0) (ty := .boolean) (C := RX0) (T := TX0) (N := 9) hx hb hts (se_iw iwX0) tyX0 tyX0_ok nmX0 hown hK hP hD hS 6 rfl rfl 7 (by decide) (hts _ (List.mem_cons_of_mem _ qX0_f25)) (fun _ h9 => h9) rfl (by decide +kernel) rfl rfl (Nat.le_of_ble_eq_true rfl) dX0_dropStream_12 (fun H locs hP hD hS => ?_)
  replace hP : va_P D se_cl (se_WS k h (se_u (se_u (se_u g 6 4 0) 6 6 0) 6 7 0)) H := hP
  replace hD : va_D A (se_WS k h (se_u (se_u (se_u g 6 4 0) 6 6 0) 6 7 0)) := hD
  exact se_rv hx hb hr hlocks hK hP hD hS dX0_dropStream_15 (by rw [F_S_Due_dropStream])
set_option maxRecDepth 100000 in
set_option maxHeartbeats 4000000 in
theorem c_S_Due_restart (l : Launch) (D : va_G) (k : Nat → ClassId) (h : Nat → Nat) (sz : Nat) (g : se_G)  : Met l yX0_restart (se_w_X0_restart) ({ frames := 1, cells := 0, slots := 0, locals := 20 }) (va_Pc [.ref (h 6)] (se_Pre D se_cl [(k 2, .byte), (k 4, .int), (k 8, .byte), (k 10, .byte)] (se_WS k h g) se_ZN sz)) (se_Qv D se_cl [(k 2, .byte), (k 4, .int), (k 8, .byte), (k 10, .byte)] (se_WS k h) (F_S_Due_restart g) (va_A (se_WS k h g) sz)) 0 0 (va_A (se_WS k h g) sz) := by
  refine se_met (Qc := se_Qv D se_cl [(k 2, .byte), (k 4, .int), (k 8, .byte), (k 10, .byte)] (se_WS k h) (F_S_Due_restart g)) (cc := cX0_restart) (maxL := 1) (ret := none) (by decide) rfl (Nat.le_of_ble_eq_true rfl) ?_
  intro p e s m below meth c ls A hx hb hr hts hown hlocks hml hA hP hK hD hS hZ hl
  replace hl : lv_has ls 1 [(0, .ref (h 6))] := hl
  have hF : F_S_Due_restart g = F_S_Due_restart g := rfl
  refine lv_aload_n hx hb dX0_restart_0 rfl (lv_at hl 0 rfl) ?_
  refine se_cvE (va_runV (C := RX0) (As := []) (rest := []) ⟨hx, hb, hml, hown, hts⟩ (c_S_Due_dropStream l D k h _ g) (se_kV 0 hts q_code_X0_dropStream qX0_m7 q_ini_StreamEnd_Due q_instanceMethod_X0_dropStream q_sel_X0_dropStream (by decide +kernel) ⟨Nat.le_of_ble_eq_true rfl, Nat.le_of_ble_eq_true rfl⟩ rfl rfl) ⟨se_blind se_ZN_ok, va_recv hK hP (ci := 0) (q0 := 6) rfl rfl, se_pre se_ZN_ok hP hK hD hZ⟩ rfl rfl hl.1 rfl (lv_room (Nat.le_of_ble_eq_true rfl)) dX0_restart_1 ⟨Nat.zero_le _, Nat.zero_le _⟩) hD hS hA (fun g1 H locs eg1 hP hD hS => ?_)
  refine lv_aload_n hx hb dX0_restart_4 rfl (lv_at hl 0 rfl) ?_
  refine lv_iconst (v := 0) hx hb dX0_restart_5 (by decide) ?_
  refine va_put (D := D) (ci := 0) (v := .int 0) (ty := .boolean) (C := RX0) (T := TX0) (N := 9) hx hb hts (se_iw iwX0) tyX0 tyX0_ok nmX0 hown hK hP hD hS 6 rfl rfl 5 (by decide) (hts _ (List.mem_cons_of_mem _ qX0_f12)) (fun _ h9 => h9) rfl (by decide +kernel) rfl rfl (Nat.le_of_ble_eq_true rfl) dX0_restart_6 (fun H locs hP hD hS => ?_)
  replace hP : va_P D se_cl (se_WS k h (se_u g1 6 5 0)) H := hP
  replace hD : va_D A (se_WS k h (se_u g1 6 5 0)) := hD
  refine lv_aload_n hx hb dX0_restart_9 rfl (lv_at hl 0 rfl) ?_
  refine lv_iconst (v := 0) hx hb dX0_restart_10 (by decide) ?_
  refine va_put (D := D) (ci := 0) (v := .int 0) (ty := .boolean) (C := RX0) (T := TX0) (N := 9) hx hb hts (se_iw iwX0) tyX0 tyX0_ok nmX0 hown hK hP hD hS 6 rfl rfl 8 (by decide) (hts _ (List.mem_cons_of_mem _ qX0_f16)) (fun _ h9 => h9) rfl (by decide +kernel) rfl rfl (Nat.le_of_ble_eq_true rfl) dX0_restart_11 (fun H locs hP hD hS => ?_)
  replace hP : va_P D se_cl (se_WS k h (se_u (se_u g1 6 5 0) 6 8 0)) H := hP
  replace hD : va_D A (se_WS k h (se_u (se_u g1 6 5 0) 6 8 0)) := hD
  exact se_rv hx hb hr hlocks hK hP hD hS dX0_restart_14 (by subst eg1; rw [F_S_Due_restart])
set_option maxRecDepth 100000 in
set_option maxHeartbeats 4000000 in
theorem c_S_openIsDue (l : Launch) (D : va_G) (k : Nat → ClassId) (h : Nat → Nat) (sz : Nat) (g : se_G)  : Met l yX5_openIsDue (se_w_X5_openIsDue) ({ frames := 0, cells := 0, slots := 0, locals := 0 }) (va_Pc [.ref (h 0)] (se_Pre D se_cl [(k 2, .byte), (k 4, .int), (k 8, .byte), (k 10, .byte)] (se_WS k h g) se_ZN sz)) (se_Qv D se_cl [(k 2, .byte), (k 4, .int), (k 8, .byte), (k 10, .byte)] (se_WS k h) (F_S_openIsDue g) (va_A (se_WS k h g) sz)) 0 0 (va_A (se_WS k h g) sz) := by
  refine se_met (Qc := se_Qv D se_cl [(k 2, .byte), (k 4, .int), (k 8, .byte), (k 10, .byte)] (se_WS k h) (F_S_openIsDue g)) (cc := cX5_openIsDue) (maxL := 1) (ret := none) (by decide) rfl (Nat.le_of_ble_eq_true rfl) ?_
  intro p e s m below meth c ls A hx hb hr hts hown hlocks hml hA hP hK hD hS hZ hl
  replace hl : lv_has ls 1 [(0, .ref (h 0))] := hl
  have hF : F_S_openIsDue g = F_S_openIsDue g := rfl
  refine lv_aload_n hx hb dX5_openIsDue_0 rfl (lv_at hl 0 rfl) ?_
  refine va_get (D := D) (ci := 5) (v := .ref (h 1)) (C := RX5) (T := TX5) (N := 12) hx hb hts (se_iw iwX5) hown hK hP 0 rfl rfl 2 (by decide) (hts _ (List.mem_cons_of_mem _ qX5_f21)) (fun _ h9 => h9) rfl dX5_openIsDue_1 ?_
  refine lv_aload_n hx hb dX5_openIsDue_4 rfl (lv_at hl 0 rfl) ?_
  refine va_get (D := D) (ci := 5) (v := .ref (h 1)) (C := RX5) (T := TX5) (N := 12) hx hb hts (se_iw iwX5) hown hK hP 0 rfl rfl 2 (by decide) (hts _ (List.mem_cons_of_mem _ qX5_f21)) (fun _ h9 => h9) rfl dX5_openIsDue_5 ?_
  refine va_getN (D := D) (ci := 2) (v := .int (g 1 4)) (C := RX2) (T := TX2) (N := 13) hx hb hts (se_iw iwX2) hown hK hP 1 rfl rfl 4 (by decide) (va_Nw.use rfl (hZ _ nX5_f296 rfl)) (fun _ h9 => h9) rfl dX5_openIsDue_8 ?_
  refine lv_iconst (v := 1) hx hb dX5_openIsDue_11 (by decide) ?_
  refine lv_iadd hx hb dX5_openIsDue_12 ?_
  refine va_putN (D := D) (ci := 2) (v := .int ((g 1 4) + 1)) (ty := .int) (C := RX2) (T := TX2) (N := 13) hx hb hts (se_iw iwX2) tyX2 tyX2_ok nmX2 hown hK hP hD hS 1 rfl rfl 6 (by decide) (va_Nw.use rfl (hZ _ nX5_f137 rfl)) (fun _ h9 => h9) rfl (by decide +kernel) rfl rfl (Nat.le_of_ble_eq_true rfl) dX5_openIsDue_13 (fun H locs hP hD hS => ?_)
  replace hP : va_P D se_cl (se_WS k h (se_u g 1 6 ((g 1 4) + 1))) H := hP
  replace hD : va_D A (se_WS k h (se_u g 1 6 ((g 1 4) + 1))) := hD
  refine lv_aload_n hx hb dX5_openIsDue_16 rfl (lv_at hl 0 rfl) ?_
  refine va_get (D := D) (ci := 5) (v := .ref (h 6)) (C := RX5) (T := TX5) (N := 12) hx hb hts (se_iw iwX5) hown hK hP 0 rfl rfl 5 (by decide) (hts _ (List.mem_cons_of_mem _ qX5_f42)) (fun _ h9 => h9) rfl dX5_openIsDue_17 ?_
  refine lv_iconst (v := 1) hx hb dX5_openIsDue_20 (by decide) ?_
  refine va_putN (D := D) (ci := 0) (v := .int 1) (ty := .boolean) (C := RX0) (T := TX0) (N := 9) hx hb hts (se_iw iwX0) tyX0 tyX0_ok nmX0 hown hK hP hD hS 6 rfl rfl 4 (by decide) (va_Nw.use rfl (hZ _ nX5_f173 rfl)) (fun _ h9 => h9) rfl (by decide +kernel) rfl rfl (Nat.le_of_ble_eq_true rfl) dX5_openIsDue_21 (fun H locs hP hD hS => ?_)
  replace hP : va_P D se_cl (se_WS k h (se_u (se_u g 1 6 ((g 1 4) + 1)) 6 4 1)) H := hP
  replace hD : va_D A (se_WS k h (se_u (se_u g 1 6 ((g 1 4) + 1)) 6 4 1)) := hD
  exact se_rv hx hb hr hlocks hK hP hD hS dX5_openIsDue_24 (by rw [F_S_openIsDue])
set_option maxRecDepth 100000 in
set_option maxHeartbeats 4000000 in
theorem c_S_startStream (l : Launch) (D : va_G) (k : Nat → ClassId) (h : Nat → Nat) (sz : Nat) (g : se_G) (p1 : Int32) (p2 : Int32) (hI : p2 = 0 ∨ p2 = 1) : Met l yX5_startStream (se_w_X5_startStream) ({ frames := 2, cells := 0, slots := 0, locals := 45 }) (va_Pc [.ref (h 0), .int p1, .int p2] (se_Pre D se_cl [(k 2, .byte), (k 4, .int), (k 8, .byte), (k 10, .byte)] (se_WS k h g) se_ZN sz)) (se_Qv D se_cl [(k 2, .byte), (k 4, .int), (k 8, .byte), (k 10, .byte)] (se_WS k h) (F_S_startStream g p1 p2) (va_A (se_WS k h g) sz)) 0 0 (va_A (se_WS k h g) sz) := by
  refine se_met (Qc := se_Qv D se_cl [(k 2, .byte), (k 4, .int), (k 8, .byte), (k 10, .byte)] (se_WS k h) (F_S_startStream g p1 p2)) (cc := cX5_startStream) (maxL := 3) (ret := none) (by decide) rfl (Nat.le_of_ble_eq_true rfl) ?_
  intro p e s m below meth c ls A hx hb hr hts hown hlocks hml hA hP hK hD hS hZ hl
  replace hl : lv_has ls 3 [(0, .ref (h 0)), (1, .int p1), (2, .int p2)] := hl
  have hF : F_S_startStream g p1 p2 = F_S_startStream g p1 p2 := rfl
  refine lv_aload_n hx hb dX5_startStream_0 rfl (lv_at hl 0 rfl) ?_
  refine va_get (D := D) (ci := 5) (v := .ref (h 1)) (C := RX5) (T := TX5) (N := 12) hx hb hts (se_iw iwX5) hown hK hP 0 rfl rfl 2 (by decide) (hts _ (List.mem_cons_of_mem _ qX5_f21)) (fun _ h9 => h9) rfl dX5_startStream_1 ?_
  refine lv_iload_n hx hb dX5_startStream_4 rfl (lv_at hl 1 rfl) ?_
  refine lv_aload_n hx hb dX5_startStream_5 rfl (lv_at hl 0 rfl) ?_
  refine va_get (D := D) (ci := 5) (v := .int (g 0 0)) (C := RX5) (T := TX5) (N := 12) hx hb hts (se_iw iwX5) hown hK hP 0 rfl rfl 0 (by decide) (hts _ (List.mem_cons_of_mem _ qX5_f9)) (fun _ h9 => h9) rfl dX5_startStream_6 ?_
  refine se_cvE (va_runVN (C := RX2) (As := [.int p1, .int (g 0 0)]) (rest := []) ⟨hx, hb, hml, hown, hts⟩ (c_S_Outgoing_restart l D k h _ g p1 (g 0 0)) (se_kVN 2 hts q_code_X2_restart (hZ _ nX5_m285 rfl) q_ini_StreamEnd_Outgoing q_instanceMethod_X2_restart q_sel_X2_restart (by decide +kernel) ⟨Nat.le_of_ble_eq_true rfl, Nat.le_of_ble_eq_true rfl⟩ rfl rfl) ⟨se_blind se_ZN_ok, va_recv hK hP (ci := 2) (q0 := 1) rfl rfl, se_pre se_ZN_ok hP hK hD hZ⟩ rfl rfl hl.1 rfl (lv_room (Nat.le_of_ble_eq_true rfl)) dX5_startStream_9 ⟨Nat.zero_le _, Nat.zero_le _⟩) hD hS hA (fun g1 H locs eg1 hP hD hS => ?_)
  replace hF : (F_S_startStream_k4 p2 (F_S_Outgoing_restart g p1 (g 0 0))) = F_S_startStream g p1 p2 := by rw [F_S_startStream]
  rw [← eg1] at hF
  replace hF : F_S_startStream_k4 p2 g1 = F_S_startStream g p1 p2 := hF
  refine lv_aload_n hx hb dX5_startStream_12 rfl (lv_at hl 0 rfl) ?_
  refine va_get (D := D) (ci := 5) (v := .ref (h 3)) (C := RX5) (T := TX5) (N := 12) hx hb hts (se_iw iwX5) hown hK hP 0 rfl rfl 3 (by decide) (hts _ (List.mem_cons_of_mem _ qX5_f28)) (fun _ h9 => h9) rfl dX5_startStream_13 ?_
  refine se_cvE (va_runVN (C := RX1) (As := []) (rest := []) ⟨hx, hb, hml, hown, hts⟩ (c_S_Incoming_restart l D k h _ g1) (se_kVN 0 hts q_code_X1_restart (hZ _ nX5_m289 rfl) q_ini_StreamEnd_Incoming q_instanceMethod_X1_restart q_sel_X1_restart (by decide +kernel) ⟨Nat.le_of_ble_eq_true rfl, Nat.le_of_ble_eq_true rfl⟩ rfl rfl) ⟨se_blind se_ZN_ok, va_recv hK hP (ci := 1) (q0 := 3) rfl rfl, se_pre se_ZN_ok hP hK hD hZ⟩ rfl rfl hl.1 rfl (lv_room (Nat.le_of_ble_eq_true rfl)) dX5_startStream_16 ⟨Nat.zero_le _, Nat.zero_le _⟩) hD hS hA (fun g2 H locs eg2 hP hD hS => ?_)
  replace hF : (F_S_startStream_k3 p2 (F_S_Incoming_restart g1)) = F_S_startStream g p1 p2 := by rw [← hF, F_S_startStream_k4]
  rw [← eg2] at hF
  replace hF : F_S_startStream_k3 p2 g2 = F_S_startStream g p1 p2 := hF
  refine lv_aload_n hx hb dX5_startStream_19 rfl (lv_at hl 0 rfl) ?_
  refine va_get (D := D) (ci := 5) (v := .ref (h 5)) (C := RX5) (T := TX5) (N := 12) hx hb hts (se_iw iwX5) hown hK hP 0 rfl rfl 4 (by decide) (hts _ (List.mem_cons_of_mem _ qX5_f35)) (fun _ h9 => h9) rfl dX5_startStream_20 ?_
  refine se_cvE (va_runVN (C := RX4) (As := []) (rest := []) ⟨hx, hb, hml, hown, hts⟩ (c_S_Watch_restart l D k h _ g2) (se_kVN 0 hts q_code_X4_restart (hZ _ nX5_m291 rfl) q_ini_StreamEnd_Watch q_instanceMethod_X4_restart q_sel_X4_restart (by decide +kernel) ⟨Nat.le_of_ble_eq_true rfl, Nat.le_of_ble_eq_true rfl⟩ rfl rfl) ⟨se_blind se_ZN_ok, va_recv hK hP (ci := 4) (q0 := 5) rfl rfl, se_pre se_ZN_ok hP hK hD hZ⟩ rfl rfl hl.1 rfl (lv_room (Nat.le_of_ble_eq_true rfl)) dX5_startStream_23 ⟨Nat.zero_le _, Nat.zero_le _⟩) hD hS hA (fun g3 H locs eg3 hP hD hS => ?_)
  replace hF : (F_S_startStream_k2 p2 (F_S_Watch_restart g2)) = F_S_startStream g p1 p2 := by rw [← hF, F_S_startStream_k3]
  rw [← eg3] at hF
  replace hF : F_S_startStream_k2 p2 g3 = F_S_startStream g p1 p2 := hF
  refine lv_aload_n hx hb dX5_startStream_26 rfl (lv_at hl 0 rfl) ?_
  refine va_get (D := D) (ci := 5) (v := .ref (h 6)) (C := RX5) (T := TX5) (N := 12) hx hb hts (se_iw iwX5) hown hK hP 0 rfl rfl 5 (by decide) (hts _ (List.mem_cons_of_mem _ qX5_f42)) (fun _ h9 => h9) rfl dX5_startStream_27 ?_
  refine se_cvE (va_runVN (C := RX0) (As := []) (rest := []) ⟨hx, hb, hml, hown, hts⟩ (c_S_Due_restart l D k h _ g3) (se_kVN 0 hts q_code_X0_restart (hZ _ nX5_m292 rfl) q_ini_StreamEnd_Due q_instanceMethod_X0_restart q_sel_X0_restart (by decide +kernel) ⟨Nat.le_of_ble_eq_true rfl, Nat.le_of_ble_eq_true rfl⟩ rfl rfl) ⟨se_blind se_ZN_ok, va_recv hK hP (ci := 0) (q0 := 6) rfl rfl, se_pre se_ZN_ok hP hK hD hZ⟩ rfl rfl hl.1 rfl (lv_room (Nat.le_of_ble_eq_true rfl)) dX5_startStream_30 ⟨Nat.zero_le _, Nat.zero_le _⟩) hD hS hA (fun g4 H locs eg4 hP hD hS => ?_)
  replace hF : (F_S_startStream_k1 p2 (F_S_Due_restart g3)) = F_S_startStream g p1 p2 := by rw [← hF, F_S_startStream_k2]
  rw [← eg4] at hF
  replace hF : F_S_startStream_k1 p2 g4 = F_S_startStream g p1 p2 := hF
  refine lv_aload_n hx hb dX5_startStream_33 rfl (lv_at hl 0 rfl) ?_
  refine lv_iload_n hx hb dX5_startStream_34 rfl (lv_at hl 2 rfl) ?_
  refine va_put (D := D) (ci := 5) (v := .int p2) (ty := .boolean) (C := RX5) (T := TX5) (N := 12) hx hb hts (se_iw iwX5) tyX5 tyX5_ok nmX5 hown hK hP hD hS 0 rfl rfl 10 (by decide) (hts _ (List.mem_cons_of_mem _ qX5_f63)) (fun _ h9 => h9) rfl (by decide +kernel) (se_nz hI) (se_fz hI) (Nat.le_of_ble_eq_true rfl) dX5_startStream_35 (fun H locs hP hD hS => ?_)
  replace hP : va_P D se_cl (se_WS k h (se_u g4 0 10 p2)) H := hP
  replace hD : va_D A (se_WS k h (se_u g4 0 10 p2)) := hD
  refine lv_iload_n hx hb dX5_startStream_38 rfl (lv_at hl 2 rfl) ?_
  refine lv_if_eq (tgt := 50) hx hb dX5_startStream_39 (by decide) (fun c1 => ?_) (fun c1 => ?_)
  · refine lv_aload_n hx hb dX5_startStream_50 rfl (lv_at hl 0 rfl) ?_
    refine lv_iconst (v := 2) hx hb dX5_startStream_51 (by decide) ?_
    refine va_put (D := D) (ci := 5) (v := .int 2) (ty := .int) (C := RX5) (T := TX5) (N := 12) hx hb hts (se_iw iwX5) tyX5 tyX5_ok nmX5 hown hK hP hD hS 0 rfl rfl 9 (by decide) (hts _ (List.mem_cons_of_mem _ qX5_f60)) (fun _ h9 => h9) rfl (by decide +kernel) rfl rfl (Nat.le_of_ble_eq_true rfl) dX5_startStream_52 (fun H locs hP hD hS => ?_)
    replace hP : va_P D se_cl (se_WS k h (se_u (se_u g4 0 10 p2) 0 9 2)) H := hP
    replace hD : va_D A (se_WS k h (se_u (se_u g4 0 10 p2) 0 9 2)) := hD
    refine lv_aload_n hx hb dX5_startStream_55 rfl (lv_at hl 0 rfl) ?_
    refine se_cvE (va_runV (C := RX5) (As := []) (rest := []) ⟨hx, hb, hml, hown, hts⟩ (c_S_openIsDue l D k h _ (se_u (se_u g4 0 10 p2) 0 9 2)) (se_kV 0 hts q_code_X5_openIsDue qX5_m293 q_ini_StreamEnd q_instanceMethod_X5_openIsDue q_sel_X5_openIsDue (by decide +kernel) ⟨Nat.le_of_ble_eq_true rfl, Nat.le_of_ble_eq_true rfl⟩ rfl rfl) ⟨se_blind se_ZN_ok, va_recv hK hP (ci := 5) (q0 := 0) rfl rfl, se_pre se_ZN_ok hP hK hD hZ⟩ rfl rfl hl.1 rfl (lv_room (Nat.le_of_ble_eq_true rfl)) dX5_startStream_56 ⟨Nat.zero_le _, Nat.zero_le _⟩) hD hS hA (fun g5 H locs eg5 hP hD hS => ?_)
    exact se_rv hx hb hr hlocks hK hP hD hS dX5_startStream_59 (by subst eg5; rw [← hF, F_S_startStream_k1, if_pos c1])
  · refine lv_aload_n hx hb dX5_startStream_42 rfl (lv_at hl 0 rfl) ?_
    refine lv_iconst (v := 1) hx hb dX5_startStream_43 (by decide) ?_
    refine va_put (D := D) (ci := 5) (v := .int 1) (ty := .int) (C := RX5) (T := TX5) (N := 12) hx hb hts (se_iw iwX5) tyX5 tyX5_ok nmX5 hown hK hP hD hS 0 rfl rfl 9 (by decide) (hts _ (List.mem_cons_of_mem _ qX5_f60)) (fun _ h9 => h9) rfl (by decide +kernel) rfl rfl (Nat.le_of_ble_eq_true rfl) dX5_startStream_44 (fun H locs hP hD hS => ?_)
    replace hP : va_P D se_cl (se_WS k h (se_u (se_u g4 0 10 p2) 0 9 1)) H := hP
    replace hD : va_D A (se_WS k h (se_u (se_u g4 0 10 p2) 0 9 1)) := hD
    refine lv_goto (tgt := 59) hx hb dX5_startStream_47 (by decide) ?_
    exact se_rv hx hb hr hlocks hK hP hD hS dX5_startStream_59 (by rw [← hF, F_S_startStream_k1, if_neg c1])
