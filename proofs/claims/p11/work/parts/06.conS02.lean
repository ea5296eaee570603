/-! written by program (wip/gen) -/
set_option maxRecDepth 100000 in
set_option maxHeartbeats 4000000 in
theorem c_S_beginQuiet (l : Launch) (D : va_G) (k : Nat → ClassId) (h : Nat → Nat) (sz : Nat) (g : se_G)  : Met l yX5_beginQuiet (se_w_X5_beginQuiet) ({ frames := 0, cells := 0, slots := 0, locals := 0 }) (va_Pc [.ref (h 0)] (se_Pre D se_cl [(k 2, .byte), (k 4, .int), (k 8, .byte), (k 10, .byte)] (se_WS k h g) se_ZN sz)) (se_Qv D se_cl [(k 2, .byte), (k 4, .int), (k 8, .byte), (k 10, .byte)] (se_WS k h) (F_S_beginQuiet g) (va_A (se_WS k h g) sz)) 0 0 (va_A (se_WS k h g) sz) := by
  refine se_met (Qc := se_Qv D se_cl [(k 2, .byte), (k 4, .int), (k 8, .byte), (k 10, .byte)] (se_WS k h) (F_S_beginQuiet g)) (cc := cX5_beginQuiet) (maxL := 1) (ret := none) (by decide) rfl (Nat.le_of_ble_eq_true rfl) ?_
  intro p e s m below meth c ls A hx hb hr hts hown hlocks hml hA hP hK hD hS hZ hl
  replace hl : lv_has ls 1 [(0, .ref (h 0))] := hl
  have hF : F_S_beginQuiet g = F_S_beginQuiet g := rfl
  refine lv_aload_n hx hb dX5_beginQuiet_0 rfl (lv_at hl 0 rfl) ?_
  refine lv_aload_n hx hb dX5_beginQuiet_1 rfl (lv_at hl 0 rfl) ?_
  refine va_get (D := D) (ci := 5) (v := .ref (h 5)) (C := RX5) (T := TX5) (N := 12) hx hb hts (se_iw iwX5) hown hK hP 0 rfl rfl 4 (by decide) (hts _ (List.mem_cons_of_mem _ qX5_f35)) (fun _ h9 => h9) rfl dX5_beginQuiet_2 ?_
  refine va_getN (D := D) (ci := 4) (v := .int (g 5 0)) (C := RX4) (T := TX4) (N := 11) hx hb hts (se_iw iwX4) hown hK hP 5 rfl rfl 0 (by decide) (va_Nw.use rfl (hZ _ nX5_f150 rfl)) (fun _ h9 => h9) rfl dX5_beginQuiet_5 ?_
  refine lv_aload_n hx hb dX5_beginQuiet_8 rfl (lv_at hl 0 rfl) ?_
  refine va_get (D := D) (ci := 5) (v := .int (g 0 1)) (C := RX5) (T := TX5) (N := 12) hx hb hts (se_iw iwX5) hown hK hP 0 rfl rfl 1 (by decide) (hts _ (List.mem_cons_of_mem _ qX5_f13)) (fun _ h9 => h9) rfl dX5_beginQuiet_9 ?_
  refine lv_iadd hx hb dX5_beginQuiet_12 ?_
  refine va_put (D := D) (ci := 5) (v := .int ((g 5 0) + (g 0 1))) (ty := .int) (C := RX5) (T := TX5) (N := 12) hx hb hts (se_iw iwX5) tyX5 tyX5_ok nmX5 hown hK hP hD hS 0 rfl rfl 11 (by decide) (hts _ (List.mem_cons_of_mem _ qX5_f66)) (fun _ h9 => h9) rfl (by decide +kernel) rfl rfl (Nat.le_of_ble_eq_true rfl) dX5_beginQuiet_13 (fun H locs hP hD hS => ?_)
  replace hP : va_P D se_cl (se_WS k h (se_u g 0 11 ((g 5 0) + (g 0 1)))) H := hP
  replace hD : va_D A (se_WS k h (se_u g 0 11 ((g 5 0) + (g 0 1)))) := hD
  exact se_rv hx hb hr hlocks hK hP hD hS dX5_beginQuiet_16 (by rw [F_S_beginQuiet])
set_option maxRecDepth 100000 in
set_option maxHeartbeats 4000000 in
theorem c_S_halt (l : Launch) (D : va_G) (k : Nat → ClassId) (h : Nat → Nat) (sz : Nat) (g : se_G) (p1 : Int32) : Met l yX5_halt (se_w_X5_halt) ({ frames := 1, cells := 0, slots := 0, locals := 20 }) (va_Pc [.ref (h 0), .int p1] (se_Pre D se_cl [(k 2, .byte), (k 4, .int), (k 8, .byte), (k 10, .byte)] (se_WS k h g) se_ZN sz)) (se_Qv D se_cl [(k 2, .byte), (k 4, .int), (k 8, .byte), (k 10, .byte)] (se_WS k h) (F_S_halt g p1) (va_A (se_WS k h g) sz)) 0 0 (va_A (se_WS k h g) sz) := by
  refine se_met (Qc := se_Qv D se_cl [(k 2, .byte), (k 4, .int), (k 8, .byte), (k 10, .byte)] (se_WS k h) (F_S_halt g p1)) (cc := cX5_halt) (maxL := 2) (ret := none) (by decide) rfl (Nat.le_of_ble_eq_true rfl) ?_
  intro p e s m below meth c ls A hx hb hr hts hown hlocks hml hA hP hK hD hS hZ hl
  replace hl : lv_has ls 2 [(0, .ref (h 0)), (1, .int p1)] := hl
  have hF : F_S_halt g p1 = F_S_halt g p1 := rfl
  refine lv_aload_n hx hb dX5_halt_0 rfl (lv_at hl 0 rfl) ?_
  refine lv_iload_n hx hb dX5_halt_1 rfl (lv_at hl 1 rfl) ?_
  refine va_put (D := D) (ci := 5) (v := .int p1) (ty := .int) (C := RX5) (T := TX5) (N := 12) hx hb hts (se_iw iwX5) tyX5 tyX5_ok nmX5 hown hK hP hD hS 0 rfl rfl 9 (by decide) (hts _ (List.mem_cons_of_mem _ qX5_f60)) (fun _ h9 => h9) rfl (by decide +kernel) rfl rfl (Nat.le_of_ble_eq_true rfl) dX5_halt_2 (fun H locs hP hD hS => ?_)
  replace hP : va_P D se_cl (se_WS k h (se_u g 0 9 p1)) H := hP
  replace hD : va_D A (se_WS k h (se_u g 0 9 p1)) := hD
  refine lv_aload_n hx hb dX5_halt_5 rfl (lv_at hl 0 rfl) ?_
  refine va_get (D := D) (ci := 5) (v := .ref (h 5)) (C := RX5) (T := TX5) (N := 12) hx hb hts (se_iw iwX5) hown hK hP 0 rfl rfl 4 (by decide) (hts _ (List.mem_cons_of_mem _ qX5_f35)) (fun _ h9 => h9) rfl dX5_halt_6 ?_
  refine lv_iconst (v := 0) hx hb dX5_halt_9 (by decide) ?_
  refine va_putN (D := D) (ci := 4) (v := .int 0) (ty := .boolean) (C := RX4) (T := TX4) (N := 11) hx hb hts (se_iw iwX4) tyX4 tyX4_ok nmX4 hown hK hP hD hS 5 rfl rfl 1 (by decide) (va_Nw.use rfl (hZ _ nX5_f155 rfl)) (fun _ h9 => h9) rfl (by decide +kernel) rfl rfl (Nat.le_of_ble_eq_true rfl) dX5_halt_10 (fun H locs hP hD hS => ?_)
  replace hP : va_P D se_cl (se_WS k h (se_u (se_u g 0 9 p1) 5 1 0)) H := hP
  replace hD : va_D A (se_WS k h (se_u (se_u g 0 9 p1) 5 1 0)) := hD
  refine lv_aload_n hx hb dX5_halt_13 rfl (lv_at hl 0 rfl) ?_
  refine va_get (D := D) (ci := 5) (v := .ref (h 6)) (C := RX5) (T := TX5) (N := 12) hx hb hts (se_iw iwX5) hown hK hP 0 rfl rfl 5 (by decide) (hts _ (List.mem_cons_of_mem _ qX5_f42)) (fun _ h9 => h9) rfl dX5_halt_14 ?_
  refine se_cvE (va_runVN (C := RX0) (As := []) (rest := []) ⟨hx, hb, hml, hown, hts⟩ (c_S_Due_dropStream l D k h _ (se_u (se_u g 0 9 p1) 5 1 0)) (se_kVN 0 hts q_code_X0_dropStream (hZ _ nX5_m299 rfl) q_ini_StreamEnd_Due q_instanceMethod_X0_dropStream q_sel_X0_dropStream (by decide +kernel) ⟨Nat.le_of_ble_eq_true rfl, Nat.le_of_ble_eq_true rfl⟩ rfl rfl) ⟨se_blind se_ZN_ok, va_recv hK hP (ci := 0) (q0 := 6) rfl rfl, se_pre se_ZN_ok hP hK hD hZ⟩ rfl rfl hl.1 rfl (lv_room (Nat.le_of_ble_eq_true rfl)) dX5_halt_17 ⟨Nat.zero_le _, Nat.zero_le _⟩) hD hS hA (fun g1 H locs eg1 hP hD hS => ?_)
  replace hF : (F_S_halt_k1 p1 (F_S_Due_dropStream (se_u (se_u g 0 9 p1) 5 1 0))) = F_S_halt g p1 := by rw [F_S_halt]
  rw [← eg1] at hF
  replace hF : F_S_halt_k1 p1 g1 = F_S_halt g p1 := hF
  refine lv_iload_n hx hb dX5_halt_20 rfl (lv_at hl 1 rfl) ?_
  refine lv_bipush (v := 10) hx hb dX5_halt_21 (by decide) ?_
  refine lv_icmp_ne (tgt := 33) hx hb dX5_halt_23 (by decide) (fun c1 => ?_) (fun c1 => ?_)
  · refine lv_aload_n hx hb dX5_halt_33 rfl (lv_at hl 0 rfl) ?_
    refine va_get (D := D) (ci := 5) (v := .ref (h 6)) (C := RX5) (T := TX5) (N := 12) hx hb hts (se_iw iwX5) hown hK hP 0 rfl rfl 5 (by decide) (hts _ (List.mem_cons_of_mem _ qX5_f42)) (fun _ h9 => h9) rfl dX5_halt_34 ?_
    refine lv_iconst (v := 0) hx hb dX5_halt_37 (by decide) ?_
    refine va_putN (D := D) (ci := 0) (v := .int 0) (ty := .boolean) (C := RX0) (T := TX0) (N := 9) hx hb hts (se_iw iwX0) tyX0 tyX0_ok nmX0 hown hK hP hD hS 6 rfl rfl 8 (by decide) (va_Nw.use rfl (hZ _ nX5_f206 rfl)) (fun _ h9 => h9) rfl (by decide +kernel) rfl rfl (Nat.le_of_ble_eq_true rfl) dX5_halt_38 (fun H locs hP hD hS => ?_)
    replace hP : va_P D se_cl (se_WS k h (se_u g1 6 8 0)) H := hP
    replace hD : va_D A (se_WS k h (se_u g1 6 8 0)) := hD
    exact se_rv hx hb hr hlocks hK hP hD hS dX5_halt_41 (by rw [← hF, F_S_halt_k1, if_neg c1])
  · refine lv_aload_n hx hb dX5_halt_26 rfl (lv_at hl 0 rfl) ?_
    refine se_cvE (va_runV (C := RX5) (As := []) (rest := []) ⟨hx, hb, hml, hown, hts⟩ (c_S_beginQuiet l D k h _ g1) (se_kV 0 hts q_code_X5_beginQuiet qX5_m302 q_ini_StreamEnd q_instanceMethod_X5_beginQuiet q_sel_X5_beginQuiet (by decide +kernel) ⟨Nat.le_of_ble_eq_true rfl, Nat.le_of_ble_eq_true rfl⟩ rfl rfl) ⟨se_blind se_ZN_ok, va_recv hK hP (ci := 5) (q0 := 0) rfl rfl, se_pre se_ZN_ok hP hK hD hZ⟩ rfl rfl hl.1 rfl (lv_room (Nat.le_of_ble_eq_true rfl)) dX5_halt_27 ⟨Nat.zero_le _, Nat.zero_le _⟩) hD hS hA (fun g2 H locs eg2 hP hD hS => ?_)
    refine lv_goto (tgt := 41) hx hb dX5_halt_30 (by decide) ?_
    exact se_rv hx hb hr hlocks hK hP hD hS dX5_halt_41 (by subst eg2; rw [← hF, F_S_halt_k1, if_pos c1])
set_option maxRecDepth 100000 in
set_option maxHeartbeats 4000000 in
theorem c_S_Due_resetIs (l : Launch) (D : va_G) (k : Nat → ClassId) (h : Nat → Nat) (sz : Nat) (g : se_G) (p1 : Int32) (p2 : Int32) (p3 : Int32) : Met l yX0_resetIs (se_w_X0_resetIs) ({ frames := 0, cells := 0, slots := 0, locals := 0 }) (va_Pc [.ref (h 6), .int p1, .int p2, .int p3] (se_Pre D se_cl [(k 2, .byte), (k 4, .int), (k 8, .byte), (k 10, .byte)] (se_WS k h g) se_ZN sz)) (se_Qv D se_cl [(k 2, .byte), (k 4, .int), (k 8, .byte), (k 10, .byte)] (se_WS k h) (F_S_Due_resetIs g p1 p2 p3) (va_A (se_WS k h g) sz)) 0 0 (va_A (se_WS k h g) sz) := by
  refine se_met (Qc := se_Qv D se_cl [(k 2, .byte), (k 4, .int), (k 8, .byte), (k 10, .byte)] (se_WS k h) (F_S_Due_resetIs g p1 p2 p3)) (cc := cX0_resetIs) (maxL := 4) (ret := none) (by decide) rfl (Nat.le_of_ble_eq_true rfl) ?_
  intro p e s m below meth c ls A hx hb hr hts hown hlocks hml hA hP hK hD hS hZ hl
  replace hl : lv_has ls 4 [(0, .ref (h 6)), (1, .int p1), (2, .int p2), (3, .int p3)] := hl
  have hF : F_S_Due_resetIs g p1 p2 p3 = F_S_Due_resetIs g p1 p2 p3 := rfl
  refine lv_aload_n hx hb dX0_resetIs_0 rfl (lv_at hl 0 rfl) ?_
  refine lv_iconst (v := 1) hx hb dX0_resetIs_1 (by decide) ?_
  refine va_put (D := D) (ci := 0) (v := .int 1) (ty := .boolean) (C := RX0) (T := TX0) (N := 9) hx hb hts (se_iw iwX0) tyX0 tyX0_ok nmX0 hown hK hP hD hS 6 rfl rfl 0 (by decide) (hts _ (List.mem_cons_of_mem _ qX0_f28)) (fun _ h9 => h9) rfl (by decide +kernel) rfl rfl (Nat.le_of_ble_eq_true rfl) dX0_resetIs_2 (fun H locs hP hD hS => ?_)
  replace hP : va_P D se_cl (se_WS k h (se_u g 6 0 1)) H := hP
  replace hD : va_D A (se_WS k h (se_u g 6 0 1)) := hD
  refine lv_aload_n hx hb dX0_resetIs_5 rfl (lv_at hl 0 rfl) ?_
  refine lv_iload_n hx hb dX0_resetIs_6 rfl (lv_at hl 1 rfl) ?_
  refine va_put (D := D) (ci := 0) (v := .int p1) (ty := .int) (C := RX0) (T := TX0) (N := 9) hx hb hts (se_iw iwX0) tyX0 tyX0_ok nmX0 hown hK hP hD hS 6 rfl rfl 1 (by decide) (hts _ (List.mem_cons_of_mem _ qX0_f31)) (fun _ h9 => h9) rfl (by decide +kernel) rfl rfl (Nat.le_of_ble_eq_true rfl) dX0_resetIs_7 (fun H locs hP hD hS => ?_)
  replace hP : va_P D se_cl (se_WS k h (se_u (se_u g 6 0 1) 6 1 p1)) H := hP
  replace hD : va_D A (se_WS k h (se_u (se_u g 6 0 1) 6 1 p1)) := hD
  refine lv_aload_n hx hb dX0_resetIs_10 rfl (lv_at hl 0 rfl) ?_
  refine lv_iload_n hx hb dX0_resetIs_11 rfl (lv_at hl 2 rfl) ?_
  refine va_put (D := D) (ci := 0) (v := .int p2) (ty := .int) (C := RX0) (T := TX0) (N := 9) hx hb hts (se_iw iwX0) tyX0 tyX0_ok nmX0 hown hK hP hD hS 6 rfl rfl 2 (by decide) (hts _ (List.mem_cons_of_mem _ qX0_f35)) (fun _ h9 => h9) rfl (by decide +kernel) rfl rfl (Nat.le_of_ble_eq_true rfl) dX0_resetIs_12 (fun H locs hP hD hS => ?_)
  replace hP : va_P D se_cl (se_WS k h (se_u (se_u (se_u g 6 0 1) 6 1 p1) 6 2 p2)) H := hP
  replace hD : va_D A (se_WS k h (se_u (se_u (se_u g 6 0 1) 6 1 p1) 6 2 p2)) := hD
  refine lv_aload_n hx hb dX0_resetIs_15 rfl (lv_at hl 0 rfl) ?_
  refine lv_iload_n hx hb dX0_resetIs_16 rfl (lv_at hl 3 rfl) ?_
  refine va_put (D := D) (ci := 0) (v := .int p3) (ty := .int) (C := RX0) (T := TX0) (N := 9) hx hb hts (se_iw iwX0) tyX0 tyX0_ok nmX0 hown hK hP hD hS 6 rfl rfl 3 (by decide) (hts _ (List.mem_cons_of_mem _ qX0_f38)) (fun _ h9 => h9) rfl (by decide +kernel) rfl rfl (Nat.le_of_ble_eq_true rfl) dX0_resetIs_17 (fun H locs hP hD hS => ?_)
  replace hP : va_P D se_cl (se_WS k h (se_u (se_u (se_u (se_u g 6 0 1) 6 1 p1) 6 2 p2) 6 3 p3)) H := hP
  replace hD : va_D A (se_WS k h (se_u (se_u (se_u (se_u g 6 0 1) 6 1 p1) 6 2 p2) 6 3 p3)) := hD
  exact se_rv hx hb hr hlocks hK hP hD hS dX0_resetIs_20 (by rw [F_S_Due_resetIs])
set_option maxRecDepth 100000 in
set_option maxHeartbeats 4000000 in
theorem c_S_Watch_ticksToAlarm (l : Launch) (D : va_G) (k : Nat → ClassId) (h : Nat → Nat) (sz : Nat) (g : se_G)  : Met l yX4_ticksToAlarm (se_w_X4_ticksToAlarm) ({ frames := 0, cells := 0, slots := 0, locals := 0 }) (va_Pc [.ref (h 5)] (se_Pre D se_cl [(k 2, .byte), (k 4, .int), (k 8, .byte), (k 10, .byte)] (se_WS k h g) se_ZN sz)) (se_Qp (F_S_Watch_ticksToAlarm g)) 0 0 (fun _ => False) := by
  refine se_metP (cc := cX4_ticksToAlarm) (maxL := 1) (ret := (some .int)) (by decide) rfl (Nat.le_of_ble_eq_true rfl) ?_
  intro p e s m below meth c ls A hx hb hr hts hown hlocks hml hA hP hK hD hS hZ hl
  replace hl : lv_has ls 1 [(0, .ref (h 5))] := hl
  have hF : F_S_Watch_ticksToAlarm g = F_S_Watch_ticksToAlarm g := rfl
  refine lv_aload_n hx hb dX4_ticksToAlarm_0 rfl (lv_at hl 0 rfl) ?_
  refine va_get (D := D) (ci := 4) (v := .int (g 5 1)) (C := RX4) (T := TX4) (N := 11) hx hb hts (se_iw iwX4) hown hK hP 5 rfl rfl 1 (by decide) (hts _ (List.mem_cons_of_mem _ qX4_f13)) (fun _ h9 => h9) rfl dX4_ticksToAlarm_1 ?_
  refine lv_if_eq (tgt := 19) hx hb dX4_ticksToAlarm_4 (by decide) (fun c1 => ?_) (fun c1 => ?_)
  · refine lv_iconst (v := 0) hx hb dX4_ticksToAlarm_19 (by decide) ?_
    exact se_rp hx hb hr  hlocks dX4_ticksToAlarm_20 (by rw [F_S_Watch_ticksToAlarm, if_pos c1])
  · refine lv_aload_n hx hb dX4_ticksToAlarm_7 rfl (lv_at hl 0 rfl) ?_
    refine va_get (D := D) (ci := 4) (v := .int (g 5 2)) (C := RX4) (T := TX4) (N := 11) hx hb hts (se_iw iwX4) hown hK hP 5 rfl rfl 2 (by decide) (hts _ (List.mem_cons_of_mem _ qX4_f17)) (fun _ h9 => h9) rfl dX4_ticksToAlarm_8 ?_
    refine lv_aload_n hx hb dX4_ticksToAlarm_11 rfl (lv_at hl 0 rfl) ?_
    refine va_get (D := D) (ci := 4) (v := .int (g 5 0)) (C := RX4) (T := TX4) (N := 11) hx hb hts (se_iw iwX4) hown hK hP 5 rfl rfl 0 (by decide) (hts _ (List.mem_cons_of_mem _ qX4_f41)) (fun _ h9 => h9) rfl dX4_ticksToAlarm_12 ?_
    refine lv_isub hx hb dX4_ticksToAlarm_15 ?_
    refine lv_goto (tgt := 20) hx hb dX4_ticksToAlarm_16 (by decide) ?_
    exact se_rp hx hb hr  hlocks dX4_ticksToAlarm_20 (by rw [F_S_Watch_ticksToAlarm, if_neg c1])
set_option maxRecDepth 100000 in
set_option maxHeartbeats 4000000 in
theorem c_S_Watch_doubleWait (l : Launch) (D : va_G) (k : Nat → ClassId) (h : Nat → Nat) (sz : Nat) (g : se_G)  : Met l yX4_doubleWait (se_w_X4_doubleWait) ({ frames := 1, cells := 0, slots := 0, locals := 21 }) (va_Pc [.ref (h 5)] (se_Pre D se_cl [(k 2, .byte), (k 4, .int), (k 8, .byte), (k 10, .byte)] (se_WS k h g) se_ZN sz)) (se_Qv D se_cl [(k 2, .byte), (k 4, .int), (k 8, .byte), (k 10, .byte)] (se_WS k h) (F_S_Watch_doubleWait g) (va_A (se_WS k h g) sz)) 0 0 (va_A (se_WS k h g) sz) := by
  refine se_met (Qc := se_Qv D se_cl [(k 2, .byte), (k 4, .int), (k 8, .byte), (k 10, .byte)] (se_WS k h) (F_S_Watch_doubleWait g)) (cc := cX4_doubleWait) (maxL := 1) (ret := none) (by decide) rfl (Nat.le_of_ble_eq_true rfl) ?_
  intro p e s m below meth c ls A hx hb hr hts hown hlocks hml hA hP hK hD hS hZ hl
  replace hl : lv_has ls 1 [(0, .ref (h 5))] := hl
  have hF : F_S_Watch_doubleWait g = F_S_Watch_doubleWait g := rfl
  refine lv_aload_n hx hb dX4_doubleWait_0 rfl (lv_at hl 0 rfl) ?_
  refine lv_iconst (v := 2) hx hb dX4_doubleWait_1 (by decide) ?_
  refine lv_aload_n hx hb dX4_doubleWait_2 rfl (lv_at hl 0 rfl) ?_
  refine va_get (D := D) (ci := 4) (v := .int (g 5 4)) (C := RX4) (T := TX4) (N := 11) hx hb hts (se_iw iwX4) hown hK hP 5 rfl rfl 4 (by decide) (hts _ (List.mem_cons_of_mem _ qX4_f9)) (fun _ h9 => h9) rfl dX4_doubleWait_3 ?_
  refine lv_imul hx hb dX4_doubleWait_6 ?_
  refine lv_sipush (v := 1200) hx hb dX4_doubleWait_7 (by decide) ?_
  refine va_mmin hx hb (hml.trans hl.1.symm) hown (hts _ (List.mem_cons_of_mem _ qX4_m47)) (hts _ (List.mem_cons_of_mem _ q_static_Math_min)) (hts _ (List.mem_cons_of_mem _ q_ini_java_lang_Math)) (hts _ (List.mem_cons_of_mem _ q_code_Math_min)) (Nat.le_of_ble_eq_true rfl) (Nat.le_of_ble_eq_true rfl) (Nat.zero_le _) (Nat.zero_le _) dX4_doubleWait_10 ?_
  refine va_put (D := D) (ci := 4) (v := .int (if 1200 < (2 * (g 5 4)) then 1200 else (2 * (g 5 4)))) (ty := .int) (C := RX4) (T := TX4) (N := 11) hx hb hts (se_iw iwX4) tyX4 tyX4_ok nmX4 hown hK hP hD hS 5 rfl rfl 4 (by decide) (hts _ (List.mem_cons_of_mem _ qX4_f9)) (fun _ h9 => h9) rfl (by decide +kernel) rfl rfl (Nat.le_of_ble_eq_true rfl) dX4_doubleWait_13 (fun H locs hP hD hS => ?_)
  replace hP : va_P D se_cl (se_WS k h (se_u g 5 4 (if 1200 < (2 * (g 5 4)) then 1200 else (2 * (g 5 4))))) H := hP
  replace hD : va_D A (se_WS k h (se_u g 5 4 (if 1200 < (2 * (g 5 4)) then 1200 else (2 * (g 5 4))))) := hD
  exact se_rv hx hb hr hlocks hK hP hD hS dX4_doubleWait_16 (by rw [F_S_Watch_doubleWait])
set_option maxRecDepth 100000 in
set_option maxHeartbeats 4000000 in
theorem c_S_takeAlarm (l : Launch) (D : va_G) (k : Nat → ClassId) (h : Nat → Nat) (sz : Nat) (g : se_G)  : Met l yX5_takeAlarm (se_w_X5_takeAlarm) ({ frames := 2, cells := 0, slots := 0, locals := 41 }) (va_Pc [.ref (h 0)] (se_Pre D se_cl [(k 2, .byte), (k 4, .int), (k 8, .byte), (k 10, .byte)] (se_WS k h g) se_ZN sz)) (se_Qv D se_cl [(k 2, .byte), (k 4, .int), (k 8, .byte), (k 10, .byte)] (se_WS k h) (F_S_takeAlarm g) (va_A (se_WS k h g) sz)) 0 0 (va_A (se_WS k h g) sz) := by
  refine se_met (Qc := se_Qv D se_cl [(k 2, .byte), (k 4, .int), (k 8, .byte), (k 10, .byte)] (se_WS k h) (F_S_takeAlarm g)) (cc := cX5_takeAlarm) (maxL := 1) (ret := none) (by decide) rfl (Nat.le_of_ble_eq_true rfl) ?_
  intro p e s m below meth c ls A hx hb hr hts hown hlocks hml hA hP hK hD hS hZ hl
  replace hl : lv_has ls 1 [(0, .ref (h 0))] := hl
  have J48 : ∀ (gj48 : se_G) (H : Heap) (locs : List Loc) (ls : Array Slot), F_S_takeAlarm_j48 gj48 = F_S_takeAlarm g → va_P D se_cl (se_WS k h gj48) H → va_D A (se_WS k h gj48) → va_S A s.heap H locs → lv_has ls 1 [(0, .ref (h 0))] → W p l e ({ frames := 2, cells := 0, slots := 0, locals := 41 }) s m [.ref (h 0)].toArray below meth c H locs 0 0 (MQ below (se_Qv D se_cl [(k 2, .byte), (k 4, .int), (k 8, .byte), (k 10, .byte)] (se_WS k h) (F_S_takeAlarm g) A) [.ref (h 0)].toArray s 0 0 A) (F0 m 48 ls []) := by
    intro gj48 H locs ls hF hP hD hS hl
    refine lv_aload_n hx hb dX5_takeAlarm_48 rfl (lv_at hl 0 rfl) ?_
    refine va_get (D := D) (ci := 5) (v := .ref (h 6)) (C := RX5) (T := TX5) (N := 12) hx hb hts (se_iw iwX5) hown hK hP 0 rfl rfl 5 (by decide) (hts _ (List.mem_cons_of_mem _ qX5_f42)) (fun _ h9 => h9) rfl dX5_takeAlarm_49 ?_
    refine lv_iconst (v := 1) hx hb dX5_takeAlarm_52 (by decide) ?_
    refine va_putN (D := D) (ci := 0) (v := .int 1) (ty := .boolean) (C := RX0) (T := TX0) (N := 9) hx hb hts (se_iw iwX0) tyX0 tyX0_ok nmX0 hown hK hP hD hS 6 rfl rfl 4 (by decide) (va_Nw.use rfl (hZ _ nX5_f173 rfl)) (fun _ h9 => h9) rfl (by decide +kernel) rfl rfl (Nat.le_of_ble_eq_true rfl) dX5_takeAlarm_53 (fun H locs hP hD hS => ?_)
    replace hP : va_P D se_cl (se_WS k h (se_u gj48 6 4 1)) H := hP
    replace hD : va_D A (se_WS k h (se_u gj48 6 4 1)) := hD
    refine lv_goto (tgt := 88) hx hb dX5_takeAlarm_56 (by decide) ?_
    refine lv_aload_n hx hb dX5_takeAlarm_88 rfl (lv_at hl 0 rfl) ?_
    refine va_get (D := D) (ci := 5) (v := .ref (h 5)) (C := RX5) (T := TX5) (N := 12) hx hb hts (se_iw iwX5) hown hK hP 0 rfl rfl 4 (by decide) (hts _ (List.mem_cons_of_mem _ qX5_f35)) (fun _ h9 => h9) rfl dX5_takeAlarm_89 ?_
    refine se_cvE (va_runVN (C := RX4) (As := []) (rest := []) ⟨hx, hb, hml, hown, hts⟩ (c_S_Watch_doubleWait l D k h _ (se_u gj48 6 4 1)) (se_kVN 0 hts q_code_X4_doubleWait (hZ _ nX5_m320 rfl) q_ini_StreamEnd_Watch q_instanceMethod_X4_doubleWait q_sel_X4_doubleWait (by decide +kernel) ⟨Nat.le_of_ble_eq_true rfl, Nat.le_of_ble_eq_true rfl⟩ rfl rfl) ⟨se_blind se_ZN_ok, va_recv hK hP (ci := 4) (q0 := 5) rfl rfl, se_pre se_ZN_ok hP hK hD hZ⟩ rfl rfl hl.1 rfl (lv_room (Nat.le_of_ble_eq_true rfl)) dX5_takeAlarm_92 ⟨Nat.zero_le _, Nat.zero_le _⟩) hD hS hA (fun g1 H locs eg1 hP hD hS => ?_)
    refine lv_aload_n hx hb dX5_takeAlarm_95 rfl (lv_at hl 0 rfl) ?_
    refine va_get (D := D) (ci := 5) (v := .ref (h 5)) (C := RX5) (T := TX5) (N := 12) hx hb hts (se_iw iwX5) hown hK hP 0 rfl rfl 4 (by decide) (hts _ (List.mem_cons_of_mem _ qX5_f35)) (fun _ h9 => h9) rfl dX5_takeAlarm_96 ?_
    refine se_cvE (va_runVN (C := RX4) (As := []) (rest := []) ⟨hx, hb, hml, hown, hts⟩ (c_S_Watch_setAlarm l D k h _ g1) (se_kVN 0 hts q_code_X4_setAlarm (hZ _ nX5_m323 rfl) q_ini_StreamEnd_Watch q_instanceMethod_X4_setAlarm q_sel_X4_setAlarm (by decide +kernel) ⟨Nat.le_of_ble_eq_true rfl, Nat.le_of_ble_eq_true rfl⟩ rfl rfl) ⟨se_blind se_ZN_ok, va_recv hK hP (ci := 4) (q0 := 5) rfl rfl, se_pre se_ZN_ok hP hK hD hZ⟩ rfl rfl hl.1 rfl (lv_room (Nat.le_of_ble_eq_true rfl)) dX5_takeAlarm_99 ⟨Nat.zero_le _, Nat.zero_le _⟩) hD hS hA (fun g2 H locs eg2 hP hD hS => ?_)
    exact se_rv hx hb hr hlocks hK hP hD hS dX5_takeAlarm_102 (by subst eg1; subst eg2; rw [← hF, F_S_takeAlarm_j48])
  have hF : F_S_takeAlarm g = F_S_takeAlarm g := rfl
  refine lv_aload_n hx hb dX5_takeAlarm_0 rfl (lv_at hl 0 rfl) ?_
  refine va_get (D := D) (ci := 5) (v := .ref (h 5)) (C := RX5) (T := TX5) (N := 12) hx hb hts (se_iw iwX5) hown hK hP 0 rfl rfl 4 (by decide) (hts _ (List.mem_cons_of_mem _ qX5_f35)) (fun _ h9 => h9) rfl dX5_takeAlarm_1 ?_
  refine lv_dup hx hb dX5_takeAlarm_4 rfl ?_
  refine va_getN (D := D) (ci := 4) (v := .int (g 5 3)) (C := RX4) (T := TX4) (N := 11) hx hb hts (se_iw iwX4) hown hK hP 5 rfl rfl 3 (by decide) (va_Nw.use rfl (hZ _ nX5_f270 rfl)) (fun _ h9 => h9) rfl dX5_takeAlarm_5 ?_
  refine lv_iconst (v := 1) hx hb dX5_takeAlarm_8 (by decide) ?_
  refine lv_iadd hx hb dX5_takeAlarm_9 ?_
  refine va_putN (D := D) (ci := 4) (v := .int ((g 5 3) + 1)) (ty := .int) (C := RX4) (T := TX4) (N := 11) hx hb hts (se_iw iwX4) tyX4 tyX4_ok nmX4 hown hK hP hD hS 5 rfl rfl 3 (by decide) (va_Nw.use rfl (hZ _ nX5_f270 rfl)) (fun _ h9 => h9) rfl (by decide +kernel) rfl rfl (Nat.le_of_ble_eq_true rfl) dX5_takeAlarm_10 (fun H locs hP hD hS => ?_)
  replace hP : va_P D se_cl (se_WS k h (se_u g 5 3 ((g 5 3) + 1))) H := hP
  replace hD : va_D A (se_WS k h (se_u g 5 3 ((g 5 3) + 1))) := hD
  refine lv_aload_n hx hb dX5_takeAlarm_13 rfl (lv_at hl 0 rfl) ?_
  refine va_get (D := D) (ci := 5) (v := .ref (h 5)) (C := RX5) (T := TX5) (N := 12) hx hb hts (se_iw iwX5) hown hK hP 0 rfl rfl 4 (by decide) (hts _ (List.mem_cons_of_mem _ qX5_f35)) (fun _ h9 => h9) rfl dX5_takeAlarm_14 ?_
  refine va_getN (D := D) (ci := 4) (v := .int ((g 5 3) + 1)) (C := RX4) (T := TX4) (N := 11) hx hb hts (se_iw iwX4) hown hK hP 5 rfl rfl 3 (by decide) (va_Nw.use rfl (hZ _ nX5_f270 rfl)) (fun _ h9 => h9) rfl dX5_takeAlarm_17 ?_
  refine lv_bipush (v := 8) hx hb dX5_takeAlarm_20 (by decide) ?_
  refine lv_icmp_le (tgt := 32) hx hb dX5_takeAlarm_22 (by decide) (fun c1 => ?_) (fun c1 => ?_)
  · refine lv_aload_n hx hb dX5_takeAlarm_32 rfl (lv_at hl 0 rfl) ?_
    refine va_get (D := D) (ci := 5) (v := .int (g 0 9)) (C := RX5) (T := TX5) (N := 12) hx hb hts (se_iw iwX5) hown hK hP 0 rfl rfl 9 (by decide) (hts _ (List.mem_cons_of_mem _ qX5_f60)) (fun _ h9 => h9) rfl dX5_takeAlarm_33 ?_
    refine lv_iconst (v := 2) hx hb dX5_takeAlarm_36 (by decide) ?_
    refine lv_icmp_eq (tgt := 48) hx hb dX5_takeAlarm_37 (by decide) (fun c2 => ?_) (fun c2 => ?_)
    · exact J48 (se_u g 5 3 ((g 5 3) + 1)) _ _ ls (by rw [F_S_takeAlarm, if_pos c1, if_pos c2]) hP hD hS (lv_sub hl [0] rfl)
    · refine lv_aload_n hx hb dX5_takeAlarm_40 rfl (lv_at hl 0 rfl) ?_
      refine va_get (D := D) (ci := 5) (v := .int (g 0 9)) (C := RX5) (T := TX5) (N := 12) hx hb hts (se_iw iwX5) hown hK hP 0 rfl rfl 9 (by decide) (hts _ (List.mem_cons_of_mem _ qX5_f60)) (fun _ h9 => h9) rfl dX5_takeAlarm_41 ?_
      refine lv_iconst (v := 3) hx hb dX5_takeAlarm_44 (by decide) ?_
      refine lv_icmp_ne (tgt := 59) hx hb dX5_takeAlarm_45 (by decide) (fun c3 => ?_) (fun c3 => ?_)
      · refine lv_aload_n hx hb dX5_takeAlarm_59 rfl (lv_at hl 0 rfl) ?_
        refine va_get (D := D) (ci := 5) (v := .ref (h 1)) (C := RX5) (T := TX5) (N := 12) hx hb hts (se_iw iwX5) hown hK hP 0 rfl rfl 2 (by decide) (hts _ (List.mem_cons_of_mem _ qX5_f21)) (fun _ h9 => h9) rfl dX5_takeAlarm_60 ?_
        refine se_cp (va_runVN (C := RX2) (As := []) (rest := []) ⟨hx, hb, hml, hown, hts⟩ (c_S_Outgoing_hasUnthanked l D k h _ (se_u g 5 3 ((g 5 3) + 1))) (se_kVN 0 hts q_code_X2_hasUnthanked (hZ _ nX5_m317 rfl) q_ini_StreamEnd_Outgoing q_instanceMethod_X2_hasUnthanked q_sel_X2_hasUnthanked (by decide +kernel) ⟨Nat.le_of_ble_eq_true rfl, Nat.le_of_ble_eq_true rfl⟩ rfl rfl) ⟨se_blind se_ZN_ok, va_recv hK hP (ci := 2) (q0 := 1) rfl rfl, se_pre se_ZN_ok hP hK hD hZ⟩ rfl rfl hl.1 rfl (lv_room (Nat.le_of_ble_eq_true rfl)) dX5_takeAlarm_63 ⟨Nat.zero_le _, Nat.zero_le _⟩) ?_
        refine lv_if_eq (tgt := 80) hx hb dX5_takeAlarm_66 (by decide) (fun c4 => ?_) (fun c4 => ?_)
        · refine lv_aload_n hx hb dX5_takeAlarm_80 rfl (lv_at hl 0 rfl) ?_
          refine va_get (D := D) (ci := 5) (v := .ref (h 6)) (C := RX5) (T := TX5) (N := 12) hx hb hts (se_iw iwX5) hown hK hP 0 rfl rfl 5 (by decide) (hts _ (List.mem_cons_of_mem _ qX5_f42)) (fun _ h9 => h9) rfl dX5_takeAlarm_81 ?_
          refine lv_iconst (v := 1) hx hb dX5_takeAlarm_84 (by decide) ?_
          refine va_putN (D := D) (ci := 0) (v := .int 1) (ty := .boolean) (C := RX0) (T := TX0) (N := 9) hx hb hts (se_iw iwX0) tyX0 tyX0_ok nmX0 hown hK hP hD hS 6 rfl rfl 7 (by decide) (va_Nw.use rfl (hZ _ nX5_f200 rfl)) (fun _ h9 => h9) rfl (by decide +kernel) rfl rfl (Nat.le_of_ble_eq_true rfl) dX5_takeAlarm_85 (fun H locs hP hD hS => ?_)
          replace hP : va_P D se_cl (se_WS k h (se_u (se_u g 5 3 ((g 5 3) + 1)) 6 7 1)) H := hP
          replace hD : va_D A (se_WS k h (se_u (se_u g 5 3 ((g 5 3) + 1)) 6 7 1)) := hD
          refine lv_aload_n hx hb dX5_takeAlarm_88 rfl (lv_at hl 0 rfl) ?_
          refine va_get (D := D) (ci := 5) (v := .ref (h 5)) (C := RX5) (T := TX5) (N := 12) hx hb hts (se_iw iwX5) hown hK hP 0 rfl rfl 4 (by decide) (hts _ (List.mem_cons_of_mem _ qX5_f35)) (fun _ h9 => h9) rfl dX5_takeAlarm_89 ?_
          refine se_cvE (va_runVN (C := RX4) (As := []) (rest := []) ⟨hx, hb, hml, hown, hts⟩ (c_S_Watch_doubleWait l D k h _ (se_u (se_u g 5 3 ((g 5 3) + 1)) 6 7 1)) (se_kVN 0 hts q_code_X4_doubleWait (hZ _ nX5_m320 rfl) q_ini_StreamEnd_Watch q_instanceMethod_X4_doubleWait q_sel_X4_doubleWait (by decide +kernel) ⟨Nat.le_of_ble_eq_true rfl, Nat.le_of_ble_eq_true rfl⟩ rfl rfl) ⟨se_blind se_ZN_ok, va_recv hK hP (ci := 4) (q0 := 5) rfl rfl, se_pre se_ZN_ok hP hK hD hZ⟩ rfl rfl hl.1 rfl (lv_room (Nat.le_of_ble_eq_true rfl)) dX5_takeAlarm_92 ⟨Nat.zero_le _, Nat.zero_le _⟩) hD hS hA (fun g3 H locs eg3 hP hD hS => ?_)
          refine lv_aload_n hx hb dX5_takeAlarm_95 rfl (lv_at hl 0 rfl) ?_
          refine va_get (D := D) (ci := 5) (v := .ref (h 5)) (C := RX5) (T := TX5) (N := 12) hx hb hts (se_iw iwX5) hown hK hP 0 rfl rfl 4 (by decide) (hts _ (List.mem_cons_of_mem _ qX5_f35)) (fun _ h9 => h9) rfl dX5_takeAlarm_96 ?_
          refine se_cvE (va_runVN (C := RX4) (As := []) (rest := []) ⟨hx, hb, hml, hown, hts⟩ (c_S_Watch_setAlarm l D k h _ g3) (se_kVN 0 hts q_code_X4_setAlarm (hZ _ nX5_m323 rfl) q_ini_StreamEnd_Watch q_instanceMethod_X4_setAlarm q_sel_X4_setAlarm (by decide +kernel) ⟨Nat.le_of_ble_eq_true rfl, Nat.le_of_ble_eq_true rfl⟩ rfl rfl) ⟨se_blind se_ZN_ok, va_recv hK hP (ci := 4) (q0 := 5) rfl rfl, se_pre se_ZN_ok hP hK hD hZ⟩ rfl rfl hl.1 rfl (lv_room (Nat.le_of_ble_eq_true rfl)) dX5_takeAlarm_99 ⟨Nat.zero_le _, Nat.zero_le _⟩) hD hS hA (fun g4 H locs eg4 hP hD hS => ?_)
          exact se_rv hx hb hr hlocks hK hP hD hS dX5_takeAlarm_102 (by subst eg3; subst eg4; rw [F_S_takeAlarm, if_pos c1, if_neg c2, if_neg c3, if_pos c4])
        · refine lv_aload_n hx hb dX5_takeAlarm_69 rfl (lv_at hl 0 rfl) ?_
          refine va_get (D := D) (ci := 5) (v := .ref (h 6)) (C := RX5) (T := TX5) (N := 12) hx hb hts (se_iw iwX5) hown hK hP 0 rfl rfl 5 (by decide) (hts _ (List.mem_cons_of_mem _ qX5_f42)) (fun _ h9 => h9) rfl dX5_takeAlarm_70 ?_
          refine lv_iconst (v := 1) hx hb dX5_takeAlarm_73 (by decide) ?_
          refine va_putN (D := D) (ci := 0) (v := .int 1) (ty := .boolean) (C := RX0) (T := TX0) (N := 9) hx hb hts (se_iw iwX0) tyX0 tyX0_ok nmX0 hown hK hP hD hS 6 rfl rfl 6 (by decide) (va_Nw.use rfl (hZ _ nX5_f179 rfl)) (fun _ h9 => h9) rfl (by decide +kernel) rfl rfl (Nat.le_of_ble_eq_true rfl) dX5_takeAlarm_74 (fun H locs hP hD hS => ?_)
          replace hP : va_P D se_cl (se_WS k h (se_u (se_u g 5 3 ((g 5 3) + 1)) 6 6 1)) H := hP
          replace hD : va_D A (se_WS k h (se_u (se_u g 5 3 ((g 5 3) + 1)) 6 6 1)) := hD
          refine lv_goto (tgt := 88) hx hb dX5_takeAlarm_77 (by decide) ?_
          refine lv_aload_n hx hb dX5_takeAlarm_88 rfl (lv_at hl 0 rfl) ?_
          refine va_get (D := D) (ci := 5) (v := .ref (h 5)) (C := RX5) (T := TX5) (N := 12) hx hb hts (se_iw iwX5) hown hK hP 0 rfl rfl 4 (by decide) (hts _ (List.mem_cons_of_mem _ qX5_f35)) (fun _ h9 => h9) rfl dX5_takeAlarm_89 ?_
          refine se_cvE (va_runVN (C := RX4) (As := []) (rest := []) ⟨hx, hb, hml, hown, hts⟩ (c_S_Watch_doubleWait l D k h _ (se_u (se_u g 5 3 ((g 5 3) + 1)) 6 6 1)) (se_kVN 0 hts q_code_X4_doubleWait (hZ _ nX5_m320 rfl) q_ini_StreamEnd_Watch q_instanceMethod_X4_doubleWait q_sel_X4_doubleWait (by decide +kernel) ⟨Nat.le_of_ble_eq_true rfl, Nat.le_of_ble_eq_true rfl⟩ rfl rfl) ⟨se_blind se_ZN_ok, va_recv hK hP (ci := 4) (q0 := 5) rfl rfl, se_pre se_ZN_ok hP hK hD hZ⟩ rfl rfl hl.1 rfl (lv_room (Nat.le_of_ble_eq_true rfl)) dX5_takeAlarm_92 ⟨Nat.zero_le _, Nat.zero_le _⟩) hD hS hA (fun g5 H locs eg5 hP hD hS => ?_)
          refine lv_aload_n hx hb dX5_takeAlarm_95 rfl (lv_at hl 0 rfl) ?_
          refine va_get (D := D) (ci := 5) (v := .ref (h 5)) (C := RX5) (T := TX5) (N := 12) hx hb hts (se_iw iwX5) hown hK hP 0 rfl rfl 4 (by decide) (hts _ (List.mem_cons_of_mem _ qX5_f35)) (fun _ h9 => h9) rfl dX5_takeAlarm_96 ?_
          refine se_cvE (va_runVN (C := RX4) (As := []) (rest := []) ⟨hx, hb, hml, hown, hts⟩ (c_S_Watch_setAlarm l D k h _ g5) (se_kVN 0 hts q_code_X4_setAlarm (hZ _ nX5_m323 rfl) q_ini_StreamEnd_Watch q_instanceMethod_X4_setAlarm q_sel_X4_setAlarm (by decide +kernel) ⟨Nat.le_of_ble_eq_true rfl, Nat.le_of_ble_eq_true rfl⟩ rfl rfl) ⟨se_blind se_ZN_ok, va_recv hK hP (ci := 4) (q0 := 5) rfl rfl, se_pre se_ZN_ok hP hK hD hZ⟩ rfl rfl hl.1 rfl (lv_room (Nat.le_of_ble_eq_true rfl)) dX5_takeAlarm_99 ⟨Nat.zero_le _, Nat.zero_le _⟩) hD hS hA (fun g6 H locs eg6 hP hD hS => ?_)
          exact se_rv hx hb hr hlocks hK hP hD hS dX5_takeAlarm_102 (by subst eg5; subst eg6; rw [F_S_takeAlarm, if_pos c1, if_neg c2, if_neg c3, if_neg c4])
      · exact J48 (se_u g 5 3 ((g 5 3) + 1)) _ _ ls (by rw [F_S_takeAlarm, if_pos c1, if_neg c2, if_pos c3]) hP hD hS (lv_sub hl [0] rfl)
  · refine lv_aload_n hx hb dX5_takeAlarm_25 rfl (lv_at hl 0 rfl) ?_
    refine lv_bipush (v := 11) hx hb dX5_takeAlarm_26 (by decide) ?_
    refine se_cvE (va_runV (C := RX5) (As := [.int 11]) (rest := []) ⟨hx, hb, hml, hown, hts⟩ (c_S_halt l D k h _ (se_u g 5 3 ((g 5 3) + 1)) 11) (se_kV 1 hts q_code_X5_halt qX5_m132 q_ini_StreamEnd q_instanceMethod_X5_halt q_sel_X5_halt (by decide +kernel) ⟨Nat.le_of_ble_eq_true rfl, Nat.le_of_ble_eq_true rfl⟩ rfl rfl) ⟨se_blind se_ZN_ok, va_recv hK hP (ci := 5) (q0 := 0) rfl rfl, se_pre se_ZN_ok hP hK hD hZ⟩ rfl rfl hl.1 rfl (lv_room (Nat.le_of_ble_eq_true rfl)) dX5_takeAlarm_28 ⟨Nat.zero_le _, Nat.zero_le _⟩) hD hS hA (fun g7 H locs eg7 hP hD hS => ?_)
    exact se_rv hx hb hr hlocks hK hP hD hS dX5_takeAlarm_31 (by subst eg7; rw [F_S_takeAlarm, if_neg c1])
set_option maxRecDepth 100000 in
set_option maxHeartbeats 4000000 in
theorem c_S_takeEvents (l : Launch) (D : va_G) (k : Nat → ClassId) (h : Nat → Nat) (sz : Nat) (g : se_G)  : Met l yX5_takeEvents (se_w_X5_takeEvents) ({ frames := 3, cells := 0, slots := 0, locals := 61 }) (va_Pc [.ref (h 0)] (se_Pre D se_cl [(k 2, .byte), (k 4, .int), (k 8, .byte), (k 10, .byte)] (se_WS k h g) se_ZN sz)) (se_Qv D se_cl [(k 2, .byte), (k 4, .int), (k 8, .byte), (k 10, .byte)] (se_WS k h) (F_S_takeEvents g) (va_A (se_WS k h g) sz)) 0 0 (va_A (se_WS k h g) sz) := by
  refine se_met (Qc := se_Qv D se_cl [(k 2, .byte), (k 4, .int), (k 8, .byte), (k 10, .byte)] (se_WS k h) (F_S_takeEvents g)) (cc := cX5_takeEvents) (maxL := 1) (ret := none) (by decide) rfl (Nat.le_of_ble_eq_true rfl) ?_
  intro p e s m below meth c ls A hx hb hr hts hown hlocks hml hA hP hK hD hS hZ hl
  replace hl : lv_has ls 1 [(0, .ref (h 0))] := hl
  have J28 : ∀ (gj28 : se_G) (H : Heap) (locs : List Loc) (ls : Array Slot), F_S_takeEvents_j28 gj28 = F_S_takeEvents g → va_P D se_cl (se_WS k h gj28) H → va_D A (se_WS k h gj28) → va_S A s.heap H locs → lv_has ls 1 [(0, .ref (h 0))] → W p l e ({ frames := 3, cells := 0, slots := 0, locals := 61 }) s m [.ref (h 0)].toArray below meth c H locs 0 0 (MQ below (se_Qv D se_cl [(k 2, .byte), (k 4, .int), (k 8, .byte), (k 10, .byte)] (se_WS k h) (F_S_takeEvents g) A) [.ref (h 0)].toArray s 0 0 A) (F0 m 28 ls []) := by
    intro gj28 H locs ls hF hP hD hS hl
    refine lv_aload_n hx hb dX5_takeEvents_28 rfl (lv_at hl 0 rfl) ?_
    refine va_get (D := D) (ci := 5) (v := .ref (h 5)) (C := RX5) (T := TX5) (N := 12) hx hb hts (se_iw iwX5) hown hK hP 0 rfl rfl 4 (by decide) (hts _ (List.mem_cons_of_mem _ qX5_f35)) (fun _ h9 => h9) rfl dX5_takeEvents_29 ?_
    refine va_getN (D := D) (ci := 4) (v := .int (gj28 5 1)) (C := RX4) (T := TX4) (N := 11) hx hb hts (se_iw iwX4) hown hK hP 5 rfl rfl 1 (by decide) (va_Nw.use rfl (hZ _ nX5_f155 rfl)) (fun _ h9 => h9) rfl dX5_takeEvents_32 ?_
    refine lv_if_eq (tgt := 59) hx hb dX5_takeEvents_35 (by decide) (fun c2 => ?_) (fun c2 => ?_)
    · exact se_rv hx hb hr hlocks hK hP hD hS dX5_takeEvents_59 (by rw [← hF, F_S_takeEvents_j28, if_pos c2])
    · refine lv_aload_n hx hb dX5_takeEvents_38 rfl (lv_at hl 0 rfl) ?_
      refine va_get (D := D) (ci := 5) (v := .ref (h 5)) (C := RX5) (T := TX5) (N := 12) hx hb hts (se_iw iwX5) hown hK hP 0 rfl rfl 4 (by decide) (hts _ (List.mem_cons_of_mem _ qX5_f35)) (fun _ h9 => h9) rfl dX5_takeEvents_39 ?_
      refine va_getN (D := D) (ci := 4) (v := .int (gj28 5 0)) (C := RX4) (T := TX4) (N := 11) hx hb hts (se_iw iwX4) hown hK hP 5 rfl rfl 0 (by decide) (va_Nw.use rfl (hZ _ nX5_f150 rfl)) (fun _ h9 => h9) rfl dX5_takeEvents_42 ?_
      refine lv_aload_n hx hb dX5_takeEvents_45 rfl (lv_at hl 0 rfl) ?_
      refine va_get (D := D) (ci := 5) (v := .ref (h 5)) (C := RX5) (T := TX5) (N := 12) hx hb hts (se_iw iwX5) hown hK hP 0 rfl rfl 4 (by decide) (hts _ (List.mem_cons_of_mem _ qX5_f35)) (fun _ h9 => h9) rfl dX5_takeEvents_46 ?_
      refine va_getN (D := D) (ci := 4) (v := .int (gj28 5 2)) (C := RX4) (T := TX4) (N := 11) hx hb hts (se_iw iwX4) hown hK hP 5 rfl rfl 2 (by decide) (va_Nw.use rfl (hZ _ nX5_f311 rfl)) (fun _ h9 => h9) rfl dX5_takeEvents_49 ?_
      refine lv_icmp_lt (tgt := 59) hx hb dX5_takeEvents_52 (by decide) (fun c3 => ?_) (fun c3 => ?_)
      · exact se_rv hx hb hr hlocks hK hP hD hS dX5_takeEvents_59 (by rw [← hF, F_S_takeEvents_j28, if_neg c2, if_pos c3])
      · refine lv_aload_n hx hb dX5_takeEvents_55 rfl (lv_at hl 0 rfl) ?_
        refine se_cvE (va_runV (C := RX5) (As := []) (rest := []) ⟨hx, hb, hml, hown, hts⟩ (c_S_takeAlarm l D k h _ gj28) (se_kV 0 hts q_code_X5_takeAlarm qX5_m314 q_ini_StreamEnd q_instanceMethod_X5_takeAlarm q_sel_X5_takeAlarm (by decide +kernel) ⟨Nat.le_of_ble_eq_true rfl, Nat.le_of_ble_eq_true rfl⟩ rfl rfl) ⟨se_blind se_ZN_ok, va_recv hK hP (ci := 5) (q0 := 0) rfl rfl, se_pre se_ZN_ok hP hK hD hZ⟩ rfl rfl hl.1 rfl (lv_room (Nat.le_of_ble_eq_true rfl)) dX5_takeEvents_56 ⟨Nat.zero_le _, Nat.zero_le _⟩) hD hS hA (fun g1 H locs eg1 hP hD hS => ?_)
        exact se_rv hx hb hr hlocks hK hP hD hS dX5_takeEvents_59 (by subst eg1; rw [← hF, F_S_takeEvents_j28, if_neg c2, if_neg c3])
  have hF : F_S_takeEvents g = F_S_takeEvents g := rfl
  refine lv_aload_n hx hb dX5_takeEvents_0 rfl (lv_at hl 0 rfl) ?_
  refine va_get (D := D) (ci := 5) (v := .int (g 0 9)) (C := RX5) (T := TX5) (N := 12) hx hb hts (se_iw iwX5) hown hK hP 0 rfl rfl 9 (by decide) (hts _ (List.mem_cons_of_mem _ qX5_f60)) (fun _ h9 => h9) rfl dX5_takeEvents_1 ?_
  refine lv_bipush (v := 10) hx hb dX5_takeEvents_4 (by decide) ?_
  refine lv_icmp_ne (tgt := 28) hx hb dX5_takeEvents_6 (by decide) (fun c1 => ?_) (fun c1 => ?_)
  · exact J28 g _ _ ls (by rw [F_S_takeEvents, if_neg c1]) hP hD hS (lv_sub hl [0] rfl)
  · refine lv_aload_n hx hb dX5_takeEvents_9 rfl (lv_at hl 0 rfl) ?_
    refine va_get (D := D) (ci := 5) (v := .ref (h 5)) (C := RX5) (T := TX5) (N := 12) hx hb hts (se_iw iwX5) hown hK hP 0 rfl rfl 4 (by decide) (hts _ (List.mem_cons_of_mem _ qX5_f35)) (fun _ h9 => h9) rfl dX5_takeEvents_10 ?_
    refine va_getN (D := D) (ci := 4) (v := .int (g 5 0)) (C := RX4) (T := TX4) (N := 11) hx hb hts (se_iw iwX4) hown hK hP 5 rfl rfl 0 (by decide) (va_Nw.use rfl (hZ _ nX5_f150 rfl)) (fun _ h9 => h9) rfl dX5_takeEvents_13 ?_
    refine lv_aload_n hx hb dX5_takeEvents_16 rfl (lv_at hl 0 rfl) ?_
    refine va_get (D := D) (ci := 5) (v := .int (g 0 11)) (C := RX5) (T := TX5) (N := 12) hx hb hts (se_iw iwX5) hown hK hP 0 rfl rfl 11 (by decide) (hts _ (List.mem_cons_of_mem _ qX5_f66)) (fun _ h9 => h9) rfl dX5_takeEvents_17 ?_
    refine lv_icmp_lt (tgt := 28) hx hb dX5_takeEvents_20 (by decide) (fun c4 => ?_) (fun c4 => ?_)
    · exact J28 g _ _ ls (by rw [F_S_takeEvents, if_pos c1, if_pos c4]) hP hD hS (lv_sub hl [0] rfl)
    · refine lv_aload_n hx hb dX5_takeEvents_23 rfl (lv_at hl 0 rfl) ?_
      refine lv_iconst (v := 0) hx hb dX5_takeEvents_24 (by decide) ?_
      refine se_cvE (va_runV (C := RX5) (As := [.int 0]) (rest := []) ⟨hx, hb, hml, hown, hts⟩ (c_S_halt l D k h _ g 0) (se_kV 1 hts q_code_X5_halt qX5_m132 q_ini_StreamEnd q_instanceMethod_X5_halt q_sel_X5_halt (by decide +kernel) ⟨Nat.le_of_ble_eq_true rfl, Nat.le_of_ble_eq_true rfl⟩ rfl rfl) ⟨se_blind se_ZN_ok, va_recv hK hP (ci := 5) (q0 := 0) rfl rfl, se_pre se_ZN_ok hP hK hD hZ⟩ rfl rfl hl.1 rfl (lv_room (Nat.le_of_ble_eq_true rfl)) dX5_takeEvents_25 ⟨Nat.zero_le _, Nat.zero_le _⟩) hD hS hA (fun g2 H locs eg2 hP hD hS => ?_)
      exact J28 g2 _ _ ls (by subst eg2; rw [F_S_takeEvents, if_pos c1, if_neg c4]) hP hD hS (lv_sub hl [0] rfl)
set_option maxRecDepth 100000 in
set_option maxHeartbeats 4000000 in
theorem c_S_Segment_headIs_9 (l : Launch) (D : va_G) (k : Nat → ClassId) (h : Nat → Nat) (sz : Nat) (g : se_G) (p1 : Int32) (p2 : Int32) (p3 : Int32) (p4 : Int32) (p5 : Int32) : Met l yX3_headIs (se_w_X3_headIs) ({ frames := 0, cells := 0, slots := 0, locals := 0 }) (va_Pc [.ref (h 9), .int p1, .int p2, .int p3, .int p4, .int p5] (se_Pre D se_cl [(k 2, .byte), (k 4, .int), (k 8, .byte), (k 10, .byte)] (se_WS k h g) se_ZN sz)) (se_Qv D se_cl [(k 2, .byte), (k 4, .int), (k 8, .byte), (k 10, .byte)] (se_WS k h) (F_S_Segment_headIs_9 g p1 p2 p3 p4 p5) (va_A (se_WS k h g) sz)) 0 0 (va_A (se_WS k h g) sz) := by
  refine se_met (Qc := se_Qv D se_cl [(k 2, .byte), (k 4, .int), (k 8, .byte), (k 10, .byte)] (se_WS k h) (F_S_Segment_headIs_9 g p1 p2 p3 p4 p5)) (cc := cX3_headIs) (maxL := 6) (ret := none) (by decide) rfl (Nat.le_of_ble_eq_true rfl) ?_
  intro p e s m below meth c ls A hx hb hr hts hown hlocks hml hA hP hK hD hS hZ hl
  replace hl : lv_has ls 6 [(0, .ref (h 9)), (1, .int p1), (2, .int p2), (3, .int p3), (4, .int p4), (5, .int p5)] := hl
  have hF : F_S_Segment_headIs_9 g p1 p2 p3 p4 p5 = F_S_Segment_headIs_9 g p1 p2 p3 p4 p5 := rfl
  refine lv_aload_n hx hb dX3_headIs_0 rfl (lv_at hl 0 rfl) ?_
  refine lv_iload_n hx hb dX3_headIs_1 rfl (lv_at hl 1 rfl) ?_
  refine va_put (D := D) (ci := 3) (v := .int p1) (ty := .int) (C := RX3) (T := TX3) (N := 7) hx hb hts (se_iw iwX3) tyX3 tyX3_ok nmX3 hown hK hP hD hS 9 rfl rfl 2 (by decide) (hts _ (List.mem_cons_of_mem _ qX3_f15)) (fun _ h9 => h9) rfl (by decide +kernel) rfl rfl (Nat.le_of_ble_eq_true rfl) dX3_headIs_2 (fun H locs hP hD hS => ?_)
  replace hP : va_P D se_cl (se_WS k h (se_u g 9 2 p1)) H := hP
  replace hD : va_D A (se_WS k h (se_u g 9 2 p1)) := hD
  refine lv_aload_n hx hb dX3_headIs_5 rfl (lv_at hl 0 rfl) ?_
  refine lv_iload_n hx hb dX3_headIs_6 rfl (lv_at hl 2 rfl) ?_
  refine va_put (D := D) (ci := 3) (v := .int p2) (ty := .int) (C := RX3) (T := TX3) (N := 7) hx hb hts (se_iw iwX3) tyX3 tyX3_ok nmX3 hown hK hP hD hS 9 rfl rfl 3 (by decide) (hts _ (List.mem_cons_of_mem _ qX3_f19)) (fun _ h9 => h9) rfl (by decide +kernel) rfl rfl (Nat.le_of_ble_eq_true rfl) dX3_headIs_7 (fun H locs hP hD hS => ?_)
  replace hP : va_P D se_cl (se_WS k h (se_u (se_u g 9 2 p1) 9 3 p2)) H := hP
  replace hD : va_D A (se_WS k h (se_u (se_u g 9 2 p1) 9 3 p2)) := hD
  refine lv_aload_n hx hb dX3_headIs_10 rfl (lv_at hl 0 rfl) ?_
  refine lv_iload_n hx hb dX3_headIs_11 rfl (lv_at hl 3 rfl) ?_
  refine va_put (D := D) (ci := 3) (v := .int p3) (ty := .int) (C := RX3) (T := TX3) (N := 7) hx hb hts (se_iw iwX3) tyX3 tyX3_ok nmX3 hown hK hP hD hS 9 rfl rfl 4 (by decide) (hts _ (List.mem_cons_of_mem _ qX3_f22)) (fun _ h9 => h9) rfl (by decide +kernel) rfl rfl (Nat.le_of_ble_eq_true rfl) dX3_headIs_12 (fun H locs hP hD hS => ?_)
  replace hP : va_P D se_cl (se_WS k h (se_u (se_u (se_u g 9 2 p1) 9 3 p2) 9 4 p3)) H := hP
  replace hD : va_D A (se_WS k h (se_u (se_u (se_u g 9 2 p1) 9 3 p2) 9 4 p3)) := hD
  refine lv_aload_n hx hb dX3_headIs_15 rfl (lv_at hl 0 rfl) ?_
  refine lv_iload hx hb dX3_headIs_16 (lv_at hl 4 rfl) ?_
  refine va_put (D := D) (ci := 3) (v := .int p4) (ty := .int) (C := RX3) (T := TX3) (N := 7) hx hb hts (se_iw iwX3) tyX3 tyX3_ok nmX3 hown hK hP hD hS 9 rfl rfl 5 (by decide) (hts _ (List.mem_cons_of_mem _ qX3_f25)) (fun _ h9 => h9) rfl (by decide +kernel) rfl rfl (Nat.le_of_ble_eq_true rfl) dX3_headIs_18 (fun H locs hP hD hS => ?_)
  replace hP : va_P D se_cl (se_WS k h (se_u (se_u (se_u (se_u g 9 2 p1) 9 3 p2) 9 4 p3) 9 5 p4)) H := hP
  replace hD : va_D A (se_WS k h (se_u (se_u (se_u (se_u g 9 2 p1) 9 3 p2) 9 4 p3) 9 5 p4)) := hD
  refine lv_aload_n hx hb dX3_headIs_21 rfl (lv_at hl 0 rfl) ?_
  refine lv_iload hx hb dX3_headIs_22 (lv_at hl 5 rfl) ?_
  refine va_put (D := D) (ci := 3) (v := .int p5) (ty := .int) (C := RX3) (T := TX3) (N := 7) hx hb hts (se_iw iwX3) tyX3 tyX3_ok nmX3 hown hK hP hD hS 9 rfl rfl 6 (by decide) (hts _ (List.mem_cons_of_mem _ qX3_f28)) (fun _ h9 => h9) rfl (by decide +kernel) rfl rfl (Nat.le_of_ble_eq_true rfl) dX3_headIs_24 (fun H locs hP hD hS => ?_)
  replace hP : va_P D se_cl (se_WS k h (se_u (se_u (se_u (se_u (se_u g 9 2 p1) 9 3 p2) 9 4 p3) 9 5 p4) 9 6 p5)) H := hP
  replace hD : va_D A (se_WS k h (se_u (se_u (se_u (se_u (se_u g 9 2 p1) 9 3 p2) 9 4 p3) 9 5 p4) 9 6 p5)) := hD
  exact se_rv hx hb hr hlocks hK hP hD hS dX3_headIs_27 (by rw [F_S_Segment_headIs_9])
set_option maxRecDepth 100000 in
set_option maxHeartbeats 4000000 in
theorem c_S_Segment_append_9 (l : Launch) (D : va_G) (k : Nat → ClassId) (h : Nat → Nat) (sz : Nat) (g : se_G) (p1 : Int32) : Met l yX3_append (se_w_X3_append) ({ frames := 0, cells := 0, slots := 0, locals := 0 }) (va_Pc [.ref (h 9), .int p1] (se_Pre D se_cl [(k 2, .byte), (k 4, .int), (k 8, .byte), (k 10, .byte)] (se_WS k h g) se_ZN sz)) (se_Qv D se_cl [(k 2, .byte), (k 4, .int), (k 8, .byte), (k 10, .byte)] (se_WS k h) (F_S_Segment_append_9 g p1) (va_A (se_WS k h g) sz)) 0 0 (va_A (se_WS k h g) sz) := by
  refine se_met (Qc := se_Qv D se_cl [(k 2, .byte), (k 4, .int), (k 8, .byte), (k 10, .byte)] (se_WS k h) (F_S_Segment_append_9 g p1)) (cc := cX3_append) (maxL := 2) (ret := none) (by decide) rfl (Nat.le_of_ble_eq_true rfl) ?_
  intro p e s m below meth c ls A hx hb hr hts hown hlocks hml hA hP hK hD hS hZ hl
  replace hl : lv_has ls 2 [(0, .ref (h 9)), (1, .int p1)] := hl
  have hF : F_S_Segment_append_9 g p1 = F_S_Segment_append_9 g p1 := rfl
  refine lv_aload_n hx hb dX3_append_0 rfl (lv_at hl 0 rfl) ?_
  refine va_get (D := D) (ci := 3) (v := .int (g 9 1)) (C := RX3) (T := TX3) (N := 7) hx hb hts (se_iw iwX3) hown hK hP 9 rfl rfl 1 (by decide) (hts _ (List.mem_cons_of_mem _ qX3_f31)) (fun _ h9 => h9) rfl dX3_append_1 ?_
  refine lv_if_lt (tgt := 39) hx hb dX3_append_4 (by decide) (fun c1 => ?_) (fun c1 => ?_)
  · exact se_rv hx hb hr hlocks hK hP hD hS dX3_append_39 (by rw [F_S_Segment_append_9, if_pos c1])
  · refine lv_aload_n hx hb dX3_append_7 rfl (lv_at hl 0 rfl) ?_
    refine va_get (D := D) (ci := 3) (v := .int (g 9 1)) (C := RX3) (T := TX3) (N := 7) hx hb hts (se_iw iwX3) hown hK hP 9 rfl rfl 1 (by decide) (hts _ (List.mem_cons_of_mem _ qX3_f31)) (fun _ h9 => h9) rfl dX3_append_8 ?_
    refine lv_aload_n hx hb dX3_append_11 rfl (lv_at hl 0 rfl) ?_
    refine va_get (D := D) (ci := 3) (v := .ref (h 10)) (C := RX3) (T := TX3) (N := 7) hx hb hts (se_iw iwX3) hown hK hP 9 rfl rfl 0 (by decide) (hts _ (List.mem_cons_of_mem _ qX3_f9)) (fun _ h9 => h9) rfl dX3_append_12 ?_
    refine va_alen hx hb hK hP 10 3 rfl rfl (v := 1460) rfl dX3_append_15 ?_
    refine lv_icmp_ge (tgt := 39) hx hb dX3_append_16 (by decide) (fun c2 => ?_) (fun c2 => ?_)
    · exact se_rv hx hb hr hlocks hK hP hD hS dX3_append_39 (by rw [F_S_Segment_append_9, if_neg c1, if_pos c2])
    · refine lv_aload_n hx hb dX3_append_19 rfl (lv_at hl 0 rfl) ?_
      refine va_get (D := D) (ci := 3) (v := .ref (h 10)) (C := RX3) (T := TX3) (N := 7) hx hb hts (se_iw iwX3) hown hK hP 9 rfl rfl 0 (by decide) (hts _ (List.mem_cons_of_mem _ qX3_f9)) (fun _ h9 => h9) rfl dX3_append_20 ?_
      refine lv_aload_n hx hb dX3_append_23 rfl (lv_at hl 0 rfl) ?_
      refine va_get (D := D) (ci := 3) (v := .int (g 9 1)) (C := RX3) (T := TX3) (N := 7) hx hb hts (se_iw iwX3) hown hK hP 9 rfl rfl 1 (by decide) (hts _ (List.mem_cons_of_mem _ qX3_f31)) (fun _ h9 => h9) rfl dX3_append_24 ?_
      refine lv_iload_n hx hb dX3_append_27 rfl (lv_at hl 1 rfl) ?_
      refine va_bast hx hb hK hP hD hS 10 3 rfl rfl (se_inN (N := 1460) (by decide) c1 c2) dX3_append_28 (fun H locs hP hD hS => ?_)
      replace hP : va_P D se_cl (se_WS k h (se_u g 10 (Int32.toNatClampNeg (g 9 1)) (vp_nar .byte p1))) H := hP
      replace hD : va_D A (se_WS k h (se_u g 10 (Int32.toNatClampNeg (g 9 1)) (vp_nar .byte p1))) := hD
      refine lv_aload_n hx hb dX3_append_29 rfl (lv_at hl 0 rfl) ?_
      refine lv_dup hx hb dX3_append_30 rfl ?_
      refine va_get (D := D) (ci := 3) (v := .int (g 9 1)) (C := RX3) (T := TX3) (N := 7) hx hb hts (se_iw iwX3) hown hK hP 9 rfl rfl 1 (by decide) (hts _ (List.mem_cons_of_mem _ qX3_f31)) (fun _ h9 => h9) rfl dX3_append_31 ?_
      refine lv_iconst (v := 1) hx hb dX3_append_34 (by decide) ?_
      refine lv_iadd hx hb dX3_append_35 ?_
      refine va_put (D := D) (ci := 3) (v := .int ((g 9 1) + 1)) (ty := .int) (C := RX3) (T := TX3) (N := 7) hx hb hts (se_iw iwX3) tyX3 tyX3_ok nmX3 hown hK hP hD hS 9 rfl rfl 1 (by decide) (hts _ (List.mem_cons_of_mem _ qX3_f31)) (fun _ h9 => h9) rfl (by decide +kernel) rfl rfl (Nat.le_of_ble_eq_true rfl) dX3_append_36 (fun H locs hP hD hS => ?_)
      replace hP : va_P D se_cl (se_WS k h (se_u (se_u g 10 (Int32.toNatClampNeg (g 9 1)) (vp_nar .byte p1)) 9 1 ((g 9 1) + 1))) H := hP
      replace hD : va_D A (se_WS k h (se_u (se_u g 10 (Int32.toNatClampNeg (g 9 1)) (vp_nar .byte p1)) 9 1 ((g 9 1) + 1))) := hD
      exact se_rv hx hb hr hlocks hK hP hD hS dX3_append_39 (by rw [F_S_Segment_append_9, if_neg c1, if_neg c2])
set_option maxRecDepth 100000 in
set_option maxHeartbeats 4000000 in
theorem c_S_Outgoing_copyTo (l : Launch) (D : va_G) (k : Nat → ClassId) (h : Nat → Nat) (sz : Nat) (g : se_G) (p2 : Int32) (p3 : Int32) : Met l yX2_copyTo (se_w_X2_copyTo) ({ frames := 1, cells := 0, slots := 0, locals := 21 }) (va_Pc [.ref (h 1), .ref (h 9), .int p2, .int p3] (se_Pre D se_cl [(k 2, .byte), (k 4, .int), (k 8, .byte), (k 10, .byte)] (se_WS k h g) se_ZN sz)) (se_Qv D se_cl [(k 2, .byte), (k 4, .int), (k 8, .byte), (k 10, .byte)] (se_WS k h) (F_S_Outgoing_copyTo g p2 p3) (va_A (se_WS k h g) sz)) 0 0 (va_A (se_WS k h g) sz) := by
  refine se_met (Qc := se_Qv D se_cl [(k 2, .byte), (k 4, .int), (k 8, .byte), (k 10, .byte)] (se_WS k h) (F_S_Outgoing_copyTo g p2 p3)) (cc := cX2_copyTo) (maxL := 5) (ret := none) (by decide) rfl (Nat.le_of_ble_eq_true rfl) ?_
  intro p e s m below meth c ls A hx hb hr hts hown hlocks hml hA hP hK hD hS hZ hl
  replace hl : lv_has ls 5 [(0, .ref (h 1)), (1, .ref (h 9)), (2, .int p2), (3, .int p3)] := hl
  have L8 : ∀ (n : Nat) (gj8 : se_G) (v2_8 : Int32) (v3_8 : Int32) (v4_8 : Int32) (H : Heap) (locs : List Loc) (ls : Array Slot), ((v3_8).toInt - (v4_8).toInt).toNat < n → F_S_Outgoing_copyTo_j8 n gj8 v2_8 v3_8 v4_8 = F_S_Outgoing_copyTo g p2 p3 → va_P D se_cl (se_WS k h gj8) H → va_D A (se_WS k h gj8) → va_S A s.heap H locs → lv_has ls 5 [(0, .ref (h 1)), (1, .ref (h 9)), (2, .int v2_8), (3, .int v3_8), (4, .int v4_8)] → W p l e ({ frames := 1, cells := 0, slots := 0, locals := 21 }) s m [.ref (h 1), .ref (h 9), .int p2, .int p3].toArray below meth c H locs 0 0 (MQ below (se_Qv D se_cl [(k 2, .byte), (k 4, .int), (k 8, .byte), (k 10, .byte)] (se_WS k h) (F_S_Outgoing_copyTo g p2 p3) A) [.ref (h 1), .ref (h 9), .int p2, .int p3].toArray s 0 0 A) (F0 m 8 ls []) := by
    intro n
    induction n with
    | zero => intro gj8 v2_8 v3_8 v4_8 H locs ls hM; exact absurd hM (Nat.not_lt_zero _)
    | succ n ih =>
      intro gj8 v2_8 v3_8 v4_8 H locs ls hM hF hP hD hS hl
      refine lv_iload hx hb dX2_copyTo_8 (lv_at hl 4 rfl) ?_
      refine lv_iload_n hx hb dX2_copyTo_10 rfl (lv_at hl 3 rfl) ?_
      refine lv_icmp_ge (tgt := 42) hx hb dX2_copyTo_11 (by decide) (fun c1 => ?_) (fun c1 => ?_)
      · exact se_rv hx hb hr hlocks hK hP hD hS dX2_copyTo_42 (by rw [← hF, F_S_Outgoing_copyTo_j8, if_pos c1])
      · refine lv_aload_n hx hb dX2_copyTo_14 rfl (lv_at hl 1 rfl) ?_
        refine lv_aload_n hx hb dX2_copyTo_15 rfl (lv_at hl 0 rfl) ?_
        refine va_get (D := D) (ci := 2) (v := .ref (h 2)) (C := RX2) (T := TX2) (N := 13) hx hb hts (se_iw iwX2) hown hK hP 1 rfl rfl 0 (by decide) (hts _ (List.mem_cons_of_mem _ qX2_f9)) (fun _ h9 => h9) rfl dX2_copyTo_16 ?_
        refine lv_aload_n hx hb dX2_copyTo_19 rfl (lv_at hl 0 rfl) ?_
        refine va_get (D := D) (ci := 2) (v := .int (gj8 1 1)) (C := RX2) (T := TX2) (N := 13) hx hb hts (se_iw iwX2) hown hK hP 1 rfl rfl 1 (by decide) (hts _ (List.mem_cons_of_mem _ qX2_f19)) (fun _ h9 => h9) rfl dX2_copyTo_20 ?_
        refine lv_iload_n hx hb dX2_copyTo_23 rfl (lv_at hl 2 rfl) ?_
        refine lv_iadd hx hb dX2_copyTo_24 ?_
        refine lv_iload hx hb dX2_copyTo_25 (lv_at hl 4 rfl) ?_
        refine lv_iadd hx hb dX2_copyTo_27 ?_
        refine lv_sipush (v := 2047) hx hb dX2_copyTo_28 (by decide) ?_
        refine lv_iand hx hb dX2_copyTo_31 ?_
        refine va_bald hx hb hK hP 2 0 rfl rfl (pk_andIn _ 11 (by decide) (by decide)) dX2_copyTo_32 ?_
        refine se_cvE (va_runVN (C := RX3) (As := [.int (gj8 2 (Int32.toNatClampNeg ((((gj8 1 1) + v2_8) + v4_8) &&& 2047)))]) (rest := []) ⟨hx, hb, hml, hown, hts⟩ (c_S_Segment_append_9 l D k h _ gj8 (gj8 2 (Int32.toNatClampNeg ((((gj8 1 1) + v2_8) + v4_8) &&& 2047)))) (se_kVN 1 hts q_code_X3_append (hZ _ nX2_m80 rfl) q_ini_StreamEnd_Segment q_instanceMethod_X3_append q_sel_X3_append (by decide +kernel) ⟨Nat.le_of_ble_eq_true rfl, Nat.le_of_ble_eq_true rfl⟩ rfl rfl) ⟨se_blind se_ZN_ok, va_recv hK hP (ci := 3) (q0 := 9) rfl rfl, se_pre se_ZN_ok hP hK hD hZ⟩ rfl rfl hl.1 rfl (lv_room (Nat.le_of_ble_eq_true rfl)) dX2_copyTo_33 ⟨Nat.zero_le _, Nat.zero_le _⟩) hD hS hA (fun g1 H locs eg1 hP hD hS => ?_)
        refine lv_iinc (v := (v4_8 + 1)) (lv' := [(4, .int (v4_8 + 1)), (0, .ref (h 1)), (1, .ref (h 9)), (2, .int v2_8), (3, .int v3_8)]) hx hb dX2_copyTo_36 hl (k := 4) rfl rfl (by decide) rfl (fun ls hl => ?_)
        refine lv_goto (tgt := 8) hx hb dX2_copyTo_39 (by decide) ?_
        exact ih g1 v2_8 v3_8 (v4_8 + 1) _ _ ls (se_dec c1 hM) (by subst eg1; rw [← hF, F_S_Outgoing_copyTo_j8, if_neg c1]) hP hD hS (lv_sub hl [1, 2, 3, 4, 0] rfl)
  have hF : F_S_Outgoing_copyTo g p2 p3 = F_S_Outgoing_copyTo g p2 p3 := rfl
  refine lv_aload_n hx hb dX2_copyTo_0 rfl (lv_at hl 1 rfl) ?_
  refine lv_iconst (v := 0) hx hb dX2_copyTo_1 (by decide) ?_
  refine va_putN (D := D) (ci := 3) (v := .int 0) (ty := .int) (C := RX3) (T := TX3) (N := 7) hx hb hts (se_iw iwX3) tyX3 tyX3_ok nmX3 hown hK hP hD hS 9 rfl rfl 1 (by decide) (va_Nw.use rfl (hZ _ nX2_f77 rfl)) (fun _ h9 => h9) rfl (by decide +kernel) rfl rfl (Nat.le_of_ble_eq_true rfl) dX2_copyTo_2 (fun H locs hP hD hS => ?_)
  replace hP : va_P D se_cl (se_WS k h (se_u g 9 1 0)) H := hP
  replace hD : va_D A (se_WS k h (se_u g 9 1 0)) := hD
  refine lv_iconst (v := 0) hx hb dX2_copyTo_5 (by decide) ?_
  refine lv_istore (lv' := [(4, .int 0), (0, .ref (h 1)), (1, .ref (h 9)), (2, .int p2), (3, .int p3)]) hx hb dX2_copyTo_6 hl (by decide) rfl (fun ls hl => ?_)
  exact L8 ((((p3) : Int32).toInt - ((0) : Int32).toInt).toNat + 1) (se_u g 9 1 0) p2 p3 0 _ _ ls (se_fuel _ _) (by rw [F_S_Outgoing_copyTo]) hP hD hS (lv_sub hl [1, 2, 3, 4, 0] rfl)
