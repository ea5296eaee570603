/-! written by program (wip/gen) -/
set_option maxRecDepth 100000 in
set_option maxHeartbeats 4000000 in
theorem c_S_makeOpen (l : Launch) (D : va_G) (k : Nat → ClassId) (h : Nat → Nat) (sz : Nat) (g : se_G)  : Met l yX5_makeOpen (se_w_X5_makeOpen) ({ frames := 3, cells := 0, slots := 0, locals := 71 }) (va_Pc [.ref (h 0)] (se_Pre D se_cl [(k 2, .byte), (k 4, .int), (k 8, .byte), (k 10, .byte)] (se_WS k h g) se_ZN sz)) (se_Qv D se_cl [(k 2, .byte), (k 4, .int), (k 8, .byte), (k 10, .byte)] (se_WS k h) (F_S_makeOpen g) (va_A (se_WS k h g) sz)) 0 0 (va_A (se_WS k h g) sz) := by
  refine se_met (Qc := se_Qv D se_cl [(k 2, .byte), (k 4, .int), (k 8, .byte), (k 10, .byte)] (se_WS k h) (F_S_makeOpen g)) (cc := cX5_makeOpen) (maxL := 1) (ret := none) (by decide) rfl (Nat.le_of_ble_eq_true rfl) ?_
  intro p e s m below meth c ls A hx hb hr hts hown hlocks hml hA hP hK hD hS hZ hl
  replace hl : lv_has ls 1 [(0, .ref (h 0))] := hl
  have hF : F_S_makeOpen g = F_S_makeOpen g := rfl
  refine lv_aload_n hx hb dX5_makeOpen_0 rfl (lv_at hl 0 rfl) ?_
  refine va_get (D := D) (ci := 5) (v := .ref (h 6)) (C := RX5) (T := TX5) (N := 12) hx hb hts (se_iw iwX5) hown hK hP 0 rfl rfl 5 (by decide) (hts _ (List.mem_cons_of_mem _ qX5_f42)) (fun _ h9 => h9) rfl dX5_makeOpen_1 ?_
  refine lv_iconst (v := 0) hx hb dX5_makeOpen_4 (by decide) ?_
  refine va_putN (D := D) (ci := 0) (v := .int 0) (ty := .boolean) (C := RX0) (T := TX0) (N := 9) hx hb hts (se_iw iwX0) tyX0 tyX0_ok nmX0 hown hK hP hD hS 6 rfl rfl 4 (by decide) (va_Nw.use rfl (hZ _ nX5_f173 rfl)) (fun _ h9 => h9) rfl (by decide +kernel) rfl rfl (Nat.le_of_ble_eq_true rfl) dX5_makeOpen_5 (fun H locs hP hD hS => ?_)
  replace hP : va_P D se_cl (se_WS k h (se_u g 6 4 0)) H := hP
  replace hD : va_D A (se_WS k h (se_u g 6 4 0)) := hD
  refine lv_aload_n hx hb dX5_makeOpen_8 rfl (lv_at hl 0 rfl) ?_
  refine lv_iconst (v := 1) hx hb dX5_makeOpen_9 (by decide) ?_
  refine lv_aload_n hx hb dX5_makeOpen_10 rfl (lv_at hl 0 rfl) ?_
  refine va_get (D := D) (ci := 5) (v := .ref (h 1)) (C := RX5) (T := TX5) (N := 12) hx hb hts (se_iw iwX5) hown hK hP 0 rfl rfl 2 (by decide) (hts _ (List.mem_cons_of_mem _ qX5_f21)) (fun _ h9 => h9) rfl dX5_makeOpen_11 ?_
  refine va_getN (D := D) (ci := 2) (v := .int (g 1 4)) (C := RX2) (T := TX2) (N := 13) hx hb hts (se_iw iwX2) hown hK hP 1 rfl rfl 4 (by decide) (va_Nw.use rfl (hZ _ nX5_f296 rfl)) (fun _ h9 => h9) rfl dX5_makeOpen_14 ?_
  refine lv_iconst (v := 0) hx hb dX5_makeOpen_17 (by decide) ?_
  refine lv_iconst (v := 0) hx hb dX5_makeOpen_18 (by decide) ?_
  refine se_cvE (va_runV (C := RX5) (As := [.int 1, .int (g 1 4), .int 0, .int 0]) (rest := []) ⟨hx, hb, hml, hown, hts⟩ (c_S_make l D k h _ (se_u g 6 4 0) 1 (g 1 4) 0 0) (se_kV 4 hts q_code_X5_make qX5_m209 q_ini_StreamEnd q_instanceMethod_X5_make q_sel_X5_make (by decide +kernel) ⟨Nat.le_of_ble_eq_true rfl, Nat.le_of_ble_eq_true rfl⟩ rfl rfl) ⟨se_blind se_ZN_ok, va_recv hK hP (ci := 5) (q0 := 0) rfl rfl, se_pre se_ZN_ok hP hK hD hZ⟩ rfl rfl hl.1 rfl (lv_room (Nat.le_of_ble_eq_true rfl)) dX5_makeOpen_19 ⟨Nat.zero_le _, Nat.zero_le _⟩) hD hS hA (fun g1 H locs eg1 hP hD hS => ?_)
  replace hF : (F_S_makeOpen_k1 (F_S_make (se_u g 6 4 0) 1 (g 1 4) 0 0)) = F_S_makeOpen g := by rw [F_S_makeOpen]
  rw [← eg1] at hF
  replace hF : F_S_makeOpen_k1 g1 = F_S_makeOpen g := hF
  refine lv_aload_n hx hb dX5_makeOpen_22 rfl (lv_at hl 0 rfl) ?_
  refine va_get (D := D) (ci := 5) (v := .ref (h 6)) (C := RX5) (T := TX5) (N := 12) hx hb hts (se_iw iwX5) hown hK hP 0 rfl rfl 5 (by decide) (hts _ (List.mem_cons_of_mem _ qX5_f42)) (fun _ h9 => h9) rfl dX5_makeOpen_23 ?_
  refine va_getN (D := D) (ci := 0) (v := .int (g1 6 5)) (C := RX0) (T := TX0) (N := 9) hx hb hts (se_iw iwX0) hown hK hP 6 rfl rfl 5 (by decide) (va_Nw.use rfl (hZ _ nX5_f341 rfl)) (fun _ h9 => h9) rfl dX5_makeOpen_26 ?_
  refine lv_if_eq (tgt := 43) hx hb dX5_makeOpen_29 (by decide) (fun c1 => ?_) (fun c1 => ?_)
  · refine lv_aload_n hx hb dX5_makeOpen_43 rfl (lv_at hl 0 rfl) ?_
    refine va_get (D := D) (ci := 5) (v := .ref (h 6)) (C := RX5) (T := TX5) (N := 12) hx hb hts (se_iw iwX5) hown hK hP 0 rfl rfl 5 (by decide) (hts _ (List.mem_cons_of_mem _ qX5_f42)) (fun _ h9 => h9) rfl dX5_makeOpen_44 ?_
    refine lv_iconst (v := 1) hx hb dX5_makeOpen_47 (by decide) ?_
    refine va_putN (D := D) (ci := 0) (v := .int 1) (ty := .boolean) (C := RX0) (T := TX0) (N := 9) hx hb hts (se_iw iwX0) tyX0 tyX0_ok nmX0 hown hK hP hD hS 6 rfl rfl 5 (by decide) (va_Nw.use rfl (hZ _ nX5_f341 rfl)) (fun _ h9 => h9) rfl (by decide +kernel) rfl rfl (Nat.le_of_ble_eq_true rfl) dX5_makeOpen_48 (fun H locs hP hD hS => ?_)
    replace hP : va_P D se_cl (se_WS k h (se_u g1 6 5 1)) H := hP
    replace hD : va_D A (se_WS k h (se_u g1 6 5 1)) := hD
    refine lv_aload_n hx hb dX5_makeOpen_51 rfl (lv_at hl 0 rfl) ?_
    refine va_get (D := D) (ci := 5) (v := .ref (h 5)) (C := RX5) (T := TX5) (N := 12) hx hb hts (se_iw iwX5) hown hK hP 0 rfl rfl 4 (by decide) (hts _ (List.mem_cons_of_mem _ qX5_f35)) (fun _ h9 => h9) rfl dX5_makeOpen_52 ?_
    refine lv_aload_n hx hb dX5_makeOpen_55 rfl (lv_at hl 0 rfl) ?_
    refine va_get (D := D) (ci := 5) (v := .ref (h 1)) (C := RX5) (T := TX5) (N := 12) hx hb hts (se_iw iwX5) hown hK hP 0 rfl rfl 2 (by decide) (hts _ (List.mem_cons_of_mem _ qX5_f21)) (fun _ h9 => h9) rfl dX5_makeOpen_56 ?_
    refine va_getN (D := D) (ci := 2) (v := .int (g1 1 6)) (C := RX2) (T := TX2) (N := 13) hx hb hts (se_iw iwX2) hown hK hP 1 rfl rfl 6 (by decide) (va_Nw.use rfl (hZ _ nX5_f137 rfl)) (fun _ h9 => h9) rfl dX5_makeOpen_59 ?_
    refine se_cvE (va_runVN (C := RX4) (As := [.int (g1 1 6)]) (rest := []) ⟨hx, hb, hml, hown, hts⟩ (c_S_Watch_measure l D k h _ (se_u g1 6 5 1) (g1 1 6)) (se_kVN 1 hts q_code_X4_measure (hZ _ nX5_m347 rfl) q_ini_StreamEnd_Watch q_instanceMethod_X4_measure q_sel_X4_measure (by decide +kernel) ⟨Nat.le_of_ble_eq_true rfl, Nat.le_of_ble_eq_true rfl⟩ rfl rfl) ⟨se_blind se_ZN_ok, va_recv hK hP (ci := 4) (q0 := 5) rfl rfl, se_pre se_ZN_ok hP hK hD hZ⟩ rfl rfl hl.1 rfl (lv_room (Nat.le_of_ble_eq_true rfl)) dX5_makeOpen_62 ⟨Nat.zero_le _, Nat.zero_le _⟩) hD hS hA (fun g2 H locs eg2 hP hD hS => ?_)
    refine lv_aload_n hx hb dX5_makeOpen_65 rfl (lv_at hl 0 rfl) ?_
    refine va_get (D := D) (ci := 5) (v := .ref (h 5)) (C := RX5) (T := TX5) (N := 12) hx hb hts (se_iw iwX5) hown hK hP 0 rfl rfl 4 (by decide) (hts _ (List.mem_cons_of_mem _ qX5_f35)) (fun _ h9 => h9) rfl dX5_makeOpen_66 ?_
    refine se_cvE (va_runVN (C := RX4) (As := []) (rest := []) ⟨hx, hb, hml, hown, hts⟩ (c_S_Watch_setAlarmIfOff l D k h _ g2) (se_kVN 0 hts q_code_X4_setAlarmIfOff (hZ _ nX5_m350 rfl) q_ini_StreamEnd_Watch q_instanceMethod_X4_setAlarmIfOff q_sel_X4_setAlarmIfOff (by decide +kernel) ⟨Nat.le_of_ble_eq_true rfl, Nat.le_of_ble_eq_true rfl⟩ rfl rfl) ⟨se_blind se_ZN_ok, va_recv hK hP (ci := 4) (q0 := 5) rfl rfl, se_pre se_ZN_ok hP hK hD hZ⟩ rfl rfl hl.1 rfl (lv_room (Nat.le_of_ble_eq_true rfl)) dX5_makeOpen_69 ⟨Nat.zero_le _, Nat.zero_le _⟩) hD hS hA (fun g3 H locs eg3 hP hD hS => ?_)
    exact se_rv hx hb hr hlocks hK hP hD hS dX5_makeOpen_72 (by subst eg2; subst eg3; rw [← hF, F_S_makeOpen_k1, if_pos c1])
  · refine lv_aload_n hx hb dX5_makeOpen_32 rfl (lv_at hl 0 rfl) ?_
    refine va_get (D := D) (ci := 5) (v := .ref (h 5)) (C := RX5) (T := TX5) (N := 12) hx hb hts (se_iw iwX5) hown hK hP 0 rfl rfl 4 (by decide) (hts _ (List.mem_cons_of_mem _ qX5_f35)) (fun _ h9 => h9) rfl dX5_makeOpen_33 ?_
    refine lv_iconst (v := 0) hx hb dX5_makeOpen_36 (by decide) ?_
    refine va_putN (D := D) (ci := 4) (v := .int 0) (ty := .boolean) (C := RX4) (T := TX4) (N := 11) hx hb hts (se_iw iwX4) tyX4 tyX4_ok nmX4 hown hK hP hD hS 5 rfl rfl 8 (by decide) (va_Nw.use rfl (hZ _ nX5_f344 rfl)) (fun _ h9 => h9) rfl (by decide +kernel) rfl rfl (Nat.le_of_ble_eq_true rfl) dX5_makeOpen_37 (fun H locs hP hD hS => ?_)
    replace hP : va_P D se_cl (se_WS k h (se_u g1 5 8 0)) H := hP
    replace hD : va_D A (se_WS k h (se_u g1 5 8 0)) := hD
    refine lv_goto (tgt := 65) hx hb dX5_makeOpen_40 (by decide) ?_
    refine lv_aload_n hx hb dX5_makeOpen_65 rfl (lv_at hl 0 rfl) ?_
    refine va_get (D := D) (ci := 5) (v := .ref (h 5)) (C := RX5) (T := TX5) (N := 12) hx hb hts (se_iw iwX5) hown hK hP 0 rfl rfl 4 (by decide) (hts _ (List.mem_cons_of_mem _ qX5_f35)) (fun _ h9 => h9) rfl dX5_makeOpen_66 ?_
    refine se_cvE (va_runVN (C := RX4) (As := []) (rest := []) ⟨hx, hb, hml, hown, hts⟩ (c_S_Watch_setAlarmIfOff l D k h _ (se_u g1 5 8 0)) (se_kVN 0 hts q_code_X4_setAlarmIfOff (hZ _ nX5_m350 rfl) q_ini_StreamEnd_Watch q_instanceMethod_X4_setAlarmIfOff q_sel_X4_setAlarmIfOff (by decide +kernel) ⟨Nat.le_of_ble_eq_true rfl, Nat.le_of_ble_eq_true rfl⟩ rfl rfl) ⟨se_blind se_ZN_ok, va_recv hK hP (ci := 4) (q0 := 5) rfl rfl, se_pre se_ZN_ok hP hK hD hZ⟩ rfl rfl hl.1 rfl (lv_room (Nat.le_of_ble_eq_true rfl)) dX5_makeOpen_69 ⟨Nat.zero_le _, Nat.zero_le _⟩) hD hS hA (fun g4 H locs eg4 hP hD hS => ?_)
    exact se_rv hx hb hr hlocks hK hP hD hS dX5_makeOpen_72 (by subst eg4; rw [← hF, F_S_makeOpen_k1, if_neg c1])
set_option maxRecDepth 100000 in
set_option maxHeartbeats 4000000 in
theorem c_S_Segment_has_9 (l : Launch) (D : va_G) (k : Nat → ClassId) (h : Nat → Nat) (sz : Nat) (g : se_G) (p1 : Int32) : Met l yX3_has (se_w_X3_has) ({ frames := 0, cells := 0, slots := 0, locals := 0 }) (va_Pc [.ref (h 9), .int p1] (se_Pre D se_cl [(k 2, .byte), (k 4, .int), (k 8, .byte), (k 10, .byte)] (se_WS k h g) se_ZN sz)) (se_Qp (F_S_Segment_has_9 g p1)) 0 0 (fun _ => False) := by
  refine se_metP (cc := cX3_has) (maxL := 2) (ret := (some .boolean)) (by decide) rfl (Nat.le_of_ble_eq_true rfl) ?_
  intro p e s m below meth c ls A hx hb hr hts hown hlocks hml hA hP hK hD hS hZ hl
  replace hl : lv_has ls 2 [(0, .ref (h 9)), (1, .int p1)] := hl
  have hF : F_S_Segment_has_9 g p1 = F_S_Segment_has_9 g p1 := rfl
  refine lv_aload_n hx hb dX3_has_0 rfl (lv_at hl 0 rfl) ?_
  refine va_get (D := D) (ci := 3) (v := .int (g 9 2)) (C := RX3) (T := TX3) (N := 7) hx hb hts (se_iw iwX3) hown hK hP 9 rfl rfl 2 (by decide) (hts _ (List.mem_cons_of_mem _ qX3_f15)) (fun _ h9 => h9) rfl dX3_has_1 ?_
  refine lv_iload_n hx hb dX3_has_4 rfl (lv_at hl 1 rfl) ?_
  refine lv_iand hx hb dX3_has_5 ?_
  refine lv_if_eq (tgt := 13) hx hb dX3_has_6 (by decide) (fun c1 => ?_) (fun c1 => ?_)
  · refine lv_iconst (v := 0) hx hb dX3_has_13 (by decide) ?_
    exact se_rpz hx hb hr rfl hlocks dX3_has_14 (by rw [F_S_Segment_has_9, if_pos c1])
  · refine lv_iconst (v := 1) hx hb dX3_has_9 (by decide) ?_
    refine lv_goto (tgt := 14) hx hb dX3_has_10 (by decide) ?_
    exact se_rpz hx hb hr rfl hlocks dX3_has_14 (by rw [F_S_Segment_has_9, if_neg c1])
set_option maxRecDepth 100000 in
set_option maxHeartbeats 4000000 in
theorem c_S_makeReset (l : Launch) (D : va_G) (k : Nat → ClassId) (h : Nat → Nat) (sz : Nat) (g : se_G)  : Met l yX5_makeReset (se_w_X5_makeReset) ({ frames := 1, cells := 0, slots := 0, locals := 25 }) (va_Pc [.ref (h 0)] (se_Pre D se_cl [(k 2, .byte), (k 4, .int), (k 8, .byte), (k 10, .byte)] (se_WS k h g) se_ZN sz)) (se_Qv D se_cl [(k 2, .byte), (k 4, .int), (k 8, .byte), (k 10, .byte)] (se_WS k h) (F_S_makeReset g) (va_A (se_WS k h g) sz)) 0 0 (va_A (se_WS k h g) sz) := by
  refine se_met (Qc := se_Qv D se_cl [(k 2, .byte), (k 4, .int), (k 8, .byte), (k 10, .byte)] (se_WS k h) (F_S_makeReset g)) (cc := cX5_makeReset) (maxL := 1) (ret := none) (by decide) rfl (Nat.le_of_ble_eq_true rfl) ?_
  intro p e s m below meth c ls A hx hb hr hts hown hlocks hml hA hP hK hD hS hZ hl
  replace hl : lv_has ls 1 [(0, .ref (h 0))] := hl
  have hF : F_S_makeReset g = F_S_makeReset g := rfl
  refine lv_aload_n hx hb dX5_makeReset_0 rfl (lv_at hl 0 rfl) ?_
  refine va_get (D := D) (ci := 5) (v := .ref (h 6)) (C := RX5) (T := TX5) (N := 12) hx hb hts (se_iw iwX5) hown hK hP 0 rfl rfl 5 (by decide) (hts _ (List.mem_cons_of_mem _ qX5_f42)) (fun _ h9 => h9) rfl dX5_makeReset_1 ?_
  refine lv_iconst (v := 0) hx hb dX5_makeReset_4 (by decide) ?_
  refine va_putN (D := D) (ci := 0) (v := .int 0) (ty := .boolean) (C := RX0) (T := TX0) (N := 9) hx hb hts (se_iw iwX0) tyX0 tyX0_ok nmX0 hown hK hP hD hS 6 rfl rfl 0 (by decide) (va_Nw.use rfl (hZ _ nX5_f167 rfl)) (fun _ h9 => h9) rfl (by decide +kernel) rfl rfl (Nat.le_of_ble_eq_true rfl) dX5_makeReset_5 (fun H locs hP hD hS => ?_)
  replace hP : va_P D se_cl (se_WS k h (se_u g 6 0 0)) H := hP
  replace hD : va_D A (se_WS k h (se_u g 6 0 0)) := hD
  refine lv_aload_n hx hb dX5_makeReset_8 rfl (lv_at hl 0 rfl) ?_
  refine va_get (D := D) (ci := 5) (v := .ref (h 9)) (C := RX5) (T := TX5) (N := 12) hx hb hts (se_iw iwX5) hown hK hP 0 rfl rfl 7 (by decide) (hts _ (List.mem_cons_of_mem _ qX5_f53)) (fun _ h9 => h9) rfl dX5_makeReset_9 ?_
  refine lv_aload_n hx hb dX5_makeReset_12 rfl (lv_at hl 0 rfl) ?_
  refine va_get (D := D) (ci := 5) (v := .ref (h 6)) (C := RX5) (T := TX5) (N := 12) hx hb hts (se_iw iwX5) hown hK hP 0 rfl rfl 5 (by decide) (hts _ (List.mem_cons_of_mem _ qX5_f42)) (fun _ h9 => h9) rfl dX5_makeReset_13 ?_
  refine va_getN (D := D) (ci := 0) (v := .int (g 6 1)) (C := RX0) (T := TX0) (N := 9) hx hb hts (se_iw iwX0) hown hK hP 6 rfl rfl 1 (by decide) (va_Nw.use rfl (hZ _ nX5_f329 rfl)) (fun _ h9 => h9) rfl dX5_makeReset_16 ?_
  refine lv_aload_n hx hb dX5_makeReset_19 rfl (lv_at hl 0 rfl) ?_
  refine va_get (D := D) (ci := 5) (v := .ref (h 6)) (C := RX5) (T := TX5) (N := 12) hx hb hts (se_iw iwX5) hown hK hP 0 rfl rfl 5 (by decide) (hts _ (List.mem_cons_of_mem _ qX5_f42)) (fun _ h9 => h9) rfl dX5_makeReset_20 ?_
  refine va_getN (D := D) (ci := 0) (v := .int (g 6 2)) (C := RX0) (T := TX0) (N := 9) hx hb hts (se_iw iwX0) hown hK hP 6 rfl rfl 2 (by decide) (va_Nw.use rfl (hZ _ nX5_f332 rfl)) (fun _ h9 => h9) rfl dX5_makeReset_23 ?_
  refine lv_aload_n hx hb dX5_makeReset_26 rfl (lv_at hl 0 rfl) ?_
  refine va_get (D := D) (ci := 5) (v := .ref (h 6)) (C := RX5) (T := TX5) (N := 12) hx hb hts (se_iw iwX5) hown hK hP 0 rfl rfl 5 (by decide) (hts _ (List.mem_cons_of_mem _ qX5_f42)) (fun _ h9 => h9) rfl dX5_makeReset_27 ?_
  refine va_getN (D := D) (ci := 0) (v := .int (g 6 3)) (C := RX0) (T := TX0) (N := 9) hx hb hts (se_iw iwX0) hown hK hP 6 rfl rfl 3 (by decide) (va_Nw.use rfl (hZ _ nX5_f335 rfl)) (fun _ h9 => h9) rfl dX5_makeReset_30 ?_
  refine lv_iconst (v := 0) hx hb dX5_makeReset_33 (by decide) ?_
  refine lv_iconst (v := 0) hx hb dX5_makeReset_34 (by decide) ?_
  refine se_cvE (va_runVN (C := RX3) (As := [.int (g 6 1), .int (g 6 2), .int (g 6 3), .int 0, .int 0]) (rest := []) ⟨hx, hb, hml, hown, hts⟩ (c_S_Segment_headIs_9 l D k h _ (se_u g 6 0 0) (g 6 1) (g 6 2) (g 6 3) 0 0) (se_kVN 5 hts q_code_X3_headIs (hZ _ nX5_m252 rfl) q_ini_StreamEnd_Segment q_instanceMethod_X3_headIs q_sel_X3_headIs (by decide +kernel) ⟨Nat.le_of_ble_eq_true rfl, Nat.le_of_ble_eq_true rfl⟩ rfl rfl) ⟨se_blind se_ZN_ok, va_recv hK hP (ci := 3) (q0 := 9) rfl rfl, se_pre se_ZN_ok hP hK hD hZ⟩ rfl rfl hl.1 rfl (lv_room (Nat.le_of_ble_eq_true rfl)) dX5_makeReset_35 ⟨Nat.zero_le _, Nat.zero_le _⟩) hD hS hA (fun g1 H locs eg1 hP hD hS => ?_)
  replace hF : (F_S_makeReset_k1 (F_S_Segment_headIs_9 (se_u g 6 0 0) (g 6 1) (g 6 2) (g 6 3) 0 0)) = F_S_makeReset g := by rw [F_S_makeReset]
  rw [← eg1] at hF
  replace hF : F_S_makeReset_k1 g1 = F_S_makeReset g := hF
  refine lv_aload_n hx hb dX5_makeReset_38 rfl (lv_at hl 0 rfl) ?_
  refine va_get (D := D) (ci := 5) (v := .ref (h 9)) (C := RX5) (T := TX5) (N := 12) hx hb hts (se_iw iwX5) hown hK hP 0 rfl rfl 7 (by decide) (hts _ (List.mem_cons_of_mem _ qX5_f53)) (fun _ h9 => h9) rfl dX5_makeReset_39 ?_
  refine lv_iconst (v := 0) hx hb dX5_makeReset_42 (by decide) ?_
  refine va_putN (D := D) (ci := 3) (v := .int 0) (ty := .int) (C := RX3) (T := TX3) (N := 7) hx hb hts (se_iw iwX3) tyX3 tyX3_ok nmX3 hown hK hP hD hS 9 rfl rfl 1 (by decide) (va_Nw.use rfl (hZ _ nX5_f230 rfl)) (fun _ h9 => h9) rfl (by decide +kernel) rfl rfl (Nat.le_of_ble_eq_true rfl) dX5_makeReset_43 (fun H locs hP hD hS => ?_)
  replace hP : va_P D se_cl (se_WS k h (se_u g1 9 1 0)) H := hP
  replace hD : va_D A (se_WS k h (se_u g1 9 1 0)) := hD
  refine lv_aload_n hx hb dX5_makeReset_46 rfl (lv_at hl 0 rfl) ?_
  refine va_get (D := D) (ci := 5) (v := .ref (h 9)) (C := RX5) (T := TX5) (N := 12) hx hb hts (se_iw iwX5) hown hK hP 0 rfl rfl 7 (by decide) (hts _ (List.mem_cons_of_mem _ qX5_f53)) (fun _ h9 => h9) rfl dX5_makeReset_47 ?_
  refine lv_bipush (v := 8) hx hb dX5_makeReset_50 (by decide) ?_
  refine se_cp (va_runVN (C := RX3) (As := [.int 8]) (rest := []) ⟨hx, hb, hml, hown, hts⟩ (c_S_Segment_has_9 l D k h _ (se_u g1 9 1 0) 8) (se_kVN 1 hts q_code_X3_has (hZ _ nX5_m338 rfl) q_ini_StreamEnd_Segment q_instanceMethod_X3_has q_sel_X3_has (by decide +kernel) ⟨Nat.le_of_ble_eq_true rfl, Nat.le_of_ble_eq_true rfl⟩ rfl rfl) ⟨se_blind se_ZN_ok, va_recv hK hP (ci := 3) (q0 := 9) rfl rfl, se_pre se_ZN_ok hP hK hD hZ⟩ rfl rfl hl.1 rfl (lv_room (Nat.le_of_ble_eq_true rfl)) dX5_makeReset_52 ⟨Nat.zero_le _, Nat.zero_le _⟩) ?_
  refine lv_if_eq (tgt := 66) hx hb dX5_makeReset_55 (by decide) (fun c1 => ?_) (fun c1 => ?_)
  · exact se_rv hx hb hr hlocks hK hP hD hS dX5_makeReset_66 (by rw [← hF, F_S_makeReset_k1, if_pos c1])
  · refine lv_aload_n hx hb dX5_makeReset_58 rfl (lv_at hl 0 rfl) ?_
    refine va_get (D := D) (ci := 5) (v := .ref (h 6)) (C := RX5) (T := TX5) (N := 12) hx hb hts (se_iw iwX5) hown hK hP 0 rfl rfl 5 (by decide) (hts _ (List.mem_cons_of_mem _ qX5_f42)) (fun _ h9 => h9) rfl dX5_makeReset_59 ?_
    refine lv_iconst (v := 0) hx hb dX5_makeReset_62 (by decide) ?_
    refine va_putN (D := D) (ci := 0) (v := .int 0) (ty := .boolean) (C := RX0) (T := TX0) (N := 9) hx hb hts (se_iw iwX0) tyX0 tyX0_ok nmX0 hown hK hP hD hS 6 rfl rfl 8 (by decide) (va_Nw.use rfl (hZ _ nX5_f206 rfl)) (fun _ h9 => h9) rfl (by decide +kernel) rfl rfl (Nat.le_of_ble_eq_true rfl) dX5_makeReset_63 (fun H locs hP hD hS => ?_)
    replace hP : va_P D se_cl (se_WS k h (se_u (se_u g1 9 1 0) 6 8 0)) H := hP
    replace hD : va_D A (se_WS k h (se_u (se_u g1 9 1 0) 6 8 0)) := hD
    exact se_rv hx hb hr hlocks hK hP hD hS dX5_makeReset_66 (by rw [← hF, F_S_makeReset_k1, if_neg c1])
set_option maxRecDepth 100000 in
set_option maxHeartbeats 4000000 in
theorem c_S_next (l : Launch) (D : va_G) (k : Nat → ClassId) (h : Nat → Nat) (sz : Nat) (g : se_G)  : Met l yX5_next (se_w_X5_next) ({ frames := 5, cells := 0, slots := 0, locals := 114 }) (va_Pc [.ref (h 0)] (se_Pre D se_cl [(k 2, .byte), (k 4, .int), (k 8, .byte), (k 10, .byte)] (se_WS k h g) se_ZN sz)) (se_Qi D se_cl [(k 2, .byte), (k 4, .int), (k 8, .byte), (k 10, .byte)] (se_WS k h) (F_S_next g) (va_A (se_WS k h g) sz)) 0 0 (va_A (se_WS k h g) sz) := by
  refine se_met (Qc := se_Qi D se_cl [(k 2, .byte), (k 4, .int), (k 8, .byte), (k 10, .byte)] (se_WS k h) (F_S_next g)) (cc := cX5_next) (maxL := 1) (ret := (some .boolean)) (by decide) rfl (Nat.le_of_ble_eq_true rfl) ?_
  intro p e s m below meth c ls A hx hb hr hts hown hlocks hml hA hP hK hD hS hZ hl
  replace hl : lv_has ls 1 [(0, .ref (h 0))] := hl
  have J89 : ∀ (gj89 : se_G) (H : Heap) (locs : List Loc) (ls : Array Slot), F_S_next_j89 gj89 = F_S_next g → va_P D se_cl (se_WS k h gj89) H → va_D A (se_WS k h gj89) → va_S A s.heap H locs → lv_has ls 1 [(0, .ref (h 0))] → W p l e ({ frames := 5, cells := 0, slots := 0, locals := 114 }) s m [.ref (h 0)].toArray below meth c H locs 0 0 (MQ below (se_Qi D se_cl [(k 2, .byte), (k 4, .int), (k 8, .byte), (k 10, .byte)] (se_WS k h) (F_S_next g) A) [.ref (h 0)].toArray s 0 0 A) (F0 m 89 ls []) := by
    intro gj89 H locs ls hF hP hD hS hl
    refine lv_aload_n hx hb dX5_next_89 rfl (lv_at hl 0 rfl) ?_
    refine va_get (D := D) (ci := 5) (v := .ref (h 6)) (C := RX5) (T := TX5) (N := 12) hx hb hts (se_iw iwX5) hown hK hP 0 rfl rfl 5 (by decide) (hts _ (List.mem_cons_of_mem _ qX5_f42)) (fun _ h9 => h9) rfl dX5_next_90 ?_
    refine va_getN (D := D) (ci := 0) (v := .int (gj89 6 7)) (C := RX0) (T := TX0) (N := 9) hx hb hts (se_iw iwX0) hown hK hP 6 rfl rfl 7 (by decide) (va_Nw.use rfl (hZ _ nX5_f200 rfl)) (fun _ h9 => h9) rfl dX5_next_93 ?_
    refine lv_if_eq (tgt := 106) hx hb dX5_next_96 (by decide) (fun c5 => ?_) (fun c5 => ?_)
    · refine lv_aload_n hx hb dX5_next_106 rfl (lv_at hl 0 rfl) ?_
      refine va_get (D := D) (ci := 5) (v := .ref (h 6)) (C := RX5) (T := TX5) (N := 12) hx hb hts (se_iw iwX5) hown hK hP 0 rfl rfl 5 (by decide) (hts _ (List.mem_cons_of_mem _ qX5_f42)) (fun _ h9 => h9) rfl dX5_next_107 ?_
      refine va_getN (D := D) (ci := 0) (v := .int (gj89 6 8)) (C := RX0) (T := TX0) (N := 9) hx hb hts (se_iw iwX0) hown hK hP 6 rfl rfl 8 (by decide) (va_Nw.use rfl (hZ _ nX5_f206 rfl)) (fun _ h9 => h9) rfl dX5_next_110 ?_
      refine lv_if_eq (tgt := 133) hx hb dX5_next_113 (by decide) (fun c6 => ?_) (fun c6 => ?_)
      · refine lv_iconst (v := 0) hx hb dX5_next_133 (by decide) ?_
        exact se_riz hx hb hr rfl hlocks hK hP hD hS dX5_next_134 (by rw [← hF, F_S_next_j89, if_pos c5, if_pos c6])
      · refine lv_aload_n hx hb dX5_next_116 rfl (lv_at hl 0 rfl) ?_
        refine lv_iconst (v := 0) hx hb dX5_next_117 (by decide) ?_
        refine lv_aload_n hx hb dX5_next_118 rfl (lv_at hl 0 rfl) ?_
        refine va_get (D := D) (ci := 5) (v := .ref (h 1)) (C := RX5) (T := TX5) (N := 12) hx hb hts (se_iw iwX5) hown hK hP 0 rfl rfl 2 (by decide) (hts _ (List.mem_cons_of_mem _ qX5_f21)) (fun _ h9 => h9) rfl dX5_next_119 ?_
        refine va_getN (D := D) (ci := 2) (v := .int (gj89 1 6)) (C := RX2) (T := TX2) (N := 13) hx hb hts (se_iw iwX2) hown hK hP 1 rfl rfl 6 (by decide) (va_Nw.use rfl (hZ _ nX5_f137 rfl)) (fun _ h9 => h9) rfl dX5_next_122 ?_
        refine lv_iconst (v := 0) hx hb dX5_next_125 (by decide) ?_
        refine lv_iconst (v := 0) hx hb dX5_next_126 (by decide) ?_
        refine se_cvE (va_runV (C := RX5) (As := [.int 0, .int (gj89 1 6), .int 0, .int 0]) (rest := []) ⟨hx, hb, hml, hown, hts⟩ (c_S_make l D k h _ gj89 0 (gj89 1 6) 0 0) (se_kV 4 hts q_code_X5_make qX5_m209 q_ini_StreamEnd q_instanceMethod_X5_make q_sel_X5_make (by decide +kernel) ⟨Nat.le_of_ble_eq_true rfl, Nat.le_of_ble_eq_true rfl⟩ rfl rfl) ⟨se_blind se_ZN_ok, va_recv hK hP (ci := 5) (q0 := 0) rfl rfl, se_pre se_ZN_ok hP hK hD hZ⟩ rfl rfl hl.1 rfl (lv_room (Nat.le_of_ble_eq_true rfl)) dX5_next_127 ⟨Nat.zero_le _, Nat.zero_le _⟩) hD hS hA (fun g1 H locs eg1 hP hD hS => ?_)
        refine lv_goto (tgt := 135) hx hb dX5_next_130 (by decide) ?_
        refine lv_aload_n hx hb dX5_next_135 rfl (lv_at hl 0 rfl) ?_
        refine lv_iconst (v := 1) hx hb dX5_next_136 (by decide) ?_
        refine va_put (D := D) (ci := 5) (v := .int 1) (ty := .boolean) (C := RX5) (T := TX5) (N := 12) hx hb hts (se_iw iwX5) tyX5 tyX5_ok nmX5 hown hK hP hD hS 0 rfl rfl 8 (by decide) (hts _ (List.mem_cons_of_mem _ qX5_f56)) (fun _ h9 => h9) rfl (by decide +kernel) rfl rfl (Nat.le_of_ble_eq_true rfl) dX5_next_137 (fun H locs hP hD hS => ?_)
        replace hP : va_P D se_cl (se_WS k h (se_u g1 0 8 1)) H := hP
        replace hD : va_D A (se_WS k h (se_u g1 0 8 1)) := hD
        refine lv_iconst (v := 1) hx hb dX5_next_140 (by decide) ?_
        exact se_riz hx hb hr rfl hlocks hK hP hD hS dX5_next_141 (by subst eg1; rw [← hF, F_S_next_j89, if_pos c5, if_neg c6])
    · refine lv_aload_n hx hb dX5_next_99 rfl (lv_at hl 0 rfl) ?_
      refine se_cvE (va_runV (C := RX5) (As := []) (rest := []) ⟨hx, hb, hml, hown, hts⟩ (c_S_makeProbe l D k h _ gj89) (se_kV 0 hts q_code_X5_makeProbe qX5_m203 q_ini_StreamEnd q_instanceMethod_X5_makeProbe q_sel_X5_makeProbe (by decide +kernel) ⟨Nat.le_of_ble_eq_true rfl, Nat.le_of_ble_eq_true rfl⟩ rfl rfl) ⟨se_blind se_ZN_ok, va_recv hK hP (ci := 5) (q0 := 0) rfl rfl, se_pre se_ZN_ok hP hK hD hZ⟩ rfl rfl hl.1 rfl (lv_room (Nat.le_of_ble_eq_true rfl)) dX5_next_100 ⟨Nat.zero_le _, Nat.zero_le _⟩) hD hS hA (fun g2 H locs eg2 hP hD hS => ?_)
      refine lv_goto (tgt := 135) hx hb dX5_next_103 (by decide) ?_
      refine lv_aload_n hx hb dX5_next_135 rfl (lv_at hl 0 rfl) ?_
      refine lv_iconst (v := 1) hx hb dX5_next_136 (by decide) ?_
      refine va_put (D := D) (ci := 5) (v := .int 1) (ty := .boolean) (C := RX5) (T := TX5) (N := 12) hx hb hts (se_iw iwX5) tyX5 tyX5_ok nmX5 hown hK hP hD hS 0 rfl rfl 8 (by decide) (hts _ (List.mem_cons_of_mem _ qX5_f56)) (fun _ h9 => h9) rfl (by decide +kernel) rfl rfl (Nat.le_of_ble_eq_true rfl) dX5_next_137 (fun H locs hP hD hS => ?_)
      replace hP : va_P D se_cl (se_WS k h (se_u g2 0 8 1)) H := hP
      replace hD : va_D A (se_WS k h (se_u g2 0 8 1)) := hD
      refine lv_iconst (v := 1) hx hb dX5_next_140 (by decide) ?_
      exact se_riz hx hb hr rfl hlocks hK hP hD hS dX5_next_141 (by subst eg2; rw [← hF, F_S_next_j89, if_neg c5])
  have hF : F_S_next g = F_S_next g := rfl
  refine lv_aload_n hx hb dX5_next_0 rfl (lv_at hl 0 rfl) ?_
  refine va_get (D := D) (ci := 5) (v := .ref (h 6)) (C := RX5) (T := TX5) (N := 12) hx hb hts (se_iw iwX5) hown hK hP 0 rfl rfl 5 (by decide) (hts _ (List.mem_cons_of_mem _ qX5_f42)) (fun _ h9 => h9) rfl dX5_next_1 ?_
  refine va_getN (D := D) (ci := 0) (v := .int (g 6 0)) (C := RX0) (T := TX0) (N := 9) hx hb hts (se_iw iwX0) hown hK hP 6 rfl rfl 0 (by decide) (va_Nw.use rfl (hZ _ nX5_f167 rfl)) (fun _ h9 => h9) rfl dX5_next_4 ?_
  refine lv_if_eq (tgt := 17) hx hb dX5_next_7 (by decide) (fun c1 => ?_) (fun c1 => ?_)
  · refine lv_aload_n hx hb dX5_next_17 rfl (lv_at hl 0 rfl) ?_
    refine va_get (D := D) (ci := 5) (v := .ref (h 6)) (C := RX5) (T := TX5) (N := 12) hx hb hts (se_iw iwX5) hown hK hP 0 rfl rfl 5 (by decide) (hts _ (List.mem_cons_of_mem _ qX5_f42)) (fun _ h9 => h9) rfl dX5_next_18 ?_
    refine va_getN (D := D) (ci := 0) (v := .int (g 6 4)) (C := RX0) (T := TX0) (N := 9) hx hb hts (se_iw iwX0) hown hK hP 6 rfl rfl 4 (by decide) (va_Nw.use rfl (hZ _ nX5_f173 rfl)) (fun _ h9 => h9) rfl dX5_next_21 ?_
    refine lv_if_eq (tgt := 34) hx hb dX5_next_24 (by decide) (fun c2 => ?_) (fun c2 => ?_)
    · refine lv_aload_n hx hb dX5_next_34 rfl (lv_at hl 0 rfl) ?_
      refine va_get (D := D) (ci := 5) (v := .ref (h 6)) (C := RX5) (T := TX5) (N := 12) hx hb hts (se_iw iwX5) hown hK hP 0 rfl rfl 5 (by decide) (hts _ (List.mem_cons_of_mem _ qX5_f42)) (fun _ h9 => h9) rfl dX5_next_35 ?_
      refine va_getN (D := D) (ci := 0) (v := .int (g 6 6)) (C := RX0) (T := TX0) (N := 9) hx hb hts (se_iw iwX0) hown hK hP 6 rfl rfl 6 (by decide) (va_Nw.use rfl (hZ _ nX5_f179 rfl)) (fun _ h9 => h9) rfl dX5_next_38 ?_
      refine lv_if_eq (tgt := 51) hx hb dX5_next_41 (by decide) (fun c3 => ?_) (fun c3 => ?_)
      · refine lv_aload_n hx hb dX5_next_51 rfl (lv_at hl 0 rfl) ?_
        refine se_cp (va_runV (C := RX5) (As := []) (rest := []) ⟨hx, hb, hml, hown, hts⟩ (c_S_maySendNew l D k h _ g) (se_kV 0 hts q_code_X5_maySendNew qX5_m185 q_ini_StreamEnd q_instanceMethod_X5_maySendNew q_sel_X5_maySendNew (by decide +kernel) ⟨Nat.le_of_ble_eq_true rfl, Nat.le_of_ble_eq_true rfl⟩ rfl rfl) ⟨se_blind se_ZN_ok, va_recv hK hP (ci := 5) (q0 := 0) rfl rfl, se_pre se_ZN_ok hP hK hD hZ⟩ rfl rfl hl.1 rfl (lv_room (Nat.le_of_ble_eq_true rfl)) dX5_next_52 ⟨Nat.zero_le _, Nat.zero_le _⟩) ?_
        refine lv_if_eq (tgt := 89) hx hb dX5_next_55 (by decide) (fun c4 => ?_) (fun c4 => ?_)
        · exact J89 g _ _ ls (by rw [F_S_next, if_pos c1, if_pos c2, if_pos c3, if_pos c4]) hP hD hS (lv_sub hl [0] rfl)
        · refine lv_aload_n hx hb dX5_next_58 rfl (lv_at hl 0 rfl) ?_
          refine va_get (D := D) (ci := 5) (v := .ref (h 1)) (C := RX5) (T := TX5) (N := 12) hx hb hts (se_iw iwX5) hown hK hP 0 rfl rfl 2 (by decide) (hts _ (List.mem_cons_of_mem _ qX5_f21)) (fun _ h9 => h9) rfl dX5_next_59 ?_
          refine se_cp (va_runVN (C := RX2) (As := []) (rest := []) ⟨hx, hb, hml, hown, hts⟩ (c_S_Outgoing_maySend l D k h _ g) (se_kVN 0 hts q_code_X2_maySend (hZ _ nX5_m188 rfl) q_ini_StreamEnd_Outgoing q_instanceMethod_X2_maySend q_sel_X2_maySend (by decide +kernel) ⟨Nat.le_of_ble_eq_true rfl, Nat.le_of_ble_eq_true rfl⟩ rfl rfl) ⟨se_blind se_ZN_ok, va_recv hK hP (ci := 2) (q0 := 1) rfl rfl, se_pre se_ZN_ok hP hK hD hZ⟩ rfl rfl hl.1 rfl (lv_room (Nat.le_of_ble_eq_true rfl)) dX5_next_62 ⟨Nat.zero_le _, Nat.zero_le _⟩) ?_
          refine lv_if_eq (tgt := 89) hx hb dX5_next_65 (by decide) (fun c7 => ?_) (fun c7 => ?_)
          · exact J89 g _ _ ls (by rw [F_S_next, if_pos c1, if_pos c2, if_pos c3, if_neg c4, if_pos c7]) hP hD hS (lv_sub hl [0] rfl)
          · refine lv_aload_n hx hb dX5_next_68 rfl (lv_at hl 0 rfl) ?_
            refine lv_aload_n hx hb dX5_next_69 rfl (lv_at hl 0 rfl) ?_
            refine va_get (D := D) (ci := 5) (v := .ref (h 1)) (C := RX5) (T := TX5) (N := 12) hx hb hts (se_iw iwX5) hown hK hP 0 rfl rfl 2 (by decide) (hts _ (List.mem_cons_of_mem _ qX5_f21)) (fun _ h9 => h9) rfl dX5_next_70 ?_
            refine se_cp (va_runVN (C := RX2) (As := []) (rest := [.ref (h 0)]) ⟨hx, hb, hml, hown, hts⟩ (c_S_Outgoing_newBytes l D k h _ g) (se_kVN 0 hts q_code_X2_newBytes (hZ _ nX5_m191 rfl) q_ini_StreamEnd_Outgoing q_instanceMethod_X2_newBytes q_sel_X2_newBytes (by decide +kernel) ⟨Nat.le_of_ble_eq_true rfl, Nat.le_of_ble_eq_true rfl⟩ rfl rfl) ⟨se_blind se_ZN_ok, va_recv hK hP (ci := 2) (q0 := 1) rfl rfl, se_pre se_ZN_ok hP hK hD hZ⟩ rfl rfl hl.1 rfl (lv_room (Nat.le_of_ble_eq_true rfl)) dX5_next_73 ⟨Nat.zero_le _, Nat.zero_le _⟩) ?_
            refine lv_aload_n hx hb dX5_next_76 rfl (lv_at hl 0 rfl) ?_
            refine va_get (D := D) (ci := 5) (v := .ref (h 1)) (C := RX5) (T := TX5) (N := 12) hx hb hts (se_iw iwX5) hown hK hP 0 rfl rfl 2 (by decide) (hts _ (List.mem_cons_of_mem _ qX5_f21)) (fun _ h9 => h9) rfl dX5_next_77 ?_
            refine se_cp (va_runVN (C := RX2) (As := []) (rest := [.int (F_S_Outgoing_newBytes g), .ref (h 0)]) ⟨hx, hb, hml, hown, hts⟩ (c_S_Outgoing_newHasLast l D k h _ g) (se_kVN 0 hts q_code_X2_newHasLast (hZ _ nX5_m194 rfl) q_ini_StreamEnd_Outgoing q_instanceMethod_X2_newHasLast q_sel_X2_newHasLast (by decide +kernel) ⟨Nat.le_of_ble_eq_true rfl, Nat.le_of_ble_eq_true rfl⟩ rfl rfl) ⟨se_blind se_ZN_ok, va_recv hK hP (ci := 2) (q0 := 1) rfl rfl, se_pre se_ZN_ok hP hK hD hZ⟩ rfl rfl hl.1 rfl (lv_room (Nat.le_of_ble_eq_true rfl)) dX5_next_80 ⟨Nat.zero_le _, Nat.zero_le _⟩) ?_
            refine se_cvE (va_runV (C := RX5) (As := [.int (F_S_Outgoing_newBytes g), .int (F_S_Outgoing_newHasLast g)]) (rest := []) ⟨hx, hb, hml, hown, hts⟩ (c_S_makeNew l D k h _ g (F_S_Outgoing_newBytes g) (F_S_Outgoing_newHasLast g)) (se_kV 2 hts q_code_X5_makeNew qX5_m197 q_ini_StreamEnd q_instanceMethod_X5_makeNew q_sel_X5_makeNew (by decide +kernel) ⟨Nat.le_of_ble_eq_true rfl, Nat.le_of_ble_eq_true rfl⟩ rfl rfl) ⟨se_blind se_ZN_ok, va_recv hK hP (ci := 5) (q0 := 0) rfl rfl, se_pre se_ZN_ok hP hK hD hZ⟩ rfl rfl hl.1 rfl (lv_room (Nat.le_of_ble_eq_true rfl)) dX5_next_83 ⟨Nat.zero_le _, Nat.zero_le _⟩) hD hS hA (fun g3 H locs eg3 hP hD hS => ?_)
            refine lv_goto (tgt := 135) hx hb dX5_next_86 (by decide) ?_
            refine lv_aload_n hx hb dX5_next_135 rfl (lv_at hl 0 rfl) ?_
            refine lv_iconst (v := 1) hx hb dX5_next_136 (by decide) ?_
            refine va_put (D := D) (ci := 5) (v := .int 1) (ty := .boolean) (C := RX5) (T := TX5) (N := 12) hx hb hts (se_iw iwX5) tyX5 tyX5_ok nmX5 hown hK hP hD hS 0 rfl rfl 8 (by decide) (hts _ (List.mem_cons_of_mem _ qX5_f56)) (fun _ h9 => h9) rfl (by decide +kernel) rfl rfl (Nat.le_of_ble_eq_true rfl) dX5_next_137 (fun H locs hP hD hS => ?_)
            replace hP : va_P D se_cl (se_WS k h (se_u g3 0 8 1)) H := hP
            replace hD : va_D A (se_WS k h (se_u g3 0 8 1)) := hD
            refine lv_iconst (v := 1) hx hb dX5_next_140 (by decide) ?_
            exact se_riz hx hb hr rfl hlocks hK hP hD hS dX5_next_141 (by subst eg3; rw [F_S_next, if_pos c1, if_pos c2, if_pos c3, if_neg c4, if_neg c7])
      · refine lv_aload_n hx hb dX5_next_44 rfl (lv_at hl 0 rfl) ?_
        refine se_cvE (va_runV (C := RX5) (As := []) (rest := []) ⟨hx, hb, hml, hown, hts⟩ (c_S_makeAgain l D k h _ g) (se_kV 0 hts q_code_X5_makeAgain qX5_m182 q_ini_StreamEnd q_instanceMethod_X5_makeAgain q_sel_X5_makeAgain (by decide +kernel) ⟨Nat.le_of_ble_eq_true rfl, Nat.le_of_ble_eq_true rfl⟩ rfl rfl) ⟨se_blind se_ZN_ok, va_recv hK hP (ci := 5) (q0 := 0) rfl rfl, se_pre se_ZN_ok hP hK hD hZ⟩ rfl rfl hl.1 rfl (lv_room (Nat.le_of_ble_eq_true rfl)) dX5_next_45 ⟨Nat.zero_le _, Nat.zero_le _⟩) hD hS hA (fun g4 H locs eg4 hP hD hS => ?_)
        refine lv_goto (tgt := 135) hx hb dX5_next_48 (by decide) ?_
        refine lv_aload_n hx hb dX5_next_135 rfl (lv_at hl 0 rfl) ?_
        refine lv_iconst (v := 1) hx hb dX5_next_136 (by decide) ?_
        refine va_put (D := D) (ci := 5) (v := .int 1) (ty := .boolean) (C := RX5) (T := TX5) (N := 12) hx hb hts (se_iw iwX5) tyX5 tyX5_ok nmX5 hown hK hP hD hS 0 rfl rfl 8 (by decide) (hts _ (List.mem_cons_of_mem _ qX5_f56)) (fun _ h9 => h9) rfl (by decide +kernel) rfl rfl (Nat.le_of_ble_eq_true rfl) dX5_next_137 (fun H locs hP hD hS => ?_)
        replace hP : va_P D se_cl (se_WS k h (se_u g4 0 8 1)) H := hP
        replace hD : va_D A (se_WS k h (se_u g4 0 8 1)) := hD
        refine lv_iconst (v := 1) hx hb dX5_next_140 (by decide) ?_
        exact se_riz hx hb hr rfl hlocks hK hP hD hS dX5_next_141 (by subst eg4; rw [F_S_next, if_pos c1, if_pos c2, if_neg c3])
    · refine lv_aload_n hx hb dX5_next_27 rfl (lv_at hl 0 rfl) ?_
      refine se_cvE (va_runV (C := RX5) (As := []) (rest := []) ⟨hx, hb, hml, hown, hts⟩ (c_S_makeOpen l D k h _ g) (se_kV 0 hts q_code_X5_makeOpen qX5_m176 q_ini_StreamEnd q_instanceMethod_X5_makeOpen q_sel_X5_makeOpen (by decide +kernel) ⟨Nat.le_of_ble_eq_true rfl, Nat.le_of_ble_eq_true rfl⟩ rfl rfl) ⟨se_blind se_ZN_ok, va_recv hK hP (ci := 5) (q0 := 0) rfl rfl, se_pre se_ZN_ok hP hK hD hZ⟩ rfl rfl hl.1 rfl (lv_room (Nat.le_of_ble_eq_true rfl)) dX5_next_28 ⟨Nat.zero_le _, Nat.zero_le _⟩) hD hS hA (fun g5 H locs eg5 hP hD hS => ?_)
      refine lv_goto (tgt := 135) hx hb dX5_next_31 (by decide) ?_
      refine lv_aload_n hx hb dX5_next_135 rfl (lv_at hl 0 rfl) ?_
      refine lv_iconst (v := 1) hx hb dX5_next_136 (by decide) ?_
      refine va_put (D := D) (ci := 5) (v := .int 1) (ty := .boolean) (C := RX5) (T := TX5) (N := 12) hx hb hts (se_iw iwX5) tyX5 tyX5_ok nmX5 hown hK hP hD hS 0 rfl rfl 8 (by decide) (hts _ (List.mem_cons_of_mem _ qX5_f56)) (fun _ h9 => h9) rfl (by decide +kernel) rfl rfl (Nat.le_of_ble_eq_true rfl) dX5_next_137 (fun H locs hP hD hS => ?_)
      replace hP : va_P D se_cl (se_WS k h (se_u g5 0 8 1)) H := hP
      replace hD : va_D A (se_WS k h (se_u g5 0 8 1)) := hD
      refine lv_iconst (v := 1) hx hb dX5_next_140 (by decide) ?_
      exact se_riz hx hb hr rfl hlocks hK hP hD hS dX5_next_141 (by subst eg5; rw [F_S_next, if_pos c1, if_neg c2])
  · refine lv_aload_n hx hb dX5_next_10 rfl (lv_at hl 0 rfl) ?_
    refine se_cvE (va_runV (C := RX5) (As := []) (rest := []) ⟨hx, hb, hml, hown, hts⟩ (c_S_makeReset l D k h _ g) (se_kV 0 hts q_code_X5_makeReset qX5_m170 q_ini_StreamEnd q_instanceMethod_X5_makeReset q_sel_X5_makeReset (by decide +kernel) ⟨Nat.le_of_ble_eq_true rfl, Nat.le_of_ble_eq_true rfl⟩ rfl rfl) ⟨se_blind se_ZN_ok, va_recv hK hP (ci := 5) (q0 := 0) rfl rfl, se_pre se_ZN_ok hP hK hD hZ⟩ rfl rfl hl.1 rfl (lv_room (Nat.le_of_ble_eq_true rfl)) dX5_next_11 ⟨Nat.zero_le _, Nat.zero_le _⟩) hD hS hA (fun g6 H locs eg6 hP hD hS => ?_)
    refine lv_goto (tgt := 135) hx hb dX5_next_14 (by decide) ?_
    refine lv_aload_n hx hb dX5_next_135 rfl (lv_at hl 0 rfl) ?_
    refine lv_iconst (v := 1) hx hb dX5_next_136 (by decide) ?_
    refine va_put (D := D) (ci := 5) (v := .int 1) (ty := .boolean) (C := RX5) (T := TX5) (N := 12) hx hb hts (se_iw iwX5) tyX5 tyX5_ok nmX5 hown hK hP hD hS 0 rfl rfl 8 (by decide) (hts _ (List.mem_cons_of_mem _ qX5_f56)) (fun _ h9 => h9) rfl (by decide +kernel) rfl rfl (Nat.le_of_ble_eq_true rfl) dX5_next_137 (fun H locs hP hD hS => ?_)
    replace hP : va_P D se_cl (se_WS k h (se_u g6 0 8 1)) H := hP
    replace hD : va_D A (se_WS k h (se_u g6 0 8 1)) := hD
    refine lv_iconst (v := 1) hx hb dX5_next_140 (by decide) ?_
    exact se_riz hx hb hr rfl hlocks hK hP hD hS dX5_next_141 (by subst eg6; rw [F_S_next, if_neg c1])
set_option maxRecDepth 100000 in
set_option maxHeartbeats 4000000 in
theorem c_S_Segment_append_7 (l : Launch) (D : va_G) (k : Nat → ClassId) (h : Nat → Nat) (sz : Nat) (g : se_G) (p1 : Int32) : Met l yX3_append (se_w_X3_append) ({ frames := 0, cells := 0, slots := 0, locals := 0 }) (va_Pc [.ref (h 7), .int p1] (se_Pre D se_cl [(k 2, .byte), (k 4, .int), (k 8, .byte), (k 10, .byte)] (se_WS k h g) se_ZN sz)) (se_Qv D se_cl [(k 2, .byte), (k 4, .int), (k 8, .byte), (k 10, .byte)] (se_WS k h) (F_S_Segment_append_7 g p1) (va_A (se_WS k h g) sz)) 0 0 (va_A (se_WS k h g) sz) := by
  refine se_met (Qc := se_Qv D se_cl [(k 2, .byte), (k 4, .int), (k 8, .byte), (k 10, .byte)] (se_WS k h) (F_S_Segment_append_7 g p1)) (cc := cX3_append) (maxL := 2) (ret := none) (by decide) rfl (Nat.le_of_ble_eq_true rfl) ?_
  intro p e s m below meth c ls A hx hb hr hts hown hlocks hml hA hP hK hD hS hZ hl
  replace hl : lv_has ls 2 [(0, .ref (h 7)), (1, .int p1)] := hl
  have hF : F_S_Segment_append_7 g p1 = F_S_Segment_append_7 g p1 := rfl
  refine lv_aload_n hx hb dX3_append_0 rfl (lv_at hl 0 rfl) ?_
  refine va_get (D := D) (ci := 3) (v := .int (g 7 1)) (C := RX3) (T := TX3) (N := 7) hx hb hts (se_iw iwX3) hown hK hP 7 rfl rfl 1 (by decide) (hts _ (List.mem_cons_of_mem _ qX3_f31)) (fun _ h9 => h9) rfl dX3_append_1 ?_
  refine lv_if_lt (tgt := 39) hx hb dX3_append_4 (by decide) (fun c1 => ?_) (fun c1 => ?_)
  · exact se_rv hx hb hr hlocks hK hP hD hS dX3_append_39 (by rw [F_S_Segment_append_7, if_pos c1])
  · refine lv_aload_n hx hb dX3_append_7 rfl (lv_at hl 0 rfl) ?_
    refine va_get (D := D) (ci := 3) (v := .int (g 7 1)) (C := RX3) (T := TX3) (N := 7) hx hb hts (se_iw iwX3) hown hK hP 7 rfl rfl 1 (by decide) (hts _ (List.mem_cons_of_mem _ qX3_f31)) (fun _ h9 => h9) rfl dX3_append_8 ?_
    refine lv_aload_n hx hb dX3_append_11 rfl (lv_at hl 0 rfl) ?_
    refine va_get (D := D) (ci := 3) (v := .ref (h 8)) (C := RX3) (T := TX3) (N := 7) hx hb hts (se_iw iwX3) hown hK hP 7 rfl rfl 0 (by decide) (hts _ (List.mem_cons_of_mem _ qX3_f9)) (fun _ h9 => h9) rfl dX3_append_12 ?_
    refine va_alen hx hb hK hP 8 2 rfl rfl (v := 1460) rfl dX3_append_15 ?_
    refine lv_icmp_ge (tgt := 39) hx hb dX3_append_16 (by decide) (fun c2 => ?_) (fun c2 => ?_)
    · exact se_rv hx hb hr hlocks hK hP hD hS dX3_append_39 (by rw [F_S_Segment_append_7, if_neg c1, if_pos c2])
    · refine lv_aload_n hx hb dX3_append_19 rfl (lv_at hl 0 rfl) ?_
      refine va_get (D := D) (ci := 3) (v := .ref (h 8)) (C := RX3) (T := TX3) (N := 7) hx hb hts (se_iw iwX3) hown hK hP 7 rfl rfl 0 (by decide) (hts _ (List.mem_cons_of_mem _ qX3_f9)) (fun _ h9 => h9) rfl dX3_append_20 ?_
      refine lv_aload_n hx hb dX3_append_23 rfl (lv_at hl 0 rfl) ?_
      refine va_get (D := D) (ci := 3) (v := .int (g 7 1)) (C := RX3) (T := TX3) (N := 7) hx hb hts (se_iw iwX3) hown hK hP 7 rfl rfl 1 (by decide) (hts _ (List.mem_cons_of_mem _ qX3_f31)) (fun _ h9 => h9) rfl dX3_append_24 ?_
      refine lv_iload_n hx hb dX3_append_27 rfl (lv_at hl 1 rfl) ?_
      refine va_bast hx hb hK hP hD hS 8 2 rfl rfl (se_inN (N := 1460) (by decide) c1 c2) dX3_append_28 (fun H locs hP hD hS => ?_)
      replace hP : va_P D se_cl (se_WS k h (se_u g 8 (Int32.toNatClampNeg (g 7 1)) (vp_nar .byte p1))) H := hP
      replace hD : va_D A (se_WS k h (se_u g 8 (Int32.toNatClampNeg (g 7 1)) (vp_nar .byte p1))) := hD
      refine lv_aload_n hx hb dX3_append_29 rfl (lv_at hl 0 rfl) ?_
      refine lv_dup hx hb dX3_append_30 rfl ?_
      refine va_get (D := D) (ci := 3) (v := .int (g 7 1)) (C := RX3) (T := TX3) (N := 7) hx hb hts (se_iw iwX3) hown hK hP 7 rfl rfl 1 (by decide) (hts _ (List.mem_cons_of_mem _ qX3_f31)) (fun _ h9 => h9) rfl dX3_append_31 ?_
      refine lv_iconst (v := 1) hx hb dX3_append_34 (by decide) ?_
      refine lv_iadd hx hb dX3_append_35 ?_
      refine va_put (D := D) (ci := 3) (v := .int ((g 7 1) + 1)) (ty := .int) (C := RX3) (T := TX3) (N := 7) hx hb hts (se_iw iwX3) tyX3 tyX3_ok nmX3 hown hK hP hD hS 7 rfl rfl 1 (by decide) (hts _ (List.mem_cons_of_mem _ qX3_f31)) (fun _ h9 => h9) rfl (by decide +kernel) rfl rfl (Nat.le_of_ble_eq_true rfl) dX3_append_36 (fun H locs hP hD hS => ?_)
      replace hP : va_P D se_cl (se_WS k h (se_u (se_u g 8 (Int32.toNatClampNeg (g 7 1)) (vp_nar .byte p1)) 7 1 ((g 7 1) + 1))) H := hP
      replace hD : va_D A (se_WS k h (se_u (se_u g 8 (Int32.toNatClampNeg (g 7 1)) (vp_nar .byte p1)) 7 1 ((g 7 1) + 1))) := hD
      exact se_rv hx hb hr hlocks hK hP hD hS dX3_append_39 (by rw [F_S_Segment_append_7, if_neg c1, if_neg c2])
set_option maxRecDepth 100000 in
set_option maxHeartbeats 4000000 in
theorem c_S_isWidth (l : Launch) (D : va_G) (k : Nat → ClassId) (h : Nat → Nat) (sz : Nat) (g : se_G) (p0 : Int32) : Met l yX5_isWidth (se_w_X5_isWidth) ({ frames := 0, cells := 0, slots := 0, locals := 0 }) (va_Pc [.int p0] (se_Pre D se_cl [(k 2, .byte), (k 4, .int), (k 8, .byte), (k 10, .byte)] (se_WS k h g) se_ZN sz)) (se_Qp (F_S_isWidth p0)) 0 0 (fun _ => False) := by
  refine se_metP (cc := cX5_isWidth) (maxL := 1) (ret := (some .boolean)) (by decide) rfl (Nat.le_of_ble_eq_true rfl) ?_
  intro p e s m below meth c ls A hx hb hr hts hown hlocks hml hA hP hK hD hS hZ hl
  replace hl : lv_has ls 1 [(0, .int p0)] := hl
  have hF : F_S_isWidth p0 = F_S_isWidth p0 := rfl
  refine lv_iload_n hx hb dX5_isWidth_0 rfl (lv_at hl 0 rfl) ?_
  refine lv_if_lt (tgt := 15) hx hb dX5_isWidth_1 (by decide) (fun c1 => ?_) (fun c1 => ?_)
  · refine lv_iconst (v := 0) hx hb dX5_isWidth_15 (by decide) ?_
    exact se_rpz hx hb hr rfl hlocks dX5_isWidth_16 (by rw [F_S_isWidth, if_pos c1])
  · refine lv_iload_n hx hb dX5_isWidth_4 rfl (lv_at hl 0 rfl) ?_
    refine lv_ldcw hx hb hown (hts _ (List.mem_cons_of_mem _ qX5_k284)) dX5_isWidth_5 ?_
    refine lv_icmp_gt (tgt := 15) hx hb dX5_isWidth_8 (by decide) (fun c2 => ?_) (fun c2 => ?_)
    · refine lv_iconst (v := 0) hx hb dX5_isWidth_15 (by decide) ?_
      exact se_rpz hx hb hr rfl hlocks dX5_isWidth_16 (by rw [F_S_isWidth, if_neg c1, if_pos c2])
    · refine lv_iconst (v := 1) hx hb dX5_isWidth_11 (by decide) ?_
      refine lv_goto (tgt := 16) hx hb dX5_isWidth_12 (by decide) ?_
      exact se_rpz hx hb hr rfl hlocks dX5_isWidth_16 (by rw [F_S_isWidth, if_neg c1, if_neg c2])
set_option maxRecDepth 100000 in
set_option maxHeartbeats 4000000 in
theorem c_S_Segment_headIs_7 (l : Launch) (D : va_G) (k : Nat → ClassId) (h : Nat → Nat) (sz : Nat) (g : se_G) (p1 : Int32) (p2 : Int32) (p3 : Int32) (p4 : Int32) (p5 : Int32) : Met l yX3_headIs (se_w_X3_headIs) ({ frames := 0, cells := 0, slots := 0, locals := 0 }) (va_Pc [.ref (h 7), .int p1, .int p2, .int p3, .int p4, .int p5] (se_Pre D se_cl [(k 2, .byte), (k 4, .int), (k 8, .byte), (k 10, .byte)] (se_WS k h g) se_ZN sz)) (se_Qv D se_cl [(k 2, .byte), (k 4, .int), (k 8, .byte), (k 10, .byte)] (se_WS k h) (F_S_Segment_headIs_7 g p1 p2 p3 p4 p5) (va_A (se_WS k h g) sz)) 0 0 (va_A (se_WS k h g) sz) := by
  refine se_met (Qc := se_Qv D se_cl [(k 2, .byte), (k 4, .int), (k 8, .byte), (k 10, .byte)] (se_WS k h) (F_S_Segment_headIs_7 g p1 p2 p3 p4 p5)) (cc := cX3_headIs) (maxL := 6) (ret := none) (by decide) rfl (Nat.le_of_ble_eq_true rfl) ?_
  intro p e s m below meth c ls A hx hb hr hts hown hlocks hml hA hP hK hD hS hZ hl
  replace hl : lv_has ls 6 [(0, .ref (h 7)), (1, .int p1), (2, .int p2), (3, .int p3), (4, .int p4), (5, .int p5)] := hl
  have hF : F_S_Segment_headIs_7 g p1 p2 p3 p4 p5 = F_S_Segment_headIs_7 g p1 p2 p3 p4 p5 := rfl
  refine lv_aload_n hx hb dX3_headIs_0 rfl (lv_at hl 0 rfl) ?_
  refine lv_iload_n hx hb dX3_headIs_1 rfl (lv_at hl 1 rfl) ?_
  refine va_put (D := D) (ci := 3) (v := .int p1) (ty := .int) (C := RX3) (T := TX3) (N := 7) hx hb hts (se_iw iwX3) tyX3 tyX3_ok nmX3 hown hK hP hD hS 7 rfl rfl 2 (by decide) (hts _ (List.mem_cons_of_mem _ qX3_f15)) (fun _ h9 => h9) rfl (by decide +kernel) rfl rfl (Nat.le_of_ble_eq_true rfl) dX3_headIs_2 (fun H locs hP hD hS => ?_)
  replace hP : va_P D se_cl (se_WS k h (se_u g 7 2 p1)) H := hP
  replace hD : va_D A (se_WS k h (se_u g 7 2 p1)) := hD
  refine lv_aload_n hx hb dX3_headIs_5 rfl (lv_at hl 0 rfl) ?_
  refine lv_iload_n hx hb dX3_headIs_6 rfl (lv_at hl 2 rfl) ?_
  refine va_put (D := D) (ci := 3) (v := .int p2) (ty := .int) (C := RX3) (T := TX3) (N := 7) hx hb hts (se_iw iwX3) tyX3 tyX3_ok nmX3 hown hK hP hD hS 7 rfl rfl 3 (by decide) (hts _ (List.mem_cons_of_mem _ qX3_f19)) (fun _ h9 => h9) rfl (by decide +kernel) rfl rfl (Nat.le_of_ble_eq_true rfl) dX3_headIs_7 (fun H locs hP hD hS => ?_)
  replace hP : va_P D se_cl (se_WS k h (se_u (se_u g 7 2 p1) 7 3 p2)) H := hP
  replace hD : va_D A (se_WS k h (se_u (se_u g 7 2 p1) 7 3 p2)) := hD
  refine lv_aload_n hx hb dX3_headIs_10 rfl (lv_at hl 0 rfl) ?_
  refine lv_iload_n hx hb dX3_headIs_11 rfl (lv_at hl 3 rfl) ?_
  refine va_put (D := D) (ci := 3) (v := .int p3) (ty := .int) (C := RX3) (T := TX3) (N := 7) hx hb hts (se_iw iwX3) tyX3 tyX3_ok nmX3 hown hK hP hD hS 7 rfl rfl 4 (by decide) (hts _ (List.mem_cons_of_mem _ qX3_f22)) (fun _ h9 => h9) rfl (by decide +kernel) rfl rfl (Nat.le_of_ble_eq_true rfl) dX3_headIs_12 (fun H locs hP hD hS => ?_)
  replace hP : va_P D se_cl (se_WS k h (se_u (se_u (se_u g 7 2 p1) 7 3 p2) 7 4 p3)) H := hP
  replace hD : va_D A (se_WS k h (se_u (se_u (se_u g 7 2 p1) 7 3 p2) 7 4 p3)) := hD
  refine lv_aload_n hx hb dX3_headIs_15 rfl (lv_at hl 0 rfl) ?_
  refine lv_iload hx hb dX3_headIs_16 (lv_at hl 4 rfl) ?_
  refine va_put (D := D) (ci := 3) (v := .int p4) (ty := .int) (C := RX3) (T := TX3) (N := 7) hx hb hts (se_iw iwX3) tyX3 tyX3_ok nmX3 hown hK hP hD hS 7 rfl rfl 5 (by decide) (hts _ (List.mem_cons_of_mem _ qX3_f25)) (fun _ h9 => h9) rfl (by decide +kernel) rfl rfl (Nat.le_of_ble_eq_true rfl) dX3_headIs_18 (fun H locs hP hD hS => ?_)
  replace hP : va_P D se_cl (se_WS k h (se_u (se_u (se_u (se_u g 7 2 p1) 7 3 p2) 7 4 p3) 7 5 p4)) H := hP
  replace hD : va_D A (se_WS k h (se_u (se_u (se_u (se_u g 7 2 p1) 7 3 p2) 7 4 p3) 7 5 p4)) := hD
  refine lv_aload_n hx hb dX3_headIs_21 rfl (lv_at hl 0 rfl) ?_
  refine lv_iload hx hb dX3_headIs_22 (lv_at hl 5 rfl) ?_
  refine va_put (D := D) (ci := 3) (v := .int p5) (ty := .int) (C := RX3) (T := TX3) (N := 7) hx hb hts (se_iw iwX3) tyX3 tyX3_ok nmX3 hown hK hP hD hS 7 rfl rfl 6 (by decide) (hts _ (List.mem_cons_of_mem _ qX3_f28)) (fun _ h9 => h9) rfl (by decide +kernel) rfl rfl (Nat.le_of_ble_eq_true rfl) dX3_headIs_24 (fun H locs hP hD hS => ?_)
  replace hP : va_P D se_cl (se_WS k h (se_u (se_u (se_u (se_u (se_u g 7 2 p1) 7 3 p2) 7 4 p3) 7 5 p4) 7 6 p5)) H := hP
  replace hD : va_D A (se_WS k h (se_u (se_u (se_u (se_u (se_u g 7 2 p1) 7 3 p2) 7 4 p3) 7 5 p4) 7 6 p5)) := hD
  exact se_rv hx hb hr hlocks hK hP hD hS dX3_headIs_27 (by rw [F_S_Segment_headIs_7])
set_option maxRecDepth 100000 in
set_option maxHeartbeats 4000000 in
theorem c_S_Segment_has_7 (l : Launch) (D : va_G) (k : Nat → ClassId) (h : Nat → Nat) (sz : Nat) (g : se_G) (p1 : Int32) : Met l yX3_has (se_w_X3_has) ({ frames := 0, cells := 0, slots := 0, locals := 0 }) (va_Pc [.ref (h 7), .int p1] (se_Pre D se_cl [(k 2, .byte), (k 4, .int), (k 8, .byte), (k 10, .byte)] (se_WS k h g) se_ZN sz)) (se_Qp (F_S_Segment_has_7 g p1)) 0 0 (fun _ => False) := by
  refine se_metP (cc := cX3_has) (maxL := 2) (ret := (some .boolean)) (by decide) rfl (Nat.le_of_ble_eq_true rfl) ?_
  intro p e s m below meth c ls A hx hb hr hts hown hlocks hml hA hP hK hD hS hZ hl
  replace hl : lv_has ls 2 [(0, .ref (h 7)), (1, .int p1)] := hl
  have hF : F_S_Segment_has_7 g p1 = F_S_Segment_has_7 g p1 := rfl
  refine lv_aload_n hx hb dX3_has_0 rfl (lv_at hl 0 rfl) ?_
  refine va_get (D := D) (ci := 3) (v := .int (g 7 2)) (C := RX3) (T := TX3) (N := 7) hx hb hts (se_iw iwX3) hown hK hP 7 rfl rfl 2 (by decide) (hts _ (List.mem_cons_of_mem _ qX3_f15)) (fun _ h9 => h9) rfl dX3_has_1 ?_
  refine lv_iload_n hx hb dX3_has_4 rfl (lv_at hl 1 rfl) ?_
  refine lv_iand hx hb dX3_has_5 ?_
  refine lv_if_eq (tgt := 13) hx hb dX3_has_6 (by decide) (fun c1 => ?_) (fun c1 => ?_)
  · refine lv_iconst (v := 0) hx hb dX3_has_13 (by decide) ?_
    exact se_rpz hx hb hr rfl hlocks dX3_has_14 (by rw [F_S_Segment_has_7, if_pos c1])
  · refine lv_iconst (v := 1) hx hb dX3_has_9 (by decide) ?_
    refine lv_goto (tgt := 14) hx hb dX3_has_10 (by decide) ?_
    exact se_rpz hx hb hr rfl hlocks dX3_has_14 (by rw [F_S_Segment_has_7, if_neg c1])
set_option maxRecDepth 100000 in
set_option maxHeartbeats 4000000 in
theorem c_S_Segment_size_7 (l : Launch) (D : va_G) (k : Nat → ClassId) (h : Nat → Nat) (sz : Nat) (g : se_G)  : Met l yX3_size (se_w_X3_size) ({ frames := 1, cells := 0, slots := 0, locals := 21 }) (va_Pc [.ref (h 7)] (se_Pre D se_cl [(k 2, .byte), (k 4, .int), (k 8, .byte), (k 10, .byte)] (se_WS k h g) se_ZN sz)) (se_Qp (F_S_Segment_size_7 g)) 0 0 (fun _ => False) := by
  refine se_metP (cc := cX3_size) (maxL := 1) (ret := (some .int)) (by decide) rfl (Nat.le_of_ble_eq_true rfl) ?_
  intro p e s m below meth c ls A hx hb hr hts hown hlocks hml hA hP hK hD hS hZ hl
  replace hl : lv_has ls 1 [(0, .ref (h 7))] := hl
  have hF : F_S_Segment_size_7 g = F_S_Segment_size_7 g := rfl
  refine lv_aload_n hx hb dX3_size_0 rfl (lv_at hl 0 rfl) ?_
  refine va_get (D := D) (ci := 3) (v := .int (g 7 1)) (C := RX3) (T := TX3) (N := 7) hx hb hts (se_iw iwX3) hown hK hP 7 rfl rfl 1 (by decide) (hts _ (List.mem_cons_of_mem _ qX3_f31)) (fun _ h9 => h9) rfl dX3_size_1 ?_
  refine lv_aload_n hx hb dX3_size_4 rfl (lv_at hl 0 rfl) ?_
  refine lv_iconst (v := 1) hx hb dX3_size_5 (by decide) ?_
  refine se_cp (va_runV (C := RX3) (As := [.int 1]) (rest := [.int (g 7 1)]) ⟨hx, hb, hml, hown, hts⟩ (c_S_Segment_has_7 l D k h _ g 1) (se_kV 1 hts q_code_X3_has qX3_m34 q_ini_StreamEnd_Segment q_instanceMethod_X3_has q_sel_X3_has (by decide +kernel) ⟨Nat.le_of_ble_eq_true rfl, Nat.le_of_ble_eq_true rfl⟩ rfl rfl) ⟨se_blind se_ZN_ok, va_recv hK hP (ci := 3) (q0 := 7) rfl rfl, se_pre se_ZN_ok hP hK hD hZ⟩ rfl rfl hl.1 rfl (lv_room (Nat.le_of_ble_eq_true rfl)) dX3_size_6 ⟨Nat.zero_le _, Nat.zero_le _⟩) ?_
  refine se_join (v := ((if (F_S_Segment_has_7 g 1) = 0 then 0 else 1) : Int32)) (pcJ := 17) (restJ := [.int (g 7 1)]) (ls := ls) (fun T => ?_) ?_
  · refine lv_if_eq (tgt := 16) hx hb dX3_size_9 (by decide) (fun c2 => ?_) (fun c2 => ?_)
    · refine lv_iconst (v := 0) hx hb dX3_size_16 (by decide) ?_
      exact T _ (by rw [if_pos c2])
    · refine lv_iconst (v := 1) hx hb dX3_size_12 (by decide) ?_
      refine lv_goto (tgt := 17) hx hb dX3_size_13 (by decide) ?_
      exact T _ (by rw [if_neg c2])
  refine lv_iadd hx hb dX3_size_17 ?_
  refine lv_aload_n hx hb dX3_size_18 rfl (lv_at hl 0 rfl) ?_
  refine lv_iconst (v := 2) hx hb dX3_size_19 (by decide) ?_
  refine se_cp (va_runV (C := RX3) (As := [.int 2]) (rest := [.int ((g 7 1) + ((if (F_S_Segment_has_7 g 1) = 0 then 0 else 1) : Int32))]) ⟨hx, hb, hml, hown, hts⟩ (c_S_Segment_has_7 l D k h _ g 2) (se_kV 1 hts q_code_X3_has qX3_m34 q_ini_StreamEnd_Segment q_instanceMethod_X3_has q_sel_X3_has (by decide +kernel) ⟨Nat.le_of_ble_eq_true rfl, Nat.le_of_ble_eq_true rfl⟩ rfl rfl) ⟨se_blind se_ZN_ok, va_recv hK hP (ci := 3) (q0 := 7) rfl rfl, se_pre se_ZN_ok hP hK hD hZ⟩ rfl rfl hl.1 rfl (lv_room (Nat.le_of_ble_eq_true rfl)) dX3_size_20 ⟨Nat.zero_le _, Nat.zero_le _⟩) ?_
  refine se_join (v := ((if (F_S_Segment_has_7 g 2) = 0 then 0 else 1) : Int32)) (pcJ := 31) (restJ := [.int ((g 7 1) + ((if (F_S_Segment_has_7 g 1) = 0 then 0 else 1) : Int32))]) (ls := ls) (fun T => ?_) ?_
  · refine lv_if_eq (tgt := 30) hx hb dX3_size_23 (by decide) (fun c4 => ?_) (fun c4 => ?_)
    · refine lv_iconst (v := 0) hx hb dX3_size_30 (by decide) ?_
      exact T _ (by rw [if_pos c4])
    · refine lv_iconst (v := 1) hx hb dX3_size_26 (by decide) ?_
      refine lv_goto (tgt := 31) hx hb dX3_size_27 (by decide) ?_
      exact T _ (by rw [if_neg c4])
  refine lv_iadd hx hb dX3_size_31 ?_
  exact se_rp hx hb hr  hlocks dX3_size_32 (by rw [F_S_Segment_size_7])
