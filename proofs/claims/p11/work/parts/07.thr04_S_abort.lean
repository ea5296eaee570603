/-! written by program (wip/gen) -/
set_option maxRecDepth 100000 in
set_option maxHeartbeats 4000000 in
theorem c_S_abort (l : Launch) (hfl : l.flags = pinnedFlags ++ [noTraceFlag]) (D : va_G) (k : Nat → ClassId) (h : Nat → Nat) (sa : Nat → Nat) (sz : Nat) (g : se_G)  : xe_Met l yX5_abort (se_w_X5_abort) ({ frames := 6, cells := 1, slots := 6, locals := 91 }) (va_Pc [.ref (h 0)] (se_Pre D se_cl [(k 2, .byte), (k 4, .int), (k 8, .byte), (k 10, .byte)] (se_WS k h g) (se_ZNX sa) sz)) (se_Xv D se_cl [(k 2, .byte), (k 4, .int), (k 8, .byte), (k 10, .byte)] (se_WS k h) (F_S_abort g) (va_A (se_WS k h g) sz)) (xe_X D se_cl [(k 2, .byte), (k 4, .int), (k 8, .byte), (k 10, .byte)] (se_WS k h) (F_S_abort g) (va_A (se_WS k h g) sz)) 1 6 (va_A (se_WS k h g) sz) := by
  refine xe_met (Qc := se_Xv D se_cl [(k 2, .byte), (k 4, .int), (k 8, .byte), (k 10, .byte)] (se_WS k h) (F_S_abort g)) (XC := xe_X D se_cl [(k 2, .byte), (k 4, .int), (k 8, .byte), (k 10, .byte)] (se_WS k h) (F_S_abort g)) (cc := cX5_abort) (maxL := 1) (ret := none) (by decide) rfl (Nat.le_of_ble_eq_true rfl) ?_
  intro p e s m below meth c ls A hx hb hr hts hown hlocks hml hno hA hP hK hD hS hZX hl
  have hZ : se_ZN s := hZX.1
  replace hl : lv_has ls 1 [(0, .ref (h 0))] := hl
  have hF : F_S_abort g = F_S_abort g := rfl
  refine lv_aload_n hx hb dX5_abort_0 rfl (lv_at hl 0 rfl) ?_
  refine se_cp (va_runV (C := RX5) (As := []) (rest := []) ⟨hx, hb, hml, hown, hts⟩ (c_S_isEnded l D k h _ g) (se_kV 0 hts q_code_X5_isEnded qX5_m69 q_ini_StreamEnd q_instanceMethod_X5_isEnded q_sel_X5_isEnded (by decide +kernel) ⟨Nat.le_of_ble_eq_true rfl, Nat.le_of_ble_eq_true rfl⟩ rfl rfl) ⟨se_blind se_ZN_ok, va_recv hK hP (ci := 5) (q0 := 0) rfl rfl, se_pre se_ZN_ok hP hK hD hZ⟩ rfl rfl hl.1 rfl (lv_room (Nat.le_of_ble_eq_true rfl)) dX5_abort_1 ⟨Nat.zero_le _, Nat.zero_le _⟩) ?_
  refine lv_if_eq (tgt := 17) hx hb dX5_abort_4 (by decide) (fun c1 => ?_) (fun c1 => ?_)
  · refine lv_aload_n hx hb dX5_abort_17 rfl (lv_at hl 0 rfl) ?_
    refine va_get (D := D) (ci := 5) (v := .int (g 0 9)) (C := RX5) (T := TX5) (N := 12) hx hb hts (se_iw iwX5) hown hK hP 0 rfl rfl 9 (by decide) (hts _ (List.mem_cons_of_mem _ qX5_f60)) (fun _ h9 => h9) rfl dX5_abort_18 ?_
    refine lv_iconst (v := 1) hx hb dX5_abort_21 (by decide) ?_
    refine lv_icmp_eq (tgt := 65) hx hb dX5_abort_22 (by decide) (fun c2 => ?_) (fun c2 => ?_)
    · refine lv_aload_n hx hb dX5_abort_65 rfl (lv_at hl 0 rfl) ?_
      refine lv_bipush (v := 11) hx hb dX5_abort_66 (by decide) ?_
      refine se_cvE (va_runV (C := RX5) (As := [.int 11]) (rest := []) ⟨hx, hb, hml, hown, hts⟩ (c_S_halt l D k h _ g 11) (se_kV 1 hts q_code_X5_halt qX5_m132 q_ini_StreamEnd q_instanceMethod_X5_halt q_sel_X5_halt (by decide +kernel) ⟨Nat.le_of_ble_eq_true rfl, Nat.le_of_ble_eq_true rfl⟩ rfl rfl) ⟨se_blind se_ZN_ok, va_recv hK hP (ci := 5) (q0 := 0) rfl rfl, se_pre se_ZN_ok hP hK hD hZ⟩ rfl rfl hl.1 rfl (lv_room (Nat.le_of_ble_eq_true rfl)) dX5_abort_68 ⟨Nat.zero_le _, Nat.zero_le _⟩) hD hS hA (fun g1 H locs eg1 hP hD hS => ?_)
      exact xe_ret (W.widen (k := 1) (n := 6) (Nat.zero_le _) (Nat.zero_le _) (se_xv hx hb hr hlocks hK hP hD hS dX5_abort_71 (by subst eg1; rw [F_S_abort, if_pos c1, if_pos c2])))
    · refine lv_aload_n hx hb dX5_abort_25 rfl (lv_at hl 0 rfl) ?_
      refine va_get (D := D) (ci := 5) (v := .int (g 0 9)) (C := RX5) (T := TX5) (N := 12) hx hb hts (se_iw iwX5) hown hK hP 0 rfl rfl 9 (by decide) (hts _ (List.mem_cons_of_mem _ qX5_f60)) (fun _ h9 => h9) rfl dX5_abort_26 ?_
      refine lv_iconst (v := 2) hx hb dX5_abort_29 (by decide) ?_
      refine lv_icmp_eq (tgt := 65) hx hb dX5_abort_30 (by decide) (fun c3 => ?_) (fun c3 => ?_)
      · refine lv_aload_n hx hb dX5_abort_65 rfl (lv_at hl 0 rfl) ?_
        refine lv_bipush (v := 11) hx hb dX5_abort_66 (by decide) ?_
        refine se_cvE (va_runV (C := RX5) (As := [.int 11]) (rest := []) ⟨hx, hb, hml, hown, hts⟩ (c_S_halt l D k h _ g 11) (se_kV 1 hts q_code_X5_halt qX5_m132 q_ini_StreamEnd q_instanceMethod_X5_halt q_sel_X5_halt (by decide +kernel) ⟨Nat.le_of_ble_eq_true rfl, Nat.le_of_ble_eq_true rfl⟩ rfl rfl) ⟨se_blind se_ZN_ok, va_recv hK hP (ci := 5) (q0 := 0) rfl rfl, se_pre se_ZN_ok hP hK hD hZ⟩ rfl rfl hl.1 rfl (lv_room (Nat.le_of_ble_eq_true rfl)) dX5_abort_68 ⟨Nat.zero_le _, Nat.zero_le _⟩) hD hS hA (fun g2 H locs eg2 hP hD hS => ?_)
        exact xe_ret (W.widen (k := 1) (n := 6) (Nat.zero_le _) (Nat.zero_le _) (se_xv hx hb hr hlocks hK hP hD hS dX5_abort_71 (by subst eg2; rw [F_S_abort, if_pos c1, if_neg c2, if_pos c3])))
      · refine lv_aload_n hx hb dX5_abort_33 rfl (lv_at hl 0 rfl) ?_
        refine va_get (D := D) (ci := 5) (v := .int (g 0 9)) (C := RX5) (T := TX5) (N := 12) hx hb hts (se_iw iwX5) hown hK hP 0 rfl rfl 9 (by decide) (hts _ (List.mem_cons_of_mem _ qX5_f60)) (fun _ h9 => h9) rfl dX5_abort_34 ?_
        refine lv_bipush (v := 10) hx hb dX5_abort_37 (by decide) ?_
        refine lv_icmp_eq (tgt := 65) hx hb dX5_abort_39 (by decide) (fun c4 => ?_) (fun c4 => ?_)
        · refine lv_aload_n hx hb dX5_abort_65 rfl (lv_at hl 0 rfl) ?_
          refine lv_bipush (v := 11) hx hb dX5_abort_66 (by decide) ?_
          refine se_cvE (va_runV (C := RX5) (As := [.int 11]) (rest := []) ⟨hx, hb, hml, hown, hts⟩ (c_S_halt l D k h _ g 11) (se_kV 1 hts q_code_X5_halt qX5_m132 q_ini_StreamEnd q_instanceMethod_X5_halt q_sel_X5_halt (by decide +kernel) ⟨Nat.le_of_ble_eq_true rfl, Nat.le_of_ble_eq_true rfl⟩ rfl rfl) ⟨se_blind se_ZN_ok, va_recv hK hP (ci := 5) (q0 := 0) rfl rfl, se_pre se_ZN_ok hP hK hD hZ⟩ rfl rfl hl.1 rfl (lv_room (Nat.le_of_ble_eq_true rfl)) dX5_abort_68 ⟨Nat.zero_le _, Nat.zero_le _⟩) hD hS hA (fun g3 H locs eg3 hP hD hS => ?_)
          exact xe_ret (W.widen (k := 1) (n := 6) (Nat.zero_le _) (Nat.zero_le _) (se_xv hx hb hr hlocks hK hP hD hS dX5_abort_71 (by subst eg3; rw [F_S_abort, if_pos c1, if_neg c2, if_neg c3, if_pos c4])))
        · refine lv_aload_n hx hb dX5_abort_42 rfl (lv_at hl 0 rfl) ?_
          refine va_get (D := D) (ci := 5) (v := .ref (h 6)) (C := RX5) (T := TX5) (N := 12) hx hb hts (se_iw iwX5) hown hK hP 0 rfl rfl 5 (by decide) (hts _ (List.mem_cons_of_mem _ qX5_f42)) (fun _ h9 => h9) rfl dX5_abort_43 ?_
          refine lv_bipush (v := 12) hx hb dX5_abort_46 (by decide) ?_
          refine lv_aload_n hx hb dX5_abort_48 rfl (lv_at hl 0 rfl) ?_
          refine va_get (D := D) (ci := 5) (v := .ref (h 1)) (C := RX5) (T := TX5) (N := 12) hx hb hts (se_iw iwX5) hown hK hP 0 rfl rfl 2 (by decide) (hts _ (List.mem_cons_of_mem _ qX5_f21)) (fun _ h9 => h9) rfl dX5_abort_49 ?_
          refine va_getN (D := D) (ci := 2) (v := .int (g 1 6)) (C := RX2) (T := TX2) (N := 13) hx hb hts (se_iw iwX2) hown hK hP 1 rfl rfl 6 (by decide) (va_Nw.use rfl (hZ _ nX5_f137 rfl)) (fun _ h9 => h9) rfl dX5_abort_52 ?_
          refine lv_aload_n hx hb dX5_abort_55 rfl (lv_at hl 0 rfl) ?_
          refine va_get (D := D) (ci := 5) (v := .ref (h 3)) (C := RX5) (T := TX5) (N := 12) hx hb hts (se_iw iwX5) hown hK hP 0 rfl rfl 3 (by decide) (hts _ (List.mem_cons_of_mem _ qX5_f28)) (fun _ h9 => h9) rfl dX5_abort_56 ?_
          refine va_getN (D := D) (ci := 1) (v := .int (g 3 2)) (C := RX1) (T := TX1) (N := 8) hx hb hts (se_iw iwX1) hown hK hP 3 rfl rfl 2 (by decide) (va_Nw.use rfl (hZ _ nX5_f140 rfl)) (fun _ h9 => h9) rfl dX5_abort_59 ?_
          refine se_cvE (va_runVN (C := RX0) (As := [.int 12, .int (g 1 6), .int (g 3 2)]) (rest := []) ⟨hx, hb, hml, hown, hts⟩ (c_S_Due_resetIs l D k h _ g 12 (g 1 6) (g 3 2)) (se_kVN 3 hts q_code_X0_resetIs (hZ _ nX5_m143 rfl) q_ini_StreamEnd_Due q_instanceMethod_X0_resetIs q_sel_X0_resetIs (by decide +kernel) ⟨Nat.le_of_ble_eq_true rfl, Nat.le_of_ble_eq_true rfl⟩ rfl rfl) ⟨se_blind se_ZN_ok, va_recv hK hP (ci := 0) (q0 := 6) rfl rfl, se_pre se_ZN_ok hP hK hD hZ⟩ rfl rfl hl.1 rfl (lv_room (Nat.le_of_ble_eq_true rfl)) dX5_abort_62 ⟨Nat.zero_le _, Nat.zero_le _⟩) hD hS hA (fun g4 H locs eg4 hP hD hS => ?_)
          refine lv_aload_n hx hb dX5_abort_65 rfl (lv_at hl 0 rfl) ?_
          refine lv_bipush (v := 11) hx hb dX5_abort_66 (by decide) ?_
          refine se_cvE (va_runV (C := RX5) (As := [.int 11]) (rest := []) ⟨hx, hb, hml, hown, hts⟩ (c_S_halt l D k h _ g4 11) (se_kV 1 hts q_code_X5_halt qX5_m132 q_ini_StreamEnd q_instanceMethod_X5_halt q_sel_X5_halt (by decide +kernel) ⟨Nat.le_of_ble_eq_true rfl, Nat.le_of_ble_eq_true rfl⟩ rfl rfl) ⟨se_blind se_ZN_ok, va_recv hK hP (ci := 5) (q0 := 0) rfl rfl, se_pre se_ZN_ok hP hK hD hZ⟩ rfl rfl hl.1 rfl (lv_room (Nat.le_of_ble_eq_true rfl)) dX5_abort_68 ⟨Nat.zero_le _, Nat.zero_le _⟩) hD hS hA (fun g5 H locs eg5 hP hD hS => ?_)
          exact xe_ret (W.widen (k := 1) (n := 6) (Nat.zero_le _) (Nat.zero_le _) (se_xv hx hb hr hlocks hK hP hD hS dX5_abort_71 (by subst eg4; subst eg5; rw [F_S_abort, if_pos c1, if_neg c2, if_neg c3, if_neg c4])))
  · exact xe_throw (own := RX5) (cls := "java/lang/IllegalStateException") (names := xe_names) (text := "nothing is there to be aborted") (sa := sa 135) hx hb hfl hown (by decide) (by decide) (hts _ (List.mem_cons_of_mem _ qX5_c73)) (hts _ (List.mem_cons_of_mem _ q_ini_java_lang_IllegalStateException)) (hZX.2.1 (135, "nothing is there to be aborted") (by decide)) (xe_at2 hts hZX) (hl.1.trans hml.symm) dX5_abort_7 dX5_abort_10 dX5_abort_11 dX5_abort_13 dX5_abort_16 hno (by decide) (by decide) (by decide) (by decide) hlocks (xe_x hK hP hD (se_xe se_x2 (by rw [F_S_abort, if_neg c1])))
