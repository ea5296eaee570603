/-! written by program (wip/gen) -/
set_option maxRecDepth 100000 in
set_option maxHeartbeats 4000000 in
theorem c_S_close (l : Launch) (hfl : l.flags = pinnedFlags ++ [noTraceFlag]) (D : va_G) (k : Nat → ClassId) (h : Nat → Nat) (sa : Nat → Nat) (sz : Nat) (g : se_G)  : xe_Met l yX5_close (se_w_X5_close) ({ frames := 6, cells := 1, slots := 6, locals := 91 }) (va_Pc [.ref (h 0)] (se_Pre D se_cl [(k 2, .byte), (k 4, .int), (k 8, .byte), (k 10, .byte)] (se_WS k h g) (se_ZNX sa) sz)) (se_Xv D se_cl [(k 2, .byte), (k 4, .int), (k 8, .byte), (k 10, .byte)] (se_WS k h) (F_S_close g) (va_A (se_WS k h g) sz)) (xe_X D se_cl [(k 2, .byte), (k 4, .int), (k 8, .byte), (k 10, .byte)] (se_WS k h) (F_S_close g) (va_A (se_WS k h g) sz)) 1 6 (va_A (se_WS k h g) sz) := by
  refine xe_met (Qc := se_Xv D se_cl [(k 2, .byte), (k 4, .int), (k 8, .byte), (k 10, .byte)] (se_WS k h) (F_S_close g)) (XC := xe_X D se_cl [(k 2, .byte), (k 4, .int), (k 8, .byte), (k 10, .byte)] (se_WS k h) (F_S_close g)) (cc := cX5_close) (maxL := 1) (ret := none) (by decide) rfl (Nat.le_of_ble_eq_true rfl) ?_
  intro p e s m below meth c ls A hx hb hr hts hown hlocks hml hno hA hP hK hD hS hZX hl
  have hZ : se_ZN s := hZX.1
  replace hl : lv_has ls 1 [(0, .ref (h 0))] := hl
  have hF : F_S_close g = F_S_close g := rfl
  refine lv_aload_n hx hb dX5_close_0 rfl (lv_at hl 0 rfl) ?_
  refine va_get (D := D) (ci := 5) (v := .ref (h 1)) (C := RX5) (T := TX5) (N := 12) hx hb hts (se_iw iwX5) hown hK hP 0 rfl rfl 2 (by decide) (hts _ (List.mem_cons_of_mem _ qX5_f21)) (fun _ h9 => h9) rfl dX5_close_1 ?_
  refine va_getN (D := D) (ci := 2) (v := .int (g 1 7)) (C := RX2) (T := TX2) (N := 13) hx hb hts (se_iw iwX2) hown hK hP 1 rfl rfl 7 (by decide) (va_Nw.use rfl (hZ _ nX5_f93 rfl)) (fun _ h9 => h9) rfl dX5_close_4 ?_
  refine lv_if_ne (tgt := 17) hx hb dX5_close_7 (by decide) (fun c1 => ?_) (fun c1 => ?_)
  · exact xe_throw (own := RX5) (cls := "java/lang/IllegalStateException") (names := xe_names) (text := "nothing is there to be closed") (sa := sa 130) hx hb hfl hown (by decide) (by decide) (hts _ (List.mem_cons_of_mem _ qX5_c73)) (hts _ (List.mem_cons_of_mem _ q_ini_java_lang_IllegalStateException)) (hZX.2.1 (130, "nothing is there to be closed") (by decide)) (xe_at2 hts hZX) (hl.1.trans hml.symm) dX5_close_17 dX5_close_20 dX5_close_21 dX5_close_23 dX5_close_26 hno (by decide) (by decide) (by decide) (by decide) hlocks (xe_x hK hP hD (se_xe se_x2 (by rw [F_S_close, if_neg c1])))
  · refine lv_aload_n hx hb dX5_close_10 rfl (lv_at hl 0 rfl) ?_
    refine se_cp (va_runV (C := RX5) (As := []) (rest := []) ⟨hx, hb, hml, hown, hts⟩ (c_S_isEnded l D k h _ g) (se_kV 0 hts q_code_X5_isEnded qX5_m69 q_ini_StreamEnd q_instanceMethod_X5_isEnded q_sel_X5_isEnded (by decide +kernel) ⟨Nat.le_of_ble_eq_true rfl, Nat.le_of_ble_eq_true rfl⟩ rfl rfl) ⟨se_blind se_ZN_ok, va_recv hK hP (ci := 5) (q0 := 0) rfl rfl, se_pre se_ZN_ok hP hK hD hZ⟩ rfl rfl hl.1 rfl (lv_room (Nat.le_of_ble_eq_true rfl)) dX5_close_11 ⟨Nat.zero_le _, Nat.zero_le _⟩) ?_
    refine lv_if_eq (tgt := 27) hx hb dX5_close_14 (by decide) (fun c2 => ?_) (fun c2 => ?_)
    · refine lv_aload_n hx hb dX5_close_27 rfl (lv_at hl 0 rfl) ?_
      refine va_get (D := D) (ci := 5) (v := .ref (h 1)) (C := RX5) (T := TX5) (N := 12) hx hb hts (se_iw iwX5) hown hK hP 0 rfl rfl 2 (by decide) (hts _ (List.mem_cons_of_mem _ qX5_f21)) (fun _ h9 => h9) rfl dX5_close_28 ?_
      refine lv_iconst (v := 1) hx hb dX5_close_31 (by decide) ?_
      refine va_putN (D := D) (ci := 2) (v := .int 1) (ty := .boolean) (C := RX2) (T := TX2) (N := 13) hx hb hts (se_iw iwX2) tyX2 tyX2_ok nmX2 hown hK hP hD hS 1 rfl rfl 7 (by decide) (va_Nw.use rfl (hZ _ nX5_f93 rfl)) (fun _ h9 => h9) rfl (by decide +kernel) rfl rfl (Nat.le_of_ble_eq_true rfl) dX5_close_32 (fun H locs hP hD hS => ?_)
      replace hP : va_P D se_cl (se_WS k h (se_u g 1 7 1)) H := hP
      replace hD : va_D A (se_WS k h (se_u g 1 7 1)) := hD
      refine lv_aload_n hx hb dX5_close_35 rfl (lv_at hl 0 rfl) ?_
      refine va_get (D := D) (ci := 5) (v := .int (g 0 9)) (C := RX5) (T := TX5) (N := 12) hx hb hts (se_iw iwX5) hown hK hP 0 rfl rfl 9 (by decide) (hts _ (List.mem_cons_of_mem _ qX5_f60)) (fun _ h9 => h9) rfl dX5_close_36 ?_
      refine lv_iconst (v := 1) hx hb dX5_close_39 (by decide) ?_
      refine lv_icmp_eq (tgt := 51) hx hb dX5_close_40 (by decide) (fun c3 => ?_) (fun c3 => ?_)
      · refine lv_aload_n hx hb dX5_close_51 rfl (lv_at hl 0 rfl) ?_
        refine lv_iconst (v := 0) hx hb dX5_close_52 (by decide) ?_
        refine se_cvE (va_runV (C := RX5) (As := [.int 0]) (rest := []) ⟨hx, hb, hml, hown, hts⟩ (c_S_halt l D k h _ (se_u g 1 7 1) 0) (se_kV 1 hts q_code_X5_halt qX5_m132 q_ini_StreamEnd q_instanceMethod_X5_halt q_sel_X5_halt (by decide +kernel) ⟨Nat.le_of_ble_eq_true rfl, Nat.le_of_ble_eq_true rfl⟩ rfl rfl) ⟨se_blind se_ZN_ok, va_recv hK hP (ci := 5) (q0 := 0) rfl rfl, se_pre se_ZN_ok hP hK hD hZ⟩ rfl rfl hl.1 rfl (lv_room (Nat.le_of_ble_eq_true rfl)) dX5_close_53 ⟨Nat.zero_le _, Nat.zero_le _⟩) hD hS hA (fun g1 H locs eg1 hP hD hS => ?_)
        refine lv_goto (tgt := 90) hx hb dX5_close_56 (by decide) ?_
        refine lv_aload_n hx hb dX5_close_90 rfl (lv_at hl 0 rfl) ?_
        refine se_cvE (va_runV (C := RX5) (As := []) (rest := []) ⟨hx, hb, hml, hown, hts⟩ (c_S_watchClosedWindow l D k h _ g1) (se_kV 0 hts q_code_X5_watchClosedWindow qX5_m116 q_ini_StreamEnd q_instanceMethod_X5_watchClosedWindow q_sel_X5_watchClosedWindow (by decide +kernel) ⟨Nat.le_of_ble_eq_true rfl, Nat.le_of_ble_eq_true rfl⟩ rfl rfl) ⟨se_blind se_ZN_ok, va_recv hK hP (ci := 5) (q0 := 0) rfl rfl, se_pre se_ZN_ok hP hK hD hZ⟩ rfl rfl hl.1 rfl (lv_room (Nat.le_of_ble_eq_true rfl)) dX5_close_91 ⟨Nat.zero_le _, Nat.zero_le _⟩) hD hS hA (fun g2 H locs eg2 hP hD hS => ?_)
        exact xe_ret (W.widen (k := 1) (n := 6) (Nat.zero_le _) (Nat.zero_le _) (se_xv hx hb hr hlocks hK hP hD hS dX5_close_94 (by subst eg1; subst eg2; rw [F_S_close, if_pos c1, if_pos c2, if_pos c3])))
      · refine lv_aload_n hx hb dX5_close_43 rfl (lv_at hl 0 rfl) ?_
        refine va_get (D := D) (ci := 5) (v := .int (g 0 9)) (C := RX5) (T := TX5) (N := 12) hx hb hts (se_iw iwX5) hown hK hP 0 rfl rfl 9 (by decide) (hts _ (List.mem_cons_of_mem _ qX5_f60)) (fun _ h9 => h9) rfl dX5_close_44 ?_
        refine lv_iconst (v := 2) hx hb dX5_close_47 (by decide) ?_
        refine lv_icmp_ne (tgt := 59) hx hb dX5_close_48 (by decide) (fun c4 => ?_) (fun c4 => ?_)
        · refine lv_aload_n hx hb dX5_close_59 rfl (lv_at hl 0 rfl) ?_
          refine va_get (D := D) (ci := 5) (v := .int (g 0 9)) (C := RX5) (T := TX5) (N := 12) hx hb hts (se_iw iwX5) hown hK hP 0 rfl rfl 9 (by decide) (hts _ (List.mem_cons_of_mem _ qX5_f60)) (fun _ h9 => h9) rfl dX5_close_60 ?_
          refine lv_iconst (v := 4) hx hb dX5_close_63 (by decide) ?_
          refine lv_icmp_ne (tgt := 75) hx hb dX5_close_64 (by decide) (fun c5 => ?_) (fun c5 => ?_)
          · refine lv_aload_n hx hb dX5_close_75 rfl (lv_at hl 0 rfl) ?_
            refine va_get (D := D) (ci := 5) (v := .int (g 0 9)) (C := RX5) (T := TX5) (N := 12) hx hb hts (se_iw iwX5) hown hK hP 0 rfl rfl 9 (by decide) (hts _ (List.mem_cons_of_mem _ qX5_f60)) (fun _ h9 => h9) rfl dX5_close_76 ?_
            refine lv_bipush (v := 7) hx hb dX5_close_79 (by decide) ?_
            refine lv_icmp_ne (tgt := 90) hx hb dX5_close_81 (by decide) (fun c6 => ?_) (fun c6 => ?_)
            · refine lv_aload_n hx hb dX5_close_90 rfl (lv_at hl 0 rfl) ?_
              refine se_cvE (va_runV (C := RX5) (As := []) (rest := []) ⟨hx, hb, hml, hown, hts⟩ (c_S_watchClosedWindow l D k h _ (se_u g 1 7 1)) (se_kV 0 hts q_code_X5_watchClosedWindow qX5_m116 q_ini_StreamEnd q_instanceMethod_X5_watchClosedWindow q_sel_X5_watchClosedWindow (by decide +kernel) ⟨Nat.le_of_ble_eq_true rfl, Nat.le_of_ble_eq_true rfl⟩ rfl rfl) ⟨se_blind se_ZN_ok, va_recv hK hP (ci := 5) (q0 := 0) rfl rfl, se_pre se_ZN_ok hP hK hD hZ⟩ rfl rfl hl.1 rfl (lv_room (Nat.le_of_ble_eq_true rfl)) dX5_close_91 ⟨Nat.zero_le _, Nat.zero_le _⟩) hD hS hA (fun g3 H locs eg3 hP hD hS => ?_)
              exact xe_ret (W.widen (k := 1) (n := 6) (Nat.zero_le _) (Nat.zero_le _) (se_xv hx hb hr hlocks hK hP hD hS dX5_close_94 (by subst eg3; rw [F_S_close, if_pos c1, if_pos c2, if_neg c3, if_neg c4, if_neg c5, if_neg c6])))
            · refine lv_aload_n hx hb dX5_close_84 rfl (lv_at hl 0 rfl) ?_
              refine lv_bipush (v := 9) hx hb dX5_close_85 (by decide) ?_
              refine va_put (D := D) (ci := 5) (v := .int 9) (ty := .int) (C := RX5) (T := TX5) (N := 12) hx hb hts (se_iw iwX5) tyX5 tyX5_ok nmX5 hown hK hP hD hS 0 rfl rfl 9 (by decide) (hts _ (List.mem_cons_of_mem _ qX5_f60)) (fun _ h9 => h9) rfl (by decide +kernel) rfl rfl (Nat.le_of_ble_eq_true rfl) dX5_close_87 (fun H locs hP hD hS => ?_)
              replace hP : va_P D se_cl (se_WS k h (se_u (se_u g 1 7 1) 0 9 9)) H := hP
              replace hD : va_D A (se_WS k h (se_u (se_u g 1 7 1) 0 9 9)) := hD
              refine lv_aload_n hx hb dX5_close_90 rfl (lv_at hl 0 rfl) ?_
              refine se_cvE (va_runV (C := RX5) (As := []) (rest := []) ⟨hx, hb, hml, hown, hts⟩ (c_S_watchClosedWindow l D k h _ (se_u (se_u g 1 7 1) 0 9 9)) (se_kV 0 hts q_code_X5_watchClosedWindow qX5_m116 q_ini_StreamEnd q_instanceMethod_X5_watchClosedWindow q_sel_X5_watchClosedWindow (by decide +kernel) ⟨Nat.le_of_ble_eq_true rfl, Nat.le_of_ble_eq_true rfl⟩ rfl rfl) ⟨se_blind se_ZN_ok, va_recv hK hP (ci := 5) (q0 := 0) rfl rfl, se_pre se_ZN_ok hP hK hD hZ⟩ rfl rfl hl.1 rfl (lv_room (Nat.le_of_ble_eq_true rfl)) dX5_close_91 ⟨Nat.zero_le _, Nat.zero_le _⟩) hD hS hA (fun g4 H locs eg4 hP hD hS => ?_)
              exact xe_ret (W.widen (k := 1) (n := 6) (Nat.zero_le _) (Nat.zero_le _) (se_xv hx hb hr hlocks hK hP hD hS dX5_close_94 (by subst eg4; rw [F_S_close, if_pos c1, if_pos c2, if_neg c3, if_neg c4, if_neg c5, if_pos c6])))
          · refine lv_aload_n hx hb dX5_close_67 rfl (lv_at hl 0 rfl) ?_
            refine lv_iconst (v := 5) hx hb dX5_close_68 (by decide) ?_
            refine va_put (D := D) (ci := 5) (v := .int 5) (ty := .int) (C := RX5) (T := TX5) (N := 12) hx hb hts (se_iw iwX5) tyX5 tyX5_ok nmX5 hown hK hP hD hS 0 rfl rfl 9 (by decide) (hts _ (List.mem_cons_of_mem _ qX5_f60)) (fun _ h9 => h9) rfl (by decide +kernel) rfl rfl (Nat.le_of_ble_eq_true rfl) dX5_close_69 (fun H locs hP hD hS => ?_)
            replace hP : va_P D se_cl (se_WS k h (se_u (se_u g 1 7 1) 0 9 5)) H := hP
            replace hD : va_D A (se_WS k h (se_u (se_u g 1 7 1) 0 9 5)) := hD
            refine lv_goto (tgt := 90) hx hb dX5_close_72 (by decide) ?_
            refine lv_aload_n hx hb dX5_close_90 rfl (lv_at hl 0 rfl) ?_
            refine se_cvE (va_runV (C := RX5) (As := []) (rest := []) ⟨hx, hb, hml, hown, hts⟩ (c_S_watchClosedWindow l D k h _ (se_u (se_u g 1 7 1) 0 9 5)) (se_kV 0 hts q_code_X5_watchClosedWindow qX5_m116 q_ini_StreamEnd q_instanceMethod_X5_watchClosedWindow q_sel_X5_watchClosedWindow (by decide +kernel) ⟨Nat.le_of_ble_eq_true rfl, Nat.le_of_ble_eq_true rfl⟩ rfl rfl) ⟨se_blind se_ZN_ok, va_recv hK hP (ci := 5) (q0 := 0) rfl rfl, se_pre se_ZN_ok hP hK hD hZ⟩ rfl rfl hl.1 rfl (lv_room (Nat.le_of_ble_eq_true rfl)) dX5_close_91 ⟨Nat.zero_le _, Nat.zero_le _⟩) hD hS hA (fun g5 H locs eg5 hP hD hS => ?_)
            exact xe_ret (W.widen (k := 1) (n := 6) (Nat.zero_le _) (Nat.zero_le _) (se_xv hx hb hr hlocks hK hP hD hS dX5_close_94 (by subst eg5; rw [F_S_close, if_pos c1, if_pos c2, if_neg c3, if_neg c4, if_pos c5])))
        · refine lv_aload_n hx hb dX5_close_51 rfl (lv_at hl 0 rfl) ?_
          refine lv_iconst (v := 0) hx hb dX5_close_52 (by decide) ?_
          refine se_cvE (va_runV (C := RX5) (As := [.int 0]) (rest := []) ⟨hx, hb, hml, hown, hts⟩ (c_S_halt l D k h _ (se_u g 1 7 1) 0) (se_kV 1 hts q_code_X5_halt qX5_m132 q_ini_StreamEnd q_instanceMethod_X5_halt q_sel_X5_halt (by decide +kernel) ⟨Nat.le_of_ble_eq_true rfl, Nat.le_of_ble_eq_true rfl⟩ rfl rfl) ⟨se_blind se_ZN_ok, va_recv hK hP (ci := 5) (q0 := 0) rfl rfl, se_pre se_ZN_ok hP hK hD hZ⟩ rfl rfl hl.1 rfl (lv_room (Nat.le_of_ble_eq_true rfl)) dX5_close_53 ⟨Nat.zero_le _, Nat.zero_le _⟩) hD hS hA (fun g6 H locs eg6 hP hD hS => ?_)
          refine lv_goto (tgt := 90) hx hb dX5_close_56 (by decide) ?_
          refine lv_aload_n hx hb dX5_close_90 rfl (lv_at hl 0 rfl) ?_
          refine se_cvE (va_runV (C := RX5) (As := []) (rest := []) ⟨hx, hb, hml, hown, hts⟩ (c_S_watchClosedWindow l D k h _ g6) (se_kV 0 hts q_code_X5_watchClosedWindow qX5_m116 q_ini_StreamEnd q_instanceMethod_X5_watchClosedWindow q_sel_X5_watchClosedWindow (by decide +kernel) ⟨Nat.le_of_ble_eq_true rfl, Nat.le_of_ble_eq_true rfl⟩ rfl rfl) ⟨se_blind se_ZN_ok, va_recv hK hP (ci := 5) (q0 := 0) rfl rfl, se_pre se_ZN_ok hP hK hD hZ⟩ rfl rfl hl.1 rfl (lv_room (Nat.le_of_ble_eq_true rfl)) dX5_close_91 ⟨Nat.zero_le _, Nat.zero_le _⟩) hD hS hA (fun g7 H locs eg7 hP hD hS => ?_)
          exact xe_ret (W.widen (k := 1) (n := 6) (Nat.zero_le _) (Nat.zero_le _) (se_xv hx hb hr hlocks hK hP hD hS dX5_close_94 (by subst eg6; subst eg7; rw [F_S_close, if_pos c1, if_pos c2, if_neg c3, if_pos c4])))
    · exact xe_throw (own := RX5) (cls := "java/lang/IllegalStateException") (names := xe_names) (text := "nothing is there to be closed") (sa := sa 130) hx hb hfl hown (by decide) (by decide) (hts _ (List.mem_cons_of_mem _ qX5_c73)) (hts _ (List.mem_cons_of_mem _ q_ini_java_lang_IllegalStateException)) (hZX.2.1 (130, "nothing is there to be closed") (by decide)) (xe_at2 hts hZX) (hl.1.trans hml.symm) dX5_close_17 dX5_close_20 dX5_close_21 dX5_close_23 dX5_close_26 hno (by decide) (by decide) (by decide) (by decide) hlocks (xe_x hK hP hD (se_xe se_x2 (by rw [F_S_close, if_pos c1, if_neg c2])))
