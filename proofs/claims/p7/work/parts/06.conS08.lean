/-! written by program (wip/gen) -/
set_option maxRecDepth 100000 in
set_option maxHeartbeats 4000000 in
theorem c_S_takeWhenListening (l : Launch) (D : va_G) (k : Nat → ClassId) (h : Nat → Nat) (sz : Nat) (g : se_G)  : Met l yX5_takeWhenListening (se_w_X5_takeWhenListening) ({ frames := 3, cells := 0, slots := 0, locals := 61 }) (va_Pc [.ref (h 0)] (se_Pre D se_cl [(k 2, .byte), (k 4, .int), (k 8, .byte), (k 10, .byte)] (se_WS k h g) se_ZN sz)) (se_Qv D se_cl [(k 2, .byte), (k 4, .int), (k 8, .byte), (k 10, .byte)] (se_WS k h) (F_S_takeWhenListening g) (va_A (se_WS k h g) sz)) 0 0 (va_A (se_WS k h g) sz) := by
  refine se_met (Qc := se_Qv D se_cl [(k 2, .byte), (k 4, .int), (k 8, .byte), (k 10, .byte)] (se_WS k h) (F_S_takeWhenListening g)) (cc := cX5_takeWhenListening) (maxL := 1) (ret := none) (by decide) rfl (Nat.le_of_ble_eq_true rfl) ?_
  intro p e s m below meth c ls A hx hb hr hts hown hlocks hml hA hP hK hD hS hZ hl
  replace hl : lv_has ls 1 [(0, .ref (h 0))] := hl
  have hF : F_S_takeWhenListening g = F_S_takeWhenListening g := rfl
  refine lv_aload_n hx hb dX5_takeWhenListening_0 rfl (lv_at hl 0 rfl) ?_
  refine va_get (D := D) (ci := 5) (v := .ref (h 7)) (C := RX5) (T := TX5) (N := 12) hx hb hts (se_iw iwX5) hown hK hP 0 rfl rfl 6 (by decide) (hts _ (List.mem_cons_of_mem _ qX5_f49)) (fun _ h9 => h9) rfl dX5_takeWhenListening_1 ?_
  refine lv_iconst (v := 4) hx hb dX5_takeWhenListening_4 (by decide) ?_
  refine se_cp (va_runVN (C := RX3) (As := [.int 4]) (rest := []) ⟨hx, hb, hml, hown, hts⟩ (c_S_Segment_has_7 l D k h _ g 4) (se_kVN 1 hts q_code_X3_has (hZ _ nX5_m338 rfl) q_ini_StreamEnd_Segment q_instanceMethod_X3_has q_sel_X3_has (by decide +kernel) ⟨Nat.le_of_ble_eq_true rfl, Nat.le_of_ble_eq_true rfl⟩ rfl rfl) ⟨se_blind se_ZN_ok, va_recv hK hP (ci := 3) (q0 := 7) rfl rfl, se_pre se_ZN_ok hP hK hD hZ⟩ rfl rfl hl.1 rfl (lv_room (Nat.le_of_ble_eq_true rfl)) dX5_takeWhenListening_5 ⟨Nat.zero_le _, Nat.zero_le _⟩) ?_
  refine lv_if_eq (tgt := 12) hx hb dX5_takeWhenListening_8 (by decide) (fun c1 => ?_) (fun c1 => ?_)
  · refine lv_aload_n hx hb dX5_takeWhenListening_12 rfl (lv_at hl 0 rfl) ?_
    refine va_get (D := D) (ci := 5) (v := .ref (h 7)) (C := RX5) (T := TX5) (N := 12) hx hb hts (se_iw iwX5) hown hK hP 0 rfl rfl 6 (by decide) (hts _ (List.mem_cons_of_mem _ qX5_f49)) (fun _ h9 => h9) rfl dX5_takeWhenListening_13 ?_
    refine lv_bipush (v := 8) hx hb dX5_takeWhenListening_16 (by decide) ?_
    refine se_cp (va_runVN (C := RX3) (As := [.int 8]) (rest := []) ⟨hx, hb, hml, hown, hts⟩ (c_S_Segment_has_7 l D k h _ g 8) (se_kVN 1 hts q_code_X3_has (hZ _ nX5_m338 rfl) q_ini_StreamEnd_Segment q_instanceMethod_X3_has q_sel_X3_has (by decide +kernel) ⟨Nat.le_of_ble_eq_true rfl, Nat.le_of_ble_eq_true rfl⟩ rfl rfl) ⟨se_blind se_ZN_ok, va_recv hK hP (ci := 3) (q0 := 7) rfl rfl, se_pre se_ZN_ok hP hK hD hZ⟩ rfl rfl hl.1 rfl (lv_room (Nat.le_of_ble_eq_true rfl)) dX5_takeWhenListening_18 ⟨Nat.zero_le _, Nat.zero_le _⟩) ?_
    refine lv_if_eq (tgt := 31) hx hb dX5_takeWhenListening_21 (by decide) (fun c2 => ?_) (fun c2 => ?_)
    · refine lv_aload_n hx hb dX5_takeWhenListening_31 rfl (lv_at hl 0 rfl) ?_
      refine va_get (D := D) (ci := 5) (v := .ref (h 7)) (C := RX5) (T := TX5) (N := 12) hx hb hts (se_iw iwX5) hown hK hP 0 rfl rfl 6 (by decide) (hts _ (List.mem_cons_of_mem _ qX5_f49)) (fun _ h9 => h9) rfl dX5_takeWhenListening_32 ?_
      refine lv_iconst (v := 1) hx hb dX5_takeWhenListening_35 (by decide) ?_
      refine se_cp (va_runVN (C := RX3) (As := [.int 1]) (rest := []) ⟨hx, hb, hml, hown, hts⟩ (c_S_Segment_has_7 l D k h _ g 1) (se_kVN 1 hts q_code_X3_has (hZ _ nX5_m338 rfl) q_ini_StreamEnd_Segment q_instanceMethod_X3_has q_sel_X3_has (by decide +kernel) ⟨Nat.le_of_ble_eq_true rfl, Nat.le_of_ble_eq_true rfl⟩ rfl rfl) ⟨se_blind se_ZN_ok, va_recv hK hP (ci := 3) (q0 := 7) rfl rfl, se_pre se_ZN_ok hP hK hD hZ⟩ rfl rfl hl.1 rfl (lv_room (Nat.le_of_ble_eq_true rfl)) dX5_takeWhenListening_36 ⟨Nat.zero_le _, Nat.zero_le _⟩) ?_
      refine lv_if_eq (tgt := 55) hx hb dX5_takeWhenListening_39 (by decide) (fun c3 => ?_) (fun c3 => ?_)
      · exact se_rv hx hb hr hlocks hK hP hD hS dX5_takeWhenListening_55 (by rw [F_S_takeWhenListening, if_pos c1, if_pos c2, if_pos c3])
      · refine lv_aload_n hx hb dX5_takeWhenListening_42 rfl (lv_at hl 0 rfl) ?_
        refine se_cvE (va_runV (C := RX5) (As := []) (rest := []) ⟨hx, hb, hml, hown, hts⟩ (c_S_takeOpen l D k h _ g) (se_kV 0 hts q_code_X5_takeOpen qX5_m397 q_ini_StreamEnd q_instanceMethod_X5_takeOpen q_sel_X5_takeOpen (by decide +kernel) ⟨Nat.le_of_ble_eq_true rfl, Nat.le_of_ble_eq_true rfl⟩ rfl rfl) ⟨se_blind se_ZN_ok, va_recv hK hP (ci := 5) (q0 := 0) rfl rfl, se_pre se_ZN_ok hP hK hD hZ⟩ rfl rfl hl.1 rfl (lv_room (Nat.le_of_ble_eq_true rfl)) dX5_takeWhenListening_43 ⟨Nat.zero_le _, Nat.zero_le _⟩) hD hS hA (fun g1 H locs eg1 hP hD hS => ?_)
        refine lv_aload_n hx hb dX5_takeWhenListening_46 rfl (lv_at hl 0 rfl) ?_
        refine lv_iconst (v := 3) hx hb dX5_takeWhenListening_47 (by decide) ?_
        refine va_put (D := D) (ci := 5) (v := .int 3) (ty := .int) (C := RX5) (T := TX5) (N := 12) hx hb hts (se_iw iwX5) tyX5 tyX5_ok nmX5 hown hK hP hD hS 0 rfl rfl 9 (by decide) (hts _ (List.mem_cons_of_mem _ qX5_f60)) (fun _ h9 => h9) rfl (by decide +kernel) rfl rfl (Nat.le_of_ble_eq_true rfl) dX5_takeWhenListening_48 (fun H locs hP hD hS => ?_)
        replace hP : va_P D se_cl (se_WS k h (se_u g1 0 9 3)) H := hP
        replace hD : va_D A (se_WS k h (se_u g1 0 9 3)) := hD
        refine lv_aload_n hx hb dX5_takeWhenListening_51 rfl (lv_at hl 0 rfl) ?_
        refine se_cvE (va_runV (C := RX5) (As := []) (rest := []) ⟨hx, hb, hml, hown, hts⟩ (c_S_openIsDue l D k h _ (se_u g1 0 9 3)) (se_kV 0 hts q_code_X5_openIsDue qX5_m293 q_ini_StreamEnd q_instanceMethod_X5_openIsDue q_sel_X5_openIsDue (by decide +kernel) ⟨Nat.le_of_ble_eq_true rfl, Nat.le_of_ble_eq_true rfl⟩ rfl rfl) ⟨se_blind se_ZN_ok, va_recv hK hP (ci := 5) (q0 := 0) rfl rfl, se_pre se_ZN_ok hP hK hD hZ⟩ rfl rfl hl.1 rfl (lv_room (Nat.le_of_ble_eq_true rfl)) dX5_takeWhenListening_52 ⟨Nat.zero_le _, Nat.zero_le _⟩) hD hS hA (fun g2 H locs eg2 hP hD hS => ?_)
        exact se_rv hx hb hr hlocks hK hP hD hS dX5_takeWhenListening_55 (by subst eg1; subst eg2; rw [F_S_takeWhenListening, if_pos c1, if_pos c2, if_neg c3])
    · refine lv_aload_n hx hb dX5_takeWhenListening_24 rfl (lv_at hl 0 rfl) ?_
      refine se_cvE (va_runV (C := RX5) (As := []) (rest := []) ⟨hx, hb, hml, hown, hts⟩ (c_S_answerWithReset l D k h _ g) (se_kV 0 hts q_code_X5_answerWithReset qX5_m372 q_ini_StreamEnd q_instanceMethod_X5_answerWithReset q_sel_X5_answerWithReset (by decide +kernel) ⟨Nat.le_of_ble_eq_true rfl, Nat.le_of_ble_eq_true rfl⟩ rfl rfl) ⟨se_blind se_ZN_ok, va_recv hK hP (ci := 5) (q0 := 0) rfl rfl, se_pre se_ZN_ok hP hK hD hZ⟩ rfl rfl hl.1 rfl (lv_room (Nat.le_of_ble_eq_true rfl)) dX5_takeWhenListening_25 ⟨Nat.zero_le _, Nat.zero_le _⟩) hD hS hA (fun g3 H locs eg3 hP hD hS => ?_)
      refine lv_goto (tgt := 55) hx hb dX5_takeWhenListening_28 (by decide) ?_
      exact se_rv hx hb hr hlocks hK hP hD hS dX5_takeWhenListening_55 (by subst eg3; rw [F_S_takeWhenListening, if_pos c1, if_neg c2])
  · exact se_rv hx hb hr hlocks hK hP hD hS dX5_takeWhenListening_11 (by rw [F_S_takeWhenListening, if_neg c1])
set_option maxRecDepth 100000 in
set_option maxHeartbeats 4000000 in
theorem c_S_takeSegment (l : Launch) (D : va_G) (k : Nat → ClassId) (h : Nat → Nat) (sz : Nat) (g : se_G)  (hI : (g 7 1).toInt ≤ 1460) : Met l yX5_takeSegment (se_w_X5_takeSegment) ({ frames := 5, cells := 0, slots := 0, locals := 105 }) (va_Pc [.ref (h 0)] (se_Pre D se_cl [(k 2, .byte), (k 4, .int), (k 8, .byte), (k 10, .byte)] (se_WS k h g) se_ZN sz)) (se_Qv D se_cl [(k 2, .byte), (k 4, .int), (k 8, .byte), (k 10, .byte)] (se_WS k h) (F_S_takeSegment g) (va_A (se_WS k h g) sz)) 0 0 (va_A (se_WS k h g) sz) := by
  refine se_met (Qc := se_Qv D se_cl [(k 2, .byte), (k 4, .int), (k 8, .byte), (k 10, .byte)] (se_WS k h) (F_S_takeSegment g)) (cc := cX5_takeSegment) (maxL := 1) (ret := none) (by decide) rfl (Nat.le_of_ble_eq_true rfl) ?_
  intro p e s m below meth c ls A hx hb hr hts hown hlocks hml hA hP hK hD hS hZ hl
  replace hl : lv_has ls 1 [(0, .ref (h 0))] := hl
  have hF : F_S_takeSegment g = F_S_takeSegment g := rfl
  refine lv_aload_n hx hb dX5_takeSegment_0 rfl (lv_at hl 0 rfl) ?_
  refine se_cp (va_runV (C := RX5) (As := []) (rest := []) ⟨hx, hb, hml, hown, hts⟩ (c_S_isEnded l D k h _ g) (se_kV 0 hts q_code_X5_isEnded qX5_m69 q_ini_StreamEnd q_instanceMethod_X5_isEnded q_sel_X5_isEnded (by decide +kernel) ⟨Nat.le_of_ble_eq_true rfl, Nat.le_of_ble_eq_true rfl⟩ rfl rfl) ⟨se_blind se_ZN_ok, va_recv hK hP (ci := 5) (q0 := 0) rfl rfl, se_pre se_ZN_ok hP hK hD hZ⟩ rfl rfl hl.1 rfl (lv_room (Nat.le_of_ble_eq_true rfl)) dX5_takeSegment_1 ⟨Nat.zero_le _, Nat.zero_le _⟩) ?_
  refine lv_if_eq (tgt := 14) hx hb dX5_takeSegment_4 (by decide) (fun c1 => ?_) (fun c1 => ?_)
  · refine lv_aload_n hx hb dX5_takeSegment_14 rfl (lv_at hl 0 rfl) ?_
    refine va_get (D := D) (ci := 5) (v := .int (g 0 9)) (C := RX5) (T := TX5) (N := 12) hx hb hts (se_iw iwX5) hown hK hP 0 rfl rfl 9 (by decide) (hts _ (List.mem_cons_of_mem _ qX5_f60)) (fun _ h9 => h9) rfl dX5_takeSegment_15 ?_
    refine lv_iconst (v := 1) hx hb dX5_takeSegment_18 (by decide) ?_
    refine lv_icmp_ne (tgt := 29) hx hb dX5_takeSegment_19 (by decide) (fun c2 => ?_) (fun c2 => ?_)
    · refine lv_aload_n hx hb dX5_takeSegment_29 rfl (lv_at hl 0 rfl) ?_
      refine va_get (D := D) (ci := 5) (v := .int (g 0 9)) (C := RX5) (T := TX5) (N := 12) hx hb hts (se_iw iwX5) hown hK hP 0 rfl rfl 9 (by decide) (hts _ (List.mem_cons_of_mem _ qX5_f60)) (fun _ h9 => h9) rfl dX5_takeSegment_30 ?_
      refine lv_iconst (v := 2) hx hb dX5_takeSegment_33 (by decide) ?_
      refine lv_icmp_ne (tgt := 44) hx hb dX5_takeSegment_34 (by decide) (fun c3 => ?_) (fun c3 => ?_)
      · refine lv_aload_n hx hb dX5_takeSegment_44 rfl (lv_at hl 0 rfl) ?_
        refine va_get (D := D) (ci := 5) (v := .ref (h 3)) (C := RX5) (T := TX5) (N := 12) hx hb hts (se_iw iwX5) hown hK hP 0 rfl rfl 3 (by decide) (hts _ (List.mem_cons_of_mem _ qX5_f28)) (fun _ h9 => h9) rfl dX5_takeSegment_45 ?_
        refine lv_aload_n hx hb dX5_takeSegment_48 rfl (lv_at hl 0 rfl) ?_
        refine va_get (D := D) (ci := 5) (v := .ref (h 7)) (C := RX5) (T := TX5) (N := 12) hx hb hts (se_iw iwX5) hown hK hP 0 rfl rfl 6 (by decide) (hts _ (List.mem_cons_of_mem _ qX5_f49)) (fun _ h9 => h9) rfl dX5_takeSegment_49 ?_
        refine va_getN (D := D) (ci := 3) (v := .int (g 7 3)) (C := RX3) (T := TX3) (N := 7) hx hb hts (se_iw iwX3) hown hK hP 7 rfl rfl 3 (by decide) (va_Nw.use rfl (hZ _ nX5_f220 rfl)) (fun _ h9 => h9) rfl dX5_takeSegment_52 ?_
        refine lv_aload_n hx hb dX5_takeSegment_55 rfl (lv_at hl 0 rfl) ?_
        refine va_get (D := D) (ci := 5) (v := .ref (h 7)) (C := RX5) (T := TX5) (N := 12) hx hb hts (se_iw iwX5) hown hK hP 0 rfl rfl 6 (by decide) (hts _ (List.mem_cons_of_mem _ qX5_f49)) (fun _ h9 => h9) rfl dX5_takeSegment_56 ?_
        refine se_cp (va_runVN (C := RX3) (As := []) (rest := [.int (g 7 3), .ref (h 3)]) ⟨hx, hb, hml, hown, hts⟩ (c_S_Segment_size_7 l D k h _ g) (se_kVN 0 hts q_code_X3_size (hZ _ nX5_m381 rfl) q_ini_StreamEnd_Segment q_instanceMethod_X3_size q_sel_X3_size (by decide +kernel) ⟨Nat.le_of_ble_eq_true rfl, Nat.le_of_ble_eq_true rfl⟩ rfl rfl) ⟨se_blind se_ZN_ok, va_recv hK hP (ci := 3) (q0 := 7) rfl rfl, se_pre se_ZN_ok hP hK hD hZ⟩ rfl rfl hl.1 rfl (lv_room (Nat.le_of_ble_eq_true rfl)) dX5_takeSegment_59 ⟨Nat.zero_le _, Nat.zero_le _⟩) ?_
        refine se_cp (va_runVN (C := RX1) (As := [.int (g 7 3), .int (F_S_Segment_size_7 g)]) (rest := []) ⟨hx, hb, hml, hown, hts⟩ (c_S_Incoming_fits l D k h _ g (g 7 3) (F_S_Segment_size_7 g)) (se_kVN 2 hts q_code_X1_fits (hZ _ nX5_m384 rfl) q_ini_StreamEnd_Incoming q_instanceMethod_X1_fits q_sel_X1_fits (by decide +kernel) ⟨Nat.le_of_ble_eq_true rfl, Nat.le_of_ble_eq_true rfl⟩ rfl rfl) ⟨se_blind se_ZN_ok, va_recv hK hP (ci := 1) (q0 := 3) rfl rfl, se_pre se_ZN_ok hP hK hD hZ⟩ rfl rfl hl.1 rfl (lv_room (Nat.le_of_ble_eq_true rfl)) dX5_takeSegment_62 ⟨Nat.zero_le _, Nat.zero_le _⟩) ?_
        refine lv_if_ne (tgt := 75) hx hb dX5_takeSegment_65 (by decide) (fun c4 => ?_) (fun c4 => ?_)
        · refine lv_aload_n hx hb dX5_takeSegment_75 rfl (lv_at hl 0 rfl) ?_
          refine va_get (D := D) (ci := 5) (v := .ref (h 7)) (C := RX5) (T := TX5) (N := 12) hx hb hts (se_iw iwX5) hown hK hP 0 rfl rfl 6 (by decide) (hts _ (List.mem_cons_of_mem _ qX5_f49)) (fun _ h9 => h9) rfl dX5_takeSegment_76 ?_
          refine lv_iconst (v := 4) hx hb dX5_takeSegment_79 (by decide) ?_
          refine se_cp (va_runVN (C := RX3) (As := [.int 4]) (rest := []) ⟨hx, hb, hml, hown, hts⟩ (c_S_Segment_has_7 l D k h _ g 4) (se_kVN 1 hts q_code_X3_has (hZ _ nX5_m338 rfl) q_ini_StreamEnd_Segment q_instanceMethod_X3_has q_sel_X3_has (by decide +kernel) ⟨Nat.le_of_ble_eq_true rfl, Nat.le_of_ble_eq_true rfl⟩ rfl rfl) ⟨se_blind se_ZN_ok, va_recv hK hP (ci := 3) (q0 := 7) rfl rfl, se_pre se_ZN_ok hP hK hD hZ⟩ rfl rfl hl.1 rfl (lv_room (Nat.le_of_ble_eq_true rfl)) dX5_takeSegment_80 ⟨Nat.zero_le _, Nat.zero_le _⟩) ?_
          refine lv_if_eq (tgt := 93) hx hb dX5_takeSegment_83 (by decide) (fun c5 => ?_) (fun c5 => ?_)
          · refine lv_aload_n hx hb dX5_takeSegment_93 rfl (lv_at hl 0 rfl) ?_
            refine va_get (D := D) (ci := 5) (v := .ref (h 7)) (C := RX5) (T := TX5) (N := 12) hx hb hts (se_iw iwX5) hown hK hP 0 rfl rfl 6 (by decide) (hts _ (List.mem_cons_of_mem _ qX5_f49)) (fun _ h9 => h9) rfl dX5_takeSegment_94 ?_
            refine lv_iconst (v := 1) hx hb dX5_takeSegment_97 (by decide) ?_
            refine se_cp (va_runVN (C := RX3) (As := [.int 1]) (rest := []) ⟨hx, hb, hml, hown, hts⟩ (c_S_Segment_has_7 l D k h _ g 1) (se_kVN 1 hts q_code_X3_has (hZ _ nX5_m338 rfl) q_ini_StreamEnd_Segment q_instanceMethod_X3_has q_sel_X3_has (by decide +kernel) ⟨Nat.le_of_ble_eq_true rfl, Nat.le_of_ble_eq_true rfl⟩ rfl rfl) ⟨se_blind se_ZN_ok, va_recv hK hP (ci := 3) (q0 := 7) rfl rfl, se_pre se_ZN_ok hP hK hD hZ⟩ rfl rfl hl.1 rfl (lv_room (Nat.le_of_ble_eq_true rfl)) dX5_takeSegment_98 ⟨Nat.zero_le _, Nat.zero_le _⟩) ?_
            refine lv_if_eq (tgt := 115) hx hb dX5_takeSegment_101 (by decide) (fun c6 => ?_) (fun c6 => ?_)
            · refine lv_aload_n hx hb dX5_takeSegment_115 rfl (lv_at hl 0 rfl) ?_
              refine va_get (D := D) (ci := 5) (v := .ref (h 7)) (C := RX5) (T := TX5) (N := 12) hx hb hts (se_iw iwX5) hown hK hP 0 rfl rfl 6 (by decide) (hts _ (List.mem_cons_of_mem _ qX5_f49)) (fun _ h9 => h9) rfl dX5_takeSegment_116 ?_
              refine lv_bipush (v := 8) hx hb dX5_takeSegment_119 (by decide) ?_
              refine se_cp (va_runVN (C := RX3) (As := [.int 8]) (rest := []) ⟨hx, hb, hml, hown, hts⟩ (c_S_Segment_has_7 l D k h _ g 8) (se_kVN 1 hts q_code_X3_has (hZ _ nX5_m338 rfl) q_ini_StreamEnd_Segment q_instanceMethod_X3_has q_sel_X3_has (by decide +kernel) ⟨Nat.le_of_ble_eq_true rfl, Nat.le_of_ble_eq_true rfl⟩ rfl rfl) ⟨se_blind se_ZN_ok, va_recv hK hP (ci := 3) (q0 := 7) rfl rfl, se_pre se_ZN_ok hP hK hD hZ⟩ rfl rfl hl.1 rfl (lv_room (Nat.le_of_ble_eq_true rfl)) dX5_takeSegment_121 ⟨Nat.zero_le _, Nat.zero_le _⟩) ?_
              refine lv_if_eq (tgt := 131) hx hb dX5_takeSegment_124 (by decide) (fun c7 => ?_) (fun c7 => ?_)
              · exact se_rv hx hb hr hlocks hK hP hD hS dX5_takeSegment_131 (by rw [F_S_takeSegment, if_pos c1, if_neg c2, if_neg c3, if_neg c4, if_pos c5, if_pos c6, if_pos c7])
              · refine lv_aload_n hx hb dX5_takeSegment_127 rfl (lv_at hl 0 rfl) ?_
                refine se_cvE (va_runV (C := RX5) (As := []) (rest := []) ⟨hx, hb, hml, hown, hts⟩ (c_S_takeInStream l D k h _ g (by first | exact hI | (simp only [kp_takeThanked, kp_takeWindow, kp_leave]; exact hI))) (se_kV 0 hts q_code_X5_takeInStream qX5_m394 q_ini_StreamEnd q_instanceMethod_X5_takeInStream q_sel_X5_takeInStream (by decide +kernel) ⟨Nat.le_of_ble_eq_true rfl, Nat.le_of_ble_eq_true rfl⟩ rfl rfl) ⟨se_blind se_ZN_ok, va_recv hK hP (ci := 5) (q0 := 0) rfl rfl, se_pre se_ZN_ok hP hK hD hZ⟩ rfl rfl hl.1 rfl (lv_room (Nat.le_of_ble_eq_true rfl)) dX5_takeSegment_128 ⟨Nat.zero_le _, Nat.zero_le _⟩) hD hS hA (fun g1 H locs eg1 hP hD hS => ?_)
                exact se_rv hx hb hr hlocks hK hP hD hS dX5_takeSegment_131 (by subst eg1; rw [F_S_takeSegment, if_pos c1, if_neg c2, if_neg c3, if_neg c4, if_pos c5, if_pos c6, if_neg c7])
            · refine lv_aload_n hx hb dX5_takeSegment_104 rfl (lv_at hl 0 rfl) ?_
              refine va_get (D := D) (ci := 5) (v := .ref (h 6)) (C := RX5) (T := TX5) (N := 12) hx hb hts (se_iw iwX5) hown hK hP 0 rfl rfl 5 (by decide) (hts _ (List.mem_cons_of_mem _ qX5_f42)) (fun _ h9 => h9) rfl dX5_takeSegment_105 ?_
              refine lv_iconst (v := 1) hx hb dX5_takeSegment_108 (by decide) ?_
              refine va_putN (D := D) (ci := 0) (v := .int 1) (ty := .boolean) (C := RX0) (T := TX0) (N := 9) hx hb hts (se_iw iwX0) tyX0 tyX0_ok nmX0 hown hK hP hD hS 6 rfl rfl 8 (by decide) (va_Nw.use rfl (hZ _ nX5_f206 rfl)) (fun _ h9 => h9) rfl (by decide +kernel) rfl rfl (Nat.le_of_ble_eq_true rfl) dX5_takeSegment_109 (fun H locs hP hD hS => ?_)
              replace hP : va_P D se_cl (se_WS k h (se_u g 6 8 1)) H := hP
              replace hD : va_D A (se_WS k h (se_u g 6 8 1)) := hD
              refine lv_goto (tgt := 131) hx hb dX5_takeSegment_112 (by decide) ?_
              exact se_rv hx hb hr hlocks hK hP hD hS dX5_takeSegment_131 (by rw [F_S_takeSegment, if_pos c1, if_neg c2, if_neg c3, if_neg c4, if_pos c5, if_neg c6])
          · refine lv_aload_n hx hb dX5_takeSegment_86 rfl (lv_at hl 0 rfl) ?_
            refine se_cvE (va_runV (C := RX5) (As := []) (rest := []) ⟨hx, hb, hml, hown, hts⟩ (c_S_takeReset l D k h _ g) (se_kV 0 hts q_code_X5_takeReset qX5_m391 q_ini_StreamEnd q_instanceMethod_X5_takeReset q_sel_X5_takeReset (by decide +kernel) ⟨Nat.le_of_ble_eq_true rfl, Nat.le_of_ble_eq_true rfl⟩ rfl rfl) ⟨se_blind se_ZN_ok, va_recv hK hP (ci := 5) (q0 := 0) rfl rfl, se_pre se_ZN_ok hP hK hD hZ⟩ rfl rfl hl.1 rfl (lv_room (Nat.le_of_ble_eq_true rfl)) dX5_takeSegment_87 ⟨Nat.zero_le _, Nat.zero_le _⟩) hD hS hA (fun g2 H locs eg2 hP hD hS => ?_)
            refine lv_goto (tgt := 131) hx hb dX5_takeSegment_90 (by decide) ?_
            exact se_rv hx hb hr hlocks hK hP hD hS dX5_takeSegment_131 (by subst eg2; rw [F_S_takeSegment, if_pos c1, if_neg c2, if_neg c3, if_neg c4, if_neg c5])
        · refine lv_aload_n hx hb dX5_takeSegment_68 rfl (lv_at hl 0 rfl) ?_
          refine se_cvE (va_runV (C := RX5) (As := []) (rest := []) ⟨hx, hb, hml, hown, hts⟩ (c_S_takeMisfit l D k h _ g) (se_kV 0 hts q_code_X5_takeMisfit qX5_m388 q_ini_StreamEnd q_instanceMethod_X5_takeMisfit q_sel_X5_takeMisfit (by decide +kernel) ⟨Nat.le_of_ble_eq_true rfl, Nat.le_of_ble_eq_true rfl⟩ rfl rfl) ⟨se_blind se_ZN_ok, va_recv hK hP (ci := 5) (q0 := 0) rfl rfl, se_pre se_ZN_ok hP hK hD hZ⟩ rfl rfl hl.1 rfl (lv_room (Nat.le_of_ble_eq_true rfl)) dX5_takeSegment_69 ⟨Nat.zero_le _, Nat.zero_le _⟩) hD hS hA (fun g3 H locs eg3 hP hD hS => ?_)
          refine lv_goto (tgt := 131) hx hb dX5_takeSegment_72 (by decide) ?_
          exact se_rv hx hb hr hlocks hK hP hD hS dX5_takeSegment_131 (by subst eg3; rw [F_S_takeSegment, if_pos c1, if_neg c2, if_neg c3, if_pos c4])
      · refine lv_aload_n hx hb dX5_takeSegment_37 rfl (lv_at hl 0 rfl) ?_
        refine se_cvE (va_runV (C := RX5) (As := []) (rest := []) ⟨hx, hb, hml, hown, hts⟩ (c_S_takeWhenAsking l D k h _ g) (se_kV 0 hts q_code_X5_takeWhenAsking qX5_m378 q_ini_StreamEnd q_instanceMethod_X5_takeWhenAsking q_sel_X5_takeWhenAsking (by decide +kernel) ⟨Nat.le_of_ble_eq_true rfl, Nat.le_of_ble_eq_true rfl⟩ rfl rfl) ⟨se_blind se_ZN_ok, va_recv hK hP (ci := 5) (q0 := 0) rfl rfl, se_pre se_ZN_ok hP hK hD hZ⟩ rfl rfl hl.1 rfl (lv_room (Nat.le_of_ble_eq_true rfl)) dX5_takeSegment_38 ⟨Nat.zero_le _, Nat.zero_le _⟩) hD hS hA (fun g4 H locs eg4 hP hD hS => ?_)
        refine lv_goto (tgt := 131) hx hb dX5_takeSegment_41 (by decide) ?_
        exact se_rv hx hb hr hlocks hK hP hD hS dX5_takeSegment_131 (by subst eg4; rw [F_S_takeSegment, if_pos c1, if_neg c2, if_pos c3])
    · refine lv_aload_n hx hb dX5_takeSegment_22 rfl (lv_at hl 0 rfl) ?_
      refine se_cvE (va_runV (C := RX5) (As := []) (rest := []) ⟨hx, hb, hml, hown, hts⟩ (c_S_takeWhenListening l D k h _ g) (se_kV 0 hts q_code_X5_takeWhenListening qX5_m375 q_ini_StreamEnd q_instanceMethod_X5_takeWhenListening q_sel_X5_takeWhenListening (by decide +kernel) ⟨Nat.le_of_ble_eq_true rfl, Nat.le_of_ble_eq_true rfl⟩ rfl rfl) ⟨se_blind se_ZN_ok, va_recv hK hP (ci := 5) (q0 := 0) rfl rfl, se_pre se_ZN_ok hP hK hD hZ⟩ rfl rfl hl.1 rfl (lv_room (Nat.le_of_ble_eq_true rfl)) dX5_takeSegment_23 ⟨Nat.zero_le _, Nat.zero_le _⟩) hD hS hA (fun g5 H locs eg5 hP hD hS => ?_)
      refine lv_goto (tgt := 131) hx hb dX5_takeSegment_26 (by decide) ?_
      exact se_rv hx hb hr hlocks hK hP hD hS dX5_takeSegment_131 (by subst eg5; rw [F_S_takeSegment, if_pos c1, if_pos c2])
  · refine lv_aload_n hx hb dX5_takeSegment_7 rfl (lv_at hl 0 rfl) ?_
    refine se_cvE (va_runV (C := RX5) (As := []) (rest := []) ⟨hx, hb, hml, hown, hts⟩ (c_S_answerWithReset l D k h _ g) (se_kV 0 hts q_code_X5_answerWithReset qX5_m372 q_ini_StreamEnd q_instanceMethod_X5_answerWithReset q_sel_X5_answerWithReset (by decide +kernel) ⟨Nat.le_of_ble_eq_true rfl, Nat.le_of_ble_eq_true rfl⟩ rfl rfl) ⟨se_blind se_ZN_ok, va_recv hK hP (ci := 5) (q0 := 0) rfl rfl, se_pre se_ZN_ok hP hK hD hZ⟩ rfl rfl hl.1 rfl (lv_room (Nat.le_of_ble_eq_true rfl)) dX5_takeSegment_8 ⟨Nat.zero_le _, Nat.zero_le _⟩) hD hS hA (fun g6 H locs eg6 hP hD hS => ?_)
    refine lv_goto (tgt := 131) hx hb dX5_takeSegment_11 (by decide) ?_
    exact se_rv hx hb hr hlocks hK hP hD hS dX5_takeSegment_131 (by subst eg6; rw [F_S_takeSegment, if_neg c1])
set_option maxRecDepth 100000 in
set_option maxHeartbeats 4000000 in
theorem c_S_state (l : Launch) (D : va_G) (k : Nat → ClassId) (h : Nat → Nat) (sz : Nat) (g : se_G)  : Met l yX5_state (se_w_X5_state) ({ frames := 0, cells := 0, slots := 0, locals := 0 }) (va_Pc [.ref (h 0)] (se_Pre D se_cl [(k 2, .byte), (k 4, .int), (k 8, .byte), (k 10, .byte)] (se_WS k h g) se_ZN sz)) (se_Qp (F_S_state g)) 0 0 (fun _ => False) := by
  refine se_metP (cc := cX5_state) (maxL := 1) (ret := (some .int)) (by decide) rfl (Nat.le_of_ble_eq_true rfl) ?_
  intro p e s m below meth c ls A hx hb hr hts hown hlocks hml hA hP hK hD hS hZ hl
  replace hl : lv_has ls 1 [(0, .ref (h 0))] := hl
  have hF : F_S_state g = F_S_state g := rfl
  refine lv_aload_n hx hb dX5_state_0 rfl (lv_at hl 0 rfl) ?_
  refine va_get (D := D) (ci := 5) (v := .int (g 0 9)) (C := RX5) (T := TX5) (N := 12) hx hb hts (se_iw iwX5) hown hK hP 0 rfl rfl 9 (by decide) (hts _ (List.mem_cons_of_mem _ qX5_f60)) (fun _ h9 => h9) rfl dX5_state_1 ?_
  exact se_rp hx hb hr  hlocks dX5_state_4 (by rw [F_S_state])
