/-! written by program (wip/gen) -/
set_option maxRecDepth 100000 in
set_option maxHeartbeats 4000000 in
theorem c_S_answerWithReset (l : Launch) (D : va_G) (k : Nat → ClassId) (h : Nat → Nat) (sz : Nat) (g : se_G)  : Met l yX5_answerWithReset (se_w_X5_answerWithReset) ({ frames := 2, cells := 0, slots := 0, locals := 41 }) (va_Pc [.ref (h 0)] (se_Pre D se_cl [(k 2, .byte), (k 4, .int), (k 8, .byte), (k 10, .byte)] (se_WS k h g) se_ZN sz)) (se_Qv D se_cl [(k 2, .byte), (k 4, .int), (k 8, .byte), (k 10, .byte)] (se_WS k h) (F_S_answerWithReset g) (va_A (se_WS k h g) sz)) 0 0 (va_A (se_WS k h g) sz) := by
  refine se_met (Qc := se_Qv D se_cl [(k 2, .byte), (k 4, .int), (k 8, .byte), (k 10, .byte)] (se_WS k h) (F_S_answerWithReset g)) (cc := cX5_answerWithReset) (maxL := 1) (ret := none) (by decide) rfl (Nat.le_of_ble_eq_true rfl) ?_
  intro p e s m below meth c ls A hx hb hr hts hown hlocks hml hA hP hK hD hS hZ hl
  replace hl : lv_has ls 1 [(0, .ref (h 0))] := hl
  have hF : F_S_answerWithReset g = F_S_answerWithReset g := rfl
  refine lv_aload_n hx hb dX5_answerWithReset_0 rfl (lv_at hl 0 rfl) ?_
  refine va_get (D := D) (ci := 5) (v := .ref (h 7)) (C := RX5) (T := TX5) (N := 12) hx hb hts (se_iw iwX5) hown hK hP 0 rfl rfl 6 (by decide) (hts _ (List.mem_cons_of_mem _ qX5_f49)) (fun _ h9 => h9) rfl dX5_answerWithReset_1 ?_
  refine lv_iconst (v := 4) hx hb dX5_answerWithReset_4 (by decide) ?_
  refine se_cp (va_runVN (C := RX3) (As := [.int 4]) (rest := []) ⟨hx, hb, hml, hown, hts⟩ (c_S_Segment_has_7 l D k h _ g 4) (se_kVN 1 hts q_code_X3_has (hZ _ nX5_m338 rfl) q_ini_StreamEnd_Segment q_instanceMethod_X3_has q_sel_X3_has (by decide +kernel) ⟨Nat.le_of_ble_eq_true rfl, Nat.le_of_ble_eq_true rfl⟩ rfl rfl) ⟨se_blind se_ZN_ok, va_recv hK hP (ci := 3) (q0 := 7) rfl rfl, se_pre se_ZN_ok hP hK hD hZ⟩ rfl rfl hl.1 rfl (lv_room (Nat.le_of_ble_eq_true rfl)) dX5_answerWithReset_5 ⟨Nat.zero_le _, Nat.zero_le _⟩) ?_
  refine lv_if_eq (tgt := 12) hx hb dX5_answerWithReset_8 (by decide) (fun c1 => ?_) (fun c1 => ?_)
  · refine lv_aload_n hx hb dX5_answerWithReset_12 rfl (lv_at hl 0 rfl) ?_
    refine va_get (D := D) (ci := 5) (v := .ref (h 7)) (C := RX5) (T := TX5) (N := 12) hx hb hts (se_iw iwX5) hown hK hP 0 rfl rfl 6 (by decide) (hts _ (List.mem_cons_of_mem _ qX5_f49)) (fun _ h9 => h9) rfl dX5_answerWithReset_13 ?_
    refine lv_bipush (v := 8) hx hb dX5_answerWithReset_16 (by decide) ?_
    refine se_cp (va_runVN (C := RX3) (As := [.int 8]) (rest := []) ⟨hx, hb, hml, hown, hts⟩ (c_S_Segment_has_7 l D k h _ g 8) (se_kVN 1 hts q_code_X3_has (hZ _ nX5_m338 rfl) q_ini_StreamEnd_Segment q_instanceMethod_X3_has q_sel_X3_has (by decide +kernel) ⟨Nat.le_of_ble_eq_true rfl, Nat.le_of_ble_eq_true rfl⟩ rfl rfl) ⟨se_blind se_ZN_ok, va_recv hK hP (ci := 3) (q0 := 7) rfl rfl, se_pre se_ZN_ok hP hK hD hZ⟩ rfl rfl hl.1 rfl (lv_room (Nat.le_of_ble_eq_true rfl)) dX5_answerWithReset_18 ⟨Nat.zero_le _, Nat.zero_le _⟩) ?_
    refine lv_if_eq (tgt := 43) hx hb dX5_answerWithReset_21 (by decide) (fun c2 => ?_) (fun c2 => ?_)
    · refine lv_aload_n hx hb dX5_answerWithReset_43 rfl (lv_at hl 0 rfl) ?_
      refine va_get (D := D) (ci := 5) (v := .ref (h 6)) (C := RX5) (T := TX5) (N := 12) hx hb hts (se_iw iwX5) hown hK hP 0 rfl rfl 5 (by decide) (hts _ (List.mem_cons_of_mem _ qX5_f42)) (fun _ h9 => h9) rfl dX5_answerWithReset_44 ?_
      refine lv_bipush (v := 12) hx hb dX5_answerWithReset_47 (by decide) ?_
      refine lv_iconst (v := 0) hx hb dX5_answerWithReset_49 (by decide) ?_
      refine lv_aload_n hx hb dX5_answerWithReset_50 rfl (lv_at hl 0 rfl) ?_
      refine va_get (D := D) (ci := 5) (v := .ref (h 7)) (C := RX5) (T := TX5) (N := 12) hx hb hts (se_iw iwX5) hown hK hP 0 rfl rfl 6 (by decide) (hts _ (List.mem_cons_of_mem _ qX5_f49)) (fun _ h9 => h9) rfl dX5_answerWithReset_51 ?_
      refine va_getN (D := D) (ci := 3) (v := .int (g 7 3)) (C := RX3) (T := TX3) (N := 7) hx hb hts (se_iw iwX3) hown hK hP 7 rfl rfl 3 (by decide) (va_Nw.use rfl (hZ _ nX5_f220 rfl)) (fun _ h9 => h9) rfl dX5_answerWithReset_54 ?_
      refine lv_aload_n hx hb dX5_answerWithReset_57 rfl (lv_at hl 0 rfl) ?_
      refine va_get (D := D) (ci := 5) (v := .ref (h 7)) (C := RX5) (T := TX5) (N := 12) hx hb hts (se_iw iwX5) hown hK hP 0 rfl rfl 6 (by decide) (hts _ (List.mem_cons_of_mem _ qX5_f49)) (fun _ h9 => h9) rfl dX5_answerWithReset_58 ?_
      refine se_cp (va_runVN (C := RX3) (As := []) (rest := [.int (g 7 3), .int 0, .int 12, .ref (h 6)]) ⟨hx, hb, hml, hown, hts⟩ (c_S_Segment_size_7 l D k h _ g) (se_kVN 0 hts q_code_X3_size (hZ _ nX5_m381 rfl) q_ini_StreamEnd_Segment q_instanceMethod_X3_size q_sel_X3_size (by decide +kernel) ⟨Nat.le_of_ble_eq_true rfl, Nat.le_of_ble_eq_true rfl⟩ rfl rfl) ⟨se_blind se_ZN_ok, va_recv hK hP (ci := 3) (q0 := 7) rfl rfl, se_pre se_ZN_ok hP hK hD hZ⟩ rfl rfl hl.1 rfl (lv_room (Nat.le_of_ble_eq_true rfl)) dX5_answerWithReset_61 ⟨Nat.zero_le _, Nat.zero_le _⟩) ?_
      refine lv_iadd hx hb dX5_answerWithReset_64 ?_
      refine se_cvE (va_runVN (C := RX0) (As := [.int 12, .int 0, .int ((g 7 3) + (F_S_Segment_size_7 g))]) (rest := []) ⟨hx, hb, hml, hown, hts⟩ (c_S_Due_resetIs l D k h _ g 12 0 ((g 7 3) + (F_S_Segment_size_7 g))) (se_kVN 3 hts q_code_X0_resetIs (hZ _ nX5_m143 rfl) q_ini_StreamEnd_Due q_instanceMethod_X0_resetIs q_sel_X0_resetIs (by decide +kernel) ⟨Nat.le_of_ble_eq_true rfl, Nat.le_of_ble_eq_true rfl⟩ rfl rfl) ⟨se_blind se_ZN_ok, va_recv hK hP (ci := 0) (q0 := 6) rfl rfl, se_pre se_ZN_ok hP hK hD hZ⟩ rfl rfl hl.1 rfl (lv_room (Nat.le_of_ble_eq_true rfl)) dX5_answerWithReset_65 ⟨Nat.zero_le _, Nat.zero_le _⟩) hD hS hA (fun g1 H locs eg1 hP hD hS => ?_)
      exact se_rv hx hb hr hlocks hK hP hD hS dX5_answerWithReset_68 (by subst eg1; rw [F_S_answerWithReset, if_pos c1, if_pos c2])
    · refine lv_aload_n hx hb dX5_answerWithReset_24 rfl (lv_at hl 0 rfl) ?_
      refine va_get (D := D) (ci := 5) (v := .ref (h 6)) (C := RX5) (T := TX5) (N := 12) hx hb hts (se_iw iwX5) hown hK hP 0 rfl rfl 5 (by decide) (hts _ (List.mem_cons_of_mem _ qX5_f42)) (fun _ h9 => h9) rfl dX5_answerWithReset_25 ?_
      refine lv_iconst (v := 4) hx hb dX5_answerWithReset_28 (by decide) ?_
      refine lv_aload_n hx hb dX5_answerWithReset_29 rfl (lv_at hl 0 rfl) ?_
      refine va_get (D := D) (ci := 5) (v := .ref (h 7)) (C := RX5) (T := TX5) (N := 12) hx hb hts (se_iw iwX5) hown hK hP 0 rfl rfl 6 (by decide) (hts _ (List.mem_cons_of_mem _ qX5_f49)) (fun _ h9 => h9) rfl dX5_answerWithReset_30 ?_
      refine va_getN (D := D) (ci := 3) (v := .int (g 7 4)) (C := RX3) (T := TX3) (N := 7) hx hb hts (se_iw iwX3) hown hK hP 7 rfl rfl 4 (by decide) (va_Nw.use rfl (hZ _ nX5_f223 rfl)) (fun _ h9 => h9) rfl dX5_answerWithReset_33 ?_
      refine lv_iconst (v := 0) hx hb dX5_answerWithReset_36 (by decide) ?_
      refine se_cvE (va_runVN (C := RX0) (As := [.int 4, .int (g 7 4), .int 0]) (rest := []) ⟨hx, hb, hml, hown, hts⟩ (c_S_Due_resetIs l D k h _ g 4 (g 7 4) 0) (se_kVN 3 hts q_code_X0_resetIs (hZ _ nX5_m143 rfl) q_ini_StreamEnd_Due q_instanceMethod_X0_resetIs q_sel_X0_resetIs (by decide +kernel) ⟨Nat.le_of_ble_eq_true rfl, Nat.le_of_ble_eq_true rfl⟩ rfl rfl) ⟨se_blind se_ZN_ok, va_recv hK hP (ci := 0) (q0 := 6) rfl rfl, se_pre se_ZN_ok hP hK hD hZ⟩ rfl rfl hl.1 rfl (lv_room (Nat.le_of_ble_eq_true rfl)) dX5_answerWithReset_37 ⟨Nat.zero_le _, Nat.zero_le _⟩) hD hS hA (fun g2 H locs eg2 hP hD hS => ?_)
      refine lv_goto (tgt := 68) hx hb dX5_answerWithReset_40 (by decide) ?_
      exact se_rv hx hb hr hlocks hK hP hD hS dX5_answerWithReset_68 (by subst eg2; rw [F_S_answerWithReset, if_pos c1, if_neg c2])
  · exact se_rv hx hb hr hlocks hK hP hD hS dX5_answerWithReset_11 (by rw [F_S_answerWithReset, if_neg c1])
set_option maxRecDepth 100000 in
set_option maxHeartbeats 4000000 in
theorem c_S_takeInStream (l : Launch) (D : va_G) (k : Nat → ClassId) (h : Nat → Nat) (sz : Nat) (g : se_G)  (hI : (g 7 1).toInt ≤ 1460) : Met l yX5_takeInStream (se_w_X5_takeInStream) ({ frames := 4, cells := 0, slots := 0, locals := 84 }) (va_Pc [.ref (h 0)] (se_Pre D se_cl [(k 2, .byte), (k 4, .int), (k 8, .byte), (k 10, .byte)] (se_WS k h g) se_ZN sz)) (se_Qv D se_cl [(k 2, .byte), (k 4, .int), (k 8, .byte), (k 10, .byte)] (se_WS k h) (F_S_takeInStream g) (va_A (se_WS k h g) sz)) 0 0 (va_A (se_WS k h g) sz) := by
  refine se_met (Qc := se_Qv D se_cl [(k 2, .byte), (k 4, .int), (k 8, .byte), (k 10, .byte)] (se_WS k h) (F_S_takeInStream g)) (cc := cX5_takeInStream) (maxL := 1) (ret := none) (by decide) rfl (Nat.le_of_ble_eq_true rfl) ?_
  intro p e s m below meth c ls A hx hb hr hts hown hlocks hml hA hP hK hD hS hZ hl
  replace hl : lv_has ls 1 [(0, .ref (h 0))] := hl
  have J113 : ∀ (gj113 : se_G) (H : Heap) (locs : List Loc) (ls : Array Slot), ((gj113 7 1).toInt ≤ 1460) → F_S_takeInStream_j113 gj113 = F_S_takeInStream g → va_P D se_cl (se_WS k h gj113) H → va_D A (se_WS k h gj113) → va_S A s.heap H locs → lv_has ls 1 [(0, .ref (h 0))] → W p l e ({ frames := 4, cells := 0, slots := 0, locals := 84 }) s m [.ref (h 0)].toArray below meth c H locs 0 0 (MQ below (se_Qv D se_cl [(k 2, .byte), (k 4, .int), (k 8, .byte), (k 10, .byte)] (se_WS k h) (F_S_takeInStream g) A) [.ref (h 0)].toArray s 0 0 A) (F0 m 113 ls []) := by
    intro gj113 H locs ls hI hF hP hD hS hl
    refine lv_aload_n hx hb dX5_takeInStream_113 rfl (lv_at hl 0 rfl) ?_
    refine se_cvE (va_runV (C := RX5) (As := []) (rest := []) ⟨hx, hb, hml, hown, hts⟩ (c_S_takeWindow l D k h _ gj113) (se_kV 0 hts q_code_X5_takeWindow qX5_m411 q_ini_StreamEnd q_instanceMethod_X5_takeWindow q_sel_X5_takeWindow (by decide +kernel) ⟨Nat.le_of_ble_eq_true rfl, Nat.le_of_ble_eq_true rfl⟩ rfl rfl) ⟨se_blind se_ZN_ok, va_recv hK hP (ci := 5) (q0 := 0) rfl rfl, se_pre se_ZN_ok hP hK hD hZ⟩ rfl rfl hl.1 rfl (lv_room (Nat.le_of_ble_eq_true rfl)) dX5_takeInStream_114 ⟨Nat.zero_le _, Nat.zero_le _⟩) hD hS hA (fun g1 H locs eg1 hP hD hS => ?_)
    replace hF : (F_S_takeInStream_k2 (F_S_takeWindow gj113)) = F_S_takeInStream g := by rw [← hF, F_S_takeInStream_j113]
    rw [← eg1] at hF
    replace hF : F_S_takeInStream_k2 g1 = F_S_takeInStream g := hF
    replace hI : (g1 7 1).toInt ≤ 1460 := by rw [eg1]; exact (by first | exact hI | (simp only [kp_takeThanked, kp_takeWindow, kp_leave]; exact hI))
    refine lv_aload_n hx hb dX5_takeInStream_117 rfl (lv_at hl 0 rfl) ?_
    refine va_get (D := D) (ci := 5) (v := .ref (h 1)) (C := RX5) (T := TX5) (N := 12) hx hb hts (se_iw iwX5) hown hK hP 0 rfl rfl 2 (by decide) (hts _ (List.mem_cons_of_mem _ qX5_f21)) (fun _ h9 => h9) rfl dX5_takeInStream_118 ?_
    refine se_cp (va_runVN (C := RX2) (As := []) (rest := []) ⟨hx, hb, hml, hown, hts⟩ (c_S_Outgoing_lastIsThanked l D k h _ g1) (se_kVN 0 hts q_code_X2_lastIsThanked (hZ _ nX5_m414 rfl) q_ini_StreamEnd_Outgoing q_instanceMethod_X2_lastIsThanked q_sel_X2_lastIsThanked (by decide +kernel) ⟨Nat.le_of_ble_eq_true rfl, Nat.le_of_ble_eq_true rfl⟩ rfl rfl) ⟨se_blind se_ZN_ok, va_recv hK hP (ci := 2) (q0 := 1) rfl rfl, se_pre se_ZN_ok hP hK hD hZ⟩ rfl rfl hl.1 rfl (lv_room (Nat.le_of_ble_eq_true rfl)) dX5_takeInStream_121 ⟨Nat.zero_le _, Nat.zero_le _⟩) ?_
    refine lv_if_eq (tgt := 131) hx hb dX5_takeInStream_124 (by decide) (fun c4 => ?_) (fun c4 => ?_)
    · refine lv_aload_n hx hb dX5_takeInStream_131 rfl (lv_at hl 0 rfl) ?_
      refine va_get (D := D) (ci := 5) (v := .int (g1 0 9)) (C := RX5) (T := TX5) (N := 12) hx hb hts (se_iw iwX5) hown hK hP 0 rfl rfl 9 (by decide) (hts _ (List.mem_cons_of_mem _ qX5_f60)) (fun _ h9 => h9) rfl dX5_takeInStream_132 ?_
      refine lv_if_eq (tgt := 142) hx hb dX5_takeInStream_135 (by decide) (fun c5 => ?_) (fun c5 => ?_)
      · exact se_rv hx hb hr hlocks hK hP hD hS dX5_takeInStream_142 (by rw [← hF, F_S_takeInStream_k2, if_pos c4, if_pos c5])
      · refine lv_aload_n hx hb dX5_takeInStream_138 rfl (lv_at hl 0 rfl) ?_
        refine se_cvE (va_runV (C := RX5) (As := []) (rest := []) ⟨hx, hb, hml, hown, hts⟩ (c_S_takeBytes l D k h _ g1 (by first | exact hI | (simp only [kp_takeThanked, kp_takeWindow, kp_leave]; exact hI))) (se_kV 0 hts q_code_X5_takeBytes qX5_m420 q_ini_StreamEnd q_instanceMethod_X5_takeBytes q_sel_X5_takeBytes (by decide +kernel) ⟨Nat.le_of_ble_eq_true rfl, Nat.le_of_ble_eq_true rfl⟩ rfl rfl) ⟨se_blind se_ZN_ok, va_recv hK hP (ci := 5) (q0 := 0) rfl rfl, se_pre se_ZN_ok hP hK hD hZ⟩ rfl rfl hl.1 rfl (lv_room (Nat.le_of_ble_eq_true rfl)) dX5_takeInStream_139 ⟨Nat.zero_le _, Nat.zero_le _⟩) hD hS hA (fun g2 H locs eg2 hP hD hS => ?_)
        exact se_rv hx hb hr hlocks hK hP hD hS dX5_takeInStream_142 (by subst eg2; rw [← hF, F_S_takeInStream_k2, if_pos c4, if_neg c5])
    · refine lv_aload_n hx hb dX5_takeInStream_127 rfl (lv_at hl 0 rfl) ?_
      refine se_cvE (va_runV (C := RX5) (As := []) (rest := []) ⟨hx, hb, hml, hown, hts⟩ (c_S_leave l D k h _ g1) (se_kV 0 hts q_code_X5_leave qX5_m417 q_ini_StreamEnd q_instanceMethod_X5_leave q_sel_X5_leave (by decide +kernel) ⟨Nat.le_of_ble_eq_true rfl, Nat.le_of_ble_eq_true rfl⟩ rfl rfl) ⟨se_blind se_ZN_ok, va_recv hK hP (ci := 5) (q0 := 0) rfl rfl, se_pre se_ZN_ok hP hK hD hZ⟩ rfl rfl hl.1 rfl (lv_room (Nat.le_of_ble_eq_true rfl)) dX5_takeInStream_128 ⟨Nat.zero_le _, Nat.zero_le _⟩) hD hS hA (fun g3 H locs eg3 hP hD hS => ?_)
      replace hF : (F_S_takeInStream_k1 (F_S_leave g1)) = F_S_takeInStream g := by rw [← hF, F_S_takeInStream_k2, if_neg c4]
      rw [← eg3] at hF
      replace hF : F_S_takeInStream_k1 g3 = F_S_takeInStream g := hF
      replace hI : (g3 7 1).toInt ≤ 1460 := by rw [eg3]; exact (by first | exact hI | (simp only [kp_takeThanked, kp_takeWindow, kp_leave]; exact hI))
      refine lv_aload_n hx hb dX5_takeInStream_131 rfl (lv_at hl 0 rfl) ?_
      refine va_get (D := D) (ci := 5) (v := .int (g3 0 9)) (C := RX5) (T := TX5) (N := 12) hx hb hts (se_iw iwX5) hown hK hP 0 rfl rfl 9 (by decide) (hts _ (List.mem_cons_of_mem _ qX5_f60)) (fun _ h9 => h9) rfl dX5_takeInStream_132 ?_
      refine lv_if_eq (tgt := 142) hx hb dX5_takeInStream_135 (by decide) (fun c6 => ?_) (fun c6 => ?_)
      · exact se_rv hx hb hr hlocks hK hP hD hS dX5_takeInStream_142 (by rw [← hF, F_S_takeInStream_k1, if_pos c6])
      · refine lv_aload_n hx hb dX5_takeInStream_138 rfl (lv_at hl 0 rfl) ?_
        refine se_cvE (va_runV (C := RX5) (As := []) (rest := []) ⟨hx, hb, hml, hown, hts⟩ (c_S_takeBytes l D k h _ g3 (by first | exact hI | (simp only [kp_takeThanked, kp_takeWindow, kp_leave]; exact hI))) (se_kV 0 hts q_code_X5_takeBytes qX5_m420 q_ini_StreamEnd q_instanceMethod_X5_takeBytes q_sel_X5_takeBytes (by decide +kernel) ⟨Nat.le_of_ble_eq_true rfl, Nat.le_of_ble_eq_true rfl⟩ rfl rfl) ⟨se_blind se_ZN_ok, va_recv hK hP (ci := 5) (q0 := 0) rfl rfl, se_pre se_ZN_ok hP hK hD hZ⟩ rfl rfl hl.1 rfl (lv_room (Nat.le_of_ble_eq_true rfl)) dX5_takeInStream_139 ⟨Nat.zero_le _, Nat.zero_le _⟩) hD hS hA (fun g4 H locs eg4 hP hD hS => ?_)
        exact se_rv hx hb hr hlocks hK hP hD hS dX5_takeInStream_142 (by subst eg4; rw [← hF, F_S_takeInStream_k1, if_neg c6])
  have J89 : ∀ (gj89 : se_G) (H : Heap) (locs : List Loc) (ls : Array Slot), ((gj89 7 1).toInt ≤ 1460) → F_S_takeInStream_j89 gj89 = F_S_takeInStream g → va_P D se_cl (se_WS k h gj89) H → va_D A (se_WS k h gj89) → va_S A s.heap H locs → lv_has ls 1 [(0, .ref (h 0))] → W p l e ({ frames := 4, cells := 0, slots := 0, locals := 84 }) s m [.ref (h 0)].toArray below meth c H locs 0 0 (MQ below (se_Qv D se_cl [(k 2, .byte), (k 4, .int), (k 8, .byte), (k 10, .byte)] (se_WS k h) (F_S_takeInStream g) A) [.ref (h 0)].toArray s 0 0 A) (F0 m 89 ls []) := by
    intro gj89 H locs ls hI hF hP hD hS hl
    refine lv_aload_n hx hb dX5_takeInStream_89 rfl (lv_at hl 0 rfl) ?_
    refine va_get (D := D) (ci := 5) (v := .ref (h 1)) (C := RX5) (T := TX5) (N := 12) hx hb hts (se_iw iwX5) hown hK hP 0 rfl rfl 2 (by decide) (hts _ (List.mem_cons_of_mem _ qX5_f21)) (fun _ h9 => h9) rfl dX5_takeInStream_90 ?_
    refine va_getN (D := D) (ci := 2) (v := .int (gj89 1 5)) (C := RX2) (T := TX2) (N := 13) hx hb hts (se_iw iwX2) hown hK hP 1 rfl rfl 5 (by decide) (va_Nw.use rfl (hZ _ nX5_f259 rfl)) (fun _ h9 => h9) rfl dX5_takeInStream_93 ?_
    refine lv_aload_n hx hb dX5_takeInStream_96 rfl (lv_at hl 0 rfl) ?_
    refine va_get (D := D) (ci := 5) (v := .ref (h 7)) (C := RX5) (T := TX5) (N := 12) hx hb hts (se_iw iwX5) hown hK hP 0 rfl rfl 6 (by decide) (hts _ (List.mem_cons_of_mem _ qX5_f49)) (fun _ h9 => h9) rfl dX5_takeInStream_97 ?_
    refine va_getN (D := D) (ci := 3) (v := .int (gj89 7 4)) (C := RX3) (T := TX3) (N := 7) hx hb hts (se_iw iwX3) hown hK hP 7 rfl rfl 4 (by decide) (va_Nw.use rfl (hZ _ nX5_f223 rfl)) (fun _ h9 => h9) rfl dX5_takeInStream_100 ?_
    refine se_cp (va_runS (As := [.int (gj89 1 5), .int (gj89 7 4)]) (rest := []) ⟨hx, hb, hml, hown, hts⟩ (c_S_isBefore l D k h _ gj89 (gj89 1 5) (gj89 7 4)) (se_kS 2 hts q_code_X5_isBefore qX5_m408 q_ini_StreamEnd q_static_X5_isBefore (by decide +kernel) ⟨Nat.le_of_ble_eq_true rfl, Nat.le_of_ble_eq_true rfl⟩ rfl rfl) ⟨se_blind se_ZN_ok, se_pre se_ZN_ok hP hK hD hZ⟩ rfl rfl hl.1 rfl (lv_room (Nat.le_of_ble_eq_true rfl)) dX5_takeInStream_103 ⟨Nat.zero_le _, Nat.zero_le _⟩) ?_
    refine lv_if_eq (tgt := 113) hx hb dX5_takeInStream_106 (by decide) (fun c3 => ?_) (fun c3 => ?_)
    · exact J113 gj89 _ _ ls (by first | exact hI | (simp only [kp_takeThanked, kp_takeWindow, kp_leave]; exact hI)) (by rw [← hF, F_S_takeInStream_j89, if_pos c3]) hP hD hS (lv_sub hl [0] rfl)
    · refine lv_aload_n hx hb dX5_takeInStream_109 rfl (lv_at hl 0 rfl) ?_
      refine se_cvE (va_runV (C := RX5) (As := []) (rest := []) ⟨hx, hb, hml, hown, hts⟩ (c_S_takeThanked l D k h _ gj89) (se_kV 0 hts q_code_X5_takeThanked qX5_m400 q_ini_StreamEnd q_instanceMethod_X5_takeThanked q_sel_X5_takeThanked (by decide +kernel) ⟨Nat.le_of_ble_eq_true rfl, Nat.le_of_ble_eq_true rfl⟩ rfl rfl) ⟨se_blind se_ZN_ok, va_recv hK hP (ci := 5) (q0 := 0) rfl rfl, se_pre se_ZN_ok hP hK hD hZ⟩ rfl rfl hl.1 rfl (lv_room (Nat.le_of_ble_eq_true rfl)) dX5_takeInStream_110 ⟨Nat.zero_le _, Nat.zero_le _⟩) hD hS hA (fun g5 H locs eg5 hP hD hS => ?_)
      exact J113 g5 _ _ ls (by subst eg5; exact (by first | exact hI | (simp only [kp_takeThanked, kp_takeWindow, kp_leave]; exact hI))) (by subst eg5; rw [← hF, F_S_takeInStream_j89, if_neg c3]) hP hD hS (lv_sub hl [0] rfl)
  have hF : F_S_takeInStream g = F_S_takeInStream g := rfl
  refine lv_aload_n hx hb dX5_takeInStream_0 rfl (lv_at hl 0 rfl) ?_
  refine va_get (D := D) (ci := 5) (v := .int (g 0 9)) (C := RX5) (T := TX5) (N := 12) hx hb hts (se_iw iwX5) hown hK hP 0 rfl rfl 9 (by decide) (hts _ (List.mem_cons_of_mem _ qX5_f60)) (fun _ h9 => h9) rfl dX5_takeInStream_1 ?_
  refine lv_iconst (v := 3) hx hb dX5_takeInStream_4 (by decide) ?_
  refine lv_icmp_ne (tgt := 60) hx hb dX5_takeInStream_5 (by decide) (fun c1 => ?_) (fun c1 => ?_)
  · refine lv_aload_n hx hb dX5_takeInStream_60 rfl (lv_at hl 0 rfl) ?_
    refine va_get (D := D) (ci := 5) (v := .ref (h 1)) (C := RX5) (T := TX5) (N := 12) hx hb hts (se_iw iwX5) hown hK hP 0 rfl rfl 2 (by decide) (hts _ (List.mem_cons_of_mem _ qX5_f21)) (fun _ h9 => h9) rfl dX5_takeInStream_61 ?_
    refine va_getN (D := D) (ci := 2) (v := .int (g 1 6)) (C := RX2) (T := TX2) (N := 13) hx hb hts (se_iw iwX2) hown hK hP 1 rfl rfl 6 (by decide) (va_Nw.use rfl (hZ _ nX5_f137 rfl)) (fun _ h9 => h9) rfl dX5_takeInStream_64 ?_
    refine lv_aload_n hx hb dX5_takeInStream_67 rfl (lv_at hl 0 rfl) ?_
    refine va_get (D := D) (ci := 5) (v := .ref (h 7)) (C := RX5) (T := TX5) (N := 12) hx hb hts (se_iw iwX5) hown hK hP 0 rfl rfl 6 (by decide) (hts _ (List.mem_cons_of_mem _ qX5_f49)) (fun _ h9 => h9) rfl dX5_takeInStream_68 ?_
    refine va_getN (D := D) (ci := 3) (v := .int (g 7 4)) (C := RX3) (T := TX3) (N := 7) hx hb hts (se_iw iwX3) hown hK hP 7 rfl rfl 4 (by decide) (va_Nw.use rfl (hZ _ nX5_f223 rfl)) (fun _ h9 => h9) rfl dX5_takeInStream_71 ?_
    refine se_cp (va_runS (As := [.int (g 1 6), .int (g 7 4)]) (rest := []) ⟨hx, hb, hml, hown, hts⟩ (c_S_isBefore l D k h _ g (g 1 6) (g 7 4)) (se_kS 2 hts q_code_X5_isBefore qX5_m408 q_ini_StreamEnd q_static_X5_isBefore (by decide +kernel) ⟨Nat.le_of_ble_eq_true rfl, Nat.le_of_ble_eq_true rfl⟩ rfl rfl) ⟨se_blind se_ZN_ok, se_pre se_ZN_ok hP hK hD hZ⟩ rfl rfl hl.1 rfl (lv_room (Nat.le_of_ble_eq_true rfl)) dX5_takeInStream_74 ⟨Nat.zero_le _, Nat.zero_le _⟩) ?_
    refine lv_if_eq (tgt := 89) hx hb dX5_takeInStream_77 (by decide) (fun c2 => ?_) (fun c2 => ?_)
    · exact J89 g _ _ ls (by first | exact hI | (simp only [kp_takeThanked, kp_takeWindow, kp_leave]; exact hI)) (by rw [F_S_takeInStream, if_neg c1, if_pos c2]) hP hD hS (lv_sub hl [0] rfl)
    · refine lv_aload_n hx hb dX5_takeInStream_80 rfl (lv_at hl 0 rfl) ?_
      refine va_get (D := D) (ci := 5) (v := .ref (h 6)) (C := RX5) (T := TX5) (N := 12) hx hb hts (se_iw iwX5) hown hK hP 0 rfl rfl 5 (by decide) (hts _ (List.mem_cons_of_mem _ qX5_f42)) (fun _ h9 => h9) rfl dX5_takeInStream_81 ?_
      refine lv_iconst (v := 1) hx hb dX5_takeInStream_84 (by decide) ?_
      refine va_putN (D := D) (ci := 0) (v := .int 1) (ty := .boolean) (C := RX0) (T := TX0) (N := 9) hx hb hts (se_iw iwX0) tyX0 tyX0_ok nmX0 hown hK hP hD hS 6 rfl rfl 8 (by decide) (va_Nw.use rfl (hZ _ nX5_f206 rfl)) (fun _ h9 => h9) rfl (by decide +kernel) rfl rfl (Nat.le_of_ble_eq_true rfl) dX5_takeInStream_85 (fun H locs hP hD hS => ?_)
      replace hP : va_P D se_cl (se_WS k h (se_u g 6 8 1)) H := hP
      replace hD : va_D A (se_WS k h (se_u g 6 8 1)) := hD
      exact se_rv hx hb hr hlocks hK hP hD hS dX5_takeInStream_88 (by rw [F_S_takeInStream, if_neg c1, if_neg c2])
  · refine lv_aload_n hx hb dX5_takeInStream_8 rfl (lv_at hl 0 rfl) ?_
    refine va_get (D := D) (ci := 5) (v := .ref (h 7)) (C := RX5) (T := TX5) (N := 12) hx hb hts (se_iw iwX5) hown hK hP 0 rfl rfl 6 (by decide) (hts _ (List.mem_cons_of_mem _ qX5_f49)) (fun _ h9 => h9) rfl dX5_takeInStream_9 ?_
    refine va_getN (D := D) (ci := 3) (v := .int (g 7 4)) (C := RX3) (T := TX3) (N := 7) hx hb hts (se_iw iwX3) hown hK hP 7 rfl rfl 4 (by decide) (va_Nw.use rfl (hZ _ nX5_f223 rfl)) (fun _ h9 => h9) rfl dX5_takeInStream_12 ?_
    refine lv_aload_n hx hb dX5_takeInStream_15 rfl (lv_at hl 0 rfl) ?_
    refine va_get (D := D) (ci := 5) (v := .ref (h 1)) (C := RX5) (T := TX5) (N := 12) hx hb hts (se_iw iwX5) hown hK hP 0 rfl rfl 2 (by decide) (hts _ (List.mem_cons_of_mem _ qX5_f21)) (fun _ h9 => h9) rfl dX5_takeInStream_16 ?_
    refine va_getN (D := D) (ci := 2) (v := .int (g 1 6)) (C := RX2) (T := TX2) (N := 13) hx hb hts (se_iw iwX2) hown hK hP 1 rfl rfl 6 (by decide) (va_Nw.use rfl (hZ _ nX5_f137 rfl)) (fun _ h9 => h9) rfl dX5_takeInStream_19 ?_
    refine lv_icmp_eq (tgt := 30) hx hb dX5_takeInStream_22 (by decide) (fun c7 => ?_) (fun c7 => ?_)
    · refine lv_aload_n hx hb dX5_takeInStream_30 rfl (lv_at hl 0 rfl) ?_
      refine lv_aload_n hx hb dX5_takeInStream_31 rfl (lv_at hl 0 rfl) ?_
      refine va_get (D := D) (ci := 5) (v := .ref (h 1)) (C := RX5) (T := TX5) (N := 12) hx hb hts (se_iw iwX5) hown hK hP 0 rfl rfl 2 (by decide) (hts _ (List.mem_cons_of_mem _ qX5_f21)) (fun _ h9 => h9) rfl dX5_takeInStream_32 ?_
      refine va_getN (D := D) (ci := 2) (v := .int (g 1 7)) (C := RX2) (T := TX2) (N := 13) hx hb hts (se_iw iwX2) hown hK hP 1 rfl rfl 7 (by decide) (va_Nw.use rfl (hZ _ nX5_f93 rfl)) (fun _ h9 => h9) rfl dX5_takeInStream_35 ?_
      refine se_join (v := ((if (g 1 7) = 0 then 4 else 5) : Int32)) (pcJ := 46) (restJ := [.ref (h 0)]) (ls := ls) (fun T => ?_) ?_
      · refine lv_if_eq (tgt := 45) hx hb dX5_takeInStream_38 (by decide) (fun c9 => ?_) (fun c9 => ?_)
        · refine lv_iconst (v := 4) hx hb dX5_takeInStream_45 (by decide) ?_
          exact T _ (by rw [if_pos c9])
        · refine lv_iconst (v := 5) hx hb dX5_takeInStream_41 (by decide) ?_
          refine lv_goto (tgt := 46) hx hb dX5_takeInStream_42 (by decide) ?_
          exact T _ (by rw [if_neg c9])
      refine va_put (D := D) (ci := 5) (v := .int ((if (g 1 7) = 0 then 4 else 5) : Int32)) (ty := .int) (C := RX5) (T := TX5) (N := 12) hx hb hts (se_iw iwX5) tyX5 tyX5_ok nmX5 hown hK hP hD hS 0 rfl rfl 9 (by decide) (hts _ (List.mem_cons_of_mem _ qX5_f60)) (fun _ h9 => h9) rfl (by decide +kernel) rfl rfl (Nat.le_of_ble_eq_true rfl) dX5_takeInStream_46 (fun H locs hP hD hS => ?_)
      replace hP : va_P D se_cl (se_WS k h (se_u g 0 9 ((if (g 1 7) = 0 then 4 else 5) : Int32))) H := hP
      replace hD : va_D A (se_WS k h (se_u g 0 9 ((if (g 1 7) = 0 then 4 else 5) : Int32))) := hD
      refine lv_aload_n hx hb dX5_takeInStream_49 rfl (lv_at hl 0 rfl) ?_
      refine va_get (D := D) (ci := 5) (v := .ref (h 6)) (C := RX5) (T := TX5) (N := 12) hx hb hts (se_iw iwX5) hown hK hP 0 rfl rfl 5 (by decide) (hts _ (List.mem_cons_of_mem _ qX5_f42)) (fun _ h9 => h9) rfl dX5_takeInStream_50 ?_
      refine lv_iconst (v := 0) hx hb dX5_takeInStream_53 (by decide) ?_
      refine va_putN (D := D) (ci := 0) (v := .int 0) (ty := .boolean) (C := RX0) (T := TX0) (N := 9) hx hb hts (se_iw iwX0) tyX0 tyX0_ok nmX0 hown hK hP hD hS 6 rfl rfl 4 (by decide) (va_Nw.use rfl (hZ _ nX5_f173 rfl)) (fun _ h9 => h9) rfl (by decide +kernel) rfl rfl (Nat.le_of_ble_eq_true rfl) dX5_takeInStream_54 (fun H locs hP hD hS => ?_)
      replace hP : va_P D se_cl (se_WS k h (se_u (se_u g 0 9 ((if (g 1 7) = 0 then 4 else 5) : Int32)) 6 4 0)) H := hP
      replace hD : va_D A (se_WS k h (se_u (se_u g 0 9 ((if (g 1 7) = 0 then 4 else 5) : Int32)) 6 4 0)) := hD
      refine lv_goto (tgt := 89) hx hb dX5_takeInStream_57 (by decide) ?_
      exact J89 (se_u (se_u g 0 9 ((if (g 1 7) = 0 then 4 else 5) : Int32)) 6 4 0) _ _ ls (by first | exact hI | (simp only [kp_takeThanked, kp_takeWindow, kp_leave]; exact hI)) (by rw [F_S_takeInStream, if_pos c1, if_pos c7]) hP hD hS (lv_sub hl [0] rfl)
    · refine lv_aload_n hx hb dX5_takeInStream_25 rfl (lv_at hl 0 rfl) ?_
      refine se_cvE (va_runV (C := RX5) (As := []) (rest := []) ⟨hx, hb, hml, hown, hts⟩ (c_S_answerWithReset l D k h _ g) (se_kV 0 hts q_code_X5_answerWithReset qX5_m372 q_ini_StreamEnd q_instanceMethod_X5_answerWithReset q_sel_X5_answerWithReset (by decide +kernel) ⟨Nat.le_of_ble_eq_true rfl, Nat.le_of_ble_eq_true rfl⟩ rfl rfl) ⟨se_blind se_ZN_ok, va_recv hK hP (ci := 5) (q0 := 0) rfl rfl, se_pre se_ZN_ok hP hK hD hZ⟩ rfl rfl hl.1 rfl (lv_room (Nat.le_of_ble_eq_true rfl)) dX5_takeInStream_26 ⟨Nat.zero_le _, Nat.zero_le _⟩) hD hS hA (fun g6 H locs eg6 hP hD hS => ?_)
      exact se_rv hx hb hr hlocks hK hP hD hS dX5_takeInStream_29 (by subst eg6; rw [F_S_takeInStream, if_pos c1, if_neg c7])
set_option maxRecDepth 100000 in
set_option maxHeartbeats 4000000 in
theorem c_S_takeReset (l : Launch) (D : va_G) (k : Nat → ClassId) (h : Nat → Nat) (sz : Nat) (g : se_G)  : Met l yX5_takeReset (se_w_X5_takeReset) ({ frames := 3, cells := 0, slots := 0, locals := 67 }) (va_Pc [.ref (h 0)] (se_Pre D se_cl [(k 2, .byte), (k 4, .int), (k 8, .byte), (k 10, .byte)] (se_WS k h g) se_ZN sz)) (se_Qv D se_cl [(k 2, .byte), (k 4, .int), (k 8, .byte), (k 10, .byte)] (se_WS k h) (F_S_takeReset g) (va_A (se_WS k h g) sz)) 0 0 (va_A (se_WS k h g) sz) := by
  refine se_met (Qc := se_Qv D se_cl [(k 2, .byte), (k 4, .int), (k 8, .byte), (k 10, .byte)] (se_WS k h) (F_S_takeReset g)) (cc := cX5_takeReset) (maxL := 1) (ret := none) (by decide) rfl (Nat.le_of_ble_eq_true rfl) ?_
  intro p e s m below meth c ls A hx hb hr hts hown hlocks hml hA hP hK hD hS hZ hl
  replace hl : lv_has ls 1 [(0, .ref (h 0))] := hl
  have J58 : ∀ (gj58 : se_G) (H : Heap) (locs : List Loc) (ls : Array Slot), F_S_takeReset_j58 gj58 = F_S_takeReset g → va_P D se_cl (se_WS k h gj58) H → va_D A (se_WS k h gj58) → va_S A s.heap H locs → lv_has ls 1 [(0, .ref (h 0))] → W p l e ({ frames := 3, cells := 0, slots := 0, locals := 67 }) s m [.ref (h 0)].toArray below meth c H locs 0 0 (MQ below (se_Qv D se_cl [(k 2, .byte), (k 4, .int), (k 8, .byte), (k 10, .byte)] (se_WS k h) (F_S_takeReset g) A) [.ref (h 0)].toArray s 0 0 A) (F0 m 58 ls []) := by
    intro gj58 H locs ls hF hP hD hS hl
    refine lv_aload_n hx hb dX5_takeReset_58 rfl (lv_at hl 0 rfl) ?_
    refine va_get (D := D) (ci := 5) (v := .int (gj58 0 9)) (C := RX5) (T := TX5) (N := 12) hx hb hts (se_iw iwX5) hown hK hP 0 rfl rfl 9 (by decide) (hts _ (List.mem_cons_of_mem _ qX5_f60)) (fun _ h9 => h9) rfl dX5_takeReset_59 ?_
    refine lv_bipush (v := 8) hx hb dX5_takeReset_62 (by decide) ?_
    refine lv_icmp_eq (tgt := 85) hx hb dX5_takeReset_64 (by decide) (fun c3 => ?_) (fun c3 => ?_)
    · refine lv_aload_n hx hb dX5_takeReset_85 rfl (lv_at hl 0 rfl) ?_
      refine lv_iconst (v := 0) hx hb dX5_takeReset_86 (by decide) ?_
      refine se_cvE (va_runV (C := RX5) (As := [.int 0]) (rest := []) ⟨hx, hb, hml, hown, hts⟩ (c_S_halt l D k h _ gj58 0) (se_kV 1 hts q_code_X5_halt qX5_m132 q_ini_StreamEnd q_instanceMethod_X5_halt q_sel_X5_halt (by decide +kernel) ⟨Nat.le_of_ble_eq_true rfl, Nat.le_of_ble_eq_true rfl⟩ rfl rfl) ⟨se_blind se_ZN_ok, va_recv hK hP (ci := 5) (q0 := 0) rfl rfl, se_pre se_ZN_ok hP hK hD hZ⟩ rfl rfl hl.1 rfl (lv_room (Nat.le_of_ble_eq_true rfl)) dX5_takeReset_87 ⟨Nat.zero_le _, Nat.zero_le _⟩) hD hS hA (fun g1 H locs eg1 hP hD hS => ?_)
      refine lv_goto (tgt := 99) hx hb dX5_takeReset_90 (by decide) ?_
      exact se_rv hx hb hr hlocks hK hP hD hS dX5_takeReset_99 (by subst eg1; rw [← hF, F_S_takeReset_j58, if_pos c3])
    · refine lv_aload_n hx hb dX5_takeReset_67 rfl (lv_at hl 0 rfl) ?_
      refine va_get (D := D) (ci := 5) (v := .int (gj58 0 9)) (C := RX5) (T := TX5) (N := 12) hx hb hts (se_iw iwX5) hown hK hP 0 rfl rfl 9 (by decide) (hts _ (List.mem_cons_of_mem _ qX5_f60)) (fun _ h9 => h9) rfl dX5_takeReset_68 ?_
      refine lv_bipush (v := 9) hx hb dX5_takeReset_71 (by decide) ?_
      refine lv_icmp_eq (tgt := 85) hx hb dX5_takeReset_73 (by decide) (fun c4 => ?_) (fun c4 => ?_)
      · refine lv_aload_n hx hb dX5_takeReset_85 rfl (lv_at hl 0 rfl) ?_
        refine lv_iconst (v := 0) hx hb dX5_takeReset_86 (by decide) ?_
        refine se_cvE (va_runV (C := RX5) (As := [.int 0]) (rest := []) ⟨hx, hb, hml, hown, hts⟩ (c_S_halt l D k h _ gj58 0) (se_kV 1 hts q_code_X5_halt qX5_m132 q_ini_StreamEnd q_instanceMethod_X5_halt q_sel_X5_halt (by decide +kernel) ⟨Nat.le_of_ble_eq_true rfl, Nat.le_of_ble_eq_true rfl⟩ rfl rfl) ⟨se_blind se_ZN_ok, va_recv hK hP (ci := 5) (q0 := 0) rfl rfl, se_pre se_ZN_ok hP hK hD hZ⟩ rfl rfl hl.1 rfl (lv_room (Nat.le_of_ble_eq_true rfl)) dX5_takeReset_87 ⟨Nat.zero_le _, Nat.zero_le _⟩) hD hS hA (fun g2 H locs eg2 hP hD hS => ?_)
        refine lv_goto (tgt := 99) hx hb dX5_takeReset_90 (by decide) ?_
        exact se_rv hx hb hr hlocks hK hP hD hS dX5_takeReset_99 (by subst eg2; rw [← hF, F_S_takeReset_j58, if_neg c3, if_pos c4])
      · refine lv_aload_n hx hb dX5_takeReset_76 rfl (lv_at hl 0 rfl) ?_
        refine va_get (D := D) (ci := 5) (v := .int (gj58 0 9)) (C := RX5) (T := TX5) (N := 12) hx hb hts (se_iw iwX5) hown hK hP 0 rfl rfl 9 (by decide) (hts _ (List.mem_cons_of_mem _ qX5_f60)) (fun _ h9 => h9) rfl dX5_takeReset_77 ?_
        refine lv_bipush (v := 10) hx hb dX5_takeReset_80 (by decide) ?_
        refine lv_icmp_ne (tgt := 93) hx hb dX5_takeReset_82 (by decide) (fun c5 => ?_) (fun c5 => ?_)
        · refine lv_aload_n hx hb dX5_takeReset_93 rfl (lv_at hl 0 rfl) ?_
          refine lv_bipush (v := 11) hx hb dX5_takeReset_94 (by decide) ?_
          refine se_cvE (va_runV (C := RX5) (As := [.int 11]) (rest := []) ⟨hx, hb, hml, hown, hts⟩ (c_S_halt l D k h _ gj58 11) (se_kV 1 hts q_code_X5_halt qX5_m132 q_ini_StreamEnd q_instanceMethod_X5_halt q_sel_X5_halt (by decide +kernel) ⟨Nat.le_of_ble_eq_true rfl, Nat.le_of_ble_eq_true rfl⟩ rfl rfl) ⟨se_blind se_ZN_ok, va_recv hK hP (ci := 5) (q0 := 0) rfl rfl, se_pre se_ZN_ok hP hK hD hZ⟩ rfl rfl hl.1 rfl (lv_room (Nat.le_of_ble_eq_true rfl)) dX5_takeReset_96 ⟨Nat.zero_le _, Nat.zero_le _⟩) hD hS hA (fun g3 H locs eg3 hP hD hS => ?_)
          exact se_rv hx hb hr hlocks hK hP hD hS dX5_takeReset_99 (by subst eg3; rw [← hF, F_S_takeReset_j58, if_neg c3, if_neg c4, if_neg c5])
        · refine lv_aload_n hx hb dX5_takeReset_85 rfl (lv_at hl 0 rfl) ?_
          refine lv_iconst (v := 0) hx hb dX5_takeReset_86 (by decide) ?_
          refine se_cvE (va_runV (C := RX5) (As := [.int 0]) (rest := []) ⟨hx, hb, hml, hown, hts⟩ (c_S_halt l D k h _ gj58 0) (se_kV 1 hts q_code_X5_halt qX5_m132 q_ini_StreamEnd q_instanceMethod_X5_halt q_sel_X5_halt (by decide +kernel) ⟨Nat.le_of_ble_eq_true rfl, Nat.le_of_ble_eq_true rfl⟩ rfl rfl) ⟨se_blind se_ZN_ok, va_recv hK hP (ci := 5) (q0 := 0) rfl rfl, se_pre se_ZN_ok hP hK hD hZ⟩ rfl rfl hl.1 rfl (lv_room (Nat.le_of_ble_eq_true rfl)) dX5_takeReset_87 ⟨Nat.zero_le _, Nat.zero_le _⟩) hD hS hA (fun g4 H locs eg4 hP hD hS => ?_)
          refine lv_goto (tgt := 99) hx hb dX5_takeReset_90 (by decide) ?_
          exact se_rv hx hb hr hlocks hK hP hD hS dX5_takeReset_99 (by subst eg4; rw [← hF, F_S_takeReset_j58, if_neg c3, if_neg c4, if_pos c5])
  have hF : F_S_takeReset g = F_S_takeReset g := rfl
  refine lv_aload_n hx hb dX5_takeReset_0 rfl (lv_at hl 0 rfl) ?_
  refine va_get (D := D) (ci := 5) (v := .ref (h 7)) (C := RX5) (T := TX5) (N := 12) hx hb hts (se_iw iwX5) hown hK hP 0 rfl rfl 6 (by decide) (hts _ (List.mem_cons_of_mem _ qX5_f49)) (fun _ h9 => h9) rfl dX5_takeReset_1 ?_
  refine va_getN (D := D) (ci := 3) (v := .int (g 7 3)) (C := RX3) (T := TX3) (N := 7) hx hb hts (se_iw iwX3) hown hK hP 7 rfl rfl 3 (by decide) (va_Nw.use rfl (hZ _ nX5_f220 rfl)) (fun _ h9 => h9) rfl dX5_takeReset_4 ?_
  refine lv_aload_n hx hb dX5_takeReset_7 rfl (lv_at hl 0 rfl) ?_
  refine va_get (D := D) (ci := 5) (v := .ref (h 3)) (C := RX5) (T := TX5) (N := 12) hx hb hts (se_iw iwX5) hown hK hP 0 rfl rfl 3 (by decide) (hts _ (List.mem_cons_of_mem _ qX5_f28)) (fun _ h9 => h9) rfl dX5_takeReset_8 ?_
  refine va_getN (D := D) (ci := 1) (v := .int (g 3 2)) (C := RX1) (T := TX1) (N := 8) hx hb hts (se_iw iwX1) hown hK hP 3 rfl rfl 2 (by decide) (va_Nw.use rfl (hZ _ nX5_f140 rfl)) (fun _ h9 => h9) rfl dX5_takeReset_11 ?_
  refine lv_icmp_eq (tgt := 28) hx hb dX5_takeReset_14 (by decide) (fun c1 => ?_) (fun c1 => ?_)
  · refine lv_aload_n hx hb dX5_takeReset_28 rfl (lv_at hl 0 rfl) ?_
    refine va_get (D := D) (ci := 5) (v := .int (g 0 9)) (C := RX5) (T := TX5) (N := 12) hx hb hts (se_iw iwX5) hown hK hP 0 rfl rfl 9 (by decide) (hts _ (List.mem_cons_of_mem _ qX5_f60)) (fun _ h9 => h9) rfl dX5_takeReset_29 ?_
    refine lv_iconst (v := 3) hx hb dX5_takeReset_32 (by decide) ?_
    refine lv_icmp_ne (tgt := 58) hx hb dX5_takeReset_33 (by decide) (fun c2 => ?_) (fun c2 => ?_)
    · exact J58 g _ _ ls (by rw [F_S_takeReset, if_pos c1, if_neg c2]) hP hD hS (lv_sub hl [0] rfl)
    · refine lv_aload_n hx hb dX5_takeReset_36 rfl (lv_at hl 0 rfl) ?_
      refine va_get (D := D) (ci := 5) (v := .int (g 0 10)) (C := RX5) (T := TX5) (N := 12) hx hb hts (se_iw iwX5) hown hK hP 0 rfl rfl 10 (by decide) (hts _ (List.mem_cons_of_mem _ qX5_f63)) (fun _ h9 => h9) rfl dX5_takeReset_37 ?_
      refine lv_if_eq (tgt := 58) hx hb dX5_takeReset_40 (by decide) (fun c6 => ?_) (fun c6 => ?_)
      · exact J58 g _ _ ls (by rw [F_S_takeReset, if_pos c1, if_pos c2, if_pos c6]) hP hD hS (lv_sub hl [0] rfl)
      · refine lv_aload_n hx hb dX5_takeReset_43 rfl (lv_at hl 0 rfl) ?_
        refine lv_aload_n hx hb dX5_takeReset_44 rfl (lv_at hl 0 rfl) ?_
        refine va_get (D := D) (ci := 5) (v := .ref (h 1)) (C := RX5) (T := TX5) (N := 12) hx hb hts (se_iw iwX5) hown hK hP 0 rfl rfl 2 (by decide) (hts _ (List.mem_cons_of_mem _ qX5_f21)) (fun _ h9 => h9) rfl dX5_takeReset_45 ?_
        refine va_getN (D := D) (ci := 2) (v := .int (g 1 4)) (C := RX2) (T := TX2) (N := 13) hx hb hts (se_iw iwX2) hown hK hP 1 rfl rfl 4 (by decide) (va_Nw.use rfl (hZ _ nX5_f296 rfl)) (fun _ h9 => h9) rfl dX5_takeReset_48 ?_
        refine lv_iconst (v := 1) hx hb dX5_takeReset_51 (by decide) ?_
        refine se_cvE (va_runV (C := RX5) (As := [.int (g 1 4), .int 1]) (rest := []) ⟨hx, hb, hml, hown, hts⟩ (c_S_startStream l D k h _ g (g 1 4) 1 (Or.inr rfl)) (se_kV 2 hts q_code_X5_startStream qX5_m80 q_ini_StreamEnd q_instanceMethod_X5_startStream q_sel_X5_startStream (by decide +kernel) ⟨Nat.le_of_ble_eq_true rfl, Nat.le_of_ble_eq_true rfl⟩ rfl rfl) ⟨se_blind se_ZN_ok, va_recv hK hP (ci := 5) (q0 := 0) rfl rfl, se_pre se_ZN_ok hP hK hD hZ⟩ rfl rfl hl.1 rfl (lv_room (Nat.le_of_ble_eq_true rfl)) dX5_takeReset_52 ⟨Nat.zero_le _, Nat.zero_le _⟩) hD hS hA (fun g5 H locs eg5 hP hD hS => ?_)
        refine lv_goto (tgt := 99) hx hb dX5_takeReset_55 (by decide) ?_
        exact se_rv hx hb hr hlocks hK hP hD hS dX5_takeReset_99 (by subst eg5; rw [F_S_takeReset, if_pos c1, if_pos c2, if_neg c6])
  · refine lv_aload_n hx hb dX5_takeReset_17 rfl (lv_at hl 0 rfl) ?_
    refine va_get (D := D) (ci := 5) (v := .ref (h 6)) (C := RX5) (T := TX5) (N := 12) hx hb hts (se_iw iwX5) hown hK hP 0 rfl rfl 5 (by decide) (hts _ (List.mem_cons_of_mem _ qX5_f42)) (fun _ h9 => h9) rfl dX5_takeReset_18 ?_
    refine lv_iconst (v := 1) hx hb dX5_takeReset_21 (by decide) ?_
    refine va_putN (D := D) (ci := 0) (v := .int 1) (ty := .boolean) (C := RX0) (T := TX0) (N := 9) hx hb hts (se_iw iwX0) tyX0 tyX0_ok nmX0 hown hK hP hD hS 6 rfl rfl 8 (by decide) (va_Nw.use rfl (hZ _ nX5_f206 rfl)) (fun _ h9 => h9) rfl (by decide +kernel) rfl rfl (Nat.le_of_ble_eq_true rfl) dX5_takeReset_22 (fun H locs hP hD hS => ?_)
    replace hP : va_P D se_cl (se_WS k h (se_u g 6 8 1)) H := hP
    replace hD : va_D A (se_WS k h (se_u g 6 8 1)) := hD
    refine lv_goto (tgt := 99) hx hb dX5_takeReset_25 (by decide) ?_
    exact se_rv hx hb hr hlocks hK hP hD hS dX5_takeReset_99 (by rw [F_S_takeReset, if_neg c1])
set_option maxRecDepth 100000 in
set_option maxHeartbeats 4000000 in
theorem c_S_takeMisfit (l : Launch) (D : va_G) (k : Nat → ClassId) (h : Nat → Nat) (sz : Nat) (g : se_G)  : Met l yX5_takeMisfit (se_w_X5_takeMisfit) ({ frames := 1, cells := 0, slots := 0, locals := 21 }) (va_Pc [.ref (h 0)] (se_Pre D se_cl [(k 2, .byte), (k 4, .int), (k 8, .byte), (k 10, .byte)] (se_WS k h g) se_ZN sz)) (se_Qv D se_cl [(k 2, .byte), (k 4, .int), (k 8, .byte), (k 10, .byte)] (se_WS k h) (F_S_takeMisfit g) (va_A (se_WS k h g) sz)) 0 0 (va_A (se_WS k h g) sz) := by
  refine se_met (Qc := se_Qv D se_cl [(k 2, .byte), (k 4, .int), (k 8, .byte), (k 10, .byte)] (se_WS k h) (F_S_takeMisfit g)) (cc := cX5_takeMisfit) (maxL := 1) (ret := none) (by decide) rfl (Nat.le_of_ble_eq_true rfl) ?_
  intro p e s m below meth c ls A hx hb hr hts hown hlocks hml hA hP hK hD hS hZ hl
  replace hl : lv_has ls 1 [(0, .ref (h 0))] := hl
  have J19 : ∀ (gj19 : se_G) (H : Heap) (locs : List Loc) (ls : Array Slot), F_S_takeMisfit_j19 gj19 = F_S_takeMisfit g → va_P D se_cl (se_WS k h gj19) H → va_D A (se_WS k h gj19) → va_S A s.heap H locs → lv_has ls 1 [(0, .ref (h 0))] → W p l e ({ frames := 1, cells := 0, slots := 0, locals := 21 }) s m [.ref (h 0)].toArray below meth c H locs 0 0 (MQ below (se_Qv D se_cl [(k 2, .byte), (k 4, .int), (k 8, .byte), (k 10, .byte)] (se_WS k h) (F_S_takeMisfit g) A) [.ref (h 0)].toArray s 0 0 A) (F0 m 19 ls []) := by
    intro gj19 H locs ls hF hP hD hS hl
    refine lv_aload_n hx hb dX5_takeMisfit_19 rfl (lv_at hl 0 rfl) ?_
    refine va_get (D := D) (ci := 5) (v := .int (gj19 0 9)) (C := RX5) (T := TX5) (N := 12) hx hb hts (se_iw iwX5) hown hK hP 0 rfl rfl 9 (by decide) (hts _ (List.mem_cons_of_mem _ qX5_f60)) (fun _ h9 => h9) rfl dX5_takeMisfit_20 ?_
    refine lv_bipush (v := 10) hx hb dX5_takeMisfit_23 (by decide) ?_
    refine lv_icmp_ne (tgt := 43) hx hb dX5_takeMisfit_25 (by decide) (fun c2 => ?_) (fun c2 => ?_)
    · exact se_rv hx hb hr hlocks hK hP hD hS dX5_takeMisfit_43 (by rw [← hF, F_S_takeMisfit_j19, if_neg c2])
    · refine lv_aload_n hx hb dX5_takeMisfit_28 rfl (lv_at hl 0 rfl) ?_
      refine va_get (D := D) (ci := 5) (v := .ref (h 7)) (C := RX5) (T := TX5) (N := 12) hx hb hts (se_iw iwX5) hown hK hP 0 rfl rfl 6 (by decide) (hts _ (List.mem_cons_of_mem _ qX5_f49)) (fun _ h9 => h9) rfl dX5_takeMisfit_29 ?_
      refine lv_iconst (v := 2) hx hb dX5_takeMisfit_32 (by decide) ?_
      refine se_cp (va_runVN (C := RX3) (As := [.int 2]) (rest := []) ⟨hx, hb, hml, hown, hts⟩ (c_S_Segment_has_7 l D k h _ gj19 2) (se_kVN 1 hts q_code_X3_has (hZ _ nX5_m338 rfl) q_ini_StreamEnd_Segment q_instanceMethod_X3_has q_sel_X3_has (by decide +kernel) ⟨Nat.le_of_ble_eq_true rfl, Nat.le_of_ble_eq_true rfl⟩ rfl rfl) ⟨se_blind se_ZN_ok, va_recv hK hP (ci := 3) (q0 := 7) rfl rfl, se_pre se_ZN_ok hP hK hD hZ⟩ rfl rfl hl.1 rfl (lv_room (Nat.le_of_ble_eq_true rfl)) dX5_takeMisfit_33 ⟨Nat.zero_le _, Nat.zero_le _⟩) ?_
      refine lv_if_eq (tgt := 43) hx hb dX5_takeMisfit_36 (by decide) (fun c3 => ?_) (fun c3 => ?_)
      · exact se_rv hx hb hr hlocks hK hP hD hS dX5_takeMisfit_43 (by rw [← hF, F_S_takeMisfit_j19, if_pos c2, if_pos c3])
      · refine lv_aload_n hx hb dX5_takeMisfit_39 rfl (lv_at hl 0 rfl) ?_
        refine se_cvE (va_runV (C := RX5) (As := []) (rest := []) ⟨hx, hb, hml, hown, hts⟩ (c_S_beginQuiet l D k h _ gj19) (se_kV 0 hts q_code_X5_beginQuiet qX5_m302 q_ini_StreamEnd q_instanceMethod_X5_beginQuiet q_sel_X5_beginQuiet (by decide +kernel) ⟨Nat.le_of_ble_eq_true rfl, Nat.le_of_ble_eq_true rfl⟩ rfl rfl) ⟨se_blind se_ZN_ok, va_recv hK hP (ci := 5) (q0 := 0) rfl rfl, se_pre se_ZN_ok hP hK hD hZ⟩ rfl rfl hl.1 rfl (lv_room (Nat.le_of_ble_eq_true rfl)) dX5_takeMisfit_40 ⟨Nat.zero_le _, Nat.zero_le _⟩) hD hS hA (fun g1 H locs eg1 hP hD hS => ?_)
        exact se_rv hx hb hr hlocks hK hP hD hS dX5_takeMisfit_43 (by subst eg1; rw [← hF, F_S_takeMisfit_j19, if_pos c2, if_neg c3])
  have hF : F_S_takeMisfit g = F_S_takeMisfit g := rfl
  refine lv_aload_n hx hb dX5_takeMisfit_0 rfl (lv_at hl 0 rfl) ?_
  refine va_get (D := D) (ci := 5) (v := .ref (h 7)) (C := RX5) (T := TX5) (N := 12) hx hb hts (se_iw iwX5) hown hK hP 0 rfl rfl 6 (by decide) (hts _ (List.mem_cons_of_mem _ qX5_f49)) (fun _ h9 => h9) rfl dX5_takeMisfit_1 ?_
  refine lv_iconst (v := 4) hx hb dX5_takeMisfit_4 (by decide) ?_
  refine se_cp (va_runVN (C := RX3) (As := [.int 4]) (rest := []) ⟨hx, hb, hml, hown, hts⟩ (c_S_Segment_has_7 l D k h _ g 4) (se_kVN 1 hts q_code_X3_has (hZ _ nX5_m338 rfl) q_ini_StreamEnd_Segment q_instanceMethod_X3_has q_sel_X3_has (by decide +kernel) ⟨Nat.le_of_ble_eq_true rfl, Nat.le_of_ble_eq_true rfl⟩ rfl rfl) ⟨se_blind se_ZN_ok, va_recv hK hP (ci := 3) (q0 := 7) rfl rfl, se_pre se_ZN_ok hP hK hD hZ⟩ rfl rfl hl.1 rfl (lv_room (Nat.le_of_ble_eq_true rfl)) dX5_takeMisfit_5 ⟨Nat.zero_le _, Nat.zero_le _⟩) ?_
  refine lv_if_ne (tgt := 19) hx hb dX5_takeMisfit_8 (by decide) (fun c1 => ?_) (fun c1 => ?_)
  · exact J19 g _ _ ls (by rw [F_S_takeMisfit, if_neg c1]) hP hD hS (lv_sub hl [0] rfl)
  · refine lv_aload_n hx hb dX5_takeMisfit_11 rfl (lv_at hl 0 rfl) ?_
    refine va_get (D := D) (ci := 5) (v := .ref (h 6)) (C := RX5) (T := TX5) (N := 12) hx hb hts (se_iw iwX5) hown hK hP 0 rfl rfl 5 (by decide) (hts _ (List.mem_cons_of_mem _ qX5_f42)) (fun _ h9 => h9) rfl dX5_takeMisfit_12 ?_
    refine lv_iconst (v := 1) hx hb dX5_takeMisfit_15 (by decide) ?_
    refine va_putN (D := D) (ci := 0) (v := .int 1) (ty := .boolean) (C := RX0) (T := TX0) (N := 9) hx hb hts (se_iw iwX0) tyX0 tyX0_ok nmX0 hown hK hP hD hS 6 rfl rfl 8 (by decide) (va_Nw.use rfl (hZ _ nX5_f206 rfl)) (fun _ h9 => h9) rfl (by decide +kernel) rfl rfl (Nat.le_of_ble_eq_true rfl) dX5_takeMisfit_16 (fun H locs hP hD hS => ?_)
    replace hP : va_P D se_cl (se_WS k h (se_u g 6 8 1)) H := hP
    replace hD : va_D A (se_WS k h (se_u g 6 8 1)) := hD
    exact J19 (se_u g 6 8 1) _ _ ls (by rw [F_S_takeMisfit, if_pos c1]) hP hD hS (lv_sub hl [0] rfl)
set_option maxRecDepth 100000 in
set_option maxHeartbeats 4000000 in
theorem c_S_Incoming_open (l : Launch) (D : va_G) (k : Nat → ClassId) (h : Nat → Nat) (sz : Nat) (g : se_G) (p1 : Int32) : Met l yX1_open (se_w_X1_open) ({ frames := 0, cells := 0, slots := 0, locals := 0 }) (va_Pc [.ref (h 3), .int p1] (se_Pre D se_cl [(k 2, .byte), (k 4, .int), (k 8, .byte), (k 10, .byte)] (se_WS k h g) se_ZN sz)) (se_Qv D se_cl [(k 2, .byte), (k 4, .int), (k 8, .byte), (k 10, .byte)] (se_WS k h) (F_S_Incoming_open g p1) (va_A (se_WS k h g) sz)) 0 0 (va_A (se_WS k h g) sz) := by
  refine se_met (Qc := se_Qv D se_cl [(k 2, .byte), (k 4, .int), (k 8, .byte), (k 10, .byte)] (se_WS k h) (F_S_Incoming_open g p1)) (cc := cX1_open) (maxL := 2) (ret := none) (by decide) rfl (Nat.le_of_ble_eq_true rfl) ?_
  intro p e s m below meth c ls A hx hb hr hts hown hlocks hml hA hP hK hD hS hZ hl
  replace hl : lv_has ls 2 [(0, .ref (h 3)), (1, .int p1)] := hl
  have hF : F_S_Incoming_open g p1 = F_S_Incoming_open g p1 := rfl
  refine lv_aload_n hx hb dX1_open_0 rfl (lv_at hl 0 rfl) ?_
  refine lv_iconst (v := 1) hx hb dX1_open_1 (by decide) ?_
  refine va_put (D := D) (ci := 1) (v := .int 1) (ty := .boolean) (C := RX1) (T := TX1) (N := 8) hx hb hts (se_iw iwX1) tyX1 tyX1_ok nmX1 hown hK hP hD hS 3 rfl rfl 1 (by decide) (hts _ (List.mem_cons_of_mem _ qX1_f21)) (fun _ h9 => h9) rfl (by decide +kernel) rfl rfl (Nat.le_of_ble_eq_true rfl) dX1_open_2 (fun H locs hP hD hS => ?_)
  replace hP : va_P D se_cl (se_WS k h (se_u g 3 1 1)) H := hP
  replace hD : va_D A (se_WS k h (se_u g 3 1 1)) := hD
  refine lv_aload_n hx hb dX1_open_5 rfl (lv_at hl 0 rfl) ?_
  refine lv_iload_n hx hb dX1_open_6 rfl (lv_at hl 1 rfl) ?_
  refine va_put (D := D) (ci := 1) (v := .int p1) (ty := .int) (C := RX1) (T := TX1) (N := 8) hx hb hts (se_iw iwX1) tyX1 tyX1_ok nmX1 hown hK hP hD hS 3 rfl rfl 2 (by decide) (hts _ (List.mem_cons_of_mem _ qX1_f25)) (fun _ h9 => h9) rfl (by decide +kernel) rfl rfl (Nat.le_of_ble_eq_true rfl) dX1_open_7 (fun H locs hP hD hS => ?_)
  replace hP : va_P D se_cl (se_WS k h (se_u (se_u g 3 1 1) 3 2 p1)) H := hP
  replace hD : va_D A (se_WS k h (se_u (se_u g 3 1 1) 3 2 p1)) := hD
  refine lv_aload_n hx hb dX1_open_10 rfl (lv_at hl 0 rfl) ?_
  refine lv_iload_n hx hb dX1_open_11 rfl (lv_at hl 1 rfl) ?_
  refine va_put (D := D) (ci := 1) (v := .int p1) (ty := .int) (C := RX1) (T := TX1) (N := 8) hx hb hts (se_iw iwX1) tyX1 tyX1_ok nmX1 hown hK hP hD hS 3 rfl rfl 4 (by decide) (hts _ (List.mem_cons_of_mem _ qX1_f32)) (fun _ h9 => h9) rfl (by decide +kernel) rfl rfl (Nat.le_of_ble_eq_true rfl) dX1_open_12 (fun H locs hP hD hS => ?_)
  replace hP : va_P D se_cl (se_WS k h (se_u (se_u (se_u g 3 1 1) 3 2 p1) 3 4 p1)) H := hP
  replace hD : va_D A (se_WS k h (se_u (se_u (se_u g 3 1 1) 3 2 p1) 3 4 p1)) := hD
  exact se_rv hx hb hr hlocks hK hP hD hS dX1_open_15 (by rw [F_S_Incoming_open])
set_option maxRecDepth 100000 in
set_option maxHeartbeats 4000000 in
theorem c_S_takeOpen (l : Launch) (D : va_G) (k : Nat → ClassId) (h : Nat → Nat) (sz : Nat) (g : se_G)  : Met l yX5_takeOpen (se_w_X5_takeOpen) ({ frames := 1, cells := 0, slots := 0, locals := 23 }) (va_Pc [.ref (h 0)] (se_Pre D se_cl [(k 2, .byte), (k 4, .int), (k 8, .byte), (k 10, .byte)] (se_WS k h g) se_ZN sz)) (se_Qv D se_cl [(k 2, .byte), (k 4, .int), (k 8, .byte), (k 10, .byte)] (se_WS k h) (F_S_takeOpen g) (va_A (se_WS k h g) sz)) 0 0 (va_A (se_WS k h g) sz) := by
  refine se_met (Qc := se_Qv D se_cl [(k 2, .byte), (k 4, .int), (k 8, .byte), (k 10, .byte)] (se_WS k h) (F_S_takeOpen g)) (cc := cX5_takeOpen) (maxL := 3) (ret := none) (by decide) rfl (Nat.le_of_ble_eq_true rfl) ?_
  intro p e s m below meth c ls A hx hb hr hts hown hlocks hml hA hP hK hD hS hZ hl
  replace hl : lv_has ls 3 [(0, .ref (h 0))] := hl
  have hF : F_S_takeOpen g = F_S_takeOpen g := rfl
  refine lv_aload_n hx hb dX5_takeOpen_0 rfl (lv_at hl 0 rfl) ?_
  refine va_get (D := D) (ci := 5) (v := .ref (h 3)) (C := RX5) (T := TX5) (N := 12) hx hb hts (se_iw iwX5) hown hK hP 0 rfl rfl 3 (by decide) (hts _ (List.mem_cons_of_mem _ qX5_f28)) (fun _ h9 => h9) rfl dX5_takeOpen_1 ?_
  refine lv_aload_n hx hb dX5_takeOpen_4 rfl (lv_at hl 0 rfl) ?_
  refine va_get (D := D) (ci := 5) (v := .ref (h 7)) (C := RX5) (T := TX5) (N := 12) hx hb hts (se_iw iwX5) hown hK hP 0 rfl rfl 6 (by decide) (hts _ (List.mem_cons_of_mem _ qX5_f49)) (fun _ h9 => h9) rfl dX5_takeOpen_5 ?_
  refine va_getN (D := D) (ci := 3) (v := .int (g 7 3)) (C := RX3) (T := TX3) (N := 7) hx hb hts (se_iw iwX3) hown hK hP 7 rfl rfl 3 (by decide) (va_Nw.use rfl (hZ _ nX5_f220 rfl)) (fun _ h9 => h9) rfl dX5_takeOpen_8 ?_
  refine lv_iconst (v := 1) hx hb dX5_takeOpen_11 (by decide) ?_
  refine lv_iadd hx hb dX5_takeOpen_12 ?_
  refine se_cvE (va_runVN (C := RX1) (As := [.int ((g 7 3) + 1)]) (rest := []) ⟨hx, hb, hml, hown, hts⟩ (c_S_Incoming_open l D k h _ g ((g 7 3) + 1)) (se_kVN 1 hts q_code_X1_open (hZ _ nX5_m403 rfl) q_ini_StreamEnd_Incoming q_instanceMethod_X1_open q_sel_X1_open (by decide +kernel) ⟨Nat.le_of_ble_eq_true rfl, Nat.le_of_ble_eq_true rfl⟩ rfl rfl) ⟨se_blind se_ZN_ok, va_recv hK hP (ci := 1) (q0 := 3) rfl rfl, se_pre se_ZN_ok hP hK hD hZ⟩ rfl rfl hl.1 rfl (lv_room (Nat.le_of_ble_eq_true rfl)) dX5_takeOpen_13 ⟨Nat.zero_le _, Nat.zero_le _⟩) hD hS hA (fun g1 H locs eg1 hP hD hS => ?_)
  replace hF : (F_S_takeOpen_k1 (F_S_Incoming_open g ((g 7 3) + 1))) = F_S_takeOpen g := by rw [F_S_takeOpen]
  rw [← eg1] at hF
  replace hF : F_S_takeOpen_k1 g1 = F_S_takeOpen g := hF
  refine lv_aload_n hx hb dX5_takeOpen_16 rfl (lv_at hl 0 rfl) ?_
  refine va_get (D := D) (ci := 5) (v := .ref (h 7)) (C := RX5) (T := TX5) (N := 12) hx hb hts (se_iw iwX5) hown hK hP 0 rfl rfl 6 (by decide) (hts _ (List.mem_cons_of_mem _ qX5_f49)) (fun _ h9 => h9) rfl dX5_takeOpen_17 ?_
  refine va_getN (D := D) (ci := 3) (v := .int (g1 7 6)) (C := RX3) (T := TX3) (N := 7) hx hb hts (se_iw iwX3) hown hK hP 7 rfl rfl 6 (by decide) (va_Nw.use rfl (hZ _ nX5_f229 rfl)) (fun _ h9 => h9) rfl dX5_takeOpen_20 ?_
  refine se_join (v := ((if (g1 7 6) = 0 then 536 else (g1 7 6)) : Int32)) (pcJ := 39) (restJ := []) (ls := ls) (fun T => ?_) ?_
  · refine lv_if_ne (tgt := 32) hx hb dX5_takeOpen_23 (by decide) (fun c2 => ?_) (fun c2 => ?_)
    · refine lv_aload_n hx hb dX5_takeOpen_32 rfl (lv_at hl 0 rfl) ?_
      refine va_get (D := D) (ci := 5) (v := .ref (h 7)) (C := RX5) (T := TX5) (N := 12) hx hb hts (se_iw iwX5) hown hK hP 0 rfl rfl 6 (by decide) (hts _ (List.mem_cons_of_mem _ qX5_f49)) (fun _ h9 => h9) rfl dX5_takeOpen_33 ?_
      refine va_getN (D := D) (ci := 3) (v := .int (g1 7 6)) (C := RX3) (T := TX3) (N := 7) hx hb hts (se_iw iwX3) hown hK hP 7 rfl rfl 6 (by decide) (va_Nw.use rfl (hZ _ nX5_f229 rfl)) (fun _ h9 => h9) rfl dX5_takeOpen_36 ?_
      exact T _ (by rw [if_neg c2])
    · refine lv_sipush (v := 536) hx hb dX5_takeOpen_26 (by decide) ?_
      refine lv_goto (tgt := 39) hx hb dX5_takeOpen_29 (by decide) ?_
      exact T _ (by rw [if_pos c2])
  refine lv_istore_n (lv' := [(1, .int ((if (g1 7 6) = 0 then 536 else (g1 7 6)) : Int32)), (0, .ref (h 0))]) hx hb dX5_takeOpen_39 rfl hl (by decide) rfl (fun ls hl => ?_)
  refine lv_aload_n hx hb dX5_takeOpen_40 rfl (lv_at hl 1 rfl) ?_
  refine va_get (D := D) (ci := 5) (v := .ref (h 1)) (C := RX5) (T := TX5) (N := 12) hx hb hts (se_iw iwX5) hown hK hP 0 rfl rfl 2 (by decide) (hts _ (List.mem_cons_of_mem _ qX5_f21)) (fun _ h9 => h9) rfl dX5_takeOpen_41 ?_
  refine lv_aload_n hx hb dX5_takeOpen_44 rfl (lv_at hl 1 rfl) ?_
  refine va_get (D := D) (ci := 5) (v := .int (g1 0 0)) (C := RX5) (T := TX5) (N := 12) hx hb hts (se_iw iwX5) hown hK hP 0 rfl rfl 0 (by decide) (hts _ (List.mem_cons_of_mem _ qX5_f9)) (fun _ h9 => h9) rfl dX5_takeOpen_45 ?_
  refine lv_iload_n hx hb dX5_takeOpen_48 rfl (lv_at hl 0 rfl) ?_
  refine va_mmin hx hb (hml.trans hl.1.symm) hown (hts _ (List.mem_cons_of_mem _ qX5_m102)) (hts _ (List.mem_cons_of_mem _ q_static_Math_min)) (hts _ (List.mem_cons_of_mem _ q_ini_java_lang_Math)) (hts _ (List.mem_cons_of_mem _ q_code_Math_min)) (Nat.le_of_ble_eq_true rfl) (Nat.le_of_ble_eq_true rfl) (Nat.zero_le _) (Nat.zero_le _) dX5_takeOpen_49 ?_
  refine va_putN (D := D) (ci := 2) (v := .int (if ((if (g1 7 6) = 0 then 536 else (g1 7 6)) : Int32) < (g1 0 0) then ((if (g1 7 6) = 0 then 536 else (g1 7 6)) : Int32) else (g1 0 0))) (ty := .int) (C := RX2) (T := TX2) (N := 13) hx hb hts (se_iw iwX2) tyX2 tyX2_ok nmX2 hown hK hP hD hS 1 rfl rfl 9 (by decide) (va_Nw.use rfl (hZ _ nX5_f273 rfl)) (fun _ h9 => h9) rfl (by decide +kernel) rfl rfl (Nat.le_of_ble_eq_true rfl) dX5_takeOpen_52 (fun H locs hP hD hS => ?_)
  replace hP : va_P D se_cl (se_WS k h (se_u g1 1 9 (if ((if (g1 7 6) = 0 then 536 else (g1 7 6)) : Int32) < (g1 0 0) then ((if (g1 7 6) = 0 then 536 else (g1 7 6)) : Int32) else (g1 0 0)))) H := hP
  replace hD : va_D A (se_WS k h (se_u g1 1 9 (if ((if (g1 7 6) = 0 then 536 else (g1 7 6)) : Int32) < (g1 0 0) then ((if (g1 7 6) = 0 then 536 else (g1 7 6)) : Int32) else (g1 0 0)))) := hD
  refine lv_aload_n hx hb dX5_takeOpen_55 rfl (lv_at hl 1 rfl) ?_
  refine va_get (D := D) (ci := 5) (v := .ref (h 7)) (C := RX5) (T := TX5) (N := 12) hx hb hts (se_iw iwX5) hown hK hP 0 rfl rfl 6 (by decide) (hts _ (List.mem_cons_of_mem _ qX5_f49)) (fun _ h9 => h9) rfl dX5_takeOpen_56 ?_
  refine lv_bipush (v := 8) hx hb dX5_takeOpen_59 (by decide) ?_
  refine se_cp (va_runVN (C := RX3) (As := [.int 8]) (rest := []) ⟨hx, hb, hml, hown, hts⟩ (c_S_Segment_has_7 l D k h _ (se_u g1 1 9 (if ((if (g1 7 6) = 0 then 536 else (g1 7 6)) : Int32) < (g1 0 0) then ((if (g1 7 6) = 0 then 536 else (g1 7 6)) : Int32) else (g1 0 0))) 8) (se_kVN 1 hts q_code_X3_has (hZ _ nX5_m338 rfl) q_ini_StreamEnd_Segment q_instanceMethod_X3_has q_sel_X3_has (by decide +kernel) ⟨Nat.le_of_ble_eq_true rfl, Nat.le_of_ble_eq_true rfl⟩ rfl rfl) ⟨se_blind se_ZN_ok, va_recv hK hP (ci := 3) (q0 := 7) rfl rfl, se_pre se_ZN_ok hP hK hD hZ⟩ rfl rfl hl.1 rfl (lv_room (Nat.le_of_ble_eq_true rfl)) dX5_takeOpen_61 ⟨Nat.zero_le _, Nat.zero_le _⟩) ?_
  refine se_join (v := ((if (F_S_Segment_has_7 (se_u g1 1 9 (if ((if (g1 7 6) = 0 then 536 else (g1 7 6)) : Int32) < (g1 0 0) then ((if (g1 7 6) = 0 then 536 else (g1 7 6)) : Int32) else (g1 0 0))) 8) = 0 then (g1 1 4) else (g1 7 4)) : Int32)) (pcJ := 84) (restJ := []) (ls := ls) (fun T => ?_) ?_
  · refine lv_if_eq (tgt := 77) hx hb dX5_takeOpen_64 (by decide) (fun c4 => ?_) (fun c4 => ?_)
    · refine lv_aload_n hx hb dX5_takeOpen_77 rfl (lv_at hl 1 rfl) ?_
      refine va_get (D := D) (ci := 5) (v := .ref (h 1)) (C := RX5) (T := TX5) (N := 12) hx hb hts (se_iw iwX5) hown hK hP 0 rfl rfl 2 (by decide) (hts _ (List.mem_cons_of_mem _ qX5_f21)) (fun _ h9 => h9) rfl dX5_takeOpen_78 ?_
      refine va_getN (D := D) (ci := 2) (v := .int (g1 1 4)) (C := RX2) (T := TX2) (N := 13) hx hb hts (se_iw iwX2) hown hK hP 1 rfl rfl 4 (by decide) (va_Nw.use rfl (hZ _ nX5_f296 rfl)) (fun _ h9 => h9) rfl dX5_takeOpen_81 ?_
      exact T _ (by rw [if_pos c4])
    · refine lv_aload_n hx hb dX5_takeOpen_67 rfl (lv_at hl 1 rfl) ?_
      refine va_get (D := D) (ci := 5) (v := .ref (h 7)) (C := RX5) (T := TX5) (N := 12) hx hb hts (se_iw iwX5) hown hK hP 0 rfl rfl 6 (by decide) (hts _ (List.mem_cons_of_mem _ qX5_f49)) (fun _ h9 => h9) rfl dX5_takeOpen_68 ?_
      refine va_getN (D := D) (ci := 3) (v := .int (g1 7 4)) (C := RX3) (T := TX3) (N := 7) hx hb hts (se_iw iwX3) hown hK hP 7 rfl rfl 4 (by decide) (va_Nw.use rfl (hZ _ nX5_f223 rfl)) (fun _ h9 => h9) rfl dX5_takeOpen_71 ?_
      refine lv_goto (tgt := 84) hx hb dX5_takeOpen_74 (by decide) ?_
      exact T _ (by rw [if_neg c4])
  refine lv_istore_n (lv' := [(2, .int ((if (F_S_Segment_has_7 (se_u g1 1 9 (if ((if (g1 7 6) = 0 then 536 else (g1 7 6)) : Int32) < (g1 0 0) then ((if (g1 7 6) = 0 then 536 else (g1 7 6)) : Int32) else (g1 0 0))) 8) = 0 then (g1 1 4) else (g1 7 4)) : Int32)), (1, .int ((if (g1 7 6) = 0 then 536 else (g1 7 6)) : Int32)), (0, .ref (h 0))]) hx hb dX5_takeOpen_84 rfl hl (by decide) rfl (fun ls hl => ?_)
  refine lv_aload_n hx hb dX5_takeOpen_85 rfl (lv_at hl 2 rfl) ?_
  refine va_get (D := D) (ci := 5) (v := .ref (h 1)) (C := RX5) (T := TX5) (N := 12) hx hb hts (se_iw iwX5) hown hK hP 0 rfl rfl 2 (by decide) (hts _ (List.mem_cons_of_mem _ qX5_f21)) (fun _ h9 => h9) rfl dX5_takeOpen_86 ?_
  refine lv_aload_n hx hb dX5_takeOpen_89 rfl (lv_at hl 2 rfl) ?_
  refine va_get (D := D) (ci := 5) (v := .ref (h 7)) (C := RX5) (T := TX5) (N := 12) hx hb hts (se_iw iwX5) hown hK hP 0 rfl rfl 6 (by decide) (hts _ (List.mem_cons_of_mem _ qX5_f49)) (fun _ h9 => h9) rfl dX5_takeOpen_90 ?_
  refine va_getN (D := D) (ci := 3) (v := .int (g1 7 5)) (C := RX3) (T := TX3) (N := 7) hx hb hts (se_iw iwX3) hown hK hP 7 rfl rfl 5 (by decide) (va_Nw.use rfl (hZ _ nX5_f226 rfl)) (fun _ h9 => h9) rfl dX5_takeOpen_93 ?_
  refine lv_aload_n hx hb dX5_takeOpen_96 rfl (lv_at hl 2 rfl) ?_
  refine va_get (D := D) (ci := 5) (v := .ref (h 7)) (C := RX5) (T := TX5) (N := 12) hx hb hts (se_iw iwX5) hown hK hP 0 rfl rfl 6 (by decide) (hts _ (List.mem_cons_of_mem _ qX5_f49)) (fun _ h9 => h9) rfl dX5_takeOpen_97 ?_
  refine va_getN (D := D) (ci := 3) (v := .int (g1 7 3)) (C := RX3) (T := TX3) (N := 7) hx hb hts (se_iw iwX3) hown hK hP 7 rfl rfl 3 (by decide) (va_Nw.use rfl (hZ _ nX5_f220 rfl)) (fun _ h9 => h9) rfl dX5_takeOpen_100 ?_
  refine lv_iload_n hx hb dX5_takeOpen_103 rfl (lv_at hl 0 rfl) ?_
  refine se_cvE (va_runVN (C := RX2) (As := [.int (g1 7 5), .int (g1 7 3), .int ((if (F_S_Segment_has_7 (se_u g1 1 9 (if ((if (g1 7 6) = 0 then 536 else (g1 7 6)) : Int32) < (g1 0 0) then ((if (g1 7 6) = 0 then 536 else (g1 7 6)) : Int32) else (g1 0 0))) 8) = 0 then (g1 1 4) else (g1 7 4)) : Int32)]) (rest := []) ⟨hx, hb, hml, hown, hts⟩ (c_S_Outgoing_windowIs l D k h _ (se_u g1 1 9 (if ((if (g1 7 6) = 0 then 536 else (g1 7 6)) : Int32) < (g1 0 0) then ((if (g1 7 6) = 0 then 536 else (g1 7 6)) : Int32) else (g1 0 0))) (g1 7 5) (g1 7 3) ((if (F_S_Segment_has_7 (se_u g1 1 9 (if ((if (g1 7 6) = 0 then 536 else (g1 7 6)) : Int32) < (g1 0 0) then ((if (g1 7 6) = 0 then 536 else (g1 7 6)) : Int32) else (g1 0 0))) 8) = 0 then (g1 1 4) else (g1 7 4)) : Int32)) (se_kVN 3 hts q_code_X2_windowIs (hZ _ nX5_m405 rfl) q_ini_StreamEnd_Outgoing q_instanceMethod_X2_windowIs q_sel_X2_windowIs (by decide +kernel) ⟨Nat.le_of_ble_eq_true rfl, Nat.le_of_ble_eq_true rfl⟩ rfl rfl) ⟨se_blind se_ZN_ok, va_recv hK hP (ci := 2) (q0 := 1) rfl rfl, se_pre se_ZN_ok hP hK hD hZ⟩ rfl rfl hl.1 rfl (lv_room (Nat.le_of_ble_eq_true rfl)) dX5_takeOpen_104 ⟨Nat.zero_le _, Nat.zero_le _⟩) hD hS hA (fun g2 H locs eg2 hP hD hS => ?_)
  exact se_rv hx hb hr hlocks hK hP hD hS dX5_takeOpen_107 (by subst eg2; rw [← hF, F_S_takeOpen_k1])
set_option maxRecDepth 100000 in
set_option maxHeartbeats 4000000 in
theorem c_S_takeWhenAsking (l : Launch) (D : va_G) (k : Nat → ClassId) (h : Nat → Nat) (sz : Nat) (g : se_G)  : Met l yX5_takeWhenAsking (se_w_X5_takeWhenAsking) ({ frames := 4, cells := 0, slots := 0, locals := 84 }) (va_Pc [.ref (h 0)] (se_Pre D se_cl [(k 2, .byte), (k 4, .int), (k 8, .byte), (k 10, .byte)] (se_WS k h g) se_ZN sz)) (se_Qv D se_cl [(k 2, .byte), (k 4, .int), (k 8, .byte), (k 10, .byte)] (se_WS k h) (F_S_takeWhenAsking g) (va_A (se_WS k h g) sz)) 0 0 (va_A (se_WS k h g) sz) := by
  refine se_met (Qc := se_Qv D se_cl [(k 2, .byte), (k 4, .int), (k 8, .byte), (k 10, .byte)] (se_WS k h) (F_S_takeWhenAsking g)) (cc := cX5_takeWhenAsking) (maxL := 2) (ret := none) (by decide) rfl (Nat.le_of_ble_eq_true rfl) ?_
  intro p e s m below meth c ls A hx hb hr hts hown hlocks hml hA hP hK hD hS hZ hl
  replace hl : lv_has ls 2 [(0, .ref (h 0))] := hl
  have J38 : ∀ (gj38 : se_G) (v1_38 : Int32) (H : Heap) (locs : List Loc) (ls : Array Slot), F_S_takeWhenAsking_j38 gj38 v1_38 = F_S_takeWhenAsking g → va_P D se_cl (se_WS k h gj38) H → va_D A (se_WS k h gj38) → va_S A s.heap H locs → lv_has ls 2 [(0, .ref (h 0)), (1, .int v1_38)] → W p l e ({ frames := 4, cells := 0, slots := 0, locals := 84 }) s m [.ref (h 0)].toArray below meth c H locs 0 0 (MQ below (se_Qv D se_cl [(k 2, .byte), (k 4, .int), (k 8, .byte), (k 10, .byte)] (se_WS k h) (F_S_takeWhenAsking g) A) [.ref (h 0)].toArray s 0 0 A) (F0 m 38 ls []) := by
    intro gj38 v1_38 H locs ls hF hP hD hS hl
    refine lv_aload_n hx hb dX5_takeWhenAsking_38 rfl (lv_at hl 0 rfl) ?_
    refine va_get (D := D) (ci := 5) (v := .ref (h 7)) (C := RX5) (T := TX5) (N := 12) hx hb hts (se_iw iwX5) hown hK hP 0 rfl rfl 6 (by decide) (hts _ (List.mem_cons_of_mem _ qX5_f49)) (fun _ h9 => h9) rfl dX5_takeWhenAsking_39 ?_
    refine lv_iconst (v := 4) hx hb dX5_takeWhenAsking_42 (by decide) ?_
    refine se_cp (va_runVN (C := RX3) (As := [.int 4]) (rest := []) ⟨hx, hb, hml, hown, hts⟩ (c_S_Segment_has_7 l D k h _ gj38 4) (se_kVN 1 hts q_code_X3_has (hZ _ nX5_m338 rfl) q_ini_StreamEnd_Segment q_instanceMethod_X3_has q_sel_X3_has (by decide +kernel) ⟨Nat.le_of_ble_eq_true rfl, Nat.le_of_ble_eq_true rfl⟩ rfl rfl) ⟨se_blind se_ZN_ok, va_recv hK hP (ci := 3) (q0 := 7) rfl rfl, se_pre se_ZN_ok hP hK hD hZ⟩ rfl rfl hl.1 rfl (lv_room (Nat.le_of_ble_eq_true rfl)) dX5_takeWhenAsking_43 ⟨Nat.zero_le _, Nat.zero_le _⟩) ?_
    refine lv_if_eq (tgt := 62) hx hb dX5_takeWhenAsking_46 (by decide) (fun c2 => ?_) (fun c2 => ?_)
    · refine lv_aload_n hx hb dX5_takeWhenAsking_62 rfl (lv_at hl 0 rfl) ?_
      refine va_get (D := D) (ci := 5) (v := .ref (h 7)) (C := RX5) (T := TX5) (N := 12) hx hb hts (se_iw iwX5) hown hK hP 0 rfl rfl 6 (by decide) (hts _ (List.mem_cons_of_mem _ qX5_f49)) (fun _ h9 => h9) rfl dX5_takeWhenAsking_63 ?_
      refine lv_iconst (v := 1) hx hb dX5_takeWhenAsking_66 (by decide) ?_
      refine se_cp (va_runVN (C := RX3) (As := [.int 1]) (rest := []) ⟨hx, hb, hml, hown, hts⟩ (c_S_Segment_has_7 l D k h _ gj38 1) (se_kVN 1 hts q_code_X3_has (hZ _ nX5_m338 rfl) q_ini_StreamEnd_Segment q_instanceMethod_X3_has q_sel_X3_has (by decide +kernel) ⟨Nat.le_of_ble_eq_true rfl, Nat.le_of_ble_eq_true rfl⟩ rfl rfl) ⟨se_blind se_ZN_ok, va_recv hK hP (ci := 3) (q0 := 7) rfl rfl, se_pre se_ZN_ok hP hK hD hZ⟩ rfl rfl hl.1 rfl (lv_room (Nat.le_of_ble_eq_true rfl)) dX5_takeWhenAsking_67 ⟨Nat.zero_le _, Nat.zero_le _⟩) ?_
      refine lv_if_eq (tgt := 122) hx hb dX5_takeWhenAsking_70 (by decide) (fun c3 => ?_) (fun c3 => ?_)
      · exact se_rv hx hb hr hlocks hK hP hD hS dX5_takeWhenAsking_122 (by rw [← hF, F_S_takeWhenAsking_j38, if_pos c2, if_pos c3])
      · refine lv_aload_n hx hb dX5_takeWhenAsking_73 rfl (lv_at hl 0 rfl) ?_
        refine se_cvE (va_runV (C := RX5) (As := []) (rest := []) ⟨hx, hb, hml, hown, hts⟩ (c_S_takeOpen l D k h _ gj38) (se_kV 0 hts q_code_X5_takeOpen qX5_m397 q_ini_StreamEnd q_instanceMethod_X5_takeOpen q_sel_X5_takeOpen (by decide +kernel) ⟨Nat.le_of_ble_eq_true rfl, Nat.le_of_ble_eq_true rfl⟩ rfl rfl) ⟨se_blind se_ZN_ok, va_recv hK hP (ci := 5) (q0 := 0) rfl rfl, se_pre se_ZN_ok hP hK hD hZ⟩ rfl rfl hl.1 rfl (lv_room (Nat.le_of_ble_eq_true rfl)) dX5_takeWhenAsking_74 ⟨Nat.zero_le _, Nat.zero_le _⟩) hD hS hA (fun g1 H locs eg1 hP hD hS => ?_)
        replace hF : (F_S_takeWhenAsking_k1 v1_38 (F_S_takeOpen gj38)) = F_S_takeWhenAsking g := by rw [← hF, F_S_takeWhenAsking_j38, if_pos c2, if_neg c3]
        rw [← eg1] at hF
        replace hF : F_S_takeWhenAsking_k1 v1_38 g1 = F_S_takeWhenAsking g := hF
        refine lv_iload_n hx hb dX5_takeWhenAsking_77 rfl (lv_at hl 1 rfl) ?_
        refine lv_if_eq (tgt := 109) hx hb dX5_takeWhenAsking_78 (by decide) (fun c4 => ?_) (fun c4 => ?_)
        · refine lv_aload_n hx hb dX5_takeWhenAsking_109 rfl (lv_at hl 0 rfl) ?_
          refine lv_iconst (v := 3) hx hb dX5_takeWhenAsking_110 (by decide) ?_
          refine va_put (D := D) (ci := 5) (v := .int 3) (ty := .int) (C := RX5) (T := TX5) (N := 12) hx hb hts (se_iw iwX5) tyX5 tyX5_ok nmX5 hown hK hP hD hS 0 rfl rfl 9 (by decide) (hts _ (List.mem_cons_of_mem _ qX5_f60)) (fun _ h9 => h9) rfl (by decide +kernel) rfl rfl (Nat.le_of_ble_eq_true rfl) dX5_takeWhenAsking_111 (fun H locs hP hD hS => ?_)
          replace hP : va_P D se_cl (se_WS k h (se_u g1 0 9 3)) H := hP
          replace hD : va_D A (se_WS k h (se_u g1 0 9 3)) := hD
          refine lv_aload_n hx hb dX5_takeWhenAsking_114 rfl (lv_at hl 0 rfl) ?_
          refine va_get (D := D) (ci := 5) (v := .ref (h 6)) (C := RX5) (T := TX5) (N := 12) hx hb hts (se_iw iwX5) hown hK hP 0 rfl rfl 5 (by decide) (hts _ (List.mem_cons_of_mem _ qX5_f42)) (fun _ h9 => h9) rfl dX5_takeWhenAsking_115 ?_
          refine lv_iconst (v := 1) hx hb dX5_takeWhenAsking_118 (by decide) ?_
          refine va_putN (D := D) (ci := 0) (v := .int 1) (ty := .boolean) (C := RX0) (T := TX0) (N := 9) hx hb hts (se_iw iwX0) tyX0 tyX0_ok nmX0 hown hK hP hD hS 6 rfl rfl 4 (by decide) (va_Nw.use rfl (hZ _ nX5_f173 rfl)) (fun _ h9 => h9) rfl (by decide +kernel) rfl rfl (Nat.le_of_ble_eq_true rfl) dX5_takeWhenAsking_119 (fun H locs hP hD hS => ?_)
          replace hP : va_P D se_cl (se_WS k h (se_u (se_u g1 0 9 3) 6 4 1)) H := hP
          replace hD : va_D A (se_WS k h (se_u (se_u g1 0 9 3) 6 4 1)) := hD
          exact se_rv hx hb hr hlocks hK hP hD hS dX5_takeWhenAsking_122 (by rw [← hF, F_S_takeWhenAsking_k1, if_pos c4])
        · refine lv_aload_n hx hb dX5_takeWhenAsking_81 rfl (lv_at hl 0 rfl) ?_
          refine lv_iconst (v := 4) hx hb dX5_takeWhenAsking_82 (by decide) ?_
          refine va_put (D := D) (ci := 5) (v := .int 4) (ty := .int) (C := RX5) (T := TX5) (N := 12) hx hb hts (se_iw iwX5) tyX5 tyX5_ok nmX5 hown hK hP hD hS 0 rfl rfl 9 (by decide) (hts _ (List.mem_cons_of_mem _ qX5_f60)) (fun _ h9 => h9) rfl (by decide +kernel) rfl rfl (Nat.le_of_ble_eq_true rfl) dX5_takeWhenAsking_83 (fun H locs hP hD hS => ?_)
          replace hP : va_P D se_cl (se_WS k h (se_u g1 0 9 4)) H := hP
          replace hD : va_D A (se_WS k h (se_u g1 0 9 4)) := hD
          refine lv_aload_n hx hb dX5_takeWhenAsking_86 rfl (lv_at hl 0 rfl) ?_
          refine va_get (D := D) (ci := 5) (v := .ref (h 6)) (C := RX5) (T := TX5) (N := 12) hx hb hts (se_iw iwX5) hown hK hP 0 rfl rfl 5 (by decide) (hts _ (List.mem_cons_of_mem _ qX5_f42)) (fun _ h9 => h9) rfl dX5_takeWhenAsking_87 ?_
          refine lv_iconst (v := 0) hx hb dX5_takeWhenAsking_90 (by decide) ?_
          refine va_putN (D := D) (ci := 0) (v := .int 0) (ty := .boolean) (C := RX0) (T := TX0) (N := 9) hx hb hts (se_iw iwX0) tyX0 tyX0_ok nmX0 hown hK hP hD hS 6 rfl rfl 4 (by decide) (va_Nw.use rfl (hZ _ nX5_f173 rfl)) (fun _ h9 => h9) rfl (by decide +kernel) rfl rfl (Nat.le_of_ble_eq_true rfl) dX5_takeWhenAsking_91 (fun H locs hP hD hS => ?_)
          replace hP : va_P D se_cl (se_WS k h (se_u (se_u g1 0 9 4) 6 4 0)) H := hP
          replace hD : va_D A (se_WS k h (se_u (se_u g1 0 9 4) 6 4 0)) := hD
          refine lv_aload_n hx hb dX5_takeWhenAsking_94 rfl (lv_at hl 0 rfl) ?_
          refine se_cvE (va_runV (C := RX5) (As := []) (rest := []) ⟨hx, hb, hml, hown, hts⟩ (c_S_takeThanked l D k h _ (se_u (se_u g1 0 9 4) 6 4 0)) (se_kV 0 hts q_code_X5_takeThanked qX5_m400 q_ini_StreamEnd q_instanceMethod_X5_takeThanked q_sel_X5_takeThanked (by decide +kernel) ⟨Nat.le_of_ble_eq_true rfl, Nat.le_of_ble_eq_true rfl⟩ rfl rfl) ⟨se_blind se_ZN_ok, va_recv hK hP (ci := 5) (q0 := 0) rfl rfl, se_pre se_ZN_ok hP hK hD hZ⟩ rfl rfl hl.1 rfl (lv_room (Nat.le_of_ble_eq_true rfl)) dX5_takeWhenAsking_95 ⟨Nat.zero_le _, Nat.zero_le _⟩) hD hS hA (fun g2 H locs eg2 hP hD hS => ?_)
          refine lv_aload_n hx hb dX5_takeWhenAsking_98 rfl (lv_at hl 0 rfl) ?_
          refine va_get (D := D) (ci := 5) (v := .ref (h 6)) (C := RX5) (T := TX5) (N := 12) hx hb hts (se_iw iwX5) hown hK hP 0 rfl rfl 5 (by decide) (hts _ (List.mem_cons_of_mem _ qX5_f42)) (fun _ h9 => h9) rfl dX5_takeWhenAsking_99 ?_
          refine lv_iconst (v := 1) hx hb dX5_takeWhenAsking_102 (by decide) ?_
          refine va_putN (D := D) (ci := 0) (v := .int 1) (ty := .boolean) (C := RX0) (T := TX0) (N := 9) hx hb hts (se_iw iwX0) tyX0 tyX0_ok nmX0 hown hK hP hD hS 6 rfl rfl 8 (by decide) (va_Nw.use rfl (hZ _ nX5_f206 rfl)) (fun _ h9 => h9) rfl (by decide +kernel) rfl rfl (Nat.le_of_ble_eq_true rfl) dX5_takeWhenAsking_103 (fun H locs hP hD hS => ?_)
          replace hP : va_P D se_cl (se_WS k h (se_u g2 6 8 1)) H := hP
          replace hD : va_D A (se_WS k h (se_u g2 6 8 1)) := hD
          refine lv_goto (tgt := 122) hx hb dX5_takeWhenAsking_106 (by decide) ?_
          exact se_rv hx hb hr hlocks hK hP hD hS dX5_takeWhenAsking_122 (by subst eg2; rw [← hF, F_S_takeWhenAsking_k1, if_neg c4])
    · refine lv_iload_n hx hb dX5_takeWhenAsking_49 rfl (lv_at hl 1 rfl) ?_
      refine lv_if_eq (tgt := 122) hx hb dX5_takeWhenAsking_50 (by decide) (fun c5 => ?_) (fun c5 => ?_)
      · exact se_rv hx hb hr hlocks hK hP hD hS dX5_takeWhenAsking_122 (by rw [← hF, F_S_takeWhenAsking_j38, if_neg c2, if_pos c5])
      · refine lv_aload_n hx hb dX5_takeWhenAsking_53 rfl (lv_at hl 0 rfl) ?_
        refine lv_bipush (v := 11) hx hb dX5_takeWhenAsking_54 (by decide) ?_
        refine se_cvE (va_runV (C := RX5) (As := [.int 11]) (rest := []) ⟨hx, hb, hml, hown, hts⟩ (c_S_halt l D k h _ gj38 11) (se_kV 1 hts q_code_X5_halt qX5_m132 q_ini_StreamEnd q_instanceMethod_X5_halt q_sel_X5_halt (by decide +kernel) ⟨Nat.le_of_ble_eq_true rfl, Nat.le_of_ble_eq_true rfl⟩ rfl rfl) ⟨se_blind se_ZN_ok, va_recv hK hP (ci := 5) (q0 := 0) rfl rfl, se_pre se_ZN_ok hP hK hD hZ⟩ rfl rfl hl.1 rfl (lv_room (Nat.le_of_ble_eq_true rfl)) dX5_takeWhenAsking_56 ⟨Nat.zero_le _, Nat.zero_le _⟩) hD hS hA (fun g3 H locs eg3 hP hD hS => ?_)
        refine lv_goto (tgt := 122) hx hb dX5_takeWhenAsking_59 (by decide) ?_
        exact se_rv hx hb hr hlocks hK hP hD hS dX5_takeWhenAsking_122 (by subst eg3; rw [← hF, F_S_takeWhenAsking_j38, if_neg c2, if_neg c5])
  have hF : F_S_takeWhenAsking g = F_S_takeWhenAsking g := rfl
  refine lv_aload_n hx hb dX5_takeWhenAsking_0 rfl (lv_at hl 0 rfl) ?_
  refine va_get (D := D) (ci := 5) (v := .ref (h 7)) (C := RX5) (T := TX5) (N := 12) hx hb hts (se_iw iwX5) hown hK hP 0 rfl rfl 6 (by decide) (hts _ (List.mem_cons_of_mem _ qX5_f49)) (fun _ h9 => h9) rfl dX5_takeWhenAsking_1 ?_
  refine lv_bipush (v := 8) hx hb dX5_takeWhenAsking_4 (by decide) ?_
  refine se_cp (va_runVN (C := RX3) (As := [.int 8]) (rest := []) ⟨hx, hb, hml, hown, hts⟩ (c_S_Segment_has_7 l D k h _ g 8) (se_kVN 1 hts q_code_X3_has (hZ _ nX5_m338 rfl) q_ini_StreamEnd_Segment q_instanceMethod_X3_has q_sel_X3_has (by decide +kernel) ⟨Nat.le_of_ble_eq_true rfl, Nat.le_of_ble_eq_true rfl⟩ rfl rfl) ⟨se_blind se_ZN_ok, va_recv hK hP (ci := 3) (q0 := 7) rfl rfl, se_pre se_ZN_ok hP hK hD hZ⟩ rfl rfl hl.1 rfl (lv_room (Nat.le_of_ble_eq_true rfl)) dX5_takeWhenAsking_6 ⟨Nat.zero_le _, Nat.zero_le _⟩) ?_
  refine lv_istore_n (lv' := [(1, .int (F_S_Segment_has_7 g 8)), (0, .ref (h 0))]) hx hb dX5_takeWhenAsking_9 rfl hl (by decide) rfl (fun ls hl => ?_)
  refine lv_iload_n hx hb dX5_takeWhenAsking_10 rfl (lv_at hl 0 rfl) ?_
  refine lv_if_eq (tgt := 38) hx hb dX5_takeWhenAsking_11 (by decide) (fun c1 => ?_) (fun c1 => ?_)
  · exact J38 g (F_S_Segment_has_7 g 8) _ _ ls (by rw [F_S_takeWhenAsking, if_pos c1]) hP hD hS (lv_sub hl [1, 0] rfl)
  · refine lv_aload_n hx hb dX5_takeWhenAsking_14 rfl (lv_at hl 1 rfl) ?_
    refine va_get (D := D) (ci := 5) (v := .ref (h 7)) (C := RX5) (T := TX5) (N := 12) hx hb hts (se_iw iwX5) hown hK hP 0 rfl rfl 6 (by decide) (hts _ (List.mem_cons_of_mem _ qX5_f49)) (fun _ h9 => h9) rfl dX5_takeWhenAsking_15 ?_
    refine va_getN (D := D) (ci := 3) (v := .int (g 7 4)) (C := RX3) (T := TX3) (N := 7) hx hb hts (se_iw iwX3) hown hK hP 7 rfl rfl 4 (by decide) (va_Nw.use rfl (hZ _ nX5_f223 rfl)) (fun _ h9 => h9) rfl dX5_takeWhenAsking_18 ?_
    refine lv_aload_n hx hb dX5_takeWhenAsking_21 rfl (lv_at hl 1 rfl) ?_
    refine va_get (D := D) (ci := 5) (v := .ref (h 1)) (C := RX5) (T := TX5) (N := 12) hx hb hts (se_iw iwX5) hown hK hP 0 rfl rfl 2 (by decide) (hts _ (List.mem_cons_of_mem _ qX5_f21)) (fun _ h9 => h9) rfl dX5_takeWhenAsking_22 ?_
    refine va_getN (D := D) (ci := 2) (v := .int (g 1 6)) (C := RX2) (T := TX2) (N := 13) hx hb hts (se_iw iwX2) hown hK hP 1 rfl rfl 6 (by decide) (va_Nw.use rfl (hZ _ nX5_f137 rfl)) (fun _ h9 => h9) rfl dX5_takeWhenAsking_25 ?_
    refine lv_icmp_eq (tgt := 38) hx hb dX5_takeWhenAsking_28 (by decide) (fun c6 => ?_) (fun c6 => ?_)
    · exact J38 g (F_S_Segment_has_7 g 8) _ _ ls (by rw [F_S_takeWhenAsking, if_neg c1, if_pos c6]) hP hD hS (lv_sub hl [1, 0] rfl)
    · refine lv_aload_n hx hb dX5_takeWhenAsking_31 rfl (lv_at hl 1 rfl) ?_
      refine se_cvE (va_runV (C := RX5) (As := []) (rest := []) ⟨hx, hb, hml, hown, hts⟩ (c_S_answerWithReset l D k h _ g) (se_kV 0 hts q_code_X5_answerWithReset qX5_m372 q_ini_StreamEnd q_instanceMethod_X5_answerWithReset q_sel_X5_answerWithReset (by decide +kernel) ⟨Nat.le_of_ble_eq_true rfl, Nat.le_of_ble_eq_true rfl⟩ rfl rfl) ⟨se_blind se_ZN_ok, va_recv hK hP (ci := 5) (q0 := 0) rfl rfl, se_pre se_ZN_ok hP hK hD hZ⟩ rfl rfl hl.1 rfl (lv_room (Nat.le_of_ble_eq_true rfl)) dX5_takeWhenAsking_32 ⟨Nat.zero_le _, Nat.zero_le _⟩) hD hS hA (fun g4 H locs eg4 hP hD hS => ?_)
      refine lv_goto (tgt := 122) hx hb dX5_takeWhenAsking_35 (by decide) ?_
      exact se_rv hx hb hr hlocks hK hP hD hS dX5_takeWhenAsking_122 (by subst eg4; rw [F_S_takeWhenAsking, if_neg c1, if_neg c6])
