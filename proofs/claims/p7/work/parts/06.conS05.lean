/-! written by program (wip/gen) -/
set_option maxRecDepth 100000 in
set_option maxHeartbeats 4000000 in
theorem c_S_Incoming_fits (l : Launch) (D : va_G) (k : Nat → ClassId) (h : Nat → Nat) (sz : Nat) (g : se_G) (p1 : Int32) (p2 : Int32) : Met l yX1_fits (se_w_X1_fits) ({ frames := 1, cells := 0, slots := 0, locals := 20 }) (va_Pc [.ref (h 3), .int p1, .int p2] (se_Pre D se_cl [(k 2, .byte), (k 4, .int), (k 8, .byte), (k 10, .byte)] (se_WS k h g) se_ZN sz)) (se_Qp (F_S_Incoming_fits g p1 p2)) 0 0 (fun _ => False) := by
  refine se_metP (cc := cX1_fits) (maxL := 4) (ret := (some .boolean)) (by decide) rfl (Nat.le_of_ble_eq_true rfl) ?_
  intro p e s m below meth c ls A hx hb hr hts hown hlocks hml hA hP hK hD hS hZ hl
  replace hl : lv_has ls 4 [(0, .ref (h 3)), (1, .int p1), (2, .int p2)] := hl
  have hF : F_S_Incoming_fits g p1 p2 = F_S_Incoming_fits g p1 p2 := rfl
  refine lv_iload_n hx hb dX1_fits_0 rfl (lv_at hl 1 rfl) ?_
  refine lv_aload_n hx hb dX1_fits_1 rfl (lv_at hl 0 rfl) ?_
  refine va_get (D := D) (ci := 1) (v := .int (g 3 2)) (C := RX1) (T := TX1) (N := 8) hx hb hts (se_iw iwX1) hown hK hP 3 rfl rfl 2 (by decide) (hts _ (List.mem_cons_of_mem _ qX1_f25)) (fun _ h9 => h9) rfl dX1_fits_2 ?_
  refine lv_isub hx hb dX1_fits_5 ?_
  refine lv_istore_n (lv' := [(3, .int (p1 - (g 3 2))), (0, .ref (h 3)), (1, .int p1), (2, .int p2)]) hx hb dX1_fits_6 rfl hl (by decide) rfl (fun ls hl => ?_)
  refine lv_iload_n hx hb dX1_fits_7 rfl (lv_at hl 3 rfl) ?_
  refine lv_if_ne (tgt := 33) hx hb dX1_fits_8 (by decide) (fun c1 => ?_) (fun c1 => ?_)
  · refine lv_aload_n hx hb dX1_fits_33 rfl (lv_at hl 1 rfl) ?_
    refine se_cp (va_runV (C := RX1) (As := []) (rest := []) ⟨hx, hb, hml, hown, hts⟩ (c_S_Incoming_room l D k h _ g) (se_kV 0 hts q_code_X1_room qX1_m44 q_ini_StreamEnd_Incoming q_instanceMethod_X1_room q_sel_X1_room (by decide +kernel) ⟨Nat.le_of_ble_eq_true rfl, Nat.le_of_ble_eq_true rfl⟩ rfl rfl) ⟨se_blind se_ZN_ok, va_recv hK hP (ci := 1) (q0 := 3) rfl rfl, se_pre se_ZN_ok hP hK hD hZ⟩ rfl rfl hl.1 rfl (lv_room (Nat.le_of_ble_eq_true rfl)) dX1_fits_34 ⟨Nat.zero_le _, Nat.zero_le _⟩) ?_
    refine lv_if_le (tgt := 58) hx hb dX1_fits_37 (by decide) (fun c2 => ?_) (fun c2 => ?_)
    · refine lv_iconst (v := 0) hx hb dX1_fits_58 (by decide) ?_
      exact se_rpz hx hb hr rfl hlocks dX1_fits_59 (by rw [F_S_Incoming_fits, if_neg c1, if_pos c2])
    · refine lv_iload_n hx hb dX1_fits_40 rfl (lv_at hl 0 rfl) ?_
      refine lv_iload_n hx hb dX1_fits_41 rfl (lv_at hl 3 rfl) ?_
      refine lv_ineg hx hb dX1_fits_42 ?_
      refine lv_icmp_le (tgt := 58) hx hb dX1_fits_43 (by decide) (fun c3 => ?_) (fun c3 => ?_)
      · refine lv_iconst (v := 0) hx hb dX1_fits_58 (by decide) ?_
        exact se_rpz hx hb hr rfl hlocks dX1_fits_59 (by rw [F_S_Incoming_fits, if_neg c1, if_neg c2, if_pos c3])
      · refine lv_iload_n hx hb dX1_fits_46 rfl (lv_at hl 0 rfl) ?_
        refine lv_aload_n hx hb dX1_fits_47 rfl (lv_at hl 1 rfl) ?_
        refine se_cp (va_runV (C := RX1) (As := []) (rest := [.int (p1 - (g 3 2))]) ⟨hx, hb, hml, hown, hts⟩ (c_S_Incoming_room l D k h _ g) (se_kV 0 hts q_code_X1_room qX1_m44 q_ini_StreamEnd_Incoming q_instanceMethod_X1_room q_sel_X1_room (by decide +kernel) ⟨Nat.le_of_ble_eq_true rfl, Nat.le_of_ble_eq_true rfl⟩ rfl rfl) ⟨se_blind se_ZN_ok, va_recv hK hP (ci := 1) (q0 := 3) rfl rfl, se_pre se_ZN_ok hP hK hD hZ⟩ rfl rfl hl.1 rfl (lv_room (Nat.le_of_ble_eq_true rfl)) dX1_fits_48 ⟨Nat.zero_le _, Nat.zero_le _⟩) ?_
        refine lv_icmp_ge (tgt := 58) hx hb dX1_fits_51 (by decide) (fun c4 => ?_) (fun c4 => ?_)
        · refine lv_iconst (v := 0) hx hb dX1_fits_58 (by decide) ?_
          exact se_rpz hx hb hr rfl hlocks dX1_fits_59 (by rw [F_S_Incoming_fits, if_neg c1, if_neg c2, if_neg c3, if_pos c4])
        · refine lv_iconst (v := 1) hx hb dX1_fits_54 (by decide) ?_
          refine lv_goto (tgt := 59) hx hb dX1_fits_55 (by decide) ?_
          exact se_rpz hx hb hr rfl hlocks dX1_fits_59 (by rw [F_S_Incoming_fits, if_neg c1, if_neg c2, if_neg c3, if_neg c4])
  · refine lv_iload_n hx hb dX1_fits_11 rfl (lv_at hl 0 rfl) ?_
    refine lv_if_eq (tgt := 27) hx hb dX1_fits_12 (by decide) (fun c5 => ?_) (fun c5 => ?_)
    · refine lv_iconst (v := 1) hx hb dX1_fits_27 (by decide) ?_
      refine lv_goto (tgt := 32) hx hb dX1_fits_28 (by decide) ?_
      exact se_rpz hx hb hr rfl hlocks dX1_fits_32 (by rw [F_S_Incoming_fits, if_pos c1, if_pos c5])
    · refine lv_iload_n hx hb dX1_fits_15 rfl (lv_at hl 0 rfl) ?_
      refine lv_if_le (tgt := 31) hx hb dX1_fits_16 (by decide) (fun c6 => ?_) (fun c6 => ?_)
      · refine lv_iconst (v := 0) hx hb dX1_fits_31 (by decide) ?_
        exact se_rpz hx hb hr rfl hlocks dX1_fits_32 (by rw [F_S_Incoming_fits, if_pos c1, if_neg c5, if_pos c6])
      · refine lv_iload_n hx hb dX1_fits_19 rfl (lv_at hl 0 rfl) ?_
        refine lv_aload_n hx hb dX1_fits_20 rfl (lv_at hl 1 rfl) ?_
        refine se_cp (va_runV (C := RX1) (As := []) (rest := [.int (p1 - (g 3 2))]) ⟨hx, hb, hml, hown, hts⟩ (c_S_Incoming_room l D k h _ g) (se_kV 0 hts q_code_X1_room qX1_m44 q_ini_StreamEnd_Incoming q_instanceMethod_X1_room q_sel_X1_room (by decide +kernel) ⟨Nat.le_of_ble_eq_true rfl, Nat.le_of_ble_eq_true rfl⟩ rfl rfl) ⟨se_blind se_ZN_ok, va_recv hK hP (ci := 1) (q0 := 3) rfl rfl, se_pre se_ZN_ok hP hK hD hZ⟩ rfl rfl hl.1 rfl (lv_room (Nat.le_of_ble_eq_true rfl)) dX1_fits_21 ⟨Nat.zero_le _, Nat.zero_le _⟩) ?_
        refine lv_icmp_ge (tgt := 31) hx hb dX1_fits_24 (by decide) (fun c7 => ?_) (fun c7 => ?_)
        · refine lv_iconst (v := 0) hx hb dX1_fits_31 (by decide) ?_
          exact se_rpz hx hb hr rfl hlocks dX1_fits_32 (by rw [F_S_Incoming_fits, if_pos c1, if_neg c5, if_neg c6, if_pos c7])
        · refine lv_iconst (v := 1) hx hb dX1_fits_27 (by decide) ?_
          refine lv_goto (tgt := 32) hx hb dX1_fits_28 (by decide) ?_
          exact se_rpz hx hb hr rfl hlocks dX1_fits_32 (by rw [F_S_Incoming_fits, if_pos c1, if_neg c5, if_neg c6, if_neg c7])
set_option maxRecDepth 100000 in
set_option maxHeartbeats 4000000 in
theorem c_S_isBefore (l : Launch) (D : va_G) (k : Nat → ClassId) (h : Nat → Nat) (sz : Nat) (g : se_G) (p0 : Int32) (p1 : Int32) : Met l yX5_isBefore (se_w_X5_isBefore) ({ frames := 0, cells := 0, slots := 0, locals := 0 }) (va_Pc [.int p0, .int p1] (se_Pre D se_cl [(k 2, .byte), (k 4, .int), (k 8, .byte), (k 10, .byte)] (se_WS k h g) se_ZN sz)) (se_Qp (F_S_isBefore p0 p1)) 0 0 (fun _ => False) := by
  refine se_metP (cc := cX5_isBefore) (maxL := 2) (ret := (some .boolean)) (by decide) rfl (Nat.le_of_ble_eq_true rfl) ?_
  intro p e s m below meth c ls A hx hb hr hts hown hlocks hml hA hP hK hD hS hZ hl
  replace hl : lv_has ls 2 [(0, .int p0), (1, .int p1)] := hl
  have hF : F_S_isBefore p0 p1 = F_S_isBefore p0 p1 := rfl
  refine lv_iload_n hx hb dX5_isBefore_0 rfl (lv_at hl 1 rfl) ?_
  refine lv_iload_n hx hb dX5_isBefore_1 rfl (lv_at hl 0 rfl) ?_
  refine lv_isub hx hb dX5_isBefore_2 ?_
  refine lv_if_le (tgt := 10) hx hb dX5_isBefore_3 (by decide) (fun c1 => ?_) (fun c1 => ?_)
  · refine lv_iconst (v := 0) hx hb dX5_isBefore_10 (by decide) ?_
    exact se_rpz hx hb hr rfl hlocks dX5_isBefore_11 (by rw [F_S_isBefore, if_pos c1])
  · refine lv_iconst (v := 1) hx hb dX5_isBefore_6 (by decide) ?_
    refine lv_goto (tgt := 11) hx hb dX5_isBefore_7 (by decide) ?_
    exact se_rpz hx hb hr rfl hlocks dX5_isBefore_11 (by rw [F_S_isBefore, if_neg c1])
set_option maxRecDepth 100000 in
set_option maxHeartbeats 4000000 in
theorem c_S_isNotBehind (l : Launch) (D : va_G) (k : Nat → ClassId) (h : Nat → Nat) (sz : Nat) (g : se_G) (p0 : Int32) (p1 : Int32) : Met l yX5_isNotBehind (se_w_X5_isNotBehind) ({ frames := 0, cells := 0, slots := 0, locals := 0 }) (va_Pc [.int p0, .int p1] (se_Pre D se_cl [(k 2, .byte), (k 4, .int), (k 8, .byte), (k 10, .byte)] (se_WS k h g) se_ZN sz)) (se_Qp (F_S_isNotBehind p0 p1)) 0 0 (fun _ => False) := by
  refine se_metP (cc := cX5_isNotBehind) (maxL := 2) (ret := (some .boolean)) (by decide) rfl (Nat.le_of_ble_eq_true rfl) ?_
  intro p e s m below meth c ls A hx hb hr hts hown hlocks hml hA hP hK hD hS hZ hl
  replace hl : lv_has ls 2 [(0, .int p0), (1, .int p1)] := hl
  have hF : F_S_isNotBehind p0 p1 = F_S_isNotBehind p0 p1 := rfl
  refine lv_iload_n hx hb dX5_isNotBehind_0 rfl (lv_at hl 1 rfl) ?_
  refine lv_iload_n hx hb dX5_isNotBehind_1 rfl (lv_at hl 0 rfl) ?_
  refine lv_isub hx hb dX5_isNotBehind_2 ?_
  refine lv_if_lt (tgt := 10) hx hb dX5_isNotBehind_3 (by decide) (fun c1 => ?_) (fun c1 => ?_)
  · refine lv_iconst (v := 0) hx hb dX5_isNotBehind_10 (by decide) ?_
    exact se_rpz hx hb hr rfl hlocks dX5_isNotBehind_11 (by rw [F_S_isNotBehind, if_pos c1])
  · refine lv_iconst (v := 1) hx hb dX5_isNotBehind_6 (by decide) ?_
    refine lv_goto (tgt := 11) hx hb dX5_isNotBehind_7 (by decide) ?_
    exact se_rpz hx hb hr rfl hlocks dX5_isNotBehind_11 (by rw [F_S_isNotBehind, if_neg c1])
set_option maxRecDepth 100000 in
set_option maxHeartbeats 4000000 in
theorem c_S_Outgoing_windowIsOlderThan (l : Launch) (D : va_G) (k : Nat → ClassId) (h : Nat → Nat) (sz : Nat) (g : se_G)  : Met l yX2_windowIsOlderThan (se_w_X2_windowIsOlderThan) ({ frames := 1, cells := 0, slots := 0, locals := 21 }) (va_Pc [.ref (h 1), .ref (h 7)] (se_Pre D se_cl [(k 2, .byte), (k 4, .int), (k 8, .byte), (k 10, .byte)] (se_WS k h g) se_ZN sz)) (se_Qp (F_S_Outgoing_windowIsOlderThan g)) 0 0 (fun _ => False) := by
  refine se_metP (cc := cX2_windowIsOlderThan) (maxL := 2) (ret := (some .boolean)) (by decide) rfl (Nat.le_of_ble_eq_true rfl) ?_
  intro p e s m below meth c ls A hx hb hr hts hown hlocks hml hA hP hK hD hS hZ hl
  replace hl : lv_has ls 2 [(0, .ref (h 1)), (1, .ref (h 7))] := hl
  have hF : F_S_Outgoing_windowIsOlderThan g = F_S_Outgoing_windowIsOlderThan g := rfl
  refine lv_aload_n hx hb dX2_windowIsOlderThan_0 rfl (lv_at hl 0 rfl) ?_
  refine va_get (D := D) (ci := 2) (v := .int (g 1 11)) (C := RX2) (T := TX2) (N := 13) hx hb hts (se_iw iwX2) hown hK hP 1 rfl rfl 11 (by decide) (hts _ (List.mem_cons_of_mem _ qX2_f84)) (fun _ h9 => h9) rfl dX2_windowIsOlderThan_1 ?_
  refine lv_aload_n hx hb dX2_windowIsOlderThan_4 rfl (lv_at hl 1 rfl) ?_
  refine va_getN (D := D) (ci := 3) (v := .int (g 7 3)) (C := RX3) (T := TX3) (N := 7) hx hb hts (se_iw iwX3) hown hK hP 7 rfl rfl 3 (by decide) (va_Nw.use rfl (hZ _ nX2_f90 rfl)) (fun _ h9 => h9) rfl dX2_windowIsOlderThan_5 ?_
  refine se_cp (va_runSN (As := [.int (g 1 11), .int (g 7 3)]) (rest := []) ⟨hx, hb, hml, hown, hts⟩ (c_S_isBefore l D k h _ g (g 1 11) (g 7 3)) (se_kSN 2 hts q_code_X5_isBefore (hZ _ nX2_m93 rfl) q_ini_StreamEnd q_static_X5_isBefore (by decide +kernel) ⟨Nat.le_of_ble_eq_true rfl, Nat.le_of_ble_eq_true rfl⟩ rfl rfl) ⟨se_blind se_ZN_ok, se_pre se_ZN_ok hP hK hD hZ⟩ rfl rfl hl.1 rfl (lv_room (Nat.le_of_ble_eq_true rfl)) dX2_windowIsOlderThan_8 ⟨Nat.zero_le _, Nat.zero_le _⟩) ?_
  refine lv_if_ne (tgt := 39) hx hb dX2_windowIsOlderThan_11 (by decide) (fun c1 => ?_) (fun c1 => ?_)
  · refine lv_iconst (v := 1) hx hb dX2_windowIsOlderThan_39 (by decide) ?_
    refine lv_goto (tgt := 44) hx hb dX2_windowIsOlderThan_40 (by decide) ?_
    exact se_rpz hx hb hr rfl hlocks dX2_windowIsOlderThan_44 (by rw [F_S_Outgoing_windowIsOlderThan, if_neg c1])
  · refine lv_aload_n hx hb dX2_windowIsOlderThan_14 rfl (lv_at hl 0 rfl) ?_
    refine va_get (D := D) (ci := 2) (v := .int (g 1 11)) (C := RX2) (T := TX2) (N := 13) hx hb hts (se_iw iwX2) hown hK hP 1 rfl rfl 11 (by decide) (hts _ (List.mem_cons_of_mem _ qX2_f84)) (fun _ h9 => h9) rfl dX2_windowIsOlderThan_15 ?_
    refine lv_aload_n hx hb dX2_windowIsOlderThan_18 rfl (lv_at hl 1 rfl) ?_
    refine va_getN (D := D) (ci := 3) (v := .int (g 7 3)) (C := RX3) (T := TX3) (N := 7) hx hb hts (se_iw iwX3) hown hK hP 7 rfl rfl 3 (by decide) (va_Nw.use rfl (hZ _ nX2_f90 rfl)) (fun _ h9 => h9) rfl dX2_windowIsOlderThan_19 ?_
    refine lv_icmp_ne (tgt := 43) hx hb dX2_windowIsOlderThan_22 (by decide) (fun c2 => ?_) (fun c2 => ?_)
    · refine lv_iconst (v := 0) hx hb dX2_windowIsOlderThan_43 (by decide) ?_
      exact se_rpz hx hb hr rfl hlocks dX2_windowIsOlderThan_44 (by rw [F_S_Outgoing_windowIsOlderThan, if_pos c1, if_neg c2])
    · refine lv_aload_n hx hb dX2_windowIsOlderThan_25 rfl (lv_at hl 0 rfl) ?_
      refine va_get (D := D) (ci := 2) (v := .int (g 1 12)) (C := RX2) (T := TX2) (N := 13) hx hb hts (se_iw iwX2) hown hK hP 1 rfl rfl 12 (by decide) (hts _ (List.mem_cons_of_mem _ qX2_f87)) (fun _ h9 => h9) rfl dX2_windowIsOlderThan_26 ?_
      refine lv_aload_n hx hb dX2_windowIsOlderThan_29 rfl (lv_at hl 1 rfl) ?_
      refine va_getN (D := D) (ci := 3) (v := .int (g 7 4)) (C := RX3) (T := TX3) (N := 7) hx hb hts (se_iw iwX3) hown hK hP 7 rfl rfl 4 (by decide) (va_Nw.use rfl (hZ _ nX2_f97 rfl)) (fun _ h9 => h9) rfl dX2_windowIsOlderThan_30 ?_
      refine se_cp (va_runSN (As := [.int (g 1 12), .int (g 7 4)]) (rest := []) ⟨hx, hb, hml, hown, hts⟩ (c_S_isNotBehind l D k h _ g (g 1 12) (g 7 4)) (se_kSN 2 hts q_code_X5_isNotBehind (hZ _ nX2_m100 rfl) q_ini_StreamEnd q_static_X5_isNotBehind (by decide +kernel) ⟨Nat.le_of_ble_eq_true rfl, Nat.le_of_ble_eq_true rfl⟩ rfl rfl) ⟨se_blind se_ZN_ok, se_pre se_ZN_ok hP hK hD hZ⟩ rfl rfl hl.1 rfl (lv_room (Nat.le_of_ble_eq_true rfl)) dX2_windowIsOlderThan_33 ⟨Nat.zero_le _, Nat.zero_le _⟩) ?_
      refine lv_if_eq (tgt := 43) hx hb dX2_windowIsOlderThan_36 (by decide) (fun c3 => ?_) (fun c3 => ?_)
      · refine lv_iconst (v := 0) hx hb dX2_windowIsOlderThan_43 (by decide) ?_
        exact se_rpz hx hb hr rfl hlocks dX2_windowIsOlderThan_44 (by rw [F_S_Outgoing_windowIsOlderThan, if_pos c1, if_pos c2, if_pos c3])
      · refine lv_iconst (v := 1) hx hb dX2_windowIsOlderThan_39 (by decide) ?_
        refine lv_goto (tgt := 44) hx hb dX2_windowIsOlderThan_40 (by decide) ?_
        exact se_rpz hx hb hr rfl hlocks dX2_windowIsOlderThan_44 (by rw [F_S_Outgoing_windowIsOlderThan, if_pos c1, if_pos c2, if_neg c3])
set_option maxRecDepth 100000 in
set_option maxHeartbeats 4000000 in
theorem c_S_takeWindow (l : Launch) (D : va_G) (k : Nat → ClassId) (h : Nat → Nat) (sz : Nat) (g : se_G)  : Met l yX5_takeWindow (se_w_X5_takeWindow) ({ frames := 2, cells := 0, slots := 0, locals := 42 }) (va_Pc [.ref (h 0)] (se_Pre D se_cl [(k 2, .byte), (k 4, .int), (k 8, .byte), (k 10, .byte)] (se_WS k h g) se_ZN sz)) (se_Qv D se_cl [(k 2, .byte), (k 4, .int), (k 8, .byte), (k 10, .byte)] (se_WS k h) (F_S_takeWindow g) (va_A (se_WS k h g) sz)) 0 0 (va_A (se_WS k h g) sz) := by
  refine se_met (Qc := se_Qv D se_cl [(k 2, .byte), (k 4, .int), (k 8, .byte), (k 10, .byte)] (se_WS k h) (F_S_takeWindow g)) (cc := cX5_takeWindow) (maxL := 2) (ret := none) (by decide) rfl (Nat.le_of_ble_eq_true rfl) ?_
  intro p e s m below meth c ls A hx hb hr hts hown hlocks hml hA hP hK hD hS hZ hl
  replace hl : lv_has ls 2 [(0, .ref (h 0))] := hl
  have J119 : ∀ (gj119 : se_G) (v1_119 : Int32) (H : Heap) (locs : List Loc) (ls : Array Slot), F_S_takeWindow_j119 gj119 v1_119 = F_S_takeWindow g → va_P D se_cl (se_WS k h gj119) H → va_D A (se_WS k h gj119) → va_S A s.heap H locs → lv_has ls 2 [(0, .ref (h 0)), (1, .int v1_119)] → W p l e ({ frames := 2, cells := 0, slots := 0, locals := 42 }) s m [.ref (h 0)].toArray below meth c H locs 0 0 (MQ below (se_Qv D se_cl [(k 2, .byte), (k 4, .int), (k 8, .byte), (k 10, .byte)] (se_WS k h) (F_S_takeWindow g) A) [.ref (h 0)].toArray s 0 0 A) (F0 m 119 ls []) := by
    intro gj119 v1_119 H locs ls hF hP hD hS hl
    refine lv_iload_n hx hb dX5_takeWindow_119 rfl (lv_at hl 1 rfl) ?_
    refine lv_if_ne (tgt := 133) hx hb dX5_takeWindow_120 (by decide) (fun c7 => ?_) (fun c7 => ?_)
    · refine lv_aload_n hx hb dX5_takeWindow_133 rfl (lv_at hl 0 rfl) ?_
      refine va_get (D := D) (ci := 5) (v := .ref (h 5)) (C := RX5) (T := TX5) (N := 12) hx hb hts (se_iw iwX5) hown hK hP 0 rfl rfl 4 (by decide) (hts _ (List.mem_cons_of_mem _ qX5_f35)) (fun _ h9 => h9) rfl dX5_takeWindow_134 ?_
      refine lv_iconst (v := 0) hx hb dX5_takeWindow_137 (by decide) ?_
      refine va_putN (D := D) (ci := 4) (v := .int 0) (ty := .int) (C := RX4) (T := TX4) (N := 11) hx hb hts (se_iw iwX4) tyX4 tyX4_ok nmX4 hown hK hP hD hS 5 rfl rfl 3 (by decide) (va_Nw.use rfl (hZ _ nX5_f270 rfl)) (fun _ h9 => h9) rfl (by decide +kernel) rfl rfl (Nat.le_of_ble_eq_true rfl) dX5_takeWindow_138 (fun H locs hP hD hS => ?_)
      replace hP : va_P D se_cl (se_WS k h (se_u gj119 5 3 0)) H := hP
      replace hD : va_D A (se_WS k h (se_u gj119 5 3 0)) := hD
      exact se_rv hx hb hr hlocks hK hP hD hS dX5_takeWindow_141 (by rw [← hF, F_S_takeWindow_j119, if_neg c7])
    · refine lv_aload_n hx hb dX5_takeWindow_123 rfl (lv_at hl 0 rfl) ?_
      refine va_get (D := D) (ci := 5) (v := .ref (h 7)) (C := RX5) (T := TX5) (N := 12) hx hb hts (se_iw iwX5) hown hK hP 0 rfl rfl 6 (by decide) (hts _ (List.mem_cons_of_mem _ qX5_f49)) (fun _ h9 => h9) rfl dX5_takeWindow_124 ?_
      refine va_getN (D := D) (ci := 3) (v := .int (gj119 7 5)) (C := RX3) (T := TX3) (N := 7) hx hb hts (se_iw iwX3) hown hK hP 7 rfl rfl 5 (by decide) (va_Nw.use rfl (hZ _ nX5_f226 rfl)) (fun _ h9 => h9) rfl dX5_takeWindow_127 ?_
      refine lv_if_ne (tgt := 141) hx hb dX5_takeWindow_130 (by decide) (fun c8 => ?_) (fun c8 => ?_)
      · exact se_rv hx hb hr hlocks hK hP hD hS dX5_takeWindow_141 (by rw [← hF, F_S_takeWindow_j119, if_pos c7, if_neg c8])
      · refine lv_aload_n hx hb dX5_takeWindow_133 rfl (lv_at hl 0 rfl) ?_
        refine va_get (D := D) (ci := 5) (v := .ref (h 5)) (C := RX5) (T := TX5) (N := 12) hx hb hts (se_iw iwX5) hown hK hP 0 rfl rfl 4 (by decide) (hts _ (List.mem_cons_of_mem _ qX5_f35)) (fun _ h9 => h9) rfl dX5_takeWindow_134 ?_
        refine lv_iconst (v := 0) hx hb dX5_takeWindow_137 (by decide) ?_
        refine va_putN (D := D) (ci := 4) (v := .int 0) (ty := .int) (C := RX4) (T := TX4) (N := 11) hx hb hts (se_iw iwX4) tyX4 tyX4_ok nmX4 hown hK hP hD hS 5 rfl rfl 3 (by decide) (va_Nw.use rfl (hZ _ nX5_f270 rfl)) (fun _ h9 => h9) rfl (by decide +kernel) rfl rfl (Nat.le_of_ble_eq_true rfl) dX5_takeWindow_138 (fun H locs hP hD hS => ?_)
        replace hP : va_P D se_cl (se_WS k h (se_u gj119 5 3 0)) H := hP
        replace hD : va_D A (se_WS k h (se_u gj119 5 3 0)) := hD
        exact se_rv hx hb hr hlocks hK hP hD hS dX5_takeWindow_141 (by rw [← hF, F_S_takeWindow_j119, if_pos c7, if_pos c8])
  have hF : F_S_takeWindow g = F_S_takeWindow g := rfl
  refine lv_aload_n hx hb dX5_takeWindow_0 rfl (lv_at hl 0 rfl) ?_
  refine va_get (D := D) (ci := 5) (v := .ref (h 7)) (C := RX5) (T := TX5) (N := 12) hx hb hts (se_iw iwX5) hown hK hP 0 rfl rfl 6 (by decide) (hts _ (List.mem_cons_of_mem _ qX5_f49)) (fun _ h9 => h9) rfl dX5_takeWindow_1 ?_
  refine va_getN (D := D) (ci := 3) (v := .int (g 7 4)) (C := RX3) (T := TX3) (N := 7) hx hb hts (se_iw iwX3) hown hK hP 7 rfl rfl 4 (by decide) (va_Nw.use rfl (hZ _ nX5_f223 rfl)) (fun _ h9 => h9) rfl dX5_takeWindow_4 ?_
  refine lv_aload_n hx hb dX5_takeWindow_7 rfl (lv_at hl 0 rfl) ?_
  refine va_get (D := D) (ci := 5) (v := .ref (h 1)) (C := RX5) (T := TX5) (N := 12) hx hb hts (se_iw iwX5) hown hK hP 0 rfl rfl 2 (by decide) (hts _ (List.mem_cons_of_mem _ qX5_f21)) (fun _ h9 => h9) rfl dX5_takeWindow_8 ?_
  refine va_getN (D := D) (ci := 2) (v := .int (g 1 5)) (C := RX2) (T := TX2) (N := 13) hx hb hts (se_iw iwX2) hown hK hP 1 rfl rfl 5 (by decide) (va_Nw.use rfl (hZ _ nX5_f259 rfl)) (fun _ h9 => h9) rfl dX5_takeWindow_11 ?_
  refine se_cp (va_runS (As := [.int (g 7 4), .int (g 1 5)]) (rest := []) ⟨hx, hb, hml, hown, hts⟩ (c_S_isBefore l D k h _ g (g 7 4) (g 1 5)) (se_kS 2 hts q_code_X5_isBefore qX5_m408 q_ini_StreamEnd q_static_X5_isBefore (by decide +kernel) ⟨Nat.le_of_ble_eq_true rfl, Nat.le_of_ble_eq_true rfl⟩ rfl rfl) ⟨se_blind se_ZN_ok, se_pre se_ZN_ok hP hK hD hZ⟩ rfl rfl hl.1 rfl (lv_room (Nat.le_of_ble_eq_true rfl)) dX5_takeWindow_14 ⟨Nat.zero_le _, Nat.zero_le _⟩) ?_
  refine lv_if_ne (tgt := 34) hx hb dX5_takeWindow_17 (by decide) (fun c1 => ?_) (fun c1 => ?_)
  · exact se_rv hx hb hr hlocks hK hP hD hS dX5_takeWindow_34 (by rw [F_S_takeWindow, if_neg c1])
  · refine lv_aload_n hx hb dX5_takeWindow_20 rfl (lv_at hl 0 rfl) ?_
    refine va_get (D := D) (ci := 5) (v := .ref (h 1)) (C := RX5) (T := TX5) (N := 12) hx hb hts (se_iw iwX5) hown hK hP 0 rfl rfl 2 (by decide) (hts _ (List.mem_cons_of_mem _ qX5_f21)) (fun _ h9 => h9) rfl dX5_takeWindow_21 ?_
    refine lv_aload_n hx hb dX5_takeWindow_24 rfl (lv_at hl 0 rfl) ?_
    refine va_get (D := D) (ci := 5) (v := .ref (h 7)) (C := RX5) (T := TX5) (N := 12) hx hb hts (se_iw iwX5) hown hK hP 0 rfl rfl 6 (by decide) (hts _ (List.mem_cons_of_mem _ qX5_f49)) (fun _ h9 => h9) rfl dX5_takeWindow_25 ?_
    refine se_cp (va_runVN (C := RX2) (As := [.ref (h 7)]) (rest := []) ⟨hx, hb, hml, hown, hts⟩ (c_S_Outgoing_windowIsOlderThan l D k h _ g) (se_kVN 1 hts q_code_X2_windowIsOlderThan (hZ _ nX5_m429 rfl) q_ini_StreamEnd_Outgoing q_instanceMethod_X2_windowIsOlderThan q_sel_X2_windowIsOlderThan (by decide +kernel) ⟨Nat.le_of_ble_eq_true rfl, Nat.le_of_ble_eq_true rfl⟩ rfl rfl) ⟨se_blind se_ZN_ok, va_recv hK hP (ci := 2) (q0 := 1) rfl rfl, se_pre se_ZN_ok hP hK hD hZ⟩ rfl rfl hl.1 rfl (lv_room (Nat.le_of_ble_eq_true rfl)) dX5_takeWindow_28 ⟨Nat.zero_le _, Nat.zero_le _⟩) ?_
    refine lv_if_ne (tgt := 35) hx hb dX5_takeWindow_31 (by decide) (fun c2 => ?_) (fun c2 => ?_)
    · refine lv_aload_n hx hb dX5_takeWindow_35 rfl (lv_at hl 0 rfl) ?_
      refine va_get (D := D) (ci := 5) (v := .ref (h 1)) (C := RX5) (T := TX5) (N := 12) hx hb hts (se_iw iwX5) hown hK hP 0 rfl rfl 2 (by decide) (hts _ (List.mem_cons_of_mem _ qX5_f21)) (fun _ h9 => h9) rfl dX5_takeWindow_36 ?_
      refine va_getN (D := D) (ci := 2) (v := .int (g 1 10)) (C := RX2) (T := TX2) (N := 13) hx hb hts (se_iw iwX2) hown hK hP 1 rfl rfl 10 (by decide) (va_Nw.use rfl (hZ _ nX5_f262 rfl)) (fun _ h9 => h9) rfl dX5_takeWindow_39 ?_
      refine se_join (v := ((if (g 1 10) = 0 then ((if (g 7 5) = 0 then 0 else 1) : Int32) else 0) : Int32)) (pcJ := 60) (restJ := []) (ls := ls) (fun T => ?_) ?_
      · refine lv_if_ne (tgt := 59) hx hb dX5_takeWindow_42 (by decide) (fun c4 => ?_) (fun c4 => ?_)
        · refine lv_iconst (v := 0) hx hb dX5_takeWindow_59 (by decide) ?_
          exact T _ (by rw [if_neg c4])
        · refine lv_aload_n hx hb dX5_takeWindow_45 rfl (lv_at hl 0 rfl) ?_
          refine va_get (D := D) (ci := 5) (v := .ref (h 7)) (C := RX5) (T := TX5) (N := 12) hx hb hts (se_iw iwX5) hown hK hP 0 rfl rfl 6 (by decide) (hts _ (List.mem_cons_of_mem _ qX5_f49)) (fun _ h9 => h9) rfl dX5_takeWindow_46 ?_
          refine va_getN (D := D) (ci := 3) (v := .int (g 7 5)) (C := RX3) (T := TX3) (N := 7) hx hb hts (se_iw iwX3) hown hK hP 7 rfl rfl 5 (by decide) (va_Nw.use rfl (hZ _ nX5_f226 rfl)) (fun _ h9 => h9) rfl dX5_takeWindow_49 ?_
          refine lv_if_eq (tgt := 59) hx hb dX5_takeWindow_52 (by decide) (fun c5 => ?_) (fun c5 => ?_)
          · refine lv_iconst (v := 0) hx hb dX5_takeWindow_59 (by decide) ?_
            exact T _ (by rw [if_pos c4, if_pos c5])
          · refine lv_iconst (v := 1) hx hb dX5_takeWindow_55 (by decide) ?_
            refine lv_goto (tgt := 60) hx hb dX5_takeWindow_56 (by decide) ?_
            exact T _ (by rw [if_pos c4, if_neg c5])
      refine lv_istore_n (lv' := [(1, .int ((if (g 1 10) = 0 then ((if (g 7 5) = 0 then 0 else 1) : Int32) else 0) : Int32)), (0, .ref (h 0))]) hx hb dX5_takeWindow_60 rfl hl (by decide) rfl (fun ls hl => ?_)
      refine lv_aload_n hx hb dX5_takeWindow_61 rfl (lv_at hl 1 rfl) ?_
      refine va_get (D := D) (ci := 5) (v := .ref (h 1)) (C := RX5) (T := TX5) (N := 12) hx hb hts (se_iw iwX5) hown hK hP 0 rfl rfl 2 (by decide) (hts _ (List.mem_cons_of_mem _ qX5_f21)) (fun _ h9 => h9) rfl dX5_takeWindow_62 ?_
      refine lv_aload_n hx hb dX5_takeWindow_65 rfl (lv_at hl 1 rfl) ?_
      refine va_get (D := D) (ci := 5) (v := .ref (h 7)) (C := RX5) (T := TX5) (N := 12) hx hb hts (se_iw iwX5) hown hK hP 0 rfl rfl 6 (by decide) (hts _ (List.mem_cons_of_mem _ qX5_f49)) (fun _ h9 => h9) rfl dX5_takeWindow_66 ?_
      refine va_getN (D := D) (ci := 3) (v := .int (g 7 5)) (C := RX3) (T := TX3) (N := 7) hx hb hts (se_iw iwX3) hown hK hP 7 rfl rfl 5 (by decide) (va_Nw.use rfl (hZ _ nX5_f226 rfl)) (fun _ h9 => h9) rfl dX5_takeWindow_69 ?_
      refine lv_aload_n hx hb dX5_takeWindow_72 rfl (lv_at hl 1 rfl) ?_
      refine va_get (D := D) (ci := 5) (v := .ref (h 7)) (C := RX5) (T := TX5) (N := 12) hx hb hts (se_iw iwX5) hown hK hP 0 rfl rfl 6 (by decide) (hts _ (List.mem_cons_of_mem _ qX5_f49)) (fun _ h9 => h9) rfl dX5_takeWindow_73 ?_
      refine va_getN (D := D) (ci := 3) (v := .int (g 7 3)) (C := RX3) (T := TX3) (N := 7) hx hb hts (se_iw iwX3) hown hK hP 7 rfl rfl 3 (by decide) (va_Nw.use rfl (hZ _ nX5_f220 rfl)) (fun _ h9 => h9) rfl dX5_takeWindow_76 ?_
      refine lv_aload_n hx hb dX5_takeWindow_79 rfl (lv_at hl 1 rfl) ?_
      refine va_get (D := D) (ci := 5) (v := .ref (h 7)) (C := RX5) (T := TX5) (N := 12) hx hb hts (se_iw iwX5) hown hK hP 0 rfl rfl 6 (by decide) (hts _ (List.mem_cons_of_mem _ qX5_f49)) (fun _ h9 => h9) rfl dX5_takeWindow_80 ?_
      refine va_getN (D := D) (ci := 3) (v := .int (g 7 4)) (C := RX3) (T := TX3) (N := 7) hx hb hts (se_iw iwX3) hown hK hP 7 rfl rfl 4 (by decide) (va_Nw.use rfl (hZ _ nX5_f223 rfl)) (fun _ h9 => h9) rfl dX5_takeWindow_83 ?_
      refine se_cvE (va_runVN (C := RX2) (As := [.int (g 7 5), .int (g 7 3), .int (g 7 4)]) (rest := []) ⟨hx, hb, hml, hown, hts⟩ (c_S_Outgoing_windowIs l D k h _ g (g 7 5) (g 7 3) (g 7 4)) (se_kVN 3 hts q_code_X2_windowIs (hZ _ nX5_m405 rfl) q_ini_StreamEnd_Outgoing q_instanceMethod_X2_windowIs q_sel_X2_windowIs (by decide +kernel) ⟨Nat.le_of_ble_eq_true rfl, Nat.le_of_ble_eq_true rfl⟩ rfl rfl) ⟨se_blind se_ZN_ok, va_recv hK hP (ci := 2) (q0 := 1) rfl rfl, se_pre se_ZN_ok hP hK hD hZ⟩ rfl rfl hl.1 rfl (lv_room (Nat.le_of_ble_eq_true rfl)) dX5_takeWindow_86 ⟨Nat.zero_le _, Nat.zero_le _⟩) hD hS hA (fun g1 H locs eg1 hP hD hS => ?_)
      replace hF : (F_S_takeWindow_k1 g (F_S_Outgoing_windowIs g (g 7 5) (g 7 3) (g 7 4))) = F_S_takeWindow g := by rw [F_S_takeWindow, if_pos c1, if_neg c2]
      rw [← eg1] at hF
      replace hF : F_S_takeWindow_k1 g g1 = F_S_takeWindow g := hF
      refine lv_iload_n hx hb dX5_takeWindow_89 rfl (lv_at hl 0 rfl) ?_
      refine lv_if_eq (tgt := 119) hx hb dX5_takeWindow_90 (by decide) (fun c6 => ?_) (fun c6 => ?_)
      · exact J119 g1 ((if (g 1 10) = 0 then ((if (g 7 5) = 0 then 0 else 1) : Int32) else 0) : Int32) _ _ ls (by rw [← hF, F_S_takeWindow_k1, if_pos c6]) hP hD hS (lv_sub hl [1, 0] rfl)
      · refine lv_aload_n hx hb dX5_takeWindow_93 rfl (lv_at hl 1 rfl) ?_
        refine va_get (D := D) (ci := 5) (v := .ref (h 6)) (C := RX5) (T := TX5) (N := 12) hx hb hts (se_iw iwX5) hown hK hP 0 rfl rfl 5 (by decide) (hts _ (List.mem_cons_of_mem _ qX5_f42)) (fun _ h9 => h9) rfl dX5_takeWindow_94 ?_
        refine lv_iconst (v := 0) hx hb dX5_takeWindow_97 (by decide) ?_
        refine va_putN (D := D) (ci := 0) (v := .int 0) (ty := .boolean) (C := RX0) (T := TX0) (N := 9) hx hb hts (se_iw iwX0) tyX0 tyX0_ok nmX0 hown hK hP hD hS 6 rfl rfl 7 (by decide) (va_Nw.use rfl (hZ _ nX5_f200 rfl)) (fun _ h9 => h9) rfl (by decide +kernel) rfl rfl (Nat.le_of_ble_eq_true rfl) dX5_takeWindow_98 (fun H locs hP hD hS => ?_)
        replace hP : va_P D se_cl (se_WS k h (se_u g1 6 7 0)) H := hP
        replace hD : va_D A (se_WS k h (se_u g1 6 7 0)) := hD
        refine lv_aload_n hx hb dX5_takeWindow_101 rfl (lv_at hl 1 rfl) ?_
        refine va_get (D := D) (ci := 5) (v := .ref (h 1)) (C := RX5) (T := TX5) (N := 12) hx hb hts (se_iw iwX5) hown hK hP 0 rfl rfl 2 (by decide) (hts _ (List.mem_cons_of_mem _ qX5_f21)) (fun _ h9 => h9) rfl dX5_takeWindow_102 ?_
        refine se_cp (va_runVN (C := RX2) (As := []) (rest := []) ⟨hx, hb, hml, hown, hts⟩ (c_S_Outgoing_hasUnthanked l D k h _ (se_u g1 6 7 0)) (se_kVN 0 hts q_code_X2_hasUnthanked (hZ _ nX5_m317 rfl) q_ini_StreamEnd_Outgoing q_instanceMethod_X2_hasUnthanked q_sel_X2_hasUnthanked (by decide +kernel) ⟨Nat.le_of_ble_eq_true rfl, Nat.le_of_ble_eq_true rfl⟩ rfl rfl) ⟨se_blind se_ZN_ok, va_recv hK hP (ci := 2) (q0 := 1) rfl rfl, se_pre se_ZN_ok hP hK hD hZ⟩ rfl rfl hl.1 rfl (lv_room (Nat.le_of_ble_eq_true rfl)) dX5_takeWindow_105 ⟨Nat.zero_le _, Nat.zero_le _⟩) ?_
        refine lv_if_ne (tgt := 119) hx hb dX5_takeWindow_108 (by decide) (fun c9 => ?_) (fun c9 => ?_)
        · exact J119 (se_u g1 6 7 0) ((if (g 1 10) = 0 then ((if (g 7 5) = 0 then 0 else 1) : Int32) else 0) : Int32) _ _ ls (by rw [← hF, F_S_takeWindow_k1, if_neg c6, if_neg c9]) hP hD hS (lv_sub hl [1, 0] rfl)
        · refine lv_aload_n hx hb dX5_takeWindow_111 rfl (lv_at hl 1 rfl) ?_
          refine va_get (D := D) (ci := 5) (v := .ref (h 5)) (C := RX5) (T := TX5) (N := 12) hx hb hts (se_iw iwX5) hown hK hP 0 rfl rfl 4 (by decide) (hts _ (List.mem_cons_of_mem _ qX5_f35)) (fun _ h9 => h9) rfl dX5_takeWindow_112 ?_
          refine lv_iconst (v := 0) hx hb dX5_takeWindow_115 (by decide) ?_
          refine va_putN (D := D) (ci := 4) (v := .int 0) (ty := .boolean) (C := RX4) (T := TX4) (N := 11) hx hb hts (se_iw iwX4) tyX4 tyX4_ok nmX4 hown hK hP hD hS 5 rfl rfl 1 (by decide) (va_Nw.use rfl (hZ _ nX5_f155 rfl)) (fun _ h9 => h9) rfl (by decide +kernel) rfl rfl (Nat.le_of_ble_eq_true rfl) dX5_takeWindow_116 (fun H locs hP hD hS => ?_)
          replace hP : va_P D se_cl (se_WS k h (se_u (se_u g1 6 7 0) 5 1 0)) H := hP
          replace hD : va_D A (se_WS k h (se_u (se_u g1 6 7 0) 5 1 0)) := hD
          exact J119 (se_u (se_u g1 6 7 0) 5 1 0) ((if (g 1 10) = 0 then ((if (g 7 5) = 0 then 0 else 1) : Int32) else 0) : Int32) _ _ ls (by rw [← hF, F_S_takeWindow_k1, if_neg c6, if_pos c9]) hP hD hS (lv_sub hl [1, 0] rfl)
    · exact se_rv hx hb hr hlocks hK hP hD hS dX5_takeWindow_34 (by rw [F_S_takeWindow, if_pos c1, if_pos c2])
set_option maxRecDepth 100000 in
set_option maxHeartbeats 4000000 in
theorem c_S_Outgoing_lastIsThanked (l : Launch) (D : va_G) (k : Nat → ClassId) (h : Nat → Nat) (sz : Nat) (g : se_G)  : Met l yX2_lastIsThanked (se_w_X2_lastIsThanked) ({ frames := 1, cells := 0, slots := 0, locals := 20 }) (va_Pc [.ref (h 1)] (se_Pre D se_cl [(k 2, .byte), (k 4, .int), (k 8, .byte), (k 10, .byte)] (se_WS k h g) se_ZN sz)) (se_Qp (F_S_Outgoing_lastIsThanked g)) 0 0 (fun _ => False) := by
  refine se_metP (cc := cX2_lastIsThanked) (maxL := 1) (ret := (some .boolean)) (by decide) rfl (Nat.le_of_ble_eq_true rfl) ?_
  intro p e s m below meth c ls A hx hb hr hts hown hlocks hml hA hP hK hD hS hZ hl
  replace hl : lv_has ls 1 [(0, .ref (h 1))] := hl
  have hF : F_S_Outgoing_lastIsThanked g = F_S_Outgoing_lastIsThanked g := rfl
  refine lv_aload_n hx hb dX2_lastIsThanked_0 rfl (lv_at hl 0 rfl) ?_
  refine va_get (D := D) (ci := 2) (v := .int (g 1 8)) (C := RX2) (T := TX2) (N := 13) hx hb hts (se_iw iwX2) hown hK hP 1 rfl rfl 8 (by decide) (hts _ (List.mem_cons_of_mem _ qX2_f41)) (fun _ h9 => h9) rfl dX2_lastIsThanked_1 ?_
  refine lv_if_eq (tgt := 18) hx hb dX2_lastIsThanked_4 (by decide) (fun c1 => ?_) (fun c1 => ?_)
  · refine lv_iconst (v := 0) hx hb dX2_lastIsThanked_18 (by decide) ?_
    exact se_rpz hx hb hr rfl hlocks dX2_lastIsThanked_19 (by rw [F_S_Outgoing_lastIsThanked, if_pos c1])
  · refine lv_aload_n hx hb dX2_lastIsThanked_7 rfl (lv_at hl 0 rfl) ?_
    refine se_cp (va_runV (C := RX2) (As := []) (rest := []) ⟨hx, hb, hml, hown, hts⟩ (c_S_Outgoing_hasUnthanked l D k h _ g) (se_kV 0 hts q_code_X2_hasUnthanked qX2_m52 q_ini_StreamEnd_Outgoing q_instanceMethod_X2_hasUnthanked q_sel_X2_hasUnthanked (by decide +kernel) ⟨Nat.le_of_ble_eq_true rfl, Nat.le_of_ble_eq_true rfl⟩ rfl rfl) ⟨se_blind se_ZN_ok, va_recv hK hP (ci := 2) (q0 := 1) rfl rfl, se_pre se_ZN_ok hP hK hD hZ⟩ rfl rfl hl.1 rfl (lv_room (Nat.le_of_ble_eq_true rfl)) dX2_lastIsThanked_8 ⟨Nat.zero_le _, Nat.zero_le _⟩) ?_
    refine lv_if_ne (tgt := 18) hx hb dX2_lastIsThanked_11 (by decide) (fun c2 => ?_) (fun c2 => ?_)
    · refine lv_iconst (v := 0) hx hb dX2_lastIsThanked_18 (by decide) ?_
      exact se_rpz hx hb hr rfl hlocks dX2_lastIsThanked_19 (by rw [F_S_Outgoing_lastIsThanked, if_neg c1, if_neg c2])
    · refine lv_iconst (v := 1) hx hb dX2_lastIsThanked_14 (by decide) ?_
      refine lv_goto (tgt := 19) hx hb dX2_lastIsThanked_15 (by decide) ?_
      exact se_rpz hx hb hr rfl hlocks dX2_lastIsThanked_19 (by rw [F_S_Outgoing_lastIsThanked, if_neg c1, if_pos c2])
set_option maxRecDepth 100000 in
set_option maxHeartbeats 4000000 in
theorem c_S_Incoming_store (l : Launch) (D : va_G) (k : Nat → ClassId) (h : Nat → Nat) (sz : Nat) (g : se_G)  (hI : (g 7 1).toInt ≤ 1460) : Met l yX1_store (se_w_X1_store) ({ frames := 1, cells := 0, slots := 0, locals := 21 }) (va_Pc [.ref (h 3), .ref (h 7)] (se_Pre D se_cl [(k 2, .byte), (k 4, .int), (k 8, .byte), (k 10, .byte)] (se_WS k h g) se_ZN sz)) (se_Qv D se_cl [(k 2, .byte), (k 4, .int), (k 8, .byte), (k 10, .byte)] (se_WS k h) (F_S_Incoming_store g) (va_A (se_WS k h g) sz)) 0 0 (va_A (se_WS k h g) sz) := by
  refine se_met (Qc := se_Qv D se_cl [(k 2, .byte), (k 4, .int), (k 8, .byte), (k 10, .byte)] (se_WS k h) (F_S_Incoming_store g)) (cc := cX1_store) (maxL := 7) (ret := none) (by decide) rfl (Nat.le_of_ble_eq_true rfl) ?_
  intro p e s m below meth c ls A hx hb hr hts hown hlocks hml hA hP hK hD hS hZ hl
  replace hl : lv_has ls 7 [(0, .ref (h 3)), (1, .ref (h 7))] := hl
  have L35 : ∀ (n : Nat) (gj35 : se_G) (v4_35 : Int32) (v5_35 : Int32) (H : Heap) (locs : List Loc) (ls : Array Slot), (0 ≤ (v5_35).toInt ∧ (v4_35).toInt ≤ (1460 : Int32).toInt) → ((v4_35).toInt - (v5_35).toInt).toNat < n → F_S_Incoming_store_j35 n gj35 v4_35 v5_35 = F_S_Incoming_store g → va_P D se_cl (se_WS k h gj35) H → va_D A (se_WS k h gj35) → va_S A s.heap H locs → lv_has ls 7 [(0, .ref (h 3)), (1, .ref (h 7)), (4, .int v4_35), (5, .int v5_35)] → W p l e ({ frames := 1, cells := 0, slots := 0, locals := 21 }) s m [.ref (h 3), .ref (h 7)].toArray below meth c H locs 0 0 (MQ below (se_Qv D se_cl [(k 2, .byte), (k 4, .int), (k 8, .byte), (k 10, .byte)] (se_WS k h) (F_S_Incoming_store g) A) [.ref (h 3), .ref (h 7)].toArray s 0 0 A) (F0 m 35 ls []) := by
    intro n
    induction n with
    | zero => intro gj35 v4_35 v5_35 H locs ls hI hM; exact absurd hM (Nat.not_lt_zero _)
    | succ n ih =>
      intro gj35 v4_35 v5_35 H locs ls hI hM hF hP hD hS hl
      refine lv_iload hx hb dX1_store_35 (lv_at hl 3 rfl) ?_
      refine lv_iload hx hb dX1_store_37 (lv_at hl 2 rfl) ?_
      refine lv_icmp_ge (tgt := 90) hx hb dX1_store_39 (by decide) (fun c1 => ?_) (fun c1 => ?_)
      · exact se_rv hx hb hr hlocks hK hP hD hS dX1_store_90 (by rw [← hF, F_S_Incoming_store_j35, if_pos c1])
      · refine lv_aload_n hx hb dX1_store_42 rfl (lv_at hl 1 rfl) ?_
        refine va_getN (D := D) (ci := 3) (v := .int (gj35 7 3)) (C := RX3) (T := TX3) (N := 7) hx hb hts (se_iw iwX3) hown hK hP 7 rfl rfl 3 (by decide) (va_Nw.use rfl (hZ _ nX1_f48 rfl)) (fun _ h9 => h9) rfl dX1_store_43 ?_
        refine lv_iload hx hb dX1_store_46 (lv_at hl 3 rfl) ?_
        refine lv_iadd hx hb dX1_store_48 ?_
        refine lv_sipush (v := 2047) hx hb dX1_store_49 (by decide) ?_
        refine lv_iand hx hb dX1_store_52 ?_
        refine lv_istore (lv' := [(6, .int (((gj35 7 3) + v5_35) &&& 2047)), (0, .ref (h 3)), (1, .ref (h 7)), (4, .int v4_35), (5, .int v5_35)]) hx hb dX1_store_53 hl (by decide) rfl (fun ls hl => ?_)
        refine lv_aload_n hx hb dX1_store_55 rfl (lv_at hl 1 rfl) ?_
        refine va_get (D := D) (ci := 1) (v := .ref (h 4)) (C := RX1) (T := TX1) (N := 8) hx hb hts (se_iw iwX1) hown hK hP 3 rfl rfl 0 (by decide) (hts _ (List.mem_cons_of_mem _ qX1_f9)) (fun _ h9 => h9) rfl dX1_store_56 ?_
        refine lv_iload hx hb dX1_store_59 (lv_at hl 0 rfl) ?_
        refine va_iald hx hb hK hP 4 1 rfl rfl (pk_andIn _ 11 (by decide) (by decide)) dX1_store_61 ?_
        refine lv_iconst (v := (-1)) hx hb dX1_store_62 (by decide) ?_
        refine lv_icmp_ne (tgt := 84) hx hb dX1_store_63 (by decide) (fun c2 => ?_) (fun c2 => ?_)
        · refine lv_iinc (v := (v5_35 + 1)) (lv' := [(5, .int (v5_35 + 1)), (6, .int (((gj35 7 3) + v5_35) &&& 2047)), (0, .ref (h 3)), (1, .ref (h 7)), (4, .int v4_35)]) hx hb dX1_store_84 hl (k := 4) rfl rfl (by decide) rfl (fun ls hl => ?_)
          refine lv_goto (tgt := 35) hx hb dX1_store_87 (by decide) ?_
          exact ih gj35 v4_35 (v5_35 + 1) _ _ ls ⟨se_inc0 c1 hI.1, hI.2⟩ (se_dec c1 hM) (by rw [← hF, F_S_Incoming_store_j35, if_neg c1, if_neg c2]) hP hD hS (lv_sub hl [2, 3, 4, 0] rfl)
        · refine lv_aload_n hx hb dX1_store_66 rfl (lv_at hl 1 rfl) ?_
          refine va_get (D := D) (ci := 1) (v := .ref (h 4)) (C := RX1) (T := TX1) (N := 8) hx hb hts (se_iw iwX1) hown hK hP 3 rfl rfl 0 (by decide) (hts _ (List.mem_cons_of_mem _ qX1_f9)) (fun _ h9 => h9) rfl dX1_store_67 ?_
          refine lv_iload hx hb dX1_store_70 (lv_at hl 0 rfl) ?_
          refine lv_aload_n hx hb dX1_store_72 rfl (lv_at hl 2 rfl) ?_
          refine va_getN (D := D) (ci := 3) (v := .ref (h 8)) (C := RX3) (T := TX3) (N := 7) hx hb hts (se_iw iwX3) hown hK hP 7 rfl rfl 0 (by decide) (va_Nw.use rfl (hZ _ nX1_f65 rfl)) (fun _ h9 => h9) rfl dX1_store_73 ?_
          refine lv_iload hx hb dX1_store_76 (lv_at hl 4 rfl) ?_
          refine va_bald hx hb hK hP 8 2 rfl rfl (se_inN (N := 1460) (by decide) (se_nn hI.1) (se_nle2 c1 (N := 1460) hI.2)) dX1_store_78 ?_
          refine lv_sipush (v := 255) hx hb dX1_store_79 (by decide) ?_
          refine lv_iand hx hb dX1_store_82 ?_
          refine va_iast hx hb hK hP hD hS 4 1 rfl rfl (pk_andIn _ 11 (by decide) (by decide)) dX1_store_83 (fun H locs hP hD hS => ?_)
          replace hP : va_P D se_cl (se_WS k h (se_u gj35 4 (Int32.toNatClampNeg (((gj35 7 3) + v5_35) &&& 2047)) ((gj35 8 (Int32.toNatClampNeg v5_35)) &&& 255))) H := hP
          replace hD : va_D A (se_WS k h (se_u gj35 4 (Int32.toNatClampNeg (((gj35 7 3) + v5_35) &&& 2047)) ((gj35 8 (Int32.toNatClampNeg v5_35)) &&& 255))) := hD
          refine lv_iinc (v := (v5_35 + 1)) (lv' := [(5, .int (v5_35 + 1)), (6, .int (((gj35 7 3) + v5_35) &&& 2047)), (0, .ref (h 3)), (1, .ref (h 7)), (4, .int v4_35)]) hx hb dX1_store_84 hl (k := 4) rfl rfl (by decide) rfl (fun ls hl => ?_)
          refine lv_goto (tgt := 35) hx hb dX1_store_87 (by decide) ?_
          exact ih (se_u gj35 4 (Int32.toNatClampNeg (((gj35 7 3) + v5_35) &&& 2047)) ((gj35 8 (Int32.toNatClampNeg v5_35)) &&& 255)) v4_35 (v5_35 + 1) _ _ ls ⟨se_inc0 c1 hI.1, hI.2⟩ (se_dec c1 hM) (by rw [← hF, F_S_Incoming_store_j35, if_neg c1, if_pos c2]) hP hD hS (lv_sub hl [2, 3, 4, 0] rfl)
  have hF : F_S_Incoming_store g = F_S_Incoming_store g := rfl
  refine lv_aload_n hx hb dX1_store_0 rfl (lv_at hl 1 rfl) ?_
  refine va_getN (D := D) (ci := 3) (v := .int (g 7 3)) (C := RX3) (T := TX3) (N := 7) hx hb hts (se_iw iwX3) hown hK hP 7 rfl rfl 3 (by decide) (va_Nw.use rfl (hZ _ nX1_f48 rfl)) (fun _ h9 => h9) rfl dX1_store_1 ?_
  refine lv_aload_n hx hb dX1_store_4 rfl (lv_at hl 0 rfl) ?_
  refine va_get (D := D) (ci := 1) (v := .int (g 3 2)) (C := RX1) (T := TX1) (N := 8) hx hb hts (se_iw iwX1) hown hK hP 3 rfl rfl 2 (by decide) (hts _ (List.mem_cons_of_mem _ qX1_f25)) (fun _ h9 => h9) rfl dX1_store_5 ?_
  refine lv_isub hx hb dX1_store_8 ?_
  refine lv_istore_n (lv' := [(2, .int ((g 7 3) - (g 3 2))), (0, .ref (h 3)), (1, .ref (h 7))]) hx hb dX1_store_9 rfl hl (by decide) rfl (fun ls hl => ?_)
  refine lv_iconst (v := 0) hx hb dX1_store_10 (by decide) ?_
  refine lv_iload_n hx hb dX1_store_11 rfl (lv_at hl 0 rfl) ?_
  refine lv_ineg hx hb dX1_store_12 ?_
  refine va_mmax hx hb (hml.trans hl.1.symm) hown (hts _ (List.mem_cons_of_mem _ qX1_m53)) (hts _ (List.mem_cons_of_mem _ q_static_Math_max)) (hts _ (List.mem_cons_of_mem _ q_ini_java_lang_Math)) (hts _ (List.mem_cons_of_mem _ q_code_Math_max)) (Nat.le_of_ble_eq_true rfl) (Nat.le_of_ble_eq_true rfl) (Nat.zero_le _) (Nat.zero_le _) dX1_store_13 ?_
  refine lv_istore_n (lv' := [(3, .int (if 0 < (-((g 7 3) - (g 3 2))) then (-((g 7 3) - (g 3 2))) else 0)), (2, .int ((g 7 3) - (g 3 2))), (0, .ref (h 3)), (1, .ref (h 7))]) hx hb dX1_store_16 rfl hl (by decide) rfl (fun ls hl => ?_)
  refine lv_aload_n hx hb dX1_store_17 rfl (lv_at hl 3 rfl) ?_
  refine va_getN (D := D) (ci := 3) (v := .int (g 7 1)) (C := RX3) (T := TX3) (N := 7) hx hb hts (se_iw iwX3) hown hK hP 7 rfl rfl 1 (by decide) (va_Nw.use rfl (hZ _ nX1_f59 rfl)) (fun _ h9 => h9) rfl dX1_store_18 ?_
  refine lv_aload_n hx hb dX1_store_21 rfl (lv_at hl 2 rfl) ?_
  refine se_cp (va_runV (C := RX1) (As := []) (rest := [.int (g 7 1)]) ⟨hx, hb, hml, hown, hts⟩ (c_S_Incoming_room l D k h _ g) (se_kV 0 hts q_code_X1_room qX1_m44 q_ini_StreamEnd_Incoming q_instanceMethod_X1_room q_sel_X1_room (by decide +kernel) ⟨Nat.le_of_ble_eq_true rfl, Nat.le_of_ble_eq_true rfl⟩ rfl rfl) ⟨se_blind se_ZN_ok, va_recv hK hP (ci := 1) (q0 := 3) rfl rfl, se_pre se_ZN_ok hP hK hD hZ⟩ rfl rfl hl.1 rfl (lv_room (Nat.le_of_ble_eq_true rfl)) dX1_store_22 ⟨Nat.zero_le _, Nat.zero_le _⟩) ?_
  refine lv_iload_n hx hb dX1_store_25 rfl (lv_at hl 1 rfl) ?_
  refine lv_isub hx hb dX1_store_26 ?_
  refine va_mmin hx hb (hml.trans hl.1.symm) hown (hts _ (List.mem_cons_of_mem _ qX1_m62)) (hts _ (List.mem_cons_of_mem _ q_static_Math_min)) (hts _ (List.mem_cons_of_mem _ q_ini_java_lang_Math)) (hts _ (List.mem_cons_of_mem _ q_code_Math_min)) (Nat.le_of_ble_eq_true rfl) (Nat.le_of_ble_eq_true rfl) (Nat.zero_le _) (Nat.zero_le _) dX1_store_27 ?_
  refine lv_istore (lv' := [(4, .int (if ((F_S_Incoming_room g) - ((g 7 3) - (g 3 2))) < (g 7 1) then ((F_S_Incoming_room g) - ((g 7 3) - (g 3 2))) else (g 7 1))), (3, .int (if 0 < (-((g 7 3) - (g 3 2))) then (-((g 7 3) - (g 3 2))) else 0)), (2, .int ((g 7 3) - (g 3 2))), (0, .ref (h 3)), (1, .ref (h 7))]) hx hb dX1_store_30 hl (by decide) rfl (fun ls hl => ?_)
  refine lv_iload_n hx hb dX1_store_32 rfl (lv_at hl 1 rfl) ?_
  refine lv_istore (lv' := [(5, .int (if 0 < (-((g 7 3) - (g 3 2))) then (-((g 7 3) - (g 3 2))) else 0)), (4, .int (if ((F_S_Incoming_room g) - ((g 7 3) - (g 3 2))) < (g 7 1) then ((F_S_Incoming_room g) - ((g 7 3) - (g 3 2))) else (g 7 1))), (3, .int (if 0 < (-((g 7 3) - (g 3 2))) then (-((g 7 3) - (g 3 2))) else 0)), (2, .int ((g 7 3) - (g 3 2))), (0, .ref (h 3)), (1, .ref (h 7))]) hx hb dX1_store_33 hl (by decide) rfl (fun ls hl => ?_)
  exact L35 (((((if ((F_S_Incoming_room g) - ((g 7 3) - (g 3 2))) < (g 7 1) then ((F_S_Incoming_room g) - ((g 7 3) - (g 3 2))) else (g 7 1))) : Int32).toInt - (((if 0 < (-((g 7 3) - (g 3 2))) then (-((g 7 3) - (g 3 2))) else 0)) : Int32).toInt).toNat + 1) g (if ((F_S_Incoming_room g) - ((g 7 3) - (g 3 2))) < (g 7 1) then ((F_S_Incoming_room g) - ((g 7 3) - (g 3 2))) else (g 7 1)) (if 0 < (-((g 7 3) - (g 3 2))) then (-((g 7 3) - (g 3 2))) else 0) _ _ ls ⟨se_max0 _, se_minle hI⟩ (se_fuel _ _) (by rw [F_S_Incoming_store]) hP hD hS (lv_sub hl [4, 5, 1, 0] rfl)
set_option maxRecDepth 100000 in
set_option maxHeartbeats 4000000 in
theorem c_S_Incoming_isAtLast (l : Launch) (D : va_G) (k : Nat → ClassId) (h : Nat → Nat) (sz : Nat) (g : se_G)  : Met l yX1_isAtLast (se_w_X1_isAtLast) ({ frames := 0, cells := 0, slots := 0, locals := 0 }) (va_Pc [.ref (h 3)] (se_Pre D se_cl [(k 2, .byte), (k 4, .int), (k 8, .byte), (k 10, .byte)] (se_WS k h g) se_ZN sz)) (se_Qp (F_S_Incoming_isAtLast g)) 0 0 (fun _ => False) := by
  refine se_metP (cc := cX1_isAtLast) (maxL := 1) (ret := (some .boolean)) (by decide) rfl (Nat.le_of_ble_eq_true rfl) ?_
  intro p e s m below meth c ls A hx hb hr hts hown hlocks hml hA hP hK hD hS hZ hl
  replace hl : lv_has ls 1 [(0, .ref (h 3))] := hl
  have hF : F_S_Incoming_isAtLast g = F_S_Incoming_isAtLast g := rfl
  refine lv_aload_n hx hb dX1_isAtLast_0 rfl (lv_at hl 0 rfl) ?_
  refine va_get (D := D) (ci := 1) (v := .int (g 3 5)) (C := RX1) (T := TX1) (N := 8) hx hb hts (se_iw iwX1) hown hK hP 3 rfl rfl 5 (by decide) (hts _ (List.mem_cons_of_mem _ qX1_f35)) (fun _ h9 => h9) rfl dX1_isAtLast_1 ?_
  refine lv_if_eq (tgt := 22) hx hb dX1_isAtLast_4 (by decide) (fun c1 => ?_) (fun c1 => ?_)
  · refine lv_iconst (v := 0) hx hb dX1_isAtLast_22 (by decide) ?_
    exact se_rpz hx hb hr rfl hlocks dX1_isAtLast_23 (by rw [F_S_Incoming_isAtLast, if_pos c1])
  · refine lv_aload_n hx hb dX1_isAtLast_7 rfl (lv_at hl 0 rfl) ?_
    refine va_get (D := D) (ci := 1) (v := .int (g 3 2)) (C := RX1) (T := TX1) (N := 8) hx hb hts (se_iw iwX1) hown hK hP 3 rfl rfl 2 (by decide) (hts _ (List.mem_cons_of_mem _ qX1_f25)) (fun _ h9 => h9) rfl dX1_isAtLast_8 ?_
    refine lv_aload_n hx hb dX1_isAtLast_11 rfl (lv_at hl 0 rfl) ?_
    refine va_get (D := D) (ci := 1) (v := .int (g 3 6)) (C := RX1) (T := TX1) (N := 8) hx hb hts (se_iw iwX1) hown hK hP 3 rfl rfl 6 (by decide) (hts _ (List.mem_cons_of_mem _ qX1_f38)) (fun _ h9 => h9) rfl dX1_isAtLast_12 ?_
    refine lv_icmp_ne (tgt := 22) hx hb dX1_isAtLast_15 (by decide) (fun c2 => ?_) (fun c2 => ?_)
    · refine lv_iconst (v := 0) hx hb dX1_isAtLast_22 (by decide) ?_
      exact se_rpz hx hb hr rfl hlocks dX1_isAtLast_23 (by rw [F_S_Incoming_isAtLast, if_neg c1, if_neg c2])
    · refine lv_iconst (v := 1) hx hb dX1_isAtLast_18 (by decide) ?_
      refine lv_goto (tgt := 23) hx hb dX1_isAtLast_19 (by decide) ?_
      exact se_rpz hx hb hr rfl hlocks dX1_isAtLast_23 (by rw [F_S_Incoming_isAtLast, if_neg c1, if_pos c2])
set_option maxRecDepth 100000 in
set_option maxHeartbeats 4000000 in
theorem c_S_Incoming_goOn (l : Launch) (D : va_G) (k : Nat → ClassId) (h : Nat → Nat) (sz : Nat) (g : se_G)  : Met l yX1_goOn (se_w_X1_goOn) ({ frames := 1, cells := 0, slots := 0, locals := 20 }) (va_Pc [.ref (h 3)] (se_Pre D se_cl [(k 2, .byte), (k 4, .int), (k 8, .byte), (k 10, .byte)] (se_WS k h g) se_ZN sz)) (se_Qv D se_cl [(k 2, .byte), (k 4, .int), (k 8, .byte), (k 10, .byte)] (se_WS k h) (F_S_Incoming_goOn g) (va_A (se_WS k h g) sz)) 0 0 (va_A (se_WS k h g) sz) := by
  refine se_met (Qc := se_Qv D se_cl [(k 2, .byte), (k 4, .int), (k 8, .byte), (k 10, .byte)] (se_WS k h) (F_S_Incoming_goOn g)) (cc := cX1_goOn) (maxL := 1) (ret := none) (by decide) rfl (Nat.le_of_ble_eq_true rfl) ?_
  intro p e s m below meth c ls A hx hb hr hts hown hlocks hml hA hP hK hD hS hZ hl
  replace hl : lv_has ls 1 [(0, .ref (h 3))] := hl
  have J57 : ∀ (gj57 : se_G) (H : Heap) (locs : List Loc) (ls : Array Slot), F_S_Incoming_goOn_j57 gj57 = F_S_Incoming_goOn g → va_P D se_cl (se_WS k h gj57) H → va_D A (se_WS k h gj57) → va_S A s.heap H locs → lv_has ls 1 [(0, .ref (h 3))] → W p l e ({ frames := 1, cells := 0, slots := 0, locals := 20 }) s m [.ref (h 3)].toArray below meth c H locs 0 0 (MQ below (se_Qv D se_cl [(k 2, .byte), (k 4, .int), (k 8, .byte), (k 10, .byte)] (se_WS k h) (F_S_Incoming_goOn g) A) [.ref (h 3)].toArray s 0 0 A) (F0 m 57 ls []) := by
    intro gj57 H locs ls hF hP hD hS hl
    refine lv_aload_n hx hb dX1_goOn_57 rfl (lv_at hl 0 rfl) ?_
    refine se_cp (va_runV (C := RX1) (As := []) (rest := []) ⟨hx, hb, hml, hown, hts⟩ (c_S_Incoming_isAtLast l D k h _ gj57) (se_kV 0 hts q_code_X1_isAtLast qX1_m69 q_ini_StreamEnd_Incoming q_instanceMethod_X1_isAtLast q_sel_X1_isAtLast (by decide +kernel) ⟨Nat.le_of_ble_eq_true rfl, Nat.le_of_ble_eq_true rfl⟩ rfl rfl) ⟨se_blind se_ZN_ok, va_recv hK hP (ci := 1) (q0 := 3) rfl rfl, se_pre se_ZN_ok hP hK hD hZ⟩ rfl rfl hl.1 rfl (lv_room (Nat.le_of_ble_eq_true rfl)) dX1_goOn_58 ⟨Nat.zero_le _, Nat.zero_le _⟩) ?_
    refine lv_if_eq (tgt := 79) hx hb dX1_goOn_61 (by decide) (fun c2 => ?_) (fun c2 => ?_)
    · exact se_rv hx hb hr hlocks hK hP hD hS dX1_goOn_79 (by rw [← hF, F_S_Incoming_goOn_j57, if_pos c2])
    · refine lv_aload_n hx hb dX1_goOn_64 rfl (lv_at hl 0 rfl) ?_
      refine lv_dup hx hb dX1_goOn_65 rfl ?_
      refine va_get (D := D) (ci := 1) (v := .int (gj57 3 2)) (C := RX1) (T := TX1) (N := 8) hx hb hts (se_iw iwX1) hown hK hP 3 rfl rfl 2 (by decide) (hts _ (List.mem_cons_of_mem _ qX1_f25)) (fun _ h9 => h9) rfl dX1_goOn_66 ?_
      refine lv_iconst (v := 1) hx hb dX1_goOn_69 (by decide) ?_
      refine lv_iadd hx hb dX1_goOn_70 ?_
      refine va_put (D := D) (ci := 1) (v := .int ((gj57 3 2) + 1)) (ty := .int) (C := RX1) (T := TX1) (N := 8) hx hb hts (se_iw iwX1) tyX1 tyX1_ok nmX1 hown hK hP hD hS 3 rfl rfl 2 (by decide) (hts _ (List.mem_cons_of_mem _ qX1_f25)) (fun _ h9 => h9) rfl (by decide +kernel) rfl rfl (Nat.le_of_ble_eq_true rfl) dX1_goOn_71 (fun H locs hP hD hS => ?_)
      replace hP : va_P D se_cl (se_WS k h (se_u gj57 3 2 ((gj57 3 2) + 1))) H := hP
      replace hD : va_D A (se_WS k h (se_u gj57 3 2 ((gj57 3 2) + 1))) := hD
      refine lv_aload_n hx hb dX1_goOn_74 rfl (lv_at hl 0 rfl) ?_
      refine lv_iconst (v := 1) hx hb dX1_goOn_75 (by decide) ?_
      refine va_put (D := D) (ci := 1) (v := .int 1) (ty := .boolean) (C := RX1) (T := TX1) (N := 8) hx hb hts (se_iw iwX1) tyX1 tyX1_ok nmX1 hown hK hP hD hS 3 rfl rfl 7 (by decide) (hts _ (List.mem_cons_of_mem _ qX1_f41)) (fun _ h9 => h9) rfl (by decide +kernel) rfl rfl (Nat.le_of_ble_eq_true rfl) dX1_goOn_76 (fun H locs hP hD hS => ?_)
      replace hP : va_P D se_cl (se_WS k h (se_u (se_u gj57 3 2 ((gj57 3 2) + 1)) 3 7 1)) H := hP
      replace hD : va_D A (se_WS k h (se_u (se_u gj57 3 2 ((gj57 3 2) + 1)) 3 7 1)) := hD
      exact se_rv hx hb hr hlocks hK hP hD hS dX1_goOn_79 (by rw [← hF, F_S_Incoming_goOn_j57, if_neg c2])
  have L0 : ∀ (n : Nat) (gj0 : se_G) (H : Heap) (locs : List Loc) (ls : Array Slot), ((2048 : Int32).toInt - (gj0 3 3).toInt).toNat < n → F_S_Incoming_goOn_j0 n gj0 = F_S_Incoming_goOn g → va_P D se_cl (se_WS k h gj0) H → va_D A (se_WS k h gj0) → va_S A s.heap H locs → lv_has ls 1 [(0, .ref (h 3))] → W p l e ({ frames := 1, cells := 0, slots := 0, locals := 20 }) s m [.ref (h 3)].toArray below meth c H locs 0 0 (MQ below (se_Qv D se_cl [(k 2, .byte), (k 4, .int), (k 8, .byte), (k 10, .byte)] (se_WS k h) (F_S_Incoming_goOn g) A) [.ref (h 3)].toArray s 0 0 A) (F0 m 0 ls []) := by
    intro n
    induction n with
    | zero => intro gj0 H locs ls hM; exact absurd hM (Nat.not_lt_zero _)
    | succ n ih =>
      intro gj0 H locs ls hM hF hP hD hS hl
      refine lv_aload_n hx hb dX1_goOn_0 rfl (lv_at hl 0 rfl) ?_
      refine va_get (D := D) (ci := 1) (v := .int (gj0 3 3)) (C := RX1) (T := TX1) (N := 8) hx hb hts (se_iw iwX1) hown hK hP 3 rfl rfl 3 (by decide) (hts _ (List.mem_cons_of_mem _ qX1_f29)) (fun _ h9 => h9) rfl dX1_goOn_1 ?_
      refine lv_sipush (v := 2048) hx hb dX1_goOn_4 (by decide) ?_
      refine lv_icmp_ge (tgt := 57) hx hb dX1_goOn_7 (by decide) (fun c1 => ?_) (fun c1 => ?_)
      · exact J57 gj0 _ _ ls (by rw [← hF, F_S_Incoming_goOn_j0, if_pos c1]) hP hD hS (lv_sub hl [0] rfl)
      · refine lv_aload_n hx hb dX1_goOn_10 rfl (lv_at hl 0 rfl) ?_
        refine se_cp (va_runV (C := RX1) (As := []) (rest := []) ⟨hx, hb, hml, hown, hts⟩ (c_S_Incoming_isAtLast l D k h _ gj0) (se_kV 0 hts q_code_X1_isAtLast qX1_m69 q_ini_StreamEnd_Incoming q_instanceMethod_X1_isAtLast q_sel_X1_isAtLast (by decide +kernel) ⟨Nat.le_of_ble_eq_true rfl, Nat.le_of_ble_eq_true rfl⟩ rfl rfl) ⟨se_blind se_ZN_ok, va_recv hK hP (ci := 1) (q0 := 3) rfl rfl, se_pre se_ZN_ok hP hK hD hZ⟩ rfl rfl hl.1 rfl (lv_room (Nat.le_of_ble_eq_true rfl)) dX1_goOn_11 ⟨Nat.zero_le _, Nat.zero_le _⟩) ?_
        refine lv_if_ne (tgt := 57) hx hb dX1_goOn_14 (by decide) (fun c3 => ?_) (fun c3 => ?_)
        · exact J57 gj0 _ _ ls (by rw [← hF, F_S_Incoming_goOn_j0, if_neg c1, if_neg c3]) hP hD hS (lv_sub hl [0] rfl)
        · refine lv_aload_n hx hb dX1_goOn_17 rfl (lv_at hl 0 rfl) ?_
          refine va_get (D := D) (ci := 1) (v := .ref (h 4)) (C := RX1) (T := TX1) (N := 8) hx hb hts (se_iw iwX1) hown hK hP 3 rfl rfl 0 (by decide) (hts _ (List.mem_cons_of_mem _ qX1_f9)) (fun _ h9 => h9) rfl dX1_goOn_18 ?_
          refine lv_aload_n hx hb dX1_goOn_21 rfl (lv_at hl 0 rfl) ?_
          refine va_get (D := D) (ci := 1) (v := .int (gj0 3 2)) (C := RX1) (T := TX1) (N := 8) hx hb hts (se_iw iwX1) hown hK hP 3 rfl rfl 2 (by decide) (hts _ (List.mem_cons_of_mem _ qX1_f25)) (fun _ h9 => h9) rfl dX1_goOn_22 ?_
          refine lv_sipush (v := 2047) hx hb dX1_goOn_25 (by decide) ?_
          refine lv_iand hx hb dX1_goOn_28 ?_
          refine va_iald hx hb hK hP 4 1 rfl rfl (pk_andIn _ 11 (by decide) (by decide)) dX1_goOn_29 ?_
          refine lv_iconst (v := (-1)) hx hb dX1_goOn_30 (by decide) ?_
          refine lv_icmp_eq (tgt := 57) hx hb dX1_goOn_31 (by decide) (fun c4 => ?_) (fun c4 => ?_)
          · exact J57 gj0 _ _ ls (by rw [← hF, F_S_Incoming_goOn_j0, if_neg c1, if_pos c3, if_pos c4]) hP hD hS (lv_sub hl [0] rfl)
          · refine lv_aload_n hx hb dX1_goOn_34 rfl (lv_at hl 0 rfl) ?_
            refine lv_dup hx hb dX1_goOn_35 rfl ?_
            refine va_get (D := D) (ci := 1) (v := .int (gj0 3 2)) (C := RX1) (T := TX1) (N := 8) hx hb hts (se_iw iwX1) hown hK hP 3 rfl rfl 2 (by decide) (hts _ (List.mem_cons_of_mem _ qX1_f25)) (fun _ h9 => h9) rfl dX1_goOn_36 ?_
            refine lv_iconst (v := 1) hx hb dX1_goOn_39 (by decide) ?_
            refine lv_iadd hx hb dX1_goOn_40 ?_
            refine va_put (D := D) (ci := 1) (v := .int ((gj0 3 2) + 1)) (ty := .int) (C := RX1) (T := TX1) (N := 8) hx hb hts (se_iw iwX1) tyX1 tyX1_ok nmX1 hown hK hP hD hS 3 rfl rfl 2 (by decide) (hts _ (List.mem_cons_of_mem _ qX1_f25)) (fun _ h9 => h9) rfl (by decide +kernel) rfl rfl (Nat.le_of_ble_eq_true rfl) dX1_goOn_41 (fun H locs hP hD hS => ?_)
            replace hP : va_P D se_cl (se_WS k h (se_u gj0 3 2 ((gj0 3 2) + 1))) H := hP
            replace hD : va_D A (se_WS k h (se_u gj0 3 2 ((gj0 3 2) + 1))) := hD
            refine lv_aload_n hx hb dX1_goOn_44 rfl (lv_at hl 0 rfl) ?_
            refine lv_dup hx hb dX1_goOn_45 rfl ?_
            refine va_get (D := D) (ci := 1) (v := .int (gj0 3 3)) (C := RX1) (T := TX1) (N := 8) hx hb hts (se_iw iwX1) hown hK hP 3 rfl rfl 3 (by decide) (hts _ (List.mem_cons_of_mem _ qX1_f29)) (fun _ h9 => h9) rfl dX1_goOn_46 ?_
            refine lv_iconst (v := 1) hx hb dX1_goOn_49 (by decide) ?_
            refine lv_iadd hx hb dX1_goOn_50 ?_
            refine va_put (D := D) (ci := 1) (v := .int ((gj0 3 3) + 1)) (ty := .int) (C := RX1) (T := TX1) (N := 8) hx hb hts (se_iw iwX1) tyX1 tyX1_ok nmX1 hown hK hP hD hS 3 rfl rfl 3 (by decide) (hts _ (List.mem_cons_of_mem _ qX1_f29)) (fun _ h9 => h9) rfl (by decide +kernel) rfl rfl (Nat.le_of_ble_eq_true rfl) dX1_goOn_51 (fun H locs hP hD hS => ?_)
            replace hP : va_P D se_cl (se_WS k h (se_u (se_u gj0 3 2 ((gj0 3 2) + 1)) 3 3 ((gj0 3 3) + 1))) H := hP
            replace hD : va_D A (se_WS k h (se_u (se_u gj0 3 2 ((gj0 3 2) + 1)) 3 3 ((gj0 3 3) + 1))) := hD
            refine lv_goto (tgt := 0) hx hb dX1_goOn_54 (by decide) ?_
            exact ih (se_u (se_u gj0 3 2 ((gj0 3 2) + 1)) 3 3 ((gj0 3 3) + 1)) _ _ ls (se_dec c1 hM) (by rw [← hF, F_S_Incoming_goOn_j0, if_neg c1, if_pos c3, if_neg c4]) hP hD hS (lv_sub hl [0] rfl)
  have hF : F_S_Incoming_goOn g = F_S_Incoming_goOn g := rfl
  exact L0 (((2048 : Int32).toInt - (g 3 3).toInt).toNat + 1) g _ _ ls (se_fuel _ _) (by rw [F_S_Incoming_goOn]) hP hD hS (lv_sub hl [0] rfl)
