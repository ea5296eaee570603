/-! written by program (wip/gen) -/
set_option maxRecDepth 100000 in
set_option maxHeartbeats 4000000 in
theorem c_S_isHandful (l : Launch) (D : va_G) (k : Nat → ClassId) (h : Nat → Nat) (sz : Nat) (g : se_G) (p0 : Int32) : Met l yX5_isHandful (se_w_X5_isHandful) ({ frames := 0, cells := 0, slots := 0, locals := 0 }) (va_Pc [.int p0] (se_Pre D se_cl [(k 2, .byte), (k 4, .int), (k 8, .byte), (k 10, .byte)] (se_WS k h g) se_ZN sz)) (se_Qp (F_S_isHandful p0)) 0 0 (fun _ => False) := by
  refine se_metP (cc := cX5_isHandful) (maxL := 1) (ret := (some .boolean)) (by decide) rfl (Nat.le_of_ble_eq_true rfl) ?_
  intro p e s m below meth c ls A hx hb hr hts hown hlocks hml hA hP hK hD hS hZ hl
  replace hl : lv_has ls 1 [(0, .int p0)] := hl
  have hF : F_S_isHandful p0 = F_S_isHandful p0 := rfl
  refine lv_iload_n hx hb dX5_isHandful_0 rfl (lv_at hl 0 rfl) ?_
  refine lv_iconst (v := 1) hx hb dX5_isHandful_1 (by decide) ?_
  refine lv_icmp_lt (tgt := 15) hx hb dX5_isHandful_2 (by decide) (fun c1 => ?_) (fun c1 => ?_)
  · refine lv_iconst (v := 0) hx hb dX5_isHandful_15 (by decide) ?_
    exact se_rpz hx hb hr rfl hlocks dX5_isHandful_16 (by rw [F_S_isHandful, if_pos c1])
  · refine lv_iload_n hx hb dX5_isHandful_5 rfl (lv_at hl 0 rfl) ?_
    refine lv_bipush (v := 8) hx hb dX5_isHandful_6 (by decide) ?_
    refine lv_icmp_gt (tgt := 15) hx hb dX5_isHandful_8 (by decide) (fun c2 => ?_) (fun c2 => ?_)
    · refine lv_iconst (v := 0) hx hb dX5_isHandful_15 (by decide) ?_
      exact se_rpz hx hb hr rfl hlocks dX5_isHandful_16 (by rw [F_S_isHandful, if_neg c1, if_pos c2])
    · refine lv_iconst (v := 1) hx hb dX5_isHandful_11 (by decide) ?_
      refine lv_goto (tgt := 16) hx hb dX5_isHandful_12 (by decide) ?_
      exact se_rpz hx hb hr rfl hlocks dX5_isHandful_16 (by rw [F_S_isHandful, if_neg c1, if_neg c2])
set_option maxRecDepth 100000 in
set_option maxHeartbeats 4000000 in
theorem c_S_Outgoing_space (l : Launch) (D : va_G) (k : Nat → ClassId) (h : Nat → Nat) (sz : Nat) (g : se_G)  : Met l yX2_space (se_w_X2_space) ({ frames := 0, cells := 0, slots := 0, locals := 0 }) (va_Pc [.ref (h 1)] (se_Pre D se_cl [(k 2, .byte), (k 4, .int), (k 8, .byte), (k 10, .byte)] (se_WS k h g) se_ZN sz)) (se_Qp (F_S_Outgoing_space g)) 0 0 (fun _ => False) := by
  refine se_metP (cc := cX2_space) (maxL := 1) (ret := (some .int)) (by decide) rfl (Nat.le_of_ble_eq_true rfl) ?_
  intro p e s m below meth c ls A hx hb hr hts hown hlocks hml hA hP hK hD hS hZ hl
  replace hl : lv_has ls 1 [(0, .ref (h 1))] := hl
  have hF : F_S_Outgoing_space g = F_S_Outgoing_space g := rfl
  refine lv_sipush (v := 2048) hx hb dX2_space_0 (by decide) ?_
  refine lv_aload_n hx hb dX2_space_3 rfl (lv_at hl 0 rfl) ?_
  refine va_get (D := D) (ci := 2) (v := .int (g 1 2)) (C := RX2) (T := TX2) (N := 13) hx hb hts (se_iw iwX2) hown hK hP 1 rfl rfl 2 (by decide) (hts _ (List.mem_cons_of_mem _ qX2_f22)) (fun _ h9 => h9) rfl dX2_space_4 ?_
  refine lv_isub hx hb dX2_space_7 ?_
  exact se_rp hx hb hr  hlocks dX2_space_8 (by rw [F_S_Outgoing_space])
set_option maxRecDepth 100000 in
set_option maxHeartbeats 4000000 in
theorem c_S_maySendNew (l : Launch) (D : va_G) (k : Nat → ClassId) (h : Nat → Nat) (sz : Nat) (g : se_G)  : Met l yX5_maySendNew (se_w_X5_maySendNew) ({ frames := 0, cells := 0, slots := 0, locals := 0 }) (va_Pc [.ref (h 0)] (se_Pre D se_cl [(k 2, .byte), (k 4, .int), (k 8, .byte), (k 10, .byte)] (se_WS k h g) se_ZN sz)) (se_Qp (F_S_maySendNew g)) 0 0 (fun _ => False) := by
  refine se_metP (cc := cX5_maySendNew) (maxL := 1) (ret := (some .boolean)) (by decide) rfl (Nat.le_of_ble_eq_true rfl) ?_
  intro p e s m below meth c ls A hx hb hr hts hown hlocks hml hA hP hK hD hS hZ hl
  replace hl : lv_has ls 1 [(0, .ref (h 0))] := hl
  have hF : F_S_maySendNew g = F_S_maySendNew g := rfl
  refine lv_aload_n hx hb dX5_maySendNew_0 rfl (lv_at hl 0 rfl) ?_
  refine va_get (D := D) (ci := 5) (v := .int (g 0 9)) (C := RX5) (T := TX5) (N := 12) hx hb hts (se_iw iwX5) hown hK hP 0 rfl rfl 9 (by decide) (hts _ (List.mem_cons_of_mem _ qX5_f60)) (fun _ h9 => h9) rfl dX5_maySendNew_1 ?_
  refine lv_iconst (v := 4) hx hb dX5_maySendNew_4 (by decide) ?_
  refine lv_icmp_eq (tgt := 43) hx hb dX5_maySendNew_5 (by decide) (fun c1 => ?_) (fun c1 => ?_)
  · refine lv_iconst (v := 1) hx hb dX5_maySendNew_43 (by decide) ?_
    refine lv_goto (tgt := 48) hx hb dX5_maySendNew_44 (by decide) ?_
    exact se_rpz hx hb hr rfl hlocks dX5_maySendNew_48 (by rw [F_S_maySendNew, if_pos c1])
  · refine lv_aload_n hx hb dX5_maySendNew_8 rfl (lv_at hl 0 rfl) ?_
    refine va_get (D := D) (ci := 5) (v := .int (g 0 9)) (C := RX5) (T := TX5) (N := 12) hx hb hts (se_iw iwX5) hown hK hP 0 rfl rfl 9 (by decide) (hts _ (List.mem_cons_of_mem _ qX5_f60)) (fun _ h9 => h9) rfl dX5_maySendNew_9 ?_
    refine lv_iconst (v := 5) hx hb dX5_maySendNew_12 (by decide) ?_
    refine lv_icmp_eq (tgt := 43) hx hb dX5_maySendNew_13 (by decide) (fun c2 => ?_) (fun c2 => ?_)
    · refine lv_iconst (v := 1) hx hb dX5_maySendNew_43 (by decide) ?_
      refine lv_goto (tgt := 48) hx hb dX5_maySendNew_44 (by decide) ?_
      exact se_rpz hx hb hr rfl hlocks dX5_maySendNew_48 (by rw [F_S_maySendNew, if_neg c1, if_pos c2])
    · refine lv_aload_n hx hb dX5_maySendNew_16 rfl (lv_at hl 0 rfl) ?_
      refine va_get (D := D) (ci := 5) (v := .int (g 0 9)) (C := RX5) (T := TX5) (N := 12) hx hb hts (se_iw iwX5) hown hK hP 0 rfl rfl 9 (by decide) (hts _ (List.mem_cons_of_mem _ qX5_f60)) (fun _ h9 => h9) rfl dX5_maySendNew_17 ?_
      refine lv_bipush (v := 7) hx hb dX5_maySendNew_20 (by decide) ?_
      refine lv_icmp_eq (tgt := 43) hx hb dX5_maySendNew_22 (by decide) (fun c3 => ?_) (fun c3 => ?_)
      · refine lv_iconst (v := 1) hx hb dX5_maySendNew_43 (by decide) ?_
        refine lv_goto (tgt := 48) hx hb dX5_maySendNew_44 (by decide) ?_
        exact se_rpz hx hb hr rfl hlocks dX5_maySendNew_48 (by rw [F_S_maySendNew, if_neg c1, if_neg c2, if_pos c3])
      · refine lv_aload_n hx hb dX5_maySendNew_25 rfl (lv_at hl 0 rfl) ?_
        refine va_get (D := D) (ci := 5) (v := .int (g 0 9)) (C := RX5) (T := TX5) (N := 12) hx hb hts (se_iw iwX5) hown hK hP 0 rfl rfl 9 (by decide) (hts _ (List.mem_cons_of_mem _ qX5_f60)) (fun _ h9 => h9) rfl dX5_maySendNew_26 ?_
        refine lv_bipush (v := 8) hx hb dX5_maySendNew_29 (by decide) ?_
        refine lv_icmp_eq (tgt := 43) hx hb dX5_maySendNew_31 (by decide) (fun c4 => ?_) (fun c4 => ?_)
        · refine lv_iconst (v := 1) hx hb dX5_maySendNew_43 (by decide) ?_
          refine lv_goto (tgt := 48) hx hb dX5_maySendNew_44 (by decide) ?_
          exact se_rpz hx hb hr rfl hlocks dX5_maySendNew_48 (by rw [F_S_maySendNew, if_neg c1, if_neg c2, if_neg c3, if_pos c4])
        · refine lv_aload_n hx hb dX5_maySendNew_34 rfl (lv_at hl 0 rfl) ?_
          refine va_get (D := D) (ci := 5) (v := .int (g 0 9)) (C := RX5) (T := TX5) (N := 12) hx hb hts (se_iw iwX5) hown hK hP 0 rfl rfl 9 (by decide) (hts _ (List.mem_cons_of_mem _ qX5_f60)) (fun _ h9 => h9) rfl dX5_maySendNew_35 ?_
          refine lv_bipush (v := 9) hx hb dX5_maySendNew_38 (by decide) ?_
          refine lv_icmp_ne (tgt := 47) hx hb dX5_maySendNew_40 (by decide) (fun c5 => ?_) (fun c5 => ?_)
          · refine lv_iconst (v := 0) hx hb dX5_maySendNew_47 (by decide) ?_
            exact se_rpz hx hb hr rfl hlocks dX5_maySendNew_48 (by rw [F_S_maySendNew, if_neg c1, if_neg c2, if_neg c3, if_neg c4, if_neg c5])
          · refine lv_iconst (v := 1) hx hb dX5_maySendNew_43 (by decide) ?_
            refine lv_goto (tgt := 48) hx hb dX5_maySendNew_44 (by decide) ?_
            exact se_rpz hx hb hr rfl hlocks dX5_maySendNew_48 (by rw [F_S_maySendNew, if_neg c1, if_neg c2, if_neg c3, if_neg c4, if_pos c5])
set_option maxRecDepth 100000 in
set_option maxHeartbeats 4000000 in
theorem c_S_Outgoing_hasUnthanked (l : Launch) (D : va_G) (k : Nat → ClassId) (h : Nat → Nat) (sz : Nat) (g : se_G)  : Met l yX2_hasUnthanked (se_w_X2_hasUnthanked) ({ frames := 0, cells := 0, slots := 0, locals := 0 }) (va_Pc [.ref (h 1)] (se_Pre D se_cl [(k 2, .byte), (k 4, .int), (k 8, .byte), (k 10, .byte)] (se_WS k h g) se_ZN sz)) (se_Qp (F_S_Outgoing_hasUnthanked g)) 0 0 (fun _ => False) := by
  refine se_metP (cc := cX2_hasUnthanked) (maxL := 1) (ret := (some .boolean)) (by decide) rfl (Nat.le_of_ble_eq_true rfl) ?_
  intro p e s m below meth c ls A hx hb hr hts hown hlocks hml hA hP hK hD hS hZ hl
  replace hl : lv_has ls 1 [(0, .ref (h 1))] := hl
  have hF : F_S_Outgoing_hasUnthanked g = F_S_Outgoing_hasUnthanked g := rfl
  refine lv_aload_n hx hb dX2_hasUnthanked_0 rfl (lv_at hl 0 rfl) ?_
  refine va_get (D := D) (ci := 2) (v := .int (g 1 5)) (C := RX2) (T := TX2) (N := 13) hx hb hts (se_iw iwX2) hown hK hP 1 rfl rfl 5 (by decide) (hts _ (List.mem_cons_of_mem _ qX2_f31)) (fun _ h9 => h9) rfl dX2_hasUnthanked_1 ?_
  refine lv_aload_n hx hb dX2_hasUnthanked_4 rfl (lv_at hl 0 rfl) ?_
  refine va_get (D := D) (ci := 2) (v := .int (g 1 6)) (C := RX2) (T := TX2) (N := 13) hx hb hts (se_iw iwX2) hown hK hP 1 rfl rfl 6 (by decide) (hts _ (List.mem_cons_of_mem _ qX2_f34)) (fun _ h9 => h9) rfl dX2_hasUnthanked_5 ?_
  refine lv_icmp_eq (tgt := 15) hx hb dX2_hasUnthanked_8 (by decide) (fun c1 => ?_) (fun c1 => ?_)
  · refine lv_iconst (v := 0) hx hb dX2_hasUnthanked_15 (by decide) ?_
    exact se_rpz hx hb hr rfl hlocks dX2_hasUnthanked_16 (by rw [F_S_Outgoing_hasUnthanked, if_pos c1])
  · refine lv_iconst (v := 1) hx hb dX2_hasUnthanked_11 (by decide) ?_
    refine lv_goto (tgt := 16) hx hb dX2_hasUnthanked_12 (by decide) ?_
    exact se_rpz hx hb hr rfl hlocks dX2_hasUnthanked_16 (by rw [F_S_Outgoing_hasUnthanked, if_neg c1])
set_option maxRecDepth 100000 in
set_option maxHeartbeats 4000000 in
theorem c_S_Outgoing_unsent (l : Launch) (D : va_G) (k : Nat → ClassId) (h : Nat → Nat) (sz : Nat) (g : se_G)  : Met l yX2_unsent (se_w_X2_unsent) ({ frames := 0, cells := 0, slots := 0, locals := 0 }) (va_Pc [.ref (h 1)] (se_Pre D se_cl [(k 2, .byte), (k 4, .int), (k 8, .byte), (k 10, .byte)] (se_WS k h g) se_ZN sz)) (se_Qp (F_S_Outgoing_unsent g)) 0 0 (fun _ => False) := by
  refine se_metP (cc := cX2_unsent) (maxL := 1) (ret := (some .int)) (by decide) rfl (Nat.le_of_ble_eq_true rfl) ?_
  intro p e s m below meth c ls A hx hb hr hts hown hlocks hml hA hP hK hD hS hZ hl
  replace hl : lv_has ls 1 [(0, .ref (h 1))] := hl
  have hF : F_S_Outgoing_unsent g = F_S_Outgoing_unsent g := rfl
  refine lv_aload_n hx hb dX2_unsent_0 rfl (lv_at hl 0 rfl) ?_
  refine va_get (D := D) (ci := 2) (v := .int (g 1 2)) (C := RX2) (T := TX2) (N := 13) hx hb hts (se_iw iwX2) hown hK hP 1 rfl rfl 2 (by decide) (hts _ (List.mem_cons_of_mem _ qX2_f22)) (fun _ h9 => h9) rfl dX2_unsent_1 ?_
  refine lv_aload_n hx hb dX2_unsent_4 rfl (lv_at hl 0 rfl) ?_
  refine va_get (D := D) (ci := 2) (v := .int (g 1 3)) (C := RX2) (T := TX2) (N := 13) hx hb hts (se_iw iwX2) hown hK hP 1 rfl rfl 3 (by decide) (hts _ (List.mem_cons_of_mem _ qX2_f25)) (fun _ h9 => h9) rfl dX2_unsent_5 ?_
  refine lv_isub hx hb dX2_unsent_8 ?_
  exact se_rp hx hb hr  hlocks dX2_unsent_9 (by rw [F_S_Outgoing_unsent])
set_option maxRecDepth 100000 in
set_option maxHeartbeats 4000000 in
theorem c_S_Outgoing_hasNew (l : Launch) (D : va_G) (k : Nat → ClassId) (h : Nat → Nat) (sz : Nat) (g : se_G)  : Met l yX2_hasNew (se_w_X2_hasNew) ({ frames := 1, cells := 0, slots := 0, locals := 20 }) (va_Pc [.ref (h 1)] (se_Pre D se_cl [(k 2, .byte), (k 4, .int), (k 8, .byte), (k 10, .byte)] (se_WS k h g) se_ZN sz)) (se_Qp (F_S_Outgoing_hasNew g)) 0 0 (fun _ => False) := by
  refine se_metP (cc := cX2_hasNew) (maxL := 1) (ret := (some .boolean)) (by decide) rfl (Nat.le_of_ble_eq_true rfl) ?_
  intro p e s m below meth c ls A hx hb hr hts hown hlocks hml hA hP hK hD hS hZ hl
  replace hl : lv_has ls 1 [(0, .ref (h 1))] := hl
  have hF : F_S_Outgoing_hasNew g = F_S_Outgoing_hasNew g := rfl
  refine lv_aload_n hx hb dX2_hasNew_0 rfl (lv_at hl 0 rfl) ?_
  refine se_cp (va_runV (C := RX2) (As := []) (rest := []) ⟨hx, hb, hml, hown, hts⟩ (c_S_Outgoing_unsent l D k h _ g) (se_kV 0 hts q_code_X2_unsent qX2_m48 q_ini_StreamEnd_Outgoing q_instanceMethod_X2_unsent q_sel_X2_unsent (by decide +kernel) ⟨Nat.le_of_ble_eq_true rfl, Nat.le_of_ble_eq_true rfl⟩ rfl rfl) ⟨se_blind se_ZN_ok, va_recv hK hP (ci := 2) (q0 := 1) rfl rfl, se_pre se_ZN_ok hP hK hD hZ⟩ rfl rfl hl.1 rfl (lv_room (Nat.le_of_ble_eq_true rfl)) dX2_hasNew_1 ⟨Nat.zero_le _, Nat.zero_le _⟩) ?_
  refine lv_if_gt (tgt := 21) hx hb dX2_hasNew_4 (by decide) (fun c1 => ?_) (fun c1 => ?_)
  · refine lv_iconst (v := 1) hx hb dX2_hasNew_21 (by decide) ?_
    refine lv_goto (tgt := 26) hx hb dX2_hasNew_22 (by decide) ?_
    exact se_rpz hx hb hr rfl hlocks dX2_hasNew_26 (by rw [F_S_Outgoing_hasNew, if_pos c1])
  · refine lv_aload_n hx hb dX2_hasNew_7 rfl (lv_at hl 0 rfl) ?_
    refine va_get (D := D) (ci := 2) (v := .int (g 1 7)) (C := RX2) (T := TX2) (N := 13) hx hb hts (se_iw iwX2) hown hK hP 1 rfl rfl 7 (by decide) (hts _ (List.mem_cons_of_mem _ qX2_f37)) (fun _ h9 => h9) rfl dX2_hasNew_8 ?_
    refine lv_if_eq (tgt := 25) hx hb dX2_hasNew_11 (by decide) (fun c2 => ?_) (fun c2 => ?_)
    · refine lv_iconst (v := 0) hx hb dX2_hasNew_25 (by decide) ?_
      exact se_rpz hx hb hr rfl hlocks dX2_hasNew_26 (by rw [F_S_Outgoing_hasNew, if_neg c1, if_pos c2])
    · refine lv_aload_n hx hb dX2_hasNew_14 rfl (lv_at hl 0 rfl) ?_
      refine va_get (D := D) (ci := 2) (v := .int (g 1 8)) (C := RX2) (T := TX2) (N := 13) hx hb hts (se_iw iwX2) hown hK hP 1 rfl rfl 8 (by decide) (hts _ (List.mem_cons_of_mem _ qX2_f41)) (fun _ h9 => h9) rfl dX2_hasNew_15 ?_
      refine lv_if_ne (tgt := 25) hx hb dX2_hasNew_18 (by decide) (fun c3 => ?_) (fun c3 => ?_)
      · refine lv_iconst (v := 0) hx hb dX2_hasNew_25 (by decide) ?_
        exact se_rpz hx hb hr rfl hlocks dX2_hasNew_26 (by rw [F_S_Outgoing_hasNew, if_neg c1, if_neg c2, if_neg c3])
      · refine lv_iconst (v := 1) hx hb dX2_hasNew_21 (by decide) ?_
        refine lv_goto (tgt := 26) hx hb dX2_hasNew_22 (by decide) ?_
        exact se_rpz hx hb hr rfl hlocks dX2_hasNew_26 (by rw [F_S_Outgoing_hasNew, if_neg c1, if_neg c2, if_pos c3])
set_option maxRecDepth 100000 in
set_option maxHeartbeats 4000000 in
theorem c_S_Watch_setAlarm (l : Launch) (D : va_G) (k : Nat → ClassId) (h : Nat → Nat) (sz : Nat) (g : se_G)  : Met l yX4_setAlarm (se_w_X4_setAlarm) ({ frames := 0, cells := 0, slots := 0, locals := 0 }) (va_Pc [.ref (h 5)] (se_Pre D se_cl [(k 2, .byte), (k 4, .int), (k 8, .byte), (k 10, .byte)] (se_WS k h g) se_ZN sz)) (se_Qv D se_cl [(k 2, .byte), (k 4, .int), (k 8, .byte), (k 10, .byte)] (se_WS k h) (F_S_Watch_setAlarm g) (va_A (se_WS k h g) sz)) 0 0 (va_A (se_WS k h g) sz) := by
  refine se_met (Qc := se_Qv D se_cl [(k 2, .byte), (k 4, .int), (k 8, .byte), (k 10, .byte)] (se_WS k h) (F_S_Watch_setAlarm g)) (cc := cX4_setAlarm) (maxL := 1) (ret := none) (by decide) rfl (Nat.le_of_ble_eq_true rfl) ?_
  intro p e s m below meth c ls A hx hb hr hts hown hlocks hml hA hP hK hD hS hZ hl
  replace hl : lv_has ls 1 [(0, .ref (h 5))] := hl
  have hF : F_S_Watch_setAlarm g = F_S_Watch_setAlarm g := rfl
  refine lv_aload_n hx hb dX4_setAlarm_0 rfl (lv_at hl 0 rfl) ?_
  refine lv_iconst (v := 1) hx hb dX4_setAlarm_1 (by decide) ?_
  refine va_put (D := D) (ci := 4) (v := .int 1) (ty := .boolean) (C := RX4) (T := TX4) (N := 11) hx hb hts (se_iw iwX4) tyX4 tyX4_ok nmX4 hown hK hP hD hS 5 rfl rfl 1 (by decide) (hts _ (List.mem_cons_of_mem _ qX4_f13)) (fun _ h9 => h9) rfl (by decide +kernel) rfl rfl (Nat.le_of_ble_eq_true rfl) dX4_setAlarm_2 (fun H locs hP hD hS => ?_)
  replace hP : va_P D se_cl (se_WS k h (se_u g 5 1 1)) H := hP
  replace hD : va_D A (se_WS k h (se_u g 5 1 1)) := hD
  refine lv_aload_n hx hb dX4_setAlarm_5 rfl (lv_at hl 0 rfl) ?_
  refine lv_aload_n hx hb dX4_setAlarm_6 rfl (lv_at hl 0 rfl) ?_
  refine va_get (D := D) (ci := 4) (v := .int (g 5 0)) (C := RX4) (T := TX4) (N := 11) hx hb hts (se_iw iwX4) hown hK hP 5 rfl rfl 0 (by decide) (hts _ (List.mem_cons_of_mem _ qX4_f41)) (fun _ h9 => h9) rfl dX4_setAlarm_7 ?_
  refine lv_aload_n hx hb dX4_setAlarm_10 rfl (lv_at hl 0 rfl) ?_
  refine va_get (D := D) (ci := 4) (v := .int (g 5 4)) (C := RX4) (T := TX4) (N := 11) hx hb hts (se_iw iwX4) hown hK hP 5 rfl rfl 4 (by decide) (hts _ (List.mem_cons_of_mem _ qX4_f9)) (fun _ h9 => h9) rfl dX4_setAlarm_11 ?_
  refine lv_iadd hx hb dX4_setAlarm_14 ?_
  refine va_put (D := D) (ci := 4) (v := .int ((g 5 0) + (g 5 4))) (ty := .int) (C := RX4) (T := TX4) (N := 11) hx hb hts (se_iw iwX4) tyX4 tyX4_ok nmX4 hown hK hP hD hS 5 rfl rfl 2 (by decide) (hts _ (List.mem_cons_of_mem _ qX4_f17)) (fun _ h9 => h9) rfl (by decide +kernel) rfl rfl (Nat.le_of_ble_eq_true rfl) dX4_setAlarm_15 (fun H locs hP hD hS => ?_)
  replace hP : va_P D se_cl (se_WS k h (se_u (se_u g 5 1 1) 5 2 ((g 5 0) + (g 5 4)))) H := hP
  replace hD : va_D A (se_WS k h (se_u (se_u g 5 1 1) 5 2 ((g 5 0) + (g 5 4)))) := hD
  exact se_rv hx hb hr hlocks hK hP hD hS dX4_setAlarm_18 (by rw [F_S_Watch_setAlarm])
set_option maxRecDepth 100000 in
set_option maxHeartbeats 4000000 in
theorem c_S_watchClosedWindow (l : Launch) (D : va_G) (k : Nat → ClassId) (h : Nat → Nat) (sz : Nat) (g : se_G)  : Met l yX5_watchClosedWindow (se_w_X5_watchClosedWindow) ({ frames := 2, cells := 0, slots := 0, locals := 40 }) (va_Pc [.ref (h 0)] (se_Pre D se_cl [(k 2, .byte), (k 4, .int), (k 8, .byte), (k 10, .byte)] (se_WS k h g) se_ZN sz)) (se_Qv D se_cl [(k 2, .byte), (k 4, .int), (k 8, .byte), (k 10, .byte)] (se_WS k h) (F_S_watchClosedWindow g) (va_A (se_WS k h g) sz)) 0 0 (va_A (se_WS k h g) sz) := by
  refine se_met (Qc := se_Qv D se_cl [(k 2, .byte), (k 4, .int), (k 8, .byte), (k 10, .byte)] (se_WS k h) (F_S_watchClosedWindow g)) (cc := cX5_watchClosedWindow) (maxL := 1) (ret := none) (by decide) rfl (Nat.le_of_ble_eq_true rfl) ?_
  intro p e s m below meth c ls A hx hb hr hts hown hlocks hml hA hP hK hD hS hZ hl
  replace hl : lv_has ls 1 [(0, .ref (h 0))] := hl
  have hF : F_S_watchClosedWindow g = F_S_watchClosedWindow g := rfl
  refine lv_aload_n hx hb dX5_watchClosedWindow_0 rfl (lv_at hl 0 rfl) ?_
  refine se_cp (va_runV (C := RX5) (As := []) (rest := []) ⟨hx, hb, hml, hown, hts⟩ (c_S_maySendNew l D k h _ g) (se_kV 0 hts q_code_X5_maySendNew qX5_m185 q_ini_StreamEnd q_instanceMethod_X5_maySendNew q_sel_X5_maySendNew (by decide +kernel) ⟨Nat.le_of_ble_eq_true rfl, Nat.le_of_ble_eq_true rfl⟩ rfl rfl) ⟨se_blind se_ZN_ok, va_recv hK hP (ci := 5) (q0 := 0) rfl rfl, se_pre se_ZN_ok hP hK hD hZ⟩ rfl rfl hl.1 rfl (lv_room (Nat.le_of_ble_eq_true rfl)) dX5_watchClosedWindow_1 ⟨Nat.zero_le _, Nat.zero_le _⟩) ?_
  refine lv_if_eq (tgt := 54) hx hb dX5_watchClosedWindow_4 (by decide) (fun c1 => ?_) (fun c1 => ?_)
  · exact se_rv hx hb hr hlocks hK hP hD hS dX5_watchClosedWindow_54 (by rw [F_S_watchClosedWindow, if_pos c1])
  · refine lv_aload_n hx hb dX5_watchClosedWindow_7 rfl (lv_at hl 0 rfl) ?_
    refine va_get (D := D) (ci := 5) (v := .ref (h 5)) (C := RX5) (T := TX5) (N := 12) hx hb hts (se_iw iwX5) hown hK hP 0 rfl rfl 4 (by decide) (hts _ (List.mem_cons_of_mem _ qX5_f35)) (fun _ h9 => h9) rfl dX5_watchClosedWindow_8 ?_
    refine va_getN (D := D) (ci := 4) (v := .int (g 5 1)) (C := RX4) (T := TX4) (N := 11) hx hb hts (se_iw iwX4) hown hK hP 5 rfl rfl 1 (by decide) (va_Nw.use rfl (hZ _ nX5_f155 rfl)) (fun _ h9 => h9) rfl dX5_watchClosedWindow_11 ?_
    refine lv_if_ne (tgt := 54) hx hb dX5_watchClosedWindow_14 (by decide) (fun c2 => ?_) (fun c2 => ?_)
    · exact se_rv hx hb hr hlocks hK hP hD hS dX5_watchClosedWindow_54 (by rw [F_S_watchClosedWindow, if_neg c1, if_neg c2])
    · refine lv_aload_n hx hb dX5_watchClosedWindow_17 rfl (lv_at hl 0 rfl) ?_
      refine va_get (D := D) (ci := 5) (v := .ref (h 1)) (C := RX5) (T := TX5) (N := 12) hx hb hts (se_iw iwX5) hown hK hP 0 rfl rfl 2 (by decide) (hts _ (List.mem_cons_of_mem _ qX5_f21)) (fun _ h9 => h9) rfl dX5_watchClosedWindow_18 ?_
      refine se_cp (va_runVN (C := RX2) (As := []) (rest := []) ⟨hx, hb, hml, hown, hts⟩ (c_S_Outgoing_hasUnthanked l D k h _ g) (se_kVN 0 hts q_code_X2_hasUnthanked (hZ _ nX5_m317 rfl) q_ini_StreamEnd_Outgoing q_instanceMethod_X2_hasUnthanked q_sel_X2_hasUnthanked (by decide +kernel) ⟨Nat.le_of_ble_eq_true rfl, Nat.le_of_ble_eq_true rfl⟩ rfl rfl) ⟨se_blind se_ZN_ok, va_recv hK hP (ci := 2) (q0 := 1) rfl rfl, se_pre se_ZN_ok hP hK hD hZ⟩ rfl rfl hl.1 rfl (lv_room (Nat.le_of_ble_eq_true rfl)) dX5_watchClosedWindow_21 ⟨Nat.zero_le _, Nat.zero_le _⟩) ?_
      refine lv_if_ne (tgt := 54) hx hb dX5_watchClosedWindow_24 (by decide) (fun c3 => ?_) (fun c3 => ?_)
      · exact se_rv hx hb hr hlocks hK hP hD hS dX5_watchClosedWindow_54 (by rw [F_S_watchClosedWindow, if_neg c1, if_pos c2, if_neg c3])
      · refine lv_aload_n hx hb dX5_watchClosedWindow_27 rfl (lv_at hl 0 rfl) ?_
        refine va_get (D := D) (ci := 5) (v := .ref (h 1)) (C := RX5) (T := TX5) (N := 12) hx hb hts (se_iw iwX5) hown hK hP 0 rfl rfl 2 (by decide) (hts _ (List.mem_cons_of_mem _ qX5_f21)) (fun _ h9 => h9) rfl dX5_watchClosedWindow_28 ?_
        refine va_getN (D := D) (ci := 2) (v := .int (g 1 10)) (C := RX2) (T := TX2) (N := 13) hx hb hts (se_iw iwX2) hown hK hP 1 rfl rfl 10 (by decide) (va_Nw.use rfl (hZ _ nX5_f262 rfl)) (fun _ h9 => h9) rfl dX5_watchClosedWindow_31 ?_
        refine lv_if_ne (tgt := 54) hx hb dX5_watchClosedWindow_34 (by decide) (fun c4 => ?_) (fun c4 => ?_)
        · exact se_rv hx hb hr hlocks hK hP hD hS dX5_watchClosedWindow_54 (by rw [F_S_watchClosedWindow, if_neg c1, if_pos c2, if_pos c3, if_neg c4])
        · refine lv_aload_n hx hb dX5_watchClosedWindow_37 rfl (lv_at hl 0 rfl) ?_
          refine va_get (D := D) (ci := 5) (v := .ref (h 1)) (C := RX5) (T := TX5) (N := 12) hx hb hts (se_iw iwX5) hown hK hP 0 rfl rfl 2 (by decide) (hts _ (List.mem_cons_of_mem _ qX5_f21)) (fun _ h9 => h9) rfl dX5_watchClosedWindow_38 ?_
          refine se_cp (va_runVN (C := RX2) (As := []) (rest := []) ⟨hx, hb, hml, hown, hts⟩ (c_S_Outgoing_hasNew l D k h _ g) (se_kVN 0 hts q_code_X2_hasNew (hZ _ nX5_m326 rfl) q_ini_StreamEnd_Outgoing q_instanceMethod_X2_hasNew q_sel_X2_hasNew (by decide +kernel) ⟨Nat.le_of_ble_eq_true rfl, Nat.le_of_ble_eq_true rfl⟩ rfl rfl) ⟨se_blind se_ZN_ok, va_recv hK hP (ci := 2) (q0 := 1) rfl rfl, se_pre se_ZN_ok hP hK hD hZ⟩ rfl rfl hl.1 rfl (lv_room (Nat.le_of_ble_eq_true rfl)) dX5_watchClosedWindow_41 ⟨Nat.zero_le _, Nat.zero_le _⟩) ?_
          refine lv_if_eq (tgt := 54) hx hb dX5_watchClosedWindow_44 (by decide) (fun c5 => ?_) (fun c5 => ?_)
          · exact se_rv hx hb hr hlocks hK hP hD hS dX5_watchClosedWindow_54 (by rw [F_S_watchClosedWindow, if_neg c1, if_pos c2, if_pos c3, if_pos c4, if_pos c5])
          · refine lv_aload_n hx hb dX5_watchClosedWindow_47 rfl (lv_at hl 0 rfl) ?_
            refine va_get (D := D) (ci := 5) (v := .ref (h 5)) (C := RX5) (T := TX5) (N := 12) hx hb hts (se_iw iwX5) hown hK hP 0 rfl rfl 4 (by decide) (hts _ (List.mem_cons_of_mem _ qX5_f35)) (fun _ h9 => h9) rfl dX5_watchClosedWindow_48 ?_
            refine se_cvE (va_runVN (C := RX4) (As := []) (rest := []) ⟨hx, hb, hml, hown, hts⟩ (c_S_Watch_setAlarm l D k h _ g) (se_kVN 0 hts q_code_X4_setAlarm (hZ _ nX5_m323 rfl) q_ini_StreamEnd_Watch q_instanceMethod_X4_setAlarm q_sel_X4_setAlarm (by decide +kernel) ⟨Nat.le_of_ble_eq_true rfl, Nat.le_of_ble_eq_true rfl⟩ rfl rfl) ⟨se_blind se_ZN_ok, va_recv hK hP (ci := 4) (q0 := 5) rfl rfl, se_pre se_ZN_ok hP hK hD hZ⟩ rfl rfl hl.1 rfl (lv_room (Nat.le_of_ble_eq_true rfl)) dX5_watchClosedWindow_51 ⟨Nat.zero_le _, Nat.zero_le _⟩) hD hS hA (fun g1 H locs eg1 hP hD hS => ?_)
            exact se_rv hx hb hr hlocks hK hP hD hS dX5_watchClosedWindow_54 (by subst eg1; rw [F_S_watchClosedWindow, if_neg c1, if_pos c2, if_pos c3, if_pos c4, if_neg c5])
set_option maxRecDepth 100000 in
set_option maxHeartbeats 4000000 in
theorem c_S_byteOf (l : Launch) (D : va_G) (k : Nat → ClassId) (h : Nat → Nat) (sz : Nat) (g : se_G) (p0 : Int64) (p2 : Int32) (p3 : Int32) : Met l yX5_byteOf (se_w_X5_byteOf) ({ frames := 0, cells := 0, slots := 0, locals := 0 }) (va_Pc [.long p0, .int p2, .int p3] (se_Pre D se_cl [(k 2, .byte), (k 4, .int), (k 8, .byte), (k 10, .byte)] (se_WS k h g) se_ZN sz)) (se_Qp (F_S_byteOf p0 p2 p3)) 0 0 (fun _ => False) := by
  refine se_metP (cc := cX5_byteOf) (maxL := 4) (ret := (some .byte)) (by decide) rfl (Nat.le_of_ble_eq_true rfl) ?_
  intro p e s m below meth c ls A hx hb hr hts hown hlocks hml hA hP hK hD hS hZ hl
  replace hl : lv_has ls 4 [(0, .long p0), (2, .int p2), (3, .int p3)] := hl
  have hF : F_S_byteOf p0 p2 p3 = F_S_byteOf p0 p2 p3 := rfl
  refine lv_lload_n hx hb dX5_byteOf_0 rfl (lv_at hl 0 rfl) ?_
  refine lv_bipush (v := 8) hx hb dX5_byteOf_1 (by decide) ?_
  refine lv_iload_n hx hb dX5_byteOf_3 rfl (lv_at hl 1 rfl) ?_
  refine lv_iconst (v := 1) hx hb dX5_byteOf_4 (by decide) ?_
  refine lv_isub hx hb dX5_byteOf_5 ?_
  refine lv_iload_n hx hb dX5_byteOf_6 rfl (lv_at hl 2 rfl) ?_
  refine lv_isub hx hb dX5_byteOf_7 ?_
  refine lv_imul hx hb dX5_byteOf_8 ?_
  refine lv_lushr (v := (Int64.toUInt64 p0 >>> (Int64.toUInt64 (Int32.toInt64 (8 * ((p2 - 1) - p3))) &&& Int64.toUInt64 63)).toInt64) hx hb dX5_byteOf_9 rfl ?_
  refine lv_l2i (v := (Int64.toInt32 ((Int64.toUInt64 p0 >>> (Int64.toUInt64 (Int32.toInt64 (8 * ((p2 - 1) - p3))) &&& Int64.toUInt64 63)).toInt64))) hx hb dX5_byteOf_10 rfl ?_
  refine lv_i2b (v := (Int8.toInt32 (Int32.toInt8 (Int64.toInt32 ((Int64.toUInt64 p0 >>> (Int64.toUInt64 (Int32.toInt64 (8 * ((p2 - 1) - p3))) &&& Int64.toUInt64 63)).toInt64))))) hx hb dX5_byteOf_11 rfl ?_
  exact se_rpz hx hb hr (pk_nb _) hlocks dX5_byteOf_12 (by rw [F_S_byteOf])
set_option maxRecDepth 100000 in
set_option maxHeartbeats 4000000 in
theorem c_S_Outgoing_append (l : Launch) (D : va_G) (k : Nat → ClassId) (h : Nat → Nat) (sz : Nat) (g : se_G) (p1 : Int32) : Met l yX2_append (se_w_X2_append) ({ frames := 0, cells := 0, slots := 0, locals := 0 }) (va_Pc [.ref (h 1), .int p1] (se_Pre D se_cl [(k 2, .byte), (k 4, .int), (k 8, .byte), (k 10, .byte)] (se_WS k h g) se_ZN sz)) (se_Qv D se_cl [(k 2, .byte), (k 4, .int), (k 8, .byte), (k 10, .byte)] (se_WS k h) (F_S_Outgoing_append g p1) (va_A (se_WS k h g) sz)) 0 0 (va_A (se_WS k h g) sz) := by
  refine se_met (Qc := se_Qv D se_cl [(k 2, .byte), (k 4, .int), (k 8, .byte), (k 10, .byte)] (se_WS k h) (F_S_Outgoing_append g p1)) (cc := cX2_append) (maxL := 2) (ret := none) (by decide) rfl (Nat.le_of_ble_eq_true rfl) ?_
  intro p e s m below meth c ls A hx hb hr hts hown hlocks hml hA hP hK hD hS hZ hl
  replace hl : lv_has ls 2 [(0, .ref (h 1)), (1, .int p1)] := hl
  have hF : F_S_Outgoing_append g p1 = F_S_Outgoing_append g p1 := rfl
  refine lv_aload_n hx hb dX2_append_0 rfl (lv_at hl 0 rfl) ?_
  refine va_get (D := D) (ci := 2) (v := .ref (h 2)) (C := RX2) (T := TX2) (N := 13) hx hb hts (se_iw iwX2) hown hK hP 1 rfl rfl 0 (by decide) (hts _ (List.mem_cons_of_mem _ qX2_f9)) (fun _ h9 => h9) rfl dX2_append_1 ?_
  refine lv_aload_n hx hb dX2_append_4 rfl (lv_at hl 0 rfl) ?_
  refine va_get (D := D) (ci := 2) (v := .int (g 1 1)) (C := RX2) (T := TX2) (N := 13) hx hb hts (se_iw iwX2) hown hK hP 1 rfl rfl 1 (by decide) (hts _ (List.mem_cons_of_mem _ qX2_f19)) (fun _ h9 => h9) rfl dX2_append_5 ?_
  refine lv_aload_n hx hb dX2_append_8 rfl (lv_at hl 0 rfl) ?_
  refine va_get (D := D) (ci := 2) (v := .int (g 1 2)) (C := RX2) (T := TX2) (N := 13) hx hb hts (se_iw iwX2) hown hK hP 1 rfl rfl 2 (by decide) (hts _ (List.mem_cons_of_mem _ qX2_f22)) (fun _ h9 => h9) rfl dX2_append_9 ?_
  refine lv_iadd hx hb dX2_append_12 ?_
  refine lv_sipush (v := 2047) hx hb dX2_append_13 (by decide) ?_
  refine lv_iand hx hb dX2_append_16 ?_
  refine lv_iload_n hx hb dX2_append_17 rfl (lv_at hl 1 rfl) ?_
  refine va_bast hx hb hK hP hD hS 2 0 rfl rfl (pk_andIn _ 11 (by decide) (by decide)) dX2_append_18 (fun H locs hP hD hS => ?_)
  replace hP : va_P D se_cl (se_WS k h (se_u g 2 (Int32.toNatClampNeg (((g 1 1) + (g 1 2)) &&& 2047)) (vp_nar .byte p1))) H := hP
  replace hD : va_D A (se_WS k h (se_u g 2 (Int32.toNatClampNeg (((g 1 1) + (g 1 2)) &&& 2047)) (vp_nar .byte p1))) := hD
  refine lv_aload_n hx hb dX2_append_19 rfl (lv_at hl 0 rfl) ?_
  refine lv_dup hx hb dX2_append_20 rfl ?_
  refine va_get (D := D) (ci := 2) (v := .int (g 1 2)) (C := RX2) (T := TX2) (N := 13) hx hb hts (se_iw iwX2) hown hK hP 1 rfl rfl 2 (by decide) (hts _ (List.mem_cons_of_mem _ qX2_f22)) (fun _ h9 => h9) rfl dX2_append_21 ?_
  refine lv_iconst (v := 1) hx hb dX2_append_24 (by decide) ?_
  refine lv_iadd hx hb dX2_append_25 ?_
  refine va_put (D := D) (ci := 2) (v := .int ((g 1 2) + 1)) (ty := .int) (C := RX2) (T := TX2) (N := 13) hx hb hts (se_iw iwX2) tyX2 tyX2_ok nmX2 hown hK hP hD hS 1 rfl rfl 2 (by decide) (hts _ (List.mem_cons_of_mem _ qX2_f22)) (fun _ h9 => h9) rfl (by decide +kernel) rfl rfl (Nat.le_of_ble_eq_true rfl) dX2_append_26 (fun H locs hP hD hS => ?_)
  replace hP : va_P D se_cl (se_WS k h (se_u (se_u g 2 (Int32.toNatClampNeg (((g 1 1) + (g 1 2)) &&& 2047)) (vp_nar .byte p1)) 1 2 ((g 1 2) + 1))) H := hP
  replace hD : va_D A (se_WS k h (se_u (se_u g 2 (Int32.toNatClampNeg (((g 1 1) + (g 1 2)) &&& 2047)) (vp_nar .byte p1)) 1 2 ((g 1 2) + 1))) := hD
  exact se_rv hx hb hr hlocks hK hP hD hS dX2_append_29 (by rw [F_S_Outgoing_append])
set_option maxRecDepth 100000 in
set_option maxHeartbeats 4000000 in
theorem c_S_Incoming_room (l : Launch) (D : va_G) (k : Nat → ClassId) (h : Nat → Nat) (sz : Nat) (g : se_G)  : Met l yX1_room (se_w_X1_room) ({ frames := 0, cells := 0, slots := 0, locals := 0 }) (va_Pc [.ref (h 3)] (se_Pre D se_cl [(k 2, .byte), (k 4, .int), (k 8, .byte), (k 10, .byte)] (se_WS k h g) se_ZN sz)) (se_Qp (F_S_Incoming_room g)) 0 0 (fun _ => False) := by
  refine se_metP (cc := cX1_room) (maxL := 1) (ret := (some .int)) (by decide) rfl (Nat.le_of_ble_eq_true rfl) ?_
  intro p e s m below meth c ls A hx hb hr hts hown hlocks hml hA hP hK hD hS hZ hl
  replace hl : lv_has ls 1 [(0, .ref (h 3))] := hl
  have hF : F_S_Incoming_room g = F_S_Incoming_room g := rfl
  refine lv_sipush (v := 2048) hx hb dX1_room_0 (by decide) ?_
  refine lv_aload_n hx hb dX1_room_3 rfl (lv_at hl 0 rfl) ?_
  refine va_get (D := D) (ci := 1) (v := .int (g 3 3)) (C := RX1) (T := TX1) (N := 8) hx hb hts (se_iw iwX1) hown hK hP 3 rfl rfl 3 (by decide) (hts _ (List.mem_cons_of_mem _ qX1_f29)) (fun _ h9 => h9) rfl dX1_room_4 ?_
  refine lv_isub hx hb dX1_room_7 ?_
  exact se_rp hx hb hr  hlocks dX1_room_8 (by rw [F_S_Incoming_room])
set_option maxRecDepth 100000 in
set_option maxHeartbeats 4000000 in
theorem c_S_Incoming_takeByte (l : Launch) (D : va_G) (k : Nat → ClassId) (h : Nat → Nat) (sz : Nat) (g : se_G)  : Met l yX1_takeByte (se_w_X1_takeByte) ({ frames := 0, cells := 0, slots := 0, locals := 0 }) (va_Pc [.ref (h 3)] (se_Pre D se_cl [(k 2, .byte), (k 4, .int), (k 8, .byte), (k 10, .byte)] (se_WS k h g) se_ZN sz)) (se_Qi D se_cl [(k 2, .byte), (k 4, .int), (k 8, .byte), (k 10, .byte)] (se_WS k h) (F_S_Incoming_takeByte g) (va_A (se_WS k h g) sz)) 0 0 (va_A (se_WS k h g) sz) := by
  refine se_met (Qc := se_Qi D se_cl [(k 2, .byte), (k 4, .int), (k 8, .byte), (k 10, .byte)] (se_WS k h) (F_S_Incoming_takeByte g)) (cc := cX1_takeByte) (maxL := 3) (ret := (some .int)) (by decide) rfl (Nat.le_of_ble_eq_true rfl) ?_
  intro p e s m below meth c ls A hx hb hr hts hown hlocks hml hA hP hK hD hS hZ hl
  replace hl : lv_has ls 3 [(0, .ref (h 3))] := hl
  have hF : F_S_Incoming_takeByte g = F_S_Incoming_takeByte g := rfl
  refine lv_aload_n hx hb dX1_takeByte_0 rfl (lv_at hl 0 rfl) ?_
  refine va_get (D := D) (ci := 1) (v := .int (g 3 4)) (C := RX1) (T := TX1) (N := 8) hx hb hts (se_iw iwX1) hown hK hP 3 rfl rfl 4 (by decide) (hts _ (List.mem_cons_of_mem _ qX1_f32)) (fun _ h9 => h9) rfl dX1_takeByte_1 ?_
  refine lv_sipush (v := 2047) hx hb dX1_takeByte_4 (by decide) ?_
  refine lv_iand hx hb dX1_takeByte_7 ?_
  refine lv_istore_n (lv' := [(1, .int ((g 3 4) &&& 2047)), (0, .ref (h 3))]) hx hb dX1_takeByte_8 rfl hl (by decide) rfl (fun ls hl => ?_)
  refine lv_aload_n hx hb dX1_takeByte_9 rfl (lv_at hl 1 rfl) ?_
  refine va_get (D := D) (ci := 1) (v := .ref (h 4)) (C := RX1) (T := TX1) (N := 8) hx hb hts (se_iw iwX1) hown hK hP 3 rfl rfl 0 (by decide) (hts _ (List.mem_cons_of_mem _ qX1_f9)) (fun _ h9 => h9) rfl dX1_takeByte_10 ?_
  refine lv_iload_n hx hb dX1_takeByte_13 rfl (lv_at hl 0 rfl) ?_
  refine va_iald hx hb hK hP 4 1 rfl rfl (pk_andIn _ 11 (by decide) (by decide)) dX1_takeByte_14 ?_
  refine lv_istore_n (lv' := [(2, .int (g 4 (Int32.toNatClampNeg ((g 3 4) &&& 2047)))), (1, .int ((g 3 4) &&& 2047)), (0, .ref (h 3))]) hx hb dX1_takeByte_15 rfl hl (by decide) rfl (fun ls hl => ?_)
  refine lv_aload_n hx hb dX1_takeByte_16 rfl (lv_at hl 2 rfl) ?_
  refine va_get (D := D) (ci := 1) (v := .ref (h 4)) (C := RX1) (T := TX1) (N := 8) hx hb hts (se_iw iwX1) hown hK hP 3 rfl rfl 0 (by decide) (hts _ (List.mem_cons_of_mem _ qX1_f9)) (fun _ h9 => h9) rfl dX1_takeByte_17 ?_
  refine lv_iload_n hx hb dX1_takeByte_20 rfl (lv_at hl 1 rfl) ?_
  refine lv_iconst (v := (-1)) hx hb dX1_takeByte_21 (by decide) ?_
  refine va_iast hx hb hK hP hD hS 4 1 rfl rfl (pk_andIn _ 11 (by decide) (by decide)) dX1_takeByte_22 (fun H locs hP hD hS => ?_)
  replace hP : va_P D se_cl (se_WS k h (se_u g 4 (Int32.toNatClampNeg ((g 3 4) &&& 2047)) (-1))) H := hP
  replace hD : va_D A (se_WS k h (se_u g 4 (Int32.toNatClampNeg ((g 3 4) &&& 2047)) (-1))) := hD
  refine lv_aload_n hx hb dX1_takeByte_23 rfl (lv_at hl 2 rfl) ?_
  refine lv_dup hx hb dX1_takeByte_24 rfl ?_
  refine va_get (D := D) (ci := 1) (v := .int (g 3 4)) (C := RX1) (T := TX1) (N := 8) hx hb hts (se_iw iwX1) hown hK hP 3 rfl rfl 4 (by decide) (hts _ (List.mem_cons_of_mem _ qX1_f32)) (fun _ h9 => h9) rfl dX1_takeByte_25 ?_
  refine lv_iconst (v := 1) hx hb dX1_takeByte_28 (by decide) ?_
  refine lv_iadd hx hb dX1_takeByte_29 ?_
  refine va_put (D := D) (ci := 1) (v := .int ((g 3 4) + 1)) (ty := .int) (C := RX1) (T := TX1) (N := 8) hx hb hts (se_iw iwX1) tyX1 tyX1_ok nmX1 hown hK hP hD hS 3 rfl rfl 4 (by decide) (hts _ (List.mem_cons_of_mem _ qX1_f32)) (fun _ h9 => h9) rfl (by decide +kernel) rfl rfl (Nat.le_of_ble_eq_true rfl) dX1_takeByte_30 (fun H locs hP hD hS => ?_)
  replace hP : va_P D se_cl (se_WS k h (se_u (se_u g 4 (Int32.toNatClampNeg ((g 3 4) &&& 2047)) (-1)) 3 4 ((g 3 4) + 1))) H := hP
  replace hD : va_D A (se_WS k h (se_u (se_u g 4 (Int32.toNatClampNeg ((g 3 4) &&& 2047)) (-1)) 3 4 ((g 3 4) + 1))) := hD
  refine lv_aload_n hx hb dX1_takeByte_33 rfl (lv_at hl 2 rfl) ?_
  refine lv_dup hx hb dX1_takeByte_34 rfl ?_
  refine va_get (D := D) (ci := 1) (v := .int (g 3 3)) (C := RX1) (T := TX1) (N := 8) hx hb hts (se_iw iwX1) hown hK hP 3 rfl rfl 3 (by decide) (hts _ (List.mem_cons_of_mem _ qX1_f29)) (fun _ h9 => h9) rfl dX1_takeByte_35 ?_
  refine lv_iconst (v := 1) hx hb dX1_takeByte_38 (by decide) ?_
  refine lv_isub hx hb dX1_takeByte_39 ?_
  refine va_put (D := D) (ci := 1) (v := .int ((g 3 3) - 1)) (ty := .int) (C := RX1) (T := TX1) (N := 8) hx hb hts (se_iw iwX1) tyX1 tyX1_ok nmX1 hown hK hP hD hS 3 rfl rfl 3 (by decide) (hts _ (List.mem_cons_of_mem _ qX1_f29)) (fun _ h9 => h9) rfl (by decide +kernel) rfl rfl (Nat.le_of_ble_eq_true rfl) dX1_takeByte_40 (fun H locs hP hD hS => ?_)
  replace hP : va_P D se_cl (se_WS k h (se_u (se_u (se_u g 4 (Int32.toNatClampNeg ((g 3 4) &&& 2047)) (-1)) 3 4 ((g 3 4) + 1)) 3 3 ((g 3 3) - 1))) H := hP
  replace hD : va_D A (se_WS k h (se_u (se_u (se_u g 4 (Int32.toNatClampNeg ((g 3 4) &&& 2047)) (-1)) 3 4 ((g 3 4) + 1)) 3 3 ((g 3 3) - 1))) := hD
  refine lv_iload_n hx hb dX1_takeByte_43 rfl (lv_at hl 0 rfl) ?_
  exact se_ri hx hb hr  hlocks hK hP hD hS dX1_takeByte_44 (by rw [F_S_Incoming_takeByte])
set_option maxRecDepth 100000 in
set_option maxHeartbeats 4000000 in
theorem c_S_mayTakeBytes (l : Launch) (D : va_G) (k : Nat → ClassId) (h : Nat → Nat) (sz : Nat) (g : se_G)  : Met l yX5_mayTakeBytes (se_w_X5_mayTakeBytes) ({ frames := 0, cells := 0, slots := 0, locals := 0 }) (va_Pc [.ref (h 0)] (se_Pre D se_cl [(k 2, .byte), (k 4, .int), (k 8, .byte), (k 10, .byte)] (se_WS k h g) se_ZN sz)) (se_Qp (F_S_mayTakeBytes g)) 0 0 (fun _ => False) := by
  refine se_metP (cc := cX5_mayTakeBytes) (maxL := 1) (ret := (some .boolean)) (by decide) rfl (Nat.le_of_ble_eq_true rfl) ?_
  intro p e s m below meth c ls A hx hb hr hts hown hlocks hml hA hP hK hD hS hZ hl
  replace hl : lv_has ls 1 [(0, .ref (h 0))] := hl
  have hF : F_S_mayTakeBytes g = F_S_mayTakeBytes g := rfl
  refine lv_aload_n hx hb dX5_mayTakeBytes_0 rfl (lv_at hl 0 rfl) ?_
  refine va_get (D := D) (ci := 5) (v := .int (g 0 9)) (C := RX5) (T := TX5) (N := 12) hx hb hts (se_iw iwX5) hown hK hP 0 rfl rfl 9 (by decide) (hts _ (List.mem_cons_of_mem _ qX5_f60)) (fun _ h9 => h9) rfl dX5_mayTakeBytes_1 ?_
  refine lv_iconst (v := 4) hx hb dX5_mayTakeBytes_4 (by decide) ?_
  refine lv_icmp_eq (tgt := 25) hx hb dX5_mayTakeBytes_5 (by decide) (fun c1 => ?_) (fun c1 => ?_)
  · refine lv_iconst (v := 1) hx hb dX5_mayTakeBytes_25 (by decide) ?_
    refine lv_goto (tgt := 30) hx hb dX5_mayTakeBytes_26 (by decide) ?_
    exact se_rpz hx hb hr rfl hlocks dX5_mayTakeBytes_30 (by rw [F_S_mayTakeBytes, if_pos c1])
  · refine lv_aload_n hx hb dX5_mayTakeBytes_8 rfl (lv_at hl 0 rfl) ?_
    refine va_get (D := D) (ci := 5) (v := .int (g 0 9)) (C := RX5) (T := TX5) (N := 12) hx hb hts (se_iw iwX5) hown hK hP 0 rfl rfl 9 (by decide) (hts _ (List.mem_cons_of_mem _ qX5_f60)) (fun _ h9 => h9) rfl dX5_mayTakeBytes_9 ?_
    refine lv_iconst (v := 5) hx hb dX5_mayTakeBytes_12 (by decide) ?_
    refine lv_icmp_eq (tgt := 25) hx hb dX5_mayTakeBytes_13 (by decide) (fun c2 => ?_) (fun c2 => ?_)
    · refine lv_iconst (v := 1) hx hb dX5_mayTakeBytes_25 (by decide) ?_
      refine lv_goto (tgt := 30) hx hb dX5_mayTakeBytes_26 (by decide) ?_
      exact se_rpz hx hb hr rfl hlocks dX5_mayTakeBytes_30 (by rw [F_S_mayTakeBytes, if_neg c1, if_pos c2])
    · refine lv_aload_n hx hb dX5_mayTakeBytes_16 rfl (lv_at hl 0 rfl) ?_
      refine va_get (D := D) (ci := 5) (v := .int (g 0 9)) (C := RX5) (T := TX5) (N := 12) hx hb hts (se_iw iwX5) hown hK hP 0 rfl rfl 9 (by decide) (hts _ (List.mem_cons_of_mem _ qX5_f60)) (fun _ h9 => h9) rfl dX5_mayTakeBytes_17 ?_
      refine lv_bipush (v := 6) hx hb dX5_mayTakeBytes_20 (by decide) ?_
      refine lv_icmp_ne (tgt := 29) hx hb dX5_mayTakeBytes_22 (by decide) (fun c3 => ?_) (fun c3 => ?_)
      · refine lv_iconst (v := 0) hx hb dX5_mayTakeBytes_29 (by decide) ?_
        exact se_rpz hx hb hr rfl hlocks dX5_mayTakeBytes_30 (by rw [F_S_mayTakeBytes, if_neg c1, if_neg c2, if_neg c3])
      · refine lv_iconst (v := 1) hx hb dX5_mayTakeBytes_25 (by decide) ?_
        refine lv_goto (tgt := 30) hx hb dX5_mayTakeBytes_26 (by decide) ?_
        exact se_rpz hx hb hr rfl hlocks dX5_mayTakeBytes_30 (by rw [F_S_mayTakeBytes, if_neg c1, if_neg c2, if_pos c3])
set_option maxRecDepth 100000 in
set_option maxHeartbeats 4000000 in
theorem c_S_readByte (l : Launch) (D : va_G) (k : Nat → ClassId) (h : Nat → Nat) (sz : Nat) (g : se_G)  : Met l yX5_readByte (se_w_X5_readByte) ({ frames := 1, cells := 0, slots := 0, locals := 22 }) (va_Pc [.ref (h 0)] (se_Pre D se_cl [(k 2, .byte), (k 4, .int), (k 8, .byte), (k 10, .byte)] (se_WS k h g) se_ZN sz)) (se_Qi D se_cl [(k 2, .byte), (k 4, .int), (k 8, .byte), (k 10, .byte)] (se_WS k h) (F_S_readByte g) (va_A (se_WS k h g) sz)) 0 0 (va_A (se_WS k h g) sz) := by
  refine se_met (Qc := se_Qi D se_cl [(k 2, .byte), (k 4, .int), (k 8, .byte), (k 10, .byte)] (se_WS k h) (F_S_readByte g)) (cc := cX5_readByte) (maxL := 4) (ret := (some .int)) (by decide) rfl (Nat.le_of_ble_eq_true rfl) ?_
  intro p e s m below meth c ls A hx hb hr hts hown hlocks hml hA hP hK hD hS hZ hl
  replace hl : lv_has ls 4 [(0, .ref (h 0))] := hl
  have hF : F_S_readByte g = F_S_readByte g := rfl
  refine lv_aload_n hx hb dX5_readByte_0 rfl (lv_at hl 0 rfl) ?_
  refine va_get (D := D) (ci := 5) (v := .ref (h 1)) (C := RX5) (T := TX5) (N := 12) hx hb hts (se_iw iwX5) hown hK hP 0 rfl rfl 2 (by decide) (hts _ (List.mem_cons_of_mem _ qX5_f21)) (fun _ h9 => h9) rfl dX5_readByte_1 ?_
  refine va_getN (D := D) (ci := 2) (v := .int (g 1 9)) (C := RX2) (T := TX2) (N := 13) hx hb hts (se_iw iwX2) hown hK hP 1 rfl rfl 9 (by decide) (va_Nw.use rfl (hZ _ nX5_f273 rfl)) (fun _ h9 => h9) rfl dX5_readByte_4 ?_
  refine lv_sipush (v := 1024) hx hb dX5_readByte_7 (by decide) ?_
  refine va_mmin hx hb (hml.trans hl.1.symm) hown (hts _ (List.mem_cons_of_mem _ qX5_m102)) (hts _ (List.mem_cons_of_mem _ q_static_Math_min)) (hts _ (List.mem_cons_of_mem _ q_ini_java_lang_Math)) (hts _ (List.mem_cons_of_mem _ q_code_Math_min)) (Nat.le_of_ble_eq_true rfl) (Nat.le_of_ble_eq_true rfl) (Nat.zero_le _) (Nat.zero_le _) dX5_readByte_10 ?_
  refine lv_istore_n (lv' := [(1, .int (if 1024 < (g 1 9) then 1024 else (g 1 9))), (0, .ref (h 0))]) hx hb dX5_readByte_13 rfl hl (by decide) rfl (fun ls hl => ?_)
  refine lv_aload_n hx hb dX5_readByte_14 rfl (lv_at hl 1 rfl) ?_
  refine va_get (D := D) (ci := 5) (v := .ref (h 3)) (C := RX5) (T := TX5) (N := 12) hx hb hts (se_iw iwX5) hown hK hP 0 rfl rfl 3 (by decide) (hts _ (List.mem_cons_of_mem _ qX5_f28)) (fun _ h9 => h9) rfl dX5_readByte_15 ?_
  refine se_cp (va_runVN (C := RX1) (As := []) (rest := []) ⟨hx, hb, hml, hown, hts⟩ (c_S_Incoming_room l D k h _ g) (se_kVN 0 hts q_code_X1_room (hZ _ nX5_m263 rfl) q_ini_StreamEnd_Incoming q_instanceMethod_X1_room q_sel_X1_room (by decide +kernel) ⟨Nat.le_of_ble_eq_true rfl, Nat.le_of_ble_eq_true rfl⟩ rfl rfl) ⟨se_blind se_ZN_ok, va_recv hK hP (ci := 1) (q0 := 3) rfl rfl, se_pre se_ZN_ok hP hK hD hZ⟩ rfl rfl hl.1 rfl (lv_room (Nat.le_of_ble_eq_true rfl)) dX5_readByte_18 ⟨Nat.zero_le _, Nat.zero_le _⟩) ?_
  refine lv_iload_n hx hb dX5_readByte_21 rfl (lv_at hl 0 rfl) ?_
  refine se_join (v := ((if (if 1024 < (g 1 9) then 1024 else (g 1 9)) ≤ (F_S_Incoming_room g) then 0 else 1) : Int32)) (pcJ := 30) (restJ := []) (ls := ls) (fun T => ?_) ?_
  · refine lv_icmp_ge (tgt := 29) hx hb dX5_readByte_22 (by decide) (fun c2 => ?_) (fun c2 => ?_)
    · refine lv_iconst (v := 0) hx hb dX5_readByte_29 (by decide) ?_
      exact T _ (by rw [if_pos c2])
    · refine lv_iconst (v := 1) hx hb dX5_readByte_25 (by decide) ?_
      refine lv_goto (tgt := 30) hx hb dX5_readByte_26 (by decide) ?_
      exact T _ (by rw [if_neg c2])
  refine lv_istore_n (lv' := [(2, .int ((if (if 1024 < (g 1 9) then 1024 else (g 1 9)) ≤ (F_S_Incoming_room g) then 0 else 1) : Int32)), (1, .int (if 1024 < (g 1 9) then 1024 else (g 1 9))), (0, .ref (h 0))]) hx hb dX5_readByte_30 rfl hl (by decide) rfl (fun ls hl => ?_)
  refine lv_aload_n hx hb dX5_readByte_31 rfl (lv_at hl 2 rfl) ?_
  refine va_get (D := D) (ci := 5) (v := .ref (h 3)) (C := RX5) (T := TX5) (N := 12) hx hb hts (se_iw iwX5) hown hK hP 0 rfl rfl 3 (by decide) (hts _ (List.mem_cons_of_mem _ qX5_f28)) (fun _ h9 => h9) rfl dX5_readByte_32 ?_
  refine se_ciE (va_runVN (C := RX1) (As := []) (rest := []) ⟨hx, hb, hml, hown, hts⟩ (c_S_Incoming_takeByte l D k h _ g) (se_kVN 0 hts q_code_X1_takeByte (hZ _ nX5_m305 rfl) q_ini_StreamEnd_Incoming q_instanceMethod_X1_takeByte q_sel_X1_takeByte (by decide +kernel) ⟨Nat.le_of_ble_eq_true rfl, Nat.le_of_ble_eq_true rfl⟩ rfl rfl) ⟨se_blind se_ZN_ok, va_recv hK hP (ci := 1) (q0 := 3) rfl rfl, se_pre se_ZN_ok hP hK hD hZ⟩ rfl rfl hl.1 rfl (lv_room (Nat.le_of_ble_eq_true rfl)) dX5_readByte_35 ⟨Nat.zero_le _, Nat.zero_le _⟩) hD hS hA (fun r1 g1 H locs eg1 hP hD hS => ?_)
  replace hF : (F_S_readByte_k1 g (F_S_Incoming_takeByte g).1 (F_S_Incoming_takeByte g).2) = F_S_readByte g := by rw [F_S_readByte]
  rw [← eg1] at hF
  replace hF : F_S_readByte_k1 g r1 g1 = F_S_readByte g := hF
  refine lv_istore_n (lv' := [(3, .int r1), (2, .int ((if (if 1024 < (g 1 9) then 1024 else (g 1 9)) ≤ (F_S_Incoming_room g) then 0 else 1) : Int32)), (1, .int (if 1024 < (g 1 9) then 1024 else (g 1 9))), (0, .ref (h 0))]) hx hb dX5_readByte_38 rfl hl (by decide) rfl (fun ls hl => ?_)
  refine lv_iload_n hx hb dX5_readByte_39 rfl (lv_at hl 1 rfl) ?_
  refine lv_if_eq (tgt := 69) hx hb dX5_readByte_40 (by decide) (fun c3 => ?_) (fun c3 => ?_)
  · refine lv_iload_n hx hb dX5_readByte_69 rfl (lv_at hl 0 rfl) ?_
    exact se_ri hx hb hr  hlocks hK hP hD hS dX5_readByte_70 (by rw [← hF, F_S_readByte_k1, if_pos c3])
  · refine lv_aload_n hx hb dX5_readByte_43 rfl (lv_at hl 3 rfl) ?_
    refine va_get (D := D) (ci := 5) (v := .ref (h 3)) (C := RX5) (T := TX5) (N := 12) hx hb hts (se_iw iwX5) hown hK hP 0 rfl rfl 3 (by decide) (hts _ (List.mem_cons_of_mem _ qX5_f28)) (fun _ h9 => h9) rfl dX5_readByte_44 ?_
    refine se_cp (va_runVN (C := RX1) (As := []) (rest := []) ⟨hx, hb, hml, hown, hts⟩ (c_S_Incoming_room l D k h _ g1) (se_kVN 0 hts q_code_X1_room (hZ _ nX5_m263 rfl) q_ini_StreamEnd_Incoming q_instanceMethod_X1_room q_sel_X1_room (by decide +kernel) ⟨Nat.le_of_ble_eq_true rfl, Nat.le_of_ble_eq_true rfl⟩ rfl rfl) ⟨se_blind se_ZN_ok, va_recv hK hP (ci := 1) (q0 := 3) rfl rfl, se_pre se_ZN_ok hP hK hD hZ⟩ rfl rfl hl.1 rfl (lv_room (Nat.le_of_ble_eq_true rfl)) dX5_readByte_47 ⟨Nat.zero_le _, Nat.zero_le _⟩) ?_
    refine lv_iload_n hx hb dX5_readByte_50 rfl (lv_at hl 2 rfl) ?_
    refine lv_icmp_lt (tgt := 69) hx hb dX5_readByte_51 (by decide) (fun c4 => ?_) (fun c4 => ?_)
    · refine lv_iload_n hx hb dX5_readByte_69 rfl (lv_at hl 0 rfl) ?_
      exact se_ri hx hb hr  hlocks hK hP hD hS dX5_readByte_70 (by rw [← hF, F_S_readByte_k1, if_neg c3, if_pos c4])
    · refine lv_aload_n hx hb dX5_readByte_54 rfl (lv_at hl 3 rfl) ?_
      refine se_cp (va_runV (C := RX5) (As := []) (rest := []) ⟨hx, hb, hml, hown, hts⟩ (c_S_mayTakeBytes l D k h _ g1) (se_kV 0 hts q_code_X5_mayTakeBytes qX5_m308 q_ini_StreamEnd q_instanceMethod_X5_mayTakeBytes q_sel_X5_mayTakeBytes (by decide +kernel) ⟨Nat.le_of_ble_eq_true rfl, Nat.le_of_ble_eq_true rfl⟩ rfl rfl) ⟨se_blind se_ZN_ok, va_recv hK hP (ci := 5) (q0 := 0) rfl rfl, se_pre se_ZN_ok hP hK hD hZ⟩ rfl rfl hl.1 rfl (lv_room (Nat.le_of_ble_eq_true rfl)) dX5_readByte_55 ⟨Nat.zero_le _, Nat.zero_le _⟩) ?_
      refine lv_if_eq (tgt := 69) hx hb dX5_readByte_58 (by decide) (fun c5 => ?_) (fun c5 => ?_)
      · refine lv_iload_n hx hb dX5_readByte_69 rfl (lv_at hl 0 rfl) ?_
        exact se_ri hx hb hr  hlocks hK hP hD hS dX5_readByte_70 (by rw [← hF, F_S_readByte_k1, if_neg c3, if_neg c4, if_pos c5])
      · refine lv_aload_n hx hb dX5_readByte_61 rfl (lv_at hl 3 rfl) ?_
        refine va_get (D := D) (ci := 5) (v := .ref (h 6)) (C := RX5) (T := TX5) (N := 12) hx hb hts (se_iw iwX5) hown hK hP 0 rfl rfl 5 (by decide) (hts _ (List.mem_cons_of_mem _ qX5_f42)) (fun _ h9 => h9) rfl dX5_readByte_62 ?_
        refine lv_iconst (v := 1) hx hb dX5_readByte_65 (by decide) ?_
        refine va_putN (D := D) (ci := 0) (v := .int 1) (ty := .boolean) (C := RX0) (T := TX0) (N := 9) hx hb hts (se_iw iwX0) tyX0 tyX0_ok nmX0 hown hK hP hD hS 6 rfl rfl 8 (by decide) (va_Nw.use rfl (hZ _ nX5_f206 rfl)) (fun _ h9 => h9) rfl (by decide +kernel) rfl rfl (Nat.le_of_ble_eq_true rfl) dX5_readByte_66 (fun H locs hP hD hS => ?_)
        replace hP : va_P D se_cl (se_WS k h (se_u g1 6 8 1)) H := hP
        replace hD : va_D A (se_WS k h (se_u g1 6 8 1)) := hD
        refine lv_iload_n hx hb dX5_readByte_69 rfl (lv_at hl 0 rfl) ?_
        exact se_ri hx hb hr  hlocks hK hP hD hS dX5_readByte_70 (by rw [← hF, F_S_readByte_k1, if_neg c3, if_neg c4, if_neg c5])
