/-! written by program (wip/gen) -/
set_option maxRecDepth 100000 in
set_option maxHeartbeats 4000000 in
theorem c_S_read (l : Launch) (hfl : l.flags = pinnedFlags ++ [noTraceFlag]) (D : va_G) (k : Nat → ClassId) (h : Nat → Nat) (sa : Nat → Nat) (sz : Nat) (g : se_G)  : xe_Met l yX5_read (se_w_X5_read) ({ frames := 6, cells := 1, slots := 6, locals := 91 }) (va_Pc [.ref (h 0)] (se_Pre D se_cl [(k 2, .byte), (k 4, .int), (k 8, .byte), (k 10, .byte)] (se_WS k h g) (se_ZNX sa) sz)) (se_Xi D se_cl [(k 2, .byte), (k 4, .int), (k 8, .byte), (k 10, .byte)] (se_WS k h) (F_S_read g) (va_A (se_WS k h g) sz)) (xe_X D se_cl [(k 2, .byte), (k 4, .int), (k 8, .byte), (k 10, .byte)] (se_WS k h) (F_S_read g) (va_A (se_WS k h g) sz)) 1 6 (va_A (se_WS k h g) sz) := by
  refine xe_met (Qc := se_Xi D se_cl [(k 2, .byte), (k 4, .int), (k 8, .byte), (k 10, .byte)] (se_WS k h) (F_S_read g)) (XC := xe_X D se_cl [(k 2, .byte), (k 4, .int), (k 8, .byte), (k 10, .byte)] (se_WS k h) (F_S_read g)) (cc := cX5_read) (maxL := 1) (ret := (some .int)) (by decide) rfl (Nat.le_of_ble_eq_true rfl) ?_
  intro p e s m below meth c ls A hx hb hr hts hown hlocks hml hno hA hP hK hD hS hZX hl
  have hZ : se_ZN s := hZX.1
  replace hl : lv_has ls 1 [(0, .ref (h 0))] := hl
  have hF : F_S_read g = F_S_read g := rfl
  refine lv_aload_n hx hb dX5_read_0 rfl (lv_at hl 0 rfl) ?_
  refine va_get (D := D) (ci := 5) (v := .ref (h 3)) (C := RX5) (T := TX5) (N := 12) hx hb hts (se_iw iwX5) hown hK hP 0 rfl rfl 3 (by decide) (hts _ (List.mem_cons_of_mem _ qX5_f28)) (fun _ h9 => h9) rfl dX5_read_1 ?_
  refine va_getN (D := D) (ci := 1) (v := .int (g 3 3)) (C := RX1) (T := TX1) (N := 8) hx hb hts (se_iw iwX1) hown hK hP 3 rfl rfl 3 (by decide) (va_Nw.use rfl (hZ _ nX5_f119 rfl)) (fun _ h9 => h9) rfl dX5_read_4 ?_
  refine lv_if_le (tgt := 15) hx hb dX5_read_7 (by decide) (fun c1 => ?_) (fun c1 => ?_)
  · refine lv_aload_n hx hb dX5_read_15 rfl (lv_at hl 0 rfl) ?_
    refine va_get (D := D) (ci := 5) (v := .ref (h 3)) (C := RX5) (T := TX5) (N := 12) hx hb hts (se_iw iwX5) hown hK hP 0 rfl rfl 3 (by decide) (hts _ (List.mem_cons_of_mem _ qX5_f28)) (fun _ h9 => h9) rfl dX5_read_16 ?_
    refine va_getN (D := D) (ci := 1) (v := .int (g 3 7)) (C := RX1) (T := TX1) (N := 8) hx hb hts (se_iw iwX1) hown hK hP 3 rfl rfl 7 (by decide) (va_Nw.use rfl (hZ _ nX5_f125 rfl)) (fun _ h9 => h9) rfl dX5_read_19 ?_
    refine lv_if_eq (tgt := 28) hx hb dX5_read_22 (by decide) (fun c2 => ?_) (fun c2 => ?_)
    · refine lv_aload_n hx hb dX5_read_28 rfl (lv_at hl 0 rfl) ?_
      refine se_cp (va_runV (C := RX5) (As := []) (rest := []) ⟨hx, hb, hml, hown, hts⟩ (c_S_isEnded l D k h _ g) (se_kV 0 hts q_code_X5_isEnded qX5_m69 q_ini_StreamEnd q_instanceMethod_X5_isEnded q_sel_X5_isEnded (by decide +kernel) ⟨Nat.le_of_ble_eq_true rfl, Nat.le_of_ble_eq_true rfl⟩ rfl rfl) ⟨se_blind se_ZN_ok, va_recv hK hP (ci := 5) (q0 := 0) rfl rfl, se_pre se_ZN_ok hP hK hD hZ⟩ rfl rfl hl.1 rfl (lv_room (Nat.le_of_ble_eq_true rfl)) dX5_read_29 ⟨Nat.zero_le _, Nat.zero_le _⟩) ?_
      refine lv_if_ne (tgt := 43) hx hb dX5_read_32 (by decide) (fun c3 => ?_) (fun c3 => ?_)
      · exact xe_throw (own := RX5) (cls := "java/lang/IllegalStateException") (names := xe_names) (text := "nothing can be read now") (sa := sa 128) hx hb hfl hown (by decide) (by decide) (hts _ (List.mem_cons_of_mem _ qX5_c73)) (hts _ (List.mem_cons_of_mem _ q_ini_java_lang_IllegalStateException)) (hZX.2.1 (128, "nothing can be read now") (by decide)) (xe_at2 hts hZX) (hl.1.trans hml.symm) dX5_read_43 dX5_read_46 dX5_read_47 dX5_read_49 dX5_read_52 hno (by decide) (by decide) (by decide) (by decide) hlocks (xe_x hK hP hD (se_xe se_x2 (by rw [F_S_read, if_pos c1, if_pos c2, if_neg c3])))
      · refine lv_aload_n hx hb dX5_read_35 rfl (lv_at hl 0 rfl) ?_
        refine va_get (D := D) (ci := 5) (v := .int (g 0 9)) (C := RX5) (T := TX5) (N := 12) hx hb hts (se_iw iwX5) hown hK hP 0 rfl rfl 9 (by decide) (hts _ (List.mem_cons_of_mem _ qX5_f60)) (fun _ h9 => h9) rfl dX5_read_36 ?_
        refine lv_iconst (v := 1) hx hb dX5_read_39 (by decide) ?_
        refine lv_icmp_ne (tgt := 53) hx hb dX5_read_40 (by decide) (fun c4 => ?_) (fun c4 => ?_)
        · refine lv_iconst (v := (-1)) hx hb dX5_read_53 (by decide) ?_
          exact xe_ret (W.widen (k := 1) (n := 6) (Nat.zero_le _) (Nat.zero_le _) (se_xi hx hb hr hlocks hK hP hD hS dX5_read_54 (by rw [F_S_read, if_pos c1, if_pos c2, if_pos c3, if_neg c4])))
        · exact xe_throw (own := RX5) (cls := "java/lang/IllegalStateException") (names := xe_names) (text := "nothing can be read now") (sa := sa 128) hx hb hfl hown (by decide) (by decide) (hts _ (List.mem_cons_of_mem _ qX5_c73)) (hts _ (List.mem_cons_of_mem _ q_ini_java_lang_IllegalStateException)) (hZX.2.1 (128, "nothing can be read now") (by decide)) (xe_at2 hts hZX) (hl.1.trans hml.symm) dX5_read_43 dX5_read_46 dX5_read_47 dX5_read_49 dX5_read_52 hno (by decide) (by decide) (by decide) (by decide) hlocks (xe_x hK hP hD (se_xe se_x2 (by rw [F_S_read, if_pos c1, if_pos c2, if_pos c3, if_pos c4])))
    · refine lv_bipush (v := (-2)) hx hb dX5_read_25 (by decide) ?_
      exact xe_ret (W.widen (k := 1) (n := 6) (Nat.zero_le _) (Nat.zero_le _) (se_xi hx hb hr hlocks hK hP hD hS dX5_read_27 (by rw [F_S_read, if_pos c1, if_neg c2])))
  · refine lv_aload_n hx hb dX5_read_10 rfl (lv_at hl 0 rfl) ?_
    refine se_ciE (va_runV (C := RX5) (As := []) (rest := []) ⟨hx, hb, hml, hown, hts⟩ (c_S_readByte l D k h _ g) (se_kV 0 hts q_code_X5_readByte qX5_m122 q_ini_StreamEnd q_instanceMethod_X5_readByte q_sel_X5_readByte (by decide +kernel) ⟨Nat.le_of_ble_eq_true rfl, Nat.le_of_ble_eq_true rfl⟩ rfl rfl) ⟨se_blind se_ZN_ok, va_recv hK hP (ci := 5) (q0 := 0) rfl rfl, se_pre se_ZN_ok hP hK hD hZ⟩ rfl rfl hl.1 rfl (lv_room (Nat.le_of_ble_eq_true rfl)) dX5_read_11 ⟨Nat.zero_le _, Nat.zero_le _⟩) hD hS hA (fun r1 g1 H locs eg1 hP hD hS => ?_)
    exact xe_ret (W.widen (k := 1) (n := 6) (Nat.zero_le _) (Nat.zero_le _) (se_xi hx hb hr hlocks hK hP hD hS dX5_read_14 (by rw [F_S_read, if_neg c1, ← eg1])))
