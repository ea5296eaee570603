/-! written by program (wip/gen) -/
set_option maxRecDepth 100000 in
set_option maxHeartbeats 4000000 in
theorem c_S_make (l : Launch) (D : va_G) (k : Nat → ClassId) (h : Nat → Nat) (sz : Nat) (g : se_G) (p1 : Int32) (p2 : Int32) (p3 : Int32) (p4 : Int32) : Met l yX5_make (se_w_X5_make) ({ frames := 2, cells := 0, slots := 0, locals := 45 }) (va_Pc [.ref (h 0), .int p1, .int p2, .int p3, .int p4] (se_Pre D se_cl [(k 2, .byte), (k 4, .int), (k 8, .byte), (k 10, .byte)] (se_WS k h g) se_ZN sz)) (se_Qv D se_cl [(k 2, .byte), (k 4, .int), (k 8, .byte), (k 10, .byte)] (se_WS k h) (F_S_make g p1 p2 p3 p4) (va_A (se_WS k h g) sz)) 0 0 (va_A (se_WS k h g) sz) := by
  refine se_met (Qc := se_Qv D se_cl [(k 2, .byte), (k 4, .int), (k 8, .byte), (k 10, .byte)] (se_WS k h) (F_S_make g p1 p2 p3 p4)) (cc := cX5_make) (maxL := 7) (ret := none) (by decide) rfl (Nat.le_of_ble_eq_true rfl) ?_
  intro p e s m below meth c ls A hx hb hr hts hown hlocks hml hA hP hK hD hS hZ hl
  replace hl : lv_has ls 7 [(0, .ref (h 0)), (1, .int p1), (2, .int p2), (3, .int p3), (4, .int p4)] := hl
  have hF : F_S_make g p1 p2 p3 p4 = F_S_make g p1 p2 p3 p4 := rfl
  refine lv_aload_n hx hb dX5_make_0 rfl (lv_at hl 0 rfl) ?_
  refine va_get (D := D) (ci := 5) (v := .ref (h 3)) (C := RX5) (T := TX5) (N := 12) hx hb hts (se_iw iwX5) hown hK hP 0 rfl rfl 3 (by decide) (hts _ (List.mem_cons_of_mem _ qX5_f28)) (fun _ h9 => h9) rfl dX5_make_1 ?_
  refine va_getN (D := D) (ci := 1) (v := .int (g 3 1)) (C := RX1) (T := TX1) (N := 8) hx hb hts (se_iw iwX1) hown hK hP 3 rfl rfl 1 (by decide) (va_Nw.use rfl (hZ _ nX5_f365 rfl)) (fun _ h9 => h9) rfl dX5_make_4 ?_
  refine se_join (v := ((if (g 3 1) = 0 then 0 else 8) : Int32)) (pcJ := 16) (restJ := []) (ls := ls) (fun T => ?_) ?_
  · refine lv_if_eq (tgt := 15) hx hb dX5_make_7 (by decide) (fun c2 => ?_) (fun c2 => ?_)
    · refine lv_iconst (v := 0) hx hb dX5_make_15 (by decide) ?_
      exact T _ (by rw [if_pos c2])
    · refine lv_bipush (v := 8) hx hb dX5_make_10 (by decide) ?_
      refine lv_goto (tgt := 16) hx hb dX5_make_12 (by decide) ?_
      exact T _ (by rw [if_neg c2])
  refine lv_istore (lv' := [(5, .int ((if (g 3 1) = 0 then 0 else 8) : Int32)), (0, .ref (h 0)), (1, .int p1), (2, .int p2), (3, .int p3), (4, .int p4)]) hx hb dX5_make_16 hl (by decide) rfl (fun ls hl => ?_)
  refine lv_iload_n hx hb dX5_make_18 rfl (lv_at hl 2 rfl) ?_
  refine lv_iconst (v := 1) hx hb dX5_make_19 (by decide) ?_
  refine lv_iand hx hb dX5_make_20 ?_
  refine se_join (v := ((if (p1 &&& 1) = 0 then 0 else (g 0 0)) : Int32)) (pcJ := 32) (restJ := []) (ls := ls) (fun T => ?_) ?_
  · refine lv_if_eq (tgt := 31) hx hb dX5_make_21 (by decide) (fun c4 => ?_) (fun c4 => ?_)
    · refine lv_iconst (v := 0) hx hb dX5_make_31 (by decide) ?_
      exact T _ (by rw [if_pos c4])
    · refine lv_aload_n hx hb dX5_make_24 rfl (lv_at hl 1 rfl) ?_
      refine va_get (D := D) (ci := 5) (v := .int (g 0 0)) (C := RX5) (T := TX5) (N := 12) hx hb hts (se_iw iwX5) hown hK hP 0 rfl rfl 0 (by decide) (hts _ (List.mem_cons_of_mem _ qX5_f9)) (fun _ h9 => h9) rfl dX5_make_25 ?_
      refine lv_goto (tgt := 32) hx hb dX5_make_28 (by decide) ?_
      exact T _ (by rw [if_neg c4])
  refine lv_istore (lv' := [(6, .int ((if (p1 &&& 1) = 0 then 0 else (g 0 0)) : Int32)), (5, .int ((if (g 3 1) = 0 then 0 else 8) : Int32)), (0, .ref (h 0)), (1, .int p1), (2, .int p2), (3, .int p3), (4, .int p4)]) hx hb dX5_make_32 hl (by decide) rfl (fun ls hl => ?_)
  refine lv_aload_n hx hb dX5_make_34 rfl (lv_at hl 2 rfl) ?_
  refine va_get (D := D) (ci := 5) (v := .ref (h 9)) (C := RX5) (T := TX5) (N := 12) hx hb hts (se_iw iwX5) hown hK hP 0 rfl rfl 7 (by decide) (hts _ (List.mem_cons_of_mem _ qX5_f53)) (fun _ h9 => h9) rfl dX5_make_35 ?_
  refine lv_iload_n hx hb dX5_make_38 rfl (lv_at hl 3 rfl) ?_
  refine lv_iload hx hb dX5_make_39 (lv_at hl 1 rfl) ?_
  refine lv_ior hx hb dX5_make_41 ?_
  refine lv_iload_n hx hb dX5_make_42 rfl (lv_at hl 4 rfl) ?_
  refine lv_aload_n hx hb dX5_make_43 rfl (lv_at hl 2 rfl) ?_
  refine va_get (D := D) (ci := 5) (v := .ref (h 3)) (C := RX5) (T := TX5) (N := 12) hx hb hts (se_iw iwX5) hown hK hP 0 rfl rfl 3 (by decide) (hts _ (List.mem_cons_of_mem _ qX5_f28)) (fun _ h9 => h9) rfl dX5_make_44 ?_
  refine va_getN (D := D) (ci := 1) (v := .int (g 3 2)) (C := RX1) (T := TX1) (N := 8) hx hb hts (se_iw iwX1) hown hK hP 3 rfl rfl 2 (by decide) (va_Nw.use rfl (hZ _ nX5_f140 rfl)) (fun _ h9 => h9) rfl dX5_make_47 ?_
  refine lv_aload_n hx hb dX5_make_50 rfl (lv_at hl 2 rfl) ?_
  refine va_get (D := D) (ci := 5) (v := .ref (h 3)) (C := RX5) (T := TX5) (N := 12) hx hb hts (se_iw iwX5) hown hK hP 0 rfl rfl 3 (by decide) (hts _ (List.mem_cons_of_mem _ qX5_f28)) (fun _ h9 => h9) rfl dX5_make_51 ?_
  refine se_cp (va_runVN (C := RX1) (As := []) (rest := [.int (g 3 2), .int p2, .int (p1 ||| ((if (g 3 1) = 0 then 0 else 8) : Int32)), .ref (h 9)]) ⟨hx, hb, hml, hown, hts⟩ (c_S_Incoming_room l D k h _ g) (se_kVN 0 hts q_code_X1_room (hZ _ nX5_m263 rfl) q_ini_StreamEnd_Incoming q_instanceMethod_X1_room q_sel_X1_room (by decide +kernel) ⟨Nat.le_of_ble_eq_true rfl, Nat.le_of_ble_eq_true rfl⟩ rfl rfl) ⟨se_blind se_ZN_ok, va_recv hK hP (ci := 1) (q0 := 3) rfl rfl, se_pre se_ZN_ok hP hK hD hZ⟩ rfl rfl hl.1 rfl (lv_room (Nat.le_of_ble_eq_true rfl)) dX5_make_54 ⟨Nat.zero_le _, Nat.zero_le _⟩) ?_
  refine lv_iload hx hb dX5_make_57 (lv_at hl 0 rfl) ?_
  refine se_cvE (va_runVN (C := RX3) (As := [.int (p1 ||| ((if (g 3 1) = 0 then 0 else 8) : Int32)), .int p2, .int (g 3 2), .int (F_S_Incoming_room g), .int ((if (p1 &&& 1) = 0 then 0 else (g 0 0)) : Int32)]) (rest := []) ⟨hx, hb, hml, hown, hts⟩ (c_S_Segment_headIs_9 l D k h _ g (p1 ||| ((if (g 3 1) = 0 then 0 else 8) : Int32)) p2 (g 3 2) (F_S_Incoming_room g) ((if (p1 &&& 1) = 0 then 0 else (g 0 0)) : Int32)) (se_kVN 5 hts q_code_X3_headIs (hZ _ nX5_m252 rfl) q_ini_StreamEnd_Segment q_instanceMethod_X3_headIs q_sel_X3_headIs (by decide +kernel) ⟨Nat.le_of_ble_eq_true rfl, Nat.le_of_ble_eq_true rfl⟩ rfl rfl) ⟨se_blind se_ZN_ok, va_recv hK hP (ci := 3) (q0 := 9) rfl rfl, se_pre se_ZN_ok hP hK hD hZ⟩ rfl rfl hl.1 rfl (lv_room (Nat.le_of_ble_eq_true rfl)) dX5_make_59 ⟨Nat.zero_le _, Nat.zero_le _⟩) hD hS hA (fun g1 H locs eg1 hP hD hS => ?_)
  replace hF : (F_S_make_k2 (F_S_Segment_headIs_9 g (p1 ||| ((if (g 3 1) = 0 then 0 else 8) : Int32)) p2 (g 3 2) (F_S_Incoming_room g) ((if (p1 &&& 1) = 0 then 0 else (g 0 0)) : Int32)) p3 p4) = F_S_make g p1 p2 p3 p4 := by rw [F_S_make]
  rw [← eg1] at hF
  replace hF : F_S_make_k2 g1 p3 p4 = F_S_make g p1 p2 p3 p4 := hF
  refine lv_aload_n hx hb dX5_make_62 rfl (lv_at hl 2 rfl) ?_
  refine va_get (D := D) (ci := 5) (v := .ref (h 1)) (C := RX5) (T := TX5) (N := 12) hx hb hts (se_iw iwX5) hown hK hP 0 rfl rfl 2 (by decide) (hts _ (List.mem_cons_of_mem _ qX5_f21)) (fun _ h9 => h9) rfl dX5_make_63 ?_
  refine lv_aload_n hx hb dX5_make_66 rfl (lv_at hl 2 rfl) ?_
  refine va_get (D := D) (ci := 5) (v := .ref (h 9)) (C := RX5) (T := TX5) (N := 12) hx hb hts (se_iw iwX5) hown hK hP 0 rfl rfl 7 (by decide) (hts _ (List.mem_cons_of_mem _ qX5_f53)) (fun _ h9 => h9) rfl dX5_make_67 ?_
  refine lv_iload_n hx hb dX5_make_70 rfl (lv_at hl 5 rfl) ?_
  refine lv_iload hx hb dX5_make_71 (lv_at hl 6 rfl) ?_
  refine se_cvE (va_runVN (C := RX2) (As := [.ref (h 9), .int p3, .int p4]) (rest := []) ⟨hx, hb, hml, hown, hts⟩ (c_S_Outgoing_copyTo l D k h _ g1 p3 p4) (se_kVN 3 hts q_code_X2_copyTo (hZ _ nX5_m368 rfl) q_ini_StreamEnd_Outgoing q_instanceMethod_X2_copyTo q_sel_X2_copyTo (by decide +kernel) ⟨Nat.le_of_ble_eq_true rfl, Nat.le_of_ble_eq_true rfl⟩ rfl rfl) ⟨se_blind se_ZN_ok, va_recv hK hP (ci := 2) (q0 := 1) rfl rfl, se_pre se_ZN_ok hP hK hD hZ⟩ rfl rfl hl.1 rfl (lv_room (Nat.le_of_ble_eq_true rfl)) dX5_make_73 ⟨Nat.zero_le _, Nat.zero_le _⟩) hD hS hA (fun g2 H locs eg2 hP hD hS => ?_)
  replace hF : (F_S_make_k1 (F_S_Outgoing_copyTo g1 p3 p4)) = F_S_make g p1 p2 p3 p4 := by rw [← hF, F_S_make_k2]
  rw [← eg2] at hF
  replace hF : F_S_make_k1 g2 = F_S_make g p1 p2 p3 p4 := hF
  refine lv_aload_n hx hb dX5_make_76 rfl (lv_at hl 2 rfl) ?_
  refine va_get (D := D) (ci := 5) (v := .ref (h 3)) (C := RX5) (T := TX5) (N := 12) hx hb hts (se_iw iwX5) hown hK hP 0 rfl rfl 3 (by decide) (hts _ (List.mem_cons_of_mem _ qX5_f28)) (fun _ h9 => h9) rfl dX5_make_77 ?_
  refine va_getN (D := D) (ci := 1) (v := .int (g2 3 1)) (C := RX1) (T := TX1) (N := 8) hx hb hts (se_iw iwX1) hown hK hP 3 rfl rfl 1 (by decide) (va_Nw.use rfl (hZ _ nX5_f365 rfl)) (fun _ h9 => h9) rfl dX5_make_80 ?_
  refine lv_if_eq (tgt := 94) hx hb dX5_make_83 (by decide) (fun c5 => ?_) (fun c5 => ?_)
  · exact se_rv hx hb hr hlocks hK hP hD hS dX5_make_94 (by rw [← hF, F_S_make_k1, if_pos c5])
  · refine lv_aload_n hx hb dX5_make_86 rfl (lv_at hl 2 rfl) ?_
    refine va_get (D := D) (ci := 5) (v := .ref (h 6)) (C := RX5) (T := TX5) (N := 12) hx hb hts (se_iw iwX5) hown hK hP 0 rfl rfl 5 (by decide) (hts _ (List.mem_cons_of_mem _ qX5_f42)) (fun _ h9 => h9) rfl dX5_make_87 ?_
    refine lv_iconst (v := 0) hx hb dX5_make_90 (by decide) ?_
    refine va_putN (D := D) (ci := 0) (v := .int 0) (ty := .boolean) (C := RX0) (T := TX0) (N := 9) hx hb hts (se_iw iwX0) tyX0 tyX0_ok nmX0 hown hK hP hD hS 6 rfl rfl 8 (by decide) (va_Nw.use rfl (hZ _ nX5_f206 rfl)) (fun _ h9 => h9) rfl (by decide +kernel) rfl rfl (Nat.le_of_ble_eq_true rfl) dX5_make_91 (fun H locs hP hD hS => ?_)
    replace hP : va_P D se_cl (se_WS k h (se_u g2 6 8 0)) H := hP
    replace hD : va_D A (se_WS k h (se_u g2 6 8 0)) := hD
    exact se_rv hx hb hr hlocks hK hP hD hS dX5_make_94 (by rw [← hF, F_S_make_k1, if_neg c5])
set_option maxRecDepth 100000 in
set_option maxHeartbeats 4000000 in
theorem c_S_Outgoing_wasSent (l : Launch) (D : va_G) (k : Nat → ClassId) (h : Nat → Nat) (sz : Nat) (g : se_G) (p1 : Int32) (p2 : Int32) : Met l yX2_wasSent (se_w_X2_wasSent) ({ frames := 0, cells := 0, slots := 0, locals := 0 }) (va_Pc [.ref (h 1), .int p1, .int p2] (se_Pre D se_cl [(k 2, .byte), (k 4, .int), (k 8, .byte), (k 10, .byte)] (se_WS k h g) se_ZN sz)) (se_Qv D se_cl [(k 2, .byte), (k 4, .int), (k 8, .byte), (k 10, .byte)] (se_WS k h) (F_S_Outgoing_wasSent g p1 p2) (va_A (se_WS k h g) sz)) 0 0 (va_A (se_WS k h g) sz) := by
  refine se_met (Qc := se_Qv D se_cl [(k 2, .byte), (k 4, .int), (k 8, .byte), (k 10, .byte)] (se_WS k h) (F_S_Outgoing_wasSent g p1 p2)) (cc := cX2_wasSent) (maxL := 3) (ret := none) (by decide) rfl (Nat.le_of_ble_eq_true rfl) ?_
  intro p e s m below meth c ls A hx hb hr hts hown hlocks hml hA hP hK hD hS hZ hl
  replace hl : lv_has ls 3 [(0, .ref (h 1)), (1, .int p1), (2, .int p2)] := hl
  have hF : F_S_Outgoing_wasSent g p1 p2 = F_S_Outgoing_wasSent g p1 p2 := rfl
  refine lv_aload_n hx hb dX2_wasSent_0 rfl (lv_at hl 0 rfl) ?_
  refine lv_dup hx hb dX2_wasSent_1 rfl ?_
  refine va_get (D := D) (ci := 2) (v := .int (g 1 3)) (C := RX2) (T := TX2) (N := 13) hx hb hts (se_iw iwX2) hown hK hP 1 rfl rfl 3 (by decide) (hts _ (List.mem_cons_of_mem _ qX2_f25)) (fun _ h9 => h9) rfl dX2_wasSent_2 ?_
  refine lv_iload_n hx hb dX2_wasSent_5 rfl (lv_at hl 1 rfl) ?_
  refine lv_iadd hx hb dX2_wasSent_6 ?_
  refine va_put (D := D) (ci := 2) (v := .int ((g 1 3) + p1)) (ty := .int) (C := RX2) (T := TX2) (N := 13) hx hb hts (se_iw iwX2) tyX2 tyX2_ok nmX2 hown hK hP hD hS 1 rfl rfl 3 (by decide) (hts _ (List.mem_cons_of_mem _ qX2_f25)) (fun _ h9 => h9) rfl (by decide +kernel) rfl rfl (Nat.le_of_ble_eq_true rfl) dX2_wasSent_7 (fun H locs hP hD hS => ?_)
  replace hP : va_P D se_cl (se_WS k h (se_u g 1 3 ((g 1 3) + p1))) H := hP
  replace hD : va_D A (se_WS k h (se_u g 1 3 ((g 1 3) + p1))) := hD
  refine lv_aload_n hx hb dX2_wasSent_10 rfl (lv_at hl 0 rfl) ?_
  refine lv_dup hx hb dX2_wasSent_11 rfl ?_
  refine va_get (D := D) (ci := 2) (v := .int (g 1 6)) (C := RX2) (T := TX2) (N := 13) hx hb hts (se_iw iwX2) hown hK hP 1 rfl rfl 6 (by decide) (hts _ (List.mem_cons_of_mem _ qX2_f34)) (fun _ h9 => h9) rfl dX2_wasSent_12 ?_
  refine lv_iload_n hx hb dX2_wasSent_15 rfl (lv_at hl 1 rfl) ?_
  refine lv_iadd hx hb dX2_wasSent_16 ?_
  refine va_put (D := D) (ci := 2) (v := .int ((g 1 6) + p1)) (ty := .int) (C := RX2) (T := TX2) (N := 13) hx hb hts (se_iw iwX2) tyX2 tyX2_ok nmX2 hown hK hP hD hS 1 rfl rfl 6 (by decide) (hts _ (List.mem_cons_of_mem _ qX2_f34)) (fun _ h9 => h9) rfl (by decide +kernel) rfl rfl (Nat.le_of_ble_eq_true rfl) dX2_wasSent_17 (fun H locs hP hD hS => ?_)
  replace hP : va_P D se_cl (se_WS k h (se_u (se_u g 1 3 ((g 1 3) + p1)) 1 6 ((g 1 6) + p1))) H := hP
  replace hD : va_D A (se_WS k h (se_u (se_u g 1 3 ((g 1 3) + p1)) 1 6 ((g 1 6) + p1))) := hD
  refine lv_iload_n hx hb dX2_wasSent_20 rfl (lv_at hl 2 rfl) ?_
  refine lv_if_eq (tgt := 39) hx hb dX2_wasSent_21 (by decide) (fun c1 => ?_) (fun c1 => ?_)
  · exact se_rv hx hb hr hlocks hK hP hD hS dX2_wasSent_39 (by rw [F_S_Outgoing_wasSent, if_pos c1])
  · refine lv_aload_n hx hb dX2_wasSent_24 rfl (lv_at hl 0 rfl) ?_
    refine lv_iconst (v := 1) hx hb dX2_wasSent_25 (by decide) ?_
    refine va_put (D := D) (ci := 2) (v := .int 1) (ty := .boolean) (C := RX2) (T := TX2) (N := 13) hx hb hts (se_iw iwX2) tyX2 tyX2_ok nmX2 hown hK hP hD hS 1 rfl rfl 8 (by decide) (hts _ (List.mem_cons_of_mem _ qX2_f41)) (fun _ h9 => h9) rfl (by decide +kernel) rfl rfl (Nat.le_of_ble_eq_true rfl) dX2_wasSent_26 (fun H locs hP hD hS => ?_)
    replace hP : va_P D se_cl (se_WS k h (se_u (se_u (se_u g 1 3 ((g 1 3) + p1)) 1 6 ((g 1 6) + p1)) 1 8 1)) H := hP
    replace hD : va_D A (se_WS k h (se_u (se_u (se_u g 1 3 ((g 1 3) + p1)) 1 6 ((g 1 6) + p1)) 1 8 1)) := hD
    refine lv_aload_n hx hb dX2_wasSent_29 rfl (lv_at hl 0 rfl) ?_
    refine lv_dup hx hb dX2_wasSent_30 rfl ?_
    refine va_get (D := D) (ci := 2) (v := .int ((g 1 6) + p1)) (C := RX2) (T := TX2) (N := 13) hx hb hts (se_iw iwX2) hown hK hP 1 rfl rfl 6 (by decide) (hts _ (List.mem_cons_of_mem _ qX2_f34)) (fun _ h9 => h9) rfl dX2_wasSent_31 ?_
    refine lv_iconst (v := 1) hx hb dX2_wasSent_34 (by decide) ?_
    refine lv_iadd hx hb dX2_wasSent_35 ?_
    refine va_put (D := D) (ci := 2) (v := .int (((g 1 6) + p1) + 1)) (ty := .int) (C := RX2) (T := TX2) (N := 13) hx hb hts (se_iw iwX2) tyX2 tyX2_ok nmX2 hown hK hP hD hS 1 rfl rfl 6 (by decide) (hts _ (List.mem_cons_of_mem _ qX2_f34)) (fun _ h9 => h9) rfl (by decide +kernel) rfl rfl (Nat.le_of_ble_eq_true rfl) dX2_wasSent_36 (fun H locs hP hD hS => ?_)
    replace hP : va_P D se_cl (se_WS k h (se_u (se_u (se_u (se_u g 1 3 ((g 1 3) + p1)) 1 6 ((g 1 6) + p1)) 1 8 1) 1 6 (((g 1 6) + p1) + 1))) H := hP
    replace hD : va_D A (se_WS k h (se_u (se_u (se_u (se_u g 1 3 ((g 1 3) + p1)) 1 6 ((g 1 6) + p1)) 1 8 1) 1 6 (((g 1 6) + p1) + 1))) := hD
    exact se_rv hx hb hr hlocks hK hP hD hS dX2_wasSent_39 (by rw [F_S_Outgoing_wasSent, if_neg c1])
set_option maxRecDepth 100000 in
set_option maxHeartbeats 4000000 in
theorem c_S_Watch_measure (l : Launch) (D : va_G) (k : Nat → ClassId) (h : Nat → Nat) (sz : Nat) (g : se_G) (p1 : Int32) : Met l yX4_measure (se_w_X4_measure) ({ frames := 0, cells := 0, slots := 0, locals := 0 }) (va_Pc [.ref (h 5), .int p1] (se_Pre D se_cl [(k 2, .byte), (k 4, .int), (k 8, .byte), (k 10, .byte)] (se_WS k h g) se_ZN sz)) (se_Qv D se_cl [(k 2, .byte), (k 4, .int), (k 8, .byte), (k 10, .byte)] (se_WS k h) (F_S_Watch_measure g p1) (va_A (se_WS k h g) sz)) 0 0 (va_A (se_WS k h g) sz) := by
  refine se_met (Qc := se_Qv D se_cl [(k 2, .byte), (k 4, .int), (k 8, .byte), (k 10, .byte)] (se_WS k h) (F_S_Watch_measure g p1)) (cc := cX4_measure) (maxL := 2) (ret := none) (by decide) rfl (Nat.le_of_ble_eq_true rfl) ?_
  intro p e s m below meth c ls A hx hb hr hts hown hlocks hml hA hP hK hD hS hZ hl
  replace hl : lv_has ls 2 [(0, .ref (h 5)), (1, .int p1)] := hl
  have hF : F_S_Watch_measure g p1 = F_S_Watch_measure g p1 := rfl
  refine lv_aload_n hx hb dX4_measure_0 rfl (lv_at hl 0 rfl) ?_
  refine va_get (D := D) (ci := 4) (v := .int (g 5 8)) (C := RX4) (T := TX4) (N := 11) hx hb hts (se_iw iwX4) hown hK hP 5 rfl rfl 8 (by decide) (hts _ (List.mem_cons_of_mem _ qX4_f32)) (fun _ h9 => h9) rfl dX4_measure_1 ?_
  refine lv_if_ne (tgt := 25) hx hb dX4_measure_4 (by decide) (fun c1 => ?_) (fun c1 => ?_)
  · exact se_rv hx hb hr hlocks hK hP hD hS dX4_measure_25 (by rw [F_S_Watch_measure, if_neg c1])
  · refine lv_aload_n hx hb dX4_measure_7 rfl (lv_at hl 0 rfl) ?_
    refine lv_iconst (v := 1) hx hb dX4_measure_8 (by decide) ?_
    refine va_put (D := D) (ci := 4) (v := .int 1) (ty := .boolean) (C := RX4) (T := TX4) (N := 11) hx hb hts (se_iw iwX4) tyX4 tyX4_ok nmX4 hown hK hP hD hS 5 rfl rfl 8 (by decide) (hts _ (List.mem_cons_of_mem _ qX4_f32)) (fun _ h9 => h9) rfl (by decide +kernel) rfl rfl (Nat.le_of_ble_eq_true rfl) dX4_measure_9 (fun H locs hP hD hS => ?_)
    replace hP : va_P D se_cl (se_WS k h (se_u g 5 8 1)) H := hP
    replace hD : va_D A (se_WS k h (se_u g 5 8 1)) := hD
    refine lv_aload_n hx hb dX4_measure_12 rfl (lv_at hl 0 rfl) ?_
    refine lv_iload_n hx hb dX4_measure_13 rfl (lv_at hl 1 rfl) ?_
    refine va_put (D := D) (ci := 4) (v := .int p1) (ty := .int) (C := RX4) (T := TX4) (N := 11) hx hb hts (se_iw iwX4) tyX4 tyX4_ok nmX4 hown hK hP hD hS 5 rfl rfl 9 (by decide) (hts _ (List.mem_cons_of_mem _ qX4_f35)) (fun _ h9 => h9) rfl (by decide +kernel) rfl rfl (Nat.le_of_ble_eq_true rfl) dX4_measure_14 (fun H locs hP hD hS => ?_)
    replace hP : va_P D se_cl (se_WS k h (se_u (se_u g 5 8 1) 5 9 p1)) H := hP
    replace hD : va_D A (se_WS k h (se_u (se_u g 5 8 1) 5 9 p1)) := hD
    refine lv_aload_n hx hb dX4_measure_17 rfl (lv_at hl 0 rfl) ?_
    refine lv_aload_n hx hb dX4_measure_18 rfl (lv_at hl 0 rfl) ?_
    refine va_get (D := D) (ci := 4) (v := .int (g 5 0)) (C := RX4) (T := TX4) (N := 11) hx hb hts (se_iw iwX4) hown hK hP 5 rfl rfl 0 (by decide) (hts _ (List.mem_cons_of_mem _ qX4_f41)) (fun _ h9 => h9) rfl dX4_measure_19 ?_
    refine va_put (D := D) (ci := 4) (v := .int (g 5 0)) (ty := .int) (C := RX4) (T := TX4) (N := 11) hx hb hts (se_iw iwX4) tyX4 tyX4_ok nmX4 hown hK hP hD hS 5 rfl rfl 10 (by decide) (hts _ (List.mem_cons_of_mem _ qX4_f38)) (fun _ h9 => h9) rfl (by decide +kernel) rfl rfl (Nat.le_of_ble_eq_true rfl) dX4_measure_22 (fun H locs hP hD hS => ?_)
    replace hP : va_P D se_cl (se_WS k h (se_u (se_u (se_u g 5 8 1) 5 9 p1) 5 10 (g 5 0))) H := hP
    replace hD : va_D A (se_WS k h (se_u (se_u (se_u g 5 8 1) 5 9 p1) 5 10 (g 5 0))) := hD
    exact se_rv hx hb hr hlocks hK hP hD hS dX4_measure_25 (by rw [F_S_Watch_measure, if_pos c1])
set_option maxRecDepth 100000 in
set_option maxHeartbeats 4000000 in
theorem c_S_Watch_setAlarmIfOff (l : Launch) (D : va_G) (k : Nat → ClassId) (h : Nat → Nat) (sz : Nat) (g : se_G)  : Met l yX4_setAlarmIfOff (se_w_X4_setAlarmIfOff) ({ frames := 1, cells := 0, slots := 0, locals := 20 }) (va_Pc [.ref (h 5)] (se_Pre D se_cl [(k 2, .byte), (k 4, .int), (k 8, .byte), (k 10, .byte)] (se_WS k h g) se_ZN sz)) (se_Qv D se_cl [(k 2, .byte), (k 4, .int), (k 8, .byte), (k 10, .byte)] (se_WS k h) (F_S_Watch_setAlarmIfOff g) (va_A (se_WS k h g) sz)) 0 0 (va_A (se_WS k h g) sz) := by
  refine se_met (Qc := se_Qv D se_cl [(k 2, .byte), (k 4, .int), (k 8, .byte), (k 10, .byte)] (se_WS k h) (F_S_Watch_setAlarmIfOff g)) (cc := cX4_setAlarmIfOff) (maxL := 1) (ret := none) (by decide) rfl (Nat.le_of_ble_eq_true rfl) ?_
  intro p e s m below meth c ls A hx hb hr hts hown hlocks hml hA hP hK hD hS hZ hl
  replace hl : lv_has ls 1 [(0, .ref (h 5))] := hl
  have hF : F_S_Watch_setAlarmIfOff g = F_S_Watch_setAlarmIfOff g := rfl
  refine lv_aload_n hx hb dX4_setAlarmIfOff_0 rfl (lv_at hl 0 rfl) ?_
  refine va_get (D := D) (ci := 4) (v := .int (g 5 1)) (C := RX4) (T := TX4) (N := 11) hx hb hts (se_iw iwX4) hown hK hP 5 rfl rfl 1 (by decide) (hts _ (List.mem_cons_of_mem _ qX4_f13)) (fun _ h9 => h9) rfl dX4_setAlarmIfOff_1 ?_
  refine lv_if_ne (tgt := 11) hx hb dX4_setAlarmIfOff_4 (by decide) (fun c1 => ?_) (fun c1 => ?_)
  · exact se_rv hx hb hr hlocks hK hP hD hS dX4_setAlarmIfOff_11 (by rw [F_S_Watch_setAlarmIfOff, if_neg c1])
  · refine lv_aload_n hx hb dX4_setAlarmIfOff_7 rfl (lv_at hl 0 rfl) ?_
    refine se_cvE (va_runV (C := RX4) (As := []) (rest := []) ⟨hx, hb, hml, hown, hts⟩ (c_S_Watch_setAlarm l D k h _ g) (se_kV 0 hts q_code_X4_setAlarm qX4_m44 q_ini_StreamEnd_Watch q_instanceMethod_X4_setAlarm q_sel_X4_setAlarm (by decide +kernel) ⟨Nat.le_of_ble_eq_true rfl, Nat.le_of_ble_eq_true rfl⟩ rfl rfl) ⟨se_blind se_ZN_ok, va_recv hK hP (ci := 4) (q0 := 5) rfl rfl, se_pre se_ZN_ok hP hK hD hZ⟩ rfl rfl hl.1 rfl (lv_room (Nat.le_of_ble_eq_true rfl)) dX4_setAlarmIfOff_8 ⟨Nat.zero_le _, Nat.zero_le _⟩) hD hS hA (fun g1 H locs eg1 hP hD hS => ?_)
    exact se_rv hx hb hr hlocks hK hP hD hS dX4_setAlarmIfOff_11 (by subst eg1; rw [F_S_Watch_setAlarmIfOff, if_pos c1])
set_option maxRecDepth 100000 in
set_option maxHeartbeats 4000000 in
theorem c_S_makeNew (l : Launch) (D : va_G) (k : Nat → ClassId) (h : Nat → Nat) (sz : Nat) (g : se_G) (p1 : Int32) (p2 : Int32) : Met l yX5_makeNew (se_w_X5_makeNew) ({ frames := 3, cells := 0, slots := 0, locals := 71 }) (va_Pc [.ref (h 0), .int p1, .int p2] (se_Pre D se_cl [(k 2, .byte), (k 4, .int), (k 8, .byte), (k 10, .byte)] (se_WS k h g) se_ZN sz)) (se_Qv D se_cl [(k 2, .byte), (k 4, .int), (k 8, .byte), (k 10, .byte)] (se_WS k h) (F_S_makeNew g p1 p2) (va_A (se_WS k h g) sz)) 0 0 (va_A (se_WS k h g) sz) := by
  refine se_met (Qc := se_Qv D se_cl [(k 2, .byte), (k 4, .int), (k 8, .byte), (k 10, .byte)] (se_WS k h) (F_S_makeNew g p1 p2)) (cc := cX5_makeNew) (maxL := 3) (ret := none) (by decide) rfl (Nat.le_of_ble_eq_true rfl) ?_
  intro p e s m below meth c ls A hx hb hr hts hown hlocks hml hA hP hK hD hS hZ hl
  replace hl : lv_has ls 3 [(0, .ref (h 0)), (1, .int p1), (2, .int p2)] := hl
  have hF : F_S_makeNew g p1 p2 = F_S_makeNew g p1 p2 := rfl
  refine lv_aload_n hx hb dX5_makeNew_0 rfl (lv_at hl 0 rfl) ?_
  refine va_get (D := D) (ci := 5) (v := .ref (h 6)) (C := RX5) (T := TX5) (N := 12) hx hb hts (se_iw iwX5) hown hK hP 0 rfl rfl 5 (by decide) (hts _ (List.mem_cons_of_mem _ qX5_f42)) (fun _ h9 => h9) rfl dX5_makeNew_1 ?_
  refine lv_iconst (v := 0) hx hb dX5_makeNew_4 (by decide) ?_
  refine va_putN (D := D) (ci := 0) (v := .int 0) (ty := .boolean) (C := RX0) (T := TX0) (N := 9) hx hb hts (se_iw iwX0) tyX0 tyX0_ok nmX0 hown hK hP hD hS 6 rfl rfl 7 (by decide) (va_Nw.use rfl (hZ _ nX5_f200 rfl)) (fun _ h9 => h9) rfl (by decide +kernel) rfl rfl (Nat.le_of_ble_eq_true rfl) dX5_makeNew_5 (fun H locs hP hD hS => ?_)
  replace hP : va_P D se_cl (se_WS k h (se_u g 6 7 0)) H := hP
  replace hD : va_D A (se_WS k h (se_u g 6 7 0)) := hD
  refine lv_aload_n hx hb dX5_makeNew_8 rfl (lv_at hl 0 rfl) ?_
  refine lv_iload_n hx hb dX5_makeNew_9 rfl (lv_at hl 2 rfl) ?_
  refine se_join (v := ((if p2 = 0 then 0 else 2) : Int32)) (pcJ := 18) (restJ := [.ref (h 0)]) (ls := ls) (fun T => ?_) ?_
  · refine lv_if_eq (tgt := 17) hx hb dX5_makeNew_10 (by decide) (fun c2 => ?_) (fun c2 => ?_)
    · refine lv_iconst (v := 0) hx hb dX5_makeNew_17 (by decide) ?_
      exact T _ (by rw [if_pos c2])
    · refine lv_iconst (v := 2) hx hb dX5_makeNew_13 (by decide) ?_
      refine lv_goto (tgt := 18) hx hb dX5_makeNew_14 (by decide) ?_
      exact T _ (by rw [if_neg c2])
  refine lv_aload_n hx hb dX5_makeNew_18 rfl (lv_at hl 0 rfl) ?_
  refine va_get (D := D) (ci := 5) (v := .ref (h 1)) (C := RX5) (T := TX5) (N := 12) hx hb hts (se_iw iwX5) hown hK hP 0 rfl rfl 2 (by decide) (hts _ (List.mem_cons_of_mem _ qX5_f21)) (fun _ h9 => h9) rfl dX5_makeNew_19 ?_
  refine va_getN (D := D) (ci := 2) (v := .int (g 1 6)) (C := RX2) (T := TX2) (N := 13) hx hb hts (se_iw iwX2) hown hK hP 1 rfl rfl 6 (by decide) (va_Nw.use rfl (hZ _ nX5_f137 rfl)) (fun _ h9 => h9) rfl dX5_makeNew_22 ?_
  refine lv_aload_n hx hb dX5_makeNew_25 rfl (lv_at hl 0 rfl) ?_
  refine va_get (D := D) (ci := 5) (v := .ref (h 1)) (C := RX5) (T := TX5) (N := 12) hx hb hts (se_iw iwX5) hown hK hP 0 rfl rfl 2 (by decide) (hts _ (List.mem_cons_of_mem _ qX5_f21)) (fun _ h9 => h9) rfl dX5_makeNew_26 ?_
  refine va_getN (D := D) (ci := 2) (v := .int (g 1 3)) (C := RX2) (T := TX2) (N := 13) hx hb hts (se_iw iwX2) hown hK hP 1 rfl rfl 3 (by decide) (va_Nw.use rfl (hZ _ nX5_f353 rfl)) (fun _ h9 => h9) rfl dX5_makeNew_29 ?_
  refine lv_iload_n hx hb dX5_makeNew_32 rfl (lv_at hl 1 rfl) ?_
  refine se_cvE (va_runV (C := RX5) (As := [.int ((if p2 = 0 then 0 else 2) : Int32), .int (g 1 6), .int (g 1 3), .int p1]) (rest := []) ⟨hx, hb, hml, hown, hts⟩ (c_S_make l D k h _ (se_u g 6 7 0) ((if p2 = 0 then 0 else 2) : Int32) (g 1 6) (g 1 3) p1) (se_kV 4 hts q_code_X5_make qX5_m209 q_ini_StreamEnd q_instanceMethod_X5_make q_sel_X5_make (by decide +kernel) ⟨Nat.le_of_ble_eq_true rfl, Nat.le_of_ble_eq_true rfl⟩ rfl rfl) ⟨se_blind se_ZN_ok, va_recv hK hP (ci := 5) (q0 := 0) rfl rfl, se_pre se_ZN_ok hP hK hD hZ⟩ rfl rfl hl.1 rfl (lv_room (Nat.le_of_ble_eq_true rfl)) dX5_makeNew_33 ⟨Nat.zero_le _, Nat.zero_le _⟩) hD hS hA (fun g1 H locs eg1 hP hD hS => ?_)
  refine lv_aload_n hx hb dX5_makeNew_36 rfl (lv_at hl 0 rfl) ?_
  refine va_get (D := D) (ci := 5) (v := .ref (h 1)) (C := RX5) (T := TX5) (N := 12) hx hb hts (se_iw iwX5) hown hK hP 0 rfl rfl 2 (by decide) (hts _ (List.mem_cons_of_mem _ qX5_f21)) (fun _ h9 => h9) rfl dX5_makeNew_37 ?_
  refine lv_iload_n hx hb dX5_makeNew_40 rfl (lv_at hl 1 rfl) ?_
  refine lv_iload_n hx hb dX5_makeNew_41 rfl (lv_at hl 2 rfl) ?_
  refine se_cvE (va_runVN (C := RX2) (As := [.int p1, .int p2]) (rest := []) ⟨hx, hb, hml, hown, hts⟩ (c_S_Outgoing_wasSent l D k h _ g1 p1 p2) (se_kVN 2 hts q_code_X2_wasSent (hZ _ nX5_m362 rfl) q_ini_StreamEnd_Outgoing q_instanceMethod_X2_wasSent q_sel_X2_wasSent (by decide +kernel) ⟨Nat.le_of_ble_eq_true rfl, Nat.le_of_ble_eq_true rfl⟩ rfl rfl) ⟨se_blind se_ZN_ok, va_recv hK hP (ci := 2) (q0 := 1) rfl rfl, se_pre se_ZN_ok hP hK hD hZ⟩ rfl rfl hl.1 rfl (lv_room (Nat.le_of_ble_eq_true rfl)) dX5_makeNew_42 ⟨Nat.zero_le _, Nat.zero_le _⟩) hD hS hA (fun g2 H locs eg2 hP hD hS => ?_)
  replace hF : (F_S_makeNew_k1 (F_S_Outgoing_wasSent g1 p1 p2)) = F_S_makeNew g p1 p2 := by subst eg1; rw [F_S_makeNew]
  rw [← eg2] at hF
  replace hF : F_S_makeNew_k1 g2 = F_S_makeNew g p1 p2 := hF
  refine lv_aload_n hx hb dX5_makeNew_45 rfl (lv_at hl 0 rfl) ?_
  refine va_get (D := D) (ci := 5) (v := .ref (h 5)) (C := RX5) (T := TX5) (N := 12) hx hb hts (se_iw iwX5) hown hK hP 0 rfl rfl 4 (by decide) (hts _ (List.mem_cons_of_mem _ qX5_f35)) (fun _ h9 => h9) rfl dX5_makeNew_46 ?_
  refine lv_aload_n hx hb dX5_makeNew_49 rfl (lv_at hl 0 rfl) ?_
  refine va_get (D := D) (ci := 5) (v := .ref (h 1)) (C := RX5) (T := TX5) (N := 12) hx hb hts (se_iw iwX5) hown hK hP 0 rfl rfl 2 (by decide) (hts _ (List.mem_cons_of_mem _ qX5_f21)) (fun _ h9 => h9) rfl dX5_makeNew_50 ?_
  refine va_getN (D := D) (ci := 2) (v := .int (g2 1 6)) (C := RX2) (T := TX2) (N := 13) hx hb hts (se_iw iwX2) hown hK hP 1 rfl rfl 6 (by decide) (va_Nw.use rfl (hZ _ nX5_f137 rfl)) (fun _ h9 => h9) rfl dX5_makeNew_53 ?_
  refine se_cvE (va_runVN (C := RX4) (As := [.int (g2 1 6)]) (rest := []) ⟨hx, hb, hml, hown, hts⟩ (c_S_Watch_measure l D k h _ g2 (g2 1 6)) (se_kVN 1 hts q_code_X4_measure (hZ _ nX5_m347 rfl) q_ini_StreamEnd_Watch q_instanceMethod_X4_measure q_sel_X4_measure (by decide +kernel) ⟨Nat.le_of_ble_eq_true rfl, Nat.le_of_ble_eq_true rfl⟩ rfl rfl) ⟨se_blind se_ZN_ok, va_recv hK hP (ci := 4) (q0 := 5) rfl rfl, se_pre se_ZN_ok hP hK hD hZ⟩ rfl rfl hl.1 rfl (lv_room (Nat.le_of_ble_eq_true rfl)) dX5_makeNew_56 ⟨Nat.zero_le _, Nat.zero_le _⟩) hD hS hA (fun g3 H locs eg3 hP hD hS => ?_)
  refine lv_aload_n hx hb dX5_makeNew_59 rfl (lv_at hl 0 rfl) ?_
  refine va_get (D := D) (ci := 5) (v := .ref (h 5)) (C := RX5) (T := TX5) (N := 12) hx hb hts (se_iw iwX5) hown hK hP 0 rfl rfl 4 (by decide) (hts _ (List.mem_cons_of_mem _ qX5_f35)) (fun _ h9 => h9) rfl dX5_makeNew_60 ?_
  refine se_cvE (va_runVN (C := RX4) (As := []) (rest := []) ⟨hx, hb, hml, hown, hts⟩ (c_S_Watch_setAlarmIfOff l D k h _ g3) (se_kVN 0 hts q_code_X4_setAlarmIfOff (hZ _ nX5_m350 rfl) q_ini_StreamEnd_Watch q_instanceMethod_X4_setAlarmIfOff q_sel_X4_setAlarmIfOff (by decide +kernel) ⟨Nat.le_of_ble_eq_true rfl, Nat.le_of_ble_eq_true rfl⟩ rfl rfl) ⟨se_blind se_ZN_ok, va_recv hK hP (ci := 4) (q0 := 5) rfl rfl, se_pre se_ZN_ok hP hK hD hZ⟩ rfl rfl hl.1 rfl (lv_room (Nat.le_of_ble_eq_true rfl)) dX5_makeNew_63 ⟨Nat.zero_le _, Nat.zero_le _⟩) hD hS hA (fun g4 H locs eg4 hP hD hS => ?_)
  exact se_rv hx hb hr hlocks hK hP hD hS dX5_makeNew_66 (by subst eg3; subst eg4; rw [← hF, F_S_makeNew_k1])
set_option maxRecDepth 100000 in
set_option maxHeartbeats 4000000 in
theorem c_S_makeProbe (l : Launch) (D : va_G) (k : Nat → ClassId) (h : Nat → Nat) (sz : Nat) (g : se_G)  : Met l yX5_makeProbe (se_w_X5_makeProbe) ({ frames := 4, cells := 0, slots := 0, locals := 93 }) (va_Pc [.ref (h 0)] (se_Pre D se_cl [(k 2, .byte), (k 4, .int), (k 8, .byte), (k 10, .byte)] (se_WS k h g) se_ZN sz)) (se_Qv D se_cl [(k 2, .byte), (k 4, .int), (k 8, .byte), (k 10, .byte)] (se_WS k h) (F_S_makeProbe g) (va_A (se_WS k h g) sz)) 0 0 (va_A (se_WS k h g) sz) := by
  refine se_met (Qc := se_Qv D se_cl [(k 2, .byte), (k 4, .int), (k 8, .byte), (k 10, .byte)] (se_WS k h) (F_S_makeProbe g)) (cc := cX5_makeProbe) (maxL := 2) (ret := none) (by decide) rfl (Nat.le_of_ble_eq_true rfl) ?_
  intro p e s m below meth c ls A hx hb hr hts hown hlocks hml hA hP hK hD hS hZ hl
  replace hl : lv_has ls 2 [(0, .ref (h 0))] := hl
  have hF : F_S_makeProbe g = F_S_makeProbe g := rfl
  refine lv_aload_n hx hb dX5_makeProbe_0 rfl (lv_at hl 0 rfl) ?_
  refine va_get (D := D) (ci := 5) (v := .ref (h 1)) (C := RX5) (T := TX5) (N := 12) hx hb hts (se_iw iwX5) hown hK hP 0 rfl rfl 2 (by decide) (hts _ (List.mem_cons_of_mem _ qX5_f21)) (fun _ h9 => h9) rfl dX5_makeProbe_1 ?_
  refine se_cp (va_runVN (C := RX2) (As := []) (rest := []) ⟨hx, hb, hml, hown, hts⟩ (c_S_Outgoing_unsent l D k h _ g) (se_kVN 0 hts q_code_X2_unsent (hZ _ nX5_m359 rfl) q_ini_StreamEnd_Outgoing q_instanceMethod_X2_unsent q_sel_X2_unsent (by decide +kernel) ⟨Nat.le_of_ble_eq_true rfl, Nat.le_of_ble_eq_true rfl⟩ rfl rfl) ⟨se_blind se_ZN_ok, va_recv hK hP (ci := 2) (q0 := 1) rfl rfl, se_pre se_ZN_ok hP hK hD hZ⟩ rfl rfl hl.1 rfl (lv_room (Nat.le_of_ble_eq_true rfl)) dX5_makeProbe_4 ⟨Nat.zero_le _, Nat.zero_le _⟩) ?_
  refine se_join (v := ((if (F_S_Outgoing_unsent g) = 0 then 1 else 0) : Int32)) (pcJ := 15) (restJ := []) (ls := ls) (fun T => ?_) ?_
  · refine lv_if_ne (tgt := 14) hx hb dX5_makeProbe_7 (by decide) (fun c2 => ?_) (fun c2 => ?_)
    · refine lv_iconst (v := 0) hx hb dX5_makeProbe_14 (by decide) ?_
      exact T _ (by rw [if_neg c2])
    · refine lv_iconst (v := 1) hx hb dX5_makeProbe_10 (by decide) ?_
      refine lv_goto (tgt := 15) hx hb dX5_makeProbe_11 (by decide) ?_
      exact T _ (by rw [if_pos c2])
  refine lv_istore_n (lv' := [(1, .int ((if (F_S_Outgoing_unsent g) = 0 then 1 else 0) : Int32)), (0, .ref (h 0))]) hx hb dX5_makeProbe_15 rfl hl (by decide) rfl (fun ls hl => ?_)
  refine lv_aload_n hx hb dX5_makeProbe_16 rfl (lv_at hl 1 rfl) ?_
  refine lv_iload_n hx hb dX5_makeProbe_17 rfl (lv_at hl 0 rfl) ?_
  refine se_join (v := ((if ((if (F_S_Outgoing_unsent g) = 0 then 1 else 0) : Int32) = 0 then 1 else 0) : Int32)) (pcJ := 26) (restJ := [.ref (h 0)]) (ls := ls) (fun T => ?_) ?_
  · refine lv_if_eq (tgt := 25) hx hb dX5_makeProbe_18 (by decide) (fun c4 => ?_) (fun c4 => ?_)
    · refine lv_iconst (v := 1) hx hb dX5_makeProbe_25 (by decide) ?_
      exact T _ (by rw [if_pos c4])
    · refine lv_iconst (v := 0) hx hb dX5_makeProbe_21 (by decide) ?_
      refine lv_goto (tgt := 26) hx hb dX5_makeProbe_22 (by decide) ?_
      exact T _ (by rw [if_neg c4])
  refine lv_iload_n hx hb dX5_makeProbe_26 rfl (lv_at hl 0 rfl) ?_
  refine se_cvE (va_runV (C := RX5) (As := [.int ((if ((if (F_S_Outgoing_unsent g) = 0 then 1 else 0) : Int32) = 0 then 1 else 0) : Int32), .int ((if (F_S_Outgoing_unsent g) = 0 then 1 else 0) : Int32)]) (rest := []) ⟨hx, hb, hml, hown, hts⟩ (c_S_makeNew l D k h _ g ((if ((if (F_S_Outgoing_unsent g) = 0 then 1 else 0) : Int32) = 0 then 1 else 0) : Int32) ((if (F_S_Outgoing_unsent g) = 0 then 1 else 0) : Int32)) (se_kV 2 hts q_code_X5_makeNew qX5_m197 q_ini_StreamEnd q_instanceMethod_X5_makeNew q_sel_X5_makeNew (by decide +kernel) ⟨Nat.le_of_ble_eq_true rfl, Nat.le_of_ble_eq_true rfl⟩ rfl rfl) ⟨se_blind se_ZN_ok, va_recv hK hP (ci := 5) (q0 := 0) rfl rfl, se_pre se_ZN_ok hP hK hD hZ⟩ rfl rfl hl.1 rfl (lv_room (Nat.le_of_ble_eq_true rfl)) dX5_makeProbe_27 ⟨Nat.zero_le _, Nat.zero_le _⟩) hD hS hA (fun g1 H locs eg1 hP hD hS => ?_)
  exact se_rv hx hb hr hlocks hK hP hD hS dX5_makeProbe_30 (by subst eg1; rw [F_S_makeProbe])
set_option maxRecDepth 100000 in
set_option maxHeartbeats 4000000 in
theorem c_S_Outgoing_allowed (l : Launch) (D : va_G) (k : Nat → ClassId) (h : Nat → Nat) (sz : Nat) (g : se_G)  : Met l yX2_allowed (se_w_X2_allowed) ({ frames := 0, cells := 0, slots := 0, locals := 0 }) (va_Pc [.ref (h 1)] (se_Pre D se_cl [(k 2, .byte), (k 4, .int), (k 8, .byte), (k 10, .byte)] (se_WS k h g) se_ZN sz)) (se_Qp (F_S_Outgoing_allowed g)) 0 0 (fun _ => False) := by
  refine se_metP (cc := cX2_allowed) (maxL := 1) (ret := (some .int)) (by decide) rfl (Nat.le_of_ble_eq_true rfl) ?_
  intro p e s m below meth c ls A hx hb hr hts hown hlocks hml hA hP hK hD hS hZ hl
  replace hl : lv_has ls 1 [(0, .ref (h 1))] := hl
  have hF : F_S_Outgoing_allowed g = F_S_Outgoing_allowed g := rfl
  refine lv_aload_n hx hb dX2_allowed_0 rfl (lv_at hl 0 rfl) ?_
  refine va_get (D := D) (ci := 2) (v := .int (g 1 10)) (C := RX2) (T := TX2) (N := 13) hx hb hts (se_iw iwX2) hown hK hP 1 rfl rfl 10 (by decide) (hts _ (List.mem_cons_of_mem _ qX2_f56)) (fun _ h9 => h9) rfl dX2_allowed_1 ?_
  refine lv_aload_n hx hb dX2_allowed_4 rfl (lv_at hl 0 rfl) ?_
  refine va_get (D := D) (ci := 2) (v := .int (g 1 6)) (C := RX2) (T := TX2) (N := 13) hx hb hts (se_iw iwX2) hown hK hP 1 rfl rfl 6 (by decide) (hts _ (List.mem_cons_of_mem _ qX2_f34)) (fun _ h9 => h9) rfl dX2_allowed_5 ?_
  refine lv_aload_n hx hb dX2_allowed_8 rfl (lv_at hl 0 rfl) ?_
  refine va_get (D := D) (ci := 2) (v := .int (g 1 5)) (C := RX2) (T := TX2) (N := 13) hx hb hts (se_iw iwX2) hown hK hP 1 rfl rfl 5 (by decide) (hts _ (List.mem_cons_of_mem _ qX2_f31)) (fun _ h9 => h9) rfl dX2_allowed_9 ?_
  refine lv_isub hx hb dX2_allowed_12 ?_
  refine lv_isub hx hb dX2_allowed_13 ?_
  exact se_rp hx hb hr  hlocks dX2_allowed_14 (by rw [F_S_Outgoing_allowed])
set_option maxRecDepth 100000 in
set_option maxHeartbeats 4000000 in
theorem c_S_Outgoing_newBytes (l : Launch) (D : va_G) (k : Nat → ClassId) (h : Nat → Nat) (sz : Nat) (g : se_G)  : Met l yX2_newBytes (se_w_X2_newBytes) ({ frames := 1, cells := 0, slots := 0, locals := 21 }) (va_Pc [.ref (h 1)] (se_Pre D se_cl [(k 2, .byte), (k 4, .int), (k 8, .byte), (k 10, .byte)] (se_WS k h g) se_ZN sz)) (se_Qp (F_S_Outgoing_newBytes g)) 0 0 (fun _ => False) := by
  refine se_metP (cc := cX2_newBytes) (maxL := 1) (ret := (some .int)) (by decide) rfl (Nat.le_of_ble_eq_true rfl) ?_
  intro p e s m below meth c ls A hx hb hr hts hown hlocks hml hA hP hK hD hS hZ hl
  replace hl : lv_has ls 1 [(0, .ref (h 1))] := hl
  have hF : F_S_Outgoing_newBytes g = F_S_Outgoing_newBytes g := rfl
  refine lv_iconst (v := 0) hx hb dX2_newBytes_0 (by decide) ?_
  refine lv_aload_n hx hb dX2_newBytes_1 rfl (lv_at hl 0 rfl) ?_
  refine se_cp (va_runV (C := RX2) (As := []) (rest := [.int 0]) ⟨hx, hb, hml, hown, hts⟩ (c_S_Outgoing_unsent l D k h _ g) (se_kV 0 hts q_code_X2_unsent qX2_m48 q_ini_StreamEnd_Outgoing q_instanceMethod_X2_unsent q_sel_X2_unsent (by decide +kernel) ⟨Nat.le_of_ble_eq_true rfl, Nat.le_of_ble_eq_true rfl⟩ rfl rfl) ⟨se_blind se_ZN_ok, va_recv hK hP (ci := 2) (q0 := 1) rfl rfl, se_pre se_ZN_ok hP hK hD hZ⟩ rfl rfl hl.1 rfl (lv_room (Nat.le_of_ble_eq_true rfl)) dX2_newBytes_2 ⟨Nat.zero_le _, Nat.zero_le _⟩) ?_
  refine lv_aload_n hx hb dX2_newBytes_5 rfl (lv_at hl 0 rfl) ?_
  refine va_get (D := D) (ci := 2) (v := .int (g 1 9)) (C := RX2) (T := TX2) (N := 13) hx hb hts (se_iw iwX2) hown hK hP 1 rfl rfl 9 (by decide) (hts _ (List.mem_cons_of_mem _ qX2_f15)) (fun _ h9 => h9) rfl dX2_newBytes_6 ?_
  refine lv_aload_n hx hb dX2_newBytes_9 rfl (lv_at hl 0 rfl) ?_
  refine se_cp (va_runV (C := RX2) (As := []) (rest := [.int (g 1 9), .int (F_S_Outgoing_unsent g), .int 0]) ⟨hx, hb, hml, hown, hts⟩ (c_S_Outgoing_allowed l D k h _ g) (se_kV 0 hts q_code_X2_allowed qX2_m59 q_ini_StreamEnd_Outgoing q_instanceMethod_X2_allowed q_sel_X2_allowed (by decide +kernel) ⟨Nat.le_of_ble_eq_true rfl, Nat.le_of_ble_eq_true rfl⟩ rfl rfl) ⟨se_blind se_ZN_ok, va_recv hK hP (ci := 2) (q0 := 1) rfl rfl, se_pre se_ZN_ok hP hK hD hZ⟩ rfl rfl hl.1 rfl (lv_room (Nat.le_of_ble_eq_true rfl)) dX2_newBytes_10 ⟨Nat.zero_le _, Nat.zero_le _⟩) ?_
  refine va_mmin hx hb (hml.trans hl.1.symm) hown (hts _ (List.mem_cons_of_mem _ qX2_m62)) (hts _ (List.mem_cons_of_mem _ q_static_Math_min)) (hts _ (List.mem_cons_of_mem _ q_ini_java_lang_Math)) (hts _ (List.mem_cons_of_mem _ q_code_Math_min)) (Nat.le_of_ble_eq_true rfl) (Nat.le_of_ble_eq_true rfl) (Nat.zero_le _) (Nat.zero_le _) dX2_newBytes_13 ?_
  refine va_mmin hx hb (hml.trans hl.1.symm) hown (hts _ (List.mem_cons_of_mem _ qX2_m62)) (hts _ (List.mem_cons_of_mem _ q_static_Math_min)) (hts _ (List.mem_cons_of_mem _ q_ini_java_lang_Math)) (hts _ (List.mem_cons_of_mem _ q_code_Math_min)) (Nat.le_of_ble_eq_true rfl) (Nat.le_of_ble_eq_true rfl) (Nat.zero_le _) (Nat.zero_le _) dX2_newBytes_16 ?_
  refine va_mmax hx hb (hml.trans hl.1.symm) hown (hts _ (List.mem_cons_of_mem _ qX2_m68)) (hts _ (List.mem_cons_of_mem _ q_static_Math_max)) (hts _ (List.mem_cons_of_mem _ q_ini_java_lang_Math)) (hts _ (List.mem_cons_of_mem _ q_code_Math_max)) (Nat.le_of_ble_eq_true rfl) (Nat.le_of_ble_eq_true rfl) (Nat.zero_le _) (Nat.zero_le _) dX2_newBytes_19 ?_
  exact se_rp hx hb hr  hlocks dX2_newBytes_22 (by rw [F_S_Outgoing_newBytes])
set_option maxRecDepth 100000 in
set_option maxHeartbeats 4000000 in
theorem c_S_Outgoing_newHasLast (l : Launch) (D : va_G) (k : Nat → ClassId) (h : Nat → Nat) (sz : Nat) (g : se_G)  : Met l yX2_newHasLast (se_w_X2_newHasLast) ({ frames := 2, cells := 0, slots := 0, locals := 41 }) (va_Pc [.ref (h 1)] (se_Pre D se_cl [(k 2, .byte), (k 4, .int), (k 8, .byte), (k 10, .byte)] (se_WS k h g) se_ZN sz)) (se_Qp (F_S_Outgoing_newHasLast g)) 0 0 (fun _ => False) := by
  refine se_metP (cc := cX2_newHasLast) (maxL := 2) (ret := (some .boolean)) (by decide) rfl (Nat.le_of_ble_eq_true rfl) ?_
  intro p e s m below meth c ls A hx hb hr hts hown hlocks hml hA hP hK hD hS hZ hl
  replace hl : lv_has ls 2 [(0, .ref (h 1))] := hl
  have hF : F_S_Outgoing_newHasLast g = F_S_Outgoing_newHasLast g := rfl
  refine lv_aload_n hx hb dX2_newHasLast_0 rfl (lv_at hl 0 rfl) ?_
  refine se_cp (va_runV (C := RX2) (As := []) (rest := []) ⟨hx, hb, hml, hown, hts⟩ (c_S_Outgoing_newBytes l D k h _ g) (se_kV 0 hts q_code_X2_newBytes qX2_m71 q_ini_StreamEnd_Outgoing q_instanceMethod_X2_newBytes q_sel_X2_newBytes (by decide +kernel) ⟨Nat.le_of_ble_eq_true rfl, Nat.le_of_ble_eq_true rfl⟩ rfl rfl) ⟨se_blind se_ZN_ok, va_recv hK hP (ci := 2) (q0 := 1) rfl rfl, se_pre se_ZN_ok hP hK hD hZ⟩ rfl rfl hl.1 rfl (lv_room (Nat.le_of_ble_eq_true rfl)) dX2_newHasLast_1 ⟨Nat.zero_le _, Nat.zero_le _⟩) ?_
  refine lv_istore_n (lv' := [(1, .int (F_S_Outgoing_newBytes g)), (0, .ref (h 1))]) hx hb dX2_newHasLast_4 rfl hl (by decide) rfl (fun ls hl => ?_)
  refine lv_aload_n hx hb dX2_newHasLast_5 rfl (lv_at hl 1 rfl) ?_
  refine va_get (D := D) (ci := 2) (v := .int (g 1 7)) (C := RX2) (T := TX2) (N := 13) hx hb hts (se_iw iwX2) hown hK hP 1 rfl rfl 7 (by decide) (hts _ (List.mem_cons_of_mem _ qX2_f37)) (fun _ h9 => h9) rfl dX2_newHasLast_6 ?_
  refine lv_if_eq (tgt := 39) hx hb dX2_newHasLast_9 (by decide) (fun c1 => ?_) (fun c1 => ?_)
  · refine lv_iconst (v := 0) hx hb dX2_newHasLast_39 (by decide) ?_
    exact se_rpz hx hb hr rfl hlocks dX2_newHasLast_40 (by rw [F_S_Outgoing_newHasLast, if_pos c1])
  · refine lv_aload_n hx hb dX2_newHasLast_12 rfl (lv_at hl 1 rfl) ?_
    refine va_get (D := D) (ci := 2) (v := .int (g 1 8)) (C := RX2) (T := TX2) (N := 13) hx hb hts (se_iw iwX2) hown hK hP 1 rfl rfl 8 (by decide) (hts _ (List.mem_cons_of_mem _ qX2_f41)) (fun _ h9 => h9) rfl dX2_newHasLast_13 ?_
    refine lv_if_ne (tgt := 39) hx hb dX2_newHasLast_16 (by decide) (fun c2 => ?_) (fun c2 => ?_)
    · refine lv_iconst (v := 0) hx hb dX2_newHasLast_39 (by decide) ?_
      exact se_rpz hx hb hr rfl hlocks dX2_newHasLast_40 (by rw [F_S_Outgoing_newHasLast, if_neg c1, if_neg c2])
    · refine lv_iload_n hx hb dX2_newHasLast_19 rfl (lv_at hl 0 rfl) ?_
      refine lv_aload_n hx hb dX2_newHasLast_20 rfl (lv_at hl 1 rfl) ?_
      refine se_cp (va_runV (C := RX2) (As := []) (rest := [.int (F_S_Outgoing_newBytes g)]) ⟨hx, hb, hml, hown, hts⟩ (c_S_Outgoing_unsent l D k h _ g) (se_kV 0 hts q_code_X2_unsent qX2_m48 q_ini_StreamEnd_Outgoing q_instanceMethod_X2_unsent q_sel_X2_unsent (by decide +kernel) ⟨Nat.le_of_ble_eq_true rfl, Nat.le_of_ble_eq_true rfl⟩ rfl rfl) ⟨se_blind se_ZN_ok, va_recv hK hP (ci := 2) (q0 := 1) rfl rfl, se_pre se_ZN_ok hP hK hD hZ⟩ rfl rfl hl.1 rfl (lv_room (Nat.le_of_ble_eq_true rfl)) dX2_newHasLast_21 ⟨Nat.zero_le _, Nat.zero_le _⟩) ?_
      refine lv_icmp_ne (tgt := 39) hx hb dX2_newHasLast_24 (by decide) (fun c3 => ?_) (fun c3 => ?_)
      · refine lv_iconst (v := 0) hx hb dX2_newHasLast_39 (by decide) ?_
        exact se_rpz hx hb hr rfl hlocks dX2_newHasLast_40 (by rw [F_S_Outgoing_newHasLast, if_neg c1, if_pos c2, if_neg c3])
      · refine lv_iload_n hx hb dX2_newHasLast_27 rfl (lv_at hl 0 rfl) ?_
        refine lv_aload_n hx hb dX2_newHasLast_28 rfl (lv_at hl 1 rfl) ?_
        refine se_cp (va_runV (C := RX2) (As := []) (rest := [.int (F_S_Outgoing_newBytes g)]) ⟨hx, hb, hml, hown, hts⟩ (c_S_Outgoing_allowed l D k h _ g) (se_kV 0 hts q_code_X2_allowed qX2_m59 q_ini_StreamEnd_Outgoing q_instanceMethod_X2_allowed q_sel_X2_allowed (by decide +kernel) ⟨Nat.le_of_ble_eq_true rfl, Nat.le_of_ble_eq_true rfl⟩ rfl rfl) ⟨se_blind se_ZN_ok, va_recv hK hP (ci := 2) (q0 := 1) rfl rfl, se_pre se_ZN_ok hP hK hD hZ⟩ rfl rfl hl.1 rfl (lv_room (Nat.le_of_ble_eq_true rfl)) dX2_newHasLast_29 ⟨Nat.zero_le _, Nat.zero_le _⟩) ?_
        refine lv_icmp_ge (tgt := 39) hx hb dX2_newHasLast_32 (by decide) (fun c4 => ?_) (fun c4 => ?_)
        · refine lv_iconst (v := 0) hx hb dX2_newHasLast_39 (by decide) ?_
          exact se_rpz hx hb hr rfl hlocks dX2_newHasLast_40 (by rw [F_S_Outgoing_newHasLast, if_neg c1, if_pos c2, if_pos c3, if_pos c4])
        · refine lv_iconst (v := 1) hx hb dX2_newHasLast_35 (by decide) ?_
          refine lv_goto (tgt := 40) hx hb dX2_newHasLast_36 (by decide) ?_
          exact se_rpz hx hb hr rfl hlocks dX2_newHasLast_40 (by rw [F_S_Outgoing_newHasLast, if_neg c1, if_pos c2, if_pos c3, if_neg c4])
set_option maxRecDepth 100000 in
set_option maxHeartbeats 4000000 in
theorem c_S_Outgoing_maySend (l : Launch) (D : va_G) (k : Nat → ClassId) (h : Nat → Nat) (sz : Nat) (g : se_G)  : Met l yX2_maySend (se_w_X2_maySend) ({ frames := 3, cells := 0, slots := 0, locals := 62 }) (va_Pc [.ref (h 1)] (se_Pre D se_cl [(k 2, .byte), (k 4, .int), (k 8, .byte), (k 10, .byte)] (se_WS k h g) se_ZN sz)) (se_Qp (F_S_Outgoing_maySend g)) 0 0 (fun _ => False) := by
  refine se_metP (cc := cX2_maySend) (maxL := 1) (ret := (some .boolean)) (by decide) rfl (Nat.le_of_ble_eq_true rfl) ?_
  intro p e s m below meth c ls A hx hb hr hts hown hlocks hml hA hP hK hD hS hZ hl
  replace hl : lv_has ls 1 [(0, .ref (h 1))] := hl
  have hF : F_S_Outgoing_maySend g = F_S_Outgoing_maySend g := rfl
  refine lv_aload_n hx hb dX2_maySend_0 rfl (lv_at hl 0 rfl) ?_
  refine se_cp (va_runV (C := RX2) (As := []) (rest := []) ⟨hx, hb, hml, hown, hts⟩ (c_S_Outgoing_newBytes l D k h _ g) (se_kV 0 hts q_code_X2_newBytes qX2_m71 q_ini_StreamEnd_Outgoing q_instanceMethod_X2_newBytes q_sel_X2_newBytes (by decide +kernel) ⟨Nat.le_of_ble_eq_true rfl, Nat.le_of_ble_eq_true rfl⟩ rfl rfl) ⟨se_blind se_ZN_ok, va_recv hK hP (ci := 2) (q0 := 1) rfl rfl, se_pre se_ZN_ok hP hK hD hZ⟩ rfl rfl hl.1 rfl (lv_room (Nat.le_of_ble_eq_true rfl)) dX2_maySend_1 ⟨Nat.zero_le _, Nat.zero_le _⟩) ?_
  refine lv_if_gt (tgt := 14) hx hb dX2_maySend_4 (by decide) (fun c1 => ?_) (fun c1 => ?_)
  · refine lv_iconst (v := 1) hx hb dX2_maySend_14 (by decide) ?_
    refine lv_goto (tgt := 19) hx hb dX2_maySend_15 (by decide) ?_
    exact se_rpz hx hb hr rfl hlocks dX2_maySend_19 (by rw [F_S_Outgoing_maySend, if_pos c1])
  · refine lv_aload_n hx hb dX2_maySend_7 rfl (lv_at hl 0 rfl) ?_
    refine se_cp (va_runV (C := RX2) (As := []) (rest := []) ⟨hx, hb, hml, hown, hts⟩ (c_S_Outgoing_newHasLast l D k h _ g) (se_kV 0 hts q_code_X2_newHasLast qX2_m74 q_ini_StreamEnd_Outgoing q_instanceMethod_X2_newHasLast q_sel_X2_newHasLast (by decide +kernel) ⟨Nat.le_of_ble_eq_true rfl, Nat.le_of_ble_eq_true rfl⟩ rfl rfl) ⟨se_blind se_ZN_ok, va_recv hK hP (ci := 2) (q0 := 1) rfl rfl, se_pre se_ZN_ok hP hK hD hZ⟩ rfl rfl hl.1 rfl (lv_room (Nat.le_of_ble_eq_true rfl)) dX2_maySend_8 ⟨Nat.zero_le _, Nat.zero_le _⟩) ?_
    refine lv_if_eq (tgt := 18) hx hb dX2_maySend_11 (by decide) (fun c2 => ?_) (fun c2 => ?_)
    · refine lv_iconst (v := 0) hx hb dX2_maySend_18 (by decide) ?_
      exact se_rpz hx hb hr rfl hlocks dX2_maySend_19 (by rw [F_S_Outgoing_maySend, if_neg c1, if_pos c2])
    · refine lv_iconst (v := 1) hx hb dX2_maySend_14 (by decide) ?_
      refine lv_goto (tgt := 19) hx hb dX2_maySend_15 (by decide) ?_
      exact se_rpz hx hb hr rfl hlocks dX2_maySend_19 (by rw [F_S_Outgoing_maySend, if_neg c1, if_neg c2])
set_option maxRecDepth 100000 in
set_option maxHeartbeats 4000000 in
theorem c_S_makeAgain (l : Launch) (D : va_G) (k : Nat → ClassId) (h : Nat → Nat) (sz : Nat) (g : se_G)  : Met l yX5_makeAgain (se_w_X5_makeAgain) ({ frames := 3, cells := 0, slots := 0, locals := 71 }) (va_Pc [.ref (h 0)] (se_Pre D se_cl [(k 2, .byte), (k 4, .int), (k 8, .byte), (k 10, .byte)] (se_WS k h g) se_ZN sz)) (se_Qv D se_cl [(k 2, .byte), (k 4, .int), (k 8, .byte), (k 10, .byte)] (se_WS k h) (F_S_makeAgain g) (va_A (se_WS k h g) sz)) 0 0 (va_A (se_WS k h g) sz) := by
  refine se_met (Qc := se_Qv D se_cl [(k 2, .byte), (k 4, .int), (k 8, .byte), (k 10, .byte)] (se_WS k h) (F_S_makeAgain g)) (cc := cX5_makeAgain) (maxL := 3) (ret := none) (by decide) rfl (Nat.le_of_ble_eq_true rfl) ?_
  intro p e s m below meth c ls A hx hb hr hts hown hlocks hml hA hP hK hD hS hZ hl
  replace hl : lv_has ls 3 [(0, .ref (h 0))] := hl
  have hF : F_S_makeAgain g = F_S_makeAgain g := rfl
  refine lv_aload_n hx hb dX5_makeAgain_0 rfl (lv_at hl 0 rfl) ?_
  refine va_get (D := D) (ci := 5) (v := .ref (h 6)) (C := RX5) (T := TX5) (N := 12) hx hb hts (se_iw iwX5) hown hK hP 0 rfl rfl 5 (by decide) (hts _ (List.mem_cons_of_mem _ qX5_f42)) (fun _ h9 => h9) rfl dX5_makeAgain_1 ?_
  refine lv_iconst (v := 0) hx hb dX5_makeAgain_4 (by decide) ?_
  refine va_putN (D := D) (ci := 0) (v := .int 0) (ty := .boolean) (C := RX0) (T := TX0) (N := 9) hx hb hts (se_iw iwX0) tyX0 tyX0_ok nmX0 hown hK hP hD hS 6 rfl rfl 6 (by decide) (va_Nw.use rfl (hZ _ nX5_f179 rfl)) (fun _ h9 => h9) rfl (by decide +kernel) rfl rfl (Nat.le_of_ble_eq_true rfl) dX5_makeAgain_5 (fun H locs hP hD hS => ?_)
  replace hP : va_P D se_cl (se_WS k h (se_u g 6 6 0)) H := hP
  replace hD : va_D A (se_WS k h (se_u g 6 6 0)) := hD
  refine lv_aload_n hx hb dX5_makeAgain_8 rfl (lv_at hl 0 rfl) ?_
  refine va_get (D := D) (ci := 5) (v := .ref (h 1)) (C := RX5) (T := TX5) (N := 12) hx hb hts (se_iw iwX5) hown hK hP 0 rfl rfl 2 (by decide) (hts _ (List.mem_cons_of_mem _ qX5_f21)) (fun _ h9 => h9) rfl dX5_makeAgain_9 ?_
  refine va_getN (D := D) (ci := 2) (v := .int (g 1 3)) (C := RX2) (T := TX2) (N := 13) hx hb hts (se_iw iwX2) hown hK hP 1 rfl rfl 3 (by decide) (va_Nw.use rfl (hZ _ nX5_f353 rfl)) (fun _ h9 => h9) rfl dX5_makeAgain_12 ?_
  refine lv_aload_n hx hb dX5_makeAgain_15 rfl (lv_at hl 0 rfl) ?_
  refine va_get (D := D) (ci := 5) (v := .ref (h 1)) (C := RX5) (T := TX5) (N := 12) hx hb hts (se_iw iwX5) hown hK hP 0 rfl rfl 2 (by decide) (hts _ (List.mem_cons_of_mem _ qX5_f21)) (fun _ h9 => h9) rfl dX5_makeAgain_16 ?_
  refine va_getN (D := D) (ci := 2) (v := .int (g 1 9)) (C := RX2) (T := TX2) (N := 13) hx hb hts (se_iw iwX2) hown hK hP 1 rfl rfl 9 (by decide) (va_Nw.use rfl (hZ _ nX5_f273 rfl)) (fun _ h9 => h9) rfl dX5_makeAgain_19 ?_
  refine va_mmin hx hb (hml.trans hl.1.symm) hown (hts _ (List.mem_cons_of_mem _ qX5_m102)) (hts _ (List.mem_cons_of_mem _ q_static_Math_min)) (hts _ (List.mem_cons_of_mem _ q_ini_java_lang_Math)) (hts _ (List.mem_cons_of_mem _ q_code_Math_min)) (Nat.le_of_ble_eq_true rfl) (Nat.le_of_ble_eq_true rfl) (Nat.zero_le _) (Nat.zero_le _) dX5_makeAgain_22 ?_
  refine lv_istore_n (lv' := [(1, .int (if (g 1 9) < (g 1 3) then (g 1 9) else (g 1 3))), (0, .ref (h 0))]) hx hb dX5_makeAgain_25 rfl hl (by decide) rfl (fun ls hl => ?_)
  refine lv_aload_n hx hb dX5_makeAgain_26 rfl (lv_at hl 1 rfl) ?_
  refine va_get (D := D) (ci := 5) (v := .ref (h 1)) (C := RX5) (T := TX5) (N := 12) hx hb hts (se_iw iwX5) hown hK hP 0 rfl rfl 2 (by decide) (hts _ (List.mem_cons_of_mem _ qX5_f21)) (fun _ h9 => h9) rfl dX5_makeAgain_27 ?_
  refine va_getN (D := D) (ci := 2) (v := .int (g 1 8)) (C := RX2) (T := TX2) (N := 13) hx hb hts (se_iw iwX2) hown hK hP 1 rfl rfl 8 (by decide) (va_Nw.use rfl (hZ _ nX5_f356 rfl)) (fun _ h9 => h9) rfl dX5_makeAgain_30 ?_
  refine se_join (v := ((if (g 1 8) = 0 then 0 else ((if (if (g 1 9) < (g 1 3) then (g 1 9) else (g 1 3)) = (g 1 3) then 1 else 0) : Int32)) : Int32)) (pcJ := 52) (restJ := []) (ls := ls) (fun T => ?_) ?_
  · refine lv_if_eq (tgt := 51) hx hb dX5_makeAgain_33 (by decide) (fun c2 => ?_) (fun c2 => ?_)
    · refine lv_iconst (v := 0) hx hb dX5_makeAgain_51 (by decide) ?_
      exact T _ (by rw [if_pos c2])
    · refine lv_iload_n hx hb dX5_makeAgain_36 rfl (lv_at hl 0 rfl) ?_
      refine lv_aload_n hx hb dX5_makeAgain_37 rfl (lv_at hl 1 rfl) ?_
      refine va_get (D := D) (ci := 5) (v := .ref (h 1)) (C := RX5) (T := TX5) (N := 12) hx hb hts (se_iw iwX5) hown hK hP 0 rfl rfl 2 (by decide) (hts _ (List.mem_cons_of_mem _ qX5_f21)) (fun _ h9 => h9) rfl dX5_makeAgain_38 ?_
      refine va_getN (D := D) (ci := 2) (v := .int (g 1 3)) (C := RX2) (T := TX2) (N := 13) hx hb hts (se_iw iwX2) hown hK hP 1 rfl rfl 3 (by decide) (va_Nw.use rfl (hZ _ nX5_f353 rfl)) (fun _ h9 => h9) rfl dX5_makeAgain_41 ?_
      refine lv_icmp_ne (tgt := 51) hx hb dX5_makeAgain_44 (by decide) (fun c3 => ?_) (fun c3 => ?_)
      · refine lv_iconst (v := 0) hx hb dX5_makeAgain_51 (by decide) ?_
        exact T _ (by rw [if_neg c2, if_neg c3])
      · refine lv_iconst (v := 1) hx hb dX5_makeAgain_47 (by decide) ?_
        refine lv_goto (tgt := 52) hx hb dX5_makeAgain_48 (by decide) ?_
        exact T _ (by rw [if_neg c2, if_pos c3])
  refine lv_istore_n (lv' := [(2, .int ((if (g 1 8) = 0 then 0 else ((if (if (g 1 9) < (g 1 3) then (g 1 9) else (g 1 3)) = (g 1 3) then 1 else 0) : Int32)) : Int32)), (1, .int (if (g 1 9) < (g 1 3) then (g 1 9) else (g 1 3))), (0, .ref (h 0))]) hx hb dX5_makeAgain_52 rfl hl (by decide) rfl (fun ls hl => ?_)
  refine lv_aload_n hx hb dX5_makeAgain_53 rfl (lv_at hl 2 rfl) ?_
  refine lv_iload_n hx hb dX5_makeAgain_54 rfl (lv_at hl 0 rfl) ?_
  refine se_join (v := ((if ((if (g 1 8) = 0 then 0 else ((if (if (g 1 9) < (g 1 3) then (g 1 9) else (g 1 3)) = (g 1 3) then 1 else 0) : Int32)) : Int32) = 0 then 0 else 2) : Int32)) (pcJ := 63) (restJ := [.ref (h 0)]) (ls := ls) (fun T => ?_) ?_
  · refine lv_if_eq (tgt := 62) hx hb dX5_makeAgain_55 (by decide) (fun c5 => ?_) (fun c5 => ?_)
    · refine lv_iconst (v := 0) hx hb dX5_makeAgain_62 (by decide) ?_
      exact T _ (by rw [if_pos c5])
    · refine lv_iconst (v := 2) hx hb dX5_makeAgain_58 (by decide) ?_
      refine lv_goto (tgt := 63) hx hb dX5_makeAgain_59 (by decide) ?_
      exact T _ (by rw [if_neg c5])
  refine lv_aload_n hx hb dX5_makeAgain_63 rfl (lv_at hl 2 rfl) ?_
  refine va_get (D := D) (ci := 5) (v := .ref (h 1)) (C := RX5) (T := TX5) (N := 12) hx hb hts (se_iw iwX5) hown hK hP 0 rfl rfl 2 (by decide) (hts _ (List.mem_cons_of_mem _ qX5_f21)) (fun _ h9 => h9) rfl dX5_makeAgain_64 ?_
  refine va_getN (D := D) (ci := 2) (v := .int (g 1 5)) (C := RX2) (T := TX2) (N := 13) hx hb hts (se_iw iwX2) hown hK hP 1 rfl rfl 5 (by decide) (va_Nw.use rfl (hZ _ nX5_f259 rfl)) (fun _ h9 => h9) rfl dX5_makeAgain_67 ?_
  refine lv_iconst (v := 0) hx hb dX5_makeAgain_70 (by decide) ?_
  refine lv_iload_n hx hb dX5_makeAgain_71 rfl (lv_at hl 1 rfl) ?_
  refine se_cvE (va_runV (C := RX5) (As := [.int ((if ((if (g 1 8) = 0 then 0 else ((if (if (g 1 9) < (g 1 3) then (g 1 9) else (g 1 3)) = (g 1 3) then 1 else 0) : Int32)) : Int32) = 0 then 0 else 2) : Int32), .int (g 1 5), .int 0, .int (if (g 1 9) < (g 1 3) then (g 1 9) else (g 1 3))]) (rest := []) ⟨hx, hb, hml, hown, hts⟩ (c_S_make l D k h _ (se_u g 6 6 0) ((if ((if (g 1 8) = 0 then 0 else ((if (if (g 1 9) < (g 1 3) then (g 1 9) else (g 1 3)) = (g 1 3) then 1 else 0) : Int32)) : Int32) = 0 then 0 else 2) : Int32) (g 1 5) 0 (if (g 1 9) < (g 1 3) then (g 1 9) else (g 1 3))) (se_kV 4 hts q_code_X5_make qX5_m209 q_ini_StreamEnd q_instanceMethod_X5_make q_sel_X5_make (by decide +kernel) ⟨Nat.le_of_ble_eq_true rfl, Nat.le_of_ble_eq_true rfl⟩ rfl rfl) ⟨se_blind se_ZN_ok, va_recv hK hP (ci := 5) (q0 := 0) rfl rfl, se_pre se_ZN_ok hP hK hD hZ⟩ rfl rfl hl.1 rfl (lv_room (Nat.le_of_ble_eq_true rfl)) dX5_makeAgain_72 ⟨Nat.zero_le _, Nat.zero_le _⟩) hD hS hA (fun g1 H locs eg1 hP hD hS => ?_)
  refine lv_aload_n hx hb dX5_makeAgain_75 rfl (lv_at hl 2 rfl) ?_
  refine va_get (D := D) (ci := 5) (v := .ref (h 5)) (C := RX5) (T := TX5) (N := 12) hx hb hts (se_iw iwX5) hown hK hP 0 rfl rfl 4 (by decide) (hts _ (List.mem_cons_of_mem _ qX5_f35)) (fun _ h9 => h9) rfl dX5_makeAgain_76 ?_
  refine lv_iconst (v := 0) hx hb dX5_makeAgain_79 (by decide) ?_
  refine va_putN (D := D) (ci := 4) (v := .int 0) (ty := .boolean) (C := RX4) (T := TX4) (N := 11) hx hb hts (se_iw iwX4) tyX4 tyX4_ok nmX4 hown hK hP hD hS 5 rfl rfl 8 (by decide) (va_Nw.use rfl (hZ _ nX5_f344 rfl)) (fun _ h9 => h9) rfl (by decide +kernel) rfl rfl (Nat.le_of_ble_eq_true rfl) dX5_makeAgain_80 (fun H locs hP hD hS => ?_)
  replace hP : va_P D se_cl (se_WS k h (se_u g1 5 8 0)) H := hP
  replace hD : va_D A (se_WS k h (se_u g1 5 8 0)) := hD
  exact se_rv hx hb hr hlocks hK hP hD hS dX5_makeAgain_83 (by subst eg1; rw [F_S_makeAgain])
