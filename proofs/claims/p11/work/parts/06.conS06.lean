/-! written by program (wip/gen) -/
set_option maxRecDepth 100000 in
set_option maxHeartbeats 4000000 in
theorem c_S_peerLeaves (l : Launch) (D : va_G) (k : Nat → ClassId) (h : Nat → Nat) (sz : Nat) (g : se_G)  : Met l yX5_peerLeaves (se_w_X5_peerLeaves) ({ frames := 2, cells := 0, slots := 0, locals := 41 }) (va_Pc [.ref (h 0)] (se_Pre D se_cl [(k 2, .byte), (k 4, .int), (k 8, .byte), (k 10, .byte)] (se_WS k h g) se_ZN sz)) (se_Qv D se_cl [(k 2, .byte), (k 4, .int), (k 8, .byte), (k 10, .byte)] (se_WS k h) (F_S_peerLeaves g) (va_A (se_WS k h g) sz)) 0 0 (va_A (se_WS k h g) sz) := by
  refine se_met (Qc := se_Qv D se_cl [(k 2, .byte), (k 4, .int), (k 8, .byte), (k 10, .byte)] (se_WS k h) (F_S_peerLeaves g)) (cc := cX5_peerLeaves) (maxL := 1) (ret := none) (by decide) rfl (Nat.le_of_ble_eq_true rfl) ?_
  intro p e s m below meth c ls A hx hb hr hts hown hlocks hml hA hP hK hD hS hZ hl
  replace hl : lv_has ls 1 [(0, .ref (h 0))] := hl
  have hF : F_S_peerLeaves g = F_S_peerLeaves g := rfl
  refine lv_aload_n hx hb dX5_peerLeaves_0 rfl (lv_at hl 0 rfl) ?_
  refine va_get (D := D) (ci := 5) (v := .int (g 0 9)) (C := RX5) (T := TX5) (N := 12) hx hb hts (se_iw iwX5) hown hK hP 0 rfl rfl 9 (by decide) (hts _ (List.mem_cons_of_mem _ qX5_f60)) (fun _ h9 => h9) rfl dX5_peerLeaves_1 ?_
  refine lv_iconst (v := 4) hx hb dX5_peerLeaves_4 (by decide) ?_
  refine lv_icmp_ne (tgt := 17) hx hb dX5_peerLeaves_5 (by decide) (fun c1 => ?_) (fun c1 => ?_)
  · refine lv_aload_n hx hb dX5_peerLeaves_17 rfl (lv_at hl 0 rfl) ?_
    refine va_get (D := D) (ci := 5) (v := .int (g 0 9)) (C := RX5) (T := TX5) (N := 12) hx hb hts (se_iw iwX5) hown hK hP 0 rfl rfl 9 (by decide) (hts _ (List.mem_cons_of_mem _ qX5_f60)) (fun _ h9 => h9) rfl dX5_peerLeaves_18 ?_
    refine lv_iconst (v := 5) hx hb dX5_peerLeaves_21 (by decide) ?_
    refine lv_icmp_ne (tgt := 34) hx hb dX5_peerLeaves_22 (by decide) (fun c2 => ?_) (fun c2 => ?_)
    · refine lv_aload_n hx hb dX5_peerLeaves_34 rfl (lv_at hl 0 rfl) ?_
      refine lv_bipush (v := 10) hx hb dX5_peerLeaves_35 (by decide) ?_
      refine se_cvE (va_runV (C := RX5) (As := [.int 10]) (rest := []) ⟨hx, hb, hml, hown, hts⟩ (c_S_halt l D k h _ g 10) (se_kV 1 hts q_code_X5_halt qX5_m132 q_ini_StreamEnd q_instanceMethod_X5_halt q_sel_X5_halt (by decide +kernel) ⟨Nat.le_of_ble_eq_true rfl, Nat.le_of_ble_eq_true rfl⟩ rfl rfl) ⟨se_blind se_ZN_ok, va_recv hK hP (ci := 5) (q0 := 0) rfl rfl, se_pre se_ZN_ok hP hK hD hZ⟩ rfl rfl hl.1 rfl (lv_room (Nat.le_of_ble_eq_true rfl)) dX5_peerLeaves_37 ⟨Nat.zero_le _, Nat.zero_le _⟩) hD hS hA (fun g1 H locs eg1 hP hD hS => ?_)
      exact se_rv hx hb hr hlocks hK hP hD hS dX5_peerLeaves_40 (by subst eg1; rw [F_S_peerLeaves, if_neg c1, if_neg c2])
    · refine lv_aload_n hx hb dX5_peerLeaves_25 rfl (lv_at hl 0 rfl) ?_
      refine lv_bipush (v := 8) hx hb dX5_peerLeaves_26 (by decide) ?_
      refine va_put (D := D) (ci := 5) (v := .int 8) (ty := .int) (C := RX5) (T := TX5) (N := 12) hx hb hts (se_iw iwX5) tyX5 tyX5_ok nmX5 hown hK hP hD hS 0 rfl rfl 9 (by decide) (hts _ (List.mem_cons_of_mem _ qX5_f60)) (fun _ h9 => h9) rfl (by decide +kernel) rfl rfl (Nat.le_of_ble_eq_true rfl) dX5_peerLeaves_28 (fun H locs hP hD hS => ?_)
      replace hP : va_P D se_cl (se_WS k h (se_u g 0 9 8)) H := hP
      replace hD : va_D A (se_WS k h (se_u g 0 9 8)) := hD
      refine lv_goto (tgt := 40) hx hb dX5_peerLeaves_31 (by decide) ?_
      exact se_rv hx hb hr hlocks hK hP hD hS dX5_peerLeaves_40 (by rw [F_S_peerLeaves, if_neg c1, if_pos c2])
  · refine lv_aload_n hx hb dX5_peerLeaves_8 rfl (lv_at hl 0 rfl) ?_
    refine lv_bipush (v := 7) hx hb dX5_peerLeaves_9 (by decide) ?_
    refine va_put (D := D) (ci := 5) (v := .int 7) (ty := .int) (C := RX5) (T := TX5) (N := 12) hx hb hts (se_iw iwX5) tyX5 tyX5_ok nmX5 hown hK hP hD hS 0 rfl rfl 9 (by decide) (hts _ (List.mem_cons_of_mem _ qX5_f60)) (fun _ h9 => h9) rfl (by decide +kernel) rfl rfl (Nat.le_of_ble_eq_true rfl) dX5_peerLeaves_11 (fun H locs hP hD hS => ?_)
    replace hP : va_P D se_cl (se_WS k h (se_u g 0 9 7)) H := hP
    replace hD : va_D A (se_WS k h (se_u g 0 9 7)) := hD
    refine lv_goto (tgt := 40) hx hb dX5_peerLeaves_14 (by decide) ?_
    exact se_rv hx hb hr hlocks hK hP hD hS dX5_peerLeaves_40 (by rw [F_S_peerLeaves, if_pos c1])
set_option maxRecDepth 100000 in
set_option maxHeartbeats 4000000 in
theorem c_S_Incoming_noteLast (l : Launch) (D : va_G) (k : Nat → ClassId) (h : Nat → Nat) (sz : Nat) (g : se_G) (p1 : Int32) : Met l yX1_noteLast (se_w_X1_noteLast) ({ frames := 1, cells := 0, slots := 0, locals := 20 }) (va_Pc [.ref (h 3), .int p1] (se_Pre D se_cl [(k 2, .byte), (k 4, .int), (k 8, .byte), (k 10, .byte)] (se_WS k h g) se_ZN sz)) (se_Qv D se_cl [(k 2, .byte), (k 4, .int), (k 8, .byte), (k 10, .byte)] (se_WS k h) (F_S_Incoming_noteLast g p1) (va_A (se_WS k h g) sz)) 0 0 (va_A (se_WS k h g) sz) := by
  refine se_met (Qc := se_Qv D se_cl [(k 2, .byte), (k 4, .int), (k 8, .byte), (k 10, .byte)] (se_WS k h) (F_S_Incoming_noteLast g p1)) (cc := cX1_noteLast) (maxL := 3) (ret := none) (by decide) rfl (Nat.le_of_ble_eq_true rfl) ?_
  intro p e s m below meth c ls A hx hb hr hts hown hlocks hml hA hP hK hD hS hZ hl
  replace hl : lv_has ls 3 [(0, .ref (h 3)), (1, .int p1)] := hl
  have hF : F_S_Incoming_noteLast g p1 = F_S_Incoming_noteLast g p1 := rfl
  refine lv_iload_n hx hb dX1_noteLast_0 rfl (lv_at hl 1 rfl) ?_
  refine lv_aload_n hx hb dX1_noteLast_1 rfl (lv_at hl 0 rfl) ?_
  refine va_get (D := D) (ci := 1) (v := .int (g 3 2)) (C := RX1) (T := TX1) (N := 8) hx hb hts (se_iw iwX1) hown hK hP 3 rfl rfl 2 (by decide) (hts _ (List.mem_cons_of_mem _ qX1_f25)) (fun _ h9 => h9) rfl dX1_noteLast_2 ?_
  refine lv_isub hx hb dX1_noteLast_5 ?_
  refine lv_istore_n (lv' := [(2, .int (p1 - (g 3 2))), (0, .ref (h 3)), (1, .int p1)]) hx hb dX1_noteLast_6 rfl hl (by decide) rfl (fun ls hl => ?_)
  refine lv_aload_n hx hb dX1_noteLast_7 rfl (lv_at hl 1 rfl) ?_
  refine va_get (D := D) (ci := 1) (v := .int (g 3 5)) (C := RX1) (T := TX1) (N := 8) hx hb hts (se_iw iwX1) hown hK hP 3 rfl rfl 5 (by decide) (hts _ (List.mem_cons_of_mem _ qX1_f35)) (fun _ h9 => h9) rfl dX1_noteLast_8 ?_
  refine lv_if_ne (tgt := 36) hx hb dX1_noteLast_11 (by decide) (fun c1 => ?_) (fun c1 => ?_)
  · exact se_rv hx hb hr hlocks hK hP hD hS dX1_noteLast_36 (by rw [F_S_Incoming_noteLast, if_neg c1])
  · refine lv_iload_n hx hb dX1_noteLast_14 rfl (lv_at hl 0 rfl) ?_
    refine lv_if_lt (tgt := 36) hx hb dX1_noteLast_15 (by decide) (fun c2 => ?_) (fun c2 => ?_)
    · exact se_rv hx hb hr hlocks hK hP hD hS dX1_noteLast_36 (by rw [F_S_Incoming_noteLast, if_pos c1, if_pos c2])
    · refine lv_iload_n hx hb dX1_noteLast_18 rfl (lv_at hl 0 rfl) ?_
      refine lv_aload_n hx hb dX1_noteLast_19 rfl (lv_at hl 1 rfl) ?_
      refine se_cp (va_runV (C := RX1) (As := []) (rest := [.int (p1 - (g 3 2))]) ⟨hx, hb, hml, hown, hts⟩ (c_S_Incoming_room l D k h _ g) (se_kV 0 hts q_code_X1_room qX1_m44 q_ini_StreamEnd_Incoming q_instanceMethod_X1_room q_sel_X1_room (by decide +kernel) ⟨Nat.le_of_ble_eq_true rfl, Nat.le_of_ble_eq_true rfl⟩ rfl rfl) ⟨se_blind se_ZN_ok, va_recv hK hP (ci := 1) (q0 := 3) rfl rfl, se_pre se_ZN_ok hP hK hD hZ⟩ rfl rfl hl.1 rfl (lv_room (Nat.le_of_ble_eq_true rfl)) dX1_noteLast_20 ⟨Nat.zero_le _, Nat.zero_le _⟩) ?_
      refine lv_icmp_ge (tgt := 36) hx hb dX1_noteLast_23 (by decide) (fun c3 => ?_) (fun c3 => ?_)
      · exact se_rv hx hb hr hlocks hK hP hD hS dX1_noteLast_36 (by rw [F_S_Incoming_noteLast, if_pos c1, if_neg c2, if_pos c3])
      · refine lv_aload_n hx hb dX1_noteLast_26 rfl (lv_at hl 1 rfl) ?_
        refine lv_iconst (v := 1) hx hb dX1_noteLast_27 (by decide) ?_
        refine va_put (D := D) (ci := 1) (v := .int 1) (ty := .boolean) (C := RX1) (T := TX1) (N := 8) hx hb hts (se_iw iwX1) tyX1 tyX1_ok nmX1 hown hK hP hD hS 3 rfl rfl 5 (by decide) (hts _ (List.mem_cons_of_mem _ qX1_f35)) (fun _ h9 => h9) rfl (by decide +kernel) rfl rfl (Nat.le_of_ble_eq_true rfl) dX1_noteLast_28 (fun H locs hP hD hS => ?_)
        replace hP : va_P D se_cl (se_WS k h (se_u g 3 5 1)) H := hP
        replace hD : va_D A (se_WS k h (se_u g 3 5 1)) := hD
        refine lv_aload_n hx hb dX1_noteLast_31 rfl (lv_at hl 1 rfl) ?_
        refine lv_iload_n hx hb dX1_noteLast_32 rfl (lv_at hl 2 rfl) ?_
        refine va_put (D := D) (ci := 1) (v := .int p1) (ty := .int) (C := RX1) (T := TX1) (N := 8) hx hb hts (se_iw iwX1) tyX1 tyX1_ok nmX1 hown hK hP hD hS 3 rfl rfl 6 (by decide) (hts _ (List.mem_cons_of_mem _ qX1_f38)) (fun _ h9 => h9) rfl (by decide +kernel) rfl rfl (Nat.le_of_ble_eq_true rfl) dX1_noteLast_33 (fun H locs hP hD hS => ?_)
        replace hP : va_P D se_cl (se_WS k h (se_u (se_u g 3 5 1) 3 6 p1)) H := hP
        replace hD : va_D A (se_WS k h (se_u (se_u g 3 5 1) 3 6 p1)) := hD
        exact se_rv hx hb hr hlocks hK hP hD hS dX1_noteLast_36 (by rw [F_S_Incoming_noteLast, if_pos c1, if_neg c2, if_neg c3])
set_option maxRecDepth 100000 in
set_option maxHeartbeats 4000000 in
theorem c_S_takeBytes (l : Launch) (D : va_G) (k : Nat → ClassId) (h : Nat → Nat) (sz : Nat) (g : se_G)  (hI : (g 7 1).toInt ≤ 1460) : Met l yX5_takeBytes (se_w_X5_takeBytes) ({ frames := 3, cells := 0, slots := 0, locals := 61 }) (va_Pc [.ref (h 0)] (se_Pre D se_cl [(k 2, .byte), (k 4, .int), (k 8, .byte), (k 10, .byte)] (se_WS k h g) se_ZN sz)) (se_Qv D se_cl [(k 2, .byte), (k 4, .int), (k 8, .byte), (k 10, .byte)] (se_WS k h) (F_S_takeBytes g) (va_A (se_WS k h g) sz)) 0 0 (va_A (se_WS k h g) sz) := by
  refine se_met (Qc := se_Qv D se_cl [(k 2, .byte), (k 4, .int), (k 8, .byte), (k 10, .byte)] (se_WS k h) (F_S_takeBytes g)) (cc := cX5_takeBytes) (maxL := 2) (ret := none) (by decide) rfl (Nat.le_of_ble_eq_true rfl) ?_
  intro p e s m below meth c ls A hx hb hr hts hown hlocks hml hA hP hK hD hS hZ hl
  replace hl : lv_has ls 2 [(0, .ref (h 0))] := hl
  have J74 : ∀ (gj74 : se_G) (v1_74 : Int32) (H : Heap) (locs : List Loc) (ls : Array Slot), F_S_takeBytes_j74 gj74 v1_74 = F_S_takeBytes g → va_P D se_cl (se_WS k h gj74) H → va_D A (se_WS k h gj74) → va_S A s.heap H locs → lv_has ls 2 [(0, .ref (h 0)), (1, .int v1_74)] → W p l e ({ frames := 3, cells := 0, slots := 0, locals := 61 }) s m [.ref (h 0)].toArray below meth c H locs 0 0 (MQ below (se_Qv D se_cl [(k 2, .byte), (k 4, .int), (k 8, .byte), (k 10, .byte)] (se_WS k h) (F_S_takeBytes g) A) [.ref (h 0)].toArray s 0 0 A) (F0 m 74 ls []) := by
    intro gj74 v1_74 H locs ls hF hP hD hS hl
    refine lv_iload_n hx hb dX5_takeBytes_74 rfl (lv_at hl 1 rfl) ?_
    refine lv_if_ne (tgt := 88) hx hb dX5_takeBytes_75 (by decide) (fun c2 => ?_) (fun c2 => ?_)
    · refine lv_aload_n hx hb dX5_takeBytes_88 rfl (lv_at hl 0 rfl) ?_
      refine va_get (D := D) (ci := 5) (v := .ref (h 6)) (C := RX5) (T := TX5) (N := 12) hx hb hts (se_iw iwX5) hown hK hP 0 rfl rfl 5 (by decide) (hts _ (List.mem_cons_of_mem _ qX5_f42)) (fun _ h9 => h9) rfl dX5_takeBytes_89 ?_
      refine lv_iconst (v := 1) hx hb dX5_takeBytes_92 (by decide) ?_
      refine va_putN (D := D) (ci := 0) (v := .int 1) (ty := .boolean) (C := RX0) (T := TX0) (N := 9) hx hb hts (se_iw iwX0) tyX0 tyX0_ok nmX0 hown hK hP hD hS 6 rfl rfl 8 (by decide) (va_Nw.use rfl (hZ _ nX5_f206 rfl)) (fun _ h9 => h9) rfl (by decide +kernel) rfl rfl (Nat.le_of_ble_eq_true rfl) dX5_takeBytes_93 (fun H locs hP hD hS => ?_)
      replace hP : va_P D se_cl (se_WS k h (se_u gj74 6 8 1)) H := hP
      replace hD : va_D A (se_WS k h (se_u gj74 6 8 1)) := hD
      exact se_rv hx hb hr hlocks hK hP hD hS dX5_takeBytes_96 (by rw [← hF, F_S_takeBytes_j74, if_neg c2])
    · refine lv_aload_n hx hb dX5_takeBytes_78 rfl (lv_at hl 0 rfl) ?_
      refine va_get (D := D) (ci := 5) (v := .ref (h 7)) (C := RX5) (T := TX5) (N := 12) hx hb hts (se_iw iwX5) hown hK hP 0 rfl rfl 6 (by decide) (hts _ (List.mem_cons_of_mem _ qX5_f49)) (fun _ h9 => h9) rfl dX5_takeBytes_79 ?_
      refine va_getN (D := D) (ci := 3) (v := .int (gj74 7 1)) (C := RX3) (T := TX3) (N := 7) hx hb hts (se_iw iwX3) hown hK hP 7 rfl rfl 1 (by decide) (va_Nw.use rfl (hZ _ nX5_f230 rfl)) (fun _ h9 => h9) rfl dX5_takeBytes_82 ?_
      refine lv_if_le (tgt := 96) hx hb dX5_takeBytes_85 (by decide) (fun c3 => ?_) (fun c3 => ?_)
      · exact se_rv hx hb hr hlocks hK hP hD hS dX5_takeBytes_96 (by rw [← hF, F_S_takeBytes_j74, if_pos c2, if_pos c3])
      · refine lv_aload_n hx hb dX5_takeBytes_88 rfl (lv_at hl 0 rfl) ?_
        refine va_get (D := D) (ci := 5) (v := .ref (h 6)) (C := RX5) (T := TX5) (N := 12) hx hb hts (se_iw iwX5) hown hK hP 0 rfl rfl 5 (by decide) (hts _ (List.mem_cons_of_mem _ qX5_f42)) (fun _ h9 => h9) rfl dX5_takeBytes_89 ?_
        refine lv_iconst (v := 1) hx hb dX5_takeBytes_92 (by decide) ?_
        refine va_putN (D := D) (ci := 0) (v := .int 1) (ty := .boolean) (C := RX0) (T := TX0) (N := 9) hx hb hts (se_iw iwX0) tyX0 tyX0_ok nmX0 hown hK hP hD hS 6 rfl rfl 8 (by decide) (va_Nw.use rfl (hZ _ nX5_f206 rfl)) (fun _ h9 => h9) rfl (by decide +kernel) rfl rfl (Nat.le_of_ble_eq_true rfl) dX5_takeBytes_93 (fun H locs hP hD hS => ?_)
        replace hP : va_P D se_cl (se_WS k h (se_u gj74 6 8 1)) H := hP
        replace hD : va_D A (se_WS k h (se_u gj74 6 8 1)) := hD
        exact se_rv hx hb hr hlocks hK hP hD hS dX5_takeBytes_96 (by rw [← hF, F_S_takeBytes_j74, if_pos c2, if_neg c3])
  have J53 : ∀ (gj53 : se_G) (v1_53 : Int32) (H : Heap) (locs : List Loc) (ls : Array Slot), F_S_takeBytes_j53 gj53 v1_53 = F_S_takeBytes g → va_P D se_cl (se_WS k h gj53) H → va_D A (se_WS k h gj53) → va_S A s.heap H locs → lv_has ls 2 [(0, .ref (h 0)), (1, .int v1_53)] → W p l e ({ frames := 3, cells := 0, slots := 0, locals := 61 }) s m [.ref (h 0)].toArray below meth c H locs 0 0 (MQ below (se_Qv D se_cl [(k 2, .byte), (k 4, .int), (k 8, .byte), (k 10, .byte)] (se_WS k h) (F_S_takeBytes g) A) [.ref (h 0)].toArray s 0 0 A) (F0 m 53 ls []) := by
    intro gj53 v1_53 H locs ls hF hP hD hS hl
    refine lv_aload_n hx hb dX5_takeBytes_53 rfl (lv_at hl 0 rfl) ?_
    refine va_get (D := D) (ci := 5) (v := .ref (h 3)) (C := RX5) (T := TX5) (N := 12) hx hb hts (se_iw iwX5) hown hK hP 0 rfl rfl 3 (by decide) (hts _ (List.mem_cons_of_mem _ qX5_f28)) (fun _ h9 => h9) rfl dX5_takeBytes_54 ?_
    refine se_cvE (va_runVN (C := RX1) (As := []) (rest := []) ⟨hx, hb, hml, hown, hts⟩ (c_S_Incoming_goOn l D k h _ gj53) (se_kVN 0 hts q_code_X1_goOn (hZ _ nX5_m440 rfl) q_ini_StreamEnd_Incoming q_instanceMethod_X1_goOn q_sel_X1_goOn (by decide +kernel) ⟨Nat.le_of_ble_eq_true rfl, Nat.le_of_ble_eq_true rfl⟩ rfl rfl) ⟨se_blind se_ZN_ok, va_recv hK hP (ci := 1) (q0 := 3) rfl rfl, se_pre se_ZN_ok hP hK hD hZ⟩ rfl rfl hl.1 rfl (lv_room (Nat.le_of_ble_eq_true rfl)) dX5_takeBytes_57 ⟨Nat.zero_le _, Nat.zero_le _⟩) hD hS hA (fun g2 H locs eg2 hP hD hS => ?_)
    replace hF : (F_S_takeBytes_k1 (F_S_Incoming_goOn gj53) v1_53) = F_S_takeBytes g := by rw [← hF, F_S_takeBytes_j53]
    rw [← eg2] at hF
    replace hF : F_S_takeBytes_k1 g2 v1_53 = F_S_takeBytes g := hF
    refine lv_aload_n hx hb dX5_takeBytes_60 rfl (lv_at hl 0 rfl) ?_
    refine va_get (D := D) (ci := 5) (v := .ref (h 3)) (C := RX5) (T := TX5) (N := 12) hx hb hts (se_iw iwX5) hown hK hP 0 rfl rfl 3 (by decide) (hts _ (List.mem_cons_of_mem _ qX5_f28)) (fun _ h9 => h9) rfl dX5_takeBytes_61 ?_
    refine va_getN (D := D) (ci := 1) (v := .int (g2 3 7)) (C := RX1) (T := TX1) (N := 8) hx hb hts (se_iw iwX1) hown hK hP 3 rfl rfl 7 (by decide) (va_Nw.use rfl (hZ _ nX5_f125 rfl)) (fun _ h9 => h9) rfl dX5_takeBytes_64 ?_
    refine lv_if_eq (tgt := 74) hx hb dX5_takeBytes_67 (by decide) (fun c5 => ?_) (fun c5 => ?_)
    · exact J74 g2 v1_53 _ _ ls (by rw [← hF, F_S_takeBytes_k1, if_pos c5]) hP hD hS (lv_sub hl [0, 1] rfl)
    · refine lv_aload_n hx hb dX5_takeBytes_70 rfl (lv_at hl 0 rfl) ?_
      refine se_cvE (va_runV (C := RX5) (As := []) (rest := []) ⟨hx, hb, hml, hown, hts⟩ (c_S_peerLeaves l D k h _ g2) (se_kV 0 hts q_code_X5_peerLeaves qX5_m443 q_ini_StreamEnd q_instanceMethod_X5_peerLeaves q_sel_X5_peerLeaves (by decide +kernel) ⟨Nat.le_of_ble_eq_true rfl, Nat.le_of_ble_eq_true rfl⟩ rfl rfl) ⟨se_blind se_ZN_ok, va_recv hK hP (ci := 5) (q0 := 0) rfl rfl, se_pre se_ZN_ok hP hK hD hZ⟩ rfl rfl hl.1 rfl (lv_room (Nat.le_of_ble_eq_true rfl)) dX5_takeBytes_71 ⟨Nat.zero_le _, Nat.zero_le _⟩) hD hS hA (fun g3 H locs eg3 hP hD hS => ?_)
      exact J74 g3 v1_53 _ _ ls (by subst eg3; rw [← hF, F_S_takeBytes_k1, if_neg c5]) hP hD hS (lv_sub hl [0, 1] rfl)
  have hF : F_S_takeBytes g = F_S_takeBytes g := rfl
  refine lv_aload_n hx hb dX5_takeBytes_0 rfl (lv_at hl 0 rfl) ?_
  refine va_get (D := D) (ci := 5) (v := .ref (h 7)) (C := RX5) (T := TX5) (N := 12) hx hb hts (se_iw iwX5) hown hK hP 0 rfl rfl 6 (by decide) (hts _ (List.mem_cons_of_mem _ qX5_f49)) (fun _ h9 => h9) rfl dX5_takeBytes_1 ?_
  refine lv_iconst (v := 2) hx hb dX5_takeBytes_4 (by decide) ?_
  refine se_cp (va_runVN (C := RX3) (As := [.int 2]) (rest := []) ⟨hx, hb, hml, hown, hts⟩ (c_S_Segment_has_7 l D k h _ g 2) (se_kVN 1 hts q_code_X3_has (hZ _ nX5_m338 rfl) q_ini_StreamEnd_Segment q_instanceMethod_X3_has q_sel_X3_has (by decide +kernel) ⟨Nat.le_of_ble_eq_true rfl, Nat.le_of_ble_eq_true rfl⟩ rfl rfl) ⟨se_blind se_ZN_ok, va_recv hK hP (ci := 3) (q0 := 7) rfl rfl, se_pre se_ZN_ok hP hK hD hZ⟩ rfl rfl hl.1 rfl (lv_room (Nat.le_of_ble_eq_true rfl)) dX5_takeBytes_5 ⟨Nat.zero_le _, Nat.zero_le _⟩) ?_
  refine lv_istore_n (lv' := [(1, .int (F_S_Segment_has_7 g 2)), (0, .ref (h 0))]) hx hb dX5_takeBytes_8 rfl hl (by decide) rfl (fun ls hl => ?_)
  refine lv_aload_n hx hb dX5_takeBytes_9 rfl (lv_at hl 1 rfl) ?_
  refine se_cp (va_runV (C := RX5) (As := []) (rest := []) ⟨hx, hb, hml, hown, hts⟩ (c_S_mayTakeBytes l D k h _ g) (se_kV 0 hts q_code_X5_mayTakeBytes qX5_m308 q_ini_StreamEnd q_instanceMethod_X5_mayTakeBytes q_sel_X5_mayTakeBytes (by decide +kernel) ⟨Nat.le_of_ble_eq_true rfl, Nat.le_of_ble_eq_true rfl⟩ rfl rfl) ⟨se_blind se_ZN_ok, va_recv hK hP (ci := 5) (q0 := 0) rfl rfl, se_pre se_ZN_ok hP hK hD hZ⟩ rfl rfl hl.1 rfl (lv_room (Nat.le_of_ble_eq_true rfl)) dX5_takeBytes_10 ⟨Nat.zero_le _, Nat.zero_le _⟩) ?_
  refine lv_if_eq (tgt := 74) hx hb dX5_takeBytes_13 (by decide) (fun c1 => ?_) (fun c1 => ?_)
  · exact J74 g (F_S_Segment_has_7 g 2) _ _ ls (by rw [F_S_takeBytes, if_pos c1]) hP hD hS (lv_sub hl [1, 0] rfl)
  · refine lv_aload_n hx hb dX5_takeBytes_16 rfl (lv_at hl 1 rfl) ?_
    refine va_get (D := D) (ci := 5) (v := .ref (h 3)) (C := RX5) (T := TX5) (N := 12) hx hb hts (se_iw iwX5) hown hK hP 0 rfl rfl 3 (by decide) (hts _ (List.mem_cons_of_mem _ qX5_f28)) (fun _ h9 => h9) rfl dX5_takeBytes_17 ?_
    refine lv_aload_n hx hb dX5_takeBytes_20 rfl (lv_at hl 1 rfl) ?_
    refine va_get (D := D) (ci := 5) (v := .ref (h 7)) (C := RX5) (T := TX5) (N := 12) hx hb hts (se_iw iwX5) hown hK hP 0 rfl rfl 6 (by decide) (hts _ (List.mem_cons_of_mem _ qX5_f49)) (fun _ h9 => h9) rfl dX5_takeBytes_21 ?_
    refine se_cvE (va_runVN (C := RX1) (As := [.ref (h 7)]) (rest := []) ⟨hx, hb, hml, hown, hts⟩ (c_S_Incoming_store l D k h _ g hI) (se_kVN 1 hts q_code_X1_store (hZ _ nX5_m433 rfl) q_ini_StreamEnd_Incoming q_instanceMethod_X1_store q_sel_X1_store (by decide +kernel) ⟨Nat.le_of_ble_eq_true rfl, Nat.le_of_ble_eq_true rfl⟩ rfl rfl) ⟨se_blind se_ZN_ok, va_recv hK hP (ci := 1) (q0 := 3) rfl rfl, se_pre se_ZN_ok hP hK hD hZ⟩ rfl rfl hl.1 rfl (lv_room (Nat.le_of_ble_eq_true rfl)) dX5_takeBytes_24 ⟨Nat.zero_le _, Nat.zero_le _⟩) hD hS hA (fun g1 H locs eg1 hP hD hS => ?_)
    replace hF : (F_S_takeBytes_k2 g (F_S_Incoming_store g)) = F_S_takeBytes g := by rw [F_S_takeBytes, if_neg c1]
    rw [← eg1] at hF
    replace hF : F_S_takeBytes_k2 g g1 = F_S_takeBytes g := hF
    refine lv_iload_n hx hb dX5_takeBytes_27 rfl (lv_at hl 0 rfl) ?_
    refine lv_if_eq (tgt := 53) hx hb dX5_takeBytes_28 (by decide) (fun c4 => ?_) (fun c4 => ?_)
    · exact J53 g1 (F_S_Segment_has_7 g 2) _ _ ls (by rw [← hF, F_S_takeBytes_k2, if_pos c4]) hP hD hS (lv_sub hl [1, 0] rfl)
    · refine lv_aload_n hx hb dX5_takeBytes_31 rfl (lv_at hl 1 rfl) ?_
      refine va_get (D := D) (ci := 5) (v := .ref (h 3)) (C := RX5) (T := TX5) (N := 12) hx hb hts (se_iw iwX5) hown hK hP 0 rfl rfl 3 (by decide) (hts _ (List.mem_cons_of_mem _ qX5_f28)) (fun _ h9 => h9) rfl dX5_takeBytes_32 ?_
      refine lv_aload_n hx hb dX5_takeBytes_35 rfl (lv_at hl 1 rfl) ?_
      refine va_get (D := D) (ci := 5) (v := .ref (h 7)) (C := RX5) (T := TX5) (N := 12) hx hb hts (se_iw iwX5) hown hK hP 0 rfl rfl 6 (by decide) (hts _ (List.mem_cons_of_mem _ qX5_f49)) (fun _ h9 => h9) rfl dX5_takeBytes_36 ?_
      refine va_getN (D := D) (ci := 3) (v := .int (g1 7 3)) (C := RX3) (T := TX3) (N := 7) hx hb hts (se_iw iwX3) hown hK hP 7 rfl rfl 3 (by decide) (va_Nw.use rfl (hZ _ nX5_f220 rfl)) (fun _ h9 => h9) rfl dX5_takeBytes_39 ?_
      refine lv_aload_n hx hb dX5_takeBytes_42 rfl (lv_at hl 1 rfl) ?_
      refine va_get (D := D) (ci := 5) (v := .ref (h 7)) (C := RX5) (T := TX5) (N := 12) hx hb hts (se_iw iwX5) hown hK hP 0 rfl rfl 6 (by decide) (hts _ (List.mem_cons_of_mem _ qX5_f49)) (fun _ h9 => h9) rfl dX5_takeBytes_43 ?_
      refine va_getN (D := D) (ci := 3) (v := .int (g1 7 1)) (C := RX3) (T := TX3) (N := 7) hx hb hts (se_iw iwX3) hown hK hP 7 rfl rfl 1 (by decide) (va_Nw.use rfl (hZ _ nX5_f230 rfl)) (fun _ h9 => h9) rfl dX5_takeBytes_46 ?_
      refine lv_iadd hx hb dX5_takeBytes_49 ?_
      refine se_cvE (va_runVN (C := RX1) (As := [.int ((g1 7 3) + (g1 7 1))]) (rest := []) ⟨hx, hb, hml, hown, hts⟩ (c_S_Incoming_noteLast l D k h _ g1 ((g1 7 3) + (g1 7 1))) (se_kVN 1 hts q_code_X1_noteLast (hZ _ nX5_m437 rfl) q_ini_StreamEnd_Incoming q_instanceMethod_X1_noteLast q_sel_X1_noteLast (by decide +kernel) ⟨Nat.le_of_ble_eq_true rfl, Nat.le_of_ble_eq_true rfl⟩ rfl rfl) ⟨se_blind se_ZN_ok, va_recv hK hP (ci := 1) (q0 := 3) rfl rfl, se_pre se_ZN_ok hP hK hD hZ⟩ rfl rfl hl.1 rfl (lv_room (Nat.le_of_ble_eq_true rfl)) dX5_takeBytes_50 ⟨Nat.zero_le _, Nat.zero_le _⟩) hD hS hA (fun g4 H locs eg4 hP hD hS => ?_)
      exact J53 g4 (F_S_Segment_has_7 g 2) _ _ ls (by subst eg4; rw [← hF, F_S_takeBytes_k2, if_neg c4]) hP hD hS (lv_sub hl [1, 0] rfl)
set_option maxRecDepth 100000 in
set_option maxHeartbeats 4000000 in
theorem c_S_leave (l : Launch) (D : va_G) (k : Nat → ClassId) (h : Nat → Nat) (sz : Nat) (g : se_G)  : Met l yX5_leave (se_w_X5_leave) ({ frames := 2, cells := 0, slots := 0, locals := 41 }) (va_Pc [.ref (h 0)] (se_Pre D se_cl [(k 2, .byte), (k 4, .int), (k 8, .byte), (k 10, .byte)] (se_WS k h g) se_ZN sz)) (se_Qv D se_cl [(k 2, .byte), (k 4, .int), (k 8, .byte), (k 10, .byte)] (se_WS k h) (F_S_leave g) (va_A (se_WS k h g) sz)) 0 0 (va_A (se_WS k h g) sz) := by
  refine se_met (Qc := se_Qv D se_cl [(k 2, .byte), (k 4, .int), (k 8, .byte), (k 10, .byte)] (se_WS k h) (F_S_leave g)) (cc := cX5_leave) (maxL := 1) (ret := none) (by decide) rfl (Nat.le_of_ble_eq_true rfl) ?_
  intro p e s m below meth c ls A hx hb hr hts hown hlocks hml hA hP hK hD hS hZ hl
  replace hl : lv_has ls 1 [(0, .ref (h 0))] := hl
  have hF : F_S_leave g = F_S_leave g := rfl
  refine lv_aload_n hx hb dX5_leave_0 rfl (lv_at hl 0 rfl) ?_
  refine va_get (D := D) (ci := 5) (v := .int (g 0 9)) (C := RX5) (T := TX5) (N := 12) hx hb hts (se_iw iwX5) hown hK hP 0 rfl rfl 9 (by decide) (hts _ (List.mem_cons_of_mem _ qX5_f60)) (fun _ h9 => h9) rfl dX5_leave_1 ?_
  refine lv_iconst (v := 5) hx hb dX5_leave_4 (by decide) ?_
  refine lv_icmp_ne (tgt := 17) hx hb dX5_leave_5 (by decide) (fun c1 => ?_) (fun c1 => ?_)
  · refine lv_aload_n hx hb dX5_leave_17 rfl (lv_at hl 0 rfl) ?_
    refine va_get (D := D) (ci := 5) (v := .int (g 0 9)) (C := RX5) (T := TX5) (N := 12) hx hb hts (se_iw iwX5) hown hK hP 0 rfl rfl 9 (by decide) (hts _ (List.mem_cons_of_mem _ qX5_f60)) (fun _ h9 => h9) rfl dX5_leave_18 ?_
    refine lv_bipush (v := 8) hx hb dX5_leave_21 (by decide) ?_
    refine lv_icmp_ne (tgt := 35) hx hb dX5_leave_23 (by decide) (fun c2 => ?_) (fun c2 => ?_)
    · refine lv_aload_n hx hb dX5_leave_35 rfl (lv_at hl 0 rfl) ?_
      refine va_get (D := D) (ci := 5) (v := .int (g 0 9)) (C := RX5) (T := TX5) (N := 12) hx hb hts (se_iw iwX5) hown hK hP 0 rfl rfl 9 (by decide) (hts _ (List.mem_cons_of_mem _ qX5_f60)) (fun _ h9 => h9) rfl dX5_leave_36 ?_
      refine lv_bipush (v := 9) hx hb dX5_leave_39 (by decide) ?_
      refine lv_icmp_ne (tgt := 49) hx hb dX5_leave_41 (by decide) (fun c3 => ?_) (fun c3 => ?_)
      · exact se_rv hx hb hr hlocks hK hP hD hS dX5_leave_49 (by rw [F_S_leave, if_neg c1, if_neg c2, if_neg c3])
      · refine lv_aload_n hx hb dX5_leave_44 rfl (lv_at hl 0 rfl) ?_
        refine lv_iconst (v := 0) hx hb dX5_leave_45 (by decide) ?_
        refine se_cvE (va_runV (C := RX5) (As := [.int 0]) (rest := []) ⟨hx, hb, hml, hown, hts⟩ (c_S_halt l D k h _ g 0) (se_kV 1 hts q_code_X5_halt qX5_m132 q_ini_StreamEnd q_instanceMethod_X5_halt q_sel_X5_halt (by decide +kernel) ⟨Nat.le_of_ble_eq_true rfl, Nat.le_of_ble_eq_true rfl⟩ rfl rfl) ⟨se_blind se_ZN_ok, va_recv hK hP (ci := 5) (q0 := 0) rfl rfl, se_pre se_ZN_ok hP hK hD hZ⟩ rfl rfl hl.1 rfl (lv_room (Nat.le_of_ble_eq_true rfl)) dX5_leave_46 ⟨Nat.zero_le _, Nat.zero_le _⟩) hD hS hA (fun g1 H locs eg1 hP hD hS => ?_)
        exact se_rv hx hb hr hlocks hK hP hD hS dX5_leave_49 (by subst eg1; rw [F_S_leave, if_neg c1, if_neg c2, if_pos c3])
    · refine lv_aload_n hx hb dX5_leave_26 rfl (lv_at hl 0 rfl) ?_
      refine lv_bipush (v := 10) hx hb dX5_leave_27 (by decide) ?_
      refine se_cvE (va_runV (C := RX5) (As := [.int 10]) (rest := []) ⟨hx, hb, hml, hown, hts⟩ (c_S_halt l D k h _ g 10) (se_kV 1 hts q_code_X5_halt qX5_m132 q_ini_StreamEnd q_instanceMethod_X5_halt q_sel_X5_halt (by decide +kernel) ⟨Nat.le_of_ble_eq_true rfl, Nat.le_of_ble_eq_true rfl⟩ rfl rfl) ⟨se_blind se_ZN_ok, va_recv hK hP (ci := 5) (q0 := 0) rfl rfl, se_pre se_ZN_ok hP hK hD hZ⟩ rfl rfl hl.1 rfl (lv_room (Nat.le_of_ble_eq_true rfl)) dX5_leave_29 ⟨Nat.zero_le _, Nat.zero_le _⟩) hD hS hA (fun g2 H locs eg2 hP hD hS => ?_)
      refine lv_goto (tgt := 49) hx hb dX5_leave_32 (by decide) ?_
      exact se_rv hx hb hr hlocks hK hP hD hS dX5_leave_49 (by subst eg2; rw [F_S_leave, if_neg c1, if_pos c2])
  · refine lv_aload_n hx hb dX5_leave_8 rfl (lv_at hl 0 rfl) ?_
    refine lv_bipush (v := 6) hx hb dX5_leave_9 (by decide) ?_
    refine va_put (D := D) (ci := 5) (v := .int 6) (ty := .int) (C := RX5) (T := TX5) (N := 12) hx hb hts (se_iw iwX5) tyX5 tyX5_ok nmX5 hown hK hP hD hS 0 rfl rfl 9 (by decide) (hts _ (List.mem_cons_of_mem _ qX5_f60)) (fun _ h9 => h9) rfl (by decide +kernel) rfl rfl (Nat.le_of_ble_eq_true rfl) dX5_leave_11 (fun H locs hP hD hS => ?_)
    replace hP : va_P D se_cl (se_WS k h (se_u g 0 9 6)) H := hP
    replace hD : va_D A (se_WS k h (se_u g 0 9 6)) := hD
    refine lv_goto (tgt := 49) hx hb dX5_leave_14 (by decide) ?_
    exact se_rv hx hb hr hlocks hK hP hD hS dX5_leave_49 (by rw [F_S_leave, if_pos c1])
set_option maxRecDepth 100000 in
set_option maxHeartbeats 4000000 in
theorem c_S_Outgoing_thank (l : Launch) (D : va_G) (k : Nat → ClassId) (h : Nat → Nat) (sz : Nat) (g : se_G) (p1 : Int32) : Met l yX2_thank (se_w_X2_thank) ({ frames := 1, cells := 0, slots := 0, locals := 21 }) (va_Pc [.ref (h 1), .int p1] (se_Pre D se_cl [(k 2, .byte), (k 4, .int), (k 8, .byte), (k 10, .byte)] (se_WS k h g) se_ZN sz)) (se_Qv D se_cl [(k 2, .byte), (k 4, .int), (k 8, .byte), (k 10, .byte)] (se_WS k h) (F_S_Outgoing_thank g p1) (va_A (se_WS k h g) sz)) 0 0 (va_A (se_WS k h g) sz) := by
  refine se_met (Qc := se_Qv D se_cl [(k 2, .byte), (k 4, .int), (k 8, .byte), (k 10, .byte)] (se_WS k h) (F_S_Outgoing_thank g p1)) (cc := cX2_thank) (maxL := 3) (ret := none) (by decide) rfl (Nat.le_of_ble_eq_true rfl) ?_
  intro p e s m below meth c ls A hx hb hr hts hown hlocks hml hA hP hK hD hS hZ hl
  replace hl : lv_has ls 3 [(0, .ref (h 1)), (1, .int p1)] := hl
  have hF : F_S_Outgoing_thank g p1 = F_S_Outgoing_thank g p1 := rfl
  refine lv_aload_n hx hb dX2_thank_0 rfl (lv_at hl 0 rfl) ?_
  refine va_get (D := D) (ci := 2) (v := .int (g 1 3)) (C := RX2) (T := TX2) (N := 13) hx hb hts (se_iw iwX2) hown hK hP 1 rfl rfl 3 (by decide) (hts _ (List.mem_cons_of_mem _ qX2_f25)) (fun _ h9 => h9) rfl dX2_thank_1 ?_
  refine lv_iload_n hx hb dX2_thank_4 rfl (lv_at hl 1 rfl) ?_
  refine lv_aload_n hx hb dX2_thank_5 rfl (lv_at hl 0 rfl) ?_
  refine va_get (D := D) (ci := 2) (v := .int (g 1 5)) (C := RX2) (T := TX2) (N := 13) hx hb hts (se_iw iwX2) hown hK hP 1 rfl rfl 5 (by decide) (hts _ (List.mem_cons_of_mem _ qX2_f31)) (fun _ h9 => h9) rfl dX2_thank_6 ?_
  refine lv_isub hx hb dX2_thank_9 ?_
  refine va_mmin hx hb (hml.trans hl.1.symm) hown (hts _ (List.mem_cons_of_mem _ qX2_m62)) (hts _ (List.mem_cons_of_mem _ q_static_Math_min)) (hts _ (List.mem_cons_of_mem _ q_ini_java_lang_Math)) (hts _ (List.mem_cons_of_mem _ q_code_Math_min)) (Nat.le_of_ble_eq_true rfl) (Nat.le_of_ble_eq_true rfl) (Nat.zero_le _) (Nat.zero_le _) dX2_thank_10 ?_
  refine lv_istore_n (lv' := [(2, .int (if (p1 - (g 1 5)) < (g 1 3) then (p1 - (g 1 5)) else (g 1 3))), (0, .ref (h 1)), (1, .int p1)]) hx hb dX2_thank_13 rfl hl (by decide) rfl (fun ls hl => ?_)
  refine lv_aload_n hx hb dX2_thank_14 rfl (lv_at hl 1 rfl) ?_
  refine lv_aload_n hx hb dX2_thank_15 rfl (lv_at hl 1 rfl) ?_
  refine va_get (D := D) (ci := 2) (v := .int (g 1 1)) (C := RX2) (T := TX2) (N := 13) hx hb hts (se_iw iwX2) hown hK hP 1 rfl rfl 1 (by decide) (hts _ (List.mem_cons_of_mem _ qX2_f19)) (fun _ h9 => h9) rfl dX2_thank_16 ?_
  refine lv_iload_n hx hb dX2_thank_19 rfl (lv_at hl 0 rfl) ?_
  refine lv_iadd hx hb dX2_thank_20 ?_
  refine lv_sipush (v := 2047) hx hb dX2_thank_21 (by decide) ?_
  refine lv_iand hx hb dX2_thank_24 ?_
  refine va_put (D := D) (ci := 2) (v := .int (((g 1 1) + (if (p1 - (g 1 5)) < (g 1 3) then (p1 - (g 1 5)) else (g 1 3))) &&& 2047)) (ty := .int) (C := RX2) (T := TX2) (N := 13) hx hb hts (se_iw iwX2) tyX2 tyX2_ok nmX2 hown hK hP hD hS 1 rfl rfl 1 (by decide) (hts _ (List.mem_cons_of_mem _ qX2_f19)) (fun _ h9 => h9) rfl (by decide +kernel) rfl rfl (Nat.le_of_ble_eq_true rfl) dX2_thank_25 (fun H locs hP hD hS => ?_)
  replace hP : va_P D se_cl (se_WS k h (se_u g 1 1 (((g 1 1) + (if (p1 - (g 1 5)) < (g 1 3) then (p1 - (g 1 5)) else (g 1 3))) &&& 2047))) H := hP
  replace hD : va_D A (se_WS k h (se_u g 1 1 (((g 1 1) + (if (p1 - (g 1 5)) < (g 1 3) then (p1 - (g 1 5)) else (g 1 3))) &&& 2047))) := hD
  refine lv_aload_n hx hb dX2_thank_28 rfl (lv_at hl 1 rfl) ?_
  refine lv_dup hx hb dX2_thank_29 rfl ?_
  refine va_get (D := D) (ci := 2) (v := .int (g 1 2)) (C := RX2) (T := TX2) (N := 13) hx hb hts (se_iw iwX2) hown hK hP 1 rfl rfl 2 (by decide) (hts _ (List.mem_cons_of_mem _ qX2_f22)) (fun _ h9 => h9) rfl dX2_thank_30 ?_
  refine lv_iload_n hx hb dX2_thank_33 rfl (lv_at hl 0 rfl) ?_
  refine lv_isub hx hb dX2_thank_34 ?_
  refine va_put (D := D) (ci := 2) (v := .int ((g 1 2) - (if (p1 - (g 1 5)) < (g 1 3) then (p1 - (g 1 5)) else (g 1 3)))) (ty := .int) (C := RX2) (T := TX2) (N := 13) hx hb hts (se_iw iwX2) tyX2 tyX2_ok nmX2 hown hK hP hD hS 1 rfl rfl 2 (by decide) (hts _ (List.mem_cons_of_mem _ qX2_f22)) (fun _ h9 => h9) rfl (by decide +kernel) rfl rfl (Nat.le_of_ble_eq_true rfl) dX2_thank_35 (fun H locs hP hD hS => ?_)
  replace hP : va_P D se_cl (se_WS k h (se_u (se_u g 1 1 (((g 1 1) + (if (p1 - (g 1 5)) < (g 1 3) then (p1 - (g 1 5)) else (g 1 3))) &&& 2047)) 1 2 ((g 1 2) - (if (p1 - (g 1 5)) < (g 1 3) then (p1 - (g 1 5)) else (g 1 3))))) H := hP
  replace hD : va_D A (se_WS k h (se_u (se_u g 1 1 (((g 1 1) + (if (p1 - (g 1 5)) < (g 1 3) then (p1 - (g 1 5)) else (g 1 3))) &&& 2047)) 1 2 ((g 1 2) - (if (p1 - (g 1 5)) < (g 1 3) then (p1 - (g 1 5)) else (g 1 3))))) := hD
  refine lv_aload_n hx hb dX2_thank_38 rfl (lv_at hl 1 rfl) ?_
  refine lv_dup hx hb dX2_thank_39 rfl ?_
  refine va_get (D := D) (ci := 2) (v := .int (g 1 3)) (C := RX2) (T := TX2) (N := 13) hx hb hts (se_iw iwX2) hown hK hP 1 rfl rfl 3 (by decide) (hts _ (List.mem_cons_of_mem _ qX2_f25)) (fun _ h9 => h9) rfl dX2_thank_40 ?_
  refine lv_iload_n hx hb dX2_thank_43 rfl (lv_at hl 0 rfl) ?_
  refine lv_isub hx hb dX2_thank_44 ?_
  refine va_put (D := D) (ci := 2) (v := .int ((g 1 3) - (if (p1 - (g 1 5)) < (g 1 3) then (p1 - (g 1 5)) else (g 1 3)))) (ty := .int) (C := RX2) (T := TX2) (N := 13) hx hb hts (se_iw iwX2) tyX2 tyX2_ok nmX2 hown hK hP hD hS 1 rfl rfl 3 (by decide) (hts _ (List.mem_cons_of_mem _ qX2_f25)) (fun _ h9 => h9) rfl (by decide +kernel) rfl rfl (Nat.le_of_ble_eq_true rfl) dX2_thank_45 (fun H locs hP hD hS => ?_)
  replace hP : va_P D se_cl (se_WS k h (se_u (se_u (se_u g 1 1 (((g 1 1) + (if (p1 - (g 1 5)) < (g 1 3) then (p1 - (g 1 5)) else (g 1 3))) &&& 2047)) 1 2 ((g 1 2) - (if (p1 - (g 1 5)) < (g 1 3) then (p1 - (g 1 5)) else (g 1 3)))) 1 3 ((g 1 3) - (if (p1 - (g 1 5)) < (g 1 3) then (p1 - (g 1 5)) else (g 1 3))))) H := hP
  replace hD : va_D A (se_WS k h (se_u (se_u (se_u g 1 1 (((g 1 1) + (if (p1 - (g 1 5)) < (g 1 3) then (p1 - (g 1 5)) else (g 1 3))) &&& 2047)) 1 2 ((g 1 2) - (if (p1 - (g 1 5)) < (g 1 3) then (p1 - (g 1 5)) else (g 1 3)))) 1 3 ((g 1 3) - (if (p1 - (g 1 5)) < (g 1 3) then (p1 - (g 1 5)) else (g 1 3))))) := hD
  refine lv_aload_n hx hb dX2_thank_48 rfl (lv_at hl 1 rfl) ?_
  refine lv_iload_n hx hb dX2_thank_49 rfl (lv_at hl 2 rfl) ?_
  refine va_put (D := D) (ci := 2) (v := .int p1) (ty := .int) (C := RX2) (T := TX2) (N := 13) hx hb hts (se_iw iwX2) tyX2 tyX2_ok nmX2 hown hK hP hD hS 1 rfl rfl 5 (by decide) (hts _ (List.mem_cons_of_mem _ qX2_f31)) (fun _ h9 => h9) rfl (by decide +kernel) rfl rfl (Nat.le_of_ble_eq_true rfl) dX2_thank_50 (fun H locs hP hD hS => ?_)
  replace hP : va_P D se_cl (se_WS k h (se_u (se_u (se_u (se_u g 1 1 (((g 1 1) + (if (p1 - (g 1 5)) < (g 1 3) then (p1 - (g 1 5)) else (g 1 3))) &&& 2047)) 1 2 ((g 1 2) - (if (p1 - (g 1 5)) < (g 1 3) then (p1 - (g 1 5)) else (g 1 3)))) 1 3 ((g 1 3) - (if (p1 - (g 1 5)) < (g 1 3) then (p1 - (g 1 5)) else (g 1 3)))) 1 5 p1)) H := hP
  replace hD : va_D A (se_WS k h (se_u (se_u (se_u (se_u g 1 1 (((g 1 1) + (if (p1 - (g 1 5)) < (g 1 3) then (p1 - (g 1 5)) else (g 1 3))) &&& 2047)) 1 2 ((g 1 2) - (if (p1 - (g 1 5)) < (g 1 3) then (p1 - (g 1 5)) else (g 1 3)))) 1 3 ((g 1 3) - (if (p1 - (g 1 5)) < (g 1 3) then (p1 - (g 1 5)) else (g 1 3)))) 1 5 p1)) := hD
  exact se_rv hx hb hr hlocks hK hP hD hS dX2_thank_53 (by rw [F_S_Outgoing_thank])
set_option maxRecDepth 100000 in
set_option maxHeartbeats 4000000 in
theorem c_S_Watch_learn (l : Launch) (D : va_G) (k : Nat → ClassId) (h : Nat → Nat) (sz : Nat) (g : se_G) (p1 : Int32) : Met l yX4_learn (se_w_X4_learn) ({ frames := 1, cells := 0, slots := 0, locals := 21 }) (va_Pc [.ref (h 5), .int p1] (se_Pre D se_cl [(k 2, .byte), (k 4, .int), (k 8, .byte), (k 10, .byte)] (se_WS k h g) se_ZN sz)) (se_Qv D se_cl [(k 2, .byte), (k 4, .int), (k 8, .byte), (k 10, .byte)] (se_WS k h) (F_S_Watch_learn g p1) (va_A (se_WS k h g) sz)) 0 0 (va_A (se_WS k h g) sz) := by
  refine se_met (Qc := se_Qv D se_cl [(k 2, .byte), (k 4, .int), (k 8, .byte), (k 10, .byte)] (se_WS k h) (F_S_Watch_learn g p1)) (cc := cX4_learn) (maxL := 3) (ret := none) (by decide) rfl (Nat.le_of_ble_eq_true rfl) ?_
  intro p e s m below meth c ls A hx hb hr hts hown hlocks hml hA hP hK hD hS hZ hl
  replace hl : lv_has ls 3 [(0, .ref (h 5)), (1, .int p1)] := hl
  have J70 : ∀ (gj70 : se_G) (H : Heap) (locs : List Loc) (ls : Array Slot), F_S_Watch_learn_j70 gj70 = F_S_Watch_learn g p1 → va_P D se_cl (se_WS k h gj70) H → va_D A (se_WS k h gj70) → va_S A s.heap H locs → lv_has ls 3 [(0, .ref (h 5))] → W p l e ({ frames := 1, cells := 0, slots := 0, locals := 21 }) s m [.ref (h 5), .int p1].toArray below meth c H locs 0 0 (MQ below (se_Qv D se_cl [(k 2, .byte), (k 4, .int), (k 8, .byte), (k 10, .byte)] (se_WS k h) (F_S_Watch_learn g p1) A) [.ref (h 5), .int p1].toArray s 0 0 A) (F0 m 70 ls []) := by
    intro gj70 H locs ls hF hP hD hS hl
    refine lv_aload_n hx hb dX4_learn_70 rfl (lv_at hl 0 rfl) ?_
    refine va_get (D := D) (ci := 4) (v := .int (gj70 5 6)) (C := RX4) (T := TX4) (N := 11) hx hb hts (se_iw iwX4) hown hK hP 5 rfl rfl 6 (by decide) (hts _ (List.mem_cons_of_mem _ qX4_f26)) (fun _ h9 => h9) rfl dX4_learn_71 ?_
    refine lv_bipush (v := 8) hx hb dX4_learn_74 (by decide) ?_
    refine lv_idiv hx hb dX4_learn_76 (by decide) ?_
    refine lv_aload_n hx hb dX4_learn_77 rfl (lv_at hl 0 rfl) ?_
    refine va_get (D := D) (ci := 4) (v := .int (gj70 5 7)) (C := RX4) (T := TX4) (N := 11) hx hb hts (se_iw iwX4) hown hK hP 5 rfl rfl 7 (by decide) (hts _ (List.mem_cons_of_mem _ qX4_f29)) (fun _ h9 => h9) rfl dX4_learn_78 ?_
    refine lv_iconst (v := 1) hx hb dX4_learn_81 (by decide) ?_
    refine va_mmax hx hb (hml.trans hl.1.symm) hown (hts _ (List.mem_cons_of_mem _ qX4_m67)) (hts _ (List.mem_cons_of_mem _ q_static_Math_max)) (hts _ (List.mem_cons_of_mem _ q_ini_java_lang_Math)) (hts _ (List.mem_cons_of_mem _ q_code_Math_max)) (Nat.le_of_ble_eq_true rfl) (Nat.le_of_ble_eq_true rfl) (Nat.zero_le _) (Nat.zero_le _) dX4_learn_82 ?_
    refine lv_iadd hx hb dX4_learn_85 ?_
    refine lv_istore_n (lv' := [(2, .int (((gj70 5 6) / 8) + (if (gj70 5 7) < 1 then 1 else (gj70 5 7)))), (0, .ref (h 5))]) hx hb dX4_learn_86 rfl hl (by decide) rfl (fun ls hl => ?_)
    refine lv_aload_n hx hb dX4_learn_87 rfl (lv_at hl 1 rfl) ?_
    refine lv_bipush (v := 20) hx hb dX4_learn_88 (by decide) ?_
    refine lv_iload_n hx hb dX4_learn_90 rfl (lv_at hl 0 rfl) ?_
    refine lv_sipush (v := 1200) hx hb dX4_learn_91 (by decide) ?_
    refine va_mmin hx hb (hml.trans hl.1.symm) hown (hts _ (List.mem_cons_of_mem _ qX4_m47)) (hts _ (List.mem_cons_of_mem _ q_static_Math_min)) (hts _ (List.mem_cons_of_mem _ q_ini_java_lang_Math)) (hts _ (List.mem_cons_of_mem _ q_code_Math_min)) (Nat.le_of_ble_eq_true rfl) (Nat.le_of_ble_eq_true rfl) (Nat.zero_le _) (Nat.zero_le _) dX4_learn_94 ?_
    refine va_mmax hx hb (hml.trans hl.1.symm) hown (hts _ (List.mem_cons_of_mem _ qX4_m67)) (hts _ (List.mem_cons_of_mem _ q_static_Math_max)) (hts _ (List.mem_cons_of_mem _ q_ini_java_lang_Math)) (hts _ (List.mem_cons_of_mem _ q_code_Math_max)) (Nat.le_of_ble_eq_true rfl) (Nat.le_of_ble_eq_true rfl) (Nat.zero_le _) (Nat.zero_le _) dX4_learn_97 ?_
    refine va_put (D := D) (ci := 4) (v := .int (if 20 < (if 1200 < (((gj70 5 6) / 8) + (if (gj70 5 7) < 1 then 1 else (gj70 5 7))) then 1200 else (((gj70 5 6) / 8) + (if (gj70 5 7) < 1 then 1 else (gj70 5 7)))) then (if 1200 < (((gj70 5 6) / 8) + (if (gj70 5 7) < 1 then 1 else (gj70 5 7))) then 1200 else (((gj70 5 6) / 8) + (if (gj70 5 7) < 1 then 1 else (gj70 5 7)))) else 20)) (ty := .int) (C := RX4) (T := TX4) (N := 11) hx hb hts (se_iw iwX4) tyX4 tyX4_ok nmX4 hown hK hP hD hS 5 rfl rfl 4 (by decide) (hts _ (List.mem_cons_of_mem _ qX4_f9)) (fun _ h9 => h9) rfl (by decide +kernel) rfl rfl (Nat.le_of_ble_eq_true rfl) dX4_learn_100 (fun H locs hP hD hS => ?_)
    replace hP : va_P D se_cl (se_WS k h (se_u gj70 5 4 (if 20 < (if 1200 < (((gj70 5 6) / 8) + (if (gj70 5 7) < 1 then 1 else (gj70 5 7))) then 1200 else (((gj70 5 6) / 8) + (if (gj70 5 7) < 1 then 1 else (gj70 5 7)))) then (if 1200 < (((gj70 5 6) / 8) + (if (gj70 5 7) < 1 then 1 else (gj70 5 7))) then 1200 else (((gj70 5 6) / 8) + (if (gj70 5 7) < 1 then 1 else (gj70 5 7)))) else 20))) H := hP
    replace hD : va_D A (se_WS k h (se_u gj70 5 4 (if 20 < (if 1200 < (((gj70 5 6) / 8) + (if (gj70 5 7) < 1 then 1 else (gj70 5 7))) then 1200 else (((gj70 5 6) / 8) + (if (gj70 5 7) < 1 then 1 else (gj70 5 7)))) then (if 1200 < (((gj70 5 6) / 8) + (if (gj70 5 7) < 1 then 1 else (gj70 5 7))) then 1200 else (((gj70 5 6) / 8) + (if (gj70 5 7) < 1 then 1 else (gj70 5 7)))) else 20))) := hD
    exact se_rv hx hb hr hlocks hK hP hD hS dX4_learn_103 (by rw [← hF, F_S_Watch_learn_j70])
  have hF : F_S_Watch_learn g p1 = F_S_Watch_learn g p1 := rfl
  refine lv_aload_n hx hb dX4_learn_0 rfl (lv_at hl 0 rfl) ?_
  refine va_get (D := D) (ci := 4) (v := .int (g 5 5)) (C := RX4) (T := TX4) (N := 11) hx hb hts (se_iw iwX4) hown hK hP 5 rfl rfl 5 (by decide) (hts _ (List.mem_cons_of_mem _ qX4_f23)) (fun _ h9 => h9) rfl dX4_learn_1 ?_
  refine lv_if_eq (tgt := 50) hx hb dX4_learn_4 (by decide) (fun c1 => ?_) (fun c1 => ?_)
  · refine lv_aload_n hx hb dX4_learn_50 rfl (lv_at hl 0 rfl) ?_
    refine lv_iconst (v := 1) hx hb dX4_learn_51 (by decide) ?_
    refine va_put (D := D) (ci := 4) (v := .int 1) (ty := .boolean) (C := RX4) (T := TX4) (N := 11) hx hb hts (se_iw iwX4) tyX4 tyX4_ok nmX4 hown hK hP hD hS 5 rfl rfl 5 (by decide) (hts _ (List.mem_cons_of_mem _ qX4_f23)) (fun _ h9 => h9) rfl (by decide +kernel) rfl rfl (Nat.le_of_ble_eq_true rfl) dX4_learn_52 (fun H locs hP hD hS => ?_)
    replace hP : va_P D se_cl (se_WS k h (se_u g 5 5 1)) H := hP
    replace hD : va_D A (se_WS k h (se_u g 5 5 1)) := hD
    refine lv_aload_n hx hb dX4_learn_55 rfl (lv_at hl 0 rfl) ?_
    refine lv_bipush (v := 8) hx hb dX4_learn_56 (by decide) ?_
    refine lv_iload_n hx hb dX4_learn_58 rfl (lv_at hl 1 rfl) ?_
    refine lv_imul hx hb dX4_learn_59 ?_
    refine va_put (D := D) (ci := 4) (v := .int (8 * p1)) (ty := .int) (C := RX4) (T := TX4) (N := 11) hx hb hts (se_iw iwX4) tyX4 tyX4_ok nmX4 hown hK hP hD hS 5 rfl rfl 6 (by decide) (hts _ (List.mem_cons_of_mem _ qX4_f26)) (fun _ h9 => h9) rfl (by decide +kernel) rfl rfl (Nat.le_of_ble_eq_true rfl) dX4_learn_60 (fun H locs hP hD hS => ?_)
    replace hP : va_P D se_cl (se_WS k h (se_u (se_u g 5 5 1) 5 6 (8 * p1))) H := hP
    replace hD : va_D A (se_WS k h (se_u (se_u g 5 5 1) 5 6 (8 * p1))) := hD
    refine lv_aload_n hx hb dX4_learn_63 rfl (lv_at hl 0 rfl) ?_
    refine lv_iconst (v := 2) hx hb dX4_learn_64 (by decide) ?_
    refine lv_iload_n hx hb dX4_learn_65 rfl (lv_at hl 1 rfl) ?_
    refine lv_imul hx hb dX4_learn_66 ?_
    refine va_put (D := D) (ci := 4) (v := .int (2 * p1)) (ty := .int) (C := RX4) (T := TX4) (N := 11) hx hb hts (se_iw iwX4) tyX4 tyX4_ok nmX4 hown hK hP hD hS 5 rfl rfl 7 (by decide) (hts _ (List.mem_cons_of_mem _ qX4_f29)) (fun _ h9 => h9) rfl (by decide +kernel) rfl rfl (Nat.le_of_ble_eq_true rfl) dX4_learn_67 (fun H locs hP hD hS => ?_)
    replace hP : va_P D se_cl (se_WS k h (se_u (se_u (se_u g 5 5 1) 5 6 (8 * p1)) 5 7 (2 * p1))) H := hP
    replace hD : va_D A (se_WS k h (se_u (se_u (se_u g 5 5 1) 5 6 (8 * p1)) 5 7 (2 * p1))) := hD
    exact J70 (se_u (se_u (se_u g 5 5 1) 5 6 (8 * p1)) 5 7 (2 * p1)) _ _ ls (by rw [F_S_Watch_learn, if_pos c1]) hP hD hS (lv_sub hl [0] rfl)
  · refine lv_iload_n hx hb dX4_learn_7 rfl (lv_at hl 1 rfl) ?_
    refine lv_aload_n hx hb dX4_learn_8 rfl (lv_at hl 0 rfl) ?_
    refine va_get (D := D) (ci := 4) (v := .int (g 5 6)) (C := RX4) (T := TX4) (N := 11) hx hb hts (se_iw iwX4) hown hK hP 5 rfl rfl 6 (by decide) (hts _ (List.mem_cons_of_mem _ qX4_f26)) (fun _ h9 => h9) rfl dX4_learn_9 ?_
    refine lv_bipush (v := 8) hx hb dX4_learn_12 (by decide) ?_
    refine lv_idiv hx hb dX4_learn_14 (by decide) ?_
    refine lv_isub hx hb dX4_learn_15 ?_
    refine lv_istore_n (lv' := [(2, .int (p1 - ((g 5 6) / 8))), (0, .ref (h 5)), (1, .int p1)]) hx hb dX4_learn_16 rfl hl (by decide) rfl (fun ls hl => ?_)
    refine lv_aload_n hx hb dX4_learn_17 rfl (lv_at hl 1 rfl) ?_
    refine lv_dup hx hb dX4_learn_18 rfl ?_
    refine va_get (D := D) (ci := 4) (v := .int (g 5 6)) (C := RX4) (T := TX4) (N := 11) hx hb hts (se_iw iwX4) hown hK hP 5 rfl rfl 6 (by decide) (hts _ (List.mem_cons_of_mem _ qX4_f26)) (fun _ h9 => h9) rfl dX4_learn_19 ?_
    refine lv_iload_n hx hb dX4_learn_22 rfl (lv_at hl 0 rfl) ?_
    refine lv_iadd hx hb dX4_learn_23 ?_
    refine va_put (D := D) (ci := 4) (v := .int ((g 5 6) + (p1 - ((g 5 6) / 8)))) (ty := .int) (C := RX4) (T := TX4) (N := 11) hx hb hts (se_iw iwX4) tyX4 tyX4_ok nmX4 hown hK hP hD hS 5 rfl rfl 6 (by decide) (hts _ (List.mem_cons_of_mem _ qX4_f26)) (fun _ h9 => h9) rfl (by decide +kernel) rfl rfl (Nat.le_of_ble_eq_true rfl) dX4_learn_24 (fun H locs hP hD hS => ?_)
    replace hP : va_P D se_cl (se_WS k h (se_u g 5 6 ((g 5 6) + (p1 - ((g 5 6) / 8))))) H := hP
    replace hD : va_D A (se_WS k h (se_u g 5 6 ((g 5 6) + (p1 - ((g 5 6) / 8))))) := hD
    refine lv_aload_n hx hb dX4_learn_27 rfl (lv_at hl 1 rfl) ?_
    refine lv_dup hx hb dX4_learn_28 rfl ?_
    refine va_get (D := D) (ci := 4) (v := .int (g 5 7)) (C := RX4) (T := TX4) (N := 11) hx hb hts (se_iw iwX4) hown hK hP 5 rfl rfl 7 (by decide) (hts _ (List.mem_cons_of_mem _ qX4_f29)) (fun _ h9 => h9) rfl dX4_learn_29 ?_
    refine lv_iload_n hx hb dX4_learn_32 rfl (lv_at hl 0 rfl) ?_
    refine va_mabs hx hb (hml.trans hl.1.symm) hown (hts _ (List.mem_cons_of_mem _ qX4_m63)) (hts _ (List.mem_cons_of_mem _ q_static_Math_abs)) (hts _ (List.mem_cons_of_mem _ q_ini_java_lang_Math)) (hts _ (List.mem_cons_of_mem _ q_code_Math_abs)) (Nat.le_of_ble_eq_true rfl) (Nat.le_of_ble_eq_true rfl) (Nat.zero_le _) (Nat.zero_le _) dX4_learn_33 ?_
    refine lv_aload_n hx hb dX4_learn_36 rfl (lv_at hl 1 rfl) ?_
    refine va_get (D := D) (ci := 4) (v := .int (g 5 7)) (C := RX4) (T := TX4) (N := 11) hx hb hts (se_iw iwX4) hown hK hP 5 rfl rfl 7 (by decide) (hts _ (List.mem_cons_of_mem _ qX4_f29)) (fun _ h9 => h9) rfl dX4_learn_37 ?_
    refine lv_iconst (v := 4) hx hb dX4_learn_40 (by decide) ?_
    refine lv_idiv hx hb dX4_learn_41 (by decide) ?_
    refine lv_isub hx hb dX4_learn_42 ?_
    refine lv_iadd hx hb dX4_learn_43 ?_
    refine va_put (D := D) (ci := 4) (v := .int ((g 5 7) + ((if 0 ≤ (p1 - ((g 5 6) / 8)) then (p1 - ((g 5 6) / 8)) else 0 - (p1 - ((g 5 6) / 8))) - ((g 5 7) / 4)))) (ty := .int) (C := RX4) (T := TX4) (N := 11) hx hb hts (se_iw iwX4) tyX4 tyX4_ok nmX4 hown hK hP hD hS 5 rfl rfl 7 (by decide) (hts _ (List.mem_cons_of_mem _ qX4_f29)) (fun _ h9 => h9) rfl (by decide +kernel) rfl rfl (Nat.le_of_ble_eq_true rfl) dX4_learn_44 (fun H locs hP hD hS => ?_)
    replace hP : va_P D se_cl (se_WS k h (se_u (se_u g 5 6 ((g 5 6) + (p1 - ((g 5 6) / 8)))) 5 7 ((g 5 7) + ((if 0 ≤ (p1 - ((g 5 6) / 8)) then (p1 - ((g 5 6) / 8)) else 0 - (p1 - ((g 5 6) / 8))) - ((g 5 7) / 4))))) H := hP
    replace hD : va_D A (se_WS k h (se_u (se_u g 5 6 ((g 5 6) + (p1 - ((g 5 6) / 8)))) 5 7 ((g 5 7) + ((if 0 ≤ (p1 - ((g 5 6) / 8)) then (p1 - ((g 5 6) / 8)) else 0 - (p1 - ((g 5 6) / 8))) - ((g 5 7) / 4))))) := hD
    refine lv_goto (tgt := 70) hx hb dX4_learn_47 (by decide) ?_
    exact J70 (se_u (se_u g 5 6 ((g 5 6) + (p1 - ((g 5 6) / 8)))) 5 7 ((g 5 7) + ((if 0 ≤ (p1 - ((g 5 6) / 8)) then (p1 - ((g 5 6) / 8)) else 0 - (p1 - ((g 5 6) / 8))) - ((g 5 7) / 4)))) _ _ ls (by rw [F_S_Watch_learn, if_neg c1]) hP hD hS (lv_sub hl [1] rfl)
set_option maxRecDepth 100000 in
set_option maxHeartbeats 4000000 in
theorem c_S_Watch_endMeasure (l : Launch) (D : va_G) (k : Nat → ClassId) (h : Nat → Nat) (sz : Nat) (g : se_G) (p1 : Int32) : Met l yX4_endMeasure (se_w_X4_endMeasure) ({ frames := 2, cells := 0, slots := 0, locals := 43 }) (va_Pc [.ref (h 5), .int p1] (se_Pre D se_cl [(k 2, .byte), (k 4, .int), (k 8, .byte), (k 10, .byte)] (se_WS k h g) se_ZN sz)) (se_Qv D se_cl [(k 2, .byte), (k 4, .int), (k 8, .byte), (k 10, .byte)] (se_WS k h) (F_S_Watch_endMeasure g p1) (va_A (se_WS k h g) sz)) 0 0 (va_A (se_WS k h g) sz) := by
  refine se_met (Qc := se_Qv D se_cl [(k 2, .byte), (k 4, .int), (k 8, .byte), (k 10, .byte)] (se_WS k h) (F_S_Watch_endMeasure g p1)) (cc := cX4_endMeasure) (maxL := 2) (ret := none) (by decide) rfl (Nat.le_of_ble_eq_true rfl) ?_
  intro p e s m below meth c ls A hx hb hr hts hown hlocks hml hA hP hK hD hS hZ hl
  replace hl : lv_has ls 2 [(0, .ref (h 5)), (1, .int p1)] := hl
  have hF : F_S_Watch_endMeasure g p1 = F_S_Watch_endMeasure g p1 := rfl
  refine lv_aload_n hx hb dX4_endMeasure_0 rfl (lv_at hl 0 rfl) ?_
  refine va_get (D := D) (ci := 4) (v := .int (g 5 8)) (C := RX4) (T := TX4) (N := 11) hx hb hts (se_iw iwX4) hown hK hP 5 rfl rfl 8 (by decide) (hts _ (List.mem_cons_of_mem _ qX4_f32)) (fun _ h9 => h9) rfl dX4_endMeasure_1 ?_
  refine lv_if_eq (tgt := 36) hx hb dX4_endMeasure_4 (by decide) (fun c1 => ?_) (fun c1 => ?_)
  · exact se_rv hx hb hr hlocks hK hP hD hS dX4_endMeasure_36 (by rw [F_S_Watch_endMeasure, if_pos c1])
  · refine lv_aload_n hx hb dX4_endMeasure_7 rfl (lv_at hl 0 rfl) ?_
    refine va_get (D := D) (ci := 4) (v := .int (g 5 9)) (C := RX4) (T := TX4) (N := 11) hx hb hts (se_iw iwX4) hown hK hP 5 rfl rfl 9 (by decide) (hts _ (List.mem_cons_of_mem _ qX4_f35)) (fun _ h9 => h9) rfl dX4_endMeasure_8 ?_
    refine lv_iload_n hx hb dX4_endMeasure_11 rfl (lv_at hl 1 rfl) ?_
    refine se_cp (va_runSN (As := [.int (g 5 9), .int p1]) (rest := []) ⟨hx, hb, hml, hown, hts⟩ (c_S_isNotBehind l D k h _ g (g 5 9) p1) (se_kSN 2 hts q_code_X5_isNotBehind (hZ _ nX4_m53 rfl) q_ini_StreamEnd q_static_X5_isNotBehind (by decide +kernel) ⟨Nat.le_of_ble_eq_true rfl, Nat.le_of_ble_eq_true rfl⟩ rfl rfl) ⟨se_blind se_ZN_ok, se_pre se_ZN_ok hP hK hD hZ⟩ rfl rfl hl.1 rfl (lv_room (Nat.le_of_ble_eq_true rfl)) dX4_endMeasure_12 ⟨Nat.zero_le _, Nat.zero_le _⟩) ?_
    refine lv_if_eq (tgt := 36) hx hb dX4_endMeasure_15 (by decide) (fun c2 => ?_) (fun c2 => ?_)
    · exact se_rv hx hb hr hlocks hK hP hD hS dX4_endMeasure_36 (by rw [F_S_Watch_endMeasure, if_neg c1, if_pos c2])
    · refine lv_aload_n hx hb dX4_endMeasure_18 rfl (lv_at hl 0 rfl) ?_
      refine lv_iconst (v := 0) hx hb dX4_endMeasure_19 (by decide) ?_
      refine va_put (D := D) (ci := 4) (v := .int 0) (ty := .boolean) (C := RX4) (T := TX4) (N := 11) hx hb hts (se_iw iwX4) tyX4 tyX4_ok nmX4 hown hK hP hD hS 5 rfl rfl 8 (by decide) (hts _ (List.mem_cons_of_mem _ qX4_f32)) (fun _ h9 => h9) rfl (by decide +kernel) rfl rfl (Nat.le_of_ble_eq_true rfl) dX4_endMeasure_20 (fun H locs hP hD hS => ?_)
      replace hP : va_P D se_cl (se_WS k h (se_u g 5 8 0)) H := hP
      replace hD : va_D A (se_WS k h (se_u g 5 8 0)) := hD
      refine lv_aload_n hx hb dX4_endMeasure_23 rfl (lv_at hl 0 rfl) ?_
      refine lv_aload_n hx hb dX4_endMeasure_24 rfl (lv_at hl 0 rfl) ?_
      refine va_get (D := D) (ci := 4) (v := .int (g 5 0)) (C := RX4) (T := TX4) (N := 11) hx hb hts (se_iw iwX4) hown hK hP 5 rfl rfl 0 (by decide) (hts _ (List.mem_cons_of_mem _ qX4_f41)) (fun _ h9 => h9) rfl dX4_endMeasure_25 ?_
      refine lv_aload_n hx hb dX4_endMeasure_28 rfl (lv_at hl 0 rfl) ?_
      refine va_get (D := D) (ci := 4) (v := .int (g 5 10)) (C := RX4) (T := TX4) (N := 11) hx hb hts (se_iw iwX4) hown hK hP 5 rfl rfl 10 (by decide) (hts _ (List.mem_cons_of_mem _ qX4_f38)) (fun _ h9 => h9) rfl dX4_endMeasure_29 ?_
      refine lv_isub hx hb dX4_endMeasure_32 ?_
      refine se_cvE (va_runV (C := RX4) (As := [.int ((g 5 0) - (g 5 10))]) (rest := []) ⟨hx, hb, hml, hown, hts⟩ (c_S_Watch_learn l D k h _ (se_u g 5 8 0) ((g 5 0) - (g 5 10))) (se_kV 1 hts q_code_X4_learn qX4_m59 q_ini_StreamEnd_Watch q_instanceMethod_X4_learn q_sel_X4_learn (by decide +kernel) ⟨Nat.le_of_ble_eq_true rfl, Nat.le_of_ble_eq_true rfl⟩ rfl rfl) ⟨se_blind se_ZN_ok, va_recv hK hP (ci := 4) (q0 := 5) rfl rfl, se_pre se_ZN_ok hP hK hD hZ⟩ rfl rfl hl.1 rfl (lv_room (Nat.le_of_ble_eq_true rfl)) dX4_endMeasure_33 ⟨Nat.zero_le _, Nat.zero_le _⟩) hD hS hA (fun g1 H locs eg1 hP hD hS => ?_)
      exact se_rv hx hb hr hlocks hK hP hD hS dX4_endMeasure_36 (by subst eg1; rw [F_S_Watch_endMeasure, if_neg c1, if_neg c2])
set_option maxRecDepth 100000 in
set_option maxHeartbeats 4000000 in
theorem c_S_takeThanked (l : Launch) (D : va_G) (k : Nat → ClassId) (h : Nat → Nat) (sz : Nat) (g : se_G)  : Met l yX5_takeThanked (se_w_X5_takeThanked) ({ frames := 3, cells := 0, slots := 0, locals := 64 }) (va_Pc [.ref (h 0)] (se_Pre D se_cl [(k 2, .byte), (k 4, .int), (k 8, .byte), (k 10, .byte)] (se_WS k h g) se_ZN sz)) (se_Qv D se_cl [(k 2, .byte), (k 4, .int), (k 8, .byte), (k 10, .byte)] (se_WS k h) (F_S_takeThanked g) (va_A (se_WS k h g) sz)) 0 0 (va_A (se_WS k h g) sz) := by
  refine se_met (Qc := se_Qv D se_cl [(k 2, .byte), (k 4, .int), (k 8, .byte), (k 10, .byte)] (se_WS k h) (F_S_takeThanked g)) (cc := cX5_takeThanked) (maxL := 1) (ret := none) (by decide) rfl (Nat.le_of_ble_eq_true rfl) ?_
  intro p e s m below meth c ls A hx hb hr hts hown hlocks hml hA hP hK hD hS hZ hl
  replace hl : lv_has ls 1 [(0, .ref (h 0))] := hl
  have hF : F_S_takeThanked g = F_S_takeThanked g := rfl
  refine lv_aload_n hx hb dX5_takeThanked_0 rfl (lv_at hl 0 rfl) ?_
  refine va_get (D := D) (ci := 5) (v := .ref (h 1)) (C := RX5) (T := TX5) (N := 12) hx hb hts (se_iw iwX5) hown hK hP 0 rfl rfl 2 (by decide) (hts _ (List.mem_cons_of_mem _ qX5_f21)) (fun _ h9 => h9) rfl dX5_takeThanked_1 ?_
  refine lv_aload_n hx hb dX5_takeThanked_4 rfl (lv_at hl 0 rfl) ?_
  refine va_get (D := D) (ci := 5) (v := .ref (h 7)) (C := RX5) (T := TX5) (N := 12) hx hb hts (se_iw iwX5) hown hK hP 0 rfl rfl 6 (by decide) (hts _ (List.mem_cons_of_mem _ qX5_f49)) (fun _ h9 => h9) rfl dX5_takeThanked_5 ?_
  refine va_getN (D := D) (ci := 3) (v := .int (g 7 4)) (C := RX3) (T := TX3) (N := 7) hx hb hts (se_iw iwX3) hown hK hP 7 rfl rfl 4 (by decide) (va_Nw.use rfl (hZ _ nX5_f223 rfl)) (fun _ h9 => h9) rfl dX5_takeThanked_8 ?_
  refine se_cvE (va_runVN (C := RX2) (As := [.int (g 7 4)]) (rest := []) ⟨hx, hb, hml, hown, hts⟩ (c_S_Outgoing_thank l D k h _ g (g 7 4)) (se_kVN 1 hts q_code_X2_thank (hZ _ nX5_m423 rfl) q_ini_StreamEnd_Outgoing q_instanceMethod_X2_thank q_sel_X2_thank (by decide +kernel) ⟨Nat.le_of_ble_eq_true rfl, Nat.le_of_ble_eq_true rfl⟩ rfl rfl) ⟨se_blind se_ZN_ok, va_recv hK hP (ci := 2) (q0 := 1) rfl rfl, se_pre se_ZN_ok hP hK hD hZ⟩ rfl rfl hl.1 rfl (lv_room (Nat.le_of_ble_eq_true rfl)) dX5_takeThanked_11 ⟨Nat.zero_le _, Nat.zero_le _⟩) hD hS hA (fun g1 H locs eg1 hP hD hS => ?_)
  replace hF : (F_S_takeThanked_k2 (F_S_Outgoing_thank g (g 7 4))) = F_S_takeThanked g := by rw [F_S_takeThanked]
  rw [← eg1] at hF
  replace hF : F_S_takeThanked_k2 g1 = F_S_takeThanked g := hF
  refine lv_aload_n hx hb dX5_takeThanked_14 rfl (lv_at hl 0 rfl) ?_
  refine va_get (D := D) (ci := 5) (v := .ref (h 5)) (C := RX5) (T := TX5) (N := 12) hx hb hts (se_iw iwX5) hown hK hP 0 rfl rfl 4 (by decide) (hts _ (List.mem_cons_of_mem _ qX5_f35)) (fun _ h9 => h9) rfl dX5_takeThanked_15 ?_
  refine lv_aload_n hx hb dX5_takeThanked_18 rfl (lv_at hl 0 rfl) ?_
  refine va_get (D := D) (ci := 5) (v := .ref (h 7)) (C := RX5) (T := TX5) (N := 12) hx hb hts (se_iw iwX5) hown hK hP 0 rfl rfl 6 (by decide) (hts _ (List.mem_cons_of_mem _ qX5_f49)) (fun _ h9 => h9) rfl dX5_takeThanked_19 ?_
  refine va_getN (D := D) (ci := 3) (v := .int (g1 7 4)) (C := RX3) (T := TX3) (N := 7) hx hb hts (se_iw iwX3) hown hK hP 7 rfl rfl 4 (by decide) (va_Nw.use rfl (hZ _ nX5_f223 rfl)) (fun _ h9 => h9) rfl dX5_takeThanked_22 ?_
  refine se_cvE (va_runVN (C := RX4) (As := [.int (g1 7 4)]) (rest := []) ⟨hx, hb, hml, hown, hts⟩ (c_S_Watch_endMeasure l D k h _ g1 (g1 7 4)) (se_kVN 1 hts q_code_X4_endMeasure (hZ _ nX5_m426 rfl) q_ini_StreamEnd_Watch q_instanceMethod_X4_endMeasure q_sel_X4_endMeasure (by decide +kernel) ⟨Nat.le_of_ble_eq_true rfl, Nat.le_of_ble_eq_true rfl⟩ rfl rfl) ⟨se_blind se_ZN_ok, va_recv hK hP (ci := 4) (q0 := 5) rfl rfl, se_pre se_ZN_ok hP hK hD hZ⟩ rfl rfl hl.1 rfl (lv_room (Nat.le_of_ble_eq_true rfl)) dX5_takeThanked_25 ⟨Nat.zero_le _, Nat.zero_le _⟩) hD hS hA (fun g2 H locs eg2 hP hD hS => ?_)
  replace hF : (F_S_takeThanked_k1 (F_S_Watch_endMeasure g1 (g1 7 4))) = F_S_takeThanked g := by rw [← hF, F_S_takeThanked_k2]
  rw [← eg2] at hF
  replace hF : F_S_takeThanked_k1 g2 = F_S_takeThanked g := hF
  refine lv_aload_n hx hb dX5_takeThanked_28 rfl (lv_at hl 0 rfl) ?_
  refine va_get (D := D) (ci := 5) (v := .ref (h 5)) (C := RX5) (T := TX5) (N := 12) hx hb hts (se_iw iwX5) hown hK hP 0 rfl rfl 4 (by decide) (hts _ (List.mem_cons_of_mem _ qX5_f35)) (fun _ h9 => h9) rfl dX5_takeThanked_29 ?_
  refine lv_iconst (v := 0) hx hb dX5_takeThanked_32 (by decide) ?_
  refine va_putN (D := D) (ci := 4) (v := .int 0) (ty := .int) (C := RX4) (T := TX4) (N := 11) hx hb hts (se_iw iwX4) tyX4 tyX4_ok nmX4 hown hK hP hD hS 5 rfl rfl 3 (by decide) (va_Nw.use rfl (hZ _ nX5_f270 rfl)) (fun _ h9 => h9) rfl (by decide +kernel) rfl rfl (Nat.le_of_ble_eq_true rfl) dX5_takeThanked_33 (fun H locs hP hD hS => ?_)
  replace hP : va_P D se_cl (se_WS k h (se_u g2 5 3 0)) H := hP
  replace hD : va_D A (se_WS k h (se_u g2 5 3 0)) := hD
  refine lv_aload_n hx hb dX5_takeThanked_36 rfl (lv_at hl 0 rfl) ?_
  refine va_get (D := D) (ci := 5) (v := .ref (h 5)) (C := RX5) (T := TX5) (N := 12) hx hb hts (se_iw iwX5) hown hK hP 0 rfl rfl 4 (by decide) (hts _ (List.mem_cons_of_mem _ qX5_f35)) (fun _ h9 => h9) rfl dX5_takeThanked_37 ?_
  refine lv_iconst (v := 0) hx hb dX5_takeThanked_40 (by decide) ?_
  refine va_putN (D := D) (ci := 4) (v := .int 0) (ty := .boolean) (C := RX4) (T := TX4) (N := 11) hx hb hts (se_iw iwX4) tyX4 tyX4_ok nmX4 hown hK hP hD hS 5 rfl rfl 1 (by decide) (va_Nw.use rfl (hZ _ nX5_f155 rfl)) (fun _ h9 => h9) rfl (by decide +kernel) rfl rfl (Nat.le_of_ble_eq_true rfl) dX5_takeThanked_41 (fun H locs hP hD hS => ?_)
  replace hP : va_P D se_cl (se_WS k h (se_u (se_u g2 5 3 0) 5 1 0)) H := hP
  replace hD : va_D A (se_WS k h (se_u (se_u g2 5 3 0) 5 1 0)) := hD
  refine lv_aload_n hx hb dX5_takeThanked_44 rfl (lv_at hl 0 rfl) ?_
  refine va_get (D := D) (ci := 5) (v := .ref (h 1)) (C := RX5) (T := TX5) (N := 12) hx hb hts (se_iw iwX5) hown hK hP 0 rfl rfl 2 (by decide) (hts _ (List.mem_cons_of_mem _ qX5_f21)) (fun _ h9 => h9) rfl dX5_takeThanked_45 ?_
  refine se_cp (va_runVN (C := RX2) (As := []) (rest := []) ⟨hx, hb, hml, hown, hts⟩ (c_S_Outgoing_hasUnthanked l D k h _ (se_u (se_u g2 5 3 0) 5 1 0)) (se_kVN 0 hts q_code_X2_hasUnthanked (hZ _ nX5_m317 rfl) q_ini_StreamEnd_Outgoing q_instanceMethod_X2_hasUnthanked q_sel_X2_hasUnthanked (by decide +kernel) ⟨Nat.le_of_ble_eq_true rfl, Nat.le_of_ble_eq_true rfl⟩ rfl rfl) ⟨se_blind se_ZN_ok, va_recv hK hP (ci := 2) (q0 := 1) rfl rfl, se_pre se_ZN_ok hP hK hD hZ⟩ rfl rfl hl.1 rfl (lv_room (Nat.le_of_ble_eq_true rfl)) dX5_takeThanked_48 ⟨Nat.zero_le _, Nat.zero_le _⟩) ?_
  refine lv_if_eq (tgt := 61) hx hb dX5_takeThanked_51 (by decide) (fun c1 => ?_) (fun c1 => ?_)
  · refine lv_aload_n hx hb dX5_takeThanked_61 rfl (lv_at hl 0 rfl) ?_
    refine va_get (D := D) (ci := 5) (v := .ref (h 6)) (C := RX5) (T := TX5) (N := 12) hx hb hts (se_iw iwX5) hown hK hP 0 rfl rfl 5 (by decide) (hts _ (List.mem_cons_of_mem _ qX5_f42)) (fun _ h9 => h9) rfl dX5_takeThanked_62 ?_
    refine lv_iconst (v := 0) hx hb dX5_takeThanked_65 (by decide) ?_
    refine va_putN (D := D) (ci := 0) (v := .int 0) (ty := .boolean) (C := RX0) (T := TX0) (N := 9) hx hb hts (se_iw iwX0) tyX0 tyX0_ok nmX0 hown hK hP hD hS 6 rfl rfl 6 (by decide) (va_Nw.use rfl (hZ _ nX5_f179 rfl)) (fun _ h9 => h9) rfl (by decide +kernel) rfl rfl (Nat.le_of_ble_eq_true rfl) dX5_takeThanked_66 (fun H locs hP hD hS => ?_)
    replace hP : va_P D se_cl (se_WS k h (se_u (se_u (se_u g2 5 3 0) 5 1 0) 6 6 0)) H := hP
    replace hD : va_D A (se_WS k h (se_u (se_u (se_u g2 5 3 0) 5 1 0) 6 6 0)) := hD
    exact se_rv hx hb hr hlocks hK hP hD hS dX5_takeThanked_69 (by rw [← hF, F_S_takeThanked_k1, if_pos c1])
  · refine lv_aload_n hx hb dX5_takeThanked_54 rfl (lv_at hl 0 rfl) ?_
    refine va_get (D := D) (ci := 5) (v := .ref (h 5)) (C := RX5) (T := TX5) (N := 12) hx hb hts (se_iw iwX5) hown hK hP 0 rfl rfl 4 (by decide) (hts _ (List.mem_cons_of_mem _ qX5_f35)) (fun _ h9 => h9) rfl dX5_takeThanked_55 ?_
    refine se_cvE (va_runVN (C := RX4) (As := []) (rest := []) ⟨hx, hb, hml, hown, hts⟩ (c_S_Watch_setAlarm l D k h _ (se_u (se_u g2 5 3 0) 5 1 0)) (se_kVN 0 hts q_code_X4_setAlarm (hZ _ nX5_m323 rfl) q_ini_StreamEnd_Watch q_instanceMethod_X4_setAlarm q_sel_X4_setAlarm (by decide +kernel) ⟨Nat.le_of_ble_eq_true rfl, Nat.le_of_ble_eq_true rfl⟩ rfl rfl) ⟨se_blind se_ZN_ok, va_recv hK hP (ci := 4) (q0 := 5) rfl rfl, se_pre se_ZN_ok hP hK hD hZ⟩ rfl rfl hl.1 rfl (lv_room (Nat.le_of_ble_eq_true rfl)) dX5_takeThanked_58 ⟨Nat.zero_le _, Nat.zero_le _⟩) hD hS hA (fun g3 H locs eg3 hP hD hS => ?_)
    refine lv_aload_n hx hb dX5_takeThanked_61 rfl (lv_at hl 0 rfl) ?_
    refine va_get (D := D) (ci := 5) (v := .ref (h 6)) (C := RX5) (T := TX5) (N := 12) hx hb hts (se_iw iwX5) hown hK hP 0 rfl rfl 5 (by decide) (hts _ (List.mem_cons_of_mem _ qX5_f42)) (fun _ h9 => h9) rfl dX5_takeThanked_62 ?_
    refine lv_iconst (v := 0) hx hb dX5_takeThanked_65 (by decide) ?_
    refine va_putN (D := D) (ci := 0) (v := .int 0) (ty := .boolean) (C := RX0) (T := TX0) (N := 9) hx hb hts (se_iw iwX0) tyX0 tyX0_ok nmX0 hown hK hP hD hS 6 rfl rfl 6 (by decide) (va_Nw.use rfl (hZ _ nX5_f179 rfl)) (fun _ h9 => h9) rfl (by decide +kernel) rfl rfl (Nat.le_of_ble_eq_true rfl) dX5_takeThanked_66 (fun H locs hP hD hS => ?_)
    replace hP : va_P D se_cl (se_WS k h (se_u g3 6 6 0)) H := hP
    replace hD : va_D A (se_WS k h (se_u g3 6 6 0)) := hD
    exact se_rv hx hb hr hlocks hK hP hD hS dX5_takeThanked_69 (by subst eg3; rw [← hF, F_S_takeThanked_k1, if_neg c1])
