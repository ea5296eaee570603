/-! written by program (wip/gen) -/
set_option maxRecDepth 100000 in
set_option maxHeartbeats 4000000 in
theorem c_M_abort (l : Launch) (D : va_G) (k : Nat → ClassId) (h : Nat → Nat) (sz : Nat) (g : se_G)  : Met l yX6_abort (se_w_X6_abort) ({ frames := 2, cells := 0, slots := 0, locals := 42 }) (va_Pc [.ref (h 0)] (se_Pre D se_cl [(k 1, .int), (k 2, .int), (k 3, .boolean), (k 4, .int), (k 5, .int), (k 6, .int)] (se_WM k h g) se_ZN sz)) (se_Qv D se_cl [(k 1, .int), (k 2, .int), (k 3, .boolean), (k 4, .int), (k 5, .int), (k 6, .int)] (se_WM k h) (F_M_abort g) (va_A (se_WM k h g) sz)) 0 0 (va_A (se_WM k h g) sz) := by
  refine se_met (Qc := se_Qv D se_cl [(k 1, .int), (k 2, .int), (k 3, .boolean), (k 4, .int), (k 5, .int), (k 6, .int)] (se_WM k h) (F_M_abort g)) (cc := cX6_abort) (maxL := 1) (ret := none) (by decide) rfl (Nat.le_of_ble_eq_true rfl) ?_
  intro p e s m below meth c ls A hx hb hr hts hown hlocks hml hA hP hK hD hS hZ hl
  replace hl : lv_has ls 1 [(0, .ref (h 0))] := hl
  have hF : F_M_abort g = F_M_abort g := rfl
  refine lv_aload_n hx hb dX6_abort_0 rfl (lv_at hl 0 rfl) ?_
  refine lv_aload_n hx hb dX6_abort_1 rfl (lv_at hl 0 rfl) ?_
  refine va_get (D := D) (ci := 6) (v := .int (g 0 4)) (C := RX6) (T := TX6) (N := 50) hx hb hts (se_iw iwX6) hown hK hP 0 rfl rfl 4 (by decide) (hts _ (List.mem_cons_of_mem _ qX6_f118)) (fun _ h9 => h9) rfl dX6_abort_2 ?_
  refine se_join (v := ((if (g 0 4) = 0 then 1 else ((if (g 0 4) = 11 then 1 else 0) : Int32)) : Int32)) (pcJ := 22) (restJ := [.ref (h 0)]) (ls := ls) (fun T => ?_) ?_
  · refine lv_if_eq (tgt := 17) hx hb dX6_abort_5 (by decide) (fun c2 => ?_) (fun c2 => ?_)
    · refine lv_iconst (v := 1) hx hb dX6_abort_17 (by decide) ?_
      refine lv_goto (tgt := 22) hx hb dX6_abort_18 (by decide) ?_
      exact T _ (by rw [if_pos c2])
    · refine lv_aload_n hx hb dX6_abort_8 rfl (lv_at hl 0 rfl) ?_
      refine va_get (D := D) (ci := 6) (v := .int (g 0 4)) (C := RX6) (T := TX6) (N := 50) hx hb hts (se_iw iwX6) hown hK hP 0 rfl rfl 4 (by decide) (hts _ (List.mem_cons_of_mem _ qX6_f118)) (fun _ h9 => h9) rfl dX6_abort_9 ?_
      refine lv_bipush (v := 11) hx hb dX6_abort_12 (by decide) ?_
      refine lv_icmp_ne (tgt := 21) hx hb dX6_abort_14 (by decide) (fun c3 => ?_) (fun c3 => ?_)
      · refine lv_iconst (v := 0) hx hb dX6_abort_21 (by decide) ?_
        exact T _ (by rw [if_neg c2, if_neg c3])
      · refine lv_iconst (v := 1) hx hb dX6_abort_17 (by decide) ?_
        refine lv_goto (tgt := 22) hx hb dX6_abort_18 (by decide) ?_
        exact T _ (by rw [if_neg c2, if_pos c3])
  refine va_put (D := D) (ci := 6) (v := .int ((if (g 0 4) = 0 then 1 else ((if (g 0 4) = 11 then 1 else 0) : Int32)) : Int32)) (ty := .int) (C := RX6) (T := TX6) (N := 50) hx hb hts (se_iw iwX6) tyX6 tyX6_ok nmX6 hown hK hP hD hS 0 rfl rfl 2 (by decide) (hts _ (List.mem_cons_of_mem _ qX6_f45)) (fun _ h9 => h9) rfl (by decide +kernel) rfl rfl (Nat.le_of_ble_eq_true rfl) dX6_abort_22 (fun H locs hP hD hS => ?_)
  replace hP : va_P D se_cl (se_WM k h (se_u g 0 2 ((if (g 0 4) = 0 then 1 else ((if (g 0 4) = 11 then 1 else 0) : Int32)) : Int32))) H := hP
  replace hD : va_D A (se_WM k h (se_u g 0 2 ((if (g 0 4) = 0 then 1 else ((if (g 0 4) = 11 then 1 else 0) : Int32)) : Int32))) := hD
  refine lv_aload_n hx hb dX6_abort_25 rfl (lv_at hl 0 rfl) ?_
  refine va_get (D := D) (ci := 6) (v := .int ((if (g 0 4) = 0 then 1 else ((if (g 0 4) = 11 then 1 else 0) : Int32)) : Int32)) (C := RX6) (T := TX6) (N := 50) hx hb hts (se_iw iwX6) hown hK hP 0 rfl rfl 2 (by decide) (hts _ (List.mem_cons_of_mem _ qX6_f45)) (fun _ h9 => h9) rfl dX6_abort_26 ?_
  refine lv_if_le (tgt := 33) hx hb dX6_abort_29 (by decide) (fun c4 => ?_) (fun c4 => ?_)
  · refine lv_aload_n hx hb dX6_abort_33 rfl (lv_at hl 0 rfl) ?_
    refine va_get (D := D) (ci := 6) (v := .int (g 0 4)) (C := RX6) (T := TX6) (N := 50) hx hb hts (se_iw iwX6) hown hK hP 0 rfl rfl 4 (by decide) (hts _ (List.mem_cons_of_mem _ qX6_f118)) (fun _ h9 => h9) rfl dX6_abort_34 ?_
    refine lv_iconst (v := 1) hx hb dX6_abort_37 (by decide) ?_
    refine lv_icmp_eq (tgt := 85) hx hb dX6_abort_38 (by decide) (fun c5 => ?_) (fun c5 => ?_)
    · refine lv_aload_n hx hb dX6_abort_85 rfl (lv_at hl 0 rfl) ?_
      refine lv_bipush (v := 11) hx hb dX6_abort_86 (by decide) ?_
      refine se_cvE (va_runV (C := RX6) (As := [.int 11]) (rest := []) ⟨hx, hb, hml, hown, hts⟩ (c_M_becomes l D k h _ (se_u g 0 2 ((if (g 0 4) = 0 then 1 else ((if (g 0 4) = 11 then 1 else 0) : Int32)) : Int32)) 11) (se_kV 1 hts q_code_X6_becomes qX6_m147 q_ini_StreamEndModel q_instanceMethod_X6_becomes q_sel_X6_becomes (by decide +kernel) ⟨Nat.le_of_ble_eq_true rfl, Nat.le_of_ble_eq_true rfl⟩ rfl rfl) ⟨se_blind se_ZN_ok, va_recv hK hP (ci := 6) (q0 := 0) rfl rfl, se_pre se_ZN_ok hP hK hD hZ⟩ rfl rfl hl.1 rfl (lv_room (Nat.le_of_ble_eq_true rfl)) dX6_abort_88 ⟨Nat.zero_le _, Nat.zero_le _⟩) hD hS hA (fun g1 H locs eg1 hP hD hS => ?_)
      exact se_rv hx hb hr hlocks hK hP hD hS dX6_abort_91 (by subst eg1; rw [F_M_abort, if_pos c4, if_pos c5])
    · refine lv_aload_n hx hb dX6_abort_41 rfl (lv_at hl 0 rfl) ?_
      refine va_get (D := D) (ci := 6) (v := .int (g 0 4)) (C := RX6) (T := TX6) (N := 50) hx hb hts (se_iw iwX6) hown hK hP 0 rfl rfl 4 (by decide) (hts _ (List.mem_cons_of_mem _ qX6_f118)) (fun _ h9 => h9) rfl dX6_abort_42 ?_
      refine lv_iconst (v := 2) hx hb dX6_abort_45 (by decide) ?_
      refine lv_icmp_eq (tgt := 85) hx hb dX6_abort_46 (by decide) (fun c6 => ?_) (fun c6 => ?_)
      · refine lv_aload_n hx hb dX6_abort_85 rfl (lv_at hl 0 rfl) ?_
        refine lv_bipush (v := 11) hx hb dX6_abort_86 (by decide) ?_
        refine se_cvE (va_runV (C := RX6) (As := [.int 11]) (rest := []) ⟨hx, hb, hml, hown, hts⟩ (c_M_becomes l D k h _ (se_u g 0 2 ((if (g 0 4) = 0 then 1 else ((if (g 0 4) = 11 then 1 else 0) : Int32)) : Int32)) 11) (se_kV 1 hts q_code_X6_becomes qX6_m147 q_ini_StreamEndModel q_instanceMethod_X6_becomes q_sel_X6_becomes (by decide +kernel) ⟨Nat.le_of_ble_eq_true rfl, Nat.le_of_ble_eq_true rfl⟩ rfl rfl) ⟨se_blind se_ZN_ok, va_recv hK hP (ci := 6) (q0 := 0) rfl rfl, se_pre se_ZN_ok hP hK hD hZ⟩ rfl rfl hl.1 rfl (lv_room (Nat.le_of_ble_eq_true rfl)) dX6_abort_88 ⟨Nat.zero_le _, Nat.zero_le _⟩) hD hS hA (fun g2 H locs eg2 hP hD hS => ?_)
        exact se_rv hx hb hr hlocks hK hP hD hS dX6_abort_91 (by subst eg2; rw [F_M_abort, if_pos c4, if_neg c5, if_pos c6])
      · refine lv_aload_n hx hb dX6_abort_49 rfl (lv_at hl 0 rfl) ?_
        refine va_get (D := D) (ci := 6) (v := .int (g 0 4)) (C := RX6) (T := TX6) (N := 50) hx hb hts (se_iw iwX6) hown hK hP 0 rfl rfl 4 (by decide) (hts _ (List.mem_cons_of_mem _ qX6_f118)) (fun _ h9 => h9) rfl dX6_abort_50 ?_
        refine lv_bipush (v := 10) hx hb dX6_abort_53 (by decide) ?_
        refine lv_icmp_eq (tgt := 85) hx hb dX6_abort_55 (by decide) (fun c7 => ?_) (fun c7 => ?_)
        · refine lv_aload_n hx hb dX6_abort_85 rfl (lv_at hl 0 rfl) ?_
          refine lv_bipush (v := 11) hx hb dX6_abort_86 (by decide) ?_
          refine se_cvE (va_runV (C := RX6) (As := [.int 11]) (rest := []) ⟨hx, hb, hml, hown, hts⟩ (c_M_becomes l D k h _ (se_u g 0 2 ((if (g 0 4) = 0 then 1 else ((if (g 0 4) = 11 then 1 else 0) : Int32)) : Int32)) 11) (se_kV 1 hts q_code_X6_becomes qX6_m147 q_ini_StreamEndModel q_instanceMethod_X6_becomes q_sel_X6_becomes (by decide +kernel) ⟨Nat.le_of_ble_eq_true rfl, Nat.le_of_ble_eq_true rfl⟩ rfl rfl) ⟨se_blind se_ZN_ok, va_recv hK hP (ci := 6) (q0 := 0) rfl rfl, se_pre se_ZN_ok hP hK hD hZ⟩ rfl rfl hl.1 rfl (lv_room (Nat.le_of_ble_eq_true rfl)) dX6_abort_88 ⟨Nat.zero_le _, Nat.zero_le _⟩) hD hS hA (fun g3 H locs eg3 hP hD hS => ?_)
          exact se_rv hx hb hr hlocks hK hP hD hS dX6_abort_91 (by subst eg3; rw [F_M_abort, if_pos c4, if_neg c5, if_neg c6, if_pos c7])
        · refine lv_aload_n hx hb dX6_abort_58 rfl (lv_at hl 0 rfl) ?_
          refine lv_iconst (v := 1) hx hb dX6_abort_59 (by decide) ?_
          refine va_put (D := D) (ci := 6) (v := .int 1) (ty := .boolean) (C := RX6) (T := TX6) (N := 50) hx hb hts (se_iw iwX6) tyX6 tyX6_ok nmX6 hown hK hP hD hS 0 rfl rfl 25 (by decide) (hts _ (List.mem_cons_of_mem _ qX6_f150)) (fun _ h9 => h9) rfl (by decide +kernel) rfl rfl (Nat.le_of_ble_eq_true rfl) dX6_abort_60 (fun H locs hP hD hS => ?_)
          replace hP : va_P D se_cl (se_WM k h (se_u (se_u g 0 2 ((if (g 0 4) = 0 then 1 else ((if (g 0 4) = 11 then 1 else 0) : Int32)) : Int32)) 0 25 1)) H := hP
          replace hD : va_D A (se_WM k h (se_u (se_u g 0 2 ((if (g 0 4) = 0 then 1 else ((if (g 0 4) = 11 then 1 else 0) : Int32)) : Int32)) 0 25 1)) := hD
          refine lv_aload_n hx hb dX6_abort_63 rfl (lv_at hl 0 rfl) ?_
          refine lv_bipush (v := 12) hx hb dX6_abort_64 (by decide) ?_
          refine va_put (D := D) (ci := 6) (v := .int 12) (ty := .int) (C := RX6) (T := TX6) (N := 50) hx hb hts (se_iw iwX6) tyX6 tyX6_ok nmX6 hown hK hP hD hS 0 rfl rfl 26 (by decide) (hts _ (List.mem_cons_of_mem _ qX6_f153)) (fun _ h9 => h9) rfl (by decide +kernel) rfl rfl (Nat.le_of_ble_eq_true rfl) dX6_abort_66 (fun H locs hP hD hS => ?_)
          replace hP : va_P D se_cl (se_WM k h (se_u (se_u (se_u g 0 2 ((if (g 0 4) = 0 then 1 else ((if (g 0 4) = 11 then 1 else 0) : Int32)) : Int32)) 0 25 1) 0 26 12)) H := hP
          replace hD : va_D A (se_WM k h (se_u (se_u (se_u g 0 2 ((if (g 0 4) = 0 then 1 else ((if (g 0 4) = 11 then 1 else 0) : Int32)) : Int32)) 0 25 1) 0 26 12)) := hD
          refine lv_aload_n hx hb dX6_abort_69 rfl (lv_at hl 0 rfl) ?_
          refine lv_aload_n hx hb dX6_abort_70 rfl (lv_at hl 0 rfl) ?_
          refine va_get (D := D) (ci := 6) (v := .int (g 0 10)) (C := RX6) (T := TX6) (N := 50) hx hb hts (se_iw iwX6) hown hK hP 0 rfl rfl 10 (by decide) (hts _ (List.mem_cons_of_mem _ qX6_f54)) (fun _ h9 => h9) rfl dX6_abort_71 ?_
          refine va_put (D := D) (ci := 6) (v := .int (g 0 10)) (ty := .int) (C := RX6) (T := TX6) (N := 50) hx hb hts (se_iw iwX6) tyX6 tyX6_ok nmX6 hown hK hP hD hS 0 rfl rfl 27 (by decide) (hts _ (List.mem_cons_of_mem _ qX6_f156)) (fun _ h9 => h9) rfl (by decide +kernel) rfl rfl (Nat.le_of_ble_eq_true rfl) dX6_abort_74 (fun H locs hP hD hS => ?_)
          replace hP : va_P D se_cl (se_WM k h (se_u (se_u (se_u (se_u g 0 2 ((if (g 0 4) = 0 then 1 else ((if (g 0 4) = 11 then 1 else 0) : Int32)) : Int32)) 0 25 1) 0 26 12) 0 27 (g 0 10))) H := hP
          replace hD : va_D A (se_WM k h (se_u (se_u (se_u (se_u g 0 2 ((if (g 0 4) = 0 then 1 else ((if (g 0 4) = 11 then 1 else 0) : Int32)) : Int32)) 0 25 1) 0 26 12) 0 27 (g 0 10))) := hD
          refine lv_aload_n hx hb dX6_abort_77 rfl (lv_at hl 0 rfl) ?_
          refine lv_aload_n hx hb dX6_abort_78 rfl (lv_at hl 0 rfl) ?_
          refine va_get (D := D) (ci := 6) (v := .int (g 0 21)) (C := RX6) (T := TX6) (N := 50) hx hb hts (se_iw iwX6) hown hK hP 0 rfl rfl 21 (by decide) (hts _ (List.mem_cons_of_mem _ qX6_f69)) (fun _ h9 => h9) rfl dX6_abort_79 ?_
          refine va_put (D := D) (ci := 6) (v := .int (g 0 21)) (ty := .int) (C := RX6) (T := TX6) (N := 50) hx hb hts (se_iw iwX6) tyX6 tyX6_ok nmX6 hown hK hP hD hS 0 rfl rfl 28 (by decide) (hts _ (List.mem_cons_of_mem _ qX6_f159)) (fun _ h9 => h9) rfl (by decide +kernel) rfl rfl (Nat.le_of_ble_eq_true rfl) dX6_abort_82 (fun H locs hP hD hS => ?_)
          replace hP : va_P D se_cl (se_WM k h (se_u (se_u (se_u (se_u (se_u g 0 2 ((if (g 0 4) = 0 then 1 else ((if (g 0 4) = 11 then 1 else 0) : Int32)) : Int32)) 0 25 1) 0 26 12) 0 27 (g 0 10)) 0 28 (g 0 21))) H := hP
          replace hD : va_D A (se_WM k h (se_u (se_u (se_u (se_u (se_u g 0 2 ((if (g 0 4) = 0 then 1 else ((if (g 0 4) = 11 then 1 else 0) : Int32)) : Int32)) 0 25 1) 0 26 12) 0 27 (g 0 10)) 0 28 (g 0 21))) := hD
          refine lv_aload_n hx hb dX6_abort_85 rfl (lv_at hl 0 rfl) ?_
          refine lv_bipush (v := 11) hx hb dX6_abort_86 (by decide) ?_
          refine se_cvE (va_runV (C := RX6) (As := [.int 11]) (rest := []) ⟨hx, hb, hml, hown, hts⟩ (c_M_becomes l D k h _ (se_u (se_u (se_u (se_u (se_u g 0 2 ((if (g 0 4) = 0 then 1 else ((if (g 0 4) = 11 then 1 else 0) : Int32)) : Int32)) 0 25 1) 0 26 12) 0 27 (g 0 10)) 0 28 (g 0 21)) 11) (se_kV 1 hts q_code_X6_becomes qX6_m147 q_ini_StreamEndModel q_instanceMethod_X6_becomes q_sel_X6_becomes (by decide +kernel) ⟨Nat.le_of_ble_eq_true rfl, Nat.le_of_ble_eq_true rfl⟩ rfl rfl) ⟨se_blind se_ZN_ok, va_recv hK hP (ci := 6) (q0 := 0) rfl rfl, se_pre se_ZN_ok hP hK hD hZ⟩ rfl rfl hl.1 rfl (lv_room (Nat.le_of_ble_eq_true rfl)) dX6_abort_88 ⟨Nat.zero_le _, Nat.zero_le _⟩) hD hS hA (fun g4 H locs eg4 hP hD hS => ?_)
          exact se_rv hx hb hr hlocks hK hP hD hS dX6_abort_91 (by subst eg4; rw [F_M_abort, if_pos c4, if_neg c5, if_neg c6, if_neg c7])
  · exact se_rv hx hb hr hlocks hK hP hD hS dX6_abort_32 (by rw [F_M_abort, if_neg c4])
set_option maxRecDepth 100000 in
set_option maxHeartbeats 4000000 in
theorem c_M_ring (l : Launch) (D : va_G) (k : Nat → ClassId) (h : Nat → Nat) (sz : Nat) (g : se_G)  : Met l yX6_ring (se_w_X6_ring) ({ frames := 2, cells := 0, slots := 0, locals := 42 }) (va_Pc [.ref (h 0)] (se_Pre D se_cl [(k 1, .int), (k 2, .int), (k 3, .boolean), (k 4, .int), (k 5, .int), (k 6, .int)] (se_WM k h g) se_ZN sz)) (se_Qv D se_cl [(k 1, .int), (k 2, .int), (k 3, .boolean), (k 4, .int), (k 5, .int), (k 6, .int)] (se_WM k h) (F_M_ring g) (va_A (se_WM k h g) sz)) 0 0 (va_A (se_WM k h g) sz) := by
  refine se_met (Qc := se_Qv D se_cl [(k 1, .int), (k 2, .int), (k 3, .boolean), (k 4, .int), (k 5, .int), (k 6, .int)] (se_WM k h) (F_M_ring g)) (cc := cX6_ring) (maxL := 1) (ret := none) (by decide) rfl (Nat.le_of_ble_eq_true rfl) ?_
  intro p e s m below meth c ls A hx hb hr hts hown hlocks hml hA hP hK hD hS hZ hl
  replace hl : lv_has ls 1 [(0, .ref (h 0))] := hl
  have J80 : ∀ (gj80 : se_G) (H : Heap) (locs : List Loc) (ls : Array Slot), F_M_ring_j80 gj80 = F_M_ring g → va_P D se_cl (se_WM k h gj80) H → va_D A (se_WM k h gj80) → va_S A s.heap H locs → lv_has ls 1 [(0, .ref (h 0))] → W p l e ({ frames := 2, cells := 0, slots := 0, locals := 42 }) s m [.ref (h 0)].toArray below meth c H locs 0 0 (MQ below (se_Qv D se_cl [(k 1, .int), (k 2, .int), (k 3, .boolean), (k 4, .int), (k 5, .int), (k 6, .int)] (se_WM k h) (F_M_ring g) A) [.ref (h 0)].toArray s 0 0 A) (F0 m 80 ls []) := by
    intro gj80 H locs ls hF hP hD hS hl
    refine lv_aload_n hx hb dX6_ring_80 rfl (lv_at hl 0 rfl) ?_
    refine lv_aload_n hx hb dX6_ring_81 rfl (lv_at hl 0 rfl) ?_
    refine va_get (D := D) (ci := 6) (v := .int (gj80 0 35)) (C := RX6) (T := TX6) (N := 50) hx hb hts (se_iw iwX6) hown hK hP 0 rfl rfl 35 (by decide) (hts _ (List.mem_cons_of_mem _ qX6_f24)) (fun _ h9 => h9) rfl dX6_ring_82 ?_
    refine lv_iconst (v := 2) hx hb dX6_ring_85 (by decide) ?_
    refine lv_imul hx hb dX6_ring_86 ?_
    refine lv_sipush (v := 1200) hx hb dX6_ring_87 (by decide) ?_
    refine se_join (v := ((if ((gj80 0 35) * 2) ≤ 1200 then ((gj80 0 35) * 2) else 1200) : Int32)) (pcJ := 105) (restJ := [.ref (h 0)]) (ls := ls) (fun T => ?_) ?_
    · refine lv_icmp_le (tgt := 99) hx hb dX6_ring_90 (by decide) (fun c5 => ?_) (fun c5 => ?_)
      · refine lv_aload_n hx hb dX6_ring_99 rfl (lv_at hl 0 rfl) ?_
        refine va_get (D := D) (ci := 6) (v := .int (gj80 0 35)) (C := RX6) (T := TX6) (N := 50) hx hb hts (se_iw iwX6) hown hK hP 0 rfl rfl 35 (by decide) (hts _ (List.mem_cons_of_mem _ qX6_f24)) (fun _ h9 => h9) rfl dX6_ring_100 ?_
        refine lv_iconst (v := 2) hx hb dX6_ring_103 (by decide) ?_
        refine lv_imul hx hb dX6_ring_104 ?_
        exact T _ (by rw [if_pos c5])
      · refine lv_sipush (v := 1200) hx hb dX6_ring_93 (by decide) ?_
        refine lv_goto (tgt := 105) hx hb dX6_ring_96 (by decide) ?_
        exact T _ (by rw [if_neg c5])
    refine va_put (D := D) (ci := 6) (v := .int ((if ((gj80 0 35) * 2) ≤ 1200 then ((gj80 0 35) * 2) else 1200) : Int32)) (ty := .int) (C := RX6) (T := TX6) (N := 50) hx hb hts (se_iw iwX6) tyX6 tyX6_ok nmX6 hown hK hP hD hS 0 rfl rfl 35 (by decide) (hts _ (List.mem_cons_of_mem _ qX6_f24)) (fun _ h9 => h9) rfl (by decide +kernel) rfl rfl (Nat.le_of_ble_eq_true rfl) dX6_ring_105 (fun H locs hP hD hS => ?_)
    replace hP : va_P D se_cl (se_WM k h (se_u gj80 0 35 ((if ((gj80 0 35) * 2) ≤ 1200 then ((gj80 0 35) * 2) else 1200) : Int32))) H := hP
    replace hD : va_D A (se_WM k h (se_u gj80 0 35 ((if ((gj80 0 35) * 2) ≤ 1200 then ((gj80 0 35) * 2) else 1200) : Int32))) := hD
    refine lv_aload_n hx hb dX6_ring_108 rfl (lv_at hl 0 rfl) ?_
    refine lv_aload_n hx hb dX6_ring_109 rfl (lv_at hl 0 rfl) ?_
    refine va_get (D := D) (ci := 6) (v := .int (gj80 0 3)) (C := RX6) (T := TX6) (N := 50) hx hb hts (se_iw iwX6) hown hK hP 0 rfl rfl 3 (by decide) (hts _ (List.mem_cons_of_mem _ qX6_f121)) (fun _ h9 => h9) rfl dX6_ring_110 ?_
    refine lv_aload_n hx hb dX6_ring_113 rfl (lv_at hl 0 rfl) ?_
    refine va_get (D := D) (ci := 6) (v := .int ((if ((gj80 0 35) * 2) ≤ 1200 then ((gj80 0 35) * 2) else 1200) : Int32)) (C := RX6) (T := TX6) (N := 50) hx hb hts (se_iw iwX6) hown hK hP 0 rfl rfl 35 (by decide) (hts _ (List.mem_cons_of_mem _ qX6_f24)) (fun _ h9 => h9) rfl dX6_ring_114 ?_
    refine lv_iadd hx hb dX6_ring_117 ?_
    refine va_put (D := D) (ci := 6) (v := .int ((gj80 0 3) + ((if ((gj80 0 35) * 2) ≤ 1200 then ((gj80 0 35) * 2) else 1200) : Int32))) (ty := .int) (C := RX6) (T := TX6) (N := 50) hx hb hts (se_iw iwX6) tyX6 tyX6_ok nmX6 hown hK hP hD hS 0 rfl rfl 34 (by decide) (hts _ (List.mem_cons_of_mem _ qX6_f20)) (fun _ h9 => h9) rfl (by decide +kernel) rfl rfl (Nat.le_of_ble_eq_true rfl) dX6_ring_118 (fun H locs hP hD hS => ?_)
    replace hP : va_P D se_cl (se_WM k h (se_u (se_u gj80 0 35 ((if ((gj80 0 35) * 2) ≤ 1200 then ((gj80 0 35) * 2) else 1200) : Int32)) 0 34 ((gj80 0 3) + ((if ((gj80 0 35) * 2) ≤ 1200 then ((gj80 0 35) * 2) else 1200) : Int32)))) H := hP
    replace hD : va_D A (se_WM k h (se_u (se_u gj80 0 35 ((if ((gj80 0 35) * 2) ≤ 1200 then ((gj80 0 35) * 2) else 1200) : Int32)) 0 34 ((gj80 0 3) + ((if ((gj80 0 35) * 2) ≤ 1200 then ((gj80 0 35) * 2) else 1200) : Int32)))) := hD
    exact se_rv hx hb hr hlocks hK hP hD hS dX6_ring_121 (by rw [← hF, F_M_ring_j80])
  have J56 : ∀ (gj56 : se_G) (H : Heap) (locs : List Loc) (ls : Array Slot), F_M_ring_j56 gj56 = F_M_ring g → va_P D se_cl (se_WM k h gj56) H → va_D A (se_WM k h gj56) → va_S A s.heap H locs → lv_has ls 1 [(0, .ref (h 0))] → W p l e ({ frames := 2, cells := 0, slots := 0, locals := 42 }) s m [.ref (h 0)].toArray below meth c H locs 0 0 (MQ below (se_Qv D se_cl [(k 1, .int), (k 2, .int), (k 3, .boolean), (k 4, .int), (k 5, .int), (k 6, .int)] (se_WM k h) (F_M_ring g) A) [.ref (h 0)].toArray s 0 0 A) (F0 m 56 ls []) := by
    intro gj56 H locs ls hF hP hD hS hl
    refine lv_aload_n hx hb dX6_ring_56 rfl (lv_at hl 0 rfl) ?_
    refine va_get (D := D) (ci := 6) (v := .int (gj56 0 9)) (C := RX6) (T := TX6) (N := 50) hx hb hts (se_iw iwX6) hown hK hP 0 rfl rfl 9 (by decide) (hts _ (List.mem_cons_of_mem _ qX6_f51)) (fun _ h9 => h9) rfl dX6_ring_57 ?_
    refine lv_aload_n hx hb dX6_ring_60 rfl (lv_at hl 0 rfl) ?_
    refine va_get (D := D) (ci := 6) (v := .int (gj56 0 10)) (C := RX6) (T := TX6) (N := 50) hx hb hts (se_iw iwX6) hown hK hP 0 rfl rfl 10 (by decide) (hts _ (List.mem_cons_of_mem _ qX6_f54)) (fun _ h9 => h9) rfl dX6_ring_61 ?_
    refine lv_icmp_eq (tgt := 75) hx hb dX6_ring_64 (by decide) (fun c3 => ?_) (fun c3 => ?_)
    · refine lv_aload_n hx hb dX6_ring_75 rfl (lv_at hl 0 rfl) ?_
      refine lv_iconst (v := 1) hx hb dX6_ring_76 (by decide) ?_
      refine va_put (D := D) (ci := 6) (v := .int 1) (ty := .boolean) (C := RX6) (T := TX6) (N := 50) hx hb hts (se_iw iwX6) tyX6 tyX6_ok nmX6 hown hK hP hD hS 0 rfl rfl 32 (by decide) (hts _ (List.mem_cons_of_mem _ qX6_f109)) (fun _ h9 => h9) rfl (by decide +kernel) rfl rfl (Nat.le_of_ble_eq_true rfl) dX6_ring_77 (fun H locs hP hD hS => ?_)
      replace hP : va_P D se_cl (se_WM k h (se_u gj56 0 32 1)) H := hP
      replace hD : va_D A (se_WM k h (se_u gj56 0 32 1)) := hD
      exact J80 (se_u gj56 0 32 1) _ _ ls (by rw [← hF, F_M_ring_j56, if_pos c3]) hP hD hS (lv_sub hl [0] rfl)
    · refine lv_aload_n hx hb dX6_ring_67 rfl (lv_at hl 0 rfl) ?_
      refine lv_iconst (v := 1) hx hb dX6_ring_68 (by decide) ?_
      refine va_put (D := D) (ci := 6) (v := .int 1) (ty := .boolean) (C := RX6) (T := TX6) (N := 50) hx hb hts (se_iw iwX6) tyX6 tyX6_ok nmX6 hown hK hP hD hS 0 rfl rfl 31 (by decide) (hts _ (List.mem_cons_of_mem _ qX6_f106)) (fun _ h9 => h9) rfl (by decide +kernel) rfl rfl (Nat.le_of_ble_eq_true rfl) dX6_ring_69 (fun H locs hP hD hS => ?_)
      replace hP : va_P D se_cl (se_WM k h (se_u gj56 0 31 1)) H := hP
      replace hD : va_D A (se_WM k h (se_u gj56 0 31 1)) := hD
      refine lv_goto (tgt := 80) hx hb dX6_ring_72 (by decide) ?_
      exact J80 (se_u gj56 0 31 1) _ _ ls (by rw [← hF, F_M_ring_j56, if_neg c3]) hP hD hS (lv_sub hl [0] rfl)
  have hF : F_M_ring g = F_M_ring g := rfl
  refine lv_aload_n hx hb dX6_ring_0 rfl (lv_at hl 0 rfl) ?_
  refine lv_dup hx hb dX6_ring_1 rfl ?_
  refine va_get (D := D) (ci := 6) (v := .int (g 0 36)) (C := RX6) (T := TX6) (N := 50) hx hb hts (se_iw iwX6) hown hK hP 0 rfl rfl 36 (by decide) (hts _ (List.mem_cons_of_mem _ qX6_f88)) (fun _ h9 => h9) rfl dX6_ring_2 ?_
  refine lv_iconst (v := 1) hx hb dX6_ring_5 (by decide) ?_
  refine lv_iadd hx hb dX6_ring_6 ?_
  refine va_put (D := D) (ci := 6) (v := .int ((g 0 36) + 1)) (ty := .int) (C := RX6) (T := TX6) (N := 50) hx hb hts (se_iw iwX6) tyX6 tyX6_ok nmX6 hown hK hP hD hS 0 rfl rfl 36 (by decide) (hts _ (List.mem_cons_of_mem _ qX6_f88)) (fun _ h9 => h9) rfl (by decide +kernel) rfl rfl (Nat.le_of_ble_eq_true rfl) dX6_ring_7 (fun H locs hP hD hS => ?_)
  replace hP : va_P D se_cl (se_WM k h (se_u g 0 36 ((g 0 36) + 1))) H := hP
  replace hD : va_D A (se_WM k h (se_u g 0 36 ((g 0 36) + 1))) := hD
  refine lv_aload_n hx hb dX6_ring_10 rfl (lv_at hl 0 rfl) ?_
  refine va_get (D := D) (ci := 6) (v := .int ((g 0 36) + 1)) (C := RX6) (T := TX6) (N := 50) hx hb hts (se_iw iwX6) hown hK hP 0 rfl rfl 36 (by decide) (hts _ (List.mem_cons_of_mem _ qX6_f88)) (fun _ h9 => h9) rfl dX6_ring_11 ?_
  refine lv_bipush (v := 8) hx hb dX6_ring_14 (by decide) ?_
  refine lv_icmp_le (tgt := 26) hx hb dX6_ring_16 (by decide) (fun c1 => ?_) (fun c1 => ?_)
  · refine lv_aload_n hx hb dX6_ring_26 rfl (lv_at hl 0 rfl) ?_
    refine va_get (D := D) (ci := 6) (v := .int (g 0 9)) (C := RX6) (T := TX6) (N := 50) hx hb hts (se_iw iwX6) hown hK hP 0 rfl rfl 9 (by decide) (hts _ (List.mem_cons_of_mem _ qX6_f51)) (fun _ h9 => h9) rfl dX6_ring_27 ?_
    refine lv_aload_n hx hb dX6_ring_30 rfl (lv_at hl 0 rfl) ?_
    refine va_get (D := D) (ci := 6) (v := .int (g 0 8)) (C := RX6) (T := TX6) (N := 50) hx hb hts (se_iw iwX6) hown hK hP 0 rfl rfl 8 (by decide) (hts _ (List.mem_cons_of_mem _ qX6_f48)) (fun _ h9 => h9) rfl dX6_ring_31 ?_
    refine lv_icmp_ne (tgt := 56) hx hb dX6_ring_34 (by decide) (fun c2 => ?_) (fun c2 => ?_)
    · exact J56 (se_u g 0 36 ((g 0 36) + 1)) _ _ ls (by rw [F_M_ring, if_pos c1, if_neg c2]) hP hD hS (lv_sub hl [0] rfl)
    · refine lv_aload_n hx hb dX6_ring_37 rfl (lv_at hl 0 rfl) ?_
      refine va_get (D := D) (ci := 6) (v := .int (g 0 10)) (C := RX6) (T := TX6) (N := 50) hx hb hts (se_iw iwX6) hown hK hP 0 rfl rfl 10 (by decide) (hts _ (List.mem_cons_of_mem _ qX6_f54)) (fun _ h9 => h9) rfl dX6_ring_38 ?_
      refine lv_aload_n hx hb dX6_ring_41 rfl (lv_at hl 0 rfl) ?_
      refine va_get (D := D) (ci := 6) (v := .int (g 0 8)) (C := RX6) (T := TX6) (N := 50) hx hb hts (se_iw iwX6) hown hK hP 0 rfl rfl 8 (by decide) (hts _ (List.mem_cons_of_mem _ qX6_f48)) (fun _ h9 => h9) rfl dX6_ring_42 ?_
      refine lv_icmp_eq (tgt := 56) hx hb dX6_ring_45 (by decide) (fun c6 => ?_) (fun c6 => ?_)
      · exact J56 (se_u g 0 36 ((g 0 36) + 1)) _ _ ls (by rw [F_M_ring, if_pos c1, if_pos c2, if_pos c6]) hP hD hS (lv_sub hl [0] rfl)
      · refine lv_aload_n hx hb dX6_ring_48 rfl (lv_at hl 0 rfl) ?_
        refine lv_iconst (v := 1) hx hb dX6_ring_49 (by decide) ?_
        refine va_put (D := D) (ci := 6) (v := .int 1) (ty := .boolean) (C := RX6) (T := TX6) (N := 50) hx hb hts (se_iw iwX6) tyX6 tyX6_ok nmX6 hown hK hP hD hS 0 rfl rfl 29 (by decide) (hts _ (List.mem_cons_of_mem _ qX6_f103)) (fun _ h9 => h9) rfl (by decide +kernel) rfl rfl (Nat.le_of_ble_eq_true rfl) dX6_ring_50 (fun H locs hP hD hS => ?_)
        replace hP : va_P D se_cl (se_WM k h (se_u (se_u g 0 36 ((g 0 36) + 1)) 0 29 1)) H := hP
        replace hD : va_D A (se_WM k h (se_u (se_u g 0 36 ((g 0 36) + 1)) 0 29 1)) := hD
        refine lv_goto (tgt := 80) hx hb dX6_ring_53 (by decide) ?_
        exact J80 (se_u (se_u g 0 36 ((g 0 36) + 1)) 0 29 1) _ _ ls (by rw [F_M_ring, if_pos c1, if_pos c2, if_neg c6]) hP hD hS (lv_sub hl [0] rfl)
  · refine lv_aload_n hx hb dX6_ring_19 rfl (lv_at hl 0 rfl) ?_
    refine lv_bipush (v := 11) hx hb dX6_ring_20 (by decide) ?_
    refine se_cvE (va_runV (C := RX6) (As := [.int 11]) (rest := []) ⟨hx, hb, hml, hown, hts⟩ (c_M_becomes l D k h _ (se_u g 0 36 ((g 0 36) + 1)) 11) (se_kV 1 hts q_code_X6_becomes qX6_m147 q_ini_StreamEndModel q_instanceMethod_X6_becomes q_sel_X6_becomes (by decide +kernel) ⟨Nat.le_of_ble_eq_true rfl, Nat.le_of_ble_eq_true rfl⟩ rfl rfl) ⟨se_blind se_ZN_ok, va_recv hK hP (ci := 6) (q0 := 0) rfl rfl, se_pre se_ZN_ok hP hK hD hZ⟩ rfl rfl hl.1 rfl (lv_room (Nat.le_of_ble_eq_true rfl)) dX6_ring_22 ⟨Nat.zero_le _, Nat.zero_le _⟩) hD hS hA (fun g1 H locs eg1 hP hD hS => ?_)
    exact se_rv hx hb hr hlocks hK hP hD hS dX6_ring_25 (by subst eg1; rw [F_M_ring, if_neg c1])
set_option maxRecDepth 100000 in
set_option maxHeartbeats 4000000 in
theorem c_M_run (l : Launch) (D : va_G) (k : Nat → ClassId) (h : Nat → Nat) (sz : Nat) (g : se_G) (p1 : Int32) : Met l yX6_run (se_w_X6_run) ({ frames := 3, cells := 0, slots := 0, locals := 62 }) (va_Pc [.ref (h 0), .int p1] (se_Pre D se_cl [(k 1, .int), (k 2, .int), (k 3, .boolean), (k 4, .int), (k 5, .int), (k 6, .int)] (se_WM k h g) se_ZN sz)) (se_Qi D se_cl [(k 1, .int), (k 2, .int), (k 3, .boolean), (k 4, .int), (k 5, .int), (k 6, .int)] (se_WM k h) (F_M_run g p1) (va_A (se_WM k h g) sz)) 0 0 (va_A (se_WM k h g) sz) := by
  refine se_met (Qc := se_Qi D se_cl [(k 1, .int), (k 2, .int), (k 3, .boolean), (k 4, .int), (k 5, .int), (k 6, .int)] (se_WM k h) (F_M_run g p1)) (cc := cX6_run) (maxL := 3) (ret := (some .int)) (by decide) rfl (Nat.le_of_ble_eq_true rfl) ?_
  intro p e s m below meth c ls A hx hb hr hts hown hlocks hml hA hP hK hD hS hZ hl
  replace hl : lv_has ls 3 [(0, .ref (h 0)), (1, .int p1)] := hl
  have L47 : ∀ (n : Nat) (gj47 : se_G) (v1_47 : Int32) (v2_47 : Int32) (H : Heap) (locs : List Loc) (ls : Array Slot), ((v1_47).toInt - (v2_47).toInt).toNat < n → F_M_run_j47 n gj47 v1_47 v2_47 = F_M_run g p1 → va_P D se_cl (se_WM k h gj47) H → va_D A (se_WM k h gj47) → va_S A s.heap H locs → lv_has ls 3 [(0, .ref (h 0)), (1, .int v1_47), (2, .int v2_47)] → W p l e ({ frames := 3, cells := 0, slots := 0, locals := 62 }) s m [.ref (h 0), .int p1].toArray below meth c H locs 0 0 (MQ below (se_Qi D se_cl [(k 1, .int), (k 2, .int), (k 3, .boolean), (k 4, .int), (k 5, .int), (k 6, .int)] (se_WM k h) (F_M_run g p1) A) [.ref (h 0), .int p1].toArray s 0 0 A) (F0 m 47 ls []) := by
    intro n
    induction n with
    | zero => intro gj47 v1_47 v2_47 H locs ls hM; exact absurd hM (Nat.not_lt_zero _)
    | succ n ih =>
      intro gj47 v1_47 v2_47 H locs ls hM hF hP hD hS hl
      refine lv_iload_n hx hb dX6_run_47 rfl (lv_at hl 2 rfl) ?_
      refine lv_iload_n hx hb dX6_run_48 rfl (lv_at hl 1 rfl) ?_
      refine lv_icmp_ge (tgt := 112) hx hb dX6_run_49 (by decide) (fun c7 => ?_) (fun c7 => ?_)
      · refine lv_aload_n hx hb dX6_run_112 rfl (lv_at hl 0 rfl) ?_
        refine va_get (D := D) (ci := 6) (v := .int (gj47 0 3)) (C := RX6) (T := TX6) (N := 50) hx hb hts (se_iw iwX6) hown hK hP 0 rfl rfl 3 (by decide) (hts _ (List.mem_cons_of_mem _ qX6_f121)) (fun _ h9 => h9) rfl dX6_run_113 ?_
        exact se_ri hx hb hr  hlocks hK hP hD hS dX6_run_116 (by rw [← hF, F_M_run_j47, if_pos c7])
      · refine lv_aload_n hx hb dX6_run_52 rfl (lv_at hl 0 rfl) ?_
        refine lv_dup hx hb dX6_run_53 rfl ?_
        refine va_get (D := D) (ci := 6) (v := .int (gj47 0 3)) (C := RX6) (T := TX6) (N := 50) hx hb hts (se_iw iwX6) hown hK hP 0 rfl rfl 3 (by decide) (hts _ (List.mem_cons_of_mem _ qX6_f121)) (fun _ h9 => h9) rfl dX6_run_54 ?_
        refine lv_iconst (v := 1) hx hb dX6_run_57 (by decide) ?_
        refine lv_iadd hx hb dX6_run_58 ?_
        refine va_put (D := D) (ci := 6) (v := .int ((gj47 0 3) + 1)) (ty := .int) (C := RX6) (T := TX6) (N := 50) hx hb hts (se_iw iwX6) tyX6 tyX6_ok nmX6 hown hK hP hD hS 0 rfl rfl 3 (by decide) (hts _ (List.mem_cons_of_mem _ qX6_f121)) (fun _ h9 => h9) rfl (by decide +kernel) rfl rfl (Nat.le_of_ble_eq_true rfl) dX6_run_59 (fun H locs hP hD hS => ?_)
        replace hP : va_P D se_cl (se_WM k h (se_u gj47 0 3 ((gj47 0 3) + 1))) H := hP
        replace hD : va_D A (se_WM k h (se_u gj47 0 3 ((gj47 0 3) + 1))) := hD
        refine lv_aload_n hx hb dX6_run_62 rfl (lv_at hl 0 rfl) ?_
        refine va_get (D := D) (ci := 6) (v := .int (gj47 0 4)) (C := RX6) (T := TX6) (N := 50) hx hb hts (se_iw iwX6) hown hK hP 0 rfl rfl 4 (by decide) (hts _ (List.mem_cons_of_mem _ qX6_f118)) (fun _ h9 => h9) rfl dX6_run_63 ?_
        refine lv_bipush (v := 10) hx hb dX6_run_66 (by decide) ?_
        refine lv_icmp_ne (tgt := 87) hx hb dX6_run_68 (by decide) (fun c8 => ?_) (fun c8 => ?_)
        · refine lv_aload_n hx hb dX6_run_87 rfl (lv_at hl 0 rfl) ?_
          refine va_get (D := D) (ci := 6) (v := .int (gj47 0 34)) (C := RX6) (T := TX6) (N := 50) hx hb hts (se_iw iwX6) hown hK hP 0 rfl rfl 34 (by decide) (hts _ (List.mem_cons_of_mem _ qX6_f20)) (fun _ h9 => h9) rfl dX6_run_88 ?_
          refine lv_aload_n hx hb dX6_run_91 rfl (lv_at hl 0 rfl) ?_
          refine va_get (D := D) (ci := 6) (v := .int ((gj47 0 3) + 1)) (C := RX6) (T := TX6) (N := 50) hx hb hts (se_iw iwX6) hown hK hP 0 rfl rfl 3 (by decide) (hts _ (List.mem_cons_of_mem _ qX6_f121)) (fun _ h9 => h9) rfl dX6_run_92 ?_
          refine lv_icmp_ne (tgt := 102) hx hb dX6_run_95 (by decide) (fun c9 => ?_) (fun c9 => ?_)
          · refine lv_aload_n hx hb dX6_run_102 rfl (lv_at hl 0 rfl) ?_
            refine se_cvE (va_runV (C := RX6) (As := []) (rest := []) ⟨hx, hb, hml, hown, hts⟩ (c_M_watch l D k h _ (se_u gj47 0 3 ((gj47 0 3) + 1))) (se_kV 0 hts q_code_X6_watch qX6_m136 q_ini_StreamEndModel q_instanceMethod_X6_watch q_sel_X6_watch (by decide +kernel) ⟨Nat.le_of_ble_eq_true rfl, Nat.le_of_ble_eq_true rfl⟩ rfl rfl) ⟨se_blind se_ZN_ok, va_recv hK hP (ci := 6) (q0 := 0) rfl rfl, se_pre se_ZN_ok hP hK hD hZ⟩ rfl rfl hl.1 rfl (lv_room (Nat.le_of_ble_eq_true rfl)) dX6_run_103 ⟨Nat.zero_le _, Nat.zero_le _⟩) hD hS hA (fun g1 H locs eg1 hP hD hS => ?_)
            refine lv_iinc (v := (v2_47 + 1)) (lv' := [(2, .int (v2_47 + 1)), (0, .ref (h 0)), (1, .int v1_47)]) hx hb dX6_run_106 hl (k := 2) rfl rfl (by decide) rfl (fun ls hl => ?_)
            refine lv_goto (tgt := 47) hx hb dX6_run_109 (by decide) ?_
            exact ih g1 v1_47 (v2_47 + 1) _ _ ls (se_dec c7 hM) (by subst eg1; rw [← hF, F_M_run_j47, if_neg c7, if_neg c8, if_neg c9]) hP hD hS (lv_sub hl [1, 2, 0] rfl)
          · refine lv_aload_n hx hb dX6_run_98 rfl (lv_at hl 0 rfl) ?_
            refine se_cvE (va_runV (C := RX6) (As := []) (rest := []) ⟨hx, hb, hml, hown, hts⟩ (c_M_ring l D k h _ (se_u gj47 0 3 ((gj47 0 3) + 1))) (se_kV 0 hts q_code_X6_ring qX6_m172 q_ini_StreamEndModel q_instanceMethod_X6_ring q_sel_X6_ring (by decide +kernel) ⟨Nat.le_of_ble_eq_true rfl, Nat.le_of_ble_eq_true rfl⟩ rfl rfl) ⟨se_blind se_ZN_ok, va_recv hK hP (ci := 6) (q0 := 0) rfl rfl, se_pre se_ZN_ok hP hK hD hZ⟩ rfl rfl hl.1 rfl (lv_room (Nat.le_of_ble_eq_true rfl)) dX6_run_99 ⟨Nat.zero_le _, Nat.zero_le _⟩) hD hS hA (fun g2 H locs eg2 hP hD hS => ?_)
            refine lv_aload_n hx hb dX6_run_102 rfl (lv_at hl 0 rfl) ?_
            refine se_cvE (va_runV (C := RX6) (As := []) (rest := []) ⟨hx, hb, hml, hown, hts⟩ (c_M_watch l D k h _ g2) (se_kV 0 hts q_code_X6_watch qX6_m136 q_ini_StreamEndModel q_instanceMethod_X6_watch q_sel_X6_watch (by decide +kernel) ⟨Nat.le_of_ble_eq_true rfl, Nat.le_of_ble_eq_true rfl⟩ rfl rfl) ⟨se_blind se_ZN_ok, va_recv hK hP (ci := 6) (q0 := 0) rfl rfl, se_pre se_ZN_ok hP hK hD hZ⟩ rfl rfl hl.1 rfl (lv_room (Nat.le_of_ble_eq_true rfl)) dX6_run_103 ⟨Nat.zero_le _, Nat.zero_le _⟩) hD hS hA (fun g3 H locs eg3 hP hD hS => ?_)
            refine lv_iinc (v := (v2_47 + 1)) (lv' := [(2, .int (v2_47 + 1)), (0, .ref (h 0)), (1, .int v1_47)]) hx hb dX6_run_106 hl (k := 2) rfl rfl (by decide) rfl (fun ls hl => ?_)
            refine lv_goto (tgt := 47) hx hb dX6_run_109 (by decide) ?_
            exact ih g3 v1_47 (v2_47 + 1) _ _ ls (se_dec c7 hM) (by subst eg2; subst eg3; rw [← hF, F_M_run_j47, if_neg c7, if_neg c8, if_pos c9]) hP hD hS (lv_sub hl [1, 2, 0] rfl)
        · refine lv_aload_n hx hb dX6_run_71 rfl (lv_at hl 0 rfl) ?_
          refine va_get (D := D) (ci := 6) (v := .int ((gj47 0 3) + 1)) (C := RX6) (T := TX6) (N := 50) hx hb hts (se_iw iwX6) hown hK hP 0 rfl rfl 3 (by decide) (hts _ (List.mem_cons_of_mem _ qX6_f121)) (fun _ h9 => h9) rfl dX6_run_72 ?_
          refine lv_aload_n hx hb dX6_run_75 rfl (lv_at hl 0 rfl) ?_
          refine va_get (D := D) (ci := 6) (v := .int (gj47 0 43)) (C := RX6) (T := TX6) (N := 50) hx hb hts (se_iw iwX6) hown hK hP 0 rfl rfl 43 (by decide) (hts _ (List.mem_cons_of_mem _ qX6_f124)) (fun _ h9 => h9) rfl dX6_run_76 ?_
          refine lv_icmp_ne (tgt := 87) hx hb dX6_run_79 (by decide) (fun c10 => ?_) (fun c10 => ?_)
          · refine lv_aload_n hx hb dX6_run_87 rfl (lv_at hl 0 rfl) ?_
            refine va_get (D := D) (ci := 6) (v := .int (gj47 0 34)) (C := RX6) (T := TX6) (N := 50) hx hb hts (se_iw iwX6) hown hK hP 0 rfl rfl 34 (by decide) (hts _ (List.mem_cons_of_mem _ qX6_f20)) (fun _ h9 => h9) rfl dX6_run_88 ?_
            refine lv_aload_n hx hb dX6_run_91 rfl (lv_at hl 0 rfl) ?_
            refine va_get (D := D) (ci := 6) (v := .int ((gj47 0 3) + 1)) (C := RX6) (T := TX6) (N := 50) hx hb hts (se_iw iwX6) hown hK hP 0 rfl rfl 3 (by decide) (hts _ (List.mem_cons_of_mem _ qX6_f121)) (fun _ h9 => h9) rfl dX6_run_92 ?_
            refine lv_icmp_ne (tgt := 102) hx hb dX6_run_95 (by decide) (fun c11 => ?_) (fun c11 => ?_)
            · refine lv_aload_n hx hb dX6_run_102 rfl (lv_at hl 0 rfl) ?_
              refine se_cvE (va_runV (C := RX6) (As := []) (rest := []) ⟨hx, hb, hml, hown, hts⟩ (c_M_watch l D k h _ (se_u gj47 0 3 ((gj47 0 3) + 1))) (se_kV 0 hts q_code_X6_watch qX6_m136 q_ini_StreamEndModel q_instanceMethod_X6_watch q_sel_X6_watch (by decide +kernel) ⟨Nat.le_of_ble_eq_true rfl, Nat.le_of_ble_eq_true rfl⟩ rfl rfl) ⟨se_blind se_ZN_ok, va_recv hK hP (ci := 6) (q0 := 0) rfl rfl, se_pre se_ZN_ok hP hK hD hZ⟩ rfl rfl hl.1 rfl (lv_room (Nat.le_of_ble_eq_true rfl)) dX6_run_103 ⟨Nat.zero_le _, Nat.zero_le _⟩) hD hS hA (fun g4 H locs eg4 hP hD hS => ?_)
              refine lv_iinc (v := (v2_47 + 1)) (lv' := [(2, .int (v2_47 + 1)), (0, .ref (h 0)), (1, .int v1_47)]) hx hb dX6_run_106 hl (k := 2) rfl rfl (by decide) rfl (fun ls hl => ?_)
              refine lv_goto (tgt := 47) hx hb dX6_run_109 (by decide) ?_
              exact ih g4 v1_47 (v2_47 + 1) _ _ ls (se_dec c7 hM) (by subst eg4; rw [← hF, F_M_run_j47, if_neg c7, if_pos c8, if_neg c10, if_neg c11]) hP hD hS (lv_sub hl [1, 2, 0] rfl)
            · refine lv_aload_n hx hb dX6_run_98 rfl (lv_at hl 0 rfl) ?_
              refine se_cvE (va_runV (C := RX6) (As := []) (rest := []) ⟨hx, hb, hml, hown, hts⟩ (c_M_ring l D k h _ (se_u gj47 0 3 ((gj47 0 3) + 1))) (se_kV 0 hts q_code_X6_ring qX6_m172 q_ini_StreamEndModel q_instanceMethod_X6_ring q_sel_X6_ring (by decide +kernel) ⟨Nat.le_of_ble_eq_true rfl, Nat.le_of_ble_eq_true rfl⟩ rfl rfl) ⟨se_blind se_ZN_ok, va_recv hK hP (ci := 6) (q0 := 0) rfl rfl, se_pre se_ZN_ok hP hK hD hZ⟩ rfl rfl hl.1 rfl (lv_room (Nat.le_of_ble_eq_true rfl)) dX6_run_99 ⟨Nat.zero_le _, Nat.zero_le _⟩) hD hS hA (fun g5 H locs eg5 hP hD hS => ?_)
              refine lv_aload_n hx hb dX6_run_102 rfl (lv_at hl 0 rfl) ?_
              refine se_cvE (va_runV (C := RX6) (As := []) (rest := []) ⟨hx, hb, hml, hown, hts⟩ (c_M_watch l D k h _ g5) (se_kV 0 hts q_code_X6_watch qX6_m136 q_ini_StreamEndModel q_instanceMethod_X6_watch q_sel_X6_watch (by decide +kernel) ⟨Nat.le_of_ble_eq_true rfl, Nat.le_of_ble_eq_true rfl⟩ rfl rfl) ⟨se_blind se_ZN_ok, va_recv hK hP (ci := 6) (q0 := 0) rfl rfl, se_pre se_ZN_ok hP hK hD hZ⟩ rfl rfl hl.1 rfl (lv_room (Nat.le_of_ble_eq_true rfl)) dX6_run_103 ⟨Nat.zero_le _, Nat.zero_le _⟩) hD hS hA (fun g6 H locs eg6 hP hD hS => ?_)
              refine lv_iinc (v := (v2_47 + 1)) (lv' := [(2, .int (v2_47 + 1)), (0, .ref (h 0)), (1, .int v1_47)]) hx hb dX6_run_106 hl (k := 2) rfl rfl (by decide) rfl (fun ls hl => ?_)
              refine lv_goto (tgt := 47) hx hb dX6_run_109 (by decide) ?_
              exact ih g6 v1_47 (v2_47 + 1) _ _ ls (se_dec c7 hM) (by subst eg5; subst eg6; rw [← hF, F_M_run_j47, if_neg c7, if_pos c8, if_neg c10, if_pos c11]) hP hD hS (lv_sub hl [1, 2, 0] rfl)
          · refine lv_aload_n hx hb dX6_run_82 rfl (lv_at hl 0 rfl) ?_
            refine lv_iconst (v := 0) hx hb dX6_run_83 (by decide) ?_
            refine se_cvE (va_runV (C := RX6) (As := [.int 0]) (rest := []) ⟨hx, hb, hml, hown, hts⟩ (c_M_becomes l D k h _ (se_u gj47 0 3 ((gj47 0 3) + 1)) 0) (se_kV 1 hts q_code_X6_becomes qX6_m147 q_ini_StreamEndModel q_instanceMethod_X6_becomes q_sel_X6_becomes (by decide +kernel) ⟨Nat.le_of_ble_eq_true rfl, Nat.le_of_ble_eq_true rfl⟩ rfl rfl) ⟨se_blind se_ZN_ok, va_recv hK hP (ci := 6) (q0 := 0) rfl rfl, se_pre se_ZN_ok hP hK hD hZ⟩ rfl rfl hl.1 rfl (lv_room (Nat.le_of_ble_eq_true rfl)) dX6_run_84 ⟨Nat.zero_le _, Nat.zero_le _⟩) hD hS hA (fun g7 H locs eg7 hP hD hS => ?_)
            replace hF : (F_M_run_k1 (F_M_run_j47 n) (F_M_becomes (se_u gj47 0 3 ((gj47 0 3) + 1)) 0) v1_47 v2_47) = F_M_run g p1 := by rw [← hF, F_M_run_j47, if_neg c7, if_pos c8, if_pos c10]
            rw [← eg7] at hF
            replace hF : F_M_run_k1 (F_M_run_j47 n) g7 v1_47 v2_47 = F_M_run g p1 := hF
            refine lv_aload_n hx hb dX6_run_87 rfl (lv_at hl 0 rfl) ?_
            refine va_get (D := D) (ci := 6) (v := .int (g7 0 34)) (C := RX6) (T := TX6) (N := 50) hx hb hts (se_iw iwX6) hown hK hP 0 rfl rfl 34 (by decide) (hts _ (List.mem_cons_of_mem _ qX6_f20)) (fun _ h9 => h9) rfl dX6_run_88 ?_
            refine lv_aload_n hx hb dX6_run_91 rfl (lv_at hl 0 rfl) ?_
            refine va_get (D := D) (ci := 6) (v := .int (g7 0 3)) (C := RX6) (T := TX6) (N := 50) hx hb hts (se_iw iwX6) hown hK hP 0 rfl rfl 3 (by decide) (hts _ (List.mem_cons_of_mem _ qX6_f121)) (fun _ h9 => h9) rfl dX6_run_92 ?_
            refine lv_icmp_ne (tgt := 102) hx hb dX6_run_95 (by decide) (fun c12 => ?_) (fun c12 => ?_)
            · refine lv_aload_n hx hb dX6_run_102 rfl (lv_at hl 0 rfl) ?_
              refine se_cvE (va_runV (C := RX6) (As := []) (rest := []) ⟨hx, hb, hml, hown, hts⟩ (c_M_watch l D k h _ g7) (se_kV 0 hts q_code_X6_watch qX6_m136 q_ini_StreamEndModel q_instanceMethod_X6_watch q_sel_X6_watch (by decide +kernel) ⟨Nat.le_of_ble_eq_true rfl, Nat.le_of_ble_eq_true rfl⟩ rfl rfl) ⟨se_blind se_ZN_ok, va_recv hK hP (ci := 6) (q0 := 0) rfl rfl, se_pre se_ZN_ok hP hK hD hZ⟩ rfl rfl hl.1 rfl (lv_room (Nat.le_of_ble_eq_true rfl)) dX6_run_103 ⟨Nat.zero_le _, Nat.zero_le _⟩) hD hS hA (fun g8 H locs eg8 hP hD hS => ?_)
              refine lv_iinc (v := (v2_47 + 1)) (lv' := [(2, .int (v2_47 + 1)), (0, .ref (h 0)), (1, .int v1_47)]) hx hb dX6_run_106 hl (k := 2) rfl rfl (by decide) rfl (fun ls hl => ?_)
              refine lv_goto (tgt := 47) hx hb dX6_run_109 (by decide) ?_
              exact ih g8 v1_47 (v2_47 + 1) _ _ ls (se_dec c7 hM) (by subst eg8; rw [← hF, F_M_run_k1, if_neg c12]) hP hD hS (lv_sub hl [1, 2, 0] rfl)
            · refine lv_aload_n hx hb dX6_run_98 rfl (lv_at hl 0 rfl) ?_
              refine se_cvE (va_runV (C := RX6) (As := []) (rest := []) ⟨hx, hb, hml, hown, hts⟩ (c_M_ring l D k h _ g7) (se_kV 0 hts q_code_X6_ring qX6_m172 q_ini_StreamEndModel q_instanceMethod_X6_ring q_sel_X6_ring (by decide +kernel) ⟨Nat.le_of_ble_eq_true rfl, Nat.le_of_ble_eq_true rfl⟩ rfl rfl) ⟨se_blind se_ZN_ok, va_recv hK hP (ci := 6) (q0 := 0) rfl rfl, se_pre se_ZN_ok hP hK hD hZ⟩ rfl rfl hl.1 rfl (lv_room (Nat.le_of_ble_eq_true rfl)) dX6_run_99 ⟨Nat.zero_le _, Nat.zero_le _⟩) hD hS hA (fun g9 H locs eg9 hP hD hS => ?_)
              refine lv_aload_n hx hb dX6_run_102 rfl (lv_at hl 0 rfl) ?_
              refine se_cvE (va_runV (C := RX6) (As := []) (rest := []) ⟨hx, hb, hml, hown, hts⟩ (c_M_watch l D k h _ g9) (se_kV 0 hts q_code_X6_watch qX6_m136 q_ini_StreamEndModel q_instanceMethod_X6_watch q_sel_X6_watch (by decide +kernel) ⟨Nat.le_of_ble_eq_true rfl, Nat.le_of_ble_eq_true rfl⟩ rfl rfl) ⟨se_blind se_ZN_ok, va_recv hK hP (ci := 6) (q0 := 0) rfl rfl, se_pre se_ZN_ok hP hK hD hZ⟩ rfl rfl hl.1 rfl (lv_room (Nat.le_of_ble_eq_true rfl)) dX6_run_103 ⟨Nat.zero_le _, Nat.zero_le _⟩) hD hS hA (fun g10 H locs eg10 hP hD hS => ?_)
              refine lv_iinc (v := (v2_47 + 1)) (lv' := [(2, .int (v2_47 + 1)), (0, .ref (h 0)), (1, .int v1_47)]) hx hb dX6_run_106 hl (k := 2) rfl rfl (by decide) rfl (fun ls hl => ?_)
              refine lv_goto (tgt := 47) hx hb dX6_run_109 (by decide) ?_
              exact ih g10 v1_47 (v2_47 + 1) _ _ ls (se_dec c7 hM) (by subst eg9; subst eg10; rw [← hF, F_M_run_k1, if_pos c12]) hP hD hS (lv_sub hl [1, 2, 0] rfl)
  have hF : F_M_run g p1 = F_M_run g p1 := rfl
  refine lv_aload_n hx hb dX6_run_0 rfl (lv_at hl 0 rfl) ?_
  refine lv_iload_n hx hb dX6_run_1 rfl (lv_at hl 1 rfl) ?_
  refine lv_iconst (v := 1) hx hb dX6_run_2 (by decide) ?_
  refine lv_icmp_lt (tgt := 13) hx hb dX6_run_3 (by decide) (fun c1 => ?_) (fun c1 => ?_)
  · refine lv_iconst (v := 1) hx hb dX6_run_13 (by decide) ?_
    refine lv_goto (tgt := 33) hx hb dX6_run_14 (by decide) ?_
    refine va_put (D := D) (ci := 6) (v := .int 1) (ty := .int) (C := RX6) (T := TX6) (N := 50) hx hb hts (se_iw iwX6) tyX6 tyX6_ok nmX6 hown hK hP hD hS 0 rfl rfl 2 (by decide) (hts _ (List.mem_cons_of_mem _ qX6_f45)) (fun _ h9 => h9) rfl (by decide +kernel) rfl rfl (Nat.le_of_ble_eq_true rfl) dX6_run_33 (fun H locs hP hD hS => ?_)
    replace hP : va_P D se_cl (se_WM k h (se_u g 0 2 1)) H := hP
    replace hD : va_D A (se_WM k h (se_u g 0 2 1)) := hD
    refine lv_aload_n hx hb dX6_run_36 rfl (lv_at hl 0 rfl) ?_
    refine va_get (D := D) (ci := 6) (v := .int 1) (C := RX6) (T := TX6) (N := 50) hx hb hts (se_iw iwX6) hown hK hP 0 rfl rfl 2 (by decide) (hts _ (List.mem_cons_of_mem _ qX6_f45)) (fun _ h9 => h9) rfl dX6_run_37 ?_
    refine lv_if_le (tgt := 45) hx hb dX6_run_40 (by decide) (fun c0 => absurd c0 (by decide)) (fun c0 => ?_)
    refine lv_iconst (v := 0) hx hb dX6_run_43 (by decide) ?_
    exact se_ri hx hb hr  hlocks hK hP hD hS dX6_run_44 (by rw [F_M_run, if_pos c1])
  · refine lv_iload_n hx hb dX6_run_6 rfl (lv_at hl 1 rfl) ?_
    refine lv_sipush (v := 2000) hx hb dX6_run_7 (by decide) ?_
    refine lv_icmp_le (tgt := 17) hx hb dX6_run_10 (by decide) (fun c3 => ?_) (fun c3 => ?_)
    · refine lv_aload_n hx hb dX6_run_17 rfl (lv_at hl 0 rfl) ?_
      refine va_get (D := D) (ci := 6) (v := .int (g 0 3)) (C := RX6) (T := TX6) (N := 50) hx hb hts (se_iw iwX6) hown hK hP 0 rfl rfl 3 (by decide) (hts _ (List.mem_cons_of_mem _ qX6_f121)) (fun _ h9 => h9) rfl dX6_run_18 ?_
      refine lv_iload_n hx hb dX6_run_21 rfl (lv_at hl 1 rfl) ?_
      refine lv_iadd hx hb dX6_run_22 ?_
      refine lv_ldc hx hb hown (hts _ (List.mem_cons_of_mem _ qX6_k171)) dX6_run_23 ?_
      refine se_join (v := ((if ((g 0 3) + p1) ≤ 1000000 then 0 else 2) : Int32)) (pcJ := 33) (restJ := [.ref (h 0)]) (ls := ls) (fun T => ?_) ?_
      · refine lv_icmp_le (tgt := 32) hx hb dX6_run_25 (by decide) (fun c5 => ?_) (fun c5 => ?_)
        · refine lv_iconst (v := 0) hx hb dX6_run_32 (by decide) ?_
          exact T _ (by rw [if_pos c5])
        · refine lv_iconst (v := 2) hx hb dX6_run_28 (by decide) ?_
          refine lv_goto (tgt := 33) hx hb dX6_run_29 (by decide) ?_
          exact T _ (by rw [if_neg c5])
      refine va_put (D := D) (ci := 6) (v := .int ((if ((g 0 3) + p1) ≤ 1000000 then 0 else 2) : Int32)) (ty := .int) (C := RX6) (T := TX6) (N := 50) hx hb hts (se_iw iwX6) tyX6 tyX6_ok nmX6 hown hK hP hD hS 0 rfl rfl 2 (by decide) (hts _ (List.mem_cons_of_mem _ qX6_f45)) (fun _ h9 => h9) rfl (by decide +kernel) rfl rfl (Nat.le_of_ble_eq_true rfl) dX6_run_33 (fun H locs hP hD hS => ?_)
      replace hP : va_P D se_cl (se_WM k h (se_u g 0 2 ((if ((g 0 3) + p1) ≤ 1000000 then 0 else 2) : Int32))) H := hP
      replace hD : va_D A (se_WM k h (se_u g 0 2 ((if ((g 0 3) + p1) ≤ 1000000 then 0 else 2) : Int32))) := hD
      refine lv_aload_n hx hb dX6_run_36 rfl (lv_at hl 0 rfl) ?_
      refine va_get (D := D) (ci := 6) (v := .int ((if ((g 0 3) + p1) ≤ 1000000 then 0 else 2) : Int32)) (C := RX6) (T := TX6) (N := 50) hx hb hts (se_iw iwX6) hown hK hP 0 rfl rfl 2 (by decide) (hts _ (List.mem_cons_of_mem _ qX6_f45)) (fun _ h9 => h9) rfl dX6_run_37 ?_
      refine lv_if_le (tgt := 45) hx hb dX6_run_40 (by decide) (fun c6 => ?_) (fun c6 => ?_)
      · refine lv_iconst (v := 0) hx hb dX6_run_45 (by decide) ?_
        refine lv_istore_n (lv' := [(2, .int 0), (0, .ref (h 0)), (1, .int p1)]) hx hb dX6_run_46 rfl hl (by decide) rfl (fun ls hl => ?_)
        exact L47 ((((p1) : Int32).toInt - ((0) : Int32).toInt).toNat + 1) (se_u g 0 2 ((if ((g 0 3) + p1) ≤ 1000000 then 0 else 2) : Int32)) p1 0 _ _ ls (se_fuel _ _) (by rw [F_M_run, if_neg c1, if_pos c3, if_pos c6]) hP hD hS (lv_sub hl [1, 2, 0] rfl)
      · refine lv_iconst (v := 0) hx hb dX6_run_43 (by decide) ?_
        exact se_ri hx hb hr  hlocks hK hP hD hS dX6_run_44 (by rw [F_M_run, if_neg c1, if_pos c3, if_neg c6])
    · refine lv_iconst (v := 1) hx hb dX6_run_13 (by decide) ?_
      refine lv_goto (tgt := 33) hx hb dX6_run_14 (by decide) ?_
      refine va_put (D := D) (ci := 6) (v := .int 1) (ty := .int) (C := RX6) (T := TX6) (N := 50) hx hb hts (se_iw iwX6) tyX6 tyX6_ok nmX6 hown hK hP hD hS 0 rfl rfl 2 (by decide) (hts _ (List.mem_cons_of_mem _ qX6_f45)) (fun _ h9 => h9) rfl (by decide +kernel) rfl rfl (Nat.le_of_ble_eq_true rfl) dX6_run_33 (fun H locs hP hD hS => ?_)
      replace hP : va_P D se_cl (se_WM k h (se_u g 0 2 1)) H := hP
      replace hD : va_D A (se_WM k h (se_u g 0 2 1)) := hD
      refine lv_aload_n hx hb dX6_run_36 rfl (lv_at hl 0 rfl) ?_
      refine va_get (D := D) (ci := 6) (v := .int 1) (C := RX6) (T := TX6) (N := 50) hx hb hts (se_iw iwX6) hown hK hP 0 rfl rfl 2 (by decide) (hts _ (List.mem_cons_of_mem _ qX6_f45)) (fun _ h9 => h9) rfl dX6_run_37 ?_
      refine lv_if_le (tgt := 45) hx hb dX6_run_40 (by decide) (fun c0 => absurd c0 (by decide)) (fun c0 => ?_)
      refine lv_iconst (v := 0) hx hb dX6_run_43 (by decide) ?_
      exact se_ri hx hb hr  hlocks hK hP hD hS dX6_run_44 (by rw [F_M_run, if_neg c1, if_neg c3])
