/-! written by program (wip/gen) -/
set_option maxRecDepth 100000 in
set_option maxHeartbeats 4000000 in
theorem c_M_abort (l : Launch) (D : va_G) (k : Nat → ClassId) (h : Nat → Nat) (sz : Nat) (g : se_G)  : Met l yX6_abort (se_w_X6_abort) ({ frames := 2, cells := 0, slots := 0, locals := 42 }) (va_Pc [.ref (h 0)] (se_Pre D se_cl [(k 1, .int), (k 2, .int), (k 3, .boolean), (k 4, .int), (k 5, .int), (k 6, .int)] (se_WM k h g) se_ZN sz)) (se_Qv D se_cl [(k 1, .int), (k 2, .int), (k 3, .boolean), (k 4, .int), (k 5, .int), (k 6, .int)] (se_WM k h) (F_M_abort g) (va_A (se_WM k h g) sz)) 0 0 (va_A (se_WM k h g) sz) := by
  refine se_met (Qc := se_Qv D se_cl [(k 1, .int), (k 2, .int), (k 3, .boolean), (k 4, .int), (k 5, .int), (k 6, .int)] (se_WM k h) (F_M_abort g)) (cc := cX6_abort) (maxL := 1) (ret := none) (by decide) rfl (Nat.le_of_ble_eq_true rfl) ?_
  intro p e s m below meth c ls A hx hb hr hts hown hlocks hml hA hP hK hD hS hZ hl
  replace hl : lv_has ls 1 [(0, .ref (h 0))] := hl
  have hF : F_M_abort g = F_M_abort g := rfl
  refine lv_aload_n hx hb dX6_abort_0 rfl (lv_at hl 0 rfl) ?_
  refine lv_aload_n hx hb dX6_abort_1 rfl (lv_at hl 0 rfl) ?_
  refine va_get (D := D) (ci := 6) (v := .int (g 0 4)) (C := RX6) (T := TX6) (N := 50) hx hb hts (se_iw iwX6) hown hK hP 0 rfl rfl 4 (by decide) (hts _ (List.mem_cons_of_mem _ qX6_f118)) (fun _ h9 => h9) rfl dX6_abort_2 ?_
  refine se_join (v := ((if (g 0 4) = 0 then 1 else ((if (g 0 4) = 11 then 1 else 0) : Int32)) : Int32)) (pcJ := 22) (restJ := [.ref (h 0)]) (ls := ls) (fun T => ?_) ?_
  · refine lv_if_eq (tgt := 17) hx hb dX6_abort_5 (by decide) (fun c2 => ?_) (fun c2 => ?_)
    · refine lv_iconst (v := 1) hx hb dX6_abort_17 (by decide) ?_
      refine lv_goto (tgt := 22) hx hb dX6_abort_18 (by decide) ?_
      exact T _ (mo_ifp c2 rfl)
    · refine lv_aload_n hx hb dX6_abort_8 rfl (lv_at hl 0 rfl) ?_
      refine va_get (D := D) (ci := 6) (v := .int (g 0 4)) (C := RX6) (T := TX6) (N := 50) hx hb hts (se_iw iwX6) hown hK hP 0 rfl rfl 4 (by decide) (hts _ (List.mem_cons_of_mem _ qX6_f118)) (fun _ h9 => h9) rfl dX6_abort_9 ?_
      refine lv_bipush (v := 11) hx hb dX6_abort_12 (by decide) ?_
      refine lv_icmp_ne (tgt := 21) hx hb dX6_abort_14 (by decide) (fun c3 => ?_) (fun c3 => ?_)
      · refine lv_iconst (v := 0) hx hb dX6_abort_21 (by decide) ?_
        exact T _ (mo_ifn c2 (mo_ifn c3 rfl))
      · refine lv_iconst (v := 1) hx hb dX6_abort_17 (by decide) ?_
        refine lv_goto (tgt := 22) hx hb dX6_abort_18 (by decide) ?_
        exact T _ (mo_ifn c2 (mo_ifp c3 rfl))
  refine va_put (D := D) (ci := 6) (v := .int ((if (g 0 4) = 0 then 1 else ((if (g 0 4) = 11 then 1 else 0) : Int32)) : Int32)) (ty := .int) (C := RX6) (T := TX6) (N := 50) hx hb hts (se_iw iwX6) tyX6 tyX6_ok nmX6 hown hK hP hD hS 0 rfl rfl 2 (by decide) (hts _ (List.mem_cons_of_mem _ qX6_f45)) (fun _ h9 => h9) rfl (by decide +kernel) rfl rfl (Nat.le_of_ble_eq_true rfl) dX6_abort_22 (fun H locs hP hD hS => ?_)
  replace hP : va_P D se_cl (se_WM k h (se_u g 0 2 ((if (g 0 4) = 0 then 1 else ((if (g 0 4) = 11 then 1 else 0) : Int32)) : Int32))) H := hP
  replace hD : va_D A (se_WM k h (se_u g 0 2 ((if (g 0 4) = 0 then 1 else ((if (g 0 4) = 11 then 1 else 0) : Int32)) : Int32))) := hD
  refine lv_aload_n hx hb dX6_abort_25 rfl (lv_at hl 0 rfl) ?_
  refine va_get (D := D) (ci := 6) (v := .int ((if (g 0 4) = 0 then 1 else ((if (g 0 4) = 11 then 1 else 0) : Int32)) : Int32)) (C := RX6) (T := TX6) (N := 50) hx hb hts (se_iw iwX6) hown hK hP 0 rfl rfl 2 (by decide) (hts _ (List.mem_cons_of_mem _ qX6_f45)) (fun _ h9 => h9) rfl dX6_abort_26 ?_
  refine lv_if_le (tgt := 33) hx hb dX6_abort_29 (by decide) (fun c4 => ?_) (fun c4 => ?_)
  · refine lv_aload_n hx hb dX6_abort_33 rfl (lv_at hl 0 rfl) ?_
    refine va_get (D := D) (ci := 6) (v := .int (g 0 4)) (C := RX6) (T := TX6) (N := 50) hx hb hts (se_iw iwX6) hown hK hP 0 rfl rfl 4 (by decide) (hts _ (List.mem_cons_of_mem _ qX6_f118)) (fun _ h9 => h9) rfl dX6_abort_34 ?_
    refine lv_iconst (v := 1) hx hb dX6_abort_37 (by decide) ?_
    refine lv_icmp_eq (tgt := 85) hx hb dX6_abort_38 (by decide) (fun c5 => ?_) (fun c5 => ?_)
    · refine lv_aload_n hx hb dX6_abort_85 rfl (lv_at hl 0 rfl) ?_
      refine lv_bipush (v := 11) hx hb dX6_abort_86 (by decide) ?_
      refine se_cvE (va_runV (C := RX6) (As := [.int 11]) (rest := []) ⟨hx, hb, hml, hown, hts⟩ (c_M_becomes l D k h _ (se_u g 0 2 ((if (g 0 4) = 0 then 1 else ((if (g 0 4) = 11 then 1 else 0) : Int32)) : Int32)) 11) (se_kV 1 hts q_code_X6_becomes qX6_m147 q_ini_StreamEndModel q_instanceMethod_X6_becomes q_sel_X6_becomes (by decide +kernel) ⟨Nat.le_of_ble_eq_true rfl, Nat.le_of_ble_eq_true rfl⟩ rfl rfl) ⟨se_blind se_ZN_ok, va_recv hK hP (ci := 6) (q0 := 0) rfl rfl, se_pre se_ZN_ok hP hK hD hZ⟩ rfl rfl hl.1 rfl (lv_room (Nat.le_of_ble_eq_true rfl)) dX6_abort_88 ⟨Nat.zero_le _, Nat.zero_le _⟩) hD hS hA (fun g1 H locs eg1 hP hD hS => ?_)
      exact se_rv hx hb hr hlocks hK hP hD hS dX6_abort_91 (by subst eg1; rw [F_M_abort, if_pos (α := se_G) c4, if_pos (α := se_G) c5])
    · refine lv_aload_n hx hb dX6_abort_41 rfl (lv_at hl 0 rfl) ?_
      refine va_get (D := D) (ci := 6) (v := .int (g 0 4)) (C := RX6) (T := TX6) (N := 50) hx hb hts (se_iw iwX6) hown hK hP 0 rfl rfl 4 (by decide) (hts _ (List.mem_cons_of_mem _ qX6_f118)) (fun _ h9 => h9) rfl dX6_abort_42 ?_
      refine lv_iconst (v := 2) hx hb dX6_abort_45 (by decide) ?_
      refine lv_icmp_eq (tgt := 85) hx hb dX6_abort_46 (by decide) (fun c6 => ?_) (fun c6 => ?_)
      · refine lv_aload_n hx hb dX6_abort_85 rfl (lv_at hl 0 rfl) ?_
        refine lv_bipush (v := 11) hx hb dX6_abort_86 (by decide) ?_
        refine se_cvE (va_runV (C := RX6) (As := [.int 11]) (rest := []) ⟨hx, hb, hml, hown, hts⟩ (c_M_becomes l D k h _ (se_u g 0 2 ((if (g 0 4) = 0 then 1 else ((if (g 0 4) = 11 then 1 else 0) : Int32)) : Int32)) 11) (se_kV 1 hts q_code_X6_becomes qX6_m147 q_ini_StreamEndModel q_instanceMethod_X6_becomes q_sel_X6_becomes (by decide +kernel) ⟨Nat.le_of_ble_eq_true rfl, Nat.le_of_ble_eq_true rfl⟩ rfl rfl) ⟨se_blind se_ZN_ok, va_recv hK hP (ci := 6) (q0 := 0) rfl rfl, se_pre se_ZN_ok hP hK hD hZ⟩ rfl rfl hl.1 rfl (lv_room (Nat.le_of_ble_eq_true rfl)) dX6_abort_88 ⟨Nat.zero_le _, Nat.zero_le _⟩) hD hS hA (fun g2 H locs eg2 hP hD hS => ?_)
        exact se_rv hx hb hr hlocks hK hP hD hS dX6_abort_91 (by subst eg2; rw [F_M_abort, if_pos (α := se_G) c4, if_neg (α := se_G) c5, if_pos (α := se_G) c6])
      · refine lv_aload_n hx hb dX6_abort_49 rfl (lv_at hl 0 rfl) ?_
        refine va_get (D := D) (ci := 6) (v := .int (g 0 4)) (C := RX6) (T := TX6) (N := 50) hx hb hts (se_iw iwX6) hown hK hP 0 rfl rfl 4 (by decide) (hts _ (List.mem_cons_of_mem _ qX6_f118)) (fun _ h9 => h9) rfl dX6_abort_50 ?_
        refine lv_bipush (v := 10) hx hb dX6_abort_53 (by decide) ?_
        refine lv_icmp_eq (tgt := 85) hx hb dX6_abort_55 (by decide) (fun c7 => ?_) (fun c7 => ?_)
        · refine lv_aload_n hx hb dX6_abort_85 rfl (lv_at hl 0 rfl) ?_
          refine lv_bipush (v := 11) hx hb dX6_abort_86 (by decide) ?_
          refine se_cvE (va_runV (C := RX6) (As := [.int 11]) (rest := []) ⟨hx, hb, hml, hown, hts⟩ (c_M_becomes l D k h _ (se_u g 0 2 ((if (g 0 4) = 0 then 1 else ((if (g 0 4) = 11 then 1 else 0) : Int32)) : Int32)) 11) (se_kV 1 hts q_code_X6_becomes qX6_m147 q_ini_StreamEndModel q_instanceMethod_X6_becomes q_sel_X6_becomes (by decide +kernel) ⟨Nat.le_of_ble_eq_true rfl, Nat.le_of_ble_eq_true rfl⟩ rfl rfl) ⟨se_blind se_ZN_ok, va_recv hK hP (ci := 6) (q0 := 0) rfl rfl, se_pre se_ZN_ok hP hK hD hZ⟩ rfl rfl hl.1 rfl (lv_room (Nat.le_of_ble_eq_true rfl)) dX6_abort_88 ⟨Nat.zero_le _, Nat.zero_le _⟩) hD hS hA (fun g3 H locs eg3 hP hD hS => ?_)
          exact se_rv hx hb hr hlocks hK hP hD hS dX6_abort_91 (by subst eg3; rw [F_M_abort, if_pos (α := se_G) c4, if_neg (α := se_G) c5, if_neg (α := se_G) c6, if_pos (α := se_G) c7])
        · refine lv_aload_n hx hb dX6_abort_58 rfl (lv_at hl 0 rfl) ?_
          refine lv_iconst (v := 1) hx hb dX6_abort_59 (by decide) ?_
          refine va_put (D := D) (ci := 6) (v := .int 1) (ty := .boolean) (C := RX6) (T := TX6) (N := 50) hx hb hts (se_iw iwX6) tyX6 tyX6_ok nmX6 hown hK hP hD hS 0 rfl rfl 25 (by decide) (hts _ (List.mem_cons_of_mem _ qX6_f150)) (fun _ h9 => h9) rfl (by decide +kernel) rfl rfl (Nat.le_of_ble_eq_true rfl) dX6_abort_60 (fun H locs hP hD hS => ?_)
          replace hP : va_P D se_cl (se_WM k h (se_u (se_u g 0 2 ((if (g 0 4) = 0 then 1 else ((if (g 0 4) = 11 then 1 else 0) : Int32)) : Int32)) 0 25 1)) H := hP
          replace hD : va_D A (se_WM k h (se_u (se_u g 0 2 ((if (g 0 4) = 0 then 1 else ((if (g 0 4) = 11 then 1 else 0) : Int32)) : Int32)) 0 25 1)) := hD
          refine lv_aload_n hx hb dX6_abort_63 rfl (lv_at hl 0 rfl) ?_
          refine lv_bipush (v := 12) hx hb dX6_abort_64 (by decide) ?_
          refine va_put (D := D) (ci := 6) (v := .int 12) (ty := .int) (C := RX6) (T := TX6) (N := 50) hx hb hts (se_iw iwX6) tyX6 tyX6_ok nmX6 hown hK hP hD hS 0 rfl rfl 26 (by decide) (hts _ (List.mem_cons_of_mem _ qX6_f153)) (fun _ h9 => h9) rfl (by decide +kernel) rfl rfl (Nat.le_of_ble_eq_true rfl) dX6_abort_66 (fun H locs hP hD hS => ?_)
          replace hP : va_P D se_cl (se_WM k h (se_u (se_u (se_u g 0 2 ((if (g 0 4) = 0 then 1 else ((if (g 0 4) = 11 then 1 else 0) : Int32)) : Int32)) 0 25 1) 0 26 12)) H := hP
          replace hD : va_D A (se_WM k h (se_u (se_u (se_u g 0 2 ((if (g 0 4) = 0 then 1 else ((if (g 0 4) = 11 then 1 else 0) : Int32)) : Int32)) 0 25 1) 0 26 12)) := hD
          refine lv_aload_n hx hb dX6_abort_69 rfl (lv_at hl 0 rfl) ?_
          refine lv_aload_n hx hb dX6_abort_70 rfl (lv_at hl 0 rfl) ?_
          refine va_get (D := D) (ci := 6) (v := .int (g 0 10)) (C := RX6) (T := TX6) (N := 50) hx hb hts (se_iw iwX6) hown hK hP 0 rfl rfl 10 (by decide) (hts _ (List.mem_cons_of_mem _ qX6_f54)) (fun _ h9 => h9) rfl dX6_abort_71 ?_
          refine va_put (D := D) (ci := 6) (v := .int (g 0 10)) (ty := .int) (C := RX6) (T := TX6) (N := 50) hx hb hts (se_iw iwX6) tyX6 tyX6_ok nmX6 hown hK hP hD hS 0 rfl rfl 27 (by decide) (hts _ (List.mem_cons_of_mem _ qX6_f156)) (fun _ h9 => h9) rfl (by decide +kernel) rfl rfl (Nat.le_of_ble_eq_true rfl) dX6_abort_74 (fun H locs hP hD hS => ?_)
          replace hP : va_P D se_cl (se_WM k h (se_u (se_u (se_u (se_u g 0 2 ((if (g 0 4) = 0 then 1 else ((if (g 0 4) = 11 then 1 else 0) : Int32)) : Int32)) 0 25 1) 0 26 12) 0 27 (g 0 10))) H := hP
          replace hD : va_D A (se_WM k h (se_u (se_u (se_u (se_u g 0 2 ((if (g 0 4) = 0 then 1 else ((if (g 0 4) = 11 then 1 else 0) : Int32)) : Int32)) 0 25 1) 0 26 12) 0 27 (g 0 10))) := hD
          refine lv_aload_n hx hb dX6_abort_77 rfl (lv_at hl 0 rfl) ?_
          refine lv_aload_n hx hb dX6_abort_78 rfl (lv_at hl 0 rfl) ?_
          refine va_get (D := D) (ci := 6) (v := .int (g 0 21)) (C := RX6) (T := TX6) (N := 50) hx hb hts (se_iw iwX6) hown hK hP 0 rfl rfl 21 (by decide) (hts _ (List.mem_cons_of_mem _ qX6_f69)) (fun _ h9 => h9) rfl dX6_abort_79 ?_
          refine va_put (D := D) (ci := 6) (v := .int (g 0 21)) (ty := .int) (C := RX6) (T := TX6) (N := 50) hx hb hts (se_iw iwX6) tyX6 tyX6_ok nmX6 hown hK hP hD hS 0 rfl rfl 28 (by decide) (hts _ (List.mem_cons_of_mem _ qX6_f159)) (fun _ h9 => h9) rfl (by decide +kernel) rfl rfl (Nat.le_of_ble_eq_true rfl) dX6_abort_82 (fun H locs hP hD hS => ?_)
          replace hP : va_P D se_cl (se_WM k h (se_u (se_u (se_u (se_u (se_u g 0 2 ((if (g 0 4) = 0 then 1 else ((if (g 0 4) = 11 then 1 else 0) : Int32)) : Int32)) 0 25 1) 0 26 12) 0 27 (g 0 10)) 0 28 (g 0 21))) H := hP
          replace hD : va_D A (se_WM k h (se_u (se_u (se_u (se_u (se_u g 0 2 ((if (g 0 4) = 0 then 1 else ((if (g 0 4) = 11 then 1 else 0) : Int32)) : Int32)) 0 25 1) 0 26 12) 0 27 (g 0 10)) 0 28 (g 0 21))) := hD
          refine lv_aload_n hx hb dX6_abort_85 rfl (lv_at hl 0 rfl) ?_
          refine lv_bipush (v := 11) hx hb dX6_abort_86 (by decide) ?_
          refine se_cvE (va_runV (C := RX6) (As := [.int 11]) (rest := []) ⟨hx, hb, hml, hown, hts⟩ (c_M_becomes l D k h _ (se_u (se_u (se_u (se_u (se_u g 0 2 ((if (g 0 4) = 0 then 1 else ((if (g 0 4) = 11 then 1 else 0) : Int32)) : Int32)) 0 25 1) 0 26 12) 0 27 (g 0 10)) 0 28 (g 0 21)) 11) (se_kV 1 hts q_code_X6_becomes qX6_m147 q_ini_StreamEndModel q_instanceMethod_X6_becomes q_sel_X6_becomes (by decide +kernel) ⟨Nat.le_of_ble_eq_true rfl, Nat.le_of_ble_eq_true rfl⟩ rfl rfl) ⟨se_blind se_ZN_ok, va_recv hK hP (ci := 6) (q0 := 0) rfl rfl, se_pre se_ZN_ok hP hK hD hZ⟩ rfl rfl hl.1 rfl (lv_room (Nat.le_of_ble_eq_true rfl)) dX6_abort_88 ⟨Nat.zero_le _, Nat.zero_le _⟩) hD hS hA (fun g4 H locs eg4 hP hD hS => ?_)
          exact se_rv hx hb hr hlocks hK hP hD hS dX6_abort_91 (by subst eg4; rw [F_M_abort, if_pos (α := se_G) c4, if_neg (α := se_G) c5, if_neg (α := se_G) c6, if_neg (α := se_G) c7])
  · exact se_rv hx hb hr hlocks hK hP hD hS dX6_abort_32 (by rw [F_M_abort, if_neg (α := se_G) c4])
set_option maxRecDepth 100000 in
set_option maxHeartbeats 4000000 in
theorem c_M_ring (l : Launch) (D : va_G) (k : Nat → ClassId) (h : Nat → Nat) (sz : Nat) (g : se_G)  : Met l yX6_ring (se_w_X6_ring) ({ frames := 2, cells := 0, slots := 0, locals := 42 }) (va_Pc [.ref (h 0)] (se_Pre D se_cl [(k 1, .int), (k 2, .int), (k 3, .boolean), (k 4, .int), (k 5, .int), (k 6, .int)] (se_WM k h g) se_ZN sz)) (se_Qv D se_cl [(k 1, .int), (k 2, .int), (k 3, .boolean), (k 4, .int), (k 5, .int), (k 6, .int)] (se_WM k h) (F_M_ring g) (va_A (se_WM k h g) sz)) 0 0 (va_A (se_WM k h g) sz) := by
  refine se_met (Qc := se_Qv D se_cl [(k 1, .int), (k 2, .int), (k 3, .boolean), (k 4, .int), (k 5, .int), (k 6, .int)] (se_WM k h) (F_M_ring g)) (cc := cX6_ring) (maxL := 1) (ret := none) (by decide) rfl (Nat.le_of_ble_eq_true rfl) ?_
  intro p e s m below meth c ls A hx hb hr hts hown hlocks hml hA hP hK hD hS hZ hl
  replace hl : lv_has ls 1 [(0, .ref (h 0))] := hl
  have J80 : ∀ (gj80 : se_G) (H : Heap) (locs : List Loc) (ls : Array Slot), F_M_ring_j80 gj80 = F_M_ring g → va_P D se_cl (se_WM k h gj80) H → va_D A (se_WM k h gj80) → va_S A s.heap H locs → lv_has ls 1 [(0, .ref (h 0))] → W p l e ({ frames := 2, cells := 0, slots := 0, locals := 42 }) s m [.ref (h 0)].toArray below meth c H locs 0 0 (MQ below (se_Qv D se_cl [(k 1, .int), (k 2, .int), (k 3, .boolean), (k 4, .int), (k 5, .int), (k 6, .int)] (se_WM k h) (F_M_ring g) A) [.ref (h 0)].toArray s 0 0 A) (F0 m 80 ls []) := by
    intro gj80 H locs ls hF hP hD hS hl
    refine lv_aload_n hx hb dX6_ring_80 rfl (lv_at hl 0 rfl) ?_
    refine lv_aload_n hx hb dX6_ring_81 rfl (lv_at hl 0 rfl) ?_
    refine va_get (D := D) (ci := 6) (v := .int (gj80 0 35)) (C := RX6) (T := TX6) (N := 50) hx hb hts (se_iw iwX6) hown hK hP 0 rfl rfl 35 (by decide) (hts _ (List.mem_cons_of_mem _ qX6_f24)) (fun _ h9 => h9) rfl dX6_ring_82 ?_
    refine lv_iconst (v := 2) hx hb dX6_ring_85 (by decide) ?_
    refine lv_imul hx hb dX6_ring_86 ?_
    refine lv_sipush (v := 1200) hx hb dX6_ring_87 (by decide) ?_
    refine se_join (v := ((if ((gj80 0 35) * 2) ≤ 1200 then ((gj80 0 35) * 2) else 1200) : Int32)) (pcJ := 105) (restJ := [.ref (h 0)]) (ls := ls) (fun T => ?_) ?_
    · refine lv_icmp_le (tgt := 99) hx hb dX6_ring_90 (by decide) (fun c5 => ?_) (fun c5 => ?_)
      · refine lv_aload_n hx hb dX6_ring_99 rfl (lv_at hl 0 rfl) ?_
        refine va_get (D := D) (ci := 6) (v := .int (gj80 0 35)) (C := RX6) (T := TX6) (N := 50) hx hb hts (se_iw iwX6) hown hK hP 0 rfl rfl 35 (by decide) (hts _ (List.mem_cons_of_mem _ qX6_f24)) (fun _ h9 => h9) rfl dX6_ring_100 ?_
        refine lv_iconst (v := 2) hx hb dX6_ring_103 (by decide) ?_
        refine lv_imul hx hb dX6_ring_104 ?_
        exact T _ (mo_ifp c5 rfl)
      · refine lv_sipush (v := 1200) hx hb dX6_ring_93 (by decide) ?_
        refine lv_goto (tgt := 105) hx hb dX6_ring_96 (by decide) ?_
        exact T _ (mo_ifn c5 rfl)
    refine va_put (D := D) (ci := 6) (v := .int ((if ((gj80 0 35) * 2) ≤ 1200 then ((gj80 0 35) * 2) else 1200) : Int32)) (ty := .int) (C := RX6) (T := TX6) (N := 50) hx hb hts (se_iw iwX6) tyX6 tyX6_ok nmX6 hown hK hP hD hS 0 rfl rfl 35 (by decide) (hts _ (List.mem_cons_of_mem _ qX6_f24)) (fun _ h9 => h9) rfl (by decide +kernel) rfl rfl (Nat.le_of_ble_eq_true rfl) dX6_ring_105 (fun H locs hP hD hS => ?_)
    replace hP : va_P D se_cl (se_WM k h (se_u gj80 0 35 ((if ((gj80 0 35) * 2) ≤ 1200 then ((gj80 0 35) * 2) else 1200) : Int32))) H := hP
    replace hD : va_D A (se_WM k h (se_u gj80 0 35 ((if ((gj80 0 35) * 2) ≤ 1200 then ((gj80 0 35) * 2) else 1200) : Int32))) := hD
    refine lv_aload_n hx hb dX6_ring_108 rfl (lv_at hl 0 rfl) ?_
    refine lv_aload_n hx hb dX6_ring_109 rfl (lv_at hl 0 rfl) ?_
    refine va_get (D := D) (ci := 6) (v := .int (gj80 0 3)) (C := RX6) (T := TX6) (N := 50) hx hb hts (se_iw iwX6) hown hK hP 0 rfl rfl 3 (by decide) (hts _ (List.mem_cons_of_mem _ qX6_f121)) (fun _ h9 => h9) rfl dX6_ring_110 ?_
    refine lv_aload_n hx hb dX6_ring_113 rfl (lv_at hl 0 rfl) ?_
    refine va_get (D := D) (ci := 6) (v := .int ((if ((gj80 0 35) * 2) ≤ 1200 then ((gj80 0 35) * 2) else 1200) : Int32)) (C := RX6) (T := TX6) (N := 50) hx hb hts (se_iw iwX6) hown hK hP 0 rfl rfl 35 (by decide) (hts _ (List.mem_cons_of_mem _ qX6_f24)) (fun _ h9 => h9) rfl dX6_ring_114 ?_
    refine lv_iadd hx hb dX6_ring_117 ?_
    refine va_put (D := D) (ci := 6) (v := .int ((gj80 0 3) + ((if ((gj80 0 35) * 2) ≤ 1200 then ((gj80 0 35) * 2) else 1200) : Int32))) (ty := .int) (C := RX6) (T := TX6) (N := 50) hx hb hts (se_iw iwX6) tyX6 tyX6_ok nmX6 hown hK hP hD hS 0 rfl rfl 34 (by decide) (hts _ (List.mem_cons_of_mem _ qX6_f20)) (fun _ h9 => h9) rfl (by decide +kernel) rfl rfl (Nat.le_of_ble_eq_true rfl) dX6_ring_118 (fun H locs hP hD hS => ?_)
    replace hP : va_P D se_cl (se_WM k h (se_u (se_u gj80 0 35 ((if ((gj80 0 35) * 2) ≤ 1200 then ((gj80 0 35) * 2) else 1200) : Int32)) 0 34 ((gj80 0 3) + ((if ((gj80 0 35) * 2) ≤ 1200 then ((gj80 0 35) * 2) else 1200) : Int32)))) H := hP
    replace hD : va_D A (se_WM k h (se_u (se_u gj80 0 35 ((if ((gj80 0 35) * 2) ≤ 1200 then ((gj80 0 35) * 2) else 1200) : Int32)) 0 34 ((gj80 0 3) + ((if ((gj80 0 35) * 2) ≤ 1200 then ((gj80 0 35) * 2) else 1200) : Int32)))) := hD
    exact se_rv hx hb hr hlocks hK hP hD hS dX6_ring_121 (by rw [← hF, F_M_ring_j80])
  have J56 : ∀ (gj56 : se_G) (H : Heap) (locs : List Loc) (ls : Array Slot), F_M_ring_j56 gj56 = F_M_ring g → va_P D se_cl (se_WM k h gj56) H → va_D A (se_WM k h gj56) → va_S A s.heap H locs → lv_has ls 1 [(0, .ref (h 0))] → W p l e ({ frames := 2, cells := 0, slots := 0, locals := 42 }) s m [.ref (h 0)].toArray below meth c H locs 0 0 (MQ below (se_Qv D se_cl [(k 1, .int), (k 2, .int), (k 3, .boolean), (k 4, .int), (k 5, .int), (k 6, .int)] (se_WM k h) (F_M_ring g) A) [.ref (h 0)].toArray s 0 0 A) (F0 m 56 ls []) := by
    intro gj56 H locs ls hF hP hD hS hl
    refine lv_aload_n hx hb dX6_ring_56 rfl (lv_at hl 0 rfl) ?_
    refine va_get (D := D) (ci := 6) (v := .int (gj56 0 9)) (C := RX6) (T := TX6) (N := 50) hx hb hts (se_iw iwX6) hown hK hP 0 rfl rfl 9 (by decide) (hts _ (List.mem_cons_of_mem _ qX6_f51)) (fun _ h9 => h9) rfl dX6_ring_57 ?_
    refine lv_aload_n hx hb dX6_ring_60 rfl (lv_at hl 0 rfl) ?_
    refine va_get (D := D) (ci := 6) (v := .int (gj56 0 10)) (C := RX6) (T := TX6) (N := 50) hx hb hts (se_iw iwX6) hown hK hP 0 rfl rfl 10 (by decide) (hts _ (List.mem_cons_of_mem _ qX6_f54)) (fun _ h9 => h9) rfl dX6_ring_61 ?_
    refine lv_icmp_eq (tgt := 75) hx hb dX6_ring_64 (by decide) (fun c3 => ?_) (fun c3 => ?_)
    · refine lv_aload_n hx hb dX6_ring_75 rfl (lv_at hl 0 rfl) ?_
      refine lv_iconst (v := 1) hx hb dX6_ring_76 (by decide) ?_
      refine va_put (D := D) (ci := 6) (v := .int 1) (ty := .boolean) (C := RX6) (T := TX6) (N := 50) hx hb hts (se_iw iwX6) tyX6 tyX6_ok nmX6 hown hK hP hD hS 0 rfl rfl 32 (by decide) (hts _ (List.mem_cons_of_mem _ qX6_f109)) (fun _ h9 => h9) rfl (by decide +kernel) rfl rfl (Nat.le_of_ble_eq_true rfl) dX6_ring_77 (fun H locs hP hD hS => ?_)
      replace hP : va_P D se_cl (se_WM k h (se_u gj56 0 32 1)) H := hP
      replace hD : va_D A (se_WM k h (se_u gj56 0 32 1)) := hD
      exact J80 (se_u gj56 0 32 1) _ _ ls (by rw [← hF, F_M_ring_j56, if_pos (α := se_G) c3]) hP hD hS (lv_sub hl [0] rfl)
    · refine lv_aload_n hx hb dX6_ring_67 rfl (lv_at hl 0 rfl) ?_
      refine lv_iconst (v := 1) hx hb dX6_ring_68 (by decide) ?_
      refine va_put (D := D) (ci := 6) (v := .int 1) (ty := .boolean) (C := RX6) (T := TX6) (N := 50) hx hb hts (se_iw iwX6) tyX6 tyX6_ok nmX6 hown hK hP hD hS 0 rfl rfl 31 (by decide) (hts _ (List.mem_cons_of_mem _ qX6_f106)) (fun _ h9 => h9) rfl (by decide +kernel) rfl rfl (Nat.le_of_ble_eq_true rfl) dX6_ring_69 (fun H locs hP hD hS => ?_)
      replace hP : va_P D se_cl (se_WM k h (se_u gj56 0 31 1)) H := hP
      replace hD : va_D A (se_WM k h (se_u gj56 0 31 1)) := hD
      refine lv_goto (tgt := 80) hx hb dX6_ring_72 (by decide) ?_
      exact J80 (se_u gj56 0 31 1) _ _ ls (by rw [← hF, F_M_ring_j56, if_neg (α := se_G) c3]) hP hD hS (lv_sub hl [0] rfl)
  have hF : F_M_ring g = F_M_ring g := rfl
  refine lv_aload_n hx hb dX6_ring_0 rfl (lv_at hl 0 rfl) ?_
  refine lv_dup hx hb dX6_ring_1 rfl ?_
  refine va_get (D := D) (ci := 6) (v := .int (g 0 36)) (C := RX6) (T := TX6) (N := 50) hx hb hts (se_iw iwX6) hown hK hP 0 rfl rfl 36 (by decide) (hts _ (List.mem_cons_of_mem _ qX6_f88)) (fun _ h9 => h9) rfl dX6_ring_2 ?_
  refine lv_iconst (v := 1) hx hb dX6_ring_5 (by decide) ?_
  refine lv_iadd hx hb dX6_ring_6 ?_
  refine va_put (D := D) (ci := 6) (v := .int ((g 0 36) + 1)) (ty := .int) (C := RX6) (T := TX6) (N := 50) hx hb hts (se_iw iwX6) tyX6 tyX6_ok nmX6 hown hK hP hD hS 0 rfl rfl 36 (by decide) (hts _ (List.mem_cons_of_mem _ qX6_f88)) (fun _ h9 => h9) rfl (by decide +kernel) rfl rfl (Nat.le_of_ble_eq_true rfl) dX6_ring_7 (fun H locs hP hD hS => ?_)
  replace hP : va_P D se_cl (se_WM k h (se_u g 0 36 ((g 0 36) + 1))) H := hP
  replace hD : va_D A (se_WM k h (se_u g 0 36 ((g 0 36) + 1))) := hD
  refine lv_aload_n hx hb dX6_ring_10 rfl (lv_at hl 0 rfl) ?_
  refine va_get (D := D) (ci := 6) (v := .int ((g 0 36) + 1)) (C := RX6) (T := TX6) (N := 50) hx hb hts (se_iw iwX6) hown hK hP 0 rfl rfl 36 (by decide) (hts _ (List.mem_cons_of_mem _ qX6_f88)) (fun _ h9 => h9) rfl dX6_ring_11 ?_
  refine lv_bipush (v := 8) hx hb dX6_ring_14 (by decide) ?_
  refine lv_icmp_le (tgt := 26) hx hb dX6_ring_16 (by decide) (fun c1 => ?_) (fun c1 => ?_)
  · refine lv_aload_n hx hb dX6_ring_26 rfl (lv_at hl 0 rfl) ?_
    refine va_get (D := D) (ci := 6) (v := .int (g 0 9)) (C := RX6) (T := TX6) (N := 50) hx hb hts (se_iw iwX6) hown hK hP 0 rfl rfl 9 (by decide) (hts _ (List.mem_cons_of_mem _ qX6_f51)) (fun _ h9 => h9) rfl dX6_ring_27 ?_
    refine lv_aload_n hx hb dX6_ring_30 rfl (lv_at hl 0 rfl) ?_
    refine va_get (D := D) (ci := 6) (v := .int (g 0 8)) (C := RX6) (T := TX6) (N := 50) hx hb hts (se_iw iwX6) hown hK hP 0 rfl rfl 8 (by decide) (hts _ (List.mem_cons_of_mem _ qX6_f48)) (fun _ h9 => h9) rfl dX6_ring_31 ?_
    refine lv_icmp_ne (tgt := 56) hx hb dX6_ring_34 (by decide) (fun c2 => ?_) (fun c2 => ?_)
    · exact J56 (se_u g 0 36 ((g 0 36) + 1)) _ _ ls (by rw [F_M_ring, if_pos (α := se_G) c1, if_neg (α := se_G) c2]) hP hD hS (lv_sub hl [0] rfl)
    · refine lv_aload_n hx hb dX6_ring_37 rfl (lv_at hl 0 rfl) ?_
      refine va_get (D := D) (ci := 6) (v := .int (g 0 10)) (C := RX6) (T := TX6) (N := 50) hx hb hts (se_iw iwX6) hown hK hP 0 rfl rfl 10 (by decide) (hts _ (List.mem_cons_of_mem _ qX6_f54)) (fun _ h9 => h9) rfl dX6_ring_38 ?_
      refine lv_aload_n hx hb dX6_ring_41 rfl (lv_at hl 0 rfl) ?_
      refine va_get (D := D) (ci := 6) (v := .int (g 0 8)) (C := RX6) (T := TX6) (N := 50) hx hb hts (se_iw iwX6) hown hK hP 0 rfl rfl 8 (by decide) (hts _ (List.mem_cons_of_mem _ qX6_f48)) (fun _ h9 => h9) rfl dX6_ring_42 ?_
      refine lv_icmp_eq (tgt := 56) hx hb dX6_ring_45 (by decide) (fun c6 => ?_) (fun c6 => ?_)
      · exact J56 (se_u g 0 36 ((g 0 36) + 1)) _ _ ls (by rw [F_M_ring, if_pos (α := se_G) c1, if_pos (α := se_G) c2, if_pos (α := se_G) c6]) hP hD hS (lv_sub hl [0] rfl)
      · refine lv_aload_n hx hb dX6_ring_48 rfl (lv_at hl 0 rfl) ?_
        refine lv_iconst (v := 1) hx hb dX6_ring_49 (by decide) ?_
        refine va_put (D := D) (ci := 6) (v := .int 1) (ty := .boolean) (C := RX6) (T := TX6) (N := 50) hx hb hts (se_iw iwX6) tyX6 tyX6_ok nmX6 hown hK hP hD hS 0 rfl rfl 29 (by decide) (hts _ (List.mem_cons_of_mem _ qX6_f103)) (fun _ h9 => h9) rfl (by decide +kernel) rfl rfl (Nat.le_of_ble_eq_true rfl) dX6_ring_50 (fun H locs hP hD hS => ?_)
        replace hP : va_P D se_cl (se_WM k h (se_u (se_u g 0 36 ((g 0 36) + 1)) 0 29 1)) H := hP
        replace hD : va_D A (se_WM k h (se_u (se_u g 0 36 ((g 0 36) + 1)) 0 29 1)) := hD
        refine lv_goto (tgt := 80) hx hb dX6_ring_53 (by decide) ?_
        exact J80 (se_u (se_u g 0 36 ((g 0 36) + 1)) 0 29 1) _ _ ls (by rw [F_M_ring, if_pos (α := se_G) c1, if_pos (α := se_G) c2, if_neg (α := se_G) c6]) hP hD hS (lv_sub hl [0] rfl)
  · refine lv_aload_n hx hb dX6_ring_19 rfl (lv_at hl 0 rfl) ?_
    refine lv_bipush (v := 11) hx hb dX6_ring_20 (by decide) ?_
    refine se_cvE (va_runV (C := RX6) (As := [.int 11]) (rest := []) ⟨hx, hb, hml, hown, hts⟩ (c_M_becomes l D k h _ (se_u g 0 36 ((g 0 36) + 1)) 11) (se_kV 1 hts q_code_X6_becomes qX6_m147 q_ini_StreamEndModel q_instanceMethod_X6_becomes q_sel_X6_becomes (by decide +kernel) ⟨Nat.le_of_ble_eq_true rfl, Nat.le_of_ble_eq_true rfl⟩ rfl rfl) ⟨se_blind se_ZN_ok, va_recv hK hP (ci := 6) (q0 := 0) rfl rfl, se_pre se_ZN_ok hP hK hD hZ⟩ rfl rfl hl.1 rfl (lv_room (Nat.le_of_ble_eq_true rfl)) dX6_ring_22 ⟨Nat.zero_le _, Nat.zero_le _⟩) hD hS hA (fun g1 H locs eg1 hP hD hS => ?_)
    exact se_rv hx hb hr hlocks hK hP hD hS dX6_ring_25 (by subst eg1; rw [F_M_ring, if_neg (α := se_G) c1])
