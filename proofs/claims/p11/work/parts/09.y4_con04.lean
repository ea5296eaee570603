/-! written by program (wip/gen) -/
set_option maxRecDepth 100000 in
set_option maxHeartbeats 4000000 in
theorem c_M_becomes (l : Launch) (D : va_G) (k : Nat → ClassId) (h : Nat → Nat) (sz : Nat) (g : se_G) (p1 : Int32) : Met l yX6_becomes (se_w_X6_becomes) ({ frames := 1, cells := 0, slots := 0, locals := 20 }) (va_Pc [.ref (h 0), .int p1] (se_Pre D se_cl [(k 1, .int), (k 2, .int), (k 3, .boolean), (k 4, .int), (k 5, .int), (k 6, .int)] (se_WM k h g) se_ZN sz)) (se_Qv D se_cl [(k 1, .int), (k 2, .int), (k 3, .boolean), (k 4, .int), (k 5, .int), (k 6, .int)] (se_WM k h) (F_M_becomes g p1) (va_A (se_WM k h g) sz)) 0 0 (va_A (se_WM k h g) sz) := by
  refine se_met (Qc := se_Qv D se_cl [(k 1, .int), (k 2, .int), (k 3, .boolean), (k 4, .int), (k 5, .int), (k 6, .int)] (se_WM k h) (F_M_becomes g p1)) (cc := cX6_becomes) (maxL := 3) (ret := none) (by decide) rfl (Nat.le_of_ble_eq_true rfl) ?_
  intro p e s m below meth c ls A hx hb hr hts hown hlocks hml hA hP hK hD hS hZ hl
  replace hl : lv_has ls 3 [(0, .ref (h 0)), (1, .int p1)] := hl
  have J49 : ∀ (gj49 : se_G) (v1_49 : Int32) (H : Heap) (locs : List Loc) (ls : Array Slot), F_M_becomes_j49 gj49 v1_49 = F_M_becomes g p1 → va_P D se_cl (se_WM k h gj49) H → va_D A (se_WM k h gj49) → va_S A s.heap H locs → lv_has ls 3 [(0, .ref (h 0)), (1, .int v1_49)] → W p l e ({ frames := 1, cells := 0, slots := 0, locals := 20 }) s m [.ref (h 0), .int p1].toArray below meth c H locs 0 0 (MQ below (se_Qv D se_cl [(k 1, .int), (k 2, .int), (k 3, .boolean), (k 4, .int), (k 5, .int), (k 6, .int)] (se_WM k h) (F_M_becomes g p1) A) [.ref (h 0), .int p1].toArray s 0 0 A) (F0 m 49 ls []) := by
    intro gj49 v1_49 H locs ls hF hP hD hS hl
    refine lv_iload_n hx hb dX6_becomes_49 rfl (lv_at hl 1 rfl) ?_
    refine lv_bipush (v := 10) hx hb dX6_becomes_50 (by decide) ?_
    refine lv_icmp_ne (tgt := 68) hx hb dX6_becomes_52 (by decide) (fun c5 => ?_) (fun c5 => ?_)
    · exact se_rv hx hb hr hlocks hK hP hD hS dX6_becomes_68 (by rw [← hF, F_M_becomes_j49, if_neg (α := se_G) c5])
    · refine lv_aload_n hx hb dX6_becomes_55 rfl (lv_at hl 0 rfl) ?_
      refine lv_aload_n hx hb dX6_becomes_56 rfl (lv_at hl 0 rfl) ?_
      refine va_get (D := D) (ci := 6) (v := .int (gj49 0 3)) (C := RX6) (T := TX6) (N := 50) hx hb hts (se_iw iwX6) hown hK hP 0 rfl rfl 3 (by decide) (hts _ (List.mem_cons_of_mem _ qX6_f121)) (fun _ h9 => h9) rfl dX6_becomes_57 ?_
      refine lv_aload_n hx hb dX6_becomes_60 rfl (lv_at hl 0 rfl) ?_
      refine va_get (D := D) (ci := 6) (v := .int (gj49 0 1)) (C := RX6) (T := TX6) (N := 50) hx hb hts (se_iw iwX6) hown hK hP 0 rfl rfl 1 (by decide) (hts _ (List.mem_cons_of_mem _ qX6_f39)) (fun _ h9 => h9) rfl dX6_becomes_61 ?_
      refine lv_iadd hx hb dX6_becomes_64 ?_
      refine va_put (D := D) (ci := 6) (v := .int ((gj49 0 3) + (gj49 0 1))) (ty := .int) (C := RX6) (T := TX6) (N := 50) hx hb hts (se_iw iwX6) tyX6 tyX6_ok nmX6 hown hK hP hD hS 0 rfl rfl 43 (by decide) (hts _ (List.mem_cons_of_mem _ qX6_f124)) (fun _ h9 => h9) rfl (by decide +kernel) rfl rfl (Nat.le_of_ble_eq_true rfl) dX6_becomes_65 (fun H locs hP hD hS => ?_)
      replace hP : va_P D se_cl (se_WM k h (se_u gj49 0 43 ((gj49 0 3) + (gj49 0 1)))) H := hP
      replace hD : va_D A (se_WM k h (se_u gj49 0 43 ((gj49 0 3) + (gj49 0 1)))) := hD
      exact se_rv hx hb hr hlocks hK hP hD hS dX6_becomes_68 (by rw [← hF, F_M_becomes_j49, if_pos (α := se_G) c5])
  have J40 : ∀ (gj40 : se_G) (v1_40 : Int32) (v2_40 : Int32) (H : Heap) (locs : List Loc) (ls : Array Slot), (v2_40 = 0 ∨ v2_40 = 1) → F_M_becomes_j40 gj40 v1_40 v2_40 = F_M_becomes g p1 → va_P D se_cl (se_WM k h gj40) H → va_D A (se_WM k h gj40) → va_S A s.heap H locs → lv_has ls 3 [(0, .ref (h 0)), (1, .int v1_40), (2, .int v2_40)] → W p l e ({ frames := 1, cells := 0, slots := 0, locals := 20 }) s m [.ref (h 0), .int p1].toArray below meth c H locs 0 0 (MQ below (se_Qv D se_cl [(k 1, .int), (k 2, .int), (k 3, .boolean), (k 4, .int), (k 5, .int), (k 6, .int)] (se_WM k h) (F_M_becomes g p1) A) [.ref (h 0), .int p1].toArray s 0 0 A) (F0 m 40 ls []) := by
    intro gj40 v1_40 v2_40 H locs ls hI hF hP hD hS hl
    refine lv_aload_n hx hb dX6_becomes_40 rfl (lv_at hl 0 rfl) ?_
    refine se_cvE (va_runV (C := RX6) (As := []) (rest := []) ⟨hx, hb, hml, hown, hts⟩ (c_M_quiesce l D k h _ gj40) (se_kV 0 hts q_code_X6_quiesce qX6_m85 q_ini_StreamEndModel q_instanceMethod_X6_quiesce q_sel_X6_quiesce (by decide +kernel) ⟨Nat.le_of_ble_eq_true rfl, Nat.le_of_ble_eq_true rfl⟩ rfl rfl) ⟨se_blind se_ZN_ok, va_recv hK hP (ci := 6) (q0 := 0) rfl rfl, se_pre se_ZN_ok hP hK hD hZ⟩ rfl rfl hl.1 rfl (lv_room (Nat.le_of_ble_eq_true rfl)) dX6_becomes_41 ⟨Nat.zero_le _, Nat.zero_le _⟩) hD hS hA (fun g1 H locs eg1 hP hD hS => ?_)
    refine lv_aload_n hx hb dX6_becomes_44 rfl (lv_at hl 0 rfl) ?_
    refine lv_iload_n hx hb dX6_becomes_45 rfl (lv_at hl 2 rfl) ?_
    refine va_put (D := D) (ci := 6) (v := .int v2_40) (ty := .boolean) (C := RX6) (T := TX6) (N := 50) hx hb hts (se_iw iwX6) tyX6 tyX6_ok nmX6 hown hK hP hD hS 0 rfl rfl 33 (by decide) (hts _ (List.mem_cons_of_mem _ qX6_f112)) (fun _ h9 => h9) rfl (by decide +kernel) (se_nz hI) (se_fz hI) (Nat.le_of_ble_eq_true rfl) dX6_becomes_46 (fun H locs hP hD hS => ?_)
    replace hP : va_P D se_cl (se_WM k h (se_u g1 0 33 v2_40)) H := hP
    replace hD : va_D A (se_WM k h (se_u g1 0 33 v2_40)) := hD
    exact J49 (se_u g1 0 33 v2_40) v1_40 _ _ ls (by subst eg1; rw [← hF, F_M_becomes_j40]) hP hD hS (lv_sub hl [0, 1] rfl)
  have hF : F_M_becomes g p1 = F_M_becomes g p1 := rfl
  refine lv_aload_n hx hb dX6_becomes_0 rfl (lv_at hl 0 rfl) ?_
  refine lv_iload_n hx hb dX6_becomes_1 rfl (lv_at hl 1 rfl) ?_
  refine va_put (D := D) (ci := 6) (v := .int p1) (ty := .int) (C := RX6) (T := TX6) (N := 50) hx hb hts (se_iw iwX6) tyX6 tyX6_ok nmX6 hown hK hP hD hS 0 rfl rfl 4 (by decide) (hts _ (List.mem_cons_of_mem _ qX6_f118)) (fun _ h9 => h9) rfl (by decide +kernel) rfl rfl (Nat.le_of_ble_eq_true rfl) dX6_becomes_2 (fun H locs hP hD hS => ?_)
  replace hP : va_P D se_cl (se_WM k h (se_u g 0 4 p1)) H := hP
  replace hD : va_D A (se_WM k h (se_u g 0 4 p1)) := hD
  refine lv_aload_n hx hb dX6_becomes_5 rfl (lv_at hl 0 rfl) ?_
  refine va_get (D := D) (ci := 6) (v := .int (g 0 33)) (C := RX6) (T := TX6) (N := 50) hx hb hts (se_iw iwX6) hown hK hP 0 rfl rfl 33 (by decide) (hts _ (List.mem_cons_of_mem _ qX6_f112)) (fun _ h9 => h9) rfl dX6_becomes_6 ?_
  refine se_join (v := ((if (g 0 33) = 0 then 0 else ((if p1 = 10 then 1 else 0) : Int32)) : Int32)) (pcJ := 23) (restJ := []) (ls := ls) (fun T => ?_) ?_
  · refine lv_if_eq (tgt := 22) hx hb dX6_becomes_9 (by decide) (fun c2 => ?_) (fun c2 => ?_)
    · refine lv_iconst (v := 0) hx hb dX6_becomes_22 (by decide) ?_
      exact T _ (mo_ifp c2 rfl)
    · refine lv_iload_n hx hb dX6_becomes_12 rfl (lv_at hl 1 rfl) ?_
      refine lv_bipush (v := 10) hx hb dX6_becomes_13 (by decide) ?_
      refine lv_icmp_ne (tgt := 22) hx hb dX6_becomes_15 (by decide) (fun c3 => ?_) (fun c3 => ?_)
      · refine lv_iconst (v := 0) hx hb dX6_becomes_22 (by decide) ?_
        exact T _ (mo_ifn c2 (mo_ifn c3 rfl))
      · refine lv_iconst (v := 1) hx hb dX6_becomes_18 (by decide) ?_
        refine lv_goto (tgt := 23) hx hb dX6_becomes_19 (by decide) ?_
        exact T _ (mo_ifn c2 (mo_ifp c3 rfl))
  refine lv_istore_n (lv' := [(2, .int ((if (g 0 33) = 0 then 0 else ((if p1 = 10 then 1 else 0) : Int32)) : Int32)), (0, .ref (h 0)), (1, .int p1)]) hx hb dX6_becomes_23 rfl hl (by decide) rfl (fun ls hl => ?_)
  refine lv_iload_n hx hb dX6_becomes_24 rfl (lv_at hl 2 rfl) ?_
  refine lv_if_eq (tgt := 40) hx hb dX6_becomes_25 (by decide) (fun c4 => ?_) (fun c4 => ?_)
  · exact J40 (se_u g 0 4 p1) p1 ((if (g 0 33) = 0 then 0 else ((if p1 = 10 then 1 else 0) : Int32)) : Int32) _ _ ls (mo_b01 (Or.inl rfl) (mo_b01 (Or.inr rfl) (Or.inl rfl))) (by rw [F_M_becomes, if_pos (α := se_G) c4]) hP hD hS (lv_sub hl [1, 2, 0] rfl)
  · refine lv_iload_n hx hb dX6_becomes_28 rfl (lv_at hl 2 rfl) ?_
    refine lv_bipush (v := 11) hx hb dX6_becomes_29 (by decide) ?_
    refine lv_icmp_eq (tgt := 40) hx hb dX6_becomes_31 (by decide) (fun c6 => ?_) (fun c6 => ?_)
    · exact J40 (se_u g 0 4 p1) p1 ((if (g 0 33) = 0 then 0 else ((if p1 = 10 then 1 else 0) : Int32)) : Int32) _ _ ls (mo_b01 (Or.inl rfl) (mo_b01 (Or.inr rfl) (Or.inl rfl))) (by rw [F_M_becomes, if_neg (α := se_G) c4, if_pos (α := se_G) c6]) hP hD hS (lv_sub hl [1, 2, 0] rfl)
    · refine lv_iload_n hx hb dX6_becomes_34 rfl (lv_at hl 2 rfl) ?_
      refine lv_bipush (v := 10) hx hb dX6_becomes_35 (by decide) ?_
      refine lv_icmp_ne (tgt := 49) hx hb dX6_becomes_37 (by decide) (fun c7 => ?_) (fun c7 => ?_)
      · exact J49 (se_u g 0 4 p1) p1 _ _ ls (by rw [F_M_becomes, if_neg (α := se_G) c4, if_neg (α := se_G) c6, if_neg (α := se_G) c7]) hP hD hS (lv_sub hl [1, 2] rfl)
      · exact J40 (se_u g 0 4 p1) p1 ((if (g 0 33) = 0 then 0 else ((if p1 = 10 then 1 else 0) : Int32)) : Int32) _ _ ls (mo_b01 (Or.inl rfl) (mo_b01 (Or.inr rfl) (Or.inl rfl))) (by rw [F_M_becomes, if_neg (α := se_G) c4, if_neg (α := se_G) c6, if_pos (α := se_G) c7]) hP hD hS (lv_sub hl [1, 2, 0] rfl)
set_option maxRecDepth 100000 in
set_option maxHeartbeats 4000000 in
theorem c_M_close (l : Launch) (D : va_G) (k : Nat → ClassId) (h : Nat → Nat) (sz : Nat) (g : se_G)  : Met l yX6_close (se_w_X6_close) ({ frames := 2, cells := 0, slots := 0, locals := 42 }) (va_Pc [.ref (h 0)] (se_Pre D se_cl [(k 1, .int), (k 2, .int), (k 3, .boolean), (k 4, .int), (k 5, .int), (k 6, .int)] (se_WM k h g) se_ZN sz)) (se_Qv D se_cl [(k 1, .int), (k 2, .int), (k 3, .boolean), (k 4, .int), (k 5, .int), (k 6, .int)] (se_WM k h) (F_M_close g) (va_A (se_WM k h g) sz)) 0 0 (va_A (se_WM k h g) sz) := by
  refine se_met (Qc := se_Qv D se_cl [(k 1, .int), (k 2, .int), (k 3, .boolean), (k 4, .int), (k 5, .int), (k 6, .int)] (se_WM k h) (F_M_close g)) (cc := cX6_close) (maxL := 1) (ret := none) (by decide) rfl (Nat.le_of_ble_eq_true rfl) ?_
  intro p e s m below meth c ls A hx hb hr hts hown hlocks hml hA hP hK hD hS hZ hl
  replace hl : lv_has ls 1 [(0, .ref (h 0))] := hl
  have hF : F_M_close g = F_M_close g := rfl
  refine lv_aload_n hx hb dX6_close_0 rfl (lv_at hl 0 rfl) ?_
  refine lv_aload_n hx hb dX6_close_1 rfl (lv_at hl 0 rfl) ?_
  refine va_get (D := D) (ci := 6) (v := .int (g 0 6)) (C := RX6) (T := TX6) (N := 50) hx hb hts (se_iw iwX6) hown hK hP 0 rfl rfl 6 (by decide) (hts _ (List.mem_cons_of_mem _ qX6_f82)) (fun _ h9 => h9) rfl dX6_close_2 ?_
  refine se_join (v := ((if (g 0 6) = 0 then ((if (g 0 4) = 0 then 1 else ((if (g 0 4) = 11 then 1 else 0) : Int32)) : Int32) else 1) : Int32)) (pcJ := 29) (restJ := [.ref (h 0)]) (ls := ls) (fun T => ?_) ?_
  · refine lv_if_ne (tgt := 24) hx hb dX6_close_5 (by decide) (fun c2 => ?_) (fun c2 => ?_)
    · refine lv_iconst (v := 1) hx hb dX6_close_24 (by decide) ?_
      refine lv_goto (tgt := 29) hx hb dX6_close_25 (by decide) ?_
      exact T _ (mo_ifn c2 rfl)
    · refine lv_aload_n hx hb dX6_close_8 rfl (lv_at hl 0 rfl) ?_
      refine va_get (D := D) (ci := 6) (v := .int (g 0 4)) (C := RX6) (T := TX6) (N := 50) hx hb hts (se_iw iwX6) hown hK hP 0 rfl rfl 4 (by decide) (hts _ (List.mem_cons_of_mem _ qX6_f118)) (fun _ h9 => h9) rfl dX6_close_9 ?_
      refine lv_if_eq (tgt := 24) hx hb dX6_close_12 (by decide) (fun c3 => ?_) (fun c3 => ?_)
      · refine lv_iconst (v := 1) hx hb dX6_close_24 (by decide) ?_
        refine lv_goto (tgt := 29) hx hb dX6_close_25 (by decide) ?_
        exact T _ (mo_ifp c2 (mo_ifp c3 rfl))
      · refine lv_aload_n hx hb dX6_close_15 rfl (lv_at hl 0 rfl) ?_
        refine va_get (D := D) (ci := 6) (v := .int (g 0 4)) (C := RX6) (T := TX6) (N := 50) hx hb hts (se_iw iwX6) hown hK hP 0 rfl rfl 4 (by decide) (hts _ (List.mem_cons_of_mem _ qX6_f118)) (fun _ h9 => h9) rfl dX6_close_16 ?_
        refine lv_bipush (v := 11) hx hb dX6_close_19 (by decide) ?_
        refine lv_icmp_ne (tgt := 28) hx hb dX6_close_21 (by decide) (fun c4 => ?_) (fun c4 => ?_)
        · refine lv_iconst (v := 0) hx hb dX6_close_28 (by decide) ?_
          exact T _ (mo_ifp c2 (mo_ifn c3 (mo_ifn c4 rfl)))
        · refine lv_iconst (v := 1) hx hb dX6_close_24 (by decide) ?_
          refine lv_goto (tgt := 29) hx hb dX6_close_25 (by decide) ?_
          exact T _ (mo_ifp c2 (mo_ifn c3 (mo_ifp c4 rfl)))
  refine va_put (D := D) (ci := 6) (v := .int ((if (g 0 6) = 0 then ((if (g 0 4) = 0 then 1 else ((if (g 0 4) = 11 then 1 else 0) : Int32)) : Int32) else 1) : Int32)) (ty := .int) (C := RX6) (T := TX6) (N := 50) hx hb hts (se_iw iwX6) tyX6 tyX6_ok nmX6 hown hK hP hD hS 0 rfl rfl 2 (by decide) (hts _ (List.mem_cons_of_mem _ qX6_f45)) (fun _ h9 => h9) rfl (by decide +kernel) rfl rfl (Nat.le_of_ble_eq_true rfl) dX6_close_29 (fun H locs hP hD hS => ?_)
  replace hP : va_P D se_cl (se_WM k h (se_u g 0 2 ((if (g 0 6) = 0 then ((if (g 0 4) = 0 then 1 else ((if (g 0 4) = 11 then 1 else 0) : Int32)) : Int32) else 1) : Int32))) H := hP
  replace hD : va_D A (se_WM k h (se_u g 0 2 ((if (g 0 6) = 0 then ((if (g 0 4) = 0 then 1 else ((if (g 0 4) = 11 then 1 else 0) : Int32)) : Int32) else 1) : Int32))) := hD
  refine lv_aload_n hx hb dX6_close_32 rfl (lv_at hl 0 rfl) ?_
  refine va_get (D := D) (ci := 6) (v := .int ((if (g 0 6) = 0 then ((if (g 0 4) = 0 then 1 else ((if (g 0 4) = 11 then 1 else 0) : Int32)) : Int32) else 1) : Int32)) (C := RX6) (T := TX6) (N := 50) hx hb hts (se_iw iwX6) hown hK hP 0 rfl rfl 2 (by decide) (hts _ (List.mem_cons_of_mem _ qX6_f45)) (fun _ h9 => h9) rfl dX6_close_33 ?_
  refine lv_if_le (tgt := 40) hx hb dX6_close_36 (by decide) (fun c5 => ?_) (fun c5 => ?_)
  · refine lv_aload_n hx hb dX6_close_40 rfl (lv_at hl 0 rfl) ?_
    refine lv_iconst (v := 1) hx hb dX6_close_41 (by decide) ?_
    refine va_put (D := D) (ci := 6) (v := .int 1) (ty := .boolean) (C := RX6) (T := TX6) (N := 50) hx hb hts (se_iw iwX6) tyX6 tyX6_ok nmX6 hown hK hP hD hS 0 rfl rfl 6 (by decide) (hts _ (List.mem_cons_of_mem _ qX6_f82)) (fun _ h9 => h9) rfl (by decide +kernel) rfl rfl (Nat.le_of_ble_eq_true rfl) dX6_close_42 (fun H locs hP hD hS => ?_)
    replace hP : va_P D se_cl (se_WM k h (se_u (se_u g 0 2 ((if (g 0 6) = 0 then ((if (g 0 4) = 0 then 1 else ((if (g 0 4) = 11 then 1 else 0) : Int32)) : Int32) else 1) : Int32)) 0 6 1)) H := hP
    replace hD : va_D A (se_WM k h (se_u (se_u g 0 2 ((if (g 0 6) = 0 then ((if (g 0 4) = 0 then 1 else ((if (g 0 4) = 11 then 1 else 0) : Int32)) : Int32) else 1) : Int32)) 0 6 1)) := hD
    refine lv_aload_n hx hb dX6_close_45 rfl (lv_at hl 0 rfl) ?_
    refine va_get (D := D) (ci := 6) (v := .int (g 0 4)) (C := RX6) (T := TX6) (N := 50) hx hb hts (se_iw iwX6) hown hK hP 0 rfl rfl 4 (by decide) (hts _ (List.mem_cons_of_mem _ qX6_f118)) (fun _ h9 => h9) rfl dX6_close_46 ?_
    refine lv_iconst (v := 1) hx hb dX6_close_49 (by decide) ?_
    refine lv_icmp_eq (tgt := 61) hx hb dX6_close_50 (by decide) (fun c6 => ?_) (fun c6 => ?_)
    · refine lv_aload_n hx hb dX6_close_61 rfl (lv_at hl 0 rfl) ?_
      refine lv_iconst (v := 0) hx hb dX6_close_62 (by decide) ?_
      refine se_cvE (va_runV (C := RX6) (As := [.int 0]) (rest := []) ⟨hx, hb, hml, hown, hts⟩ (c_M_becomes l D k h _ (se_u (se_u g 0 2 ((if (g 0 6) = 0 then ((if (g 0 4) = 0 then 1 else ((if (g 0 4) = 11 then 1 else 0) : Int32)) : Int32) else 1) : Int32)) 0 6 1) 0) (se_kV 1 hts q_code_X6_becomes qX6_m147 q_ini_StreamEndModel q_instanceMethod_X6_becomes q_sel_X6_becomes (by decide +kernel) ⟨Nat.le_of_ble_eq_true rfl, Nat.le_of_ble_eq_true rfl⟩ rfl rfl) ⟨se_blind se_ZN_ok, va_recv hK hP (ci := 6) (q0 := 0) rfl rfl, se_pre se_ZN_ok hP hK hD hZ⟩ rfl rfl hl.1 rfl (lv_room (Nat.le_of_ble_eq_true rfl)) dX6_close_63 ⟨Nat.zero_le _, Nat.zero_le _⟩) hD hS hA (fun g1 H locs eg1 hP hD hS => ?_)
      refine lv_goto (tgt := 100) hx hb dX6_close_66 (by decide) ?_
      refine lv_aload_n hx hb dX6_close_100 rfl (lv_at hl 0 rfl) ?_
      refine se_cvE (va_runV (C := RX6) (As := []) (rest := []) ⟨hx, hb, hml, hown, hts⟩ (c_M_watch l D k h _ g1) (se_kV 0 hts q_code_X6_watch qX6_m136 q_ini_StreamEndModel q_instanceMethod_X6_watch q_sel_X6_watch (by decide +kernel) ⟨Nat.le_of_ble_eq_true rfl, Nat.le_of_ble_eq_true rfl⟩ rfl rfl) ⟨se_blind se_ZN_ok, va_recv hK hP (ci := 6) (q0 := 0) rfl rfl, se_pre se_ZN_ok hP hK hD hZ⟩ rfl rfl hl.1 rfl (lv_room (Nat.le_of_ble_eq_true rfl)) dX6_close_101 ⟨Nat.zero_le _, Nat.zero_le _⟩) hD hS hA (fun g2 H locs eg2 hP hD hS => ?_)
      exact se_rv hx hb hr hlocks hK hP hD hS dX6_close_104 (by subst eg1; subst eg2; rw [F_M_close, if_pos (α := se_G) c5, if_pos (α := se_G) c6])
    · refine lv_aload_n hx hb dX6_close_53 rfl (lv_at hl 0 rfl) ?_
      refine va_get (D := D) (ci := 6) (v := .int (g 0 4)) (C := RX6) (T := TX6) (N := 50) hx hb hts (se_iw iwX6) hown hK hP 0 rfl rfl 4 (by decide) (hts _ (List.mem_cons_of_mem _ qX6_f118)) (fun _ h9 => h9) rfl dX6_close_54 ?_
      refine lv_iconst (v := 2) hx hb dX6_close_57 (by decide) ?_
      refine lv_icmp_ne (tgt := 69) hx hb dX6_close_58 (by decide) (fun c7 => ?_) (fun c7 => ?_)
      · refine lv_aload_n hx hb dX6_close_69 rfl (lv_at hl 0 rfl) ?_
        refine va_get (D := D) (ci := 6) (v := .int (g 0 4)) (C := RX6) (T := TX6) (N := 50) hx hb hts (se_iw iwX6) hown hK hP 0 rfl rfl 4 (by decide) (hts _ (List.mem_cons_of_mem _ qX6_f118)) (fun _ h9 => h9) rfl dX6_close_70 ?_
        refine lv_iconst (v := 4) hx hb dX6_close_73 (by decide) ?_
        refine lv_icmp_ne (tgt := 85) hx hb dX6_close_74 (by decide) (fun c8 => ?_) (fun c8 => ?_)
        · refine lv_aload_n hx hb dX6_close_85 rfl (lv_at hl 0 rfl) ?_
          refine va_get (D := D) (ci := 6) (v := .int (g 0 4)) (C := RX6) (T := TX6) (N := 50) hx hb hts (se_iw iwX6) hown hK hP 0 rfl rfl 4 (by decide) (hts _ (List.mem_cons_of_mem _ qX6_f118)) (fun _ h9 => h9) rfl dX6_close_86 ?_
          refine lv_bipush (v := 7) hx hb dX6_close_89 (by decide) ?_
          refine lv_icmp_ne (tgt := 100) hx hb dX6_close_91 (by decide) (fun c9 => ?_) (fun c9 => ?_)
          · refine lv_aload_n hx hb dX6_close_100 rfl (lv_at hl 0 rfl) ?_
            refine se_cvE (va_runV (C := RX6) (As := []) (rest := []) ⟨hx, hb, hml, hown, hts⟩ (c_M_watch l D k h _ (se_u (se_u g 0 2 ((if (g 0 6) = 0 then ((if (g 0 4) = 0 then 1 else ((if (g 0 4) = 11 then 1 else 0) : Int32)) : Int32) else 1) : Int32)) 0 6 1)) (se_kV 0 hts q_code_X6_watch qX6_m136 q_ini_StreamEndModel q_instanceMethod_X6_watch q_sel_X6_watch (by decide +kernel) ⟨Nat.le_of_ble_eq_true rfl, Nat.le_of_ble_eq_true rfl⟩ rfl rfl) ⟨se_blind se_ZN_ok, va_recv hK hP (ci := 6) (q0 := 0) rfl rfl, se_pre se_ZN_ok hP hK hD hZ⟩ rfl rfl hl.1 rfl (lv_room (Nat.le_of_ble_eq_true rfl)) dX6_close_101 ⟨Nat.zero_le _, Nat.zero_le _⟩) hD hS hA (fun g3 H locs eg3 hP hD hS => ?_)
            exact se_rv hx hb hr hlocks hK hP hD hS dX6_close_104 (by subst eg3; rw [F_M_close, if_pos (α := se_G) c5, if_neg (α := se_G) c6, if_neg (α := se_G) c7, if_neg (α := se_G) c8, if_neg (α := se_G) c9])
          · refine lv_aload_n hx hb dX6_close_94 rfl (lv_at hl 0 rfl) ?_
            refine lv_bipush (v := 9) hx hb dX6_close_95 (by decide) ?_
            refine se_cvE (va_runV (C := RX6) (As := [.int 9]) (rest := []) ⟨hx, hb, hml, hown, hts⟩ (c_M_becomes l D k h _ (se_u (se_u g 0 2 ((if (g 0 6) = 0 then ((if (g 0 4) = 0 then 1 else ((if (g 0 4) = 11 then 1 else 0) : Int32)) : Int32) else 1) : Int32)) 0 6 1) 9) (se_kV 1 hts q_code_X6_becomes qX6_m147 q_ini_StreamEndModel q_instanceMethod_X6_becomes q_sel_X6_becomes (by decide +kernel) ⟨Nat.le_of_ble_eq_true rfl, Nat.le_of_ble_eq_true rfl⟩ rfl rfl) ⟨se_blind se_ZN_ok, va_recv hK hP (ci := 6) (q0 := 0) rfl rfl, se_pre se_ZN_ok hP hK hD hZ⟩ rfl rfl hl.1 rfl (lv_room (Nat.le_of_ble_eq_true rfl)) dX6_close_97 ⟨Nat.zero_le _, Nat.zero_le _⟩) hD hS hA (fun g4 H locs eg4 hP hD hS => ?_)
            refine lv_aload_n hx hb dX6_close_100 rfl (lv_at hl 0 rfl) ?_
            refine se_cvE (va_runV (C := RX6) (As := []) (rest := []) ⟨hx, hb, hml, hown, hts⟩ (c_M_watch l D k h _ g4) (se_kV 0 hts q_code_X6_watch qX6_m136 q_ini_StreamEndModel q_instanceMethod_X6_watch q_sel_X6_watch (by decide +kernel) ⟨Nat.le_of_ble_eq_true rfl, Nat.le_of_ble_eq_true rfl⟩ rfl rfl) ⟨se_blind se_ZN_ok, va_recv hK hP (ci := 6) (q0 := 0) rfl rfl, se_pre se_ZN_ok hP hK hD hZ⟩ rfl rfl hl.1 rfl (lv_room (Nat.le_of_ble_eq_true rfl)) dX6_close_101 ⟨Nat.zero_le _, Nat.zero_le _⟩) hD hS hA (fun g5 H locs eg5 hP hD hS => ?_)
            exact se_rv hx hb hr hlocks hK hP hD hS dX6_close_104 (by subst eg4; subst eg5; rw [F_M_close, if_pos (α := se_G) c5, if_neg (α := se_G) c6, if_neg (α := se_G) c7, if_neg (α := se_G) c8, if_pos (α := se_G) c9])
        · refine lv_aload_n hx hb dX6_close_77 rfl (lv_at hl 0 rfl) ?_
          refine lv_iconst (v := 5) hx hb dX6_close_78 (by decide) ?_
          refine se_cvE (va_runV (C := RX6) (As := [.int 5]) (rest := []) ⟨hx, hb, hml, hown, hts⟩ (c_M_becomes l D k h _ (se_u (se_u g 0 2 ((if (g 0 6) = 0 then ((if (g 0 4) = 0 then 1 else ((if (g 0 4) = 11 then 1 else 0) : Int32)) : Int32) else 1) : Int32)) 0 6 1) 5) (se_kV 1 hts q_code_X6_becomes qX6_m147 q_ini_StreamEndModel q_instanceMethod_X6_becomes q_sel_X6_becomes (by decide +kernel) ⟨Nat.le_of_ble_eq_true rfl, Nat.le_of_ble_eq_true rfl⟩ rfl rfl) ⟨se_blind se_ZN_ok, va_recv hK hP (ci := 6) (q0 := 0) rfl rfl, se_pre se_ZN_ok hP hK hD hZ⟩ rfl rfl hl.1 rfl (lv_room (Nat.le_of_ble_eq_true rfl)) dX6_close_79 ⟨Nat.zero_le _, Nat.zero_le _⟩) hD hS hA (fun g6 H locs eg6 hP hD hS => ?_)
          refine lv_goto (tgt := 100) hx hb dX6_close_82 (by decide) ?_
          refine lv_aload_n hx hb dX6_close_100 rfl (lv_at hl 0 rfl) ?_
          refine se_cvE (va_runV (C := RX6) (As := []) (rest := []) ⟨hx, hb, hml, hown, hts⟩ (c_M_watch l D k h _ g6) (se_kV 0 hts q_code_X6_watch qX6_m136 q_ini_StreamEndModel q_instanceMethod_X6_watch q_sel_X6_watch (by decide +kernel) ⟨Nat.le_of_ble_eq_true rfl, Nat.le_of_ble_eq_true rfl⟩ rfl rfl) ⟨se_blind se_ZN_ok, va_recv hK hP (ci := 6) (q0 := 0) rfl rfl, se_pre se_ZN_ok hP hK hD hZ⟩ rfl rfl hl.1 rfl (lv_room (Nat.le_of_ble_eq_true rfl)) dX6_close_101 ⟨Nat.zero_le _, Nat.zero_le _⟩) hD hS hA (fun g7 H locs eg7 hP hD hS => ?_)
          exact se_rv hx hb hr hlocks hK hP hD hS dX6_close_104 (by subst eg6; subst eg7; rw [F_M_close, if_pos (α := se_G) c5, if_neg (α := se_G) c6, if_neg (α := se_G) c7, if_pos (α := se_G) c8])
      · refine lv_aload_n hx hb dX6_close_61 rfl (lv_at hl 0 rfl) ?_
        refine lv_iconst (v := 0) hx hb dX6_close_62 (by decide) ?_
        refine se_cvE (va_runV (C := RX6) (As := [.int 0]) (rest := []) ⟨hx, hb, hml, hown, hts⟩ (c_M_becomes l D k h _ (se_u (se_u g 0 2 ((if (g 0 6) = 0 then ((if (g 0 4) = 0 then 1 else ((if (g 0 4) = 11 then 1 else 0) : Int32)) : Int32) else 1) : Int32)) 0 6 1) 0) (se_kV 1 hts q_code_X6_becomes qX6_m147 q_ini_StreamEndModel q_instanceMethod_X6_becomes q_sel_X6_becomes (by decide +kernel) ⟨Nat.le_of_ble_eq_true rfl, Nat.le_of_ble_eq_true rfl⟩ rfl rfl) ⟨se_blind se_ZN_ok, va_recv hK hP (ci := 6) (q0 := 0) rfl rfl, se_pre se_ZN_ok hP hK hD hZ⟩ rfl rfl hl.1 rfl (lv_room (Nat.le_of_ble_eq_true rfl)) dX6_close_63 ⟨Nat.zero_le _, Nat.zero_le _⟩) hD hS hA (fun g8 H locs eg8 hP hD hS => ?_)
        refine lv_goto (tgt := 100) hx hb dX6_close_66 (by decide) ?_
        refine lv_aload_n hx hb dX6_close_100 rfl (lv_at hl 0 rfl) ?_
        refine se_cvE (va_runV (C := RX6) (As := []) (rest := []) ⟨hx, hb, hml, hown, hts⟩ (c_M_watch l D k h _ g8) (se_kV 0 hts q_code_X6_watch qX6_m136 q_ini_StreamEndModel q_instanceMethod_X6_watch q_sel_X6_watch (by decide +kernel) ⟨Nat.le_of_ble_eq_true rfl, Nat.le_of_ble_eq_true rfl⟩ rfl rfl) ⟨se_blind se_ZN_ok, va_recv hK hP (ci := 6) (q0 := 0) rfl rfl, se_pre se_ZN_ok hP hK hD hZ⟩ rfl rfl hl.1 rfl (lv_room (Nat.le_of_ble_eq_true rfl)) dX6_close_101 ⟨Nat.zero_le _, Nat.zero_le _⟩) hD hS hA (fun g9 H locs eg9 hP hD hS => ?_)
        exact se_rv hx hb hr hlocks hK hP hD hS dX6_close_104 (by subst eg8; subst eg9; rw [F_M_close, if_pos (α := se_G) c5, if_neg (α := se_G) c6, if_pos (α := se_G) c7])
  · exact se_rv hx hb hr hlocks hK hP hD hS dX6_close_39 (by rw [F_M_close, if_neg (α := se_G) c5])
