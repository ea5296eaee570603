/-! written by program (wip/gen) -/
set_option maxRecDepth 100000 in
set_option maxHeartbeats 4000000 in
theorem c_M_sent (l : Launch) (D : va_G) (k : Nat → ClassId) (h : Nat → Nat) (sz : Nat) (g : se_G) (p1 : Int32) (p2 : Int32) : Met l yX6_sent (se_w_X6_sent) ({ frames := 0, cells := 0, slots := 0, locals := 0 }) (va_Pc [.ref (h 0), .int p1, .int p2] (se_Pre D se_cl [(k 1, .int), (k 2, .int), (k 3, .boolean), (k 4, .int), (k 5, .int), (k 6, .int)] (se_WM k h g) se_ZN sz)) (se_Qv D se_cl [(k 1, .int), (k 2, .int), (k 3, .boolean), (k 4, .int), (k 5, .int), (k 6, .int)] (se_WM k h) (F_M_sent g p1 p2) (va_A (se_WM k h g) sz)) 0 0 (va_A (se_WM k h g) sz) := by
  refine se_met (Qc := se_Qv D se_cl [(k 1, .int), (k 2, .int), (k 3, .boolean), (k 4, .int), (k 5, .int), (k 6, .int)] (se_WM k h) (F_M_sent g p1 p2)) (cc := cX6_sent) (maxL := 3) (ret := none) (by decide) rfl (Nat.le_of_ble_eq_true rfl) ?_
  intro p e s m below meth c ls A hx hb hr hts hown hlocks hml hA hP hK hD hS hZ hl
  replace hl : lv_has ls 3 [(0, .ref (h 0)), (1, .int p1), (2, .int p2)] := hl
  have J37 : ∀ (gj37 : se_G) (H : Heap) (locs : List Loc) (ls : Array Slot), F_M_sent_j37 gj37 = F_M_sent g p1 p2 → va_P D se_cl (se_WM k h gj37) H → va_D A (se_WM k h gj37) → va_S A s.heap H locs → lv_has ls 3 [(0, .ref (h 0))] → W p l e ({ frames := 0, cells := 0, slots := 0, locals := 0 }) s m [.ref (h 0), .int p1, .int p2].toArray below meth c H locs 0 0 (MQ below (se_Qv D se_cl [(k 1, .int), (k 2, .int), (k 3, .boolean), (k 4, .int), (k 5, .int), (k 6, .int)] (se_WM k h) (F_M_sent g p1 p2) A) [.ref (h 0), .int p1, .int p2].toArray s 0 0 A) (F0 m 37 ls []) := by
    intro gj37 H locs ls hF hP hD hS hl
    refine lv_aload_n hx hb dX6_sent_37 rfl (lv_at hl 0 rfl) ?_
    refine lv_aload_n hx hb dX6_sent_38 rfl (lv_at hl 0 rfl) ?_
    refine va_get (D := D) (ci := 6) (v := .int (gj37 0 34)) (C := RX6) (T := TX6) (N := 50) hx hb hts (se_iw iwX6) hown hK hP 0 rfl rfl 34 (by decide) (hts _ (List.mem_cons_of_mem _ qX6_f20)) (fun _ h9 => h9) rfl dX6_sent_39 ?_
    refine se_join (v := ((if 0 ≤ (gj37 0 34) then (gj37 0 34) else ((gj37 0 3) + (gj37 0 35))) : Int32)) (pcJ := 61) (restJ := [.ref (h 0)]) (ls := ls) (fun T => ?_) ?_
    · refine lv_if_ge (tgt := 57) hx hb dX6_sent_42 (by decide) (fun c4 => ?_) (fun c4 => ?_)
      · refine lv_aload_n hx hb dX6_sent_57 rfl (lv_at hl 0 rfl) ?_
        refine va_get (D := D) (ci := 6) (v := .int (gj37 0 34)) (C := RX6) (T := TX6) (N := 50) hx hb hts (se_iw iwX6) hown hK hP 0 rfl rfl 34 (by decide) (hts _ (List.mem_cons_of_mem _ qX6_f20)) (fun _ h9 => h9) rfl dX6_sent_58 ?_
        exact T _ (mo_ifp c4 rfl)
      · refine lv_aload_n hx hb dX6_sent_45 rfl (lv_at hl 0 rfl) ?_
        refine va_get (D := D) (ci := 6) (v := .int (gj37 0 3)) (C := RX6) (T := TX6) (N := 50) hx hb hts (se_iw iwX6) hown hK hP 0 rfl rfl 3 (by decide) (hts _ (List.mem_cons_of_mem _ qX6_f121)) (fun _ h9 => h9) rfl dX6_sent_46 ?_
        refine lv_aload_n hx hb dX6_sent_49 rfl (lv_at hl 0 rfl) ?_
        refine va_get (D := D) (ci := 6) (v := .int (gj37 0 35)) (C := RX6) (T := TX6) (N := 50) hx hb hts (se_iw iwX6) hown hK hP 0 rfl rfl 35 (by decide) (hts _ (List.mem_cons_of_mem _ qX6_f24)) (fun _ h9 => h9) rfl dX6_sent_50 ?_
        refine lv_iadd hx hb dX6_sent_53 ?_
        refine lv_goto (tgt := 61) hx hb dX6_sent_54 (by decide) ?_
        exact T _ (mo_ifn c4 rfl)
    refine va_put (D := D) (ci := 6) (v := .int ((if 0 ≤ (gj37 0 34) then (gj37 0 34) else ((gj37 0 3) + (gj37 0 35))) : Int32)) (ty := .int) (C := RX6) (T := TX6) (N := 50) hx hb hts (se_iw iwX6) tyX6 tyX6_ok nmX6 hown hK hP hD hS 0 rfl rfl 34 (by decide) (hts _ (List.mem_cons_of_mem _ qX6_f20)) (fun _ h9 => h9) rfl (by decide +kernel) rfl rfl (Nat.le_of_ble_eq_true rfl) dX6_sent_61 (fun H locs hP hD hS => ?_)
    replace hP : va_P D se_cl (se_WM k h (se_u gj37 0 34 ((if 0 ≤ (gj37 0 34) then (gj37 0 34) else ((gj37 0 3) + (gj37 0 35))) : Int32))) H := hP
    replace hD : va_D A (se_WM k h (se_u gj37 0 34 ((if 0 ≤ (gj37 0 34) then (gj37 0 34) else ((gj37 0 3) + (gj37 0 35))) : Int32))) := hD
    exact se_rv hx hb hr hlocks hK hP hD hS dX6_sent_64 (by rw [← hF, F_M_sent_j37])
  have hF : F_M_sent g p1 p2 = F_M_sent g p1 p2 := rfl
  refine lv_iload_n hx hb dX6_sent_0 rfl (lv_at hl 2 rfl) ?_
  refine lv_if_ne (tgt := 12) hx hb dX6_sent_1 (by decide) (fun c1 => ?_) (fun c1 => ?_)
  · refine lv_aload_n hx hb dX6_sent_12 rfl (lv_at hl 0 rfl) ?_
    refine va_get (D := D) (ci := 6) (v := .int (g 0 37)) (C := RX6) (T := TX6) (N := 50) hx hb hts (se_iw iwX6) hown hK hP 0 rfl rfl 37 (by decide) (hts _ (List.mem_cons_of_mem _ qX6_f115)) (fun _ h9 => h9) rfl dX6_sent_13 ?_
    refine lv_if_ne (tgt := 37) hx hb dX6_sent_16 (by decide) (fun c2 => ?_) (fun c2 => ?_)
    · exact J37 g _ _ ls (by rw [F_M_sent, if_neg (α := se_G) c1, if_neg (α := se_G) c2]) hP hD hS (lv_sub hl [0] rfl)
    · refine lv_aload_n hx hb dX6_sent_19 rfl (lv_at hl 0 rfl) ?_
      refine lv_iconst (v := 1) hx hb dX6_sent_20 (by decide) ?_
      refine va_put (D := D) (ci := 6) (v := .int 1) (ty := .boolean) (C := RX6) (T := TX6) (N := 50) hx hb hts (se_iw iwX6) tyX6 tyX6_ok nmX6 hown hK hP hD hS 0 rfl rfl 37 (by decide) (hts _ (List.mem_cons_of_mem _ qX6_f115)) (fun _ h9 => h9) rfl (by decide +kernel) rfl rfl (Nat.le_of_ble_eq_true rfl) dX6_sent_21 (fun H locs hP hD hS => ?_)
      replace hP : va_P D se_cl (se_WM k h (se_u g 0 37 1)) H := hP
      replace hD : va_D A (se_WM k h (se_u g 0 37 1)) := hD
      refine lv_aload_n hx hb dX6_sent_24 rfl (lv_at hl 0 rfl) ?_
      refine lv_iload_n hx hb dX6_sent_25 rfl (lv_at hl 1 rfl) ?_
      refine va_put (D := D) (ci := 6) (v := .int p1) (ty := .int) (C := RX6) (T := TX6) (N := 50) hx hb hts (se_iw iwX6) tyX6 tyX6_ok nmX6 hown hK hP hD hS 0 rfl rfl 38 (by decide) (hts _ (List.mem_cons_of_mem _ qX6_f203)) (fun _ h9 => h9) rfl (by decide +kernel) rfl rfl (Nat.le_of_ble_eq_true rfl) dX6_sent_26 (fun H locs hP hD hS => ?_)
      replace hP : va_P D se_cl (se_WM k h (se_u (se_u g 0 37 1) 0 38 p1)) H := hP
      replace hD : va_D A (se_WM k h (se_u (se_u g 0 37 1) 0 38 p1)) := hD
      refine lv_aload_n hx hb dX6_sent_29 rfl (lv_at hl 0 rfl) ?_
      refine lv_aload_n hx hb dX6_sent_30 rfl (lv_at hl 0 rfl) ?_
      refine va_get (D := D) (ci := 6) (v := .int (g 0 3)) (C := RX6) (T := TX6) (N := 50) hx hb hts (se_iw iwX6) hown hK hP 0 rfl rfl 3 (by decide) (hts _ (List.mem_cons_of_mem _ qX6_f121)) (fun _ h9 => h9) rfl dX6_sent_31 ?_
      refine va_put (D := D) (ci := 6) (v := .int (g 0 3)) (ty := .int) (C := RX6) (T := TX6) (N := 50) hx hb hts (se_iw iwX6) tyX6 tyX6_ok nmX6 hown hK hP hD hS 0 rfl rfl 39 (by decide) (hts _ (List.mem_cons_of_mem _ qX6_f206)) (fun _ h9 => h9) rfl (by decide +kernel) rfl rfl (Nat.le_of_ble_eq_true rfl) dX6_sent_34 (fun H locs hP hD hS => ?_)
      replace hP : va_P D se_cl (se_WM k h (se_u (se_u (se_u g 0 37 1) 0 38 p1) 0 39 (g 0 3))) H := hP
      replace hD : va_D A (se_WM k h (se_u (se_u (se_u g 0 37 1) 0 38 p1) 0 39 (g 0 3))) := hD
      exact J37 (se_u (se_u (se_u g 0 37 1) 0 38 p1) 0 39 (g 0 3)) _ _ ls (by rw [F_M_sent, if_neg (α := se_G) c1, if_pos (α := se_G) c2]) hP hD hS (lv_sub hl [0] rfl)
  · refine lv_aload_n hx hb dX6_sent_4 rfl (lv_at hl 0 rfl) ?_
    refine lv_iconst (v := 0) hx hb dX6_sent_5 (by decide) ?_
    refine va_put (D := D) (ci := 6) (v := .int 0) (ty := .boolean) (C := RX6) (T := TX6) (N := 50) hx hb hts (se_iw iwX6) tyX6 tyX6_ok nmX6 hown hK hP hD hS 0 rfl rfl 37 (by decide) (hts _ (List.mem_cons_of_mem _ qX6_f115)) (fun _ h9 => h9) rfl (by decide +kernel) rfl rfl (Nat.le_of_ble_eq_true rfl) dX6_sent_6 (fun H locs hP hD hS => ?_)
    replace hP : va_P D se_cl (se_WM k h (se_u g 0 37 0)) H := hP
    replace hD : va_D A (se_WM k h (se_u g 0 37 0)) := hD
    refine lv_goto (tgt := 37) hx hb dX6_sent_9 (by decide) ?_
    exact J37 (se_u g 0 37 0) _ _ ls (by rw [F_M_sent, if_pos (α := se_G) c1]) hP hD hS (lv_sub hl [0] rfl)
set_option maxRecDepth 100000 in
set_option maxHeartbeats 4000000 in
theorem c_M_sendNew (l : Launch) (D : va_G) (k : Nat → ClassId) (h : Nat → Nat) (sz : Nat) (g : se_G) (p1 : Int32) (p2 : Int32) (hI : mo_tb (g 0 10 - g 0 14) p1) : Met l yX6_sendNew (se_w_X6_sendNew) ({ frames := 2, cells := 0, slots := 0, locals := 49 }) (va_Pc [.ref (h 0), .int p1, .int p2] (se_Pre D se_cl [(k 1, .int), (k 2, .int), (k 3, .boolean), (k 4, .int), (k 5, .int), (k 6, .int)] (se_WM k h g) se_ZN sz)) (se_Qv D se_cl [(k 1, .int), (k 2, .int), (k 3, .boolean), (k 4, .int), (k 5, .int), (k 6, .int)] (se_WM k h) (F_M_sendNew g p1 p2) (va_A (se_WM k h g) sz)) 0 0 (va_A (se_WM k h g) sz) := by
  refine se_met (Qc := se_Qv D se_cl [(k 1, .int), (k 2, .int), (k 3, .boolean), (k 4, .int), (k 5, .int), (k 6, .int)] (se_WM k h) (F_M_sendNew g p1 p2)) (cc := cX6_sendNew) (maxL := 3) (ret := none) (by decide) rfl (Nat.le_of_ble_eq_true rfl) ?_
  intro p e s m below meth c ls A hx hb hr hts hown hlocks hml hA hP hK hD hS hZ hl
  replace hl : lv_has ls 3 [(0, .ref (h 0)), (1, .int p1), (2, .int p2)] := hl
  have hF : F_M_sendNew g p1 p2 = F_M_sendNew g p1 p2 := rfl
  refine lv_aload_n hx hb dX6_sendNew_0 rfl (lv_at hl 0 rfl) ?_
  refine lv_iload_n hx hb dX6_sendNew_1 rfl (lv_at hl 2 rfl) ?_
  refine se_join (v := ((if p2 = 0 then 0 else 2) : Int32)) (pcJ := 10) (restJ := [.ref (h 0)]) (ls := ls) (fun T => ?_) ?_
  · refine lv_if_eq (tgt := 9) hx hb dX6_sendNew_2 (by decide) (fun c2 => ?_) (fun c2 => ?_)
    · refine lv_iconst (v := 0) hx hb dX6_sendNew_9 (by decide) ?_
      exact T _ (mo_ifp c2 rfl)
    · refine lv_iconst (v := 2) hx hb dX6_sendNew_5 (by decide) ?_
      refine lv_goto (tgt := 10) hx hb dX6_sendNew_6 (by decide) ?_
      exact T _ (mo_ifn c2 rfl)
  refine lv_aload_n hx hb dX6_sendNew_10 rfl (lv_at hl 0 rfl) ?_
  refine va_get (D := D) (ci := 6) (v := .int (g 0 10)) (C := RX6) (T := TX6) (N := 50) hx hb hts (se_iw iwX6) hown hK hP 0 rfl rfl 10 (by decide) (hts _ (List.mem_cons_of_mem _ qX6_f54)) (fun _ h9 => h9) rfl dX6_sendNew_11 ?_
  refine lv_iload_n hx hb dX6_sendNew_14 rfl (lv_at hl 1 rfl) ?_
  refine se_cvE (va_runV (C := RX6) (As := [.int ((if p2 = 0 then 0 else 2) : Int32), .int (g 0 10), .int p1]) (rest := []) ⟨hx, hb, hml, hown, hts⟩ (c_M_tellBytes l D k h _ g ((if p2 = 0 then 0 else 2) : Int32) (g 0 10) p1 hI) (se_kV 3 hts q_code_X6_tellBytes qX6_m252 q_ini_StreamEndModel q_instanceMethod_X6_tellBytes q_sel_X6_tellBytes (by decide +kernel) ⟨Nat.le_of_ble_eq_true rfl, Nat.le_of_ble_eq_true rfl⟩ rfl rfl) ⟨se_blind se_ZN_ok, va_recv hK hP (ci := 6) (q0 := 0) rfl rfl, se_pre se_ZN_ok hP hK hD hZ⟩ rfl rfl hl.1 rfl (lv_room (Nat.le_of_ble_eq_true rfl)) dX6_sendNew_15 ⟨Nat.zero_le _, Nat.zero_le _⟩) hD hS hA (fun g1 H locs eg1 hP hD hS => ?_)
  replace hF : (F_M_sendNew_k1 (F_M_tellBytes g ((if p2 = 0 then 0 else 2) : Int32) (g 0 10) p1) p1 p2) = F_M_sendNew g p1 p2 := by rw [F_M_sendNew]
  rw [← eg1] at hF
  replace hF : F_M_sendNew_k1 g1 p1 p2 = F_M_sendNew g p1 p2 := hF
  refine lv_aload_n hx hb dX6_sendNew_18 rfl (lv_at hl 0 rfl) ?_
  refine lv_dup hx hb dX6_sendNew_19 rfl ?_
  refine va_get (D := D) (ci := 6) (v := .int (g1 0 10)) (C := RX6) (T := TX6) (N := 50) hx hb hts (se_iw iwX6) hown hK hP 0 rfl rfl 10 (by decide) (hts _ (List.mem_cons_of_mem _ qX6_f54)) (fun _ h9 => h9) rfl dX6_sendNew_20 ?_
  refine lv_iload_n hx hb dX6_sendNew_23 rfl (lv_at hl 1 rfl) ?_
  refine lv_iload_n hx hb dX6_sendNew_24 rfl (lv_at hl 2 rfl) ?_
  refine se_join (v := ((if p2 = 0 then 0 else 1) : Int32)) (pcJ := 33) (restJ := [.int p1, .int (g1 0 10), .ref (h 0)]) (ls := ls) (fun T => ?_) ?_
  · refine lv_if_eq (tgt := 32) hx hb dX6_sendNew_25 (by decide) (fun c4 => ?_) (fun c4 => ?_)
    · refine lv_iconst (v := 0) hx hb dX6_sendNew_32 (by decide) ?_
      exact T _ (mo_ifp c4 rfl)
    · refine lv_iconst (v := 1) hx hb dX6_sendNew_28 (by decide) ?_
      refine lv_goto (tgt := 33) hx hb dX6_sendNew_29 (by decide) ?_
      exact T _ (mo_ifn c4 rfl)
  refine lv_iadd hx hb dX6_sendNew_33 ?_
  refine lv_iadd hx hb dX6_sendNew_34 ?_
  refine va_put (D := D) (ci := 6) (v := .int ((g1 0 10) + (p1 + ((if p2 = 0 then 0 else 1) : Int32)))) (ty := .int) (C := RX6) (T := TX6) (N := 50) hx hb hts (se_iw iwX6) tyX6 tyX6_ok nmX6 hown hK hP hD hS 0 rfl rfl 10 (by decide) (hts _ (List.mem_cons_of_mem _ qX6_f54)) (fun _ h9 => h9) rfl (by decide +kernel) rfl rfl (Nat.le_of_ble_eq_true rfl) dX6_sendNew_35 (fun H locs hP hD hS => ?_)
  replace hP : va_P D se_cl (se_WM k h (se_u g1 0 10 ((g1 0 10) + (p1 + ((if p2 = 0 then 0 else 1) : Int32))))) H := hP
  replace hD : va_D A (se_WM k h (se_u g1 0 10 ((g1 0 10) + (p1 + ((if p2 = 0 then 0 else 1) : Int32))))) := hD
  refine lv_aload_n hx hb dX6_sendNew_38 rfl (lv_at hl 0 rfl) ?_
  refine lv_aload_n hx hb dX6_sendNew_39 rfl (lv_at hl 0 rfl) ?_
  refine va_get (D := D) (ci := 6) (v := .int ((g1 0 10) + (p1 + ((if p2 = 0 then 0 else 1) : Int32)))) (C := RX6) (T := TX6) (N := 50) hx hb hts (se_iw iwX6) hown hK hP 0 rfl rfl 10 (by decide) (hts _ (List.mem_cons_of_mem _ qX6_f54)) (fun _ h9 => h9) rfl dX6_sendNew_40 ?_
  refine lv_iconst (v := 1) hx hb dX6_sendNew_43 (by decide) ?_
  refine se_cvE (va_runV (C := RX6) (As := [.int ((g1 0 10) + (p1 + ((if p2 = 0 then 0 else 1) : Int32))), .int 1]) (rest := []) ⟨hx, hb, hml, hown, hts⟩ (c_M_sent l D k h _ (se_u g1 0 10 ((g1 0 10) + (p1 + ((if p2 = 0 then 0 else 1) : Int32)))) ((g1 0 10) + (p1 + ((if p2 = 0 then 0 else 1) : Int32))) 1) (se_kV 2 hts q_code_X6_sent qX6_m255 q_ini_StreamEndModel q_instanceMethod_X6_sent q_sel_X6_sent (by decide +kernel) ⟨Nat.le_of_ble_eq_true rfl, Nat.le_of_ble_eq_true rfl⟩ rfl rfl) ⟨se_blind se_ZN_ok, va_recv hK hP (ci := 6) (q0 := 0) rfl rfl, se_pre se_ZN_ok hP hK hD hZ⟩ rfl rfl hl.1 rfl (lv_room (Nat.le_of_ble_eq_true rfl)) dX6_sendNew_44 ⟨Nat.zero_le _, Nat.zero_le _⟩) hD hS hA (fun g2 H locs eg2 hP hD hS => ?_)
  exact se_rv hx hb hr hlocks hK hP hD hS dX6_sendNew_47 (by subst eg2; rw [← hF, F_M_sendNew_k1])
set_option maxRecDepth 100000 in
set_option maxHeartbeats 4000000 in
theorem c_M_sendFresh (l : Launch) (D : va_G) (k : Nat → ClassId) (h : Nat → Nat) (sz : Nat) (g : se_G)  (hI : mo_sf g) : Met l yX6_sendFresh (se_w_X6_sendFresh) ({ frames := 3, cells := 0, slots := 0, locals := 71 }) (va_Pc [.ref (h 0)] (se_Pre D se_cl [(k 1, .int), (k 2, .int), (k 3, .boolean), (k 4, .int), (k 5, .int), (k 6, .int)] (se_WM k h g) se_ZN sz)) (se_Qi D se_cl [(k 1, .int), (k 2, .int), (k 3, .boolean), (k 4, .int), (k 5, .int), (k 6, .int)] (se_WM k h) (F_M_sendFresh g) (va_A (se_WM k h g) sz)) 0 0 (va_A (se_WM k h g) sz) := by
  refine se_met (Qc := se_Qi D se_cl [(k 1, .int), (k 2, .int), (k 3, .boolean), (k 4, .int), (k 5, .int), (k 6, .int)] (se_WM k h) (F_M_sendFresh g)) (cc := cX6_sendFresh) (maxL := 5) (ret := (some .boolean)) (by decide) rfl (Nat.le_of_ble_eq_true rfl) ?_
  intro p e s m below meth c ls A hx hb hr hts hown hlocks hml hA hP hK hD hS hZ hl
  replace hl : lv_has ls 5 [(0, .ref (h 0))] := hl
  have J91 : ∀ (gj91 : se_G) (v2_91 : Int32) (v3_91 : Int32) (v4_91 : Int32) (H : Heap) (locs : List Loc) (ls : Array Slot), (mo_sg (gj91 0 11) (gj91 0 10 - gj91 0 14) v2_91 ∧ mo_tb (gj91 0 10 - gj91 0 14) v3_91) → F_M_sendFresh_j91 gj91 v2_91 v3_91 v4_91 = F_M_sendFresh g → va_P D se_cl (se_WM k h gj91) H → va_D A (se_WM k h gj91) → va_S A s.heap H locs → lv_has ls 5 [(0, .ref (h 0)), (2, .int v2_91), (3, .int v3_91), (4, .int v4_91)] → W p l e ({ frames := 3, cells := 0, slots := 0, locals := 71 }) s m [.ref (h 0)].toArray below meth c H locs 0 0 (MQ below (se_Qi D se_cl [(k 1, .int), (k 2, .int), (k 3, .boolean), (k 4, .int), (k 5, .int), (k 6, .int)] (se_WM k h) (F_M_sendFresh g) A) [.ref (h 0)].toArray s 0 0 A) (F0 m 91 ls []) := by
    intro gj91 v2_91 v3_91 v4_91 H locs ls hI hF hP hD hS hl
    refine lv_iload_n hx hb dX6_sendFresh_91 rfl (lv_at hl 2 rfl) ?_
    refine lv_if_gt (tgt := 100) hx hb dX6_sendFresh_92 (by decide) (fun c12 => ?_) (fun c12 => ?_)
    · refine lv_aload_n hx hb dX6_sendFresh_100 rfl (lv_at hl 0 rfl) ?_
      refine lv_iload_n hx hb dX6_sendFresh_101 rfl (lv_at hl 2 rfl) ?_
      refine lv_iload hx hb dX6_sendFresh_102 (lv_at hl 3 rfl) ?_
      refine se_cvE (va_runV (C := RX6) (As := [.int v3_91, .int v4_91]) (rest := []) ⟨hx, hb, hml, hown, hts⟩ (c_M_sendNew l D k h _ gj91 v3_91 v4_91 hI.2) (se_kV 2 hts q_code_X6_sendNew qX6_m259 q_ini_StreamEndModel q_instanceMethod_X6_sendNew q_sel_X6_sendNew (by decide +kernel) ⟨Nat.le_of_ble_eq_true rfl, Nat.le_of_ble_eq_true rfl⟩ rfl rfl) ⟨se_blind se_ZN_ok, va_recv hK hP (ci := 6) (q0 := 0) rfl rfl, se_pre se_ZN_ok hP hK hD hZ⟩ rfl rfl hl.1 rfl (lv_room (Nat.le_of_ble_eq_true rfl)) dX6_sendFresh_104 ⟨Nat.zero_le _, Nat.zero_le _⟩) hD hS hA (fun g1 H locs eg1 hP hD hS => ?_)
      refine lv_iconst (v := 1) hx hb dX6_sendFresh_107 (by decide) ?_
      exact se_riz hx hb hr rfl hlocks hK hP hD hS dX6_sendFresh_108 (by subst eg1; rw [← hF, F_M_sendFresh_j91, if_pos (α := Int32 × se_G) c12])
    · refine lv_iload hx hb dX6_sendFresh_95 (lv_at hl 3 rfl) ?_
      refine lv_if_eq (tgt := 109) hx hb dX6_sendFresh_97 (by decide) (fun c13 => ?_) (fun c13 => ?_)
      · refine lv_aload_n hx hb dX6_sendFresh_109 rfl (lv_at hl 0 rfl) ?_
        refine va_get (D := D) (ci := 6) (v := .int (gj91 0 32)) (C := RX6) (T := TX6) (N := 50) hx hb hts (se_iw iwX6) hown hK hP 0 rfl rfl 32 (by decide) (hts _ (List.mem_cons_of_mem _ qX6_f109)) (fun _ h9 => h9) rfl dX6_sendFresh_110 ?_
        refine lv_if_ne (tgt := 118) hx hb dX6_sendFresh_113 (by decide) (fun c14 => ?_) (fun c14 => ?_)
        · refine lv_aload_n hx hb dX6_sendFresh_118 rfl (lv_at hl 0 rfl) ?_
          refine lv_iconst (v := 0) hx hb dX6_sendFresh_119 (by decide) ?_
          refine va_put (D := D) (ci := 6) (v := .int 0) (ty := .boolean) (C := RX6) (T := TX6) (N := 50) hx hb hts (se_iw iwX6) tyX6 tyX6_ok nmX6 hown hK hP hD hS 0 rfl rfl 32 (by decide) (hts _ (List.mem_cons_of_mem _ qX6_f109)) (fun _ h9 => h9) rfl (by decide +kernel) rfl rfl (Nat.le_of_ble_eq_true rfl) dX6_sendFresh_120 (fun H locs hP hD hS => ?_)
          replace hP : va_P D se_cl (se_WM k h (se_u gj91 0 32 0)) H := hP
          replace hD : va_D A (se_WM k h (se_u gj91 0 32 0)) := hD
          refine lv_iload_n hx hb dX6_sendFresh_123 rfl (lv_at hl 1 rfl) ?_
          refine lv_if_le (tgt := 136) hx hb dX6_sendFresh_124 (by decide) (fun c15 => ?_) (fun c15 => ?_)
          · refine lv_aload_n hx hb dX6_sendFresh_136 rfl (lv_at hl 0 rfl) ?_
            refine lv_iconst (v := 0) hx hb dX6_sendFresh_137 (by decide) ?_
            refine lv_iconst (v := 1) hx hb dX6_sendFresh_138 (by decide) ?_
            refine se_cvE (va_runV (C := RX6) (As := [.int 0, .int 1]) (rest := []) ⟨hx, hb, hml, hown, hts⟩ (c_M_sendNew l D k h _ (se_u gj91 0 32 0) 0 1 (Or.inl (by decide))) (se_kV 2 hts q_code_X6_sendNew qX6_m259 q_ini_StreamEndModel q_instanceMethod_X6_sendNew q_sel_X6_sendNew (by decide +kernel) ⟨Nat.le_of_ble_eq_true rfl, Nat.le_of_ble_eq_true rfl⟩ rfl rfl) ⟨se_blind se_ZN_ok, va_recv hK hP (ci := 6) (q0 := 0) rfl rfl, se_pre se_ZN_ok hP hK hD hZ⟩ rfl rfl hl.1 rfl (lv_room (Nat.le_of_ble_eq_true rfl)) dX6_sendFresh_139 ⟨Nat.zero_le _, Nat.zero_le _⟩) hD hS hA (fun g2 H locs eg2 hP hD hS => ?_)
            refine lv_iconst (v := 1) hx hb dX6_sendFresh_142 (by decide) ?_
            exact se_riz hx hb hr rfl hlocks hK hP hD hS dX6_sendFresh_143 (by subst eg2; rw [← hF, F_M_sendFresh_j91, if_neg (α := Int32 × se_G) c12, if_pos (α := Int32 × se_G) c13, if_neg (α := Int32 × se_G) c14, if_pos (α := Int32 × se_G) c15])
          · refine lv_aload_n hx hb dX6_sendFresh_127 rfl (lv_at hl 0 rfl) ?_
            refine lv_iconst (v := 1) hx hb dX6_sendFresh_128 (by decide) ?_
            refine lv_iconst (v := 0) hx hb dX6_sendFresh_129 (by decide) ?_
            refine se_cvE (va_runV (C := RX6) (As := [.int 1, .int 0]) (rest := []) ⟨hx, hb, hml, hown, hts⟩ (c_M_sendNew l D k h _ (se_u gj91 0 32 0) 1 0 (mo_pr (by assumption) hI.1)) (se_kV 2 hts q_code_X6_sendNew qX6_m259 q_ini_StreamEndModel q_instanceMethod_X6_sendNew q_sel_X6_sendNew (by decide +kernel) ⟨Nat.le_of_ble_eq_true rfl, Nat.le_of_ble_eq_true rfl⟩ rfl rfl) ⟨se_blind se_ZN_ok, va_recv hK hP (ci := 6) (q0 := 0) rfl rfl, se_pre se_ZN_ok hP hK hD hZ⟩ rfl rfl hl.1 rfl (lv_room (Nat.le_of_ble_eq_true rfl)) dX6_sendFresh_130 ⟨Nat.zero_le _, Nat.zero_le _⟩) hD hS hA (fun g3 H locs eg3 hP hD hS => ?_)
            refine lv_goto (tgt := 142) hx hb dX6_sendFresh_133 (by decide) ?_
            refine lv_iconst (v := 1) hx hb dX6_sendFresh_142 (by decide) ?_
            exact se_riz hx hb hr rfl hlocks hK hP hD hS dX6_sendFresh_143 (by subst eg3; rw [← hF, F_M_sendFresh_j91, if_neg (α := Int32 × se_G) c12, if_pos (α := Int32 × se_G) c13, if_neg (α := Int32 × se_G) c14, if_neg (α := Int32 × se_G) c15])
        · refine lv_iconst (v := 0) hx hb dX6_sendFresh_116 (by decide) ?_
          exact se_riz hx hb hr rfl hlocks hK hP hD hS dX6_sendFresh_117 (by rw [← hF, F_M_sendFresh_j91, if_neg (α := Int32 × se_G) c12, if_pos (α := Int32 × se_G) c13, if_pos (α := Int32 × se_G) c14])
      · refine lv_aload_n hx hb dX6_sendFresh_100 rfl (lv_at hl 0 rfl) ?_
        refine lv_iload_n hx hb dX6_sendFresh_101 rfl (lv_at hl 2 rfl) ?_
        refine lv_iload hx hb dX6_sendFresh_102 (lv_at hl 3 rfl) ?_
        refine se_cvE (va_runV (C := RX6) (As := [.int v3_91, .int v4_91]) (rest := []) ⟨hx, hb, hml, hown, hts⟩ (c_M_sendNew l D k h _ gj91 v3_91 v4_91 hI.2) (se_kV 2 hts q_code_X6_sendNew qX6_m259 q_ini_StreamEndModel q_instanceMethod_X6_sendNew q_sel_X6_sendNew (by decide +kernel) ⟨Nat.le_of_ble_eq_true rfl, Nat.le_of_ble_eq_true rfl⟩ rfl rfl) ⟨se_blind se_ZN_ok, va_recv hK hP (ci := 6) (q0 := 0) rfl rfl, se_pre se_ZN_ok hP hK hD hZ⟩ rfl rfl hl.1 rfl (lv_room (Nat.le_of_ble_eq_true rfl)) dX6_sendFresh_104 ⟨Nat.zero_le _, Nat.zero_le _⟩) hD hS hA (fun g4 H locs eg4 hP hD hS => ?_)
        refine lv_iconst (v := 1) hx hb dX6_sendFresh_107 (by decide) ?_
        exact se_riz hx hb hr rfl hlocks hK hP hD hS dX6_sendFresh_108 (by subst eg4; rw [← hF, F_M_sendFresh_j91, if_neg (α := Int32 × se_G) c12, if_neg (α := Int32 × se_G) c13])
  have J67 : ∀ (gj67 : se_G) (v1_67 : Int32) (v2_67 : Int32) (v3_67 : Int32) (H : Heap) (locs : List Loc) (ls : Array Slot), (mo_sg (gj67 0 11) (gj67 0 10 - gj67 0 14) v2_67 ∧ mo_tb (gj67 0 10 - gj67 0 14) v3_67) → F_M_sendFresh_j67 gj67 v1_67 v2_67 v3_67 = F_M_sendFresh g → va_P D se_cl (se_WM k h gj67) H → va_D A (se_WM k h gj67) → va_S A s.heap H locs → lv_has ls 5 [(0, .ref (h 0)), (1, .int v1_67), (2, .int v2_67), (3, .int v3_67)] → W p l e ({ frames := 3, cells := 0, slots := 0, locals := 71 }) s m [.ref (h 0)].toArray below meth c H locs 0 0 (MQ below (se_Qi D se_cl [(k 1, .int), (k 2, .int), (k 3, .boolean), (k 4, .int), (k 5, .int), (k 6, .int)] (se_WM k h) (F_M_sendFresh g) A) [.ref (h 0)].toArray s 0 0 A) (F0 m 67 ls []) := by
    intro gj67 v1_67 v2_67 v3_67 H locs ls hI hF hP hD hS hl
    refine lv_aload_n hx hb dX6_sendFresh_67 rfl (lv_at hl 0 rfl) ?_
    refine se_cp (va_runV (C := RX6) (As := []) (rest := []) ⟨hx, hb, hml, hown, hts⟩ (c_M_owesLast l D k h _ gj67) (se_kV 0 hts q_code_X6_owesLast qX6_m168 q_ini_StreamEndModel q_instanceMethod_X6_owesLast q_sel_X6_owesLast (by decide +kernel) ⟨Nat.le_of_ble_eq_true rfl, Nat.le_of_ble_eq_true rfl⟩ rfl rfl) ⟨se_blind se_ZN_ok, va_recv hK hP (ci := 6) (q0 := 0) rfl rfl, se_pre se_ZN_ok hP hK hD hZ⟩ rfl rfl hl.1 rfl (lv_room (Nat.le_of_ble_eq_true rfl)) dX6_sendFresh_68 ⟨Nat.zero_le _, Nat.zero_le _⟩) ?_
    refine se_join (v := ((if (F_M_owesLast gj67) = 0 then 0 else ((if v3_67 = v2_67 then ((if v1_67 ≤ v3_67 then 0 else 1) : Int32) else 0) : Int32)) : Int32)) (pcJ := 89) (restJ := []) (ls := ls) (fun T => ?_) ?_
    · refine lv_if_eq (tgt := 88) hx hb dX6_sendFresh_71 (by decide) (fun c9 => ?_) (fun c9 => ?_)
      · refine lv_iconst (v := 0) hx hb dX6_sendFresh_88 (by decide) ?_
        exact T _ (mo_ifp c9 rfl)
      · refine lv_iload_n hx hb dX6_sendFresh_74 rfl (lv_at hl 3 rfl) ?_
        refine lv_iload_n hx hb dX6_sendFresh_75 rfl (lv_at hl 2 rfl) ?_
        refine lv_icmp_ne (tgt := 88) hx hb dX6_sendFresh_76 (by decide) (fun c10 => ?_) (fun c10 => ?_)
        · refine lv_iconst (v := 0) hx hb dX6_sendFresh_88 (by decide) ?_
          exact T _ (mo_ifn c9 (mo_ifn c10 rfl))
        · refine lv_iload_n hx hb dX6_sendFresh_79 rfl (lv_at hl 1 rfl) ?_
          refine lv_iload_n hx hb dX6_sendFresh_80 rfl (lv_at hl 3 rfl) ?_
          refine lv_icmp_le (tgt := 88) hx hb dX6_sendFresh_81 (by decide) (fun c11 => ?_) (fun c11 => ?_)
          · refine lv_iconst (v := 0) hx hb dX6_sendFresh_88 (by decide) ?_
            exact T _ (mo_ifn c9 (mo_ifp c10 (mo_ifp c11 rfl)))
          · refine lv_iconst (v := 1) hx hb dX6_sendFresh_84 (by decide) ?_
            refine lv_goto (tgt := 89) hx hb dX6_sendFresh_85 (by decide) ?_
            exact T _ (mo_ifn c9 (mo_ifp c10 (mo_ifn c11 rfl)))
    refine lv_istore (lv' := [(4, .int ((if (F_M_owesLast gj67) = 0 then 0 else ((if v3_67 = v2_67 then ((if v1_67 ≤ v3_67 then 0 else 1) : Int32) else 0) : Int32)) : Int32)), (0, .ref (h 0)), (1, .int v1_67), (2, .int v2_67), (3, .int v3_67)]) hx hb dX6_sendFresh_89 hl (by decide) rfl (fun ls hl => ?_)
    exact J91 gj67 v2_67 v3_67 ((if (F_M_owesLast gj67) = 0 then 0 else ((if v3_67 = v2_67 then ((if v1_67 ≤ v3_67 then 0 else 1) : Int32) else 0) : Int32)) : Int32) _ _ ls hI (by rw [← hF, F_M_sendFresh_j67]) hP hD hS (lv_sub hl [1, 3, 4, 0] rfl)
  have J29 : ∀ (gj29 : se_G) (v1_29 : Int32) (v2_29 : Int32) (H : Heap) (locs : List Loc) (ls : Array Slot), (mo_sg (gj29 0 11) (gj29 0 10 - gj29 0 14) v2_29) → F_M_sendFresh_j29 gj29 v1_29 v2_29 = F_M_sendFresh g → va_P D se_cl (se_WM k h gj29) H → va_D A (se_WM k h gj29) → va_S A s.heap H locs → lv_has ls 5 [(0, .ref (h 0)), (1, .int v1_29), (2, .int v2_29)] → W p l e ({ frames := 3, cells := 0, slots := 0, locals := 71 }) s m [.ref (h 0)].toArray below meth c H locs 0 0 (MQ below (se_Qi D se_cl [(k 1, .int), (k 2, .int), (k 3, .boolean), (k 4, .int), (k 5, .int), (k 6, .int)] (se_WM k h) (F_M_sendFresh g) A) [.ref (h 0)].toArray s 0 0 A) (F0 m 29 ls []) := by
    intro gj29 v1_29 v2_29 H locs ls hI hF hP hD hS hl
    refine lv_iload_n hx hb dX6_sendFresh_29 rfl (lv_at hl 2 rfl) ?_
    refine lv_aload_n hx hb dX6_sendFresh_30 rfl (lv_at hl 0 rfl) ?_
    refine va_get (D := D) (ci := 6) (v := .int (gj29 0 11)) (C := RX6) (T := TX6) (N := 50) hx hb hts (se_iw iwX6) hown hK hP 0 rfl rfl 11 (by decide) (hts _ (List.mem_cons_of_mem _ qX6_f42)) (fun _ h9 => h9) rfl dX6_sendFresh_31 ?_
    refine se_join (v := ((if (gj29 0 11) ≤ v2_29 then (gj29 0 11) else v2_29) : Int32)) (pcJ := 45) (restJ := []) (ls := ls) (fun T => ?_) ?_
    · refine lv_icmp_ge (tgt := 41) hx hb dX6_sendFresh_34 (by decide) (fun c3 => ?_) (fun c3 => ?_)
      · refine lv_aload_n hx hb dX6_sendFresh_41 rfl (lv_at hl 0 rfl) ?_
        refine va_get (D := D) (ci := 6) (v := .int (gj29 0 11)) (C := RX6) (T := TX6) (N := 50) hx hb hts (se_iw iwX6) hown hK hP 0 rfl rfl 11 (by decide) (hts _ (List.mem_cons_of_mem _ qX6_f42)) (fun _ h9 => h9) rfl dX6_sendFresh_42 ?_
        exact T _ (mo_ifp c3 rfl)
      · refine lv_iload_n hx hb dX6_sendFresh_37 rfl (lv_at hl 2 rfl) ?_
        refine lv_goto (tgt := 45) hx hb dX6_sendFresh_38 (by decide) ?_
        exact T _ (mo_ifn c3 rfl)
    refine lv_istore_n (lv' := [(3, .int ((if (gj29 0 11) ≤ v2_29 then (gj29 0 11) else v2_29) : Int32)), (0, .ref (h 0)), (1, .int v1_29), (2, .int v2_29)]) hx hb dX6_sendFresh_45 rfl hl (by decide) rfl (fun ls hl => ?_)
    refine lv_iload_n hx hb dX6_sendFresh_46 rfl (lv_at hl 0 rfl) ?_
    refine lv_iload_n hx hb dX6_sendFresh_47 rfl (lv_at hl 2 rfl) ?_
    refine se_join (v := ((if v1_29 ≤ ((if (gj29 0 11) ≤ v2_29 then (gj29 0 11) else v2_29) : Int32) then v1_29 else ((if (gj29 0 11) ≤ v2_29 then (gj29 0 11) else v2_29) : Int32)) : Int32)) (pcJ := 56) (restJ := []) (ls := ls) (fun T => ?_) ?_
    · refine lv_icmp_ge (tgt := 55) hx hb dX6_sendFresh_48 (by decide) (fun c5 => ?_) (fun c5 => ?_)
      · refine lv_iload_n hx hb dX6_sendFresh_55 rfl (lv_at hl 2 rfl) ?_
        exact T _ (mo_ifp c5 rfl)
      · refine lv_iload_n hx hb dX6_sendFresh_51 rfl (lv_at hl 0 rfl) ?_
        refine lv_goto (tgt := 56) hx hb dX6_sendFresh_52 (by decide) ?_
        exact T _ (mo_ifn c5 rfl)
    refine lv_istore_n (lv' := [(3, .int ((if v1_29 ≤ ((if (gj29 0 11) ≤ v2_29 then (gj29 0 11) else v2_29) : Int32) then v1_29 else ((if (gj29 0 11) ≤ v2_29 then (gj29 0 11) else v2_29) : Int32)) : Int32)), (0, .ref (h 0)), (1, .int v1_29), (2, .int v2_29)]) hx hb dX6_sendFresh_56 rfl hl (by decide) rfl (fun ls hl => ?_)
    refine lv_iload_n hx hb dX6_sendFresh_57 rfl (lv_at hl 0 rfl) ?_
    refine se_join (v := ((if 0 ≤ ((if v1_29 ≤ ((if (gj29 0 11) ≤ v2_29 then (gj29 0 11) else v2_29) : Int32) then v1_29 else ((if (gj29 0 11) ≤ v2_29 then (gj29 0 11) else v2_29) : Int32)) : Int32) then ((if v1_29 ≤ ((if (gj29 0 11) ≤ v2_29 then (gj29 0 11) else v2_29) : Int32) then v1_29 else ((if (gj29 0 11) ≤ v2_29 then (gj29 0 11) else v2_29) : Int32)) : Int32) else 0) : Int32)) (pcJ := 66) (restJ := []) (ls := ls) (fun T => ?_) ?_
    · refine lv_if_ge (tgt := 65) hx hb dX6_sendFresh_58 (by decide) (fun c7 => ?_) (fun c7 => ?_)
      · refine lv_iload_n hx hb dX6_sendFresh_65 rfl (lv_at hl 0 rfl) ?_
        exact T _ (mo_ifp c7 rfl)
      · refine lv_iconst (v := 0) hx hb dX6_sendFresh_61 (by decide) ?_
        refine lv_goto (tgt := 66) hx hb dX6_sendFresh_62 (by decide) ?_
        exact T _ (mo_ifn c7 rfl)
    refine lv_istore_n (lv' := [(3, .int ((if 0 ≤ ((if v1_29 ≤ ((if (gj29 0 11) ≤ v2_29 then (gj29 0 11) else v2_29) : Int32) then v1_29 else ((if (gj29 0 11) ≤ v2_29 then (gj29 0 11) else v2_29) : Int32)) : Int32) then ((if v1_29 ≤ ((if (gj29 0 11) ≤ v2_29 then (gj29 0 11) else v2_29) : Int32) then v1_29 else ((if (gj29 0 11) ≤ v2_29 then (gj29 0 11) else v2_29) : Int32)) : Int32) else 0) : Int32)), (0, .ref (h 0)), (1, .int v1_29), (2, .int v2_29)]) hx hb dX6_sendFresh_66 rfl hl (by decide) rfl (fun ls hl => ?_)
    exact J67 gj29 v1_29 v2_29 ((if 0 ≤ ((if v1_29 ≤ ((if (gj29 0 11) ≤ v2_29 then (gj29 0 11) else v2_29) : Int32) then v1_29 else ((if (gj29 0 11) ≤ v2_29 then (gj29 0 11) else v2_29) : Int32)) : Int32) then ((if v1_29 ≤ ((if (gj29 0 11) ≤ v2_29 then (gj29 0 11) else v2_29) : Int32) then v1_29 else ((if (gj29 0 11) ≤ v2_29 then (gj29 0 11) else v2_29) : Int32)) : Int32) else 0) : Int32) _ _ ls ⟨hI, mo_can hI⟩ (by rw [← hF, F_M_sendFresh_j29]) hP hD hS (lv_sub hl [1, 2, 3, 0] rfl)
  have hF : F_M_sendFresh g = F_M_sendFresh g := rfl
  refine lv_aload_n hx hb dX6_sendFresh_0 rfl (lv_at hl 0 rfl) ?_
  refine se_cp (va_runV (C := RX6) (As := []) (rest := []) ⟨hx, hb, hml, hown, hts⟩ (c_M_sends l D k h _ g) (se_kV 0 hts q_code_X6_sends qX6_m162 q_ini_StreamEndModel q_instanceMethod_X6_sends q_sel_X6_sends (by decide +kernel) ⟨Nat.le_of_ble_eq_true rfl, Nat.le_of_ble_eq_true rfl⟩ rfl rfl) ⟨se_blind se_ZN_ok, va_recv hK hP (ci := 6) (q0 := 0) rfl rfl, se_pre se_ZN_ok hP hK hD hZ⟩ rfl rfl hl.1 rfl (lv_room (Nat.le_of_ble_eq_true rfl)) dX6_sendFresh_1 ⟨Nat.zero_le _, Nat.zero_le _⟩) ?_
  refine lv_if_ne (tgt := 9) hx hb dX6_sendFresh_4 (by decide) (fun c1 => ?_) (fun c1 => ?_)
  · refine lv_aload_n hx hb dX6_sendFresh_9 rfl (lv_at hl 0 rfl) ?_
    refine va_get (D := D) (ci := 6) (v := .int (g 0 9)) (C := RX6) (T := TX6) (N := 50) hx hb hts (se_iw iwX6) hown hK hP 0 rfl rfl 9 (by decide) (hts _ (List.mem_cons_of_mem _ qX6_f51)) (fun _ h9 => h9) rfl dX6_sendFresh_10 ?_
    refine lv_aload_n hx hb dX6_sendFresh_13 rfl (lv_at hl 0 rfl) ?_
    refine va_get (D := D) (ci := 6) (v := .int (g 0 15)) (C := RX6) (T := TX6) (N := 50) hx hb hts (se_iw iwX6) hown hK hP 0 rfl rfl 15 (by decide) (hts _ (List.mem_cons_of_mem _ qX6_f63)) (fun _ h9 => h9) rfl dX6_sendFresh_14 ?_
    refine lv_iadd hx hb dX6_sendFresh_17 ?_
    refine lv_aload_n hx hb dX6_sendFresh_18 rfl (lv_at hl 0 rfl) ?_
    refine va_get (D := D) (ci := 6) (v := .int (g 0 10)) (C := RX6) (T := TX6) (N := 50) hx hb hts (se_iw iwX6) hown hK hP 0 rfl rfl 10 (by decide) (hts _ (List.mem_cons_of_mem _ qX6_f54)) (fun _ h9 => h9) rfl dX6_sendFresh_19 ?_
    refine lv_isub hx hb dX6_sendFresh_22 ?_
    refine lv_istore_n (lv' := [(1, .int (((g 0 9) + (g 0 15)) - (g 0 10))), (0, .ref (h 0))]) hx hb dX6_sendFresh_23 rfl hl (by decide) rfl (fun ls hl => ?_)
    refine lv_aload_n hx hb dX6_sendFresh_24 rfl (lv_at hl 1 rfl) ?_
    refine se_cp (va_runV (C := RX6) (As := []) (rest := []) ⟨hx, hb, hml, hown, hts⟩ (c_M_unsent l D k h _ g) (se_kV 0 hts q_code_X6_unsent qX6_m165 q_ini_StreamEndModel q_instanceMethod_X6_unsent q_sel_X6_unsent (by decide +kernel) ⟨Nat.le_of_ble_eq_true rfl, Nat.le_of_ble_eq_true rfl⟩ rfl rfl) ⟨se_blind se_ZN_ok, va_recv hK hP (ci := 6) (q0 := 0) rfl rfl, se_pre se_ZN_ok hP hK hD hZ⟩ rfl rfl hl.1 rfl (lv_room (Nat.le_of_ble_eq_true rfl)) dX6_sendFresh_25 ⟨Nat.zero_le _, Nat.zero_le _⟩) ?_
    refine lv_istore_n (lv' := [(2, .int (F_M_unsent g)), (1, .int (((g 0 9) + (g 0 15)) - (g 0 10))), (0, .ref (h 0))]) hx hb dX6_sendFresh_28 rfl hl (by decide) rfl (fun ls hl => ?_)
    exact J29 g (((g 0 9) + (g 0 15)) - (g 0 10)) (F_M_unsent g) _ _ ls (mo_sf1 (by assumption) hI) (by rw [F_M_sendFresh, if_neg (α := Int32 × se_G) c1]) hP hD hS (lv_sub hl [2, 1, 0] rfl)
  · refine lv_iconst (v := 0) hx hb dX6_sendFresh_7 (by decide) ?_
    exact se_riz hx hb hr rfl hlocks hK hP hD hS dX6_sendFresh_8 (by rw [F_M_sendFresh, if_pos (α := Int32 × se_G) c1])
