/-! written by program (wip/gen) -/
set_option maxRecDepth 100000 in
set_option maxHeartbeats 4000000 in
theorem c_M_sendAgain (l : Launch) (D : va_G) (k : Nat → ClassId) (h : Nat → Nat) (sz : Nat) (g : se_G)  (hI : (0 ≤ (g 0 9 - g 0 14).toInt ∧ (g 0 9 - g 0 14).toInt ≤ 588) ∧ (g 0 11).toInt ≤ 1460) : Met l yX6_sendAgain (se_w_X6_sendAgain) ({ frames := 2, cells := 0, slots := 0, locals := 49 }) (va_Pc [.ref (h 0)] (se_Pre D se_cl [(k 1, .int), (k 2, .int), (k 3, .boolean), (k 4, .int), (k 5, .int), (k 6, .int)] (se_WM k h g) se_ZN sz)) (se_Qv D se_cl [(k 1, .int), (k 2, .int), (k 3, .boolean), (k 4, .int), (k 5, .int), (k 6, .int)] (se_WM k h) (F_M_sendAgain g) (va_A (se_WM k h g) sz)) 0 0 (va_A (se_WM k h g) sz) := by
  refine se_met (Qc := se_Qv D se_cl [(k 1, .int), (k 2, .int), (k 3, .boolean), (k 4, .int), (k 5, .int), (k 6, .int)] (se_WM k h) (F_M_sendAgain g)) (cc := cX6_sendAgain) (maxL := 5) (ret := none) (by decide) rfl (Nat.le_of_ble_eq_true rfl) ?_
  intro p e s m below meth c ls A hx hb hr hts hown hlocks hml hA hP hK hD hS hZ hl
  replace hl : lv_has ls 5 [(0, .ref (h 0))] := hl
  have J65 : ∀ (gj65 : se_G) (v1_65 : Int32) (v2_65 : Int32) (v3_65 : Int32) (H : Heap) (locs : List Loc) (ls : Array Slot), ((0 ≤ (gj65 0 9 - gj65 0 14).toInt ∧ (gj65 0 9 - gj65 0 14).toInt ≤ 588) ∧ (v3_65).toInt ≤ 1460) → F_M_sendAgain_j65 gj65 v1_65 v2_65 v3_65 = F_M_sendAgain g → va_P D se_cl (se_WM k h gj65) H → va_D A (se_WM k h gj65) → va_S A s.heap H locs → lv_has ls 5 [(0, .ref (h 0)), (1, .int v1_65), (2, .int v2_65), (3, .int v3_65)] → W p l e ({ frames := 2, cells := 0, slots := 0, locals := 49 }) s m [.ref (h 0)].toArray below meth c H locs 0 0 (MQ below (se_Qv D se_cl [(k 1, .int), (k 2, .int), (k 3, .boolean), (k 4, .int), (k 5, .int), (k 6, .int)] (se_WM k h) (F_M_sendAgain g) A) [.ref (h 0)].toArray s 0 0 A) (F0 m 65 ls []) := by
    intro gj65 v1_65 v2_65 v3_65 H locs ls hI hF hP hD hS hl
    refine lv_iload_n hx hb dX6_sendAgain_65 rfl (lv_at hl 1 rfl) ?_
    refine lv_iload_n hx hb dX6_sendAgain_66 rfl (lv_at hl 2 rfl) ?_
    refine se_join (v := ((if v1_65 ≤ v2_65 then 0 else ((if v3_65 = v2_65 then 1 else 0) : Int32)) : Int32)) (pcJ := 80) (restJ := []) (ls := ls) (fun T => ?_) ?_
    · refine lv_icmp_le (tgt := 79) hx hb dX6_sendAgain_67 (by decide) (fun c6 => ?_) (fun c6 => ?_)
      · refine lv_iconst (v := 0) hx hb dX6_sendAgain_79 (by decide) ?_
        exact T _ (mo_ifp c6 rfl)
      · refine lv_iload_n hx hb dX6_sendAgain_70 rfl (lv_at hl 3 rfl) ?_
        refine lv_iload_n hx hb dX6_sendAgain_71 rfl (lv_at hl 2 rfl) ?_
        refine lv_icmp_ne (tgt := 79) hx hb dX6_sendAgain_72 (by decide) (fun c7 => ?_) (fun c7 => ?_)
        · refine lv_iconst (v := 0) hx hb dX6_sendAgain_79 (by decide) ?_
          exact T _ (mo_ifn c6 (mo_ifn c7 rfl))
        · refine lv_iconst (v := 1) hx hb dX6_sendAgain_75 (by decide) ?_
          refine lv_goto (tgt := 80) hx hb dX6_sendAgain_76 (by decide) ?_
          exact T _ (mo_ifn c6 (mo_ifp c7 rfl))
    refine lv_istore (lv' := [(4, .int ((if v1_65 ≤ v2_65 then 0 else ((if v3_65 = v2_65 then 1 else 0) : Int32)) : Int32)), (0, .ref (h 0)), (1, .int v1_65), (2, .int v2_65), (3, .int v3_65)]) hx hb dX6_sendAgain_80 hl (by decide) rfl (fun ls hl => ?_)
    refine lv_aload_n hx hb dX6_sendAgain_82 rfl (lv_at hl 1 rfl) ?_
    refine lv_iload hx hb dX6_sendAgain_83 (lv_at hl 0 rfl) ?_
    refine se_join (v := ((if ((if v1_65 ≤ v2_65 then 0 else ((if v3_65 = v2_65 then 1 else 0) : Int32)) : Int32) = 0 then 0 else 2) : Int32)) (pcJ := 93) (restJ := [.ref (h 0)]) (ls := ls) (fun T => ?_) ?_
    · refine lv_if_eq (tgt := 92) hx hb dX6_sendAgain_85 (by decide) (fun c9 => ?_) (fun c9 => ?_)
      · refine lv_iconst (v := 0) hx hb dX6_sendAgain_92 (by decide) ?_
        exact T _ (mo_ifp c9 rfl)
      · refine lv_iconst (v := 2) hx hb dX6_sendAgain_88 (by decide) ?_
        refine lv_goto (tgt := 93) hx hb dX6_sendAgain_89 (by decide) ?_
        exact T _ (mo_ifn c9 rfl)
    refine lv_aload_n hx hb dX6_sendAgain_93 rfl (lv_at hl 1 rfl) ?_
    refine va_get (D := D) (ci := 6) (v := .int (gj65 0 9)) (C := RX6) (T := TX6) (N := 50) hx hb hts (se_iw iwX6) hown hK hP 0 rfl rfl 9 (by decide) (hts _ (List.mem_cons_of_mem _ qX6_f51)) (fun _ h9 => h9) rfl dX6_sendAgain_94 ?_
    refine lv_iload_n hx hb dX6_sendAgain_97 rfl (lv_at hl 4 rfl) ?_
    refine se_cvE (va_runV (C := RX6) (As := [.int ((if ((if v1_65 ≤ v2_65 then 0 else ((if v3_65 = v2_65 then 1 else 0) : Int32)) : Int32) = 0 then 0 else 2) : Int32), .int (gj65 0 9), .int v3_65]) (rest := []) ⟨hx, hb, hml, hown, hts⟩ (c_M_tellBytes l D k h _ gj65 ((if ((if v1_65 ≤ v2_65 then 0 else ((if v3_65 = v2_65 then 1 else 0) : Int32)) : Int32) = 0 then 0 else 2) : Int32) (gj65 0 9) v3_65 (mo_sa hI)) (se_kV 3 hts q_code_X6_tellBytes qX6_m252 q_ini_StreamEndModel q_instanceMethod_X6_tellBytes q_sel_X6_tellBytes (by decide +kernel) ⟨Nat.le_of_ble_eq_true rfl, Nat.le_of_ble_eq_true rfl⟩ rfl rfl) ⟨se_blind se_ZN_ok, va_recv hK hP (ci := 6) (q0 := 0) rfl rfl, se_pre se_ZN_ok hP hK hD hZ⟩ rfl rfl hl.1 rfl (lv_room (Nat.le_of_ble_eq_true rfl)) dX6_sendAgain_98 ⟨Nat.zero_le _, Nat.zero_le _⟩) hD hS hA (fun g1 H locs eg1 hP hD hS => ?_)
    replace hF : (F_M_sendAgain_k1 (F_M_tellBytes gj65 ((if ((if v1_65 ≤ v2_65 then 0 else ((if v3_65 = v2_65 then 1 else 0) : Int32)) : Int32) = 0 then 0 else 2) : Int32) (gj65 0 9) v3_65)) = F_M_sendAgain g := by rw [← hF, F_M_sendAgain_j65]
    rw [← eg1] at hF
    replace hF : F_M_sendAgain_k1 g1 = F_M_sendAgain g := hF
    refine lv_aload_n hx hb dX6_sendAgain_101 rfl (lv_at hl 1 rfl) ?_
    refine lv_aload_n hx hb dX6_sendAgain_102 rfl (lv_at hl 1 rfl) ?_
    refine va_get (D := D) (ci := 6) (v := .int (g1 0 10)) (C := RX6) (T := TX6) (N := 50) hx hb hts (se_iw iwX6) hown hK hP 0 rfl rfl 10 (by decide) (hts _ (List.mem_cons_of_mem _ qX6_f54)) (fun _ h9 => h9) rfl dX6_sendAgain_103 ?_
    refine lv_iconst (v := 0) hx hb dX6_sendAgain_106 (by decide) ?_
    refine se_cvE (va_runV (C := RX6) (As := [.int (g1 0 10), .int 0]) (rest := []) ⟨hx, hb, hml, hown, hts⟩ (c_M_sent l D k h _ g1 (g1 0 10) 0) (se_kV 2 hts q_code_X6_sent qX6_m255 q_ini_StreamEndModel q_instanceMethod_X6_sent q_sel_X6_sent (by decide +kernel) ⟨Nat.le_of_ble_eq_true rfl, Nat.le_of_ble_eq_true rfl⟩ rfl rfl) ⟨se_blind se_ZN_ok, va_recv hK hP (ci := 6) (q0 := 0) rfl rfl, se_pre se_ZN_ok hP hK hD hZ⟩ rfl rfl hl.1 rfl (lv_room (Nat.le_of_ble_eq_true rfl)) dX6_sendAgain_107 ⟨Nat.zero_le _, Nat.zero_le _⟩) hD hS hA (fun g2 H locs eg2 hP hD hS => ?_)
    exact se_rv hx hb hr hlocks hK hP hD hS dX6_sendAgain_110 (by subst eg2; rw [← hF, F_M_sendAgain_k1])
  have J48 : ∀ (gj48 : se_G) (v1_48 : Int32) (v2_48 : Int32) (H : Heap) (locs : List Loc) (ls : Array Slot), ((0 ≤ (gj48 0 9 - gj48 0 14).toInt ∧ (gj48 0 9 - gj48 0 14).toInt ≤ 588) ∧ (gj48 0 11).toInt ≤ 1460) → F_M_sendAgain_j48 gj48 v1_48 v2_48 = F_M_sendAgain g → va_P D se_cl (se_WM k h gj48) H → va_D A (se_WM k h gj48) → va_S A s.heap H locs → lv_has ls 5 [(0, .ref (h 0)), (1, .int v1_48), (2, .int v2_48)] → W p l e ({ frames := 2, cells := 0, slots := 0, locals := 49 }) s m [.ref (h 0)].toArray below meth c H locs 0 0 (MQ below (se_Qv D se_cl [(k 1, .int), (k 2, .int), (k 3, .boolean), (k 4, .int), (k 5, .int), (k 6, .int)] (se_WM k h) (F_M_sendAgain g) A) [.ref (h 0)].toArray s 0 0 A) (F0 m 48 ls []) := by
    intro gj48 v1_48 v2_48 H locs ls hI hF hP hD hS hl
    refine lv_iload_n hx hb dX6_sendAgain_48 rfl (lv_at hl 2 rfl) ?_
    refine lv_aload_n hx hb dX6_sendAgain_49 rfl (lv_at hl 0 rfl) ?_
    refine va_get (D := D) (ci := 6) (v := .int (gj48 0 11)) (C := RX6) (T := TX6) (N := 50) hx hb hts (se_iw iwX6) hown hK hP 0 rfl rfl 11 (by decide) (hts _ (List.mem_cons_of_mem _ qX6_f42)) (fun _ h9 => h9) rfl dX6_sendAgain_50 ?_
    refine se_join (v := ((if (gj48 0 11) ≤ v2_48 then (gj48 0 11) else v2_48) : Int32)) (pcJ := 64) (restJ := []) (ls := ls) (fun T => ?_) ?_
    · refine lv_icmp_ge (tgt := 60) hx hb dX6_sendAgain_53 (by decide) (fun c4 => ?_) (fun c4 => ?_)
      · refine lv_aload_n hx hb dX6_sendAgain_60 rfl (lv_at hl 0 rfl) ?_
        refine va_get (D := D) (ci := 6) (v := .int (gj48 0 11)) (C := RX6) (T := TX6) (N := 50) hx hb hts (se_iw iwX6) hown hK hP 0 rfl rfl 11 (by decide) (hts _ (List.mem_cons_of_mem _ qX6_f42)) (fun _ h9 => h9) rfl dX6_sendAgain_61 ?_
        exact T _ (mo_ifp c4 rfl)
      · refine lv_iload_n hx hb dX6_sendAgain_56 rfl (lv_at hl 2 rfl) ?_
        refine lv_goto (tgt := 64) hx hb dX6_sendAgain_57 (by decide) ?_
        exact T _ (mo_ifn c4 rfl)
    refine lv_istore_n (lv' := [(3, .int ((if (gj48 0 11) ≤ v2_48 then (gj48 0 11) else v2_48) : Int32)), (0, .ref (h 0)), (1, .int v1_48), (2, .int v2_48)]) hx hb dX6_sendAgain_64 rfl hl (by decide) rfl (fun ls hl => ?_)
    exact J65 gj48 v1_48 v2_48 ((if (gj48 0 11) ≤ v2_48 then (gj48 0 11) else v2_48) : Int32) _ _ ls ⟨hI.1, mo_min hI.2⟩ (by rw [← hF, F_M_sendAgain_j48]) hP hD hS (lv_sub hl [1, 2, 3, 0] rfl)
  have hF : F_M_sendAgain g = F_M_sendAgain g := rfl
  refine lv_aload_n hx hb dX6_sendAgain_0 rfl (lv_at hl 0 rfl) ?_
  refine lv_iconst (v := 0) hx hb dX6_sendAgain_1 (by decide) ?_
  refine va_put (D := D) (ci := 6) (v := .int 0) (ty := .boolean) (C := RX6) (T := TX6) (N := 50) hx hb hts (se_iw iwX6) tyX6 tyX6_ok nmX6 hown hK hP hD hS 0 rfl rfl 31 (by decide) (hts _ (List.mem_cons_of_mem _ qX6_f106)) (fun _ h9 => h9) rfl (by decide +kernel) rfl rfl (Nat.le_of_ble_eq_true rfl) dX6_sendAgain_2 (fun H locs hP hD hS => ?_)
  replace hP : va_P D se_cl (se_WM k h (se_u g 0 31 0)) H := hP
  replace hD : va_D A (se_WM k h (se_u g 0 31 0)) := hD
  refine lv_aload_n hx hb dX6_sendAgain_5 rfl (lv_at hl 0 rfl) ?_
  refine va_get (D := D) (ci := 6) (v := .int (g 0 10)) (C := RX6) (T := TX6) (N := 50) hx hb hts (se_iw iwX6) hown hK hP 0 rfl rfl 10 (by decide) (hts _ (List.mem_cons_of_mem _ qX6_f54)) (fun _ h9 => h9) rfl dX6_sendAgain_6 ?_
  refine lv_aload_n hx hb dX6_sendAgain_9 rfl (lv_at hl 0 rfl) ?_
  refine va_get (D := D) (ci := 6) (v := .int (g 0 9)) (C := RX6) (T := TX6) (N := 50) hx hb hts (se_iw iwX6) hown hK hP 0 rfl rfl 9 (by decide) (hts _ (List.mem_cons_of_mem _ qX6_f51)) (fun _ h9 => h9) rfl dX6_sendAgain_10 ?_
  refine lv_isub hx hb dX6_sendAgain_13 ?_
  refine lv_istore_n (lv' := [(1, .int ((g 0 10) - (g 0 9))), (0, .ref (h 0))]) hx hb dX6_sendAgain_14 rfl hl (by decide) rfl (fun ls hl => ?_)
  refine lv_aload_n hx hb dX6_sendAgain_15 rfl (lv_at hl 1 rfl) ?_
  refine va_get (D := D) (ci := 6) (v := .int (g 0 10)) (C := RX6) (T := TX6) (N := 50) hx hb hts (se_iw iwX6) hown hK hP 0 rfl rfl 10 (by decide) (hts _ (List.mem_cons_of_mem _ qX6_f54)) (fun _ h9 => h9) rfl dX6_sendAgain_16 ?_
  refine lv_aload_n hx hb dX6_sendAgain_19 rfl (lv_at hl 1 rfl) ?_
  refine va_get (D := D) (ci := 6) (v := .int (g 0 14)) (C := RX6) (T := TX6) (N := 50) hx hb hts (se_iw iwX6) hown hK hP 0 rfl rfl 14 (by decide) (hts _ (List.mem_cons_of_mem _ qX6_f57)) (fun _ h9 => h9) rfl dX6_sendAgain_20 ?_
  refine lv_isub hx hb dX6_sendAgain_23 ?_
  refine lv_aload_n hx hb dX6_sendAgain_24 rfl (lv_at hl 1 rfl) ?_
  refine va_get (D := D) (ci := 6) (v := .int (g 0 13)) (C := RX6) (T := TX6) (N := 50) hx hb hts (se_iw iwX6) hown hK hP 0 rfl rfl 13 (by decide) (hts _ (List.mem_cons_of_mem _ qX6_f60)) (fun _ h9 => h9) rfl dX6_sendAgain_25 ?_
  refine se_join (v := ((if ((g 0 10) - (g 0 14)) ≤ (g 0 13) then ((g 0 10) - (g 0 14)) else (g 0 13)) : Int32)) (pcJ := 47) (restJ := []) (ls := ls) (fun T => ?_) ?_
  · refine lv_icmp_le (tgt := 38) hx hb dX6_sendAgain_28 (by decide) (fun c2 => ?_) (fun c2 => ?_)
    · refine lv_aload_n hx hb dX6_sendAgain_38 rfl (lv_at hl 1 rfl) ?_
      refine va_get (D := D) (ci := 6) (v := .int (g 0 10)) (C := RX6) (T := TX6) (N := 50) hx hb hts (se_iw iwX6) hown hK hP 0 rfl rfl 10 (by decide) (hts _ (List.mem_cons_of_mem _ qX6_f54)) (fun _ h9 => h9) rfl dX6_sendAgain_39 ?_
      refine lv_aload_n hx hb dX6_sendAgain_42 rfl (lv_at hl 1 rfl) ?_
      refine va_get (D := D) (ci := 6) (v := .int (g 0 14)) (C := RX6) (T := TX6) (N := 50) hx hb hts (se_iw iwX6) hown hK hP 0 rfl rfl 14 (by decide) (hts _ (List.mem_cons_of_mem _ qX6_f57)) (fun _ h9 => h9) rfl dX6_sendAgain_43 ?_
      refine lv_isub hx hb dX6_sendAgain_46 ?_
      exact T _ (mo_ifp c2 rfl)
    · refine lv_aload_n hx hb dX6_sendAgain_31 rfl (lv_at hl 1 rfl) ?_
      refine va_get (D := D) (ci := 6) (v := .int (g 0 13)) (C := RX6) (T := TX6) (N := 50) hx hb hts (se_iw iwX6) hown hK hP 0 rfl rfl 13 (by decide) (hts _ (List.mem_cons_of_mem _ qX6_f60)) (fun _ h9 => h9) rfl dX6_sendAgain_32 ?_
      refine lv_goto (tgt := 47) hx hb dX6_sendAgain_35 (by decide) ?_
      exact T _ (mo_ifn c2 rfl)
  refine lv_istore_n (lv' := [(2, .int ((if ((g 0 10) - (g 0 14)) ≤ (g 0 13) then ((g 0 10) - (g 0 14)) else (g 0 13)) : Int32)), (1, .int ((g 0 10) - (g 0 9))), (0, .ref (h 0))]) hx hb dX6_sendAgain_47 rfl hl (by decide) rfl (fun ls hl => ?_)
  exact J48 (se_u g 0 31 0) ((g 0 10) - (g 0 9)) ((if ((g 0 10) - (g 0 14)) ≤ (g 0 13) then ((g 0 10) - (g 0 14)) else (g 0 13)) : Int32) _ _ ls hI (by rw [F_M_sendAgain]) hP hD hS (lv_sub hl [2, 1, 0] rfl)
set_option maxRecDepth 100000 in
set_option maxHeartbeats 4000000 in
theorem c_M_sendOpen (l : Launch) (D : va_G) (k : Nat → ClassId) (h : Nat → Nat) (sz : Nat) (g : se_G)  : Met l yX6_sendOpen (se_w_X6_sendOpen) ({ frames := 2, cells := 0, slots := 0, locals := 49 }) (va_Pc [.ref (h 0)] (se_Pre D se_cl [(k 1, .int), (k 2, .int), (k 3, .boolean), (k 4, .int), (k 5, .int), (k 6, .int)] (se_WM k h g) se_ZN sz)) (se_Qv D se_cl [(k 1, .int), (k 2, .int), (k 3, .boolean), (k 4, .int), (k 5, .int), (k 6, .int)] (se_WM k h) (F_M_sendOpen g) (va_A (se_WM k h g) sz)) 0 0 (va_A (se_WM k h g) sz) := by
  refine se_met (Qc := se_Qv D se_cl [(k 1, .int), (k 2, .int), (k 3, .boolean), (k 4, .int), (k 5, .int), (k 6, .int)] (se_WM k h) (F_M_sendOpen g)) (cc := cX6_sendOpen) (maxL := 1) (ret := none) (by decide) rfl (Nat.le_of_ble_eq_true rfl) ?_
  intro p e s m below meth c ls A hx hb hr hts hown hlocks hml hA hP hK hD hS hZ hl
  replace hl : lv_has ls 1 [(0, .ref (h 0))] := hl
  have hF : F_M_sendOpen g = F_M_sendOpen g := rfl
  refine lv_aload_n hx hb dX6_sendOpen_0 rfl (lv_at hl 0 rfl) ?_
  refine lv_iconst (v := 0) hx hb dX6_sendOpen_1 (by decide) ?_
  refine va_put (D := D) (ci := 6) (v := .int 0) (ty := .boolean) (C := RX6) (T := TX6) (N := 50) hx hb hts (se_iw iwX6) tyX6 tyX6_ok nmX6 hown hK hP hD hS 0 rfl rfl 29 (by decide) (hts _ (List.mem_cons_of_mem _ qX6_f103)) (fun _ h9 => h9) rfl (by decide +kernel) rfl rfl (Nat.le_of_ble_eq_true rfl) dX6_sendOpen_2 (fun H locs hP hD hS => ?_)
  replace hP : va_P D se_cl (se_WM k h (se_u g 0 29 0)) H := hP
  replace hD : va_D A (se_WM k h (se_u g 0 29 0)) := hD
  refine lv_aload_n hx hb dX6_sendOpen_5 rfl (lv_at hl 0 rfl) ?_
  refine lv_iconst (v := 1) hx hb dX6_sendOpen_6 (by decide) ?_
  refine lv_aload_n hx hb dX6_sendOpen_7 rfl (lv_at hl 0 rfl) ?_
  refine va_get (D := D) (ci := 6) (v := .int (g 0 8)) (C := RX6) (T := TX6) (N := 50) hx hb hts (se_iw iwX6) hown hK hP 0 rfl rfl 8 (by decide) (hts _ (List.mem_cons_of_mem _ qX6_f48)) (fun _ h9 => h9) rfl dX6_sendOpen_8 ?_
  refine lv_iconst (v := 0) hx hb dX6_sendOpen_11 (by decide) ?_
  refine se_cvE (va_runV (C := RX6) (As := [.int 1, .int (g 0 8), .int 0]) (rest := []) ⟨hx, hb, hml, hown, hts⟩ (c_M_tellBytes l D k h _ (se_u g 0 29 0) 1 (g 0 8) 0 (Or.inl (by decide))) (se_kV 3 hts q_code_X6_tellBytes qX6_m252 q_ini_StreamEndModel q_instanceMethod_X6_tellBytes q_sel_X6_tellBytes (by decide +kernel) ⟨Nat.le_of_ble_eq_true rfl, Nat.le_of_ble_eq_true rfl⟩ rfl rfl) ⟨se_blind se_ZN_ok, va_recv hK hP (ci := 6) (q0 := 0) rfl rfl, se_pre se_ZN_ok hP hK hD hZ⟩ rfl rfl hl.1 rfl (lv_room (Nat.le_of_ble_eq_true rfl)) dX6_sendOpen_12 ⟨Nat.zero_le _, Nat.zero_le _⟩) hD hS hA (fun g1 H locs eg1 hP hD hS => ?_)
  replace hF : (F_M_sendOpen_k1 (F_M_tellBytes (se_u g 0 29 0) 1 (g 0 8) 0)) = F_M_sendOpen g := by rw [F_M_sendOpen]
  rw [← eg1] at hF
  replace hF : F_M_sendOpen_k1 g1 = F_M_sendOpen g := hF
  refine lv_aload_n hx hb dX6_sendOpen_15 rfl (lv_at hl 0 rfl) ?_
  refine lv_aload_n hx hb dX6_sendOpen_16 rfl (lv_at hl 0 rfl) ?_
  refine va_get (D := D) (ci := 6) (v := .int (g1 0 8)) (C := RX6) (T := TX6) (N := 50) hx hb hts (se_iw iwX6) hown hK hP 0 rfl rfl 8 (by decide) (hts _ (List.mem_cons_of_mem _ qX6_f48)) (fun _ h9 => h9) rfl dX6_sendOpen_17 ?_
  refine lv_iconst (v := 1) hx hb dX6_sendOpen_20 (by decide) ?_
  refine lv_iadd hx hb dX6_sendOpen_21 ?_
  refine lv_aload_n hx hb dX6_sendOpen_22 rfl (lv_at hl 0 rfl) ?_
  refine va_get (D := D) (ci := 6) (v := .int (g1 0 30)) (C := RX6) (T := TX6) (N := 50) hx hb hts (se_iw iwX6) hown hK hP 0 rfl rfl 30 (by decide) (hts _ (List.mem_cons_of_mem _ qX6_f100)) (fun _ h9 => h9) rfl dX6_sendOpen_23 ?_
  refine se_join (v := ((if (g1 0 30) = 0 then 1 else 0) : Int32)) (pcJ := 34) (restJ := [.int ((g1 0 8) + 1), .ref (h 0)]) (ls := ls) (fun T => ?_) ?_
  · refine lv_if_ne (tgt := 33) hx hb dX6_sendOpen_26 (by decide) (fun c2 => ?_) (fun c2 => ?_)
    · refine lv_iconst (v := 0) hx hb dX6_sendOpen_33 (by decide) ?_
      exact T _ (mo_ifn c2 rfl)
    · refine lv_iconst (v := 1) hx hb dX6_sendOpen_29 (by decide) ?_
      refine lv_goto (tgt := 34) hx hb dX6_sendOpen_30 (by decide) ?_
      exact T _ (mo_ifp c2 rfl)
  refine se_cvE (va_runV (C := RX6) (As := [.int ((g1 0 8) + 1), .int ((if (g1 0 30) = 0 then 1 else 0) : Int32)]) (rest := []) ⟨hx, hb, hml, hown, hts⟩ (c_M_sent l D k h _ g1 ((g1 0 8) + 1) ((if (g1 0 30) = 0 then 1 else 0) : Int32)) (se_kV 2 hts q_code_X6_sent qX6_m255 q_ini_StreamEndModel q_instanceMethod_X6_sent q_sel_X6_sent (by decide +kernel) ⟨Nat.le_of_ble_eq_true rfl, Nat.le_of_ble_eq_true rfl⟩ rfl rfl) ⟨se_blind se_ZN_ok, va_recv hK hP (ci := 6) (q0 := 0) rfl rfl, se_pre se_ZN_ok hP hK hD hZ⟩ rfl rfl hl.1 rfl (lv_room (Nat.le_of_ble_eq_true rfl)) dX6_sendOpen_34 ⟨Nat.zero_le _, Nat.zero_le _⟩) hD hS hA (fun g2 H locs eg2 hP hD hS => ?_)
  refine lv_aload_n hx hb dX6_sendOpen_37 rfl (lv_at hl 0 rfl) ?_
  refine lv_iconst (v := 1) hx hb dX6_sendOpen_38 (by decide) ?_
  refine va_put (D := D) (ci := 6) (v := .int 1) (ty := .boolean) (C := RX6) (T := TX6) (N := 50) hx hb hts (se_iw iwX6) tyX6 tyX6_ok nmX6 hown hK hP hD hS 0 rfl rfl 30 (by decide) (hts _ (List.mem_cons_of_mem _ qX6_f100)) (fun _ h9 => h9) rfl (by decide +kernel) rfl rfl (Nat.le_of_ble_eq_true rfl) dX6_sendOpen_39 (fun H locs hP hD hS => ?_)
  replace hP : va_P D se_cl (se_WM k h (se_u g2 0 30 1)) H := hP
  replace hD : va_D A (se_WM k h (se_u g2 0 30 1)) := hD
  exact se_rv hx hb hr hlocks hK hP hD hS dX6_sendOpen_42 (by subst eg2; rw [← hF, F_M_sendOpen_k1])
set_option maxRecDepth 100000 in
set_option maxHeartbeats 4000000 in
theorem c_M_next (l : Launch) (D : va_G) (k : Nat → ClassId) (h : Nat → Nat) (sz : Nat) (g : se_G)  (hI : mo_nx g) : Met l yX6_next (se_w_X6_next) ({ frames := 4, cells := 0, slots := 0, locals := 95 }) (va_Pc [.ref (h 0)] (se_Pre D se_cl [(k 1, .int), (k 2, .int), (k 3, .boolean), (k 4, .int), (k 5, .int), (k 6, .int)] (se_WM k h g) se_ZN sz)) (se_Qi D se_cl [(k 1, .int), (k 2, .int), (k 3, .boolean), (k 4, .int), (k 5, .int), (k 6, .int)] (se_WM k h) (F_M_next g) (va_A (se_WM k h g) sz)) 0 0 (va_A (se_WM k h g) sz) := by
  refine se_met (Qc := se_Qi D se_cl [(k 1, .int), (k 2, .int), (k 3, .boolean), (k 4, .int), (k 5, .int), (k 6, .int)] (se_WM k h) (F_M_next g)) (cc := cX6_next) (maxL := 1) (ret := (some .boolean)) (by decide) rfl (Nat.le_of_ble_eq_true rfl) ?_
  intro p e s m below meth c ls A hx hb hr hts hown hlocks hml hA hP hK hD hS hZ hl
  replace hl : lv_has ls 1 [(0, .ref (h 0))] := hl
  have hF : F_M_next g = F_M_next g := rfl
  refine lv_aload_n hx hb dX6_next_0 rfl (lv_at hl 0 rfl) ?_
  refine lv_iconst (v := 0) hx hb dX6_next_1 (by decide) ?_
  refine va_put (D := D) (ci := 6) (v := .int 0) (ty := .int) (C := RX6) (T := TX6) (N := 50) hx hb hts (se_iw iwX6) tyX6 tyX6_ok nmX6 hown hK hP hD hS 0 rfl rfl 2 (by decide) (hts _ (List.mem_cons_of_mem _ qX6_f45)) (fun _ h9 => h9) rfl (by decide +kernel) rfl rfl (Nat.le_of_ble_eq_true rfl) dX6_next_2 (fun H locs hP hD hS => ?_)
  replace hP : va_P D se_cl (se_WM k h (se_u g 0 2 0)) H := hP
  replace hD : va_D A (se_WM k h (se_u g 0 2 0)) := hD
  refine lv_aload_n hx hb dX6_next_5 rfl (lv_at hl 0 rfl) ?_
  refine va_get (D := D) (ci := 6) (v := .int (g 0 25)) (C := RX6) (T := TX6) (N := 50) hx hb hts (se_iw iwX6) hown hK hP 0 rfl rfl 25 (by decide) (hts _ (List.mem_cons_of_mem _ qX6_f150)) (fun _ h9 => h9) rfl dX6_next_6 ?_
  refine lv_if_eq (tgt := 37) hx hb dX6_next_9 (by decide) (fun c1 => ?_) (fun c1 => ?_)
  · refine lv_aload_n hx hb dX6_next_37 rfl (lv_at hl 0 rfl) ?_
    refine va_get (D := D) (ci := 6) (v := .int (g 0 29)) (C := RX6) (T := TX6) (N := 50) hx hb hts (se_iw iwX6) hown hK hP 0 rfl rfl 29 (by decide) (hts _ (List.mem_cons_of_mem _ qX6_f103)) (fun _ h9 => h9) rfl dX6_next_38 ?_
    refine lv_if_eq (tgt := 50) hx hb dX6_next_41 (by decide) (fun c2 => ?_) (fun c2 => ?_)
    · refine lv_aload_n hx hb dX6_next_50 rfl (lv_at hl 0 rfl) ?_
      refine va_get (D := D) (ci := 6) (v := .int (g 0 31)) (C := RX6) (T := TX6) (N := 50) hx hb hts (se_iw iwX6) hown hK hP 0 rfl rfl 31 (by decide) (hts _ (List.mem_cons_of_mem _ qX6_f106)) (fun _ h9 => h9) rfl dX6_next_51 ?_
      refine lv_if_eq (tgt := 63) hx hb dX6_next_54 (by decide) (fun c3 => ?_) (fun c3 => ?_)
      · refine lv_aload_n hx hb dX6_next_63 rfl (lv_at hl 0 rfl) ?_
        refine se_ciE (va_runV (C := RX6) (As := []) (rest := []) ⟨hx, hb, hml, hown, hts⟩ (c_M_sendFresh l D k h _ (se_u g 0 2 0) hI.1) (se_kV 0 hts q_code_X6_sendFresh qX6_m268 q_ini_StreamEndModel q_instanceMethod_X6_sendFresh q_sel_X6_sendFresh (by decide +kernel) ⟨Nat.le_of_ble_eq_true rfl, Nat.le_of_ble_eq_true rfl⟩ rfl rfl) ⟨se_blind se_ZN_ok, va_recv hK hP (ci := 6) (q0 := 0) rfl rfl, se_pre se_ZN_ok hP hK hD hZ⟩ rfl rfl hl.1 rfl (lv_room (Nat.le_of_ble_eq_true rfl)) dX6_next_64 ⟨Nat.zero_le _, Nat.zero_le _⟩) hD hS hA (fun r1 g1 H locs eg1 hP hD hS => ?_)
        replace hF : (F_M_next_k1 (F_M_sendFresh (se_u g 0 2 0)).1 (F_M_sendFresh (se_u g 0 2 0)).2) = F_M_next g := by rw [F_M_next, if_pos (α := Int32 × se_G) c1, if_pos (α := Int32 × se_G) c2, if_pos (α := Int32 × se_G) c3]
        rw [← eg1] at hF
        replace hF : F_M_next_k1 r1 g1 = F_M_next g := hF
        refine lv_if_eq (tgt := 72) hx hb dX6_next_67 (by decide) (fun c4 => ?_) (fun c4 => ?_)
        · refine lv_aload_n hx hb dX6_next_72 rfl (lv_at hl 0 rfl) ?_
          refine va_get (D := D) (ci := 6) (v := .int (g1 0 33)) (C := RX6) (T := TX6) (N := 50) hx hb hts (se_iw iwX6) hown hK hP 0 rfl rfl 33 (by decide) (hts _ (List.mem_cons_of_mem _ qX6_f112)) (fun _ h9 => h9) rfl dX6_next_73 ?_
          refine lv_if_eq (tgt := 91) hx hb dX6_next_76 (by decide) (fun c5 => ?_) (fun c5 => ?_)
          · refine lv_iconst (v := 0) hx hb dX6_next_91 (by decide) ?_
            exact se_riz hx hb hr rfl hlocks hK hP hD hS dX6_next_92 (by rw [← hF, F_M_next_k1, if_pos (α := Int32 × se_G) c4, if_pos (α := Int32 × se_G) c5])
          · refine lv_aload_n hx hb dX6_next_79 rfl (lv_at hl 0 rfl) ?_
            refine lv_iconst (v := 0) hx hb dX6_next_80 (by decide) ?_
            refine lv_aload_n hx hb dX6_next_81 rfl (lv_at hl 0 rfl) ?_
            refine va_get (D := D) (ci := 6) (v := .int (g1 0 10)) (C := RX6) (T := TX6) (N := 50) hx hb hts (se_iw iwX6) hown hK hP 0 rfl rfl 10 (by decide) (hts _ (List.mem_cons_of_mem _ qX6_f54)) (fun _ h9 => h9) rfl dX6_next_82 ?_
            refine lv_iconst (v := 0) hx hb dX6_next_85 (by decide) ?_
            refine se_cvE (va_runV (C := RX6) (As := [.int 0, .int (g1 0 10), .int 0]) (rest := []) ⟨hx, hb, hml, hown, hts⟩ (c_M_tellBytes l D k h _ g1 0 (g1 0 10) 0 (Or.inl (by decide))) (se_kV 3 hts q_code_X6_tellBytes qX6_m252 q_ini_StreamEndModel q_instanceMethod_X6_tellBytes q_sel_X6_tellBytes (by decide +kernel) ⟨Nat.le_of_ble_eq_true rfl, Nat.le_of_ble_eq_true rfl⟩ rfl rfl) ⟨se_blind se_ZN_ok, va_recv hK hP (ci := 6) (q0 := 0) rfl rfl, se_pre se_ZN_ok hP hK hD hZ⟩ rfl rfl hl.1 rfl (lv_room (Nat.le_of_ble_eq_true rfl)) dX6_next_86 ⟨Nat.zero_le _, Nat.zero_le _⟩) hD hS hA (fun g2 H locs eg2 hP hD hS => ?_)
            refine lv_iconst (v := 1) hx hb dX6_next_89 (by decide) ?_
            exact se_riz hx hb hr rfl hlocks hK hP hD hS dX6_next_90 (by subst eg2; rw [← hF, F_M_next_k1, if_pos (α := Int32 × se_G) c4, if_neg (α := Int32 × se_G) c5])
        · refine lv_iconst (v := 1) hx hb dX6_next_70 (by decide) ?_
          exact se_riz hx hb hr rfl hlocks hK hP hD hS dX6_next_71 (by rw [← hF, F_M_next_k1, if_neg (α := Int32 × se_G) c4])
      · refine lv_aload_n hx hb dX6_next_57 rfl (lv_at hl 0 rfl) ?_
        refine se_cvE (va_runV (C := RX6) (As := []) (rest := []) ⟨hx, hb, hml, hown, hts⟩ (c_M_sendAgain l D k h _ (se_u g 0 2 0) (mo_nx1 (by assumption) hI)) (se_kV 0 hts q_code_X6_sendAgain qX6_m265 q_ini_StreamEndModel q_instanceMethod_X6_sendAgain q_sel_X6_sendAgain (by decide +kernel) ⟨Nat.le_of_ble_eq_true rfl, Nat.le_of_ble_eq_true rfl⟩ rfl rfl) ⟨se_blind se_ZN_ok, va_recv hK hP (ci := 6) (q0 := 0) rfl rfl, se_pre se_ZN_ok hP hK hD hZ⟩ rfl rfl hl.1 rfl (lv_room (Nat.le_of_ble_eq_true rfl)) dX6_next_58 ⟨Nat.zero_le _, Nat.zero_le _⟩) hD hS hA (fun g3 H locs eg3 hP hD hS => ?_)
        refine lv_iconst (v := 1) hx hb dX6_next_61 (by decide) ?_
        exact se_riz hx hb hr rfl hlocks hK hP hD hS dX6_next_62 (by subst eg3; rw [F_M_next, if_pos (α := Int32 × se_G) c1, if_pos (α := Int32 × se_G) c2, if_neg (α := Int32 × se_G) c3])
    · refine lv_aload_n hx hb dX6_next_44 rfl (lv_at hl 0 rfl) ?_
      refine se_cvE (va_runV (C := RX6) (As := []) (rest := []) ⟨hx, hb, hml, hown, hts⟩ (c_M_sendOpen l D k h _ (se_u g 0 2 0)) (se_kV 0 hts q_code_X6_sendOpen qX6_m262 q_ini_StreamEndModel q_instanceMethod_X6_sendOpen q_sel_X6_sendOpen (by decide +kernel) ⟨Nat.le_of_ble_eq_true rfl, Nat.le_of_ble_eq_true rfl⟩ rfl rfl) ⟨se_blind se_ZN_ok, va_recv hK hP (ci := 6) (q0 := 0) rfl rfl, se_pre se_ZN_ok hP hK hD hZ⟩ rfl rfl hl.1 rfl (lv_room (Nat.le_of_ble_eq_true rfl)) dX6_next_45 ⟨Nat.zero_le _, Nat.zero_le _⟩) hD hS hA (fun g4 H locs eg4 hP hD hS => ?_)
      refine lv_iconst (v := 1) hx hb dX6_next_48 (by decide) ?_
      exact se_riz hx hb hr rfl hlocks hK hP hD hS dX6_next_49 (by subst eg4; rw [F_M_next, if_pos (α := Int32 × se_G) c1, if_neg (α := Int32 × se_G) c2])
  · refine lv_aload_n hx hb dX6_next_12 rfl (lv_at hl 0 rfl) ?_
    refine lv_iconst (v := 0) hx hb dX6_next_13 (by decide) ?_
    refine va_put (D := D) (ci := 6) (v := .int 0) (ty := .boolean) (C := RX6) (T := TX6) (N := 50) hx hb hts (se_iw iwX6) tyX6 tyX6_ok nmX6 hown hK hP hD hS 0 rfl rfl 25 (by decide) (hts _ (List.mem_cons_of_mem _ qX6_f150)) (fun _ h9 => h9) rfl (by decide +kernel) rfl rfl (Nat.le_of_ble_eq_true rfl) dX6_next_14 (fun H locs hP hD hS => ?_)
    replace hP : va_P D se_cl (se_WM k h (se_u (se_u g 0 2 0) 0 25 0)) H := hP
    replace hD : va_D A (se_WM k h (se_u (se_u g 0 2 0) 0 25 0)) := hD
    refine lv_aload_n hx hb dX6_next_17 rfl (lv_at hl 0 rfl) ?_
    refine lv_aload_n hx hb dX6_next_18 rfl (lv_at hl 0 rfl) ?_
    refine va_get (D := D) (ci := 6) (v := .int (g 0 26)) (C := RX6) (T := TX6) (N := 50) hx hb hts (se_iw iwX6) hown hK hP 0 rfl rfl 26 (by decide) (hts _ (List.mem_cons_of_mem _ qX6_f153)) (fun _ h9 => h9) rfl dX6_next_19 ?_
    refine lv_aload_n hx hb dX6_next_22 rfl (lv_at hl 0 rfl) ?_
    refine va_get (D := D) (ci := 6) (v := .int (g 0 27)) (C := RX6) (T := TX6) (N := 50) hx hb hts (se_iw iwX6) hown hK hP 0 rfl rfl 27 (by decide) (hts _ (List.mem_cons_of_mem _ qX6_f156)) (fun _ h9 => h9) rfl dX6_next_23 ?_
    refine lv_aload_n hx hb dX6_next_26 rfl (lv_at hl 0 rfl) ?_
    refine va_get (D := D) (ci := 6) (v := .int (g 0 28)) (C := RX6) (T := TX6) (N := 50) hx hb hts (se_iw iwX6) hown hK hP 0 rfl rfl 28 (by decide) (hts _ (List.mem_cons_of_mem _ qX6_f159)) (fun _ h9 => h9) rfl dX6_next_27 ?_
    refine lv_iconst (v := 0) hx hb dX6_next_30 (by decide) ?_
    refine lv_iconst (v := 0) hx hb dX6_next_31 (by decide) ?_
    refine se_cvE (va_runV (C := RX6) (As := [.int (g 0 26), .int (g 0 27), .int (g 0 28), .int 0, .int 0]) (rest := []) ⟨hx, hb, hml, hown, hts⟩ (c_M_make l D k h _ (se_u (se_u g 0 2 0) 0 25 0) (g 0 26) (g 0 27) (g 0 28) 0 0) (se_kV 5 hts q_code_X6_make qX6_m249 q_ini_StreamEndModel q_instanceMethod_X6_make q_sel_X6_make (by decide +kernel) ⟨Nat.le_of_ble_eq_true rfl, Nat.le_of_ble_eq_true rfl⟩ rfl rfl) ⟨se_blind se_ZN_ok, va_recv hK hP (ci := 6) (q0 := 0) rfl rfl, se_pre se_ZN_ok hP hK hD hZ⟩ rfl rfl hl.1 rfl (lv_room (Nat.le_of_ble_eq_true rfl)) dX6_next_32 ⟨Nat.zero_le _, Nat.zero_le _⟩) hD hS hA (fun g5 H locs eg5 hP hD hS => ?_)
    refine lv_iconst (v := 1) hx hb dX6_next_35 (by decide) ?_
    exact se_riz hx hb hr rfl hlocks hK hP hD hS dX6_next_36 (by subst eg5; rw [F_M_next, if_neg (α := Int32 × se_G) c1])
