/-! written by program (wip/gen) -/
set_option maxRecDepth 100000 in
set_option maxHeartbeats 4000000 in
theorem c_M_learn (l : Launch) (D : va_G) (k : Nat → ClassId) (h : Nat → Nat) (sz : Nat) (g : se_G) (p1 : Int32) : Met l yX6_learn (se_w_X6_learn) ({ frames := 0, cells := 0, slots := 0, locals := 0 }) (va_Pc [.ref (h 0), .int p1] (se_Pre D se_cl [(k 1, .int), (k 2, .int), (k 3, .boolean), (k 4, .int), (k 5, .int), (k 6, .int)] (se_WM k h g) se_ZN sz)) (se_Qv D se_cl [(k 1, .int), (k 2, .int), (k 3, .boolean), (k 4, .int), (k 5, .int), (k 6, .int)] (se_WM k h) (F_M_learn g p1) (va_A (se_WM k h g) sz)) 0 0 (va_A (se_WM k h g) sz) := by
  refine se_met (Qc := se_Qv D se_cl [(k 1, .int), (k 2, .int), (k 3, .boolean), (k 4, .int), (k 5, .int), (k 6, .int)] (se_WM k h) (F_M_learn g p1)) (cc := cX6_learn) (maxL := 3) (ret := none) (by decide) rfl (Nat.le_of_ble_eq_true rfl) ?_
  intro p e s m below meth c ls A hx hb hr hts hown hlocks hml hA hP hK hD hS hZ hl
  replace hl : lv_has ls 3 [(0, .ref (h 0)), (1, .int p1)] := hl
  have J76 : ∀ (gj76 : se_G) (H : Heap) (locs : List Loc) (ls : Array Slot), F_M_learn_j76 gj76 = F_M_learn g p1 → va_P D se_cl (se_WM k h gj76) H → va_D A (se_WM k h gj76) → va_S A s.heap H locs → lv_has ls 3 [(0, .ref (h 0))] → W p l e ({ frames := 0, cells := 0, slots := 0, locals := 0 }) s m [.ref (h 0), .int p1].toArray below meth c H locs 0 0 (MQ below (se_Qv D se_cl [(k 1, .int), (k 2, .int), (k 3, .boolean), (k 4, .int), (k 5, .int), (k 6, .int)] (se_WM k h) (F_M_learn g p1) A) [.ref (h 0), .int p1].toArray s 0 0 A) (F0 m 76 ls []) := by
    intro gj76 H locs ls hF hP hD hS hl
    refine lv_aload_n hx hb dX6_learn_76 rfl (lv_at hl 0 rfl) ?_
    refine va_get (D := D) (ci := 6) (v := .int (gj76 0 41)) (C := RX6) (T := TX6) (N := 50) hx hb hts (se_iw iwX6) hown hK hP 0 rfl rfl 41 (by decide) (hts _ (List.mem_cons_of_mem _ qX6_f94)) (fun _ h9 => h9) rfl dX6_learn_77 ?_
    refine lv_bipush (v := 8) hx hb dX6_learn_80 (by decide) ?_
    refine lv_idiv hx hb dX6_learn_82 (by decide) ?_
    refine lv_aload_n hx hb dX6_learn_83 rfl (lv_at hl 0 rfl) ?_
    refine va_get (D := D) (ci := 6) (v := .int (gj76 0 42)) (C := RX6) (T := TX6) (N := 50) hx hb hts (se_iw iwX6) hown hK hP 0 rfl rfl 42 (by decide) (hts _ (List.mem_cons_of_mem _ qX6_f97)) (fun _ h9 => h9) rfl dX6_learn_84 ?_
    refine lv_iconst (v := 1) hx hb dX6_learn_87 (by decide) ?_
    refine se_join (v := ((if (gj76 0 42) ≤ 1 then 1 else (gj76 0 42)) : Int32)) (pcJ := 99) (restJ := [.int ((gj76 0 41) / 8)]) (ls := ls) (fun T => ?_) ?_
    · refine lv_icmp_le (tgt := 98) hx hb dX6_learn_88 (by decide) (fun c3 => ?_) (fun c3 => ?_)
      · refine lv_iconst (v := 1) hx hb dX6_learn_98 (by decide) ?_
        exact T _ (mo_ifp c3 rfl)
      · refine lv_aload_n hx hb dX6_learn_91 rfl (lv_at hl 0 rfl) ?_
        refine va_get (D := D) (ci := 6) (v := .int (gj76 0 42)) (C := RX6) (T := TX6) (N := 50) hx hb hts (se_iw iwX6) hown hK hP 0 rfl rfl 42 (by decide) (hts _ (List.mem_cons_of_mem _ qX6_f97)) (fun _ h9 => h9) rfl dX6_learn_92 ?_
        refine lv_goto (tgt := 99) hx hb dX6_learn_95 (by decide) ?_
        exact T _ (mo_ifn c3 rfl)
    refine lv_iadd hx hb dX6_learn_99 ?_
    refine lv_istore_n (lv' := [(2, .int (((gj76 0 41) / 8) + ((if (gj76 0 42) ≤ 1 then 1 else (gj76 0 42)) : Int32))), (0, .ref (h 0))]) hx hb dX6_learn_100 rfl hl (by decide) rfl (fun ls hl => ?_)
    refine lv_aload_n hx hb dX6_learn_101 rfl (lv_at hl 1 rfl) ?_
    refine lv_iload_n hx hb dX6_learn_102 rfl (lv_at hl 0 rfl) ?_
    refine lv_bipush (v := 20) hx hb dX6_learn_103 (by decide) ?_
    refine se_join (v := ((if 20 ≤ (((gj76 0 41) / 8) + ((if (gj76 0 42) ≤ 1 then 1 else (gj76 0 42)) : Int32)) then ((if (((gj76 0 41) / 8) + ((if (gj76 0 42) ≤ 1 then 1 else (gj76 0 42)) : Int32)) ≤ 1200 then (((gj76 0 41) / 8) + ((if (gj76 0 42) ≤ 1 then 1 else (gj76 0 42)) : Int32)) else 1200) : Int32) else 20) : Int32)) (pcJ := 127) (restJ := [.ref (h 0)]) (ls := ls) (fun T => ?_) ?_
    · refine lv_icmp_ge (tgt := 113) hx hb dX6_learn_105 (by decide) (fun c5 => ?_) (fun c5 => ?_)
      · refine lv_iload_n hx hb dX6_learn_113 rfl (lv_at hl 0 rfl) ?_
        refine lv_sipush (v := 1200) hx hb dX6_learn_114 (by decide) ?_
        refine lv_icmp_le (tgt := 126) hx hb dX6_learn_117 (by decide) (fun c6 => ?_) (fun c6 => ?_)
        · refine lv_iload_n hx hb dX6_learn_126 rfl (lv_at hl 0 rfl) ?_
          exact T _ (mo_ifp c5 (mo_ifp c6 rfl))
        · refine lv_sipush (v := 1200) hx hb dX6_learn_120 (by decide) ?_
          refine lv_goto (tgt := 127) hx hb dX6_learn_123 (by decide) ?_
          exact T _ (mo_ifp c5 (mo_ifn c6 rfl))
      · refine lv_bipush (v := 20) hx hb dX6_learn_108 (by decide) ?_
        refine lv_goto (tgt := 127) hx hb dX6_learn_110 (by decide) ?_
        exact T _ (mo_ifn c5 rfl)
    refine va_put (D := D) (ci := 6) (v := .int ((if 20 ≤ (((gj76 0 41) / 8) + ((if (gj76 0 42) ≤ 1 then 1 else (gj76 0 42)) : Int32)) then ((if (((gj76 0 41) / 8) + ((if (gj76 0 42) ≤ 1 then 1 else (gj76 0 42)) : Int32)) ≤ 1200 then (((gj76 0 41) / 8) + ((if (gj76 0 42) ≤ 1 then 1 else (gj76 0 42)) : Int32)) else 1200) : Int32) else 20) : Int32)) (ty := .int) (C := RX6) (T := TX6) (N := 50) hx hb hts (se_iw iwX6) tyX6 tyX6_ok nmX6 hown hK hP hD hS 0 rfl rfl 35 (by decide) (hts _ (List.mem_cons_of_mem _ qX6_f24)) (fun _ h9 => h9) rfl (by decide +kernel) rfl rfl (Nat.le_of_ble_eq_true rfl) dX6_learn_127 (fun H locs hP hD hS => ?_)
    replace hP : va_P D se_cl (se_WM k h (se_u gj76 0 35 ((if 20 ≤ (((gj76 0 41) / 8) + ((if (gj76 0 42) ≤ 1 then 1 else (gj76 0 42)) : Int32)) then ((if (((gj76 0 41) / 8) + ((if (gj76 0 42) ≤ 1 then 1 else (gj76 0 42)) : Int32)) ≤ 1200 then (((gj76 0 41) / 8) + ((if (gj76 0 42) ≤ 1 then 1 else (gj76 0 42)) : Int32)) else 1200) : Int32) else 20) : Int32))) H := hP
    replace hD : va_D A (se_WM k h (se_u gj76 0 35 ((if 20 ≤ (((gj76 0 41) / 8) + ((if (gj76 0 42) ≤ 1 then 1 else (gj76 0 42)) : Int32)) then ((if (((gj76 0 41) / 8) + ((if (gj76 0 42) ≤ 1 then 1 else (gj76 0 42)) : Int32)) ≤ 1200 then (((gj76 0 41) / 8) + ((if (gj76 0 42) ≤ 1 then 1 else (gj76 0 42)) : Int32)) else 1200) : Int32) else 20) : Int32))) := hD
    exact se_rv hx hb hr hlocks hK hP hD hS dX6_learn_130 (by rw [← hF, F_M_learn_j76])
  have hF : F_M_learn g p1 = F_M_learn g p1 := rfl
  refine lv_aload_n hx hb dX6_learn_0 rfl (lv_at hl 0 rfl) ?_
  refine va_get (D := D) (ci := 6) (v := .int (g 0 40)) (C := RX6) (T := TX6) (N := 50) hx hb hts (se_iw iwX6) hown hK hP 0 rfl rfl 40 (by decide) (hts _ (List.mem_cons_of_mem _ qX6_f91)) (fun _ h9 => h9) rfl dX6_learn_1 ?_
  refine lv_if_eq (tgt := 56) hx hb dX6_learn_4 (by decide) (fun c1 => ?_) (fun c1 => ?_)
  · refine lv_aload_n hx hb dX6_learn_56 rfl (lv_at hl 0 rfl) ?_
    refine lv_iconst (v := 1) hx hb dX6_learn_57 (by decide) ?_
    refine va_put (D := D) (ci := 6) (v := .int 1) (ty := .boolean) (C := RX6) (T := TX6) (N := 50) hx hb hts (se_iw iwX6) tyX6 tyX6_ok nmX6 hown hK hP hD hS 0 rfl rfl 40 (by decide) (hts _ (List.mem_cons_of_mem _ qX6_f91)) (fun _ h9 => h9) rfl (by decide +kernel) rfl rfl (Nat.le_of_ble_eq_true rfl) dX6_learn_58 (fun H locs hP hD hS => ?_)
    replace hP : va_P D se_cl (se_WM k h (se_u g 0 40 1)) H := hP
    replace hD : va_D A (se_WM k h (se_u g 0 40 1)) := hD
    refine lv_aload_n hx hb dX6_learn_61 rfl (lv_at hl 0 rfl) ?_
    refine lv_bipush (v := 8) hx hb dX6_learn_62 (by decide) ?_
    refine lv_iload_n hx hb dX6_learn_64 rfl (lv_at hl 1 rfl) ?_
    refine lv_imul hx hb dX6_learn_65 ?_
    refine va_put (D := D) (ci := 6) (v := .int (8 * p1)) (ty := .int) (C := RX6) (T := TX6) (N := 50) hx hb hts (se_iw iwX6) tyX6 tyX6_ok nmX6 hown hK hP hD hS 0 rfl rfl 41 (by decide) (hts _ (List.mem_cons_of_mem _ qX6_f94)) (fun _ h9 => h9) rfl (by decide +kernel) rfl rfl (Nat.le_of_ble_eq_true rfl) dX6_learn_66 (fun H locs hP hD hS => ?_)
    replace hP : va_P D se_cl (se_WM k h (se_u (se_u g 0 40 1) 0 41 (8 * p1))) H := hP
    replace hD : va_D A (se_WM k h (se_u (se_u g 0 40 1) 0 41 (8 * p1))) := hD
    refine lv_aload_n hx hb dX6_learn_69 rfl (lv_at hl 0 rfl) ?_
    refine lv_iconst (v := 2) hx hb dX6_learn_70 (by decide) ?_
    refine lv_iload_n hx hb dX6_learn_71 rfl (lv_at hl 1 rfl) ?_
    refine lv_imul hx hb dX6_learn_72 ?_
    refine va_put (D := D) (ci := 6) (v := .int (2 * p1)) (ty := .int) (C := RX6) (T := TX6) (N := 50) hx hb hts (se_iw iwX6) tyX6 tyX6_ok nmX6 hown hK hP hD hS 0 rfl rfl 42 (by decide) (hts _ (List.mem_cons_of_mem _ qX6_f97)) (fun _ h9 => h9) rfl (by decide +kernel) rfl rfl (Nat.le_of_ble_eq_true rfl) dX6_learn_73 (fun H locs hP hD hS => ?_)
    replace hP : va_P D se_cl (se_WM k h (se_u (se_u (se_u g 0 40 1) 0 41 (8 * p1)) 0 42 (2 * p1))) H := hP
    replace hD : va_D A (se_WM k h (se_u (se_u (se_u g 0 40 1) 0 41 (8 * p1)) 0 42 (2 * p1))) := hD
    exact J76 (se_u (se_u (se_u g 0 40 1) 0 41 (8 * p1)) 0 42 (2 * p1)) _ _ ls (by rw [F_M_learn, if_pos (α := se_G) c1]) hP hD hS (lv_sub hl [0] rfl)
  · refine lv_iload_n hx hb dX6_learn_7 rfl (lv_at hl 1 rfl) ?_
    refine lv_aload_n hx hb dX6_learn_8 rfl (lv_at hl 0 rfl) ?_
    refine va_get (D := D) (ci := 6) (v := .int (g 0 41)) (C := RX6) (T := TX6) (N := 50) hx hb hts (se_iw iwX6) hown hK hP 0 rfl rfl 41 (by decide) (hts _ (List.mem_cons_of_mem _ qX6_f94)) (fun _ h9 => h9) rfl dX6_learn_9 ?_
    refine lv_bipush (v := 8) hx hb dX6_learn_12 (by decide) ?_
    refine lv_idiv hx hb dX6_learn_14 (by decide) ?_
    refine lv_isub hx hb dX6_learn_15 ?_
    refine lv_istore_n (lv' := [(2, .int (p1 - ((g 0 41) / 8))), (0, .ref (h 0)), (1, .int p1)]) hx hb dX6_learn_16 rfl hl (by decide) rfl (fun ls hl => ?_)
    refine lv_aload_n hx hb dX6_learn_17 rfl (lv_at hl 1 rfl) ?_
    refine lv_dup hx hb dX6_learn_18 rfl ?_
    refine va_get (D := D) (ci := 6) (v := .int (g 0 41)) (C := RX6) (T := TX6) (N := 50) hx hb hts (se_iw iwX6) hown hK hP 0 rfl rfl 41 (by decide) (hts _ (List.mem_cons_of_mem _ qX6_f94)) (fun _ h9 => h9) rfl dX6_learn_19 ?_
    refine lv_iload_n hx hb dX6_learn_22 rfl (lv_at hl 0 rfl) ?_
    refine lv_iadd hx hb dX6_learn_23 ?_
    refine va_put (D := D) (ci := 6) (v := .int ((g 0 41) + (p1 - ((g 0 41) / 8)))) (ty := .int) (C := RX6) (T := TX6) (N := 50) hx hb hts (se_iw iwX6) tyX6 tyX6_ok nmX6 hown hK hP hD hS 0 rfl rfl 41 (by decide) (hts _ (List.mem_cons_of_mem _ qX6_f94)) (fun _ h9 => h9) rfl (by decide +kernel) rfl rfl (Nat.le_of_ble_eq_true rfl) dX6_learn_24 (fun H locs hP hD hS => ?_)
    replace hP : va_P D se_cl (se_WM k h (se_u g 0 41 ((g 0 41) + (p1 - ((g 0 41) / 8))))) H := hP
    replace hD : va_D A (se_WM k h (se_u g 0 41 ((g 0 41) + (p1 - ((g 0 41) / 8))))) := hD
    refine lv_aload_n hx hb dX6_learn_27 rfl (lv_at hl 1 rfl) ?_
    refine lv_dup hx hb dX6_learn_28 rfl ?_
    refine va_get (D := D) (ci := 6) (v := .int (g 0 42)) (C := RX6) (T := TX6) (N := 50) hx hb hts (se_iw iwX6) hown hK hP 0 rfl rfl 42 (by decide) (hts _ (List.mem_cons_of_mem _ qX6_f97)) (fun _ h9 => h9) rfl dX6_learn_29 ?_
    refine lv_iload_n hx hb dX6_learn_32 rfl (lv_at hl 0 rfl) ?_
    refine se_join (v := ((if 0 ≤ (p1 - ((g 0 41) / 8)) then (p1 - ((g 0 41) / 8)) else (-(p1 - ((g 0 41) / 8)))) : Int32)) (pcJ := 42) (restJ := [.int (g 0 42), .ref (h 0)]) (ls := ls) (fun T => ?_) ?_
    · refine lv_if_ge (tgt := 41) hx hb dX6_learn_33 (by decide) (fun c8 => ?_) (fun c8 => ?_)
      · refine lv_iload_n hx hb dX6_learn_41 rfl (lv_at hl 0 rfl) ?_
        exact T _ (mo_ifp c8 rfl)
      · refine lv_iload_n hx hb dX6_learn_36 rfl (lv_at hl 0 rfl) ?_
        refine lv_ineg hx hb dX6_learn_37 ?_
        refine lv_goto (tgt := 42) hx hb dX6_learn_38 (by decide) ?_
        exact T _ (mo_ifn c8 rfl)
    refine lv_aload_n hx hb dX6_learn_42 rfl (lv_at hl 1 rfl) ?_
    refine va_get (D := D) (ci := 6) (v := .int (g 0 42)) (C := RX6) (T := TX6) (N := 50) hx hb hts (se_iw iwX6) hown hK hP 0 rfl rfl 42 (by decide) (hts _ (List.mem_cons_of_mem _ qX6_f97)) (fun _ h9 => h9) rfl dX6_learn_43 ?_
    refine lv_iconst (v := 4) hx hb dX6_learn_46 (by decide) ?_
    refine lv_idiv hx hb dX6_learn_47 (by decide) ?_
    refine lv_isub hx hb dX6_learn_48 ?_
    refine lv_iadd hx hb dX6_learn_49 ?_
    refine va_put (D := D) (ci := 6) (v := .int ((g 0 42) + (((if 0 ≤ (p1 - ((g 0 41) / 8)) then (p1 - ((g 0 41) / 8)) else (-(p1 - ((g 0 41) / 8)))) : Int32) - ((g 0 42) / 4)))) (ty := .int) (C := RX6) (T := TX6) (N := 50) hx hb hts (se_iw iwX6) tyX6 tyX6_ok nmX6 hown hK hP hD hS 0 rfl rfl 42 (by decide) (hts _ (List.mem_cons_of_mem _ qX6_f97)) (fun _ h9 => h9) rfl (by decide +kernel) rfl rfl (Nat.le_of_ble_eq_true rfl) dX6_learn_50 (fun H locs hP hD hS => ?_)
    replace hP : va_P D se_cl (se_WM k h (se_u (se_u g 0 41 ((g 0 41) + (p1 - ((g 0 41) / 8)))) 0 42 ((g 0 42) + (((if 0 ≤ (p1 - ((g 0 41) / 8)) then (p1 - ((g 0 41) / 8)) else (-(p1 - ((g 0 41) / 8)))) : Int32) - ((g 0 42) / 4))))) H := hP
    replace hD : va_D A (se_WM k h (se_u (se_u g 0 41 ((g 0 41) + (p1 - ((g 0 41) / 8)))) 0 42 ((g 0 42) + (((if 0 ≤ (p1 - ((g 0 41) / 8)) then (p1 - ((g 0 41) / 8)) else (-(p1 - ((g 0 41) / 8)))) : Int32) - ((g 0 42) / 4))))) := hD
    refine lv_goto (tgt := 76) hx hb dX6_learn_53 (by decide) ?_
    exact J76 (se_u (se_u g 0 41 ((g 0 41) + (p1 - ((g 0 41) / 8)))) 0 42 ((g 0 42) + (((if 0 ≤ (p1 - ((g 0 41) / 8)) then (p1 - ((g 0 41) / 8)) else (-(p1 - ((g 0 41) / 8)))) : Int32) - ((g 0 42) / 4)))) _ _ ls (by rw [F_M_learn, if_neg (α := se_G) c1]) hP hD hS (lv_sub hl [1] rfl)
set_option maxRecDepth 100000 in
set_option maxHeartbeats 4000000 in
theorem c_M_thanked (l : Launch) (D : va_G) (k : Nat → ClassId) (h : Nat → Nat) (sz : Nat) (g : se_G) (p1 : Int32) (hI : 0 ≤ (g 0 13).toInt ∧ (g 0 13).toInt ≤ 2048) : Met l yX6_thanked (se_w_X6_thanked) ({ frames := 1, cells := 0, slots := 0, locals := 22 }) (va_Pc [.ref (h 0), .int p1] (se_Pre D se_cl [(k 1, .int), (k 2, .int), (k 3, .boolean), (k 4, .int), (k 5, .int), (k 6, .int)] (se_WM k h g) se_ZN sz)) (se_Qv D se_cl [(k 1, .int), (k 2, .int), (k 3, .boolean), (k 4, .int), (k 5, .int), (k 6, .int)] (se_WM k h) (F_M_thanked g p1) (va_A (se_WM k h g) sz)) 0 0 (va_A (se_WM k h g) sz) := by
  refine se_met (Qc := se_Qv D se_cl [(k 1, .int), (k 2, .int), (k 3, .boolean), (k 4, .int), (k 5, .int), (k 6, .int)] (se_WM k h) (F_M_thanked g p1)) (cc := cX6_thanked) (maxL := 5) (ret := none) (by decide) rfl (Nat.le_of_ble_eq_true rfl) ?_
  intro p e s m below meth c ls A hx hb hr hts hown hlocks hml hA hP hK hD hS hZ hl
  replace hl : lv_has ls 5 [(0, .ref (h 0)), (1, .int p1)] := hl
  have J125 : ∀ (gj125 : se_G) (H : Heap) (locs : List Loc) (ls : Array Slot), F_M_thanked_j125 gj125 = F_M_thanked g p1 → va_P D se_cl (se_WM k h gj125) H → va_D A (se_WM k h gj125) → va_S A s.heap H locs → lv_has ls 5 [(0, .ref (h 0))] → W p l e ({ frames := 1, cells := 0, slots := 0, locals := 22 }) s m [.ref (h 0), .int p1].toArray below meth c H locs 0 0 (MQ below (se_Qv D se_cl [(k 1, .int), (k 2, .int), (k 3, .boolean), (k 4, .int), (k 5, .int), (k 6, .int)] (se_WM k h) (F_M_thanked g p1) A) [.ref (h 0), .int p1].toArray s 0 0 A) (F0 m 125 ls []) := by
    intro gj125 H locs ls hF hP hD hS hl
    refine lv_aload_n hx hb dX6_thanked_125 rfl (lv_at hl 0 rfl) ?_
    refine lv_iconst (v := 0) hx hb dX6_thanked_126 (by decide) ?_
    refine va_put (D := D) (ci := 6) (v := .int 0) (ty := .int) (C := RX6) (T := TX6) (N := 50) hx hb hts (se_iw iwX6) tyX6 tyX6_ok nmX6 hown hK hP hD hS 0 rfl rfl 36 (by decide) (hts _ (List.mem_cons_of_mem _ qX6_f88)) (fun _ h9 => h9) rfl (by decide +kernel) rfl rfl (Nat.le_of_ble_eq_true rfl) dX6_thanked_127 (fun H locs hP hD hS => ?_)
    replace hP : va_P D se_cl (se_WM k h (se_u gj125 0 36 0)) H := hP
    replace hD : va_D A (se_WM k h (se_u gj125 0 36 0)) := hD
    refine lv_aload_n hx hb dX6_thanked_130 rfl (lv_at hl 0 rfl) ?_
    refine lv_iconst (v := 0) hx hb dX6_thanked_131 (by decide) ?_
    refine va_put (D := D) (ci := 6) (v := .int 0) (ty := .boolean) (C := RX6) (T := TX6) (N := 50) hx hb hts (se_iw iwX6) tyX6 tyX6_ok nmX6 hown hK hP hD hS 0 rfl rfl 31 (by decide) (hts _ (List.mem_cons_of_mem _ qX6_f106)) (fun _ h9 => h9) rfl (by decide +kernel) rfl rfl (Nat.le_of_ble_eq_true rfl) dX6_thanked_132 (fun H locs hP hD hS => ?_)
    replace hP : va_P D se_cl (se_WM k h (se_u (se_u gj125 0 36 0) 0 31 0)) H := hP
    replace hD : va_D A (se_WM k h (se_u (se_u gj125 0 36 0) 0 31 0)) := hD
    refine lv_aload_n hx hb dX6_thanked_135 rfl (lv_at hl 0 rfl) ?_
    refine lv_aload_n hx hb dX6_thanked_136 rfl (lv_at hl 0 rfl) ?_
    refine va_get (D := D) (ci := 6) (v := .int (gj125 0 9)) (C := RX6) (T := TX6) (N := 50) hx hb hts (se_iw iwX6) hown hK hP 0 rfl rfl 9 (by decide) (hts _ (List.mem_cons_of_mem _ qX6_f51)) (fun _ h9 => h9) rfl dX6_thanked_137 ?_
    refine lv_aload_n hx hb dX6_thanked_140 rfl (lv_at hl 0 rfl) ?_
    refine va_get (D := D) (ci := 6) (v := .int (gj125 0 10)) (C := RX6) (T := TX6) (N := 50) hx hb hts (se_iw iwX6) hown hK hP 0 rfl rfl 10 (by decide) (hts _ (List.mem_cons_of_mem _ qX6_f54)) (fun _ h9 => h9) rfl dX6_thanked_141 ?_
    refine se_join (v := ((if (gj125 0 9) = (gj125 0 10) then (-1) else ((gj125 0 3) + (gj125 0 35))) : Int32)) (pcJ := 160) (restJ := [.ref (h 0)]) (ls := ls) (fun T => ?_) ?_
    · refine lv_icmp_eq (tgt := 159) hx hb dX6_thanked_144 (by decide) (fun c7 => ?_) (fun c7 => ?_)
      · refine lv_iconst (v := (-1)) hx hb dX6_thanked_159 (by decide) ?_
        exact T _ (mo_ifp c7 rfl)
      · refine lv_aload_n hx hb dX6_thanked_147 rfl (lv_at hl 0 rfl) ?_
        refine va_get (D := D) (ci := 6) (v := .int (gj125 0 3)) (C := RX6) (T := TX6) (N := 50) hx hb hts (se_iw iwX6) hown hK hP 0 rfl rfl 3 (by decide) (hts _ (List.mem_cons_of_mem _ qX6_f121)) (fun _ h9 => h9) rfl dX6_thanked_148 ?_
        refine lv_aload_n hx hb dX6_thanked_151 rfl (lv_at hl 0 rfl) ?_
        refine va_get (D := D) (ci := 6) (v := .int (gj125 0 35)) (C := RX6) (T := TX6) (N := 50) hx hb hts (se_iw iwX6) hown hK hP 0 rfl rfl 35 (by decide) (hts _ (List.mem_cons_of_mem _ qX6_f24)) (fun _ h9 => h9) rfl dX6_thanked_152 ?_
        refine lv_iadd hx hb dX6_thanked_155 ?_
        refine lv_goto (tgt := 160) hx hb dX6_thanked_156 (by decide) ?_
        exact T _ (mo_ifn c7 rfl)
    refine va_put (D := D) (ci := 6) (v := .int ((if (gj125 0 9) = (gj125 0 10) then (-1) else ((gj125 0 3) + (gj125 0 35))) : Int32)) (ty := .int) (C := RX6) (T := TX6) (N := 50) hx hb hts (se_iw iwX6) tyX6 tyX6_ok nmX6 hown hK hP hD hS 0 rfl rfl 34 (by decide) (hts _ (List.mem_cons_of_mem _ qX6_f20)) (fun _ h9 => h9) rfl (by decide +kernel) rfl rfl (Nat.le_of_ble_eq_true rfl) dX6_thanked_160 (fun H locs hP hD hS => ?_)
    replace hP : va_P D se_cl (se_WM k h (se_u (se_u (se_u gj125 0 36 0) 0 31 0) 0 34 ((if (gj125 0 9) = (gj125 0 10) then (-1) else ((gj125 0 3) + (gj125 0 35))) : Int32))) H := hP
    replace hD : va_D A (se_WM k h (se_u (se_u (se_u gj125 0 36 0) 0 31 0) 0 34 ((if (gj125 0 9) = (gj125 0 10) then (-1) else ((gj125 0 3) + (gj125 0 35))) : Int32))) := hD
    exact se_rv hx hb hr hlocks hK hP hD hS dX6_thanked_163 (by rw [← hF, F_M_thanked_j125])
  have L35 : ∀ (n : Nat) (gj35 : se_G) (v1_35 : Int32) (v3_35 : Int32) (v4_35 : Int32) (H : Heap) (locs : List Loc) (ls : Array Slot), (0 ≤ (v3_35).toInt ∧ (v3_35).toInt ≤ (v4_35).toInt ∧ (gj35 0 13).toInt ≤ 2048) → ((gj35 0 13 : Int32).toInt - (v4_35).toInt).toNat < n → F_M_thanked_j35 n gj35 v1_35 v3_35 v4_35 = F_M_thanked g p1 → va_P D se_cl (se_WM k h gj35) H → va_D A (se_WM k h gj35) → va_S A s.heap H locs → lv_has ls 5 [(0, .ref (h 0)), (1, .int v1_35), (3, .int v3_35), (4, .int v4_35)] → W p l e ({ frames := 1, cells := 0, slots := 0, locals := 22 }) s m [.ref (h 0), .int p1].toArray below meth c H locs 0 0 (MQ below (se_Qv D se_cl [(k 1, .int), (k 2, .int), (k 3, .boolean), (k 4, .int), (k 5, .int), (k 6, .int)] (se_WM k h) (F_M_thanked g p1) A) [.ref (h 0), .int p1].toArray s 0 0 A) (F0 m 35 ls []) := by
    intro n
    induction n with
    | zero => intro gj35 v1_35 v3_35 v4_35 H locs ls hI hM; exact absurd hM (Nat.not_lt_zero _)
    | succ n ih =>
      intro gj35 v1_35 v3_35 v4_35 H locs ls hI hM hF hP hD hS hl
      refine lv_iload hx hb dX6_thanked_35 (lv_at hl 3 rfl) ?_
      refine lv_aload_n hx hb dX6_thanked_37 rfl (lv_at hl 0 rfl) ?_
      refine va_get (D := D) (ci := 6) (v := .int (gj35 0 13)) (C := RX6) (T := TX6) (N := 50) hx hb hts (se_iw iwX6) hown hK hP 0 rfl rfl 13 (by decide) (hts _ (List.mem_cons_of_mem _ qX6_f60)) (fun _ h9 => h9) rfl dX6_thanked_38 ?_
      refine lv_icmp_ge (tgt := 66) hx hb dX6_thanked_41 (by decide) (fun c4 => ?_) (fun c4 => ?_)
      · refine lv_aload_n hx hb dX6_thanked_66 rfl (lv_at hl 0 rfl) ?_
        refine lv_dup hx hb dX6_thanked_67 rfl ?_
        refine va_get (D := D) (ci := 6) (v := .int (gj35 0 13)) (C := RX6) (T := TX6) (N := 50) hx hb hts (se_iw iwX6) hown hK hP 0 rfl rfl 13 (by decide) (hts _ (List.mem_cons_of_mem _ qX6_f60)) (fun _ h9 => h9) rfl dX6_thanked_68 ?_
        refine lv_iload_n hx hb dX6_thanked_71 rfl (lv_at hl 2 rfl) ?_
        refine lv_isub hx hb dX6_thanked_72 ?_
        refine va_put (D := D) (ci := 6) (v := .int ((gj35 0 13) - v3_35)) (ty := .int) (C := RX6) (T := TX6) (N := 50) hx hb hts (se_iw iwX6) tyX6 tyX6_ok nmX6 hown hK hP hD hS 0 rfl rfl 13 (by decide) (hts _ (List.mem_cons_of_mem _ qX6_f60)) (fun _ h9 => h9) rfl (by decide +kernel) rfl rfl (Nat.le_of_ble_eq_true rfl) dX6_thanked_73 (fun H locs hP hD hS => ?_)
        replace hP : va_P D se_cl (se_WM k h (se_u gj35 0 13 ((gj35 0 13) - v3_35))) H := hP
        replace hD : va_D A (se_WM k h (se_u gj35 0 13 ((gj35 0 13) - v3_35))) := hD
        refine lv_aload_n hx hb dX6_thanked_76 rfl (lv_at hl 0 rfl) ?_
        refine lv_dup hx hb dX6_thanked_77 rfl ?_
        refine va_get (D := D) (ci := 6) (v := .int (gj35 0 14)) (C := RX6) (T := TX6) (N := 50) hx hb hts (se_iw iwX6) hown hK hP 0 rfl rfl 14 (by decide) (hts _ (List.mem_cons_of_mem _ qX6_f57)) (fun _ h9 => h9) rfl dX6_thanked_78 ?_
        refine lv_iload_n hx hb dX6_thanked_81 rfl (lv_at hl 2 rfl) ?_
        refine lv_iadd hx hb dX6_thanked_82 ?_
        refine va_put (D := D) (ci := 6) (v := .int ((gj35 0 14) + v3_35)) (ty := .int) (C := RX6) (T := TX6) (N := 50) hx hb hts (se_iw iwX6) tyX6 tyX6_ok nmX6 hown hK hP hD hS 0 rfl rfl 14 (by decide) (hts _ (List.mem_cons_of_mem _ qX6_f57)) (fun _ h9 => h9) rfl (by decide +kernel) rfl rfl (Nat.le_of_ble_eq_true rfl) dX6_thanked_83 (fun H locs hP hD hS => ?_)
        replace hP : va_P D se_cl (se_WM k h (se_u (se_u gj35 0 13 ((gj35 0 13) - v3_35)) 0 14 ((gj35 0 14) + v3_35))) H := hP
        replace hD : va_D A (se_WM k h (se_u (se_u gj35 0 13 ((gj35 0 13) - v3_35)) 0 14 ((gj35 0 14) + v3_35))) := hD
        refine lv_aload_n hx hb dX6_thanked_86 rfl (lv_at hl 0 rfl) ?_
        refine lv_iload_n hx hb dX6_thanked_87 rfl (lv_at hl 1 rfl) ?_
        refine va_put (D := D) (ci := 6) (v := .int v1_35) (ty := .int) (C := RX6) (T := TX6) (N := 50) hx hb hts (se_iw iwX6) tyX6 tyX6_ok nmX6 hown hK hP hD hS 0 rfl rfl 9 (by decide) (hts _ (List.mem_cons_of_mem _ qX6_f51)) (fun _ h9 => h9) rfl (by decide +kernel) rfl rfl (Nat.le_of_ble_eq_true rfl) dX6_thanked_88 (fun H locs hP hD hS => ?_)
        replace hP : va_P D se_cl (se_WM k h (se_u (se_u (se_u gj35 0 13 ((gj35 0 13) - v3_35)) 0 14 ((gj35 0 14) + v3_35)) 0 9 v1_35)) H := hP
        replace hD : va_D A (se_WM k h (se_u (se_u (se_u gj35 0 13 ((gj35 0 13) - v3_35)) 0 14 ((gj35 0 14) + v3_35)) 0 9 v1_35)) := hD
        refine lv_aload_n hx hb dX6_thanked_91 rfl (lv_at hl 0 rfl) ?_
        refine va_get (D := D) (ci := 6) (v := .int (gj35 0 37)) (C := RX6) (T := TX6) (N := 50) hx hb hts (se_iw iwX6) hown hK hP 0 rfl rfl 37 (by decide) (hts _ (List.mem_cons_of_mem _ qX6_f115)) (fun _ h9 => h9) rfl dX6_thanked_92 ?_
        refine lv_if_eq (tgt := 125) hx hb dX6_thanked_95 (by decide) (fun c5 => ?_) (fun c5 => ?_)
        · exact J125 (se_u (se_u (se_u gj35 0 13 ((gj35 0 13) - v3_35)) 0 14 ((gj35 0 14) + v3_35)) 0 9 v1_35) _ _ ls (by rw [← hF, F_M_thanked_j35, if_pos (α := se_G) c4, if_pos (α := se_G) c5]) hP hD hS (lv_sub hl [0] rfl)
        · refine lv_aload_n hx hb dX6_thanked_98 rfl (lv_at hl 0 rfl) ?_
          refine va_get (D := D) (ci := 6) (v := .int (gj35 0 38)) (C := RX6) (T := TX6) (N := 50) hx hb hts (se_iw iwX6) hown hK hP 0 rfl rfl 38 (by decide) (hts _ (List.mem_cons_of_mem _ qX6_f203)) (fun _ h9 => h9) rfl dX6_thanked_99 ?_
          refine lv_iload_n hx hb dX6_thanked_102 rfl (lv_at hl 1 rfl) ?_
          refine lv_isub hx hb dX6_thanked_103 ?_
          refine lv_if_gt (tgt := 125) hx hb dX6_thanked_104 (by decide) (fun c8 => ?_) (fun c8 => ?_)
          · exact J125 (se_u (se_u (se_u gj35 0 13 ((gj35 0 13) - v3_35)) 0 14 ((gj35 0 14) + v3_35)) 0 9 v1_35) _ _ ls (by rw [← hF, F_M_thanked_j35, if_pos (α := se_G) c4, if_neg (α := se_G) c5, if_pos (α := se_G) c8]) hP hD hS (lv_sub hl [0] rfl)
          · refine lv_aload_n hx hb dX6_thanked_107 rfl (lv_at hl 0 rfl) ?_
            refine lv_iconst (v := 0) hx hb dX6_thanked_108 (by decide) ?_
            refine va_put (D := D) (ci := 6) (v := .int 0) (ty := .boolean) (C := RX6) (T := TX6) (N := 50) hx hb hts (se_iw iwX6) tyX6 tyX6_ok nmX6 hown hK hP hD hS 0 rfl rfl 37 (by decide) (hts _ (List.mem_cons_of_mem _ qX6_f115)) (fun _ h9 => h9) rfl (by decide +kernel) rfl rfl (Nat.le_of_ble_eq_true rfl) dX6_thanked_109 (fun H locs hP hD hS => ?_)
            replace hP : va_P D se_cl (se_WM k h (se_u (se_u (se_u (se_u gj35 0 13 ((gj35 0 13) - v3_35)) 0 14 ((gj35 0 14) + v3_35)) 0 9 v1_35) 0 37 0)) H := hP
            replace hD : va_D A (se_WM k h (se_u (se_u (se_u (se_u gj35 0 13 ((gj35 0 13) - v3_35)) 0 14 ((gj35 0 14) + v3_35)) 0 9 v1_35) 0 37 0)) := hD
            refine lv_aload_n hx hb dX6_thanked_112 rfl (lv_at hl 0 rfl) ?_
            refine lv_aload_n hx hb dX6_thanked_113 rfl (lv_at hl 0 rfl) ?_
            refine va_get (D := D) (ci := 6) (v := .int (gj35 0 3)) (C := RX6) (T := TX6) (N := 50) hx hb hts (se_iw iwX6) hown hK hP 0 rfl rfl 3 (by decide) (hts _ (List.mem_cons_of_mem _ qX6_f121)) (fun _ h9 => h9) rfl dX6_thanked_114 ?_
            refine lv_aload_n hx hb dX6_thanked_117 rfl (lv_at hl 0 rfl) ?_
            refine va_get (D := D) (ci := 6) (v := .int (gj35 0 39)) (C := RX6) (T := TX6) (N := 50) hx hb hts (se_iw iwX6) hown hK hP 0 rfl rfl 39 (by decide) (hts _ (List.mem_cons_of_mem _ qX6_f206)) (fun _ h9 => h9) rfl dX6_thanked_118 ?_
            refine lv_isub hx hb dX6_thanked_121 ?_
            refine se_cvE (va_runV (C := RX6) (As := [.int ((gj35 0 3) - (gj35 0 39))]) (rest := []) ⟨hx, hb, hml, hown, hts⟩ (c_M_learn l D k h _ (se_u (se_u (se_u (se_u gj35 0 13 ((gj35 0 13) - v3_35)) 0 14 ((gj35 0 14) + v3_35)) 0 9 v1_35) 0 37 0) ((gj35 0 3) - (gj35 0 39))) (se_kV 1 hts q_code_X6_learn qX6_m209 q_ini_StreamEndModel q_instanceMethod_X6_learn q_sel_X6_learn (by decide +kernel) ⟨Nat.le_of_ble_eq_true rfl, Nat.le_of_ble_eq_true rfl⟩ rfl rfl) ⟨se_blind se_ZN_ok, va_recv hK hP (ci := 6) (q0 := 0) rfl rfl, se_pre se_ZN_ok hP hK hD hZ⟩ rfl rfl hl.1 rfl (lv_room (Nat.le_of_ble_eq_true rfl)) dX6_thanked_122 ⟨Nat.zero_le _, Nat.zero_le _⟩) hD hS hA (fun g1 H locs eg1 hP hD hS => ?_)
            exact J125 g1 _ _ ls (by subst eg1; rw [← hF, F_M_thanked_j35, if_pos (α := se_G) c4, if_neg (α := se_G) c5, if_neg (α := se_G) c8]) hP hD hS (lv_sub hl [0] rfl)
      · refine lv_aload_n hx hb dX6_thanked_44 rfl (lv_at hl 0 rfl) ?_
        refine va_get (D := D) (ci := 6) (v := .ref (h 1)) (C := RX6) (T := TX6) (N := 50) hx hb hts (se_iw iwX6) hown hK hP 0 rfl rfl 12 (by decide) (hts _ (List.mem_cons_of_mem _ qX6_f7)) (fun _ h9 => h9) rfl dX6_thanked_45 ?_
        refine lv_iload hx hb dX6_thanked_48 (lv_at hl 3 rfl) ?_
        refine lv_iload_n hx hb dX6_thanked_50 rfl (lv_at hl 2 rfl) ?_
        refine lv_isub hx hb dX6_thanked_51 ?_
        refine lv_aload_n hx hb dX6_thanked_52 rfl (lv_at hl 0 rfl) ?_
        refine va_get (D := D) (ci := 6) (v := .ref (h 1)) (C := RX6) (T := TX6) (N := 50) hx hb hts (se_iw iwX6) hown hK hP 0 rfl rfl 12 (by decide) (hts _ (List.mem_cons_of_mem _ qX6_f7)) (fun _ h9 => h9) rfl dX6_thanked_53 ?_
        refine lv_iload hx hb dX6_thanked_56 (lv_at hl 3 rfl) ?_
        refine va_iald hx hb hK hP 1 0 rfl rfl (mo_th2 c4 hI) dX6_thanked_58 ?_
        refine va_iast hx hb hK hP hD hS 1 0 rfl rfl (mo_th3 c4 hI) dX6_thanked_59 (fun H locs hP hD hS => ?_)
        replace hP : va_P D se_cl (se_WM k h (se_u gj35 1 (Int32.toNatClampNeg (v4_35 - v3_35)) (gj35 1 (Int32.toNatClampNeg v4_35)))) H := hP
        replace hD : va_D A (se_WM k h (se_u gj35 1 (Int32.toNatClampNeg (v4_35 - v3_35)) (gj35 1 (Int32.toNatClampNeg v4_35)))) := hD
        refine lv_iinc (v := (v4_35 + 1)) (lv' := [(4, .int (v4_35 + 1)), (0, .ref (h 0)), (1, .int v1_35), (3, .int v3_35)]) hx hb dX6_thanked_60 hl (k := 3) rfl rfl (by decide) rfl (fun ls hl => ?_)
        refine lv_goto (tgt := 35) hx hb dX6_thanked_63 (by decide) ?_
        exact ih (se_u gj35 1 (Int32.toNatClampNeg (v4_35 - v3_35)) (gj35 1 (Int32.toNatClampNeg v4_35))) v1_35 v3_35 (v4_35 + 1) _ _ ls (mo_th1 c4 hI) (se_dec c4 hM) (by rw [← hF, F_M_thanked_j35, if_neg (α := se_G) c4]) hP hD hS (lv_sub hl [1, 2, 3, 0] rfl)
  have hF : F_M_thanked g p1 = F_M_thanked g p1 := rfl
  refine lv_iload_n hx hb dX6_thanked_0 rfl (lv_at hl 1 rfl) ?_
  refine lv_aload_n hx hb dX6_thanked_1 rfl (lv_at hl 0 rfl) ?_
  refine va_get (D := D) (ci := 6) (v := .int (g 0 14)) (C := RX6) (T := TX6) (N := 50) hx hb hts (se_iw iwX6) hown hK hP 0 rfl rfl 14 (by decide) (hts _ (List.mem_cons_of_mem _ qX6_f57)) (fun _ h9 => h9) rfl dX6_thanked_2 ?_
  refine lv_isub hx hb dX6_thanked_5 ?_
  refine lv_istore_n (lv' := [(2, .int (p1 - (g 0 14))), (0, .ref (h 0)), (1, .int p1)]) hx hb dX6_thanked_6 rfl hl (by decide) rfl (fun ls hl => ?_)
  refine lv_iload_n hx hb dX6_thanked_7 rfl (lv_at hl 0 rfl) ?_
  refine se_join (v := ((if 0 ≤ (p1 - (g 0 14)) then ((if (p1 - (g 0 14)) ≤ (g 0 13) then (p1 - (g 0 14)) else (g 0 13)) : Int32) else 0) : Int32)) (pcJ := 31) (restJ := []) (ls := ls) (fun T => ?_) ?_
  · refine lv_if_ge (tgt := 15) hx hb dX6_thanked_8 (by decide) (fun c2 => ?_) (fun c2 => ?_)
    · refine lv_iload_n hx hb dX6_thanked_15 rfl (lv_at hl 0 rfl) ?_
      refine lv_aload_n hx hb dX6_thanked_16 rfl (lv_at hl 1 rfl) ?_
      refine va_get (D := D) (ci := 6) (v := .int (g 0 13)) (C := RX6) (T := TX6) (N := 50) hx hb hts (se_iw iwX6) hown hK hP 0 rfl rfl 13 (by decide) (hts _ (List.mem_cons_of_mem _ qX6_f60)) (fun _ h9 => h9) rfl dX6_thanked_17 ?_
      refine lv_icmp_le (tgt := 30) hx hb dX6_thanked_20 (by decide) (fun c3 => ?_) (fun c3 => ?_)
      · refine lv_iload_n hx hb dX6_thanked_30 rfl (lv_at hl 0 rfl) ?_
        exact T _ (mo_ifp c2 (mo_ifp c3 rfl))
      · refine lv_aload_n hx hb dX6_thanked_23 rfl (lv_at hl 1 rfl) ?_
        refine va_get (D := D) (ci := 6) (v := .int (g 0 13)) (C := RX6) (T := TX6) (N := 50) hx hb hts (se_iw iwX6) hown hK hP 0 rfl rfl 13 (by decide) (hts _ (List.mem_cons_of_mem _ qX6_f60)) (fun _ h9 => h9) rfl dX6_thanked_24 ?_
        refine lv_goto (tgt := 31) hx hb dX6_thanked_27 (by decide) ?_
        exact T _ (mo_ifp c2 (mo_ifn c3 rfl))
    · refine lv_iconst (v := 0) hx hb dX6_thanked_11 (by decide) ?_
      refine lv_goto (tgt := 31) hx hb dX6_thanked_12 (by decide) ?_
      exact T _ (mo_ifn c2 rfl)
  refine lv_istore_n (lv' := [(3, .int ((if 0 ≤ (p1 - (g 0 14)) then ((if (p1 - (g 0 14)) ≤ (g 0 13) then (p1 - (g 0 14)) else (g 0 13)) : Int32) else 0) : Int32)), (2, .int (p1 - (g 0 14))), (0, .ref (h 0)), (1, .int p1)]) hx hb dX6_thanked_31 rfl hl (by decide) rfl (fun ls hl => ?_)
  refine lv_iload_n hx hb dX6_thanked_32 rfl (lv_at hl 0 rfl) ?_
  refine lv_istore (lv' := [(4, .int ((if 0 ≤ (p1 - (g 0 14)) then ((if (p1 - (g 0 14)) ≤ (g 0 13) then (p1 - (g 0 14)) else (g 0 13)) : Int32) else 0) : Int32)), (3, .int ((if 0 ≤ (p1 - (g 0 14)) then ((if (p1 - (g 0 14)) ≤ (g 0 13) then (p1 - (g 0 14)) else (g 0 13)) : Int32) else 0) : Int32)), (2, .int (p1 - (g 0 14))), (0, .ref (h 0)), (1, .int p1)]) hx hb dX6_thanked_33 hl (by decide) rfl (fun ls hl => ?_)
  exact L35 (((g 0 13 : Int32).toInt - ((((if 0 ≤ (p1 - (g 0 14)) then ((if (p1 - (g 0 14)) ≤ (g 0 13) then (p1 - (g 0 14)) else (g 0 13)) : Int32) else 0) : Int32)) : Int32).toInt).toNat + 1) g p1 ((if 0 ≤ (p1 - (g 0 14)) then ((if (p1 - (g 0 14)) ≤ (g 0 13) then (p1 - (g 0 14)) else (g 0 13)) : Int32) else 0) : Int32) ((if 0 ≤ (p1 - (g 0 14)) then ((if (p1 - (g 0 14)) ≤ (g 0 13) then (p1 - (g 0 14)) else (g 0 13)) : Int32) else 0) : Int32) _ _ ls (mo_th0 hI) (se_fuel _ _) (by rw [F_M_thanked]) hP hD hS (lv_sub hl [3, 4, 1, 0] rfl)
