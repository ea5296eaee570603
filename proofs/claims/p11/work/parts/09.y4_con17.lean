/-! written by program (wip/gen) -/
set_option maxRecDepth 100000 in
set_option maxHeartbeats 4000000 in
theorem c_M_segment (l : Launch) (D : va_G) (k : Nat → ClassId) (h : Nat → Nat) (sz : Nat) (g : se_G) (p1 : Int32) : Met l yX6_segment (se_w_X6_segment) ({ frames := 0, cells := 0, slots := 0, locals := 0 }) (va_Pc [.ref (h 0), .int p1] (se_Pre D se_cl [(k 1, .int), (k 2, .int), (k 3, .boolean), (k 4, .int), (k 5, .int), (k 6, .int)] (se_WM k h g) se_ZN sz)) (se_Qi D se_cl [(k 1, .int), (k 2, .int), (k 3, .boolean), (k 4, .int), (k 5, .int), (k 6, .int)] (se_WM k h) (F_M_segment g p1) (va_A (se_WM k h g) sz)) 0 0 (va_A (se_WM k h g) sz) := by
  refine se_met (Qc := se_Qi D se_cl [(k 1, .int), (k 2, .int), (k 3, .boolean), (k 4, .int), (k 5, .int), (k 6, .int)] (se_WM k h) (F_M_segment g p1)) (cc := cX6_segment) (maxL := 2) (ret := (some .int)) (by decide) rfl (Nat.le_of_ble_eq_true rfl) ?_
  intro p e s m below meth c ls A hx hb hr hts hown hlocks hml hA hP hK hD hS hZ hl
  replace hl : lv_has ls 2 [(0, .ref (h 0)), (1, .int p1)] := hl
  have hF : F_M_segment g p1 = F_M_segment g p1 := rfl
  refine lv_aload_n hx hb dX6_segment_0 rfl (lv_at hl 0 rfl) ?_
  refine lv_iload_n hx hb dX6_segment_1 rfl (lv_at hl 1 rfl) ?_
  refine se_join (v := ((if p1 < 0 then 1 else ((if p1 ≤ 5 then ((if (g 0 46) = 0 then 2 else 0) : Int32) else 1) : Int32)) : Int32)) (pcJ := 26) (restJ := [.ref (h 0)]) (ls := ls) (fun T => ?_) ?_
  · refine lv_if_lt (tgt := 10) hx hb dX6_segment_2 (by decide) (fun c2 => ?_) (fun c2 => ?_)
    · refine lv_iconst (v := 1) hx hb dX6_segment_10 (by decide) ?_
      refine lv_goto (tgt := 26) hx hb dX6_segment_11 (by decide) ?_
      exact T _ (mo_ifp c2 rfl)
    · refine lv_iload_n hx hb dX6_segment_5 rfl (lv_at hl 1 rfl) ?_
      refine lv_iconst (v := 5) hx hb dX6_segment_6 (by decide) ?_
      refine lv_icmp_le (tgt := 14) hx hb dX6_segment_7 (by decide) (fun c3 => ?_) (fun c3 => ?_)
      · refine lv_aload_n hx hb dX6_segment_14 rfl (lv_at hl 0 rfl) ?_
        refine va_get (D := D) (ci := 6) (v := .int (g 0 46)) (C := RX6) (T := TX6) (N := 50) hx hb hts (se_iw iwX6) hown hK hP 0 rfl rfl 46 (by decide) (hts _ (List.mem_cons_of_mem _ qX6_f243)) (fun _ h9 => h9) rfl dX6_segment_15 ?_
        refine lv_if_eq (tgt := 25) hx hb dX6_segment_18 (by decide) (fun c4 => ?_) (fun c4 => ?_)
        · refine lv_iconst (v := 2) hx hb dX6_segment_25 (by decide) ?_
          exact T _ (mo_ifn c2 (mo_ifp c3 (mo_ifp c4 rfl)))
        · refine lv_iconst (v := 0) hx hb dX6_segment_21 (by decide) ?_
          refine lv_goto (tgt := 26) hx hb dX6_segment_22 (by decide) ?_
          exact T _ (mo_ifn c2 (mo_ifp c3 (mo_ifn c4 rfl)))
      · refine lv_iconst (v := 1) hx hb dX6_segment_10 (by decide) ?_
        refine lv_goto (tgt := 26) hx hb dX6_segment_11 (by decide) ?_
        exact T _ (mo_ifn c2 (mo_ifn c3 rfl))
  refine va_put (D := D) (ci := 6) (v := .int ((if p1 < 0 then 1 else ((if p1 ≤ 5 then ((if (g 0 46) = 0 then 2 else 0) : Int32) else 1) : Int32)) : Int32)) (ty := .int) (C := RX6) (T := TX6) (N := 50) hx hb hts (se_iw iwX6) tyX6 tyX6_ok nmX6 hown hK hP hD hS 0 rfl rfl 2 (by decide) (hts _ (List.mem_cons_of_mem _ qX6_f45)) (fun _ h9 => h9) rfl (by decide +kernel) rfl rfl (Nat.le_of_ble_eq_true rfl) dX6_segment_26 (fun H locs hP hD hS => ?_)
  replace hP : va_P D se_cl (se_WM k h (se_u g 0 2 ((if p1 < 0 then 1 else ((if p1 ≤ 5 then ((if (g 0 46) = 0 then 2 else 0) : Int32) else 1) : Int32)) : Int32))) H := hP
  replace hD : va_D A (se_WM k h (se_u g 0 2 ((if p1 < 0 then 1 else ((if p1 ≤ 5 then ((if (g 0 46) = 0 then 2 else 0) : Int32) else 1) : Int32)) : Int32))) := hD
  refine lv_aload_n hx hb dX6_segment_29 rfl (lv_at hl 0 rfl) ?_
  refine va_get (D := D) (ci := 6) (v := .int ((if p1 < 0 then 1 else ((if p1 ≤ 5 then ((if (g 0 46) = 0 then 2 else 0) : Int32) else 1) : Int32)) : Int32)) (C := RX6) (T := TX6) (N := 50) hx hb hts (se_iw iwX6) hown hK hP 0 rfl rfl 2 (by decide) (hts _ (List.mem_cons_of_mem _ qX6_f45)) (fun _ h9 => h9) rfl dX6_segment_30 ?_
  refine lv_if_le (tgt := 40) hx hb dX6_segment_33 (by decide) (fun c5 => ?_) (fun c5 => ?_)
  · refine lv_iload_n hx hb dX6_segment_40 rfl (lv_at hl 1 rfl) ?_
    refine lv_iconst (v := 5) hx hb dX6_segment_41 (by decide) ?_
    refine lv_icmp_ne (tgt := 52) hx hb dX6_segment_42 (by decide) (fun c6 => ?_) (fun c6 => ?_)
    · refine lv_aload_n hx hb dX6_segment_52 rfl (lv_at hl 0 rfl) ?_
      refine va_get (D := D) (ci := 6) (v := .ref (h 5)) (C := RX6) (T := TX6) (N := 50) hx hb hts (se_iw iwX6) hown hK hP 0 rfl rfl 47 (by decide) (hts _ (List.mem_cons_of_mem _ qX6_f30)) (fun _ h9 => h9) rfl dX6_segment_53 ?_
      refine lv_iload_n hx hb dX6_segment_56 rfl (lv_at hl 1 rfl) ?_
      refine va_iald hx hb hK hP 5 4 rfl rfl (mo_s5 (by assumption) (by assumption)) dX6_segment_57 ?_
      exact se_ri hx hb hr  hlocks hK hP hD hS dX6_segment_58 (by rw [F_M_segment, if_pos (α := Int32 × se_G) c5, if_neg (α := Int32 × se_G) c6] <;> rfl)
    · refine lv_aload_n hx hb dX6_segment_45 rfl (lv_at hl 0 rfl) ?_
      refine va_get (D := D) (ci := 6) (v := .int (g 0 49)) (C := RX6) (T := TX6) (N := 50) hx hb hts (se_iw iwX6) hown hK hP 0 rfl rfl 49 (by decide) (hts _ (List.mem_cons_of_mem _ qX6_f246)) (fun _ h9 => h9) rfl dX6_segment_46 ?_
      refine lv_goto (tgt := 58) hx hb dX6_segment_49 (by decide) ?_
      exact se_ri hx hb hr  hlocks hK hP hD hS dX6_segment_58 (by rw [F_M_segment, if_pos (α := Int32 × se_G) c5, if_pos (α := Int32 × se_G) c6] <;> rfl)
  · refine lv_iconst (v := 0) hx hb dX6_segment_36 (by decide) ?_
    refine lv_goto (tgt := 58) hx hb dX6_segment_37 (by decide) ?_
    exact se_ri hx hb hr  hlocks hK hP hD hS dX6_segment_58 (by rw [F_M_segment, if_neg (α := Int32 × se_G) c5] <;> rfl)
set_option maxRecDepth 100000 in
set_option maxHeartbeats 4000000 in
theorem c_M_byteAt (l : Launch) (D : va_G) (k : Nat → ClassId) (h : Nat → Nat) (sz : Nat) (g : se_G) (p1 : Int32) (hI : (g 0 49).toInt ≤ 1460) : Met l yX6_byteAt (se_w_X6_byteAt) ({ frames := 0, cells := 0, slots := 0, locals := 0 }) (va_Pc [.ref (h 0), .int p1] (se_Pre D se_cl [(k 1, .int), (k 2, .int), (k 3, .boolean), (k 4, .int), (k 5, .int), (k 6, .int)] (se_WM k h g) se_ZN sz)) (se_Qi D se_cl [(k 1, .int), (k 2, .int), (k 3, .boolean), (k 4, .int), (k 5, .int), (k 6, .int)] (se_WM k h) (F_M_byteAt g p1) (va_A (se_WM k h g) sz)) 0 0 (va_A (se_WM k h g) sz) := by
  refine se_met (Qc := se_Qi D se_cl [(k 1, .int), (k 2, .int), (k 3, .boolean), (k 4, .int), (k 5, .int), (k 6, .int)] (se_WM k h) (F_M_byteAt g p1)) (cc := cX6_byteAt) (maxL := 2) (ret := (some .int)) (by decide) rfl (Nat.le_of_ble_eq_true rfl) ?_
  intro p e s m below meth c ls A hx hb hr hts hown hlocks hml hA hP hK hD hS hZ hl
  replace hl : lv_has ls 2 [(0, .ref (h 0)), (1, .int p1)] := hl
  have hF : F_M_byteAt g p1 = F_M_byteAt g p1 := rfl
  refine lv_aload_n hx hb dX6_byteAt_0 rfl (lv_at hl 0 rfl) ?_
  refine lv_aload_n hx hb dX6_byteAt_1 rfl (lv_at hl 0 rfl) ?_
  refine va_get (D := D) (ci := 6) (v := .int (g 0 46)) (C := RX6) (T := TX6) (N := 50) hx hb hts (se_iw iwX6) hown hK hP 0 rfl rfl 46 (by decide) (hts _ (List.mem_cons_of_mem _ qX6_f243)) (fun _ h9 => h9) rfl dX6_byteAt_2 ?_
  refine se_join (v := ((if (g 0 46) = 0 then 1 else ((if p1 < 0 then 2 else ((if p1 < (g 0 49) then 0 else 2) : Int32)) : Int32)) : Int32)) (pcJ := 29) (restJ := [.ref (h 0)]) (ls := ls) (fun T => ?_) ?_
  · refine lv_if_ne (tgt := 12) hx hb dX6_byteAt_5 (by decide) (fun c2 => ?_) (fun c2 => ?_)
    · refine lv_iload_n hx hb dX6_byteAt_12 rfl (lv_at hl 1 rfl) ?_
      refine lv_if_lt (tgt := 24) hx hb dX6_byteAt_13 (by decide) (fun c3 => ?_) (fun c3 => ?_)
      · refine lv_iconst (v := 2) hx hb dX6_byteAt_24 (by decide) ?_
        refine lv_goto (tgt := 29) hx hb dX6_byteAt_25 (by decide) ?_
        exact T _ (mo_ifn c2 (mo_ifp c3 rfl))
      · refine lv_iload_n hx hb dX6_byteAt_16 rfl (lv_at hl 1 rfl) ?_
        refine lv_aload_n hx hb dX6_byteAt_17 rfl (lv_at hl 0 rfl) ?_
        refine va_get (D := D) (ci := 6) (v := .int (g 0 49)) (C := RX6) (T := TX6) (N := 50) hx hb hts (se_iw iwX6) hown hK hP 0 rfl rfl 49 (by decide) (hts _ (List.mem_cons_of_mem _ qX6_f246)) (fun _ h9 => h9) rfl dX6_byteAt_18 ?_
        refine lv_icmp_lt (tgt := 28) hx hb dX6_byteAt_21 (by decide) (fun c4 => ?_) (fun c4 => ?_)
        · refine lv_iconst (v := 0) hx hb dX6_byteAt_28 (by decide) ?_
          exact T _ (mo_ifn c2 (mo_ifn c3 (mo_ifp c4 rfl)))
        · refine lv_iconst (v := 2) hx hb dX6_byteAt_24 (by decide) ?_
          refine lv_goto (tgt := 29) hx hb dX6_byteAt_25 (by decide) ?_
          exact T _ (mo_ifn c2 (mo_ifn c3 (mo_ifn c4 rfl)))
    · refine lv_iconst (v := 1) hx hb dX6_byteAt_8 (by decide) ?_
      refine lv_goto (tgt := 29) hx hb dX6_byteAt_9 (by decide) ?_
      exact T _ (mo_ifp c2 rfl)
  refine va_put (D := D) (ci := 6) (v := .int ((if (g 0 46) = 0 then 1 else ((if p1 < 0 then 2 else ((if p1 < (g 0 49) then 0 else 2) : Int32)) : Int32)) : Int32)) (ty := .int) (C := RX6) (T := TX6) (N := 50) hx hb hts (se_iw iwX6) tyX6 tyX6_ok nmX6 hown hK hP hD hS 0 rfl rfl 2 (by decide) (hts _ (List.mem_cons_of_mem _ qX6_f45)) (fun _ h9 => h9) rfl (by decide +kernel) rfl rfl (Nat.le_of_ble_eq_true rfl) dX6_byteAt_29 (fun H locs hP hD hS => ?_)
  replace hP : va_P D se_cl (se_WM k h (se_u g 0 2 ((if (g 0 46) = 0 then 1 else ((if p1 < 0 then 2 else ((if p1 < (g 0 49) then 0 else 2) : Int32)) : Int32)) : Int32))) H := hP
  replace hD : va_D A (se_WM k h (se_u g 0 2 ((if (g 0 46) = 0 then 1 else ((if p1 < 0 then 2 else ((if p1 < (g 0 49) then 0 else 2) : Int32)) : Int32)) : Int32))) := hD
  refine lv_aload_n hx hb dX6_byteAt_32 rfl (lv_at hl 0 rfl) ?_
  refine va_get (D := D) (ci := 6) (v := .int ((if (g 0 46) = 0 then 1 else ((if p1 < 0 then 2 else ((if p1 < (g 0 49) then 0 else 2) : Int32)) : Int32)) : Int32)) (C := RX6) (T := TX6) (N := 50) hx hb hts (se_iw iwX6) hown hK hP 0 rfl rfl 2 (by decide) (hts _ (List.mem_cons_of_mem _ qX6_f45)) (fun _ h9 => h9) rfl dX6_byteAt_33 ?_
  refine lv_if_le (tgt := 43) hx hb dX6_byteAt_36 (by decide) (fun c5 => ?_) (fun c5 => ?_)
  · refine lv_aload_n hx hb dX6_byteAt_43 rfl (lv_at hl 0 rfl) ?_
    refine va_get (D := D) (ci := 6) (v := .ref (h 6)) (C := RX6) (T := TX6) (N := 50) hx hb hts (se_iw iwX6) hown hK hP 0 rfl rfl 48 (by decide) (hts _ (List.mem_cons_of_mem _ qX6_f33)) (fun _ h9 => h9) rfl dX6_byteAt_44 ?_
    refine lv_iload_n hx hb dX6_byteAt_47 rfl (lv_at hl 1 rfl) ?_
    refine va_iald hx hb hK hP 6 5 rfl rfl (mo_ba (by assumption) hI) dX6_byteAt_48 ?_
    exact se_ri hx hb hr  hlocks hK hP hD hS dX6_byteAt_49 (by rw [F_M_byteAt, if_pos (α := Int32 × se_G) c5] <;> rfl)
  · refine lv_iconst (v := 0) hx hb dX6_byteAt_39 (by decide) ?_
    refine lv_goto (tgt := 49) hx hb dX6_byteAt_40 (by decide) ?_
    exact se_ri hx hb hr  hlocks hK hP hD hS dX6_byteAt_49 (by rw [F_M_byteAt, if_neg (α := Int32 × se_G) c5] <;> rfl)
set_option maxRecDepth 100000 in
set_option maxHeartbeats 4000000 in
theorem c_M_state (l : Launch) (D : va_G) (k : Nat → ClassId) (h : Nat → Nat) (sz : Nat) (g : se_G)  : Met l yX6_state (se_w_X6_state) ({ frames := 0, cells := 0, slots := 0, locals := 0 }) (va_Pc [.ref (h 0)] (se_Pre D se_cl [(k 1, .int), (k 2, .int), (k 3, .boolean), (k 4, .int), (k 5, .int), (k 6, .int)] (se_WM k h g) se_ZN sz)) (se_Qi D se_cl [(k 1, .int), (k 2, .int), (k 3, .boolean), (k 4, .int), (k 5, .int), (k 6, .int)] (se_WM k h) (F_M_state g) (va_A (se_WM k h g) sz)) 0 0 (va_A (se_WM k h g) sz) := by
  refine se_met (Qc := se_Qi D se_cl [(k 1, .int), (k 2, .int), (k 3, .boolean), (k 4, .int), (k 5, .int), (k 6, .int)] (se_WM k h) (F_M_state g)) (cc := cX6_state) (maxL := 1) (ret := (some .int)) (by decide) rfl (Nat.le_of_ble_eq_true rfl) ?_
  intro p e s m below meth c ls A hx hb hr hts hown hlocks hml hA hP hK hD hS hZ hl
  replace hl : lv_has ls 1 [(0, .ref (h 0))] := hl
  have hF : F_M_state g = F_M_state g := rfl
  refine lv_aload_n hx hb dX6_state_0 rfl (lv_at hl 0 rfl) ?_
  refine lv_iconst (v := 0) hx hb dX6_state_1 (by decide) ?_
  refine va_put (D := D) (ci := 6) (v := .int 0) (ty := .int) (C := RX6) (T := TX6) (N := 50) hx hb hts (se_iw iwX6) tyX6 tyX6_ok nmX6 hown hK hP hD hS 0 rfl rfl 2 (by decide) (hts _ (List.mem_cons_of_mem _ qX6_f45)) (fun _ h9 => h9) rfl (by decide +kernel) rfl rfl (Nat.le_of_ble_eq_true rfl) dX6_state_2 (fun H locs hP hD hS => ?_)
  replace hP : va_P D se_cl (se_WM k h (se_u g 0 2 0)) H := hP
  replace hD : va_D A (se_WM k h (se_u g 0 2 0)) := hD
  refine lv_aload_n hx hb dX6_state_5 rfl (lv_at hl 0 rfl) ?_
  refine va_get (D := D) (ci := 6) (v := .int (g 0 4)) (C := RX6) (T := TX6) (N := 50) hx hb hts (se_iw iwX6) hown hK hP 0 rfl rfl 4 (by decide) (hts _ (List.mem_cons_of_mem _ qX6_f118)) (fun _ h9 => h9) rfl dX6_state_6 ?_
  exact se_ri hx hb hr  hlocks hK hP hD hS dX6_state_9 (by rw [F_M_state])
set_option maxRecDepth 100000 in
set_option maxHeartbeats 4000000 in
theorem c_M_figure (l : Launch) (D : va_G) (k : Nat → ClassId) (h : Nat → Nat) (sz : Nat) (g : se_G) (p1 : Int32) : Met l yX6_figure (se_w_X6_figure) ({ frames := 1, cells := 0, slots := 0, locals := 20 }) (va_Pc [.ref (h 0), .int p1] (se_Pre D se_cl [(k 1, .int), (k 2, .int), (k 3, .boolean), (k 4, .int), (k 5, .int), (k 6, .int)] (se_WM k h g) se_ZN sz)) (se_Qi D se_cl [(k 1, .int), (k 2, .int), (k 3, .boolean), (k 4, .int), (k 5, .int), (k 6, .int)] (se_WM k h) (F_M_figure g p1) (va_A (se_WM k h g) sz)) 0 0 (va_A (se_WM k h g) sz) := by
  refine se_met (Qc := se_Qi D se_cl [(k 1, .int), (k 2, .int), (k 3, .boolean), (k 4, .int), (k 5, .int), (k 6, .int)] (se_WM k h) (F_M_figure g p1)) (cc := cX6_figure) (maxL := 2) (ret := (some .int)) (by decide) rfl (Nat.le_of_ble_eq_true rfl) ?_
  intro p e s m below meth c ls A hx hb hr hts hown hlocks hml hA hP hK hD hS hZ hl
  replace hl : lv_has ls 2 [(0, .ref (h 0)), (1, .int p1)] := hl
  have hF : F_M_figure g p1 = F_M_figure g p1 := rfl
  refine lv_aload_n hx hb dX6_figure_0 rfl (lv_at hl 0 rfl) ?_
  refine lv_iload_n hx hb dX6_figure_1 rfl (lv_at hl 1 rfl) ?_
  refine se_join (v := ((if p1 < 0 then 1 else ((if p1 ≤ 12 then 0 else 1) : Int32)) : Int32)) (pcJ := 16) (restJ := [.ref (h 0)]) (ls := ls) (fun T => ?_) ?_
  · refine lv_if_lt (tgt := 11) hx hb dX6_figure_2 (by decide) (fun c2 => ?_) (fun c2 => ?_)
    · refine lv_iconst (v := 1) hx hb dX6_figure_11 (by decide) ?_
      refine lv_goto (tgt := 16) hx hb dX6_figure_12 (by decide) ?_
      exact T _ (mo_ifp c2 rfl)
    · refine lv_iload_n hx hb dX6_figure_5 rfl (lv_at hl 1 rfl) ?_
      refine lv_bipush (v := 12) hx hb dX6_figure_6 (by decide) ?_
      refine lv_icmp_le (tgt := 15) hx hb dX6_figure_8 (by decide) (fun c3 => ?_) (fun c3 => ?_)
      · refine lv_iconst (v := 0) hx hb dX6_figure_15 (by decide) ?_
        exact T _ (mo_ifn c2 (mo_ifp c3 rfl))
      · refine lv_iconst (v := 1) hx hb dX6_figure_11 (by decide) ?_
        refine lv_goto (tgt := 16) hx hb dX6_figure_12 (by decide) ?_
        exact T _ (mo_ifn c2 (mo_ifn c3 rfl))
  refine va_put (D := D) (ci := 6) (v := .int ((if p1 < 0 then 1 else ((if p1 ≤ 12 then 0 else 1) : Int32)) : Int32)) (ty := .int) (C := RX6) (T := TX6) (N := 50) hx hb hts (se_iw iwX6) tyX6 tyX6_ok nmX6 hown hK hP hD hS 0 rfl rfl 2 (by decide) (hts _ (List.mem_cons_of_mem _ qX6_f45)) (fun _ h9 => h9) rfl (by decide +kernel) rfl rfl (Nat.le_of_ble_eq_true rfl) dX6_figure_16 (fun H locs hP hD hS => ?_)
  replace hP : va_P D se_cl (se_WM k h (se_u g 0 2 ((if p1 < 0 then 1 else ((if p1 ≤ 12 then 0 else 1) : Int32)) : Int32))) H := hP
  replace hD : va_D A (se_WM k h (se_u g 0 2 ((if p1 < 0 then 1 else ((if p1 ≤ 12 then 0 else 1) : Int32)) : Int32))) := hD
  refine lv_iload_n hx hb dX6_figure_19 rfl (lv_at hl 1 rfl) ?_
  by_cases c4 : p1 = 0
  · refine se_swIn c4 hx hb dX6_figure_20 (off := 68) (tgt := 88) (by decide) (by decide) (by decide) (by decide) ?_
    refine lv_aload_n hx hb dX6_figure_88 rfl (lv_at hl 0 rfl) ?_
    refine va_get (D := D) (ci := 6) (v := .int (g 0 9)) (C := RX6) (T := TX6) (N := 50) hx hb hts (se_iw iwX6) hown hK hP 0 rfl rfl 9 (by decide) (hts _ (List.mem_cons_of_mem _ qX6_f51)) (fun _ h9 => h9) rfl dX6_figure_89 ?_
    exact se_ri hx hb hr  hlocks hK hP hD hS dX6_figure_92 (by rw [F_M_figure, if_pos (α := Int32 × se_G) c4])
  by_cases c5 : p1 = 1
  · refine se_swIn c5 hx hb dX6_figure_20 (off := 73) (tgt := 93) (by decide) (by decide) (by decide) (by decide) ?_
    refine lv_aload_n hx hb dX6_figure_93 rfl (lv_at hl 0 rfl) ?_
    refine va_get (D := D) (ci := 6) (v := .int (g 0 10)) (C := RX6) (T := TX6) (N := 50) hx hb hts (se_iw iwX6) hown hK hP 0 rfl rfl 10 (by decide) (hts _ (List.mem_cons_of_mem _ qX6_f54)) (fun _ h9 => h9) rfl dX6_figure_94 ?_
    exact se_ri hx hb hr  hlocks hK hP hD hS dX6_figure_97 (by rw [F_M_figure, if_neg (α := Int32 × se_G) c4, if_pos (α := Int32 × se_G) c5])
  by_cases c6 : p1 = 2
  · refine se_swIn c6 hx hb dX6_figure_20 (off := 78) (tgt := 98) (by decide) (by decide) (by decide) (by decide) ?_
    refine lv_aload_n hx hb dX6_figure_98 rfl (lv_at hl 0 rfl) ?_
    refine va_get (D := D) (ci := 6) (v := .int (g 0 15)) (C := RX6) (T := TX6) (N := 50) hx hb hts (se_iw iwX6) hown hK hP 0 rfl rfl 15 (by decide) (hts _ (List.mem_cons_of_mem _ qX6_f63)) (fun _ h9 => h9) rfl dX6_figure_99 ?_
    exact se_ri hx hb hr  hlocks hK hP hD hS dX6_figure_102 (by rw [F_M_figure, if_neg (α := Int32 × se_G) c4, if_neg (α := Int32 × se_G) c5, if_pos (α := Int32 × se_G) c6])
  by_cases c7 : p1 = 3
  · refine se_swIn c7 hx hb dX6_figure_20 (off := 83) (tgt := 103) (by decide) (by decide) (by decide) (by decide) ?_
    refine lv_aload_n hx hb dX6_figure_103 rfl (lv_at hl 0 rfl) ?_
    refine va_get (D := D) (ci := 6) (v := .int (g 0 21)) (C := RX6) (T := TX6) (N := 50) hx hb hts (se_iw iwX6) hown hK hP 0 rfl rfl 21 (by decide) (hts _ (List.mem_cons_of_mem _ qX6_f69)) (fun _ h9 => h9) rfl dX6_figure_104 ?_
    exact se_ri hx hb hr  hlocks hK hP hD hS dX6_figure_107 (by rw [F_M_figure, if_neg (α := Int32 × se_G) c4, if_neg (α := Int32 × se_G) c5, if_neg (α := Int32 × se_G) c6, if_pos (α := Int32 × se_G) c7])
  by_cases c8 : p1 = 4
  · refine se_swIn c8 hx hb dX6_figure_20 (off := 88) (tgt := 108) (by decide) (by decide) (by decide) (by decide) ?_
    refine lv_aload_n hx hb dX6_figure_108 rfl (lv_at hl 0 rfl) ?_
    refine se_cp (va_runV (C := RX6) (As := []) (rest := []) ⟨hx, hb, hml, hown, hts⟩ (c_M_room l D k h _ (se_u g 0 2 ((if p1 < 0 then 1 else ((if p1 ≤ 12 then 0 else 1) : Int32)) : Int32))) (se_kV 0 hts q_code_X6_room qX6_m139 q_ini_StreamEndModel q_instanceMethod_X6_room q_sel_X6_room (by decide +kernel) ⟨Nat.le_of_ble_eq_true rfl, Nat.le_of_ble_eq_true rfl⟩ rfl rfl) ⟨se_blind se_ZN_ok, va_recv hK hP (ci := 6) (q0 := 0) rfl rfl, se_pre se_ZN_ok hP hK hD hZ⟩ rfl rfl hl.1 rfl (lv_room (Nat.le_of_ble_eq_true rfl)) dX6_figure_109 ⟨Nat.zero_le _, Nat.zero_le _⟩) ?_
    exact se_ri hx hb hr  hlocks hK hP hD hS dX6_figure_112 (by rw [F_M_figure, if_neg (α := Int32 × se_G) c4, if_neg (α := Int32 × se_G) c5, if_neg (α := Int32 × se_G) c6, if_neg (α := Int32 × se_G) c7, if_pos (α := Int32 × se_G) c8])
  by_cases c9 : p1 = 5
  · refine se_swIn c9 hx hb dX6_figure_20 (off := 93) (tgt := 113) (by decide) (by decide) (by decide) (by decide) ?_
    refine lv_aload_n hx hb dX6_figure_113 rfl (lv_at hl 0 rfl) ?_
    refine va_get (D := D) (ci := 6) (v := .int (g 0 35)) (C := RX6) (T := TX6) (N := 50) hx hb hts (se_iw iwX6) hown hK hP 0 rfl rfl 35 (by decide) (hts _ (List.mem_cons_of_mem _ qX6_f24)) (fun _ h9 => h9) rfl dX6_figure_114 ?_
    exact se_ri hx hb hr  hlocks hK hP hD hS dX6_figure_117 (by rw [F_M_figure, if_neg (α := Int32 × se_G) c4, if_neg (α := Int32 × se_G) c5, if_neg (α := Int32 × se_G) c6, if_neg (α := Int32 × se_G) c7, if_neg (α := Int32 × se_G) c8, if_pos (α := Int32 × se_G) c9])
  by_cases c10 : p1 = 6
  · refine se_swIn c10 hx hb dX6_figure_20 (off := 98) (tgt := 118) (by decide) (by decide) (by decide) (by decide) ?_
    refine lv_aload_n hx hb dX6_figure_118 rfl (lv_at hl 0 rfl) ?_
    refine va_get (D := D) (ci := 6) (v := .int (g 0 13)) (C := RX6) (T := TX6) (N := 50) hx hb hts (se_iw iwX6) hown hK hP 0 rfl rfl 13 (by decide) (hts _ (List.mem_cons_of_mem _ qX6_f60)) (fun _ h9 => h9) rfl dX6_figure_119 ?_
    exact se_ri hx hb hr  hlocks hK hP hD hS dX6_figure_122 (by rw [F_M_figure, if_neg (α := Int32 × se_G) c4, if_neg (α := Int32 × se_G) c5, if_neg (α := Int32 × se_G) c6, if_neg (α := Int32 × se_G) c7, if_neg (α := Int32 × se_G) c8, if_neg (α := Int32 × se_G) c9, if_pos (α := Int32 × se_G) c10])
  by_cases c11 : p1 = 7
  · refine se_swIn c11 hx hb dX6_figure_20 (off := 103) (tgt := 123) (by decide) (by decide) (by decide) (by decide) ?_
    refine lv_aload_n hx hb dX6_figure_123 rfl (lv_at hl 0 rfl) ?_
    refine va_get (D := D) (ci := 6) (v := .int (g 0 20)) (C := RX6) (T := TX6) (N := 50) hx hb hts (se_iw iwX6) hown hK hP 0 rfl rfl 20 (by decide) (hts _ (List.mem_cons_of_mem _ qX6_f66)) (fun _ h9 => h9) rfl dX6_figure_124 ?_
    exact se_ri hx hb hr  hlocks hK hP hD hS dX6_figure_127 (by rw [F_M_figure, if_neg (α := Int32 × se_G) c4, if_neg (α := Int32 × se_G) c5, if_neg (α := Int32 × se_G) c6, if_neg (α := Int32 × se_G) c7, if_neg (α := Int32 × se_G) c8, if_neg (α := Int32 × se_G) c9, if_neg (α := Int32 × se_G) c10, if_pos (α := Int32 × se_G) c11])
  by_cases c12 : p1 = 8
  · refine se_swIn c12 hx hb dX6_figure_20 (off := 108) (tgt := 128) (by decide) (by decide) (by decide) (by decide) ?_
    refine lv_aload_n hx hb dX6_figure_128 rfl (lv_at hl 0 rfl) ?_
    refine va_get (D := D) (ci := 6) (v := .int (g 0 36)) (C := RX6) (T := TX6) (N := 50) hx hb hts (se_iw iwX6) hown hK hP 0 rfl rfl 36 (by decide) (hts _ (List.mem_cons_of_mem _ qX6_f88)) (fun _ h9 => h9) rfl dX6_figure_129 ?_
    exact se_ri hx hb hr  hlocks hK hP hD hS dX6_figure_132 (by rw [F_M_figure, if_neg (α := Int32 × se_G) c4, if_neg (α := Int32 × se_G) c5, if_neg (α := Int32 × se_G) c6, if_neg (α := Int32 × se_G) c7, if_neg (α := Int32 × se_G) c8, if_neg (α := Int32 × se_G) c9, if_neg (α := Int32 × se_G) c10, if_neg (α := Int32 × se_G) c11, if_pos (α := Int32 × se_G) c12])
  by_cases c13 : p1 = 9
  · refine se_swIn c13 hx hb dX6_figure_20 (off := 113) (tgt := 133) (by decide) (by decide) (by decide) (by decide) ?_
    refine lv_aload_n hx hb dX6_figure_133 rfl (lv_at hl 0 rfl) ?_
    refine va_get (D := D) (ci := 6) (v := .int (g 0 11)) (C := RX6) (T := TX6) (N := 50) hx hb hts (se_iw iwX6) hown hK hP 0 rfl rfl 11 (by decide) (hts _ (List.mem_cons_of_mem _ qX6_f42)) (fun _ h9 => h9) rfl dX6_figure_134 ?_
    exact se_ri hx hb hr  hlocks hK hP hD hS dX6_figure_137 (by rw [F_M_figure, if_neg (α := Int32 × se_G) c4, if_neg (α := Int32 × se_G) c5, if_neg (α := Int32 × se_G) c6, if_neg (α := Int32 × se_G) c7, if_neg (α := Int32 × se_G) c8, if_neg (α := Int32 × se_G) c9, if_neg (α := Int32 × se_G) c10, if_neg (α := Int32 × se_G) c11, if_neg (α := Int32 × se_G) c12, if_pos (α := Int32 × se_G) c13])
  by_cases c14 : p1 = 10
  · refine se_swIn c14 hx hb dX6_figure_20 (off := 118) (tgt := 138) (by decide) (by decide) (by decide) (by decide) ?_
    refine lv_aload_n hx hb dX6_figure_138 rfl (lv_at hl 0 rfl) ?_
    refine va_get (D := D) (ci := 6) (v := .int (g 0 41)) (C := RX6) (T := TX6) (N := 50) hx hb hts (se_iw iwX6) hown hK hP 0 rfl rfl 41 (by decide) (hts _ (List.mem_cons_of_mem _ qX6_f94)) (fun _ h9 => h9) rfl dX6_figure_139 ?_
    exact se_ri hx hb hr  hlocks hK hP hD hS dX6_figure_142 (by rw [F_M_figure, if_neg (α := Int32 × se_G) c4, if_neg (α := Int32 × se_G) c5, if_neg (α := Int32 × se_G) c6, if_neg (α := Int32 × se_G) c7, if_neg (α := Int32 × se_G) c8, if_neg (α := Int32 × se_G) c9, if_neg (α := Int32 × se_G) c10, if_neg (α := Int32 × se_G) c11, if_neg (α := Int32 × se_G) c12, if_neg (α := Int32 × se_G) c13, if_pos (α := Int32 × se_G) c14])
  by_cases c15 : p1 = 11
  · refine se_swIn c15 hx hb dX6_figure_20 (off := 123) (tgt := 143) (by decide) (by decide) (by decide) (by decide) ?_
    refine lv_aload_n hx hb dX6_figure_143 rfl (lv_at hl 0 rfl) ?_
    refine va_get (D := D) (ci := 6) (v := .int (g 0 42)) (C := RX6) (T := TX6) (N := 50) hx hb hts (se_iw iwX6) hown hK hP 0 rfl rfl 42 (by decide) (hts _ (List.mem_cons_of_mem _ qX6_f97)) (fun _ h9 => h9) rfl dX6_figure_144 ?_
    exact se_ri hx hb hr  hlocks hK hP hD hS dX6_figure_147 (by rw [F_M_figure, if_neg (α := Int32 × se_G) c4, if_neg (α := Int32 × se_G) c5, if_neg (α := Int32 × se_G) c6, if_neg (α := Int32 × se_G) c7, if_neg (α := Int32 × se_G) c8, if_neg (α := Int32 × se_G) c9, if_neg (α := Int32 × se_G) c10, if_neg (α := Int32 × se_G) c11, if_neg (α := Int32 × se_G) c12, if_neg (α := Int32 × se_G) c13, if_neg (α := Int32 × se_G) c14, if_pos (α := Int32 × se_G) c15])
  by_cases c16 : p1 = 12
  · refine se_swIn c16 hx hb dX6_figure_20 (off := 128) (tgt := 148) (by decide) (by decide) (by decide) (by decide) ?_
    refine lv_aload_n hx hb dX6_figure_148 rfl (lv_at hl 0 rfl) ?_
    refine va_get (D := D) (ci := 6) (v := .int (g 0 34)) (C := RX6) (T := TX6) (N := 50) hx hb hts (se_iw iwX6) hown hK hP 0 rfl rfl 34 (by decide) (hts _ (List.mem_cons_of_mem _ qX6_f20)) (fun _ h9 => h9) rfl dX6_figure_149 ?_
    refine lv_if_ge (tgt := 159) hx hb dX6_figure_152 (by decide) (fun c17 => ?_) (fun c17 => ?_)
    · refine lv_aload_n hx hb dX6_figure_159 rfl (lv_at hl 0 rfl) ?_
      refine va_get (D := D) (ci := 6) (v := .int (g 0 34)) (C := RX6) (T := TX6) (N := 50) hx hb hts (se_iw iwX6) hown hK hP 0 rfl rfl 34 (by decide) (hts _ (List.mem_cons_of_mem _ qX6_f20)) (fun _ h9 => h9) rfl dX6_figure_160 ?_
      refine lv_aload_n hx hb dX6_figure_163 rfl (lv_at hl 0 rfl) ?_
      refine va_get (D := D) (ci := 6) (v := .int (g 0 3)) (C := RX6) (T := TX6) (N := 50) hx hb hts (se_iw iwX6) hown hK hP 0 rfl rfl 3 (by decide) (hts _ (List.mem_cons_of_mem _ qX6_f121)) (fun _ h9 => h9) rfl dX6_figure_164 ?_
      refine lv_isub hx hb dX6_figure_167 ?_
      exact se_ri hx hb hr  hlocks hK hP hD hS dX6_figure_168 (by rw [F_M_figure, if_neg (α := Int32 × se_G) c4, if_neg (α := Int32 × se_G) c5, if_neg (α := Int32 × se_G) c6, if_neg (α := Int32 × se_G) c7, if_neg (α := Int32 × se_G) c8, if_neg (α := Int32 × se_G) c9, if_neg (α := Int32 × se_G) c10, if_neg (α := Int32 × se_G) c11, if_neg (α := Int32 × se_G) c12, if_neg (α := Int32 × se_G) c13, if_neg (α := Int32 × se_G) c14, if_neg (α := Int32 × se_G) c15, if_pos (α := Int32 × se_G) c16, if_pos (α := Int32 × se_G) c17])
    · refine lv_iconst (v := 0) hx hb dX6_figure_155 (by decide) ?_
      refine lv_goto (tgt := 168) hx hb dX6_figure_156 (by decide) ?_
      exact se_ri hx hb hr  hlocks hK hP hD hS dX6_figure_168 (by rw [F_M_figure, if_neg (α := Int32 × se_G) c4, if_neg (α := Int32 × se_G) c5, if_neg (α := Int32 × se_G) c6, if_neg (α := Int32 × se_G) c7, if_neg (α := Int32 × se_G) c8, if_neg (α := Int32 × se_G) c9, if_neg (α := Int32 × se_G) c10, if_neg (α := Int32 × se_G) c11, if_neg (α := Int32 × se_G) c12, if_neg (α := Int32 × se_G) c13, if_neg (α := Int32 × se_G) c14, if_neg (α := Int32 × se_G) c15, if_pos (α := Int32 × se_G) c16, if_neg (α := Int32 × se_G) c17])
  refine lv_tableOut (tgt := 169) hx hb dX6_figure_20 (se_swOut (L := [0, 1, 2, 3, 4, 5, 6, 7, 8, 9, 10, 11, 12]) (N := 13) (by intro k hk; simp only [List.mem_cons, List.not_mem_nil, or_false] at hk; rcases hk with rfl | rfl | rfl | rfl | rfl | rfl | rfl | rfl | rfl | rfl | rfl | rfl | rfl <;> first | exact c4 | exact c5 | exact c6 | exact c7 | exact c8 | exact c9 | exact c10 | exact c11 | exact c12 | exact c13 | exact c14 | exact c15 | exact c16) (by decide) (by decide) (by decide)) (by decide) ?_
  refine lv_iconst (v := 0) hx hb dX6_figure_169 (by decide) ?_
  exact se_ri hx hb hr  hlocks hK hP hD hS dX6_figure_170 (by rw [F_M_figure, if_neg (α := Int32 × se_G) c4, if_neg (α := Int32 × se_G) c5, if_neg (α := Int32 × se_G) c6, if_neg (α := Int32 × se_G) c7, if_neg (α := Int32 × se_G) c8, if_neg (α := Int32 × se_G) c9, if_neg (α := Int32 × se_G) c10, if_neg (α := Int32 × se_G) c11, if_neg (α := Int32 × se_G) c12, if_neg (α := Int32 × se_G) c13, if_neg (α := Int32 × se_G) c14, if_neg (α := Int32 × se_G) c15, if_neg (α := Int32 × se_G) c16])
