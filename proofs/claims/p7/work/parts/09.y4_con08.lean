/-! written by program (wip/gen) -/
set_option maxRecDepth 100000 in
set_option maxHeartbeats 4000000 in
theorem c_M_tell (l : Launch) (D : va_G) (k : Nat → ClassId) (h : Nat → Nat) (sz : Nat) (g : se_G) (p1 : Int32) (p2 : Int32) (p3 : Int32) : Met l yX6_tell (se_w_X6_tell) ({ frames := 0, cells := 0, slots := 0, locals := 0 }) (va_Pc [.ref (h 0), .int p1, .int p2, .int p3] (se_Pre D se_cl [(k 1, .int), (k 2, .int), (k 3, .boolean), (k 4, .int), (k 5, .int), (k 6, .int)] (se_WM k h g) se_ZN sz)) (se_Qv D se_cl [(k 1, .int), (k 2, .int), (k 3, .boolean), (k 4, .int), (k 5, .int), (k 6, .int)] (se_WM k h) (F_M_tell g p1 p2 p3) (va_A (se_WM k h g) sz)) 0 0 (va_A (se_WM k h g) sz) := by
  refine se_met (Qc := se_Qv D se_cl [(k 1, .int), (k 2, .int), (k 3, .boolean), (k 4, .int), (k 5, .int), (k 6, .int)] (se_WM k h) (F_M_tell g p1 p2 p3)) (cc := cX6_tell) (maxL := 6) (ret := none) (by decide) rfl (Nat.le_of_ble_eq_true rfl) ?_
  intro p e s m below meth c ls A hx hb hr hts hown hlocks hml hA hP hK hD hS hZ hl
  replace hl : lv_has ls 6 [(0, .ref (h 0)), (1, .int p1), (2, .int p2), (3, .int p3)] := hl
  have J37 : ∀ (gj37 : se_G) (v1_37 : Int32) (v2_37 : Int32) (v3_37 : Int32) (H : Heap) (locs : List Loc) (ls : Array Slot), F_M_tell_j37 gj37 v1_37 v2_37 v3_37 = F_M_tell g p1 p2 p3 → va_P D se_cl (se_WM k h gj37) H → va_D A (se_WM k h gj37) → va_S A s.heap H locs → lv_has ls 6 [(0, .ref (h 0)), (1, .int v1_37), (2, .int v2_37), (3, .int v3_37)] → W p l e ({ frames := 0, cells := 0, slots := 0, locals := 0 }) s m [.ref (h 0), .int p1, .int p2, .int p3].toArray below meth c H locs 0 0 (MQ below (se_Qv D se_cl [(k 1, .int), (k 2, .int), (k 3, .boolean), (k 4, .int), (k 5, .int), (k 6, .int)] (se_WM k h) (F_M_tell g p1 p2 p3) A) [.ref (h 0), .int p1, .int p2, .int p3].toArray s 0 0 A) (F0 m 37 ls []) := by
    intro gj37 v1_37 v2_37 v3_37 H locs ls hF hP hD hS hl
    refine lv_aload_n hx hb dX6_tell_37 rfl (lv_at hl 0 rfl) ?_
    refine va_get (D := D) (ci := 6) (v := .int (gj37 0 15)) (C := RX6) (T := TX6) (N := 50) hx hb hts (se_iw iwX6) hown hK hP 0 rfl rfl 15 (by decide) (hts _ (List.mem_cons_of_mem _ qX6_f63)) (fun _ h9 => h9) rfl dX6_tell_38 ?_
    refine se_join (v := ((if (gj37 0 15) = 0 then ((if v3_37 = 0 then 0 else 1) : Int32) else 0) : Int32)) (pcJ := 53) (restJ := []) (ls := ls) (fun T => ?_) ?_
    · refine lv_if_ne (tgt := 52) hx hb dX6_tell_41 (by decide) (fun c5 => ?_) (fun c5 => ?_)
      · refine lv_iconst (v := 0) hx hb dX6_tell_52 (by decide) ?_
        exact T _ (mo_ifn c5 rfl)
      · refine lv_iload_n hx hb dX6_tell_44 rfl (lv_at hl 3 rfl) ?_
        refine lv_if_eq (tgt := 52) hx hb dX6_tell_45 (by decide) (fun c6 => ?_) (fun c6 => ?_)
        · refine lv_iconst (v := 0) hx hb dX6_tell_52 (by decide) ?_
          exact T _ (mo_ifp c5 (mo_ifp c6 rfl))
        · refine lv_iconst (v := 1) hx hb dX6_tell_48 (by decide) ?_
          refine lv_goto (tgt := 53) hx hb dX6_tell_49 (by decide) ?_
          exact T _ (mo_ifp c5 (mo_ifn c6 rfl))
    refine lv_istore (lv' := [(5, .int ((if (gj37 0 15) = 0 then ((if v3_37 = 0 then 0 else 1) : Int32) else 0) : Int32)), (0, .ref (h 0)), (1, .int v1_37), (2, .int v2_37), (3, .int v3_37)]) hx hb dX6_tell_53 hl (by decide) rfl (fun ls hl => ?_)
    refine lv_aload_n hx hb dX6_tell_55 rfl (lv_at hl 1 rfl) ?_
    refine lv_iload_n hx hb dX6_tell_56 rfl (lv_at hl 4 rfl) ?_
    refine va_put (D := D) (ci := 6) (v := .int v3_37) (ty := .int) (C := RX6) (T := TX6) (N := 50) hx hb hts (se_iw iwX6) tyX6 tyX6_ok nmX6 hown hK hP hD hS 0 rfl rfl 15 (by decide) (hts _ (List.mem_cons_of_mem _ qX6_f63)) (fun _ h9 => h9) rfl (by decide +kernel) rfl rfl (Nat.le_of_ble_eq_true rfl) dX6_tell_57 (fun H locs hP hD hS => ?_)
    replace hP : va_P D se_cl (se_WM k h (se_u gj37 0 15 v3_37)) H := hP
    replace hD : va_D A (se_WM k h (se_u gj37 0 15 v3_37)) := hD
    refine lv_aload_n hx hb dX6_tell_60 rfl (lv_at hl 1 rfl) ?_
    refine lv_iload_n hx hb dX6_tell_61 rfl (lv_at hl 2 rfl) ?_
    refine va_put (D := D) (ci := 6) (v := .int v1_37) (ty := .int) (C := RX6) (T := TX6) (N := 50) hx hb hts (se_iw iwX6) tyX6 tyX6_ok nmX6 hown hK hP hD hS 0 rfl rfl 16 (by decide) (hts _ (List.mem_cons_of_mem _ qX6_f186)) (fun _ h9 => h9) rfl (by decide +kernel) rfl rfl (Nat.le_of_ble_eq_true rfl) dX6_tell_62 (fun H locs hP hD hS => ?_)
    replace hP : va_P D se_cl (se_WM k h (se_u (se_u gj37 0 15 v3_37) 0 16 v1_37)) H := hP
    replace hD : va_D A (se_WM k h (se_u (se_u gj37 0 15 v3_37) 0 16 v1_37)) := hD
    refine lv_aload_n hx hb dX6_tell_65 rfl (lv_at hl 1 rfl) ?_
    refine lv_iload_n hx hb dX6_tell_66 rfl (lv_at hl 3 rfl) ?_
    refine va_put (D := D) (ci := 6) (v := .int v2_37) (ty := .int) (C := RX6) (T := TX6) (N := 50) hx hb hts (se_iw iwX6) tyX6 tyX6_ok nmX6 hown hK hP hD hS 0 rfl rfl 17 (by decide) (hts _ (List.mem_cons_of_mem _ qX6_f189)) (fun _ h9 => h9) rfl (by decide +kernel) rfl rfl (Nat.le_of_ble_eq_true rfl) dX6_tell_67 (fun H locs hP hD hS => ?_)
    replace hP : va_P D se_cl (se_WM k h (se_u (se_u (se_u gj37 0 15 v3_37) 0 16 v1_37) 0 17 v2_37)) H := hP
    replace hD : va_D A (se_WM k h (se_u (se_u (se_u gj37 0 15 v3_37) 0 16 v1_37) 0 17 v2_37)) := hD
    refine lv_iload hx hb dX6_tell_70 (lv_at hl 0 rfl) ?_
    refine lv_if_eq (tgt := 111) hx hb dX6_tell_72 (by decide) (fun c7 => ?_) (fun c7 => ?_)
    · refine lv_iload_n hx hb dX6_tell_111 rfl (lv_at hl 4 rfl) ?_
      refine lv_if_ne (tgt := 120) hx hb dX6_tell_112 (by decide) (fun c8 => ?_) (fun c8 => ?_)
      · exact se_rv hx hb hr hlocks hK hP hD hS dX6_tell_120 (by rw [← hF, F_M_tell_j37, if_pos (α := se_G) c7, if_neg (α := se_G) c8])
      · refine lv_aload_n hx hb dX6_tell_115 rfl (lv_at hl 1 rfl) ?_
        refine lv_iconst (v := 0) hx hb dX6_tell_116 (by decide) ?_
        refine va_put (D := D) (ci := 6) (v := .int 0) (ty := .int) (C := RX6) (T := TX6) (N := 50) hx hb hts (se_iw iwX6) tyX6 tyX6_ok nmX6 hown hK hP hD hS 0 rfl rfl 36 (by decide) (hts _ (List.mem_cons_of_mem _ qX6_f88)) (fun _ h9 => h9) rfl (by decide +kernel) rfl rfl (Nat.le_of_ble_eq_true rfl) dX6_tell_117 (fun H locs hP hD hS => ?_)
        replace hP : va_P D se_cl (se_WM k h (se_u (se_u (se_u (se_u gj37 0 15 v3_37) 0 16 v1_37) 0 17 v2_37) 0 36 0)) H := hP
        replace hD : va_D A (se_WM k h (se_u (se_u (se_u (se_u gj37 0 15 v3_37) 0 16 v1_37) 0 17 v2_37) 0 36 0)) := hD
        exact se_rv hx hb hr hlocks hK hP hD hS dX6_tell_120 (by rw [← hF, F_M_tell_j37, if_pos (α := se_G) c7, if_pos (α := se_G) c8])
    · refine lv_aload_n hx hb dX6_tell_75 rfl (lv_at hl 1 rfl) ?_
      refine lv_iconst (v := 0) hx hb dX6_tell_76 (by decide) ?_
      refine va_put (D := D) (ci := 6) (v := .int 0) (ty := .int) (C := RX6) (T := TX6) (N := 50) hx hb hts (se_iw iwX6) tyX6 tyX6_ok nmX6 hown hK hP hD hS 0 rfl rfl 36 (by decide) (hts _ (List.mem_cons_of_mem _ qX6_f88)) (fun _ h9 => h9) rfl (by decide +kernel) rfl rfl (Nat.le_of_ble_eq_true rfl) dX6_tell_77 (fun H locs hP hD hS => ?_)
      replace hP : va_P D se_cl (se_WM k h (se_u (se_u (se_u (se_u gj37 0 15 v3_37) 0 16 v1_37) 0 17 v2_37) 0 36 0)) H := hP
      replace hD : va_D A (se_WM k h (se_u (se_u (se_u (se_u gj37 0 15 v3_37) 0 16 v1_37) 0 17 v2_37) 0 36 0)) := hD
      refine lv_aload_n hx hb dX6_tell_80 rfl (lv_at hl 1 rfl) ?_
      refine lv_iconst (v := 0) hx hb dX6_tell_81 (by decide) ?_
      refine va_put (D := D) (ci := 6) (v := .int 0) (ty := .boolean) (C := RX6) (T := TX6) (N := 50) hx hb hts (se_iw iwX6) tyX6 tyX6_ok nmX6 hown hK hP hD hS 0 rfl rfl 32 (by decide) (hts _ (List.mem_cons_of_mem _ qX6_f109)) (fun _ h9 => h9) rfl (by decide +kernel) rfl rfl (Nat.le_of_ble_eq_true rfl) dX6_tell_82 (fun H locs hP hD hS => ?_)
      replace hP : va_P D se_cl (se_WM k h (se_u (se_u (se_u (se_u (se_u gj37 0 15 v3_37) 0 16 v1_37) 0 17 v2_37) 0 36 0) 0 32 0)) H := hP
      replace hD : va_D A (se_WM k h (se_u (se_u (se_u (se_u (se_u gj37 0 15 v3_37) 0 16 v1_37) 0 17 v2_37) 0 36 0) 0 32 0)) := hD
      refine lv_aload_n hx hb dX6_tell_85 rfl (lv_at hl 1 rfl) ?_
      refine lv_aload_n hx hb dX6_tell_86 rfl (lv_at hl 1 rfl) ?_
      refine va_get (D := D) (ci := 6) (v := .int (gj37 0 9)) (C := RX6) (T := TX6) (N := 50) hx hb hts (se_iw iwX6) hown hK hP 0 rfl rfl 9 (by decide) (hts _ (List.mem_cons_of_mem _ qX6_f51)) (fun _ h9 => h9) rfl dX6_tell_87 ?_
      refine lv_aload_n hx hb dX6_tell_90 rfl (lv_at hl 1 rfl) ?_
      refine va_get (D := D) (ci := 6) (v := .int (gj37 0 10)) (C := RX6) (T := TX6) (N := 50) hx hb hts (se_iw iwX6) hown hK hP 0 rfl rfl 10 (by decide) (hts _ (List.mem_cons_of_mem _ qX6_f54)) (fun _ h9 => h9) rfl dX6_tell_91 ?_
      refine se_join (v := ((if (gj37 0 9) = (gj37 0 10) then (-1) else (gj37 0 34)) : Int32)) (pcJ := 105) (restJ := [.ref (h 0)]) (ls := ls) (fun T => ?_) ?_
      · refine lv_icmp_eq (tgt := 104) hx hb dX6_tell_94 (by decide) (fun c10 => ?_) (fun c10 => ?_)
        · refine lv_iconst (v := (-1)) hx hb dX6_tell_104 (by decide) ?_
          exact T _ (mo_ifp c10 rfl)
        · refine lv_aload_n hx hb dX6_tell_97 rfl (lv_at hl 1 rfl) ?_
          refine va_get (D := D) (ci := 6) (v := .int (gj37 0 34)) (C := RX6) (T := TX6) (N := 50) hx hb hts (se_iw iwX6) hown hK hP 0 rfl rfl 34 (by decide) (hts _ (List.mem_cons_of_mem _ qX6_f20)) (fun _ h9 => h9) rfl dX6_tell_98 ?_
          refine lv_goto (tgt := 105) hx hb dX6_tell_101 (by decide) ?_
          exact T _ (mo_ifn c10 rfl)
      refine va_put (D := D) (ci := 6) (v := .int ((if (gj37 0 9) = (gj37 0 10) then (-1) else (gj37 0 34)) : Int32)) (ty := .int) (C := RX6) (T := TX6) (N := 50) hx hb hts (se_iw iwX6) tyX6 tyX6_ok nmX6 hown hK hP hD hS 0 rfl rfl 34 (by decide) (hts _ (List.mem_cons_of_mem _ qX6_f20)) (fun _ h9 => h9) rfl (by decide +kernel) rfl rfl (Nat.le_of_ble_eq_true rfl) dX6_tell_105 (fun H locs hP hD hS => ?_)
      replace hP : va_P D se_cl (se_WM k h (se_u (se_u (se_u (se_u (se_u (se_u gj37 0 15 v3_37) 0 16 v1_37) 0 17 v2_37) 0 36 0) 0 32 0) 0 34 ((if (gj37 0 9) = (gj37 0 10) then (-1) else (gj37 0 34)) : Int32))) H := hP
      replace hD : va_D A (se_WM k h (se_u (se_u (se_u (se_u (se_u (se_u gj37 0 15 v3_37) 0 16 v1_37) 0 17 v2_37) 0 36 0) 0 32 0) 0 34 ((if (gj37 0 9) = (gj37 0 10) then (-1) else (gj37 0 34)) : Int32))) := hD
      refine lv_goto (tgt := 120) hx hb dX6_tell_108 (by decide) ?_
      exact se_rv hx hb hr hlocks hK hP hD hS dX6_tell_120 (by rw [← hF, F_M_tell_j37, if_neg (α := se_G) c7])
  have hF : F_M_tell g p1 p2 p3 = F_M_tell g p1 p2 p3 := rfl
  refine lv_iload_n hx hb dX6_tell_0 rfl (lv_at hl 1 rfl) ?_
  refine lv_aload_n hx hb dX6_tell_1 rfl (lv_at hl 0 rfl) ?_
  refine va_get (D := D) (ci := 6) (v := .int (g 0 16)) (C := RX6) (T := TX6) (N := 50) hx hb hts (se_iw iwX6) hown hK hP 0 rfl rfl 16 (by decide) (hts _ (List.mem_cons_of_mem _ qX6_f186)) (fun _ h9 => h9) rfl dX6_tell_2 ?_
  refine lv_isub hx hb dX6_tell_5 ?_
  refine lv_istore (lv' := [(4, .int (p1 - (g 0 16))), (0, .ref (h 0)), (1, .int p1), (2, .int p2), (3, .int p3)]) hx hb dX6_tell_6 hl (by decide) rfl (fun ls hl => ?_)
  refine lv_iload_n hx hb dX6_tell_8 rfl (lv_at hl 3 rfl) ?_
  refine lv_aload_n hx hb dX6_tell_9 rfl (lv_at hl 1 rfl) ?_
  refine va_get (D := D) (ci := 6) (v := .int (g 0 9)) (C := RX6) (T := TX6) (N := 50) hx hb hts (se_iw iwX6) hown hK hP 0 rfl rfl 9 (by decide) (hts _ (List.mem_cons_of_mem _ qX6_f51)) (fun _ h9 => h9) rfl dX6_tell_10 ?_
  refine lv_isub hx hb dX6_tell_13 ?_
  refine lv_if_lt (tgt := 36) hx hb dX6_tell_14 (by decide) (fun c1 => ?_) (fun c1 => ?_)
  · exact se_rv hx hb hr hlocks hK hP hD hS dX6_tell_36 (by rw [F_M_tell, if_pos (α := se_G) c1])
  · refine lv_iload hx hb dX6_tell_17 (lv_at hl 0 rfl) ?_
    refine lv_if_lt (tgt := 36) hx hb dX6_tell_19 (by decide) (fun c2 => ?_) (fun c2 => ?_)
    · exact se_rv hx hb hr hlocks hK hP hD hS dX6_tell_36 (by rw [F_M_tell, if_neg (α := se_G) c1, if_pos (α := se_G) c2])
    · refine lv_iload hx hb dX6_tell_22 (lv_at hl 0 rfl) ?_
      refine lv_if_ne (tgt := 37) hx hb dX6_tell_24 (by decide) (fun c3 => ?_) (fun c3 => ?_)
      · exact J37 g p1 p2 p3 _ _ ls (by rw [F_M_tell, if_neg (α := se_G) c1, if_neg (α := se_G) c2, if_neg (α := se_G) c3]) hP hD hS (lv_sub hl [1, 2, 3, 4] rfl)
      · refine lv_iload_n hx hb dX6_tell_27 rfl (lv_at hl 3 rfl) ?_
        refine lv_aload_n hx hb dX6_tell_28 rfl (lv_at hl 1 rfl) ?_
        refine va_get (D := D) (ci := 6) (v := .int (g 0 17)) (C := RX6) (T := TX6) (N := 50) hx hb hts (se_iw iwX6) hown hK hP 0 rfl rfl 17 (by decide) (hts _ (List.mem_cons_of_mem _ qX6_f189)) (fun _ h9 => h9) rfl dX6_tell_29 ?_
        refine lv_isub hx hb dX6_tell_32 ?_
        refine lv_if_ge (tgt := 37) hx hb dX6_tell_33 (by decide) (fun c11 => ?_) (fun c11 => ?_)
        · exact J37 g p1 p2 p3 _ _ ls (by rw [F_M_tell, if_neg (α := se_G) c1, if_neg (α := se_G) c2, if_pos (α := se_G) c3, if_pos (α := se_G) c11]) hP hD hS (lv_sub hl [1, 2, 3, 4] rfl)
        · exact se_rv hx hb hr hlocks hK hP hD hS dX6_tell_36 (by rw [F_M_tell, if_neg (α := se_G) c1, if_neg (α := se_G) c2, if_pos (α := se_G) c3, if_neg (α := se_G) c11])
set_option maxRecDepth 100000 in
set_option maxHeartbeats 4000000 in
theorem c_M_wasLast (l : Launch) (D : va_G) (k : Nat → ClassId) (h : Nat → Nat) (sz : Nat) (g : se_G)  : Met l yX6_wasLast (se_w_X6_wasLast) ({ frames := 2, cells := 0, slots := 0, locals := 42 }) (va_Pc [.ref (h 0)] (se_Pre D se_cl [(k 1, .int), (k 2, .int), (k 3, .boolean), (k 4, .int), (k 5, .int), (k 6, .int)] (se_WM k h g) se_ZN sz)) (se_Qi D se_cl [(k 1, .int), (k 2, .int), (k 3, .boolean), (k 4, .int), (k 5, .int), (k 6, .int)] (se_WM k h) (F_M_wasLast g) (va_A (se_WM k h g) sz)) 0 0 (va_A (se_WM k h g) sz) := by
  refine se_met (Qc := se_Qi D se_cl [(k 1, .int), (k 2, .int), (k 3, .boolean), (k 4, .int), (k 5, .int), (k 6, .int)] (se_WM k h) (F_M_wasLast g)) (cc := cX6_wasLast) (maxL := 2) (ret := (some .boolean)) (by decide) rfl (Nat.le_of_ble_eq_true rfl) ?_
  intro p e s m below meth c ls A hx hb hr hts hown hlocks hml hA hP hK hD hS hZ hl
  replace hl : lv_has ls 2 [(0, .ref (h 0))] := hl
  have J87 : ∀ (gj87 : se_G) (v1_87 : Int32) (H : Heap) (locs : List Loc) (ls : Array Slot), F_M_wasLast_j87 gj87 v1_87 = F_M_wasLast g → va_P D se_cl (se_WM k h gj87) H → va_D A (se_WM k h gj87) → va_S A s.heap H locs → lv_has ls 2 [(0, .ref (h 0)), (1, .int v1_87)] → W p l e ({ frames := 2, cells := 0, slots := 0, locals := 42 }) s m [.ref (h 0)].toArray below meth c H locs 0 0 (MQ below (se_Qi D se_cl [(k 1, .int), (k 2, .int), (k 3, .boolean), (k 4, .int), (k 5, .int), (k 6, .int)] (se_WM k h) (F_M_wasLast g) A) [.ref (h 0)].toArray s 0 0 A) (F0 m 87 ls []) := by
    intro gj87 v1_87 H locs ls hF hP hD hS hl
    refine lv_iload_n hx hb dX6_wasLast_87 rfl (lv_at hl 1 rfl) ?_
    refine lv_if_eq (tgt := 107) hx hb dX6_wasLast_88 (by decide) (fun c8 => ?_) (fun c8 => ?_)
    · refine lv_iconst (v := 0) hx hb dX6_wasLast_107 (by decide) ?_
      exact se_riz hx hb hr rfl hlocks hK hP hD hS dX6_wasLast_108 (by rw [← hF, F_M_wasLast_j87, if_pos (α := Int32 × se_G) c8])
    · refine lv_aload_n hx hb dX6_wasLast_91 rfl (lv_at hl 0 rfl) ?_
      refine va_get (D := D) (ci := 6) (v := .int (gj87 0 4)) (C := RX6) (T := TX6) (N := 50) hx hb hts (se_iw iwX6) hown hK hP 0 rfl rfl 4 (by decide) (hts _ (List.mem_cons_of_mem _ qX6_f118)) (fun _ h9 => h9) rfl dX6_wasLast_92 ?_
      refine lv_bipush (v := 9) hx hb dX6_wasLast_95 (by decide) ?_
      refine lv_icmp_ne (tgt := 107) hx hb dX6_wasLast_97 (by decide) (fun c9 => ?_) (fun c9 => ?_)
      · refine lv_iconst (v := 0) hx hb dX6_wasLast_107 (by decide) ?_
        exact se_riz hx hb hr rfl hlocks hK hP hD hS dX6_wasLast_108 (by rw [← hF, F_M_wasLast_j87, if_neg (α := Int32 × se_G) c8, if_neg (α := Int32 × se_G) c9])
      · refine lv_aload_n hx hb dX6_wasLast_100 rfl (lv_at hl 0 rfl) ?_
        refine lv_iconst (v := 0) hx hb dX6_wasLast_101 (by decide) ?_
        refine se_cvE (va_runV (C := RX6) (As := [.int 0]) (rest := []) ⟨hx, hb, hml, hown, hts⟩ (c_M_becomes l D k h _ gj87 0) (se_kV 1 hts q_code_X6_becomes qX6_m147 q_ini_StreamEndModel q_instanceMethod_X6_becomes q_sel_X6_becomes (by decide +kernel) ⟨Nat.le_of_ble_eq_true rfl, Nat.le_of_ble_eq_true rfl⟩ rfl rfl) ⟨se_blind se_ZN_ok, va_recv hK hP (ci := 6) (q0 := 0) rfl rfl, se_pre se_ZN_ok hP hK hD hZ⟩ rfl rfl hl.1 rfl (lv_room (Nat.le_of_ble_eq_true rfl)) dX6_wasLast_102 ⟨Nat.zero_le _, Nat.zero_le _⟩) hD hS hA (fun g1 H locs eg1 hP hD hS => ?_)
        refine lv_iconst (v := 1) hx hb dX6_wasLast_105 (by decide) ?_
        exact se_riz hx hb hr rfl hlocks hK hP hD hS dX6_wasLast_106 (by subst eg1; rw [← hF, F_M_wasLast_j87, if_neg (α := Int32 × se_G) c8, if_pos (α := Int32 × se_G) c9])
  have J65 : ∀ (gj65 : se_G) (v1_65 : Int32) (H : Heap) (locs : List Loc) (ls : Array Slot), F_M_wasLast_j65 gj65 v1_65 = F_M_wasLast g → va_P D se_cl (se_WM k h gj65) H → va_D A (se_WM k h gj65) → va_S A s.heap H locs → lv_has ls 2 [(0, .ref (h 0)), (1, .int v1_65)] → W p l e ({ frames := 2, cells := 0, slots := 0, locals := 42 }) s m [.ref (h 0)].toArray below meth c H locs 0 0 (MQ below (se_Qi D se_cl [(k 1, .int), (k 2, .int), (k 3, .boolean), (k 4, .int), (k 5, .int), (k 6, .int)] (se_WM k h) (F_M_wasLast g) A) [.ref (h 0)].toArray s 0 0 A) (F0 m 65 ls []) := by
    intro gj65 v1_65 H locs ls hF hP hD hS hl
    refine lv_iload_n hx hb dX6_wasLast_65 rfl (lv_at hl 1 rfl) ?_
    refine lv_if_eq (tgt := 87) hx hb dX6_wasLast_66 (by decide) (fun c7 => ?_) (fun c7 => ?_)
    · exact J87 gj65 v1_65 _ _ ls (by rw [← hF, F_M_wasLast_j65, if_pos (α := Int32 × se_G) c7]) hP hD hS (lv_sub hl [0, 1] rfl)
    · refine lv_aload_n hx hb dX6_wasLast_69 rfl (lv_at hl 0 rfl) ?_
      refine va_get (D := D) (ci := 6) (v := .int (gj65 0 4)) (C := RX6) (T := TX6) (N := 50) hx hb hts (se_iw iwX6) hown hK hP 0 rfl rfl 4 (by decide) (hts _ (List.mem_cons_of_mem _ qX6_f118)) (fun _ h9 => h9) rfl dX6_wasLast_70 ?_
      refine lv_bipush (v := 8) hx hb dX6_wasLast_73 (by decide) ?_
      refine lv_icmp_ne (tgt := 87) hx hb dX6_wasLast_75 (by decide) (fun c10 => ?_) (fun c10 => ?_)
      · exact J87 gj65 v1_65 _ _ ls (by rw [← hF, F_M_wasLast_j65, if_neg (α := Int32 × se_G) c7, if_neg (α := Int32 × se_G) c10]) hP hD hS (lv_sub hl [0, 1] rfl)
      · refine lv_aload_n hx hb dX6_wasLast_78 rfl (lv_at hl 0 rfl) ?_
        refine lv_bipush (v := 10) hx hb dX6_wasLast_79 (by decide) ?_
        refine se_cvE (va_runV (C := RX6) (As := [.int 10]) (rest := []) ⟨hx, hb, hml, hown, hts⟩ (c_M_becomes l D k h _ gj65 10) (se_kV 1 hts q_code_X6_becomes qX6_m147 q_ini_StreamEndModel q_instanceMethod_X6_becomes q_sel_X6_becomes (by decide +kernel) ⟨Nat.le_of_ble_eq_true rfl, Nat.le_of_ble_eq_true rfl⟩ rfl rfl) ⟨se_blind se_ZN_ok, va_recv hK hP (ci := 6) (q0 := 0) rfl rfl, se_pre se_ZN_ok hP hK hD hZ⟩ rfl rfl hl.1 rfl (lv_room (Nat.le_of_ble_eq_true rfl)) dX6_wasLast_81 ⟨Nat.zero_le _, Nat.zero_le _⟩) hD hS hA (fun g2 H locs eg2 hP hD hS => ?_)
        refine lv_goto (tgt := 107) hx hb dX6_wasLast_84 (by decide) ?_
        refine lv_iconst (v := 0) hx hb dX6_wasLast_107 (by decide) ?_
        exact se_riz hx hb hr rfl hlocks hK hP hD hS dX6_wasLast_108 (by subst eg2; rw [← hF, F_M_wasLast_j65, if_neg (α := Int32 × se_G) c7, if_pos (α := Int32 × se_G) c10])
  have hF : F_M_wasLast g = F_M_wasLast g := rfl
  refine lv_aload_n hx hb dX6_wasLast_0 rfl (lv_at hl 0 rfl) ?_
  refine va_get (D := D) (ci := 6) (v := .int (g 0 6)) (C := RX6) (T := TX6) (N := 50) hx hb hts (se_iw iwX6) hown hK hP 0 rfl rfl 6 (by decide) (hts _ (List.mem_cons_of_mem _ qX6_f82)) (fun _ h9 => h9) rfl dX6_wasLast_1 ?_
  refine se_join (v := ((if (g 0 6) = 0 then 0 else ((if (g 0 13) = 0 then ((if (g 0 9) = (g 0 10) then ((if ((g 0 10) - (g 0 14)) = 1 then 1 else 0) : Int32) else 0) : Int32) else 0) : Int32)) : Int32)) (pcJ := 43) (restJ := []) (ls := ls) (fun T => ?_) ?_
  · refine lv_if_eq (tgt := 42) hx hb dX6_wasLast_4 (by decide) (fun c2 => ?_) (fun c2 => ?_)
    · refine lv_iconst (v := 0) hx hb dX6_wasLast_42 (by decide) ?_
      exact T _ (mo_ifp c2 rfl)
    · refine lv_aload_n hx hb dX6_wasLast_7 rfl (lv_at hl 0 rfl) ?_
      refine va_get (D := D) (ci := 6) (v := .int (g 0 13)) (C := RX6) (T := TX6) (N := 50) hx hb hts (se_iw iwX6) hown hK hP 0 rfl rfl 13 (by decide) (hts _ (List.mem_cons_of_mem _ qX6_f60)) (fun _ h9 => h9) rfl dX6_wasLast_8 ?_
      refine lv_if_ne (tgt := 42) hx hb dX6_wasLast_11 (by decide) (fun c3 => ?_) (fun c3 => ?_)
      · refine lv_iconst (v := 0) hx hb dX6_wasLast_42 (by decide) ?_
        exact T _ (mo_ifn c2 (mo_ifn c3 rfl))
      · refine lv_aload_n hx hb dX6_wasLast_14 rfl (lv_at hl 0 rfl) ?_
        refine va_get (D := D) (ci := 6) (v := .int (g 0 9)) (C := RX6) (T := TX6) (N := 50) hx hb hts (se_iw iwX6) hown hK hP 0 rfl rfl 9 (by decide) (hts _ (List.mem_cons_of_mem _ qX6_f51)) (fun _ h9 => h9) rfl dX6_wasLast_15 ?_
        refine lv_aload_n hx hb dX6_wasLast_18 rfl (lv_at hl 0 rfl) ?_
        refine va_get (D := D) (ci := 6) (v := .int (g 0 10)) (C := RX6) (T := TX6) (N := 50) hx hb hts (se_iw iwX6) hown hK hP 0 rfl rfl 10 (by decide) (hts _ (List.mem_cons_of_mem _ qX6_f54)) (fun _ h9 => h9) rfl dX6_wasLast_19 ?_
        refine lv_icmp_ne (tgt := 42) hx hb dX6_wasLast_22 (by decide) (fun c4 => ?_) (fun c4 => ?_)
        · refine lv_iconst (v := 0) hx hb dX6_wasLast_42 (by decide) ?_
          exact T _ (mo_ifn c2 (mo_ifp c3 (mo_ifn c4 rfl)))
        · refine lv_aload_n hx hb dX6_wasLast_25 rfl (lv_at hl 0 rfl) ?_
          refine va_get (D := D) (ci := 6) (v := .int (g 0 10)) (C := RX6) (T := TX6) (N := 50) hx hb hts (se_iw iwX6) hown hK hP 0 rfl rfl 10 (by decide) (hts _ (List.mem_cons_of_mem _ qX6_f54)) (fun _ h9 => h9) rfl dX6_wasLast_26 ?_
          refine lv_aload_n hx hb dX6_wasLast_29 rfl (lv_at hl 0 rfl) ?_
          refine va_get (D := D) (ci := 6) (v := .int (g 0 14)) (C := RX6) (T := TX6) (N := 50) hx hb hts (se_iw iwX6) hown hK hP 0 rfl rfl 14 (by decide) (hts _ (List.mem_cons_of_mem _ qX6_f57)) (fun _ h9 => h9) rfl dX6_wasLast_30 ?_
          refine lv_isub hx hb dX6_wasLast_33 ?_
          refine lv_iconst (v := 1) hx hb dX6_wasLast_34 (by decide) ?_
          refine lv_icmp_ne (tgt := 42) hx hb dX6_wasLast_35 (by decide) (fun c5 => ?_) (fun c5 => ?_)
          · refine lv_iconst (v := 0) hx hb dX6_wasLast_42 (by decide) ?_
            exact T _ (mo_ifn c2 (mo_ifp c3 (mo_ifp c4 (mo_ifn c5 rfl))))
          · refine lv_iconst (v := 1) hx hb dX6_wasLast_38 (by decide) ?_
            refine lv_goto (tgt := 43) hx hb dX6_wasLast_39 (by decide) ?_
            exact T _ (mo_ifn c2 (mo_ifp c3 (mo_ifp c4 (mo_ifp c5 rfl))))
  refine lv_istore_n (lv' := [(1, .int ((if (g 0 6) = 0 then 0 else ((if (g 0 13) = 0 then ((if (g 0 9) = (g 0 10) then ((if ((g 0 10) - (g 0 14)) = 1 then 1 else 0) : Int32) else 0) : Int32) else 0) : Int32)) : Int32)), (0, .ref (h 0))]) hx hb dX6_wasLast_43 rfl hl (by decide) rfl (fun ls hl => ?_)
  refine lv_iload_n hx hb dX6_wasLast_44 rfl (lv_at hl 0 rfl) ?_
  refine lv_if_eq (tgt := 65) hx hb dX6_wasLast_45 (by decide) (fun c6 => ?_) (fun c6 => ?_)
  · exact J65 g ((if (g 0 6) = 0 then 0 else ((if (g 0 13) = 0 then ((if (g 0 9) = (g 0 10) then ((if ((g 0 10) - (g 0 14)) = 1 then 1 else 0) : Int32) else 0) : Int32) else 0) : Int32)) : Int32) _ _ ls (by rw [F_M_wasLast, if_pos (α := Int32 × se_G) c6]) hP hD hS (lv_sub hl [1, 0] rfl)
  · refine lv_aload_n hx hb dX6_wasLast_48 rfl (lv_at hl 1 rfl) ?_
    refine va_get (D := D) (ci := 6) (v := .int (g 0 4)) (C := RX6) (T := TX6) (N := 50) hx hb hts (se_iw iwX6) hown hK hP 0 rfl rfl 4 (by decide) (hts _ (List.mem_cons_of_mem _ qX6_f118)) (fun _ h9 => h9) rfl dX6_wasLast_49 ?_
    refine lv_iconst (v := 5) hx hb dX6_wasLast_52 (by decide) ?_
    refine lv_icmp_ne (tgt := 65) hx hb dX6_wasLast_53 (by decide) (fun c11 => ?_) (fun c11 => ?_)
    · exact J65 g ((if (g 0 6) = 0 then 0 else ((if (g 0 13) = 0 then ((if (g 0 9) = (g 0 10) then ((if ((g 0 10) - (g 0 14)) = 1 then 1 else 0) : Int32) else 0) : Int32) else 0) : Int32)) : Int32) _ _ ls (by rw [F_M_wasLast, if_neg (α := Int32 × se_G) c6, if_neg (α := Int32 × se_G) c11]) hP hD hS (lv_sub hl [1, 0] rfl)
    · refine lv_aload_n hx hb dX6_wasLast_56 rfl (lv_at hl 1 rfl) ?_
      refine lv_bipush (v := 6) hx hb dX6_wasLast_57 (by decide) ?_
      refine se_cvE (va_runV (C := RX6) (As := [.int 6]) (rest := []) ⟨hx, hb, hml, hown, hts⟩ (c_M_becomes l D k h _ g 6) (se_kV 1 hts q_code_X6_becomes qX6_m147 q_ini_StreamEndModel q_instanceMethod_X6_becomes q_sel_X6_becomes (by decide +kernel) ⟨Nat.le_of_ble_eq_true rfl, Nat.le_of_ble_eq_true rfl⟩ rfl rfl) ⟨se_blind se_ZN_ok, va_recv hK hP (ci := 6) (q0 := 0) rfl rfl, se_pre se_ZN_ok hP hK hD hZ⟩ rfl rfl hl.1 rfl (lv_room (Nat.le_of_ble_eq_true rfl)) dX6_wasLast_59 ⟨Nat.zero_le _, Nat.zero_le _⟩) hD hS hA (fun g3 H locs eg3 hP hD hS => ?_)
      refine lv_goto (tgt := 107) hx hb dX6_wasLast_62 (by decide) ?_
      refine lv_iconst (v := 0) hx hb dX6_wasLast_107 (by decide) ?_
      exact se_riz hx hb hr rfl hlocks hK hP hD hS dX6_wasLast_108 (by subst eg3; rw [F_M_wasLast, if_neg (α := Int32 × se_G) c6, if_pos (α := Int32 × se_G) c11])
