/-! written by program (wip/gen) -/
set_option maxRecDepth 100000 in
set_option maxHeartbeats 4000000 in
theorem c_M_make (l : Launch) (D : va_G) (k : Nat → ClassId) (h : Nat → Nat) (sz : Nat) (g : se_G) (p1 : Int32) (p2 : Int32) (p3 : Int32) (p4 : Int32) (p5 : Int32) : Met l yX6_make (se_w_X6_make) ({ frames := 0, cells := 0, slots := 0, locals := 0 }) (va_Pc [.ref (h 0), .int p1, .int p2, .int p3, .int p4, .int p5] (se_Pre D se_cl [(k 1, .int), (k 2, .int), (k 3, .boolean), (k 4, .int), (k 5, .int), (k 6, .int)] (se_WM k h g) se_ZN sz)) (se_Qv D se_cl [(k 1, .int), (k 2, .int), (k 3, .boolean), (k 4, .int), (k 5, .int), (k 6, .int)] (se_WM k h) (F_M_make g p1 p2 p3 p4 p5) (va_A (se_WM k h g) sz)) 0 0 (va_A (se_WM k h g) sz) := by
  refine se_met (Qc := se_Qv D se_cl [(k 1, .int), (k 2, .int), (k 3, .boolean), (k 4, .int), (k 5, .int), (k 6, .int)] (se_WM k h) (F_M_make g p1 p2 p3 p4 p5)) (cc := cX6_make) (maxL := 6) (ret := none) (by decide) rfl (Nat.le_of_ble_eq_true rfl) ?_
  intro p e s m below meth c ls A hx hb hr hts hown hlocks hml hA hP hK hD hS hZ hl
  replace hl : lv_has ls 6 [(0, .ref (h 0)), (1, .int p1), (2, .int p2), (3, .int p3), (4, .int p4), (5, .int p5)] := hl
  have hF : F_M_make g p1 p2 p3 p4 p5 = F_M_make g p1 p2 p3 p4 p5 := rfl
  refine lv_aload_n hx hb dX6_make_0 rfl (lv_at hl 0 rfl) ?_
  refine lv_iconst (v := 1) hx hb dX6_make_1 (by decide) ?_
  refine va_put (D := D) (ci := 6) (v := .int 1) (ty := .boolean) (C := RX6) (T := TX6) (N := 50) hx hb hts (se_iw iwX6) tyX6 tyX6_ok nmX6 hown hK hP hD hS 0 rfl rfl 46 (by decide) (hts _ (List.mem_cons_of_mem _ qX6_f243)) (fun _ h9 => h9) rfl (by decide +kernel) rfl rfl (Nat.le_of_ble_eq_true rfl) dX6_make_2 (fun H locs hP hD hS => ?_)
  replace hP : va_P D se_cl (se_WM k h (se_u g 0 46 1)) H := hP
  replace hD : va_D A (se_WM k h (se_u g 0 46 1)) := hD
  refine lv_aload_n hx hb dX6_make_5 rfl (lv_at hl 0 rfl) ?_
  refine va_get (D := D) (ci := 6) (v := .ref (h 5)) (C := RX6) (T := TX6) (N := 50) hx hb hts (se_iw iwX6) hown hK hP 0 rfl rfl 47 (by decide) (hts _ (List.mem_cons_of_mem _ qX6_f30)) (fun _ h9 => h9) rfl dX6_make_6 ?_
  refine lv_iconst (v := 0) hx hb dX6_make_9 (by decide) ?_
  refine lv_iload_n hx hb dX6_make_10 rfl (lv_at hl 1 rfl) ?_
  refine va_iast hx hb hK hP hD hS 5 4 rfl rfl (mo_in (by decide) (by decide)) dX6_make_11 (fun H locs hP hD hS => ?_)
  replace hP : va_P D se_cl (se_WM k h (se_u (se_u g 0 46 1) 5 (Int32.toNatClampNeg 0) p1)) H := hP
  replace hD : va_D A (se_WM k h (se_u (se_u g 0 46 1) 5 (Int32.toNatClampNeg 0) p1)) := hD
  refine lv_aload_n hx hb dX6_make_12 rfl (lv_at hl 0 rfl) ?_
  refine va_get (D := D) (ci := 6) (v := .ref (h 5)) (C := RX6) (T := TX6) (N := 50) hx hb hts (se_iw iwX6) hown hK hP 0 rfl rfl 47 (by decide) (hts _ (List.mem_cons_of_mem _ qX6_f30)) (fun _ h9 => h9) rfl dX6_make_13 ?_
  refine lv_iconst (v := 1) hx hb dX6_make_16 (by decide) ?_
  refine lv_iload_n hx hb dX6_make_17 rfl (lv_at hl 2 rfl) ?_
  refine va_iast hx hb hK hP hD hS 5 4 rfl rfl (mo_in (by decide) (by decide)) dX6_make_18 (fun H locs hP hD hS => ?_)
  replace hP : va_P D se_cl (se_WM k h (se_u (se_u (se_u g 0 46 1) 5 (Int32.toNatClampNeg 0) p1) 5 (Int32.toNatClampNeg 1) p2)) H := hP
  replace hD : va_D A (se_WM k h (se_u (se_u (se_u g 0 46 1) 5 (Int32.toNatClampNeg 0) p1) 5 (Int32.toNatClampNeg 1) p2)) := hD
  refine lv_aload_n hx hb dX6_make_19 rfl (lv_at hl 0 rfl) ?_
  refine va_get (D := D) (ci := 6) (v := .ref (h 5)) (C := RX6) (T := TX6) (N := 50) hx hb hts (se_iw iwX6) hown hK hP 0 rfl rfl 47 (by decide) (hts _ (List.mem_cons_of_mem _ qX6_f30)) (fun _ h9 => h9) rfl dX6_make_20 ?_
  refine lv_iconst (v := 2) hx hb dX6_make_23 (by decide) ?_
  refine lv_iload_n hx hb dX6_make_24 rfl (lv_at hl 3 rfl) ?_
  refine va_iast hx hb hK hP hD hS 5 4 rfl rfl (mo_in (by decide) (by decide)) dX6_make_25 (fun H locs hP hD hS => ?_)
  replace hP : va_P D se_cl (se_WM k h (se_u (se_u (se_u (se_u g 0 46 1) 5 (Int32.toNatClampNeg 0) p1) 5 (Int32.toNatClampNeg 1) p2) 5 (Int32.toNatClampNeg 2) p3)) H := hP
  replace hD : va_D A (se_WM k h (se_u (se_u (se_u (se_u g 0 46 1) 5 (Int32.toNatClampNeg 0) p1) 5 (Int32.toNatClampNeg 1) p2) 5 (Int32.toNatClampNeg 2) p3)) := hD
  refine lv_aload_n hx hb dX6_make_26 rfl (lv_at hl 0 rfl) ?_
  refine va_get (D := D) (ci := 6) (v := .ref (h 5)) (C := RX6) (T := TX6) (N := 50) hx hb hts (se_iw iwX6) hown hK hP 0 rfl rfl 47 (by decide) (hts _ (List.mem_cons_of_mem _ qX6_f30)) (fun _ h9 => h9) rfl dX6_make_27 ?_
  refine lv_iconst (v := 3) hx hb dX6_make_30 (by decide) ?_
  refine lv_iload hx hb dX6_make_31 (lv_at hl 4 rfl) ?_
  refine va_iast hx hb hK hP hD hS 5 4 rfl rfl (mo_in (by decide) (by decide)) dX6_make_33 (fun H locs hP hD hS => ?_)
  replace hP : va_P D se_cl (se_WM k h (se_u (se_u (se_u (se_u (se_u g 0 46 1) 5 (Int32.toNatClampNeg 0) p1) 5 (Int32.toNatClampNeg 1) p2) 5 (Int32.toNatClampNeg 2) p3) 5 (Int32.toNatClampNeg 3) p4)) H := hP
  replace hD : va_D A (se_WM k h (se_u (se_u (se_u (se_u (se_u g 0 46 1) 5 (Int32.toNatClampNeg 0) p1) 5 (Int32.toNatClampNeg 1) p2) 5 (Int32.toNatClampNeg 2) p3) 5 (Int32.toNatClampNeg 3) p4)) := hD
  refine lv_aload_n hx hb dX6_make_34 rfl (lv_at hl 0 rfl) ?_
  refine va_get (D := D) (ci := 6) (v := .ref (h 5)) (C := RX6) (T := TX6) (N := 50) hx hb hts (se_iw iwX6) hown hK hP 0 rfl rfl 47 (by decide) (hts _ (List.mem_cons_of_mem _ qX6_f30)) (fun _ h9 => h9) rfl dX6_make_35 ?_
  refine lv_iconst (v := 4) hx hb dX6_make_38 (by decide) ?_
  refine lv_iload hx hb dX6_make_39 (lv_at hl 5 rfl) ?_
  refine va_iast hx hb hK hP hD hS 5 4 rfl rfl (mo_in (by decide) (by decide)) dX6_make_41 (fun H locs hP hD hS => ?_)
  replace hP : va_P D se_cl (se_WM k h (se_u (se_u (se_u (se_u (se_u (se_u g 0 46 1) 5 (Int32.toNatClampNeg 0) p1) 5 (Int32.toNatClampNeg 1) p2) 5 (Int32.toNatClampNeg 2) p3) 5 (Int32.toNatClampNeg 3) p4) 5 (Int32.toNatClampNeg 4) p5)) H := hP
  replace hD : va_D A (se_WM k h (se_u (se_u (se_u (se_u (se_u (se_u g 0 46 1) 5 (Int32.toNatClampNeg 0) p1) 5 (Int32.toNatClampNeg 1) p2) 5 (Int32.toNatClampNeg 2) p3) 5 (Int32.toNatClampNeg 3) p4) 5 (Int32.toNatClampNeg 4) p5)) := hD
  refine lv_aload_n hx hb dX6_make_42 rfl (lv_at hl 0 rfl) ?_
  refine lv_iconst (v := 0) hx hb dX6_make_43 (by decide) ?_
  refine va_put (D := D) (ci := 6) (v := .int 0) (ty := .int) (C := RX6) (T := TX6) (N := 50) hx hb hts (se_iw iwX6) tyX6 tyX6_ok nmX6 hown hK hP hD hS 0 rfl rfl 49 (by decide) (hts _ (List.mem_cons_of_mem _ qX6_f246)) (fun _ h9 => h9) rfl (by decide +kernel) rfl rfl (Nat.le_of_ble_eq_true rfl) dX6_make_44 (fun H locs hP hD hS => ?_)
  replace hP : va_P D se_cl (se_WM k h (se_u (se_u (se_u (se_u (se_u (se_u (se_u g 0 46 1) 5 (Int32.toNatClampNeg 0) p1) 5 (Int32.toNatClampNeg 1) p2) 5 (Int32.toNatClampNeg 2) p3) 5 (Int32.toNatClampNeg 3) p4) 5 (Int32.toNatClampNeg 4) p5) 0 49 0)) H := hP
  replace hD : va_D A (se_WM k h (se_u (se_u (se_u (se_u (se_u (se_u (se_u g 0 46 1) 5 (Int32.toNatClampNeg 0) p1) 5 (Int32.toNatClampNeg 1) p2) 5 (Int32.toNatClampNeg 2) p3) 5 (Int32.toNatClampNeg 3) p4) 5 (Int32.toNatClampNeg 4) p5) 0 49 0)) := hD
  exact se_rv hx hb hr hlocks hK hP hD hS dX6_make_47 (by rw [F_M_make])
set_option maxRecDepth 100000 in
set_option maxHeartbeats 4000000 in
theorem c_M_tellBytes (l : Launch) (D : va_G) (k : Nat → ClassId) (h : Nat → Nat) (sz : Nat) (g : se_G) (p1 : Int32) (p2 : Int32) (p3 : Int32) (hI : mo_tb (p2 - g 0 14) p3) : Met l yX6_tellBytes (se_w_X6_tellBytes) ({ frames := 1, cells := 0, slots := 0, locals := 25 }) (va_Pc [.ref (h 0), .int p1, .int p2, .int p3] (se_Pre D se_cl [(k 1, .int), (k 2, .int), (k 3, .boolean), (k 4, .int), (k 5, .int), (k 6, .int)] (se_WM k h g) se_ZN sz)) (se_Qv D se_cl [(k 1, .int), (k 2, .int), (k 3, .boolean), (k 4, .int), (k 5, .int), (k 6, .int)] (se_WM k h) (F_M_tellBytes g p1 p2 p3) (va_A (se_WM k h g) sz)) 0 0 (va_A (se_WM k h g) sz) := by
  refine se_met (Qc := se_Qv D se_cl [(k 1, .int), (k 2, .int), (k 3, .boolean), (k 4, .int), (k 5, .int), (k 6, .int)] (se_WM k h) (F_M_tellBytes g p1 p2 p3)) (cc := cX6_tellBytes) (maxL := 5) (ret := none) (by decide) rfl (Nat.le_of_ble_eq_true rfl) ?_
  intro p e s m below meth c ls A hx hb hr hts hown hlocks hml hA hP hK hD hS hZ hl
  replace hl : lv_has ls 5 [(0, .ref (h 0)), (1, .int p1), (2, .int p2), (3, .int p3)] := hl
  have L58 : ∀ (n : Nat) (gj58 : se_G) (v2_58 : Int32) (v3_58 : Int32) (v4_58 : Int32) (H : Heap) (locs : List Loc) (ls : Array Slot), (0 ≤ (v4_58).toInt ∧ mo_tb (v2_58 - gj58 0 14) v3_58) → ((v3_58).toInt - (v4_58).toInt).toNat < n → F_M_tellBytes_j58 n gj58 v2_58 v3_58 v4_58 = F_M_tellBytes g p1 p2 p3 → va_P D se_cl (se_WM k h gj58) H → va_D A (se_WM k h gj58) → va_S A s.heap H locs → lv_has ls 5 [(0, .ref (h 0)), (2, .int v2_58), (3, .int v3_58), (4, .int v4_58)] → W p l e ({ frames := 1, cells := 0, slots := 0, locals := 25 }) s m [.ref (h 0), .int p1, .int p2, .int p3].toArray below meth c H locs 0 0 (MQ below (se_Qv D se_cl [(k 1, .int), (k 2, .int), (k 3, .boolean), (k 4, .int), (k 5, .int), (k 6, .int)] (se_WM k h) (F_M_tellBytes g p1 p2 p3) A) [.ref (h 0), .int p1, .int p2, .int p3].toArray s 0 0 A) (F0 m 58 ls []) := by
    intro n
    induction n with
    | zero => intro gj58 v2_58 v3_58 v4_58 H locs ls hI hM; exact absurd hM (Nat.not_lt_zero _)
    | succ n ih =>
      intro gj58 v2_58 v3_58 v4_58 H locs ls hI hM hF hP hD hS hl
      refine lv_iload hx hb dX6_tellBytes_58 (lv_at hl 3 rfl) ?_
      refine lv_iload_n hx hb dX6_tellBytes_60 rfl (lv_at hl 2 rfl) ?_
      refine lv_icmp_ge (tgt := 91) hx hb dX6_tellBytes_61 (by decide) (fun c7 => ?_) (fun c7 => ?_)
      · refine lv_aload_n hx hb dX6_tellBytes_91 rfl (lv_at hl 0 rfl) ?_
        refine lv_iload_n hx hb dX6_tellBytes_92 rfl (lv_at hl 2 rfl) ?_
        refine va_put (D := D) (ci := 6) (v := .int v3_58) (ty := .int) (C := RX6) (T := TX6) (N := 50) hx hb hts (se_iw iwX6) tyX6 tyX6_ok nmX6 hown hK hP hD hS 0 rfl rfl 49 (by decide) (hts _ (List.mem_cons_of_mem _ qX6_f246)) (fun _ h9 => h9) rfl (by decide +kernel) rfl rfl (Nat.le_of_ble_eq_true rfl) dX6_tellBytes_93 (fun H locs hP hD hS => ?_)
        replace hP : va_P D se_cl (se_WM k h (se_u gj58 0 49 v3_58)) H := hP
        replace hD : va_D A (se_WM k h (se_u gj58 0 49 v3_58)) := hD
        refine lv_aload_n hx hb dX6_tellBytes_96 rfl (lv_at hl 0 rfl) ?_
        refine lv_aload_n hx hb dX6_tellBytes_97 rfl (lv_at hl 0 rfl) ?_
        refine va_get (D := D) (ci := 6) (v := .int (gj58 0 33)) (C := RX6) (T := TX6) (N := 50) hx hb hts (se_iw iwX6) hown hK hP 0 rfl rfl 33 (by decide) (hts _ (List.mem_cons_of_mem _ qX6_f112)) (fun _ h9 => h9) rfl dX6_tellBytes_98 ?_
        refine se_join (v := ((if (gj58 0 33) = 0 then 0 else ((if (gj58 0 7) = 0 then 1 else 0) : Int32)) : Int32)) (pcJ := 116) (restJ := [.ref (h 0)]) (ls := ls) (fun T => ?_) ?_
        · refine lv_if_eq (tgt := 115) hx hb dX6_tellBytes_101 (by decide) (fun c9 => ?_) (fun c9 => ?_)
          · refine lv_iconst (v := 0) hx hb dX6_tellBytes_115 (by decide) ?_
            exact T _ (mo_ifp c9 rfl)
          · refine lv_aload_n hx hb dX6_tellBytes_104 rfl (lv_at hl 0 rfl) ?_
            refine va_get (D := D) (ci := 6) (v := .int (gj58 0 7)) (C := RX6) (T := TX6) (N := 50) hx hb hts (se_iw iwX6) hown hK hP 0 rfl rfl 7 (by decide) (hts _ (List.mem_cons_of_mem _ qX6_f72)) (fun _ h9 => h9) rfl dX6_tellBytes_105 ?_
            refine lv_if_ne (tgt := 115) hx hb dX6_tellBytes_108 (by decide) (fun c10 => ?_) (fun c10 => ?_)
            · refine lv_iconst (v := 0) hx hb dX6_tellBytes_115 (by decide) ?_
              exact T _ (mo_ifn c9 (mo_ifn c10 rfl))
            · refine lv_iconst (v := 1) hx hb dX6_tellBytes_111 (by decide) ?_
              refine lv_goto (tgt := 116) hx hb dX6_tellBytes_112 (by decide) ?_
              exact T _ (mo_ifn c9 (mo_ifp c10 rfl))
        have hz116 : ((if (gj58 0 33) = 0 then 0 else ((if (gj58 0 7) = 0 then 1 else 0) : Int32)) : Int32) = 0 ∨ ((if (gj58 0 33) = 0 then 0 else ((if (gj58 0 7) = 0 then 1 else 0) : Int32)) : Int32) = 1 := (mo_b01 (Or.inl rfl) (mo_b01 (Or.inr rfl) (Or.inl rfl)))
        refine va_put (D := D) (ci := 6) (v := .int ((if (gj58 0 33) = 0 then 0 else ((if (gj58 0 7) = 0 then 1 else 0) : Int32)) : Int32)) (ty := .boolean) (C := RX6) (T := TX6) (N := 50) hx hb hts (se_iw iwX6) tyX6 tyX6_ok nmX6 hown hK hP hD hS 0 rfl rfl 33 (by decide) (hts _ (List.mem_cons_of_mem _ qX6_f112)) (fun _ h9 => h9) rfl (by decide +kernel) (se_nz hz116) (se_fz hz116) (Nat.le_of_ble_eq_true rfl) dX6_tellBytes_116 (fun H locs hP hD hS => ?_)
        replace hP : va_P D se_cl (se_WM k h (se_u (se_u gj58 0 49 v3_58) 0 33 ((if (gj58 0 33) = 0 then 0 else ((if (gj58 0 7) = 0 then 1 else 0) : Int32)) : Int32))) H := hP
        replace hD : va_D A (se_WM k h (se_u (se_u gj58 0 49 v3_58) 0 33 ((if (gj58 0 33) = 0 then 0 else ((if (gj58 0 7) = 0 then 1 else 0) : Int32)) : Int32))) := hD
        exact se_rv hx hb hr hlocks hK hP hD hS dX6_tellBytes_119 (by rw [← hF, F_M_tellBytes_j58, if_pos (α := se_G) c7])
      · refine lv_aload_n hx hb dX6_tellBytes_64 rfl (lv_at hl 0 rfl) ?_
        refine va_get (D := D) (ci := 6) (v := .ref (h 6)) (C := RX6) (T := TX6) (N := 50) hx hb hts (se_iw iwX6) hown hK hP 0 rfl rfl 48 (by decide) (hts _ (List.mem_cons_of_mem _ qX6_f33)) (fun _ h9 => h9) rfl dX6_tellBytes_65 ?_
        refine lv_iload hx hb dX6_tellBytes_68 (lv_at hl 3 rfl) ?_
        refine lv_aload_n hx hb dX6_tellBytes_70 rfl (lv_at hl 0 rfl) ?_
        refine va_get (D := D) (ci := 6) (v := .ref (h 1)) (C := RX6) (T := TX6) (N := 50) hx hb hts (se_iw iwX6) hown hK hP 0 rfl rfl 12 (by decide) (hts _ (List.mem_cons_of_mem _ qX6_f7)) (fun _ h9 => h9) rfl dX6_tellBytes_71 ?_
        refine lv_iload_n hx hb dX6_tellBytes_74 rfl (lv_at hl 1 rfl) ?_
        refine lv_aload_n hx hb dX6_tellBytes_75 rfl (lv_at hl 0 rfl) ?_
        refine va_get (D := D) (ci := 6) (v := .int (gj58 0 14)) (C := RX6) (T := TX6) (N := 50) hx hb hts (se_iw iwX6) hown hK hP 0 rfl rfl 14 (by decide) (hts _ (List.mem_cons_of_mem _ qX6_f57)) (fun _ h9 => h9) rfl dX6_tellBytes_76 ?_
        refine lv_isub hx hb dX6_tellBytes_79 ?_
        refine lv_iload hx hb dX6_tellBytes_80 (lv_at hl 3 rfl) ?_
        refine lv_iadd hx hb dX6_tellBytes_82 ?_
        refine va_iald hx hb hK hP 1 0 rfl rfl (mo_tb1 c7 hI) dX6_tellBytes_83 ?_
        refine va_iast hx hb hK hP hD hS 6 5 rfl rfl (mo_tb2 c7 hI) dX6_tellBytes_84 (fun H locs hP hD hS => ?_)
        replace hP : va_P D se_cl (se_WM k h (se_u gj58 6 (Int32.toNatClampNeg v4_58) (gj58 1 (Int32.toNatClampNeg ((v2_58 - (gj58 0 14)) + v4_58))))) H := hP
        replace hD : va_D A (se_WM k h (se_u gj58 6 (Int32.toNatClampNeg v4_58) (gj58 1 (Int32.toNatClampNeg ((v2_58 - (gj58 0 14)) + v4_58))))) := hD
        refine lv_iinc (v := (v4_58 + 1)) (lv' := [(4, .int (v4_58 + 1)), (0, .ref (h 0)), (2, .int v2_58), (3, .int v3_58)]) hx hb dX6_tellBytes_85 hl (k := 3) rfl rfl (by decide) rfl (fun ls hl => ?_)
        refine lv_goto (tgt := 58) hx hb dX6_tellBytes_88 (by decide) ?_
        exact ih (se_u gj58 6 (Int32.toNatClampNeg v4_58) (gj58 1 (Int32.toNatClampNeg ((v2_58 - (gj58 0 14)) + v4_58)))) v2_58 v3_58 (v4_58 + 1) _ _ ls (mo_tb3 c7 hI) (se_dec c7 hM) (by rw [← hF, F_M_tellBytes_j58, if_neg (α := se_G) c7]) hP hD hS (lv_sub hl [1, 2, 3, 0] rfl)
  have hF : F_M_tellBytes g p1 p2 p3 = F_M_tellBytes g p1 p2 p3 := rfl
  refine lv_aload_n hx hb dX6_tellBytes_0 rfl (lv_at hl 0 rfl) ?_
  refine lv_iload_n hx hb dX6_tellBytes_1 rfl (lv_at hl 1 rfl) ?_
  refine lv_aload_n hx hb dX6_tellBytes_2 rfl (lv_at hl 0 rfl) ?_
  refine va_get (D := D) (ci := 6) (v := .int (g 0 7)) (C := RX6) (T := TX6) (N := 50) hx hb hts (se_iw iwX6) hown hK hP 0 rfl rfl 7 (by decide) (hts _ (List.mem_cons_of_mem _ qX6_f72)) (fun _ h9 => h9) rfl dX6_tellBytes_3 ?_
  refine se_join (v := ((if (g 0 7) = 0 then 0 else 8) : Int32)) (pcJ := 15) (restJ := [.int p1, .ref (h 0)]) (ls := ls) (fun T => ?_) ?_
  · refine lv_if_eq (tgt := 14) hx hb dX6_tellBytes_6 (by decide) (fun c2 => ?_) (fun c2 => ?_)
    · refine lv_iconst (v := 0) hx hb dX6_tellBytes_14 (by decide) ?_
      exact T _ (mo_ifp c2 rfl)
    · refine lv_bipush (v := 8) hx hb dX6_tellBytes_9 (by decide) ?_
      refine lv_goto (tgt := 15) hx hb dX6_tellBytes_11 (by decide) ?_
      exact T _ (mo_ifn c2 rfl)
  refine lv_ior hx hb dX6_tellBytes_15 ?_
  refine lv_iload_n hx hb dX6_tellBytes_16 rfl (lv_at hl 2 rfl) ?_
  refine lv_aload_n hx hb dX6_tellBytes_17 rfl (lv_at hl 0 rfl) ?_
  refine va_get (D := D) (ci := 6) (v := .int (g 0 7)) (C := RX6) (T := TX6) (N := 50) hx hb hts (se_iw iwX6) hown hK hP 0 rfl rfl 7 (by decide) (hts _ (List.mem_cons_of_mem _ qX6_f72)) (fun _ h9 => h9) rfl dX6_tellBytes_18 ?_
  refine se_join (v := ((if (g 0 7) = 0 then 0 else (g 0 21)) : Int32)) (pcJ := 32) (restJ := [.int p2, .int (p1 ||| ((if (g 0 7) = 0 then 0 else 8) : Int32)), .ref (h 0)]) (ls := ls) (fun T => ?_) ?_
  · refine lv_if_eq (tgt := 31) hx hb dX6_tellBytes_21 (by decide) (fun c4 => ?_) (fun c4 => ?_)
    · refine lv_iconst (v := 0) hx hb dX6_tellBytes_31 (by decide) ?_
      exact T _ (mo_ifp c4 rfl)
    · refine lv_aload_n hx hb dX6_tellBytes_24 rfl (lv_at hl 0 rfl) ?_
      refine va_get (D := D) (ci := 6) (v := .int (g 0 21)) (C := RX6) (T := TX6) (N := 50) hx hb hts (se_iw iwX6) hown hK hP 0 rfl rfl 21 (by decide) (hts _ (List.mem_cons_of_mem _ qX6_f69)) (fun _ h9 => h9) rfl dX6_tellBytes_25 ?_
      refine lv_goto (tgt := 32) hx hb dX6_tellBytes_28 (by decide) ?_
      exact T _ (mo_ifn c4 rfl)
  refine lv_aload_n hx hb dX6_tellBytes_32 rfl (lv_at hl 0 rfl) ?_
  refine se_cp (va_runV (C := RX6) (As := []) (rest := [.int ((if (g 0 7) = 0 then 0 else (g 0 21)) : Int32), .int p2, .int (p1 ||| ((if (g 0 7) = 0 then 0 else 8) : Int32)), .ref (h 0)]) ⟨hx, hb, hml, hown, hts⟩ (c_M_room l D k h _ g) (se_kV 0 hts q_code_X6_room qX6_m139 q_ini_StreamEndModel q_instanceMethod_X6_room q_sel_X6_room (by decide +kernel) ⟨Nat.le_of_ble_eq_true rfl, Nat.le_of_ble_eq_true rfl⟩ rfl rfl) ⟨se_blind se_ZN_ok, va_recv hK hP (ci := 6) (q0 := 0) rfl rfl, se_pre se_ZN_ok hP hK hD hZ⟩ rfl rfl hl.1 rfl (lv_room (Nat.le_of_ble_eq_true rfl)) dX6_tellBytes_33 ⟨Nat.zero_le _, Nat.zero_le _⟩) ?_
  refine lv_iload_n hx hb dX6_tellBytes_36 rfl (lv_at hl 1 rfl) ?_
  refine lv_iconst (v := 1) hx hb dX6_tellBytes_37 (by decide) ?_
  refine se_cp (va_runS (As := [.int p1, .int 1]) (rest := [.int (F_M_room g), .int ((if (g 0 7) = 0 then 0 else (g 0 21)) : Int32), .int p2, .int (p1 ||| ((if (g 0 7) = 0 then 0 else 8) : Int32)), .ref (h 0)]) ⟨hx, hb, hml, hown, hts⟩ (c_M_has l D k h _ g p1 1) (se_kS 2 hts q_code_X6_has qX6_m178 q_ini_StreamEndModel q_static_X6_has (by decide +kernel) ⟨Nat.le_of_ble_eq_true rfl, Nat.le_of_ble_eq_true rfl⟩ rfl rfl) ⟨se_blind se_ZN_ok, se_pre se_ZN_ok hP hK hD hZ⟩ rfl rfl hl.1 rfl (lv_room (Nat.le_of_ble_eq_true rfl)) dX6_tellBytes_38 ⟨Nat.zero_le _, Nat.zero_le _⟩) ?_
  refine se_join (v := ((if (F_M_has p1 1) = 0 then 0 else (g 0 0)) : Int32)) (pcJ := 52) (restJ := [.int (F_M_room g), .int ((if (g 0 7) = 0 then 0 else (g 0 21)) : Int32), .int p2, .int (p1 ||| ((if (g 0 7) = 0 then 0 else 8) : Int32)), .ref (h 0)]) (ls := ls) (fun T => ?_) ?_
  · refine lv_if_eq (tgt := 51) hx hb dX6_tellBytes_41 (by decide) (fun c6 => ?_) (fun c6 => ?_)
    · refine lv_iconst (v := 0) hx hb dX6_tellBytes_51 (by decide) ?_
      exact T _ (mo_ifp c6 rfl)
    · refine lv_aload_n hx hb dX6_tellBytes_44 rfl (lv_at hl 0 rfl) ?_
      refine va_get (D := D) (ci := 6) (v := .int (g 0 0)) (C := RX6) (T := TX6) (N := 50) hx hb hts (se_iw iwX6) hown hK hP 0 rfl rfl 0 (by decide) (hts _ (List.mem_cons_of_mem _ qX6_f36)) (fun _ h9 => h9) rfl dX6_tellBytes_45 ?_
      refine lv_goto (tgt := 52) hx hb dX6_tellBytes_48 (by decide) ?_
      exact T _ (mo_ifn c6 rfl)
  refine se_cvE (va_runV (C := RX6) (As := [.int (p1 ||| ((if (g 0 7) = 0 then 0 else 8) : Int32)), .int p2, .int ((if (g 0 7) = 0 then 0 else (g 0 21)) : Int32), .int (F_M_room g), .int ((if (F_M_has p1 1) = 0 then 0 else (g 0 0)) : Int32)]) (rest := []) ⟨hx, hb, hml, hown, hts⟩ (c_M_make l D k h _ g (p1 ||| ((if (g 0 7) = 0 then 0 else 8) : Int32)) p2 ((if (g 0 7) = 0 then 0 else (g 0 21)) : Int32) (F_M_room g) ((if (F_M_has p1 1) = 0 then 0 else (g 0 0)) : Int32)) (se_kV 5 hts q_code_X6_make qX6_m249 q_ini_StreamEndModel q_instanceMethod_X6_make q_sel_X6_make (by decide +kernel) ⟨Nat.le_of_ble_eq_true rfl, Nat.le_of_ble_eq_true rfl⟩ rfl rfl) ⟨se_blind se_ZN_ok, va_recv hK hP (ci := 6) (q0 := 0) rfl rfl, se_pre se_ZN_ok hP hK hD hZ⟩ rfl rfl hl.1 rfl (lv_room (Nat.le_of_ble_eq_true rfl)) dX6_tellBytes_52 ⟨Nat.zero_le _, Nat.zero_le _⟩) hD hS hA (fun g1 H locs eg1 hP hD hS => ?_)
  refine lv_iconst (v := 0) hx hb dX6_tellBytes_55 (by decide) ?_
  refine lv_istore (lv' := [(4, .int 0), (0, .ref (h 0)), (1, .int p1), (2, .int p2), (3, .int p3)]) hx hb dX6_tellBytes_56 hl (by decide) rfl (fun ls hl => ?_)
  exact L58 ((((p3) : Int32).toInt - ((0) : Int32).toInt).toNat + 1) g1 p2 p3 0 _ _ ls (by subst eg1; exact ⟨by decide, hI⟩) (se_fuel _ _) (by subst eg1; rw [F_M_tellBytes]) hP hD hS (lv_sub hl [1, 3, 4, 0] rfl)
