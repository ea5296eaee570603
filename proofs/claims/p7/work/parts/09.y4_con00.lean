/-! written by program (wip/gen) -/
set_option maxRecDepth 100000 in
set_option maxHeartbeats 4000000 in
theorem c_M_thrown (l : Launch) (D : va_G) (k : Nat → ClassId) (h : Nat → Nat) (sz : Nat) (g : se_G)  : Met l yX6_thrown (se_w_X6_thrown) ({ frames := 0, cells := 0, slots := 0, locals := 0 }) (va_Pc [.ref (h 0)] (se_Pre D se_cl [(k 1, .int), (k 2, .int), (k 3, .boolean), (k 4, .int), (k 5, .int), (k 6, .int)] (se_WM k h g) se_ZN sz)) (se_Qp (F_M_thrown g)) 0 0 (fun _ => False) := by
  refine se_metP (cc := cX6_thrown) (maxL := 1) (ret := (some .int)) (by decide) rfl (Nat.le_of_ble_eq_true rfl) ?_
  intro p e s m below meth c ls A hx hb hr hts hown hlocks hml hA hP hK hD hS hZ hl
  replace hl : lv_has ls 1 [(0, .ref (h 0))] := hl
  have hF : F_M_thrown g = F_M_thrown g := rfl
  refine lv_aload_n hx hb dX6_thrown_0 rfl (lv_at hl 0 rfl) ?_
  refine va_get (D := D) (ci := 6) (v := .int (g 0 2)) (C := RX6) (T := TX6) (N := 50) hx hb hts (se_iw iwX6) hown hK hP 0 rfl rfl 2 (by decide) (hts _ (List.mem_cons_of_mem _ qX6_f45)) (fun _ h9 => h9) rfl dX6_thrown_1 ?_
  exact se_rp hx hb hr  hlocks dX6_thrown_4 (by rw [F_M_thrown])
set_option maxRecDepth 100000 in
set_option maxHeartbeats 4000000 in
theorem c_M_quiesce (l : Launch) (D : va_G) (k : Nat → ClassId) (h : Nat → Nat) (sz : Nat) (g : se_G)  : Met l yX6_quiesce (se_w_X6_quiesce) ({ frames := 0, cells := 0, slots := 0, locals := 0 }) (va_Pc [.ref (h 0)] (se_Pre D se_cl [(k 1, .int), (k 2, .int), (k 3, .boolean), (k 4, .int), (k 5, .int), (k 6, .int)] (se_WM k h g) se_ZN sz)) (se_Qv D se_cl [(k 1, .int), (k 2, .int), (k 3, .boolean), (k 4, .int), (k 5, .int), (k 6, .int)] (se_WM k h) (F_M_quiesce g) (va_A (se_WM k h g) sz)) 0 0 (va_A (se_WM k h g) sz) := by
  refine se_met (Qc := se_Qv D se_cl [(k 1, .int), (k 2, .int), (k 3, .boolean), (k 4, .int), (k 5, .int), (k 6, .int)] (se_WM k h) (F_M_quiesce g)) (cc := cX6_quiesce) (maxL := 1) (ret := none) (by decide) rfl (Nat.le_of_ble_eq_true rfl) ?_
  intro p e s m below meth c ls A hx hb hr hts hown hlocks hml hA hP hK hD hS hZ hl
  replace hl : lv_has ls 1 [(0, .ref (h 0))] := hl
  have hF : F_M_quiesce g = F_M_quiesce g := rfl
  refine lv_aload_n hx hb dX6_quiesce_0 rfl (lv_at hl 0 rfl) ?_
  refine lv_iconst (v := 0) hx hb dX6_quiesce_1 (by decide) ?_
  refine va_put (D := D) (ci := 6) (v := .int 0) (ty := .boolean) (C := RX6) (T := TX6) (N := 50) hx hb hts (se_iw iwX6) tyX6 tyX6_ok nmX6 hown hK hP hD hS 0 rfl rfl 29 (by decide) (hts _ (List.mem_cons_of_mem _ qX6_f103)) (fun _ h9 => h9) rfl (by decide +kernel) rfl rfl (Nat.le_of_ble_eq_true rfl) dX6_quiesce_2 (fun H locs hP hD hS => ?_)
  replace hP : va_P D se_cl (se_WM k h (se_u g 0 29 0)) H := hP
  replace hD : va_D A (se_WM k h (se_u g 0 29 0)) := hD
  refine lv_aload_n hx hb dX6_quiesce_5 rfl (lv_at hl 0 rfl) ?_
  refine lv_iconst (v := 0) hx hb dX6_quiesce_6 (by decide) ?_
  refine va_put (D := D) (ci := 6) (v := .int 0) (ty := .boolean) (C := RX6) (T := TX6) (N := 50) hx hb hts (se_iw iwX6) tyX6 tyX6_ok nmX6 hown hK hP hD hS 0 rfl rfl 31 (by decide) (hts _ (List.mem_cons_of_mem _ qX6_f106)) (fun _ h9 => h9) rfl (by decide +kernel) rfl rfl (Nat.le_of_ble_eq_true rfl) dX6_quiesce_7 (fun H locs hP hD hS => ?_)
  replace hP : va_P D se_cl (se_WM k h (se_u (se_u g 0 29 0) 0 31 0)) H := hP
  replace hD : va_D A (se_WM k h (se_u (se_u g 0 29 0) 0 31 0)) := hD
  refine lv_aload_n hx hb dX6_quiesce_10 rfl (lv_at hl 0 rfl) ?_
  refine lv_iconst (v := 0) hx hb dX6_quiesce_11 (by decide) ?_
  refine va_put (D := D) (ci := 6) (v := .int 0) (ty := .boolean) (C := RX6) (T := TX6) (N := 50) hx hb hts (se_iw iwX6) tyX6 tyX6_ok nmX6 hown hK hP hD hS 0 rfl rfl 32 (by decide) (hts _ (List.mem_cons_of_mem _ qX6_f109)) (fun _ h9 => h9) rfl (by decide +kernel) rfl rfl (Nat.le_of_ble_eq_true rfl) dX6_quiesce_12 (fun H locs hP hD hS => ?_)
  replace hP : va_P D se_cl (se_WM k h (se_u (se_u (se_u g 0 29 0) 0 31 0) 0 32 0)) H := hP
  replace hD : va_D A (se_WM k h (se_u (se_u (se_u g 0 29 0) 0 31 0) 0 32 0)) := hD
  refine lv_aload_n hx hb dX6_quiesce_15 rfl (lv_at hl 0 rfl) ?_
  refine lv_iconst (v := 0) hx hb dX6_quiesce_16 (by decide) ?_
  refine va_put (D := D) (ci := 6) (v := .int 0) (ty := .boolean) (C := RX6) (T := TX6) (N := 50) hx hb hts (se_iw iwX6) tyX6 tyX6_ok nmX6 hown hK hP hD hS 0 rfl rfl 33 (by decide) (hts _ (List.mem_cons_of_mem _ qX6_f112)) (fun _ h9 => h9) rfl (by decide +kernel) rfl rfl (Nat.le_of_ble_eq_true rfl) dX6_quiesce_17 (fun H locs hP hD hS => ?_)
  replace hP : va_P D se_cl (se_WM k h (se_u (se_u (se_u (se_u g 0 29 0) 0 31 0) 0 32 0) 0 33 0)) H := hP
  replace hD : va_D A (se_WM k h (se_u (se_u (se_u (se_u g 0 29 0) 0 31 0) 0 32 0) 0 33 0)) := hD
  refine lv_aload_n hx hb dX6_quiesce_20 rfl (lv_at hl 0 rfl) ?_
  refine lv_iconst (v := (-1)) hx hb dX6_quiesce_21 (by decide) ?_
  refine va_put (D := D) (ci := 6) (v := .int (-1)) (ty := .int) (C := RX6) (T := TX6) (N := 50) hx hb hts (se_iw iwX6) tyX6 tyX6_ok nmX6 hown hK hP hD hS 0 rfl rfl 34 (by decide) (hts _ (List.mem_cons_of_mem _ qX6_f20)) (fun _ h9 => h9) rfl (by decide +kernel) rfl rfl (Nat.le_of_ble_eq_true rfl) dX6_quiesce_22 (fun H locs hP hD hS => ?_)
  replace hP : va_P D se_cl (se_WM k h (se_u (se_u (se_u (se_u (se_u g 0 29 0) 0 31 0) 0 32 0) 0 33 0) 0 34 (-1))) H := hP
  replace hD : va_D A (se_WM k h (se_u (se_u (se_u (se_u (se_u g 0 29 0) 0 31 0) 0 32 0) 0 33 0) 0 34 (-1))) := hD
  refine lv_aload_n hx hb dX6_quiesce_25 rfl (lv_at hl 0 rfl) ?_
  refine lv_iconst (v := 0) hx hb dX6_quiesce_26 (by decide) ?_
  refine va_put (D := D) (ci := 6) (v := .int 0) (ty := .boolean) (C := RX6) (T := TX6) (N := 50) hx hb hts (se_iw iwX6) tyX6 tyX6_ok nmX6 hown hK hP hD hS 0 rfl rfl 37 (by decide) (hts _ (List.mem_cons_of_mem _ qX6_f115)) (fun _ h9 => h9) rfl (by decide +kernel) rfl rfl (Nat.le_of_ble_eq_true rfl) dX6_quiesce_27 (fun H locs hP hD hS => ?_)
  replace hP : va_P D se_cl (se_WM k h (se_u (se_u (se_u (se_u (se_u (se_u g 0 29 0) 0 31 0) 0 32 0) 0 33 0) 0 34 (-1)) 0 37 0)) H := hP
  replace hD : va_D A (se_WM k h (se_u (se_u (se_u (se_u (se_u (se_u g 0 29 0) 0 31 0) 0 32 0) 0 33 0) 0 34 (-1)) 0 37 0)) := hD
  exact se_rv hx hb hr hlocks hK hP hD hS dX6_quiesce_30 (by rw [F_M_quiesce])
set_option maxRecDepth 100000 in
set_option maxHeartbeats 4000000 in
theorem c_M_clear (l : Launch) (D : va_G) (k : Nat → ClassId) (h : Nat → Nat) (sz : Nat) (g : se_G) (p1 : Int32) : Met l yX6_clear (se_w_X6_clear) ({ frames := 1, cells := 0, slots := 0, locals := 20 }) (va_Pc [.ref (h 0), .int p1] (se_Pre D se_cl [(k 1, .int), (k 2, .int), (k 3, .boolean), (k 4, .int), (k 5, .int), (k 6, .int)] (se_WM k h g) se_ZN sz)) (se_Qv D se_cl [(k 1, .int), (k 2, .int), (k 3, .boolean), (k 4, .int), (k 5, .int), (k 6, .int)] (se_WM k h) (F_M_clear g p1) (va_A (se_WM k h g) sz)) 0 0 (va_A (se_WM k h g) sz) := by
  refine se_met (Qc := se_Qv D se_cl [(k 1, .int), (k 2, .int), (k 3, .boolean), (k 4, .int), (k 5, .int), (k 6, .int)] (se_WM k h) (F_M_clear g p1)) (cc := cX6_clear) (maxL := 3) (ret := none) (by decide) rfl (Nat.le_of_ble_eq_true rfl) ?_
  intro p e s m below meth c ls A hx hb hr hts hown hlocks hml hA hP hK hD hS hZ hl
  replace hl : lv_has ls 3 [(0, .ref (h 0)), (1, .int p1)] := hl
  have L72 : ∀ (n : Nat) (gj72 : se_G) (v2_72 : Int32) (H : Heap) (locs : List Loc) (ls : Array Slot), (0 ≤ (v2_72).toInt) → ((2048 : Int32).toInt - (v2_72).toInt).toNat < n → F_M_clear_j72 n gj72 v2_72 = F_M_clear g p1 → va_P D se_cl (se_WM k h gj72) H → va_D A (se_WM k h gj72) → va_S A s.heap H locs → lv_has ls 3 [(0, .ref (h 0)), (2, .int v2_72)] → W p l e ({ frames := 1, cells := 0, slots := 0, locals := 20 }) s m [.ref (h 0), .int p1].toArray below meth c H locs 0 0 (MQ below (se_Qv D se_cl [(k 1, .int), (k 2, .int), (k 3, .boolean), (k 4, .int), (k 5, .int), (k 6, .int)] (se_WM k h) (F_M_clear g p1) A) [.ref (h 0), .int p1].toArray s 0 0 A) (F0 m 72 ls []) := by
    intro n
    induction n with
    | zero => intro gj72 v2_72 H locs ls hI hM; exact absurd hM (Nat.not_lt_zero _)
    | succ n ih =>
      intro gj72 v2_72 H locs ls hI hM hF hP hD hS hl
      refine lv_iload_n hx hb dX6_clear_72 rfl (lv_at hl 1 rfl) ?_
      refine lv_sipush (v := 2048) hx hb dX6_clear_73 (by decide) ?_
      refine lv_icmp_ge (tgt := 92) hx hb dX6_clear_76 (by decide) (fun c1 => ?_) (fun c1 => ?_)
      · refine lv_aload_n hx hb dX6_clear_92 rfl (lv_at hl 0 rfl) ?_
        refine se_cvE (va_runV (C := RX6) (As := []) (rest := []) ⟨hx, hb, hml, hown, hts⟩ (c_M_quiesce l D k h _ gj72) (se_kV 0 hts q_code_X6_quiesce qX6_m85 q_ini_StreamEndModel q_instanceMethod_X6_quiesce q_sel_X6_quiesce (by decide +kernel) ⟨Nat.le_of_ble_eq_true rfl, Nat.le_of_ble_eq_true rfl⟩ rfl rfl) ⟨se_blind se_ZN_ok, va_recv hK hP (ci := 6) (q0 := 0) rfl rfl, se_pre se_ZN_ok hP hK hD hZ⟩ rfl rfl hl.1 rfl (lv_room (Nat.le_of_ble_eq_true rfl)) dX6_clear_93 ⟨Nat.zero_le _, Nat.zero_le _⟩) hD hS hA (fun g1 H locs eg1 hP hD hS => ?_)
        refine lv_aload_n hx hb dX6_clear_96 rfl (lv_at hl 0 rfl) ?_
        refine lv_bipush (v := 60) hx hb dX6_clear_97 (by decide) ?_
        refine va_put (D := D) (ci := 6) (v := .int 60) (ty := .int) (C := RX6) (T := TX6) (N := 50) hx hb hts (se_iw iwX6) tyX6 tyX6_ok nmX6 hown hK hP hD hS 0 rfl rfl 35 (by decide) (hts _ (List.mem_cons_of_mem _ qX6_f24)) (fun _ h9 => h9) rfl (by decide +kernel) rfl rfl (Nat.le_of_ble_eq_true rfl) dX6_clear_99 (fun H locs hP hD hS => ?_)
        replace hP : va_P D se_cl (se_WM k h (se_u g1 0 35 60)) H := hP
        replace hD : va_D A (se_WM k h (se_u g1 0 35 60)) := hD
        refine lv_aload_n hx hb dX6_clear_102 rfl (lv_at hl 0 rfl) ?_
        refine lv_iconst (v := 0) hx hb dX6_clear_103 (by decide) ?_
        refine va_put (D := D) (ci := 6) (v := .int 0) (ty := .int) (C := RX6) (T := TX6) (N := 50) hx hb hts (se_iw iwX6) tyX6 tyX6_ok nmX6 hown hK hP hD hS 0 rfl rfl 36 (by decide) (hts _ (List.mem_cons_of_mem _ qX6_f88)) (fun _ h9 => h9) rfl (by decide +kernel) rfl rfl (Nat.le_of_ble_eq_true rfl) dX6_clear_104 (fun H locs hP hD hS => ?_)
        replace hP : va_P D se_cl (se_WM k h (se_u (se_u g1 0 35 60) 0 36 0)) H := hP
        replace hD : va_D A (se_WM k h (se_u (se_u g1 0 35 60) 0 36 0)) := hD
        refine lv_aload_n hx hb dX6_clear_107 rfl (lv_at hl 0 rfl) ?_
        refine lv_iconst (v := 0) hx hb dX6_clear_108 (by decide) ?_
        refine va_put (D := D) (ci := 6) (v := .int 0) (ty := .boolean) (C := RX6) (T := TX6) (N := 50) hx hb hts (se_iw iwX6) tyX6 tyX6_ok nmX6 hown hK hP hD hS 0 rfl rfl 40 (by decide) (hts _ (List.mem_cons_of_mem _ qX6_f91)) (fun _ h9 => h9) rfl (by decide +kernel) rfl rfl (Nat.le_of_ble_eq_true rfl) dX6_clear_109 (fun H locs hP hD hS => ?_)
        replace hP : va_P D se_cl (se_WM k h (se_u (se_u (se_u g1 0 35 60) 0 36 0) 0 40 0)) H := hP
        replace hD : va_D A (se_WM k h (se_u (se_u (se_u g1 0 35 60) 0 36 0) 0 40 0)) := hD
        refine lv_aload_n hx hb dX6_clear_112 rfl (lv_at hl 0 rfl) ?_
        refine lv_iconst (v := 0) hx hb dX6_clear_113 (by decide) ?_
        refine va_put (D := D) (ci := 6) (v := .int 0) (ty := .int) (C := RX6) (T := TX6) (N := 50) hx hb hts (se_iw iwX6) tyX6 tyX6_ok nmX6 hown hK hP hD hS 0 rfl rfl 41 (by decide) (hts _ (List.mem_cons_of_mem _ qX6_f94)) (fun _ h9 => h9) rfl (by decide +kernel) rfl rfl (Nat.le_of_ble_eq_true rfl) dX6_clear_114 (fun H locs hP hD hS => ?_)
        replace hP : va_P D se_cl (se_WM k h (se_u (se_u (se_u (se_u g1 0 35 60) 0 36 0) 0 40 0) 0 41 0)) H := hP
        replace hD : va_D A (se_WM k h (se_u (se_u (se_u (se_u g1 0 35 60) 0 36 0) 0 40 0) 0 41 0)) := hD
        refine lv_aload_n hx hb dX6_clear_117 rfl (lv_at hl 0 rfl) ?_
        refine lv_iconst (v := 0) hx hb dX6_clear_118 (by decide) ?_
        refine va_put (D := D) (ci := 6) (v := .int 0) (ty := .int) (C := RX6) (T := TX6) (N := 50) hx hb hts (se_iw iwX6) tyX6 tyX6_ok nmX6 hown hK hP hD hS 0 rfl rfl 42 (by decide) (hts _ (List.mem_cons_of_mem _ qX6_f97)) (fun _ h9 => h9) rfl (by decide +kernel) rfl rfl (Nat.le_of_ble_eq_true rfl) dX6_clear_119 (fun H locs hP hD hS => ?_)
        replace hP : va_P D se_cl (se_WM k h (se_u (se_u (se_u (se_u (se_u g1 0 35 60) 0 36 0) 0 40 0) 0 41 0) 0 42 0)) H := hP
        replace hD : va_D A (se_WM k h (se_u (se_u (se_u (se_u (se_u g1 0 35 60) 0 36 0) 0 40 0) 0 41 0) 0 42 0)) := hD
        refine lv_aload_n hx hb dX6_clear_122 rfl (lv_at hl 0 rfl) ?_
        refine lv_iconst (v := 0) hx hb dX6_clear_123 (by decide) ?_
        refine va_put (D := D) (ci := 6) (v := .int 0) (ty := .boolean) (C := RX6) (T := TX6) (N := 50) hx hb hts (se_iw iwX6) tyX6 tyX6_ok nmX6 hown hK hP hD hS 0 rfl rfl 30 (by decide) (hts _ (List.mem_cons_of_mem _ qX6_f100)) (fun _ h9 => h9) rfl (by decide +kernel) rfl rfl (Nat.le_of_ble_eq_true rfl) dX6_clear_124 (fun H locs hP hD hS => ?_)
        replace hP : va_P D se_cl (se_WM k h (se_u (se_u (se_u (se_u (se_u (se_u g1 0 35 60) 0 36 0) 0 40 0) 0 41 0) 0 42 0) 0 30 0)) H := hP
        replace hD : va_D A (se_WM k h (se_u (se_u (se_u (se_u (se_u (se_u g1 0 35 60) 0 36 0) 0 40 0) 0 41 0) 0 42 0) 0 30 0)) := hD
        exact se_rv hx hb hr hlocks hK hP hD hS dX6_clear_127 (by subst eg1; rw [← hF, F_M_clear_j72, if_pos (α := se_G) c1])
      · refine lv_aload_n hx hb dX6_clear_79 rfl (lv_at hl 0 rfl) ?_
        refine va_get (D := D) (ci := 6) (v := .ref (h 3)) (C := RX6) (T := TX6) (N := 50) hx hb hts (se_iw iwX6) hown hK hP 0 rfl rfl 19 (by decide) (hts _ (List.mem_cons_of_mem _ qX6_f16)) (fun _ h9 => h9) rfl dX6_clear_80 ?_
        refine lv_iload_n hx hb dX6_clear_83 rfl (lv_at hl 1 rfl) ?_
        refine lv_iconst (v := 0) hx hb dX6_clear_84 (by decide) ?_
        refine va_zast hx hb hK hP hD hS 3 2 rfl rfl (se_inN (N := 2048) (by decide) (se_nn hI) c1) dX6_clear_85 (fun H locs hP hD hS => ?_)
        replace hP : va_P D se_cl (se_WM k h (se_u gj72 3 (Int32.toNatClampNeg v2_72) (vp_nar .boolean 0))) H := hP
        replace hD : va_D A (se_WM k h (se_u gj72 3 (Int32.toNatClampNeg v2_72) (vp_nar .boolean 0))) := hD
        refine lv_iinc (v := (v2_72 + 1)) (lv' := [(2, .int (v2_72 + 1)), (0, .ref (h 0))]) hx hb dX6_clear_86 hl (k := 1) rfl rfl (by decide) rfl (fun ls hl => ?_)
        refine lv_goto (tgt := 72) hx hb dX6_clear_89 (by decide) ?_
        exact ih (se_u gj72 3 (Int32.toNatClampNeg v2_72) (vp_nar .boolean 0)) (v2_72 + 1) _ _ ls (se_inc0 c1 hI) (se_dec c1 hM) (by rw [← hF, F_M_clear_j72, if_neg (α := se_G) c1]) hP hD hS (lv_sub hl [1, 0] rfl)
  have hF : F_M_clear g p1 = F_M_clear g p1 := rfl
  refine lv_aload_n hx hb dX6_clear_0 rfl (lv_at hl 0 rfl) ?_
  refine lv_iload_n hx hb dX6_clear_1 rfl (lv_at hl 1 rfl) ?_
  refine va_put (D := D) (ci := 6) (v := .int p1) (ty := .int) (C := RX6) (T := TX6) (N := 50) hx hb hts (se_iw iwX6) tyX6 tyX6_ok nmX6 hown hK hP hD hS 0 rfl rfl 8 (by decide) (hts _ (List.mem_cons_of_mem _ qX6_f48)) (fun _ h9 => h9) rfl (by decide +kernel) rfl rfl (Nat.le_of_ble_eq_true rfl) dX6_clear_2 (fun H locs hP hD hS => ?_)
  replace hP : va_P D se_cl (se_WM k h (se_u g 0 8 p1)) H := hP
  replace hD : va_D A (se_WM k h (se_u g 0 8 p1)) := hD
  refine lv_aload_n hx hb dX6_clear_5 rfl (lv_at hl 0 rfl) ?_
  refine lv_iload_n hx hb dX6_clear_6 rfl (lv_at hl 1 rfl) ?_
  refine va_put (D := D) (ci := 6) (v := .int p1) (ty := .int) (C := RX6) (T := TX6) (N := 50) hx hb hts (se_iw iwX6) tyX6 tyX6_ok nmX6 hown hK hP hD hS 0 rfl rfl 9 (by decide) (hts _ (List.mem_cons_of_mem _ qX6_f51)) (fun _ h9 => h9) rfl (by decide +kernel) rfl rfl (Nat.le_of_ble_eq_true rfl) dX6_clear_7 (fun H locs hP hD hS => ?_)
  replace hP : va_P D se_cl (se_WM k h (se_u (se_u g 0 8 p1) 0 9 p1)) H := hP
  replace hD : va_D A (se_WM k h (se_u (se_u g 0 8 p1) 0 9 p1)) := hD
  refine lv_aload_n hx hb dX6_clear_10 rfl (lv_at hl 0 rfl) ?_
  refine lv_iload_n hx hb dX6_clear_11 rfl (lv_at hl 1 rfl) ?_
  refine va_put (D := D) (ci := 6) (v := .int p1) (ty := .int) (C := RX6) (T := TX6) (N := 50) hx hb hts (se_iw iwX6) tyX6 tyX6_ok nmX6 hown hK hP hD hS 0 rfl rfl 10 (by decide) (hts _ (List.mem_cons_of_mem _ qX6_f54)) (fun _ h9 => h9) rfl (by decide +kernel) rfl rfl (Nat.le_of_ble_eq_true rfl) dX6_clear_12 (fun H locs hP hD hS => ?_)
  replace hP : va_P D se_cl (se_WM k h (se_u (se_u (se_u g 0 8 p1) 0 9 p1) 0 10 p1)) H := hP
  replace hD : va_D A (se_WM k h (se_u (se_u (se_u g 0 8 p1) 0 9 p1) 0 10 p1)) := hD
  refine lv_aload_n hx hb dX6_clear_15 rfl (lv_at hl 0 rfl) ?_
  refine lv_iload_n hx hb dX6_clear_16 rfl (lv_at hl 1 rfl) ?_
  refine lv_iconst (v := 1) hx hb dX6_clear_17 (by decide) ?_
  refine lv_iadd hx hb dX6_clear_18 ?_
  refine va_put (D := D) (ci := 6) (v := .int (p1 + 1)) (ty := .int) (C := RX6) (T := TX6) (N := 50) hx hb hts (se_iw iwX6) tyX6 tyX6_ok nmX6 hown hK hP hD hS 0 rfl rfl 14 (by decide) (hts _ (List.mem_cons_of_mem _ qX6_f57)) (fun _ h9 => h9) rfl (by decide +kernel) rfl rfl (Nat.le_of_ble_eq_true rfl) dX6_clear_19 (fun H locs hP hD hS => ?_)
  replace hP : va_P D se_cl (se_WM k h (se_u (se_u (se_u (se_u g 0 8 p1) 0 9 p1) 0 10 p1) 0 14 (p1 + 1))) H := hP
  replace hD : va_D A (se_WM k h (se_u (se_u (se_u (se_u g 0 8 p1) 0 9 p1) 0 10 p1) 0 14 (p1 + 1))) := hD
  refine lv_aload_n hx hb dX6_clear_22 rfl (lv_at hl 0 rfl) ?_
  refine lv_iconst (v := 0) hx hb dX6_clear_23 (by decide) ?_
  refine va_put (D := D) (ci := 6) (v := .int 0) (ty := .int) (C := RX6) (T := TX6) (N := 50) hx hb hts (se_iw iwX6) tyX6 tyX6_ok nmX6 hown hK hP hD hS 0 rfl rfl 13 (by decide) (hts _ (List.mem_cons_of_mem _ qX6_f60)) (fun _ h9 => h9) rfl (by decide +kernel) rfl rfl (Nat.le_of_ble_eq_true rfl) dX6_clear_24 (fun H locs hP hD hS => ?_)
  replace hP : va_P D se_cl (se_WM k h (se_u (se_u (se_u (se_u (se_u g 0 8 p1) 0 9 p1) 0 10 p1) 0 14 (p1 + 1)) 0 13 0)) H := hP
  replace hD : va_D A (se_WM k h (se_u (se_u (se_u (se_u (se_u g 0 8 p1) 0 9 p1) 0 10 p1) 0 14 (p1 + 1)) 0 13 0)) := hD
  refine lv_aload_n hx hb dX6_clear_27 rfl (lv_at hl 0 rfl) ?_
  refine lv_aload_n hx hb dX6_clear_28 rfl (lv_at hl 0 rfl) ?_
  refine va_get (D := D) (ci := 6) (v := .int (g 0 0)) (C := RX6) (T := TX6) (N := 50) hx hb hts (se_iw iwX6) hown hK hP 0 rfl rfl 0 (by decide) (hts _ (List.mem_cons_of_mem _ qX6_f36)) (fun _ h9 => h9) rfl dX6_clear_29 ?_
  refine va_put (D := D) (ci := 6) (v := .int (g 0 0)) (ty := .int) (C := RX6) (T := TX6) (N := 50) hx hb hts (se_iw iwX6) tyX6 tyX6_ok nmX6 hown hK hP hD hS 0 rfl rfl 11 (by decide) (hts _ (List.mem_cons_of_mem _ qX6_f42)) (fun _ h9 => h9) rfl (by decide +kernel) rfl rfl (Nat.le_of_ble_eq_true rfl) dX6_clear_32 (fun H locs hP hD hS => ?_)
  replace hP : va_P D se_cl (se_WM k h (se_u (se_u (se_u (se_u (se_u (se_u g 0 8 p1) 0 9 p1) 0 10 p1) 0 14 (p1 + 1)) 0 13 0) 0 11 (g 0 0))) H := hP
  replace hD : va_D A (se_WM k h (se_u (se_u (se_u (se_u (se_u (se_u g 0 8 p1) 0 9 p1) 0 10 p1) 0 14 (p1 + 1)) 0 13 0) 0 11 (g 0 0))) := hD
  refine lv_aload_n hx hb dX6_clear_35 rfl (lv_at hl 0 rfl) ?_
  refine lv_iconst (v := 0) hx hb dX6_clear_36 (by decide) ?_
  refine va_put (D := D) (ci := 6) (v := .int 0) (ty := .int) (C := RX6) (T := TX6) (N := 50) hx hb hts (se_iw iwX6) tyX6 tyX6_ok nmX6 hown hK hP hD hS 0 rfl rfl 15 (by decide) (hts _ (List.mem_cons_of_mem _ qX6_f63)) (fun _ h9 => h9) rfl (by decide +kernel) rfl rfl (Nat.le_of_ble_eq_true rfl) dX6_clear_37 (fun H locs hP hD hS => ?_)
  replace hP : va_P D se_cl (se_WM k h (se_u (se_u (se_u (se_u (se_u (se_u (se_u g 0 8 p1) 0 9 p1) 0 10 p1) 0 14 (p1 + 1)) 0 13 0) 0 11 (g 0 0)) 0 15 0)) H := hP
  replace hD : va_D A (se_WM k h (se_u (se_u (se_u (se_u (se_u (se_u (se_u g 0 8 p1) 0 9 p1) 0 10 p1) 0 14 (p1 + 1)) 0 13 0) 0 11 (g 0 0)) 0 15 0)) := hD
  refine lv_aload_n hx hb dX6_clear_40 rfl (lv_at hl 0 rfl) ?_
  refine lv_iconst (v := 0) hx hb dX6_clear_41 (by decide) ?_
  refine va_put (D := D) (ci := 6) (v := .int 0) (ty := .int) (C := RX6) (T := TX6) (N := 50) hx hb hts (se_iw iwX6) tyX6 tyX6_ok nmX6 hown hK hP hD hS 0 rfl rfl 20 (by decide) (hts _ (List.mem_cons_of_mem _ qX6_f66)) (fun _ h9 => h9) rfl (by decide +kernel) rfl rfl (Nat.le_of_ble_eq_true rfl) dX6_clear_42 (fun H locs hP hD hS => ?_)
  replace hP : va_P D se_cl (se_WM k h (se_u (se_u (se_u (se_u (se_u (se_u (se_u (se_u g 0 8 p1) 0 9 p1) 0 10 p1) 0 14 (p1 + 1)) 0 13 0) 0 11 (g 0 0)) 0 15 0) 0 20 0)) H := hP
  replace hD : va_D A (se_WM k h (se_u (se_u (se_u (se_u (se_u (se_u (se_u (se_u g 0 8 p1) 0 9 p1) 0 10 p1) 0 14 (p1 + 1)) 0 13 0) 0 11 (g 0 0)) 0 15 0) 0 20 0)) := hD
  refine lv_aload_n hx hb dX6_clear_45 rfl (lv_at hl 0 rfl) ?_
  refine lv_iconst (v := 0) hx hb dX6_clear_46 (by decide) ?_
  refine va_put (D := D) (ci := 6) (v := .int 0) (ty := .int) (C := RX6) (T := TX6) (N := 50) hx hb hts (se_iw iwX6) tyX6 tyX6_ok nmX6 hown hK hP hD hS 0 rfl rfl 21 (by decide) (hts _ (List.mem_cons_of_mem _ qX6_f69)) (fun _ h9 => h9) rfl (by decide +kernel) rfl rfl (Nat.le_of_ble_eq_true rfl) dX6_clear_47 (fun H locs hP hD hS => ?_)
  replace hP : va_P D se_cl (se_WM k h (se_u (se_u (se_u (se_u (se_u (se_u (se_u (se_u (se_u g 0 8 p1) 0 9 p1) 0 10 p1) 0 14 (p1 + 1)) 0 13 0) 0 11 (g 0 0)) 0 15 0) 0 20 0) 0 21 0)) H := hP
  replace hD : va_D A (se_WM k h (se_u (se_u (se_u (se_u (se_u (se_u (se_u (se_u (se_u g 0 8 p1) 0 9 p1) 0 10 p1) 0 14 (p1 + 1)) 0 13 0) 0 11 (g 0 0)) 0 15 0) 0 20 0) 0 21 0)) := hD
  refine lv_aload_n hx hb dX6_clear_50 rfl (lv_at hl 0 rfl) ?_
  refine lv_iconst (v := 0) hx hb dX6_clear_51 (by decide) ?_
  refine va_put (D := D) (ci := 6) (v := .int 0) (ty := .boolean) (C := RX6) (T := TX6) (N := 50) hx hb hts (se_iw iwX6) tyX6 tyX6_ok nmX6 hown hK hP hD hS 0 rfl rfl 7 (by decide) (hts _ (List.mem_cons_of_mem _ qX6_f72)) (fun _ h9 => h9) rfl (by decide +kernel) rfl rfl (Nat.le_of_ble_eq_true rfl) dX6_clear_52 (fun H locs hP hD hS => ?_)
  replace hP : va_P D se_cl (se_WM k h (se_u (se_u (se_u (se_u (se_u (se_u (se_u (se_u (se_u (se_u g 0 8 p1) 0 9 p1) 0 10 p1) 0 14 (p1 + 1)) 0 13 0) 0 11 (g 0 0)) 0 15 0) 0 20 0) 0 21 0) 0 7 0)) H := hP
  replace hD : va_D A (se_WM k h (se_u (se_u (se_u (se_u (se_u (se_u (se_u (se_u (se_u (se_u g 0 8 p1) 0 9 p1) 0 10 p1) 0 14 (p1 + 1)) 0 13 0) 0 11 (g 0 0)) 0 15 0) 0 20 0) 0 21 0) 0 7 0)) := hD
  refine lv_aload_n hx hb dX6_clear_55 rfl (lv_at hl 0 rfl) ?_
  refine lv_iconst (v := 0) hx hb dX6_clear_56 (by decide) ?_
  refine va_put (D := D) (ci := 6) (v := .int 0) (ty := .boolean) (C := RX6) (T := TX6) (N := 50) hx hb hts (se_iw iwX6) tyX6 tyX6_ok nmX6 hown hK hP hD hS 0 rfl rfl 22 (by decide) (hts _ (List.mem_cons_of_mem _ qX6_f76)) (fun _ h9 => h9) rfl (by decide +kernel) rfl rfl (Nat.le_of_ble_eq_true rfl) dX6_clear_57 (fun H locs hP hD hS => ?_)
  replace hP : va_P D se_cl (se_WM k h (se_u (se_u (se_u (se_u (se_u (se_u (se_u (se_u (se_u (se_u (se_u g 0 8 p1) 0 9 p1) 0 10 p1) 0 14 (p1 + 1)) 0 13 0) 0 11 (g 0 0)) 0 15 0) 0 20 0) 0 21 0) 0 7 0) 0 22 0)) H := hP
  replace hD : va_D A (se_WM k h (se_u (se_u (se_u (se_u (se_u (se_u (se_u (se_u (se_u (se_u (se_u g 0 8 p1) 0 9 p1) 0 10 p1) 0 14 (p1 + 1)) 0 13 0) 0 11 (g 0 0)) 0 15 0) 0 20 0) 0 21 0) 0 7 0) 0 22 0)) := hD
  refine lv_aload_n hx hb dX6_clear_60 rfl (lv_at hl 0 rfl) ?_
  refine lv_iconst (v := 0) hx hb dX6_clear_61 (by decide) ?_
  refine va_put (D := D) (ci := 6) (v := .int 0) (ty := .boolean) (C := RX6) (T := TX6) (N := 50) hx hb hts (se_iw iwX6) tyX6 tyX6_ok nmX6 hown hK hP hD hS 0 rfl rfl 24 (by decide) (hts _ (List.mem_cons_of_mem _ qX6_f79)) (fun _ h9 => h9) rfl (by decide +kernel) rfl rfl (Nat.le_of_ble_eq_true rfl) dX6_clear_62 (fun H locs hP hD hS => ?_)
  replace hP : va_P D se_cl (se_WM k h (se_u (se_u (se_u (se_u (se_u (se_u (se_u (se_u (se_u (se_u (se_u (se_u g 0 8 p1) 0 9 p1) 0 10 p1) 0 14 (p1 + 1)) 0 13 0) 0 11 (g 0 0)) 0 15 0) 0 20 0) 0 21 0) 0 7 0) 0 22 0) 0 24 0)) H := hP
  replace hD : va_D A (se_WM k h (se_u (se_u (se_u (se_u (se_u (se_u (se_u (se_u (se_u (se_u (se_u (se_u g 0 8 p1) 0 9 p1) 0 10 p1) 0 14 (p1 + 1)) 0 13 0) 0 11 (g 0 0)) 0 15 0) 0 20 0) 0 21 0) 0 7 0) 0 22 0) 0 24 0)) := hD
  refine lv_aload_n hx hb dX6_clear_65 rfl (lv_at hl 0 rfl) ?_
  refine lv_iconst (v := 0) hx hb dX6_clear_66 (by decide) ?_
  refine va_put (D := D) (ci := 6) (v := .int 0) (ty := .boolean) (C := RX6) (T := TX6) (N := 50) hx hb hts (se_iw iwX6) tyX6 tyX6_ok nmX6 hown hK hP hD hS 0 rfl rfl 6 (by decide) (hts _ (List.mem_cons_of_mem _ qX6_f82)) (fun _ h9 => h9) rfl (by decide +kernel) rfl rfl (Nat.le_of_ble_eq_true rfl) dX6_clear_67 (fun H locs hP hD hS => ?_)
  replace hP : va_P D se_cl (se_WM k h (se_u (se_u (se_u (se_u (se_u (se_u (se_u (se_u (se_u (se_u (se_u (se_u (se_u g 0 8 p1) 0 9 p1) 0 10 p1) 0 14 (p1 + 1)) 0 13 0) 0 11 (g 0 0)) 0 15 0) 0 20 0) 0 21 0) 0 7 0) 0 22 0) 0 24 0) 0 6 0)) H := hP
  replace hD : va_D A (se_WM k h (se_u (se_u (se_u (se_u (se_u (se_u (se_u (se_u (se_u (se_u (se_u (se_u (se_u g 0 8 p1) 0 9 p1) 0 10 p1) 0 14 (p1 + 1)) 0 13 0) 0 11 (g 0 0)) 0 15 0) 0 20 0) 0 21 0) 0 7 0) 0 22 0) 0 24 0) 0 6 0)) := hD
  refine lv_iconst (v := 0) hx hb dX6_clear_70 (by decide) ?_
  refine lv_istore_n (lv' := [(2, .int 0), (0, .ref (h 0)), (1, .int p1)]) hx hb dX6_clear_71 rfl hl (by decide) rfl (fun ls hl => ?_)
  exact L72 (((2048 : Int32).toInt - ((0) : Int32).toInt).toNat + 1) (se_u (se_u (se_u (se_u (se_u (se_u (se_u (se_u (se_u (se_u (se_u (se_u (se_u g 0 8 p1) 0 9 p1) 0 10 p1) 0 14 (p1 + 1)) 0 13 0) 0 11 (g 0 0)) 0 15 0) 0 20 0) 0 21 0) 0 7 0) 0 22 0) 0 24 0) 0 6 0) 0 _ _ ls (by decide) (se_fuel _ _) (by rw [F_M_clear]) hP hD hS (lv_sub hl [1, 0] rfl)
