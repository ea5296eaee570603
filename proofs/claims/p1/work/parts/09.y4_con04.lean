/-! written by program (wip/gen) -/
set_option maxRecDepth 100000 in
set_option maxHeartbeats 4000000 in
theorem c_M_feed (l : Launch) (D : va_G) (k : Nat → ClassId) (h : Nat → Nat) (sz : Nat) (g : se_G) (p1 : Int64) (p3 : Int32) (hI : 0 ≤ (g 0 45).toInt ∧ (g 0 45).toInt ≤ 1460) : Met l yX6_feed (se_w_X6_feed) ({ frames := 0, cells := 0, slots := 0, locals := 0 }) (va_Pc [.ref (h 0), .long p1, .int p3] (se_Pre D se_cl [(k 1, .int), (k 2, .int), (k 3, .boolean), (k 4, .int), (k 5, .int), (k 6, .int)] (se_WM k h g) se_ZN sz)) (se_Qi D se_cl [(k 1, .int), (k 2, .int), (k 3, .boolean), (k 4, .int), (k 5, .int), (k 6, .int)] (se_WM k h) (F_M_feed g p1 p3) (va_A (se_WM k h g) sz)) 0 0 (va_A (se_WM k h g) sz) := by
  refine se_met (Qc := se_Qi D se_cl [(k 1, .int), (k 2, .int), (k 3, .boolean), (k 4, .int), (k 5, .int), (k 6, .int)] (se_WM k h) (F_M_feed g p1 p3)) (cc := cX6_feed) (maxL := 5) (ret := (some .int)) (by decide) rfl (Nat.le_of_ble_eq_true rfl) ?_
  intro p e s m below meth c ls A hx hb hr hts hown hlocks hml hA hP hK hD hS hZ hl
  replace hl : lv_has ls 5 [(0, .ref (h 0)), (1, .long p1), (3, .int p3)] := hl
  have L50 : ∀ (n : Nat) (gj50 : se_G) (v1_50 : Int64) (v4_50 : Int32) (H : Heap) (locs : List Loc) (ls : Array Slot), (0 ≤ (gj50 0 45).toInt ∧ (gj50 0 45).toInt + (v4_50).toInt + 1 ≤ 1460 ∧ -1 ≤ (v4_50).toInt) → ((v4_50).toInt + 1).toNat < n → F_M_feed_j50 n gj50 v1_50 v4_50 = F_M_feed g p1 p3 → va_P D se_cl (se_WM k h gj50) H → va_D A (se_WM k h gj50) → va_S A s.heap H locs → lv_has ls 5 [(0, .ref (h 0)), (1, .long v1_50), (4, .int v4_50)] → W p l e ({ frames := 0, cells := 0, slots := 0, locals := 0 }) s m [.ref (h 0), .long p1, .int p3].toArray below meth c H locs 0 0 (MQ below (se_Qi D se_cl [(k 1, .int), (k 2, .int), (k 3, .boolean), (k 4, .int), (k 5, .int), (k 6, .int)] (se_WM k h) (F_M_feed g p1 p3) A) [.ref (h 0), .long p1, .int p3].toArray s 0 0 A) (F0 m 50 ls []) := by
    intro n
    induction n with
    | zero => intro gj50 v1_50 v4_50 H locs ls hI hM; exact absurd hM (Nat.not_lt_zero _)
    | succ n ih =>
      intro gj50 v1_50 v4_50 H locs ls hI hM hF hP hD hS hl
      refine lv_iload hx hb dX6_feed_50 (lv_at hl 2 rfl) ?_
      refine lv_if_lt (tgt := 92) hx hb dX6_feed_52 (by decide) (fun c6 => ?_) (fun c6 => ?_)
      · refine lv_aload_n hx hb dX6_feed_92 rfl (lv_at hl 0 rfl) ?_
        refine va_get (D := D) (ci := 6) (v := .int (gj50 0 45)) (C := RX6) (T := TX6) (N := 50) hx hb hts (se_iw iwX6) hown hK hP 0 rfl rfl 45 (by decide) (hts _ (List.mem_cons_of_mem _ qX6_f175)) (fun _ h9 => h9) rfl dX6_feed_93 ?_
        exact se_ri hx hb hr  hlocks hK hP hD hS dX6_feed_96 (by rw [← hF, F_M_feed_j50, if_pos c6])
      · refine lv_aload_n hx hb dX6_feed_55 rfl (lv_at hl 0 rfl) ?_
        refine va_get (D := D) (ci := 6) (v := .ref (h 4)) (C := RX6) (T := TX6) (N := 50) hx hb hts (se_iw iwX6) hown hK hP 0 rfl rfl 44 (by decide) (hts _ (List.mem_cons_of_mem _ qX6_f27)) (fun _ h9 => h9) rfl dX6_feed_56 ?_
        refine lv_aload_n hx hb dX6_feed_59 rfl (lv_at hl 0 rfl) ?_
        refine va_get (D := D) (ci := 6) (v := .int (gj50 0 45)) (C := RX6) (T := TX6) (N := 50) hx hb hts (se_iw iwX6) hown hK hP 0 rfl rfl 45 (by decide) (hts _ (List.mem_cons_of_mem _ qX6_f175)) (fun _ h9 => h9) rfl dX6_feed_60 ?_
        refine lv_lload_n hx hb dX6_feed_63 rfl (lv_at hl 1 rfl) ?_
        refine lv_bipush (v := 8) hx hb dX6_feed_64 (by decide) ?_
        refine lv_iload hx hb dX6_feed_66 (lv_at hl 2 rfl) ?_
        refine lv_imul hx hb dX6_feed_68 ?_
        refine lv_lshr (v := (v1_50 >>> (Int32.toInt64 (8 * v4_50) &&& 63))) hx hb dX6_feed_69 rfl ?_
        refine lv_ldc2 hx hb hown (hts _ (List.mem_cons_of_mem _ qX6_k134)) dX6_feed_70 ?_
        refine lv_land hx hb dX6_feed_73 ?_
        refine lv_l2i (v := (Int64.toInt32 (((v1_50 >>> (Int32.toInt64 (8 * v4_50) &&& 63))) &&& 255))) hx hb dX6_feed_74 rfl ?_
        refine va_iast hx hb hK hP hD hS 4 3 rfl rfl (mo_fd2 c6 hI) dX6_feed_75 (fun H locs hP hD hS => ?_)
        replace hP : va_P D se_cl (se_WM k h (se_u gj50 4 (Int32.toNatClampNeg (gj50 0 45)) (Int64.toInt32 (((v1_50 >>> (Int32.toInt64 (8 * v4_50) &&& 63))) &&& 255)))) H := hP
        replace hD : va_D A (se_WM k h (se_u gj50 4 (Int32.toNatClampNeg (gj50 0 45)) (Int64.toInt32 (((v1_50 >>> (Int32.toInt64 (8 * v4_50) &&& 63))) &&& 255)))) := hD
        refine lv_aload_n hx hb dX6_feed_76 rfl (lv_at hl 0 rfl) ?_
        refine lv_dup hx hb dX6_feed_77 rfl ?_
        refine va_get (D := D) (ci := 6) (v := .int (gj50 0 45)) (C := RX6) (T := TX6) (N := 50) hx hb hts (se_iw iwX6) hown hK hP 0 rfl rfl 45 (by decide) (hts _ (List.mem_cons_of_mem _ qX6_f175)) (fun _ h9 => h9) rfl dX6_feed_78 ?_
        refine lv_iconst (v := 1) hx hb dX6_feed_81 (by decide) ?_
        refine lv_iadd hx hb dX6_feed_82 ?_
        refine va_put (D := D) (ci := 6) (v := .int ((gj50 0 45) + 1)) (ty := .int) (C := RX6) (T := TX6) (N := 50) hx hb hts (se_iw iwX6) tyX6 tyX6_ok nmX6 hown hK hP hD hS 0 rfl rfl 45 (by decide) (hts _ (List.mem_cons_of_mem _ qX6_f175)) (fun _ h9 => h9) rfl (by decide +kernel) rfl rfl (Nat.le_of_ble_eq_true rfl) dX6_feed_83 (fun H locs hP hD hS => ?_)
        replace hP : va_P D se_cl (se_WM k h (se_u (se_u gj50 4 (Int32.toNatClampNeg (gj50 0 45)) (Int64.toInt32 (((v1_50 >>> (Int32.toInt64 (8 * v4_50) &&& 63))) &&& 255))) 0 45 ((gj50 0 45) + 1))) H := hP
        replace hD : va_D A (se_WM k h (se_u (se_u gj50 4 (Int32.toNatClampNeg (gj50 0 45)) (Int64.toInt32 (((v1_50 >>> (Int32.toInt64 (8 * v4_50) &&& 63))) &&& 255))) 0 45 ((gj50 0 45) + 1))) := hD
        refine lv_iinc (v := (v4_50 + (-1))) (lv' := [(4, .int (v4_50 + (-1))), (0, .ref (h 0)), (1, .long v1_50)]) hx hb dX6_feed_86 hl (k := 2) rfl rfl (by decide) rfl (fun ls hl => ?_)
        refine lv_goto (tgt := 50) hx hb dX6_feed_89 (by decide) ?_
        exact ih (se_u (se_u gj50 4 (Int32.toNatClampNeg (gj50 0 45)) (Int64.toInt32 (((v1_50 >>> (Int32.toInt64 (8 * v4_50) &&& 63))) &&& 255))) 0 45 ((gj50 0 45) + 1)) v1_50 (v4_50 + (-1)) _ _ ls (mo_fd1 c6 hI) (mo_decD c6 hM) (by rw [← hF, F_M_feed_j50, if_neg c6]) hP hD hS (lv_sub hl [1, 2, 0] rfl)
  have hF : F_M_feed g p1 p3 = F_M_feed g p1 p3 := rfl
  refine lv_aload_n hx hb dX6_feed_0 rfl (lv_at hl 0 rfl) ?_
  refine lv_iload_n hx hb dX6_feed_1 rfl (lv_at hl 2 rfl) ?_
  refine lv_iconst (v := 1) hx hb dX6_feed_2 (by decide) ?_
  refine se_join (v := ((if p3 < 1 then 1 else ((if p3 ≤ 8 then ((if ((g 0 45) + p3) ≤ 1460 then 0 else 2) : Int32) else 1) : Int32)) : Int32)) (pcJ := 33) (restJ := [.ref (h 0)]) (ls := ls) (fun T => ?_) ?_
  · refine lv_icmp_lt (tgt := 12) hx hb dX6_feed_3 (by decide) (fun c2 => ?_) (fun c2 => ?_)
    · refine lv_iconst (v := 1) hx hb dX6_feed_12 (by decide) ?_
      refine lv_goto (tgt := 33) hx hb dX6_feed_13 (by decide) ?_
      exact T _ (by rw [if_pos c2])
    · refine lv_iload_n hx hb dX6_feed_6 rfl (lv_at hl 2 rfl) ?_
      refine lv_bipush (v := 8) hx hb dX6_feed_7 (by decide) ?_
      refine lv_icmp_le (tgt := 16) hx hb dX6_feed_9 (by decide) (fun c3 => ?_) (fun c3 => ?_)
      · refine lv_aload_n hx hb dX6_feed_16 rfl (lv_at hl 0 rfl) ?_
        refine va_get (D := D) (ci := 6) (v := .int (g 0 45)) (C := RX6) (T := TX6) (N := 50) hx hb hts (se_iw iwX6) hown hK hP 0 rfl rfl 45 (by decide) (hts _ (List.mem_cons_of_mem _ qX6_f175)) (fun _ h9 => h9) rfl dX6_feed_17 ?_
        refine lv_iload_n hx hb dX6_feed_20 rfl (lv_at hl 2 rfl) ?_
        refine lv_iadd hx hb dX6_feed_21 ?_
        refine lv_sipush (v := 1460) hx hb dX6_feed_22 (by decide) ?_
        refine lv_icmp_le (tgt := 32) hx hb dX6_feed_25 (by decide) (fun c4 => ?_) (fun c4 => ?_)
        · refine lv_iconst (v := 0) hx hb dX6_feed_32 (by decide) ?_
          exact T _ (by rw [if_neg c2, if_pos c3, if_pos c4])
        · refine lv_iconst (v := 2) hx hb dX6_feed_28 (by decide) ?_
          refine lv_goto (tgt := 33) hx hb dX6_feed_29 (by decide) ?_
          exact T _ (by rw [if_neg c2, if_pos c3, if_neg c4])
      · refine lv_iconst (v := 1) hx hb dX6_feed_12 (by decide) ?_
        refine lv_goto (tgt := 33) hx hb dX6_feed_13 (by decide) ?_
        exact T _ (by rw [if_neg c2, if_neg c3])
  refine va_put (D := D) (ci := 6) (v := .int ((if p3 < 1 then 1 else ((if p3 ≤ 8 then ((if ((g 0 45) + p3) ≤ 1460 then 0 else 2) : Int32) else 1) : Int32)) : Int32)) (ty := .int) (C := RX6) (T := TX6) (N := 50) hx hb hts (se_iw iwX6) tyX6 tyX6_ok nmX6 hown hK hP hD hS 0 rfl rfl 2 (by decide) (hts _ (List.mem_cons_of_mem _ qX6_f45)) (fun _ h9 => h9) rfl (by decide +kernel) rfl rfl (Nat.le_of_ble_eq_true rfl) dX6_feed_33 (fun H locs hP hD hS => ?_)
  replace hP : va_P D se_cl (se_WM k h (se_u g 0 2 ((if p3 < 1 then 1 else ((if p3 ≤ 8 then ((if ((g 0 45) + p3) ≤ 1460 then 0 else 2) : Int32) else 1) : Int32)) : Int32))) H := hP
  replace hD : va_D A (se_WM k h (se_u g 0 2 ((if p3 < 1 then 1 else ((if p3 ≤ 8 then ((if ((g 0 45) + p3) ≤ 1460 then 0 else 2) : Int32) else 1) : Int32)) : Int32))) := hD
  refine lv_aload_n hx hb dX6_feed_36 rfl (lv_at hl 0 rfl) ?_
  refine va_get (D := D) (ci := 6) (v := .int ((if p3 < 1 then 1 else ((if p3 ≤ 8 then ((if ((g 0 45) + p3) ≤ 1460 then 0 else 2) : Int32) else 1) : Int32)) : Int32)) (C := RX6) (T := TX6) (N := 50) hx hb hts (se_iw iwX6) hown hK hP 0 rfl rfl 2 (by decide) (hts _ (List.mem_cons_of_mem _ qX6_f45)) (fun _ h9 => h9) rfl dX6_feed_37 ?_
  refine lv_if_le (tgt := 45) hx hb dX6_feed_40 (by decide) (fun c5 => ?_) (fun c5 => ?_)
  · refine lv_iload_n hx hb dX6_feed_45 rfl (lv_at hl 2 rfl) ?_
    refine lv_iconst (v := 1) hx hb dX6_feed_46 (by decide) ?_
    refine lv_isub hx hb dX6_feed_47 ?_
    refine lv_istore (lv' := [(4, .int (p3 - 1)), (0, .ref (h 0)), (1, .long p1), (3, .int p3)]) hx hb dX6_feed_48 hl (by decide) rfl (fun ls hl => ?_)
    exact L50 (((((p3 - 1)) : Int32).toInt + 1).toNat + 1) (se_u g 0 2 ((if p3 < 1 then 1 else ((if p3 ≤ 8 then ((if ((g 0 45) + p3) ≤ 1460 then 0 else 2) : Int32) else 1) : Int32)) : Int32)) p1 (p3 - 1) _ _ ls (mo_fd0 (by assumption) hI) (Nat.lt_succ_self _) (by rw [F_M_feed, if_pos c5]) hP hD hS (lv_sub hl [1, 2, 0] rfl)
  · refine lv_iconst (v := 0) hx hb dX6_feed_43 (by decide) ?_
    exact se_ri hx hb hr  hlocks hK hP hD hS dX6_feed_44 (by rw [F_M_feed, if_neg c5])
set_option maxRecDepth 100000 in
set_option maxHeartbeats 4000000 in
theorem c_M_has (l : Launch) (D : va_G) (k : Nat → ClassId) (h : Nat → Nat) (sz : Nat) (g : se_G) (p0 : Int32) (p1 : Int32) : Met l yX6_has (se_w_X6_has) ({ frames := 0, cells := 0, slots := 0, locals := 0 }) (va_Pc [.int p0, .int p1] (se_Pre D se_cl [(k 1, .int), (k 2, .int), (k 3, .boolean), (k 4, .int), (k 5, .int), (k 6, .int)] (se_WM k h g) se_ZN sz)) (se_Qp (F_M_has p0 p1)) 0 0 (fun _ => False) := by
  refine se_metP (cc := cX6_has) (maxL := 2) (ret := (some .boolean)) (by decide) rfl (Nat.le_of_ble_eq_true rfl) ?_
  intro p e s m below meth c ls A hx hb hr hts hown hlocks hml hA hP hK hD hS hZ hl
  replace hl : lv_has ls 2 [(0, .int p0), (1, .int p1)] := hl
  have hF : F_M_has p0 p1 = F_M_has p0 p1 := rfl
  refine lv_iload_n hx hb dX6_has_0 rfl (lv_at hl 0 rfl) ?_
  refine lv_iload_n hx hb dX6_has_1 rfl (lv_at hl 1 rfl) ?_
  refine lv_iand hx hb dX6_has_2 ?_
  refine lv_if_eq (tgt := 10) hx hb dX6_has_3 (by decide) (fun c1 => ?_) (fun c1 => ?_)
  · refine lv_iconst (v := 0) hx hb dX6_has_10 (by decide) ?_
    exact se_rpz hx hb hr rfl hlocks dX6_has_11 (by rw [F_M_has, if_pos c1])
  · refine lv_iconst (v := 1) hx hb dX6_has_6 (by decide) ?_
    refine lv_goto (tgt := 11) hx hb dX6_has_7 (by decide) ?_
    exact se_rpz hx hb hr rfl hlocks dX6_has_11 (by rw [F_M_has, if_neg c1])
set_option maxRecDepth 100000 in
set_option maxHeartbeats 4000000 in
theorem c_M_size (l : Launch) (D : va_G) (k : Nat → ClassId) (h : Nat → Nat) (sz : Nat) (g : se_G) (p1 : Int32) : Met l yX6_size (se_w_X6_size) ({ frames := 1, cells := 0, slots := 0, locals := 21 }) (va_Pc [.ref (h 0), .int p1] (se_Pre D se_cl [(k 1, .int), (k 2, .int), (k 3, .boolean), (k 4, .int), (k 5, .int), (k 6, .int)] (se_WM k h g) se_ZN sz)) (se_Qp (F_M_size g p1)) 0 0 (fun _ => False) := by
  refine se_metP (cc := cX6_size) (maxL := 2) (ret := (some .int)) (by decide) rfl (Nat.le_of_ble_eq_true rfl) ?_
  intro p e s m below meth c ls A hx hb hr hts hown hlocks hml hA hP hK hD hS hZ hl
  replace hl : lv_has ls 2 [(0, .ref (h 0)), (1, .int p1)] := hl
  have hF : F_M_size g p1 = F_M_size g p1 := rfl
  refine lv_aload_n hx hb dX6_size_0 rfl (lv_at hl 0 rfl) ?_
  refine va_get (D := D) (ci := 6) (v := .int (g 0 45)) (C := RX6) (T := TX6) (N := 50) hx hb hts (se_iw iwX6) hown hK hP 0 rfl rfl 45 (by decide) (hts _ (List.mem_cons_of_mem _ qX6_f175)) (fun _ h9 => h9) rfl dX6_size_1 ?_
  refine lv_iload_n hx hb dX6_size_4 rfl (lv_at hl 1 rfl) ?_
  refine lv_iconst (v := 1) hx hb dX6_size_5 (by decide) ?_
  refine se_cp (va_runS (As := [.int p1, .int 1]) (rest := [.int (g 0 45)]) ⟨hx, hb, hml, hown, hts⟩ (c_M_has l D k h _ g p1 1) (se_kS 2 hts q_code_X6_has qX6_m178 q_ini_StreamEndModel q_static_X6_has (by decide +kernel) ⟨Nat.le_of_ble_eq_true rfl, Nat.le_of_ble_eq_true rfl⟩ rfl rfl) ⟨se_blind se_ZN_ok, se_pre se_ZN_ok hP hK hD hZ⟩ rfl rfl hl.1 rfl (lv_room (Nat.le_of_ble_eq_true rfl)) dX6_size_6 ⟨Nat.zero_le _, Nat.zero_le _⟩) ?_
  refine se_join (v := ((if (F_M_has p1 1) = 0 then 0 else 1) : Int32)) (pcJ := 17) (restJ := [.int (g 0 45)]) (ls := ls) (fun T => ?_) ?_
  · refine lv_if_eq (tgt := 16) hx hb dX6_size_9 (by decide) (fun c2 => ?_) (fun c2 => ?_)
    · refine lv_iconst (v := 0) hx hb dX6_size_16 (by decide) ?_
      exact T _ (by rw [if_pos c2])
    · refine lv_iconst (v := 1) hx hb dX6_size_12 (by decide) ?_
      refine lv_goto (tgt := 17) hx hb dX6_size_13 (by decide) ?_
      exact T _ (by rw [if_neg c2])
  refine lv_iadd hx hb dX6_size_17 ?_
  refine lv_iload_n hx hb dX6_size_18 rfl (lv_at hl 1 rfl) ?_
  refine lv_iconst (v := 2) hx hb dX6_size_19 (by decide) ?_
  refine se_cp (va_runS (As := [.int p1, .int 2]) (rest := [.int ((g 0 45) + ((if (F_M_has p1 1) = 0 then 0 else 1) : Int32))]) ⟨hx, hb, hml, hown, hts⟩ (c_M_has l D k h _ g p1 2) (se_kS 2 hts q_code_X6_has qX6_m178 q_ini_StreamEndModel q_static_X6_has (by decide +kernel) ⟨Nat.le_of_ble_eq_true rfl, Nat.le_of_ble_eq_true rfl⟩ rfl rfl) ⟨se_blind se_ZN_ok, se_pre se_ZN_ok hP hK hD hZ⟩ rfl rfl hl.1 rfl (lv_room (Nat.le_of_ble_eq_true rfl)) dX6_size_20 ⟨Nat.zero_le _, Nat.zero_le _⟩) ?_
  refine se_join (v := ((if (F_M_has p1 2) = 0 then 0 else 1) : Int32)) (pcJ := 31) (restJ := [.int ((g 0 45) + ((if (F_M_has p1 1) = 0 then 0 else 1) : Int32))]) (ls := ls) (fun T => ?_) ?_
  · refine lv_if_eq (tgt := 30) hx hb dX6_size_23 (by decide) (fun c4 => ?_) (fun c4 => ?_)
    · refine lv_iconst (v := 0) hx hb dX6_size_30 (by decide) ?_
      exact T _ (by rw [if_pos c4])
    · refine lv_iconst (v := 1) hx hb dX6_size_26 (by decide) ?_
      refine lv_goto (tgt := 31) hx hb dX6_size_27 (by decide) ?_
      exact T _ (by rw [if_neg c4])
  refine lv_iadd hx hb dX6_size_31 ?_
  exact se_rp hx hb hr  hlocks dX6_size_32 (by rw [F_M_size])
set_option maxRecDepth 100000 in
set_option maxHeartbeats 4000000 in
theorem c_M_resets (l : Launch) (D : va_G) (k : Nat → ClassId) (h : Nat → Nat) (sz : Nat) (g : se_G) (p1 : Int32) (p2 : Int32) (p3 : Int32) : Met l yX6_resets (se_w_X6_resets) ({ frames := 2, cells := 0, slots := 0, locals := 42 }) (va_Pc [.ref (h 0), .int p1, .int p2, .int p3] (se_Pre D se_cl [(k 1, .int), (k 2, .int), (k 3, .boolean), (k 4, .int), (k 5, .int), (k 6, .int)] (se_WM k h g) se_ZN sz)) (se_Qv D se_cl [(k 1, .int), (k 2, .int), (k 3, .boolean), (k 4, .int), (k 5, .int), (k 6, .int)] (se_WM k h) (F_M_resets g p1 p2 p3) (va_A (se_WM k h g) sz)) 0 0 (va_A (se_WM k h g) sz) := by
  refine se_met (Qc := se_Qv D se_cl [(k 1, .int), (k 2, .int), (k 3, .boolean), (k 4, .int), (k 5, .int), (k 6, .int)] (se_WM k h) (F_M_resets g p1 p2 p3)) (cc := cX6_resets) (maxL := 5) (ret := none) (by decide) rfl (Nat.le_of_ble_eq_true rfl) ?_
  intro p e s m below meth c ls A hx hb hr hts hown hlocks hml hA hP hK hD hS hZ hl
  replace hl : lv_has ls 5 [(0, .ref (h 0)), (1, .int p1), (2, .int p2), (3, .int p3)] := hl
  have hF : F_M_resets g p1 p2 p3 = F_M_resets g p1 p2 p3 := rfl
  refine lv_iload_n hx hb dX6_resets_0 rfl (lv_at hl 1 rfl) ?_
  refine lv_iconst (v := 4) hx hb dX6_resets_1 (by decide) ?_
  refine se_cp (va_runS (As := [.int p1, .int 4]) (rest := []) ⟨hx, hb, hml, hown, hts⟩ (c_M_has l D k h _ g p1 4) (se_kS 2 hts q_code_X6_has qX6_m178 q_ini_StreamEndModel q_static_X6_has (by decide +kernel) ⟨Nat.le_of_ble_eq_true rfl, Nat.le_of_ble_eq_true rfl⟩ rfl rfl) ⟨se_blind se_ZN_ok, se_pre se_ZN_ok hP hK hD hZ⟩ rfl rfl hl.1 rfl (lv_room (Nat.le_of_ble_eq_true rfl)) dX6_resets_2 ⟨Nat.zero_le _, Nat.zero_le _⟩) ?_
  refine lv_if_eq (tgt := 9) hx hb dX6_resets_5 (by decide) (fun c1 => ?_) (fun c1 => ?_)
  · refine lv_aload_n hx hb dX6_resets_9 rfl (lv_at hl 0 rfl) ?_
    refine lv_iconst (v := 1) hx hb dX6_resets_10 (by decide) ?_
    refine va_put (D := D) (ci := 6) (v := .int 1) (ty := .boolean) (C := RX6) (T := TX6) (N := 50) hx hb hts (se_iw iwX6) tyX6 tyX6_ok nmX6 hown hK hP hD hS 0 rfl rfl 25 (by decide) (hts _ (List.mem_cons_of_mem _ qX6_f150)) (fun _ h9 => h9) rfl (by decide +kernel) rfl rfl (Nat.le_of_ble_eq_true rfl) dX6_resets_11 (fun H locs hP hD hS => ?_)
    replace hP : va_P D se_cl (se_WM k h (se_u g 0 25 1)) H := hP
    replace hD : va_D A (se_WM k h (se_u g 0 25 1)) := hD
    refine lv_iload_n hx hb dX6_resets_14 rfl (lv_at hl 1 rfl) ?_
    refine lv_bipush (v := 8) hx hb dX6_resets_15 (by decide) ?_
    refine se_cp (va_runS (As := [.int p1, .int 8]) (rest := []) ⟨hx, hb, hml, hown, hts⟩ (c_M_has l D k h _ (se_u g 0 25 1) p1 8) (se_kS 2 hts q_code_X6_has qX6_m178 q_ini_StreamEndModel q_static_X6_has (by decide +kernel) ⟨Nat.le_of_ble_eq_true rfl, Nat.le_of_ble_eq_true rfl⟩ rfl rfl) ⟨se_blind se_ZN_ok, se_pre se_ZN_ok hP hK hD hZ⟩ rfl rfl hl.1 rfl (lv_room (Nat.le_of_ble_eq_true rfl)) dX6_resets_17 ⟨Nat.zero_le _, Nat.zero_le _⟩) ?_
    refine lv_istore (lv' := [(4, .int (F_M_has p1 8)), (0, .ref (h 0)), (1, .int p1), (2, .int p2), (3, .int p3)]) hx hb dX6_resets_20 hl (by decide) rfl (fun ls hl => ?_)
    refine lv_aload_n hx hb dX6_resets_22 rfl (lv_at hl 1 rfl) ?_
    refine lv_iload hx hb dX6_resets_23 (lv_at hl 0 rfl) ?_
    refine se_join (v := ((if (F_M_has p1 8) = 0 then 12 else 4) : Int32)) (pcJ := 34) (restJ := [.ref (h 0)]) (ls := ls) (fun T => ?_) ?_
    · refine lv_if_eq (tgt := 32) hx hb dX6_resets_25 (by decide) (fun c3 => ?_) (fun c3 => ?_)
      · refine lv_bipush (v := 12) hx hb dX6_resets_32 (by decide) ?_
        exact T _ (by rw [if_pos c3])
      · refine lv_iconst (v := 4) hx hb dX6_resets_28 (by decide) ?_
        refine lv_goto (tgt := 34) hx hb dX6_resets_29 (by decide) ?_
        exact T _ (by rw [if_neg c3])
    refine va_put (D := D) (ci := 6) (v := .int ((if (F_M_has p1 8) = 0 then 12 else 4) : Int32)) (ty := .int) (C := RX6) (T := TX6) (N := 50) hx hb hts (se_iw iwX6) tyX6 tyX6_ok nmX6 hown hK hP hD hS 0 rfl rfl 26 (by decide) (hts _ (List.mem_cons_of_mem _ qX6_f153)) (fun _ h9 => h9) rfl (by decide +kernel) rfl rfl (Nat.le_of_ble_eq_true rfl) dX6_resets_34 (fun H locs hP hD hS => ?_)
    replace hP : va_P D se_cl (se_WM k h (se_u (se_u g 0 25 1) 0 26 ((if (F_M_has p1 8) = 0 then 12 else 4) : Int32))) H := hP
    replace hD : va_D A (se_WM k h (se_u (se_u g 0 25 1) 0 26 ((if (F_M_has p1 8) = 0 then 12 else 4) : Int32))) := hD
    refine lv_aload_n hx hb dX6_resets_37 rfl (lv_at hl 1 rfl) ?_
    refine lv_iload hx hb dX6_resets_38 (lv_at hl 0 rfl) ?_
    refine se_join (v := ((if (F_M_has p1 8) = 0 then 0 else p3) : Int32)) (pcJ := 48) (restJ := [.ref (h 0)]) (ls := ls) (fun T => ?_) ?_
    · refine lv_if_eq (tgt := 47) hx hb dX6_resets_40 (by decide) (fun c5 => ?_) (fun c5 => ?_)
      · refine lv_iconst (v := 0) hx hb dX6_resets_47 (by decide) ?_
        exact T _ (by rw [if_pos c5])
      · refine lv_iload_n hx hb dX6_resets_43 rfl (lv_at hl 4 rfl) ?_
        refine lv_goto (tgt := 48) hx hb dX6_resets_44 (by decide) ?_
        exact T _ (by rw [if_neg c5])
    refine va_put (D := D) (ci := 6) (v := .int ((if (F_M_has p1 8) = 0 then 0 else p3) : Int32)) (ty := .int) (C := RX6) (T := TX6) (N := 50) hx hb hts (se_iw iwX6) tyX6 tyX6_ok nmX6 hown hK hP hD hS 0 rfl rfl 27 (by decide) (hts _ (List.mem_cons_of_mem _ qX6_f156)) (fun _ h9 => h9) rfl (by decide +kernel) rfl rfl (Nat.le_of_ble_eq_true rfl) dX6_resets_48 (fun H locs hP hD hS => ?_)
    replace hP : va_P D se_cl (se_WM k h (se_u (se_u (se_u g 0 25 1) 0 26 ((if (F_M_has p1 8) = 0 then 12 else 4) : Int32)) 0 27 ((if (F_M_has p1 8) = 0 then 0 else p3) : Int32))) H := hP
    replace hD : va_D A (se_WM k h (se_u (se_u (se_u g 0 25 1) 0 26 ((if (F_M_has p1 8) = 0 then 12 else 4) : Int32)) 0 27 ((if (F_M_has p1 8) = 0 then 0 else p3) : Int32))) := hD
    refine lv_aload_n hx hb dX6_resets_51 rfl (lv_at hl 1 rfl) ?_
    refine lv_iload hx hb dX6_resets_52 (lv_at hl 0 rfl) ?_
    refine se_join (v := ((if (F_M_has p1 8) = 0 then (p2 + (F_M_size (se_u (se_u (se_u g 0 25 1) 0 26 ((if (F_M_has p1 8) = 0 then 12 else 4) : Int32)) 0 27 ((if (F_M_has p1 8) = 0 then 0 else p3) : Int32)) p1)) else 0) : Int32)) (pcJ := 68) (restJ := [.ref (h 0)]) (ls := ls) (fun T => ?_) ?_
    · refine lv_if_eq (tgt := 61) hx hb dX6_resets_54 (by decide) (fun c7 => ?_) (fun c7 => ?_)
      · refine lv_iload_n hx hb dX6_resets_61 rfl (lv_at hl 3 rfl) ?_
        refine lv_aload_n hx hb dX6_resets_62 rfl (lv_at hl 1 rfl) ?_
        refine lv_iload_n hx hb dX6_resets_63 rfl (lv_at hl 2 rfl) ?_
        refine se_cp (va_runV (C := RX6) (As := [.int p1]) (rest := [.int p2, .ref (h 0)]) ⟨hx, hb, hml, hown, hts⟩ (c_M_size l D k h _ (se_u (se_u (se_u g 0 25 1) 0 26 ((if (F_M_has p1 8) = 0 then 12 else 4) : Int32)) 0 27 ((if (F_M_has p1 8) = 0 then 0 else p3) : Int32)) p1) (se_kV 1 hts q_code_X6_size qX6_m182 q_ini_StreamEndModel q_instanceMethod_X6_size q_sel_X6_size (by decide +kernel) ⟨Nat.le_of_ble_eq_true rfl, Nat.le_of_ble_eq_true rfl⟩ rfl rfl) ⟨se_blind se_ZN_ok, va_recv hK hP (ci := 6) (q0 := 0) rfl rfl, se_pre se_ZN_ok hP hK hD hZ⟩ rfl rfl hl.1 rfl (lv_room (Nat.le_of_ble_eq_true rfl)) dX6_resets_64 ⟨Nat.zero_le _, Nat.zero_le _⟩) ?_
        refine lv_iadd hx hb dX6_resets_67 ?_
        exact T _ (by rw [if_pos c7])
      · refine lv_iconst (v := 0) hx hb dX6_resets_57 (by decide) ?_
        refine lv_goto (tgt := 68) hx hb dX6_resets_58 (by decide) ?_
        exact T _ (by rw [if_neg c7])
    refine va_put (D := D) (ci := 6) (v := .int ((if (F_M_has p1 8) = 0 then (p2 + (F_M_size (se_u (se_u (se_u g 0 25 1) 0 26 ((if (F_M_has p1 8) = 0 then 12 else 4) : Int32)) 0 27 ((if (F_M_has p1 8) = 0 then 0 else p3) : Int32)) p1)) else 0) : Int32)) (ty := .int) (C := RX6) (T := TX6) (N := 50) hx hb hts (se_iw iwX6) tyX6 tyX6_ok nmX6 hown hK hP hD hS 0 rfl rfl 28 (by decide) (hts _ (List.mem_cons_of_mem _ qX6_f159)) (fun _ h9 => h9) rfl (by decide +kernel) rfl rfl (Nat.le_of_ble_eq_true rfl) dX6_resets_68 (fun H locs hP hD hS => ?_)
    replace hP : va_P D se_cl (se_WM k h (se_u (se_u (se_u (se_u g 0 25 1) 0 26 ((if (F_M_has p1 8) = 0 then 12 else 4) : Int32)) 0 27 ((if (F_M_has p1 8) = 0 then 0 else p3) : Int32)) 0 28 ((if (F_M_has p1 8) = 0 then (p2 + (F_M_size (se_u (se_u (se_u g 0 25 1) 0 26 ((if (F_M_has p1 8) = 0 then 12 else 4) : Int32)) 0 27 ((if (F_M_has p1 8) = 0 then 0 else p3) : Int32)) p1)) else 0) : Int32))) H := hP
    replace hD : va_D A (se_WM k h (se_u (se_u (se_u (se_u g 0 25 1) 0 26 ((if (F_M_has p1 8) = 0 then 12 else 4) : Int32)) 0 27 ((if (F_M_has p1 8) = 0 then 0 else p3) : Int32)) 0 28 ((if (F_M_has p1 8) = 0 then (p2 + (F_M_size (se_u (se_u (se_u g 0 25 1) 0 26 ((if (F_M_has p1 8) = 0 then 12 else 4) : Int32)) 0 27 ((if (F_M_has p1 8) = 0 then 0 else p3) : Int32)) p1)) else 0) : Int32))) := hD
    exact se_rv hx hb hr hlocks hK hP hD hS dX6_resets_71 (by rw [F_M_resets, if_pos c1])
  · exact se_rv hx hb hr hlocks hK hP hD hS dX6_resets_8 (by rw [F_M_resets, if_neg c1])
set_option maxRecDepth 100000 in
set_option maxHeartbeats 4000000 in
theorem c_M_fits (l : Launch) (D : va_G) (k : Nat → ClassId) (h : Nat → Nat) (sz : Nat) (g : se_G) (p1 : Int32) (p2 : Int32) : Met l yX6_fits (se_w_X6_fits) ({ frames := 2, cells := 0, slots := 0, locals := 42 }) (va_Pc [.ref (h 0), .int p1, .int p2] (se_Pre D se_cl [(k 1, .int), (k 2, .int), (k 3, .boolean), (k 4, .int), (k 5, .int), (k 6, .int)] (se_WM k h g) se_ZN sz)) (se_Qp (F_M_fits g p1 p2)) 0 0 (fun _ => False) := by
  refine se_metP (cc := cX6_fits) (maxL := 5) (ret := (some .boolean)) (by decide) rfl (Nat.le_of_ble_eq_true rfl) ?_
  intro p e s m below meth c ls A hx hb hr hts hown hlocks hml hA hP hK hD hS hZ hl
  replace hl : lv_has ls 5 [(0, .ref (h 0)), (1, .int p1), (2, .int p2)] := hl
  have hF : F_M_fits g p1 p2 = F_M_fits g p1 p2 := rfl
  refine lv_iload_n hx hb dX6_fits_0 rfl (lv_at hl 2 rfl) ?_
  refine lv_aload_n hx hb dX6_fits_1 rfl (lv_at hl 0 rfl) ?_
  refine va_get (D := D) (ci := 6) (v := .int (g 0 21)) (C := RX6) (T := TX6) (N := 50) hx hb hts (se_iw iwX6) hown hK hP 0 rfl rfl 21 (by decide) (hts _ (List.mem_cons_of_mem _ qX6_f69)) (fun _ h9 => h9) rfl dX6_fits_2 ?_
  refine lv_isub hx hb dX6_fits_5 ?_
  refine lv_istore_n (lv' := [(3, .int (p2 - (g 0 21))), (0, .ref (h 0)), (1, .int p1), (2, .int p2)]) hx hb dX6_fits_6 rfl hl (by decide) rfl (fun ls hl => ?_)
  refine lv_aload_n hx hb dX6_fits_7 rfl (lv_at hl 1 rfl) ?_
  refine lv_iload_n hx hb dX6_fits_8 rfl (lv_at hl 2 rfl) ?_
  refine se_cp (va_runV (C := RX6) (As := [.int p1]) (rest := []) ⟨hx, hb, hml, hown, hts⟩ (c_M_size l D k h _ g p1) (se_kV 1 hts q_code_X6_size qX6_m182 q_ini_StreamEndModel q_instanceMethod_X6_size q_sel_X6_size (by decide +kernel) ⟨Nat.le_of_ble_eq_true rfl, Nat.le_of_ble_eq_true rfl⟩ rfl rfl) ⟨se_blind se_ZN_ok, va_recv hK hP (ci := 6) (q0 := 0) rfl rfl, se_pre se_ZN_ok hP hK hD hZ⟩ rfl rfl hl.1 rfl (lv_room (Nat.le_of_ble_eq_true rfl)) dX6_fits_9 ⟨Nat.zero_le _, Nat.zero_le _⟩) ?_
  refine lv_istore (lv' := [(4, .int (F_M_size g p1)), (3, .int (p2 - (g 0 21))), (0, .ref (h 0)), (1, .int p1), (2, .int p2)]) hx hb dX6_fits_12 hl (by decide) rfl (fun ls hl => ?_)
  refine lv_iload hx hb dX6_fits_14 (lv_at hl 0 rfl) ?_
  refine lv_if_ne (tgt := 41) hx hb dX6_fits_16 (by decide) (fun c1 => ?_) (fun c1 => ?_)
  · refine lv_aload_n hx hb dX6_fits_41 rfl (lv_at hl 2 rfl) ?_
    refine se_cp (va_runV (C := RX6) (As := []) (rest := []) ⟨hx, hb, hml, hown, hts⟩ (c_M_room l D k h _ g) (se_kV 0 hts q_code_X6_room qX6_m139 q_ini_StreamEndModel q_instanceMethod_X6_room q_sel_X6_room (by decide +kernel) ⟨Nat.le_of_ble_eq_true rfl, Nat.le_of_ble_eq_true rfl⟩ rfl rfl) ⟨se_blind se_ZN_ok, va_recv hK hP (ci := 6) (q0 := 0) rfl rfl, se_pre se_ZN_ok hP hK hD hZ⟩ rfl rfl hl.1 rfl (lv_room (Nat.le_of_ble_eq_true rfl)) dX6_fits_42 ⟨Nat.zero_le _, Nat.zero_le _⟩) ?_
    refine lv_if_le (tgt := 67) hx hb dX6_fits_45 (by decide) (fun c2 => ?_) (fun c2 => ?_)
    · refine lv_iconst (v := 0) hx hb dX6_fits_67 (by decide) ?_
      exact se_rpz hx hb hr rfl hlocks dX6_fits_68 (by rw [F_M_fits, if_neg c1, if_pos c2])
    · refine lv_iload_n hx hb dX6_fits_48 rfl (lv_at hl 1 rfl) ?_
      refine lv_aload_n hx hb dX6_fits_49 rfl (lv_at hl 2 rfl) ?_
      refine se_cp (va_runV (C := RX6) (As := []) (rest := [.int (p2 - (g 0 21))]) ⟨hx, hb, hml, hown, hts⟩ (c_M_room l D k h _ g) (se_kV 0 hts q_code_X6_room qX6_m139 q_ini_StreamEndModel q_instanceMethod_X6_room q_sel_X6_room (by decide +kernel) ⟨Nat.le_of_ble_eq_true rfl, Nat.le_of_ble_eq_true rfl⟩ rfl rfl) ⟨se_blind se_ZN_ok, va_recv hK hP (ci := 6) (q0 := 0) rfl rfl, se_pre se_ZN_ok hP hK hD hZ⟩ rfl rfl hl.1 rfl (lv_room (Nat.le_of_ble_eq_true rfl)) dX6_fits_50 ⟨Nat.zero_le _, Nat.zero_le _⟩) ?_
      refine lv_icmp_ge (tgt := 67) hx hb dX6_fits_53 (by decide) (fun c3 => ?_) (fun c3 => ?_)
      · refine lv_iconst (v := 0) hx hb dX6_fits_67 (by decide) ?_
        exact se_rpz hx hb hr rfl hlocks dX6_fits_68 (by rw [F_M_fits, if_neg c1, if_neg c2, if_pos c3])
      · refine lv_iload_n hx hb dX6_fits_56 rfl (lv_at hl 1 rfl) ?_
        refine lv_iload hx hb dX6_fits_57 (lv_at hl 0 rfl) ?_
        refine lv_iadd hx hb dX6_fits_59 ?_
        refine lv_if_le (tgt := 67) hx hb dX6_fits_60 (by decide) (fun c4 => ?_) (fun c4 => ?_)
        · refine lv_iconst (v := 0) hx hb dX6_fits_67 (by decide) ?_
          exact se_rpz hx hb hr rfl hlocks dX6_fits_68 (by rw [F_M_fits, if_neg c1, if_neg c2, if_neg c3, if_pos c4])
        · refine lv_iconst (v := 1) hx hb dX6_fits_63 (by decide) ?_
          refine lv_goto (tgt := 68) hx hb dX6_fits_64 (by decide) ?_
          exact se_rpz hx hb hr rfl hlocks dX6_fits_68 (by rw [F_M_fits, if_neg c1, if_neg c2, if_neg c3, if_neg c4])
  · refine lv_iload_n hx hb dX6_fits_19 rfl (lv_at hl 1 rfl) ?_
    refine lv_if_eq (tgt := 35) hx hb dX6_fits_20 (by decide) (fun c5 => ?_) (fun c5 => ?_)
    · refine lv_iconst (v := 1) hx hb dX6_fits_35 (by decide) ?_
      refine lv_goto (tgt := 40) hx hb dX6_fits_36 (by decide) ?_
      exact se_rpz hx hb hr rfl hlocks dX6_fits_40 (by rw [F_M_fits, if_pos c1, if_pos c5])
    · refine lv_iload_n hx hb dX6_fits_23 rfl (lv_at hl 1 rfl) ?_
      refine lv_if_le (tgt := 39) hx hb dX6_fits_24 (by decide) (fun c6 => ?_) (fun c6 => ?_)
      · refine lv_iconst (v := 0) hx hb dX6_fits_39 (by decide) ?_
        exact se_rpz hx hb hr rfl hlocks dX6_fits_40 (by rw [F_M_fits, if_pos c1, if_neg c5, if_pos c6])
      · refine lv_iload_n hx hb dX6_fits_27 rfl (lv_at hl 1 rfl) ?_
        refine lv_aload_n hx hb dX6_fits_28 rfl (lv_at hl 2 rfl) ?_
        refine se_cp (va_runV (C := RX6) (As := []) (rest := [.int (p2 - (g 0 21))]) ⟨hx, hb, hml, hown, hts⟩ (c_M_room l D k h _ g) (se_kV 0 hts q_code_X6_room qX6_m139 q_ini_StreamEndModel q_instanceMethod_X6_room q_sel_X6_room (by decide +kernel) ⟨Nat.le_of_ble_eq_true rfl, Nat.le_of_ble_eq_true rfl⟩ rfl rfl) ⟨se_blind se_ZN_ok, va_recv hK hP (ci := 6) (q0 := 0) rfl rfl, se_pre se_ZN_ok hP hK hD hZ⟩ rfl rfl hl.1 rfl (lv_room (Nat.le_of_ble_eq_true rfl)) dX6_fits_29 ⟨Nat.zero_le _, Nat.zero_le _⟩) ?_
        refine lv_icmp_ge (tgt := 39) hx hb dX6_fits_32 (by decide) (fun c7 => ?_) (fun c7 => ?_)
        · refine lv_iconst (v := 0) hx hb dX6_fits_39 (by decide) ?_
          exact se_rpz hx hb hr rfl hlocks dX6_fits_40 (by rw [F_M_fits, if_pos c1, if_neg c5, if_neg c6, if_pos c7])
        · refine lv_iconst (v := 1) hx hb dX6_fits_35 (by decide) ?_
          refine lv_goto (tgt := 40) hx hb dX6_fits_36 (by decide) ?_
          exact se_rpz hx hb hr rfl hlocks dX6_fits_40 (by rw [F_M_fits, if_pos c1, if_neg c5, if_neg c6, if_neg c7])
set_option maxRecDepth 100000 in
set_option maxHeartbeats 4000000 in
theorem c_M_tell (l : Launch) (D : va_G) (k : Nat → ClassId) (h : Nat → Nat) (sz : Nat) (g : se_G) (p1 : Int32) (p2 : Int32) (p3 : Int32) : Met l yX6_tell (se_w_X6_tell) ({ frames := 0, cells := 0, slots := 0, locals := 0 }) (va_Pc [.ref (h 0), .int p1, .int p2, .int p3] (se_Pre D se_cl [(k 1, .int), (k 2, .int), (k 3, .boolean), (k 4, .int), (k 5, .int), (k 6, .int)] (se_WM k h g) se_ZN sz)) (se_Qv D se_cl [(k 1, .int), (k 2, .int), (k 3, .boolean), (k 4, .int), (k 5, .int), (k 6, .int)] (se_WM k h) (F_M_tell g p1 p2 p3) (va_A (se_WM k h g) sz)) 0 0 (va_A (se_WM k h g) sz) := by
  refine se_met (Qc := se_Qv D se_cl [(k 1, .int), (k 2, .int), (k 3, .boolean), (k 4, .int), (k 5, .int), (k 6, .int)] (se_WM k h) (F_M_tell g p1 p2 p3)) (cc := cX6_tell) (maxL := 6) (ret := none) (by decide) rfl (Nat.le_of_ble_eq_true rfl) ?_
  intro p e s m below meth c ls A hx hb hr hts hown hlocks hml hA hP hK hD hS hZ hl
  replace hl : lv_has ls 6 [(0, .ref (h 0)), (1, .int p1), (2, .int p2), (3, .int p3)] := hl
  have J37 : ∀ (gj37 : se_G) (v1_37 : Int32) (v2_37 : Int32) (v3_37 : Int32) (H : Heap) (locs : List Loc) (ls : Array Slot), F_M_tell_j37 gj37 v1_37 v2_37 v3_37 = F_M_tell g p1 p2 p3 → va_P D se_cl (se_WM k h gj37) H → va_D A (se_WM k h gj37) → va_S A s.heap H locs → lv_has ls 6 [(0, .ref (h 0)), (1, .int v1_37), (2, .int v2_37), (3, .int v3_37)] → W p l e ({ frames := 0, cells := 0, slots := 0, locals := 0 }) s m [.ref (h 0), .int p1, .int p2, .int p3].toArray below meth c H locs 0 0 (MQ below (se_Qv D se_cl [(k 1, .int), (k 2, .int), (k 3, .boolean), (k 4, .int), (k 5, .int), (k 6, .int)] (se_WM k h) (F_M_tell g p1 p2 p3) A) [.ref (h 0), .int p1, .int p2, .int p3].toArray s 0 0 A) (F0 m 37 ls []) := by
    intro gj37 v1_37 v2_37 v3_37 H locs ls hF hP hD hS hl
    refine lv_aload_n hx hb dX6_tell_37 rfl (lv_at hl 0 rfl) ?_
    refine va_get (D := D) (ci := 6) (v := .int (gj37 0 15)) (C := RX6) (T := TX6) (N := 50) hx hb hts (se_iw iwX6) hown hK hP 0 rfl rfl 15 (by decide) (hts _ (List.mem_cons_of_mem _ qX6_f63)) (fun _ h9 => h9) rfl dX6_tell_38 ?_
    refine se_join (v := ((if (gj37 0 15) = 0 then ((if v3_37 = 0 then 0 else 1) : Int32) else 0) : Int32)) (pcJ := 53) (restJ := []) (ls := ls) (fun T => ?_) ?_
    · refine lv_if_ne (tgt := 52) hx hb dX6_tell_41 (by decide) (fun c5 => ?_) (fun c5 => ?_)
      · refine lv_iconst (v := 0) hx hb dX6_tell_52 (by decide) ?_
        exact T _ (by rw [if_neg c5])
      · refine lv_iload_n hx hb dX6_tell_44 rfl (lv_at hl 3 rfl) ?_
        refine lv_if_eq (tgt := 52) hx hb dX6_tell_45 (by decide) (fun c6 => ?_) (fun c6 => ?_)
        · refine lv_iconst (v := 0) hx hb dX6_tell_52 (by decide) ?_
          exact T _ (by rw [if_pos c5, if_pos c6])
        · refine lv_iconst (v := 1) hx hb dX6_tell_48 (by decide) ?_
          refine lv_goto (tgt := 53) hx hb dX6_tell_49 (by decide) ?_
          exact T _ (by rw [if_pos c5, if_neg c6])
    refine lv_istore (lv' := [(5, .int ((if (gj37 0 15) = 0 then ((if v3_37 = 0 then 0 else 1) : Int32) else 0) : Int32)), (0, .ref (h 0)), (1, .int v1_37), (2, .int v2_37), (3, .int v3_37)]) hx hb dX6_tell_53 hl (by decide) rfl (fun ls hl => ?_)
    refine lv_aload_n hx hb dX6_tell_55 rfl (lv_at hl 1 rfl) ?_
    refine lv_iload_n hx hb dX6_tell_56 rfl (lv_at hl 4 rfl) ?_
    refine va_put (D := D) (ci := 6) (v := .int v3_37) (ty := .int) (C := RX6) (T := TX6) (N := 50) hx hb hts (se_iw iwX6) tyX6 tyX6_ok nmX6 hown hK hP hD hS 0 rfl rfl 15 (by decide) (hts _ (List.mem_cons_of_mem _ qX6_f63)) (fun _ h9 => h9) rfl (by decide +kernel) rfl rfl (Nat.le_of_ble_eq_true rfl) dX6_tell_57 (fun H locs hP hD hS => ?_)
    replace hP : va_P D se_cl (se_WM k h (se_u gj37 0 15 v3_37)) H := hP
    replace hD : va_D A (se_WM k h (se_u gj37 0 15 v3_37)) := hD
    refine lv_aload_n hx hb dX6_tell_60 rfl (lv_at hl 1 rfl) ?_
    refine lv_iload_n hx hb dX6_tell_61 rfl (lv_at hl 2 rfl) ?_
    refine va_put (D := D) (ci := 6) (v := .int v1_37) (ty := .int) (C := RX6) (T := TX6) (N := 50) hx hb hts (se_iw iwX6) tyX6 tyX6_ok nmX6 hown hK hP hD hS 0 rfl rfl 16 (by decide) (hts _ (List.mem_cons_of_mem _ qX6_f186)) (fun _ h9 => h9) rfl (by decide +kernel) rfl rfl (Nat.le_of_ble_eq_true rfl) dX6_tell_62 (fun H locs hP hD hS => ?_)
    replace hP : va_P D se_cl (se_WM k h (se_u (se_u gj37 0 15 v3_37) 0 16 v1_37)) H := hP
    replace hD : va_D A (se_WM k h (se_u (se_u gj37 0 15 v3_37) 0 16 v1_37)) := hD
    refine lv_aload_n hx hb dX6_tell_65 rfl (lv_at hl 1 rfl) ?_
    refine lv_iload_n hx hb dX6_tell_66 rfl (lv_at hl 3 rfl) ?_
    refine va_put (D := D) (ci := 6) (v := .int v2_37) (ty := .int) (C := RX6) (T := TX6) (N := 50) hx hb hts (se_iw iwX6) tyX6 tyX6_ok nmX6 hown hK hP hD hS 0 rfl rfl 17 (by decide) (hts _ (List.mem_cons_of_mem _ qX6_f189)) (fun _ h9 => h9) rfl (by decide +kernel) rfl rfl (Nat.le_of_ble_eq_true rfl) dX6_tell_67 (fun H locs hP hD hS => ?_)
    replace hP : va_P D se_cl (se_WM k h (se_u (se_u (se_u gj37 0 15 v3_37) 0 16 v1_37) 0 17 v2_37)) H := hP
    replace hD : va_D A (se_WM k h (se_u (se_u (se_u gj37 0 15 v3_37) 0 16 v1_37) 0 17 v2_37)) := hD
    refine lv_iload hx hb dX6_tell_70 (lv_at hl 0 rfl) ?_
    refine lv_if_eq (tgt := 111) hx hb dX6_tell_72 (by decide) (fun c7 => ?_) (fun c7 => ?_)
    · refine lv_iload_n hx hb dX6_tell_111 rfl (lv_at hl 4 rfl) ?_
      refine lv_if_ne (tgt := 120) hx hb dX6_tell_112 (by decide) (fun c8 => ?_) (fun c8 => ?_)
      · exact se_rv hx hb hr hlocks hK hP hD hS dX6_tell_120 (by rw [← hF, F_M_tell_j37, if_pos c7, if_neg c8])
      · refine lv_aload_n hx hb dX6_tell_115 rfl (lv_at hl 1 rfl) ?_
        refine lv_iconst (v := 0) hx hb dX6_tell_116 (by decide) ?_
        refine va_put (D := D) (ci := 6) (v := .int 0) (ty := .int) (C := RX6) (T := TX6) (N := 50) hx hb hts (se_iw iwX6) tyX6 tyX6_ok nmX6 hown hK hP hD hS 0 rfl rfl 36 (by decide) (hts _ (List.mem_cons_of_mem _ qX6_f88)) (fun _ h9 => h9) rfl (by decide +kernel) rfl rfl (Nat.le_of_ble_eq_true rfl) dX6_tell_117 (fun H locs hP hD hS => ?_)
        replace hP : va_P D se_cl (se_WM k h (se_u (se_u (se_u (se_u gj37 0 15 v3_37) 0 16 v1_37) 0 17 v2_37) 0 36 0)) H := hP
        replace hD : va_D A (se_WM k h (se_u (se_u (se_u (se_u gj37 0 15 v3_37) 0 16 v1_37) 0 17 v2_37) 0 36 0)) := hD
        exact se_rv hx hb hr hlocks hK hP hD hS dX6_tell_120 (by rw [← hF, F_M_tell_j37, if_pos c7, if_pos c8])
    · refine lv_aload_n hx hb dX6_tell_75 rfl (lv_at hl 1 rfl) ?_
      refine lv_iconst (v := 0) hx hb dX6_tell_76 (by decide) ?_
      refine va_put (D := D) (ci := 6) (v := .int 0) (ty := .int) (C := RX6) (T := TX6) (N := 50) hx hb hts (se_iw iwX6) tyX6 tyX6_ok nmX6 hown hK hP hD hS 0 rfl rfl 36 (by decide) (hts _ (List.mem_cons_of_mem _ qX6_f88)) (fun _ h9 => h9) rfl (by decide +kernel) rfl rfl (Nat.le_of_ble_eq_true rfl) dX6_tell_77 (fun H locs hP hD hS => ?_)
      replace hP : va_P D se_cl (se_WM k h (se_u (se_u (se_u (se_u gj37 0 15 v3_37) 0 16 v1_37) 0 17 v2_37) 0 36 0)) H := hP
      replace hD : va_D A (se_WM k h (se_u (se_u (se_u (se_u gj37 0 15 v3_37) 0 16 v1_37) 0 17 v2_37) 0 36 0)) := hD
      refine lv_aload_n hx hb dX6_tell_80 rfl (lv_at hl 1 rfl) ?_
      refine lv_iconst (v := 0) hx hb dX6_tell_81 (by decide) ?_
      refine va_put (D := D) (ci := 6) (v := .int 0) (ty := .boolean) (C := RX6) (T := TX6) (N := 50) hx hb hts (se_iw iwX6) tyX6 tyX6_ok nmX6 hown hK hP hD hS 0 rfl rfl 32 (by decide) (hts _ (List.mem_cons_of_mem _ qX6_f109)) (fun _ h9 => h9) rfl (by decide +kernel) rfl rfl (Nat.le_of_ble_eq_true rfl) dX6_tell_82 (fun H locs hP hD hS => ?_)
      replace hP : va_P D se_cl (se_WM k h (se_u (se_u (se_u (se_u (se_u gj37 0 15 v3_37) 0 16 v1_37) 0 17 v2_37) 0 36 0) 0 32 0)) H := hP
      replace hD : va_D A (se_WM k h (se_u (se_u (se_u (se_u (se_u gj37 0 15 v3_37) 0 16 v1_37) 0 17 v2_37) 0 36 0) 0 32 0)) := hD
      refine lv_aload_n hx hb dX6_tell_85 rfl (lv_at hl 1 rfl) ?_
      refine lv_aload_n hx hb dX6_tell_86 rfl (lv_at hl 1 rfl) ?_
      refine va_get (D := D) (ci := 6) (v := .int (gj37 0 9)) (C := RX6) (T := TX6) (N := 50) hx hb hts (se_iw iwX6) hown hK hP 0 rfl rfl 9 (by decide) (hts _ (List.mem_cons_of_mem _ qX6_f51)) (fun _ h9 => h9) rfl dX6_tell_87 ?_
      refine lv_aload_n hx hb dX6_tell_90 rfl (lv_at hl 1 rfl) ?_
      refine va_get (D := D) (ci := 6) (v := .int (gj37 0 10)) (C := RX6) (T := TX6) (N := 50) hx hb hts (se_iw iwX6) hown hK hP 0 rfl rfl 10 (by decide) (hts _ (List.mem_cons_of_mem _ qX6_f54)) (fun _ h9 => h9) rfl dX6_tell_91 ?_
      refine se_join (v := ((if (gj37 0 9) = (gj37 0 10) then (-1) else (gj37 0 34)) : Int32)) (pcJ := 105) (restJ := [.ref (h 0)]) (ls := ls) (fun T => ?_) ?_
      · refine lv_icmp_eq (tgt := 104) hx hb dX6_tell_94 (by decide) (fun c10 => ?_) (fun c10 => ?_)
        · refine lv_iconst (v := (-1)) hx hb dX6_tell_104 (by decide) ?_
          exact T _ (by rw [if_pos c10])
        · refine lv_aload_n hx hb dX6_tell_97 rfl (lv_at hl 1 rfl) ?_
          refine va_get (D := D) (ci := 6) (v := .int (gj37 0 34)) (C := RX6) (T := TX6) (N := 50) hx hb hts (se_iw iwX6) hown hK hP 0 rfl rfl 34 (by decide) (hts _ (List.mem_cons_of_mem _ qX6_f20)) (fun _ h9 => h9) rfl dX6_tell_98 ?_
          refine lv_goto (tgt := 105) hx hb dX6_tell_101 (by decide) ?_
          exact T _ (by rw [if_neg c10])
      refine va_put (D := D) (ci := 6) (v := .int ((if (gj37 0 9) = (gj37 0 10) then (-1) else (gj37 0 34)) : Int32)) (ty := .int) (C := RX6) (T := TX6) (N := 50) hx hb hts (se_iw iwX6) tyX6 tyX6_ok nmX6 hown hK hP hD hS 0 rfl rfl 34 (by decide) (hts _ (List.mem_cons_of_mem _ qX6_f20)) (fun _ h9 => h9) rfl (by decide +kernel) rfl rfl (Nat.le_of_ble_eq_true rfl) dX6_tell_105 (fun H locs hP hD hS => ?_)
      replace hP : va_P D se_cl (se_WM k h (se_u (se_u (se_u (se_u (se_u (se_u gj37 0 15 v3_37) 0 16 v1_37) 0 17 v2_37) 0 36 0) 0 32 0) 0 34 ((if (gj37 0 9) = (gj37 0 10) then (-1) else (gj37 0 34)) : Int32))) H := hP
      replace hD : va_D A (se_WM k h (se_u (se_u (se_u (se_u (se_u (se_u gj37 0 15 v3_37) 0 16 v1_37) 0 17 v2_37) 0 36 0) 0 32 0) 0 34 ((if (gj37 0 9) = (gj37 0 10) then (-1) else (gj37 0 34)) : Int32))) := hD
      refine lv_goto (tgt := 120) hx hb dX6_tell_108 (by decide) ?_
      exact se_rv hx hb hr hlocks hK hP hD hS dX6_tell_120 (by rw [← hF, F_M_tell_j37, if_neg c7])
  have hF : F_M_tell g p1 p2 p3 = F_M_tell g p1 p2 p3 := rfl
  refine lv_iload_n hx hb dX6_tell_0 rfl (lv_at hl 1 rfl) ?_
  refine lv_aload_n hx hb dX6_tell_1 rfl (lv_at hl 0 rfl) ?_
  refine va_get (D := D) (ci := 6) (v := .int (g 0 16)) (C := RX6) (T := TX6) (N := 50) hx hb hts (se_iw iwX6) hown hK hP 0 rfl rfl 16 (by decide) (hts _ (List.mem_cons_of_mem _ qX6_f186)) (fun _ h9 => h9) rfl dX6_tell_2 ?_
  refine lv_isub hx hb dX6_tell_5 ?_
  refine lv_istore (lv' := [(4, .int (p1 - (g 0 16))), (0, .ref (h 0)), (1, .int p1), (2, .int p2), (3, .int p3)]) hx hb dX6_tell_6 hl (by decide) rfl (fun ls hl => ?_)
  refine lv_iload_n hx hb dX6_tell_8 rfl (lv_at hl 3 rfl) ?_
  refine lv_aload_n hx hb dX6_tell_9 rfl (lv_at hl 1 rfl) ?_
  refine va_get (D := D) (ci := 6) (v := .int (g 0 9)) (C := RX6) (T := TX6) (N := 50) hx hb hts (se_iw iwX6) hown hK hP 0 rfl rfl 9 (by decide) (hts _ (List.mem_cons_of_mem _ qX6_f51)) (fun _ h9 => h9) rfl dX6_tell_10 ?_
  refine lv_isub hx hb dX6_tell_13 ?_
  refine lv_if_lt (tgt := 36) hx hb dX6_tell_14 (by decide) (fun c1 => ?_) (fun c1 => ?_)
  · exact se_rv hx hb hr hlocks hK hP hD hS dX6_tell_36 (by rw [F_M_tell, if_pos c1])
  · refine lv_iload hx hb dX6_tell_17 (lv_at hl 0 rfl) ?_
    refine lv_if_lt (tgt := 36) hx hb dX6_tell_19 (by decide) (fun c2 => ?_) (fun c2 => ?_)
    · exact se_rv hx hb hr hlocks hK hP hD hS dX6_tell_36 (by rw [F_M_tell, if_neg c1, if_pos c2])
    · refine lv_iload hx hb dX6_tell_22 (lv_at hl 0 rfl) ?_
      refine lv_if_ne (tgt := 37) hx hb dX6_tell_24 (by decide) (fun c3 => ?_) (fun c3 => ?_)
      · exact J37 g p1 p2 p3 _ _ ls (by rw [F_M_tell, if_neg c1, if_neg c2, if_neg c3]) hP hD hS (lv_sub hl [1, 2, 3, 4] rfl)
      · refine lv_iload_n hx hb dX6_tell_27 rfl (lv_at hl 3 rfl) ?_
        refine lv_aload_n hx hb dX6_tell_28 rfl (lv_at hl 1 rfl) ?_
        refine va_get (D := D) (ci := 6) (v := .int (g 0 17)) (C := RX6) (T := TX6) (N := 50) hx hb hts (se_iw iwX6) hown hK hP 0 rfl rfl 17 (by decide) (hts _ (List.mem_cons_of_mem _ qX6_f189)) (fun _ h9 => h9) rfl dX6_tell_29 ?_
        refine lv_isub hx hb dX6_tell_32 ?_
        refine lv_if_ge (tgt := 37) hx hb dX6_tell_33 (by decide) (fun c11 => ?_) (fun c11 => ?_)
        · exact J37 g p1 p2 p3 _ _ ls (by rw [F_M_tell, if_neg c1, if_neg c2, if_pos c3, if_pos c11]) hP hD hS (lv_sub hl [1, 2, 3, 4] rfl)
        · exact se_rv hx hb hr hlocks hK hP hD hS dX6_tell_36 (by rw [F_M_tell, if_neg c1, if_neg c2, if_pos c3, if_neg c11])
