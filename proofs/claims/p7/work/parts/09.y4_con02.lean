/-! written by program (wip/gen) -/
set_option maxRecDepth 100000 in
set_option maxHeartbeats 4000000 in
theorem c_M_watch (l : Launch) (D : va_G) (k : Nat → ClassId) (h : Nat → Nat) (sz : Nat) (g : se_G)  : Met l yX6_watch (se_w_X6_watch) ({ frames := 1, cells := 0, slots := 0, locals := 20 }) (va_Pc [.ref (h 0)] (se_Pre D se_cl [(k 1, .int), (k 2, .int), (k 3, .boolean), (k 4, .int), (k 5, .int), (k 6, .int)] (se_WM k h g) se_ZN sz)) (se_Qv D se_cl [(k 1, .int), (k 2, .int), (k 3, .boolean), (k 4, .int), (k 5, .int), (k 6, .int)] (se_WM k h) (F_M_watch g) (va_A (se_WM k h g) sz)) 0 0 (va_A (se_WM k h g) sz) := by
  refine se_met (Qc := se_Qv D se_cl [(k 1, .int), (k 2, .int), (k 3, .boolean), (k 4, .int), (k 5, .int), (k 6, .int)] (se_WM k h) (F_M_watch g)) (cc := cX6_watch) (maxL := 2) (ret := none) (by decide) rfl (Nat.le_of_ble_eq_true rfl) ?_
  intro p e s m below meth c ls A hx hb hr hts hown hlocks hml hA hP hK hD hS hZ hl
  replace hl : lv_has ls 2 [(0, .ref (h 0))] := hl
  have hF : F_M_watch g = F_M_watch g := rfl
  refine lv_aload_n hx hb dX6_watch_0 rfl (lv_at hl 0 rfl) ?_
  refine se_cp (va_runV (C := RX6) (As := []) (rest := []) ⟨hx, hb, hml, hown, hts⟩ (c_M_sends l D k h _ g) (se_kV 0 hts q_code_X6_sends qX6_m162 q_ini_StreamEndModel q_instanceMethod_X6_sends q_sel_X6_sends (by decide +kernel) ⟨Nat.le_of_ble_eq_true rfl, Nat.le_of_ble_eq_true rfl⟩ rfl rfl) ⟨se_blind se_ZN_ok, va_recv hK hP (ci := 6) (q0 := 0) rfl rfl, se_pre se_ZN_ok hP hK hD hZ⟩ rfl rfl hl.1 rfl (lv_room (Nat.le_of_ble_eq_true rfl)) dX6_watch_1 ⟨Nat.zero_le _, Nat.zero_le _⟩) ?_
  refine se_join (v := ((if (F_M_sends g) = 0 then 0 else ((if (g 0 9) = (g 0 10) then ((if (g 0 15) = 0 then ((if 0 < (F_M_unsent g) then 1 else ((if (F_M_owesLast g) = 0 then 0 else 1) : Int32)) : Int32) else 0) : Int32) else 0) : Int32)) : Int32)) (pcJ := 44) (restJ := []) (ls := ls) (fun T => ?_) ?_
  · refine lv_if_eq (tgt := 43) hx hb dX6_watch_4 (by decide) (fun c2 => ?_) (fun c2 => ?_)
    · refine lv_iconst (v := 0) hx hb dX6_watch_43 (by decide) ?_
      exact T _ (mo_ifp c2 rfl)
    · refine lv_aload_n hx hb dX6_watch_7 rfl (lv_at hl 0 rfl) ?_
      refine va_get (D := D) (ci := 6) (v := .int (g 0 9)) (C := RX6) (T := TX6) (N := 50) hx hb hts (se_iw iwX6) hown hK hP 0 rfl rfl 9 (by decide) (hts _ (List.mem_cons_of_mem _ qX6_f51)) (fun _ h9 => h9) rfl dX6_watch_8 ?_
      refine lv_aload_n hx hb dX6_watch_11 rfl (lv_at hl 0 rfl) ?_
      refine va_get (D := D) (ci := 6) (v := .int (g 0 10)) (C := RX6) (T := TX6) (N := 50) hx hb hts (se_iw iwX6) hown hK hP 0 rfl rfl 10 (by decide) (hts _ (List.mem_cons_of_mem _ qX6_f54)) (fun _ h9 => h9) rfl dX6_watch_12 ?_
      refine lv_icmp_ne (tgt := 43) hx hb dX6_watch_15 (by decide) (fun c3 => ?_) (fun c3 => ?_)
      · refine lv_iconst (v := 0) hx hb dX6_watch_43 (by decide) ?_
        exact T _ (mo_ifn c2 (mo_ifn c3 rfl))
      · refine lv_aload_n hx hb dX6_watch_18 rfl (lv_at hl 0 rfl) ?_
        refine va_get (D := D) (ci := 6) (v := .int (g 0 15)) (C := RX6) (T := TX6) (N := 50) hx hb hts (se_iw iwX6) hown hK hP 0 rfl rfl 15 (by decide) (hts _ (List.mem_cons_of_mem _ qX6_f63)) (fun _ h9 => h9) rfl dX6_watch_19 ?_
        refine lv_if_ne (tgt := 43) hx hb dX6_watch_22 (by decide) (fun c4 => ?_) (fun c4 => ?_)
        · refine lv_iconst (v := 0) hx hb dX6_watch_43 (by decide) ?_
          exact T _ (mo_ifn c2 (mo_ifp c3 (mo_ifn c4 rfl)))
        · refine lv_aload_n hx hb dX6_watch_25 rfl (lv_at hl 0 rfl) ?_
          refine se_cp (va_runV (C := RX6) (As := []) (rest := []) ⟨hx, hb, hml, hown, hts⟩ (c_M_unsent l D k h _ g) (se_kV 0 hts q_code_X6_unsent qX6_m165 q_ini_StreamEndModel q_instanceMethod_X6_unsent q_sel_X6_unsent (by decide +kernel) ⟨Nat.le_of_ble_eq_true rfl, Nat.le_of_ble_eq_true rfl⟩ rfl rfl) ⟨se_blind se_ZN_ok, va_recv hK hP (ci := 6) (q0 := 0) rfl rfl, se_pre se_ZN_ok hP hK hD hZ⟩ rfl rfl hl.1 rfl (lv_room (Nat.le_of_ble_eq_true rfl)) dX6_watch_26 ⟨Nat.zero_le _, Nat.zero_le _⟩) ?_
          refine lv_if_gt (tgt := 39) hx hb dX6_watch_29 (by decide) (fun c5 => ?_) (fun c5 => ?_)
          · refine lv_iconst (v := 1) hx hb dX6_watch_39 (by decide) ?_
            refine lv_goto (tgt := 44) hx hb dX6_watch_40 (by decide) ?_
            exact T _ (mo_ifn c2 (mo_ifp c3 (mo_ifp c4 (mo_ifp c5 rfl))))
          · refine lv_aload_n hx hb dX6_watch_32 rfl (lv_at hl 0 rfl) ?_
            refine se_cp (va_runV (C := RX6) (As := []) (rest := []) ⟨hx, hb, hml, hown, hts⟩ (c_M_owesLast l D k h _ g) (se_kV 0 hts q_code_X6_owesLast qX6_m168 q_ini_StreamEndModel q_instanceMethod_X6_owesLast q_sel_X6_owesLast (by decide +kernel) ⟨Nat.le_of_ble_eq_true rfl, Nat.le_of_ble_eq_true rfl⟩ rfl rfl) ⟨se_blind se_ZN_ok, va_recv hK hP (ci := 6) (q0 := 0) rfl rfl, se_pre se_ZN_ok hP hK hD hZ⟩ rfl rfl hl.1 rfl (lv_room (Nat.le_of_ble_eq_true rfl)) dX6_watch_33 ⟨Nat.zero_le _, Nat.zero_le _⟩) ?_
            refine lv_if_eq (tgt := 43) hx hb dX6_watch_36 (by decide) (fun c6 => ?_) (fun c6 => ?_)
            · refine lv_iconst (v := 0) hx hb dX6_watch_43 (by decide) ?_
              exact T _ (mo_ifn c2 (mo_ifp c3 (mo_ifp c4 (mo_ifn c5 (mo_ifp c6 rfl)))))
            · refine lv_iconst (v := 1) hx hb dX6_watch_39 (by decide) ?_
              refine lv_goto (tgt := 44) hx hb dX6_watch_40 (by decide) ?_
              exact T _ (mo_ifn c2 (mo_ifp c3 (mo_ifp c4 (mo_ifn c5 (mo_ifn c6 rfl)))))
  refine lv_istore_n (lv' := [(1, .int ((if (F_M_sends g) = 0 then 0 else ((if (g 0 9) = (g 0 10) then ((if (g 0 15) = 0 then ((if 0 < (F_M_unsent g) then 1 else ((if (F_M_owesLast g) = 0 then 0 else 1) : Int32)) : Int32) else 0) : Int32) else 0) : Int32)) : Int32)), (0, .ref (h 0))]) hx hb dX6_watch_44 rfl hl (by decide) rfl (fun ls hl => ?_)
  refine lv_iload_n hx hb dX6_watch_45 rfl (lv_at hl 0 rfl) ?_
  refine lv_if_eq (tgt := 69) hx hb dX6_watch_46 (by decide) (fun c7 => ?_) (fun c7 => ?_)
  · exact se_rv hx hb hr hlocks hK hP hD hS dX6_watch_69 (by rw [F_M_watch, if_pos (α := se_G) c7])
  · refine lv_aload_n hx hb dX6_watch_49 rfl (lv_at hl 1 rfl) ?_
    refine va_get (D := D) (ci := 6) (v := .int (g 0 34)) (C := RX6) (T := TX6) (N := 50) hx hb hts (se_iw iwX6) hown hK hP 0 rfl rfl 34 (by decide) (hts _ (List.mem_cons_of_mem _ qX6_f20)) (fun _ h9 => h9) rfl dX6_watch_50 ?_
    refine lv_if_ge (tgt := 69) hx hb dX6_watch_53 (by decide) (fun c8 => ?_) (fun c8 => ?_)
    · exact se_rv hx hb hr hlocks hK hP hD hS dX6_watch_69 (by rw [F_M_watch, if_neg (α := se_G) c7, if_pos (α := se_G) c8])
    · refine lv_aload_n hx hb dX6_watch_56 rfl (lv_at hl 1 rfl) ?_
      refine lv_aload_n hx hb dX6_watch_57 rfl (lv_at hl 1 rfl) ?_
      refine va_get (D := D) (ci := 6) (v := .int (g 0 3)) (C := RX6) (T := TX6) (N := 50) hx hb hts (se_iw iwX6) hown hK hP 0 rfl rfl 3 (by decide) (hts _ (List.mem_cons_of_mem _ qX6_f121)) (fun _ h9 => h9) rfl dX6_watch_58 ?_
      refine lv_aload_n hx hb dX6_watch_61 rfl (lv_at hl 1 rfl) ?_
      refine va_get (D := D) (ci := 6) (v := .int (g 0 35)) (C := RX6) (T := TX6) (N := 50) hx hb hts (se_iw iwX6) hown hK hP 0 rfl rfl 35 (by decide) (hts _ (List.mem_cons_of_mem _ qX6_f24)) (fun _ h9 => h9) rfl dX6_watch_62 ?_
      refine lv_iadd hx hb dX6_watch_65 ?_
      refine va_put (D := D) (ci := 6) (v := .int ((g 0 3) + (g 0 35))) (ty := .int) (C := RX6) (T := TX6) (N := 50) hx hb hts (se_iw iwX6) tyX6 tyX6_ok nmX6 hown hK hP hD hS 0 rfl rfl 34 (by decide) (hts _ (List.mem_cons_of_mem _ qX6_f20)) (fun _ h9 => h9) rfl (by decide +kernel) rfl rfl (Nat.le_of_ble_eq_true rfl) dX6_watch_66 (fun H locs hP hD hS => ?_)
      replace hP : va_P D se_cl (se_WM k h (se_u g 0 34 ((g 0 3) + (g 0 35)))) H := hP
      replace hD : va_D A (se_WM k h (se_u g 0 34 ((g 0 3) + (g 0 35)))) := hD
      exact se_rv hx hb hr hlocks hK hP hD hS dX6_watch_69 (by rw [F_M_watch, if_neg (α := se_G) c7, if_neg (α := se_G) c8])
set_option maxRecDepth 100000 in
set_option maxHeartbeats 4000000 in
theorem c_M_write (l : Launch) (D : va_G) (k : Nat → ClassId) (h : Nat → Nat) (sz : Nat) (g : se_G) (p1 : Int64) (p3 : Int32) (hI : 0 ≤ (g 0 13).toInt) : Met l yX6_write (se_w_X6_write) ({ frames := 2, cells := 0, slots := 0, locals := 41 }) (va_Pc [.ref (h 0), .long p1, .int p3] (se_Pre D se_cl [(k 1, .int), (k 2, .int), (k 3, .boolean), (k 4, .int), (k 5, .int), (k 6, .int)] (se_WM k h g) se_ZN sz)) (se_Qi D se_cl [(k 1, .int), (k 2, .int), (k 3, .boolean), (k 4, .int), (k 5, .int), (k 6, .int)] (se_WM k h) (F_M_write g p1 p3) (va_A (se_WM k h g) sz)) 0 0 (va_A (se_WM k h g) sz) := by
  refine se_met (Qc := se_Qi D se_cl [(k 1, .int), (k 2, .int), (k 3, .boolean), (k 4, .int), (k 5, .int), (k 6, .int)] (se_WM k h) (F_M_write g p1 p3)) (cc := cX6_write) (maxL := 7) (ret := (some .int)) (by decide) rfl (Nat.le_of_ble_eq_true rfl) ?_
  intro p e s m below meth c ls A hx hb hr hts hown hlocks hml hA hP hK hD hS hZ hl
  replace hl : lv_has ls 7 [(0, .ref (h 0)), (1, .long p1), (3, .int p3)] := hl
  have L84 : ∀ (n : Nat) (gj84 : se_G) (v1_84 : Int64) (v5_84 : Int32) (v6_84 : Int32) (H : Heap) (locs : List Loc) (ls : Array Slot), (0 ≤ (gj84 0 13).toInt) → ((v6_84).toInt + 1).toNat < n → F_M_write_j84 n gj84 v1_84 v5_84 v6_84 = F_M_write g p1 p3 → va_P D se_cl (se_WM k h gj84) H → va_D A (se_WM k h gj84) → va_S A s.heap H locs → lv_has ls 7 [(0, .ref (h 0)), (1, .long v1_84), (5, .int v5_84), (6, .int v6_84)] → W p l e ({ frames := 2, cells := 0, slots := 0, locals := 41 }) s m [.ref (h 0), .long p1, .int p3].toArray below meth c H locs 0 0 (MQ below (se_Qi D se_cl [(k 1, .int), (k 2, .int), (k 3, .boolean), (k 4, .int), (k 5, .int), (k 6, .int)] (se_WM k h) (F_M_write g p1 p3) A) [.ref (h 0), .long p1, .int p3].toArray s 0 0 A) (F0 m 84 ls []) := by
    intro n
    induction n with
    | zero => intro gj84 v1_84 v5_84 v6_84 H locs ls hI hM; exact absurd hM (Nat.not_lt_zero _)
    | succ n ih =>
      intro gj84 v1_84 v5_84 v6_84 H locs ls hI hM hF hP hD hS hl
      refine lv_iload hx hb dX6_write_84 (lv_at hl 3 rfl) ?_
      refine lv_if_lt (tgt := 139) hx hb dX6_write_86 (by decide) (fun c11 => ?_) (fun c11 => ?_)
      · refine lv_aload_n hx hb dX6_write_139 rfl (lv_at hl 0 rfl) ?_
        refine se_cvE (va_runV (C := RX6) (As := []) (rest := []) ⟨hx, hb, hml, hown, hts⟩ (c_M_watch l D k h _ gj84) (se_kV 0 hts q_code_X6_watch qX6_m136 q_ini_StreamEndModel q_instanceMethod_X6_watch q_sel_X6_watch (by decide +kernel) ⟨Nat.le_of_ble_eq_true rfl, Nat.le_of_ble_eq_true rfl⟩ rfl rfl) ⟨se_blind se_ZN_ok, va_recv hK hP (ci := 6) (q0 := 0) rfl rfl, se_pre se_ZN_ok hP hK hD hZ⟩ rfl rfl hl.1 rfl (lv_room (Nat.le_of_ble_eq_true rfl)) dX6_write_140 ⟨Nat.zero_le _, Nat.zero_le _⟩) hD hS hA (fun g1 H locs eg1 hP hD hS => ?_)
        refine lv_iload hx hb dX6_write_143 (lv_at hl 2 rfl) ?_
        exact se_ri hx hb hr  hlocks hK hP hD hS dX6_write_145 (by subst eg1; rw [← hF, F_M_write_j84, if_pos (α := Int32 × se_G) c11])
      · refine lv_aload_n hx hb dX6_write_89 rfl (lv_at hl 0 rfl) ?_
        refine va_get (D := D) (ci := 6) (v := .int (gj84 0 13)) (C := RX6) (T := TX6) (N := 50) hx hb hts (se_iw iwX6) hown hK hP 0 rfl rfl 13 (by decide) (hts _ (List.mem_cons_of_mem _ qX6_f60)) (fun _ h9 => h9) rfl dX6_write_90 ?_
        refine lv_sipush (v := 2048) hx hb dX6_write_93 (by decide) ?_
        refine lv_icmp_ge (tgt := 139) hx hb dX6_write_96 (by decide) (fun c12 => ?_) (fun c12 => ?_)
        · refine lv_aload_n hx hb dX6_write_139 rfl (lv_at hl 0 rfl) ?_
          refine se_cvE (va_runV (C := RX6) (As := []) (rest := []) ⟨hx, hb, hml, hown, hts⟩ (c_M_watch l D k h _ gj84) (se_kV 0 hts q_code_X6_watch qX6_m136 q_ini_StreamEndModel q_instanceMethod_X6_watch q_sel_X6_watch (by decide +kernel) ⟨Nat.le_of_ble_eq_true rfl, Nat.le_of_ble_eq_true rfl⟩ rfl rfl) ⟨se_blind se_ZN_ok, va_recv hK hP (ci := 6) (q0 := 0) rfl rfl, se_pre se_ZN_ok hP hK hD hZ⟩ rfl rfl hl.1 rfl (lv_room (Nat.le_of_ble_eq_true rfl)) dX6_write_140 ⟨Nat.zero_le _, Nat.zero_le _⟩) hD hS hA (fun g2 H locs eg2 hP hD hS => ?_)
          refine lv_iload hx hb dX6_write_143 (lv_at hl 2 rfl) ?_
          exact se_ri hx hb hr  hlocks hK hP hD hS dX6_write_145 (by subst eg2; rw [← hF, F_M_write_j84, if_neg (α := Int32 × se_G) c11, if_pos (α := Int32 × se_G) c12])
        · refine lv_aload_n hx hb dX6_write_99 rfl (lv_at hl 0 rfl) ?_
          refine va_get (D := D) (ci := 6) (v := .ref (h 1)) (C := RX6) (T := TX6) (N := 50) hx hb hts (se_iw iwX6) hown hK hP 0 rfl rfl 12 (by decide) (hts _ (List.mem_cons_of_mem _ qX6_f7)) (fun _ h9 => h9) rfl dX6_write_100 ?_
          refine lv_aload_n hx hb dX6_write_103 rfl (lv_at hl 0 rfl) ?_
          refine va_get (D := D) (ci := 6) (v := .int (gj84 0 13)) (C := RX6) (T := TX6) (N := 50) hx hb hts (se_iw iwX6) hown hK hP 0 rfl rfl 13 (by decide) (hts _ (List.mem_cons_of_mem _ qX6_f60)) (fun _ h9 => h9) rfl dX6_write_104 ?_
          refine lv_lload_n hx hb dX6_write_107 rfl (lv_at hl 1 rfl) ?_
          refine lv_bipush (v := 8) hx hb dX6_write_108 (by decide) ?_
          refine lv_iload hx hb dX6_write_110 (lv_at hl 3 rfl) ?_
          refine lv_imul hx hb dX6_write_112 ?_
          refine lv_lshr (v := (v1_84 >>> (Int32.toInt64 (8 * v6_84) &&& 63))) hx hb dX6_write_113 rfl ?_
          refine lv_ldc2 hx hb hown (hts _ (List.mem_cons_of_mem _ qX6_k134)) dX6_write_114 ?_
          refine lv_land hx hb dX6_write_117 ?_
          refine lv_l2i (v := (Int64.toInt32 (((v1_84 >>> (Int32.toInt64 (8 * v6_84) &&& 63))) &&& 255))) hx hb dX6_write_118 rfl ?_
          refine va_iast hx hb hK hP hD hS 1 0 rfl rfl (se_inN (N := 2048) (by decide) (se_nn hI) (by assumption)) dX6_write_119 (fun H locs hP hD hS => ?_)
          replace hP : va_P D se_cl (se_WM k h (se_u gj84 1 (Int32.toNatClampNeg (gj84 0 13)) (Int64.toInt32 (((v1_84 >>> (Int32.toInt64 (8 * v6_84) &&& 63))) &&& 255)))) H := hP
          replace hD : va_D A (se_WM k h (se_u gj84 1 (Int32.toNatClampNeg (gj84 0 13)) (Int64.toInt32 (((v1_84 >>> (Int32.toInt64 (8 * v6_84) &&& 63))) &&& 255)))) := hD
          refine lv_aload_n hx hb dX6_write_120 rfl (lv_at hl 0 rfl) ?_
          refine lv_dup hx hb dX6_write_121 rfl ?_
          refine va_get (D := D) (ci := 6) (v := .int (gj84 0 13)) (C := RX6) (T := TX6) (N := 50) hx hb hts (se_iw iwX6) hown hK hP 0 rfl rfl 13 (by decide) (hts _ (List.mem_cons_of_mem _ qX6_f60)) (fun _ h9 => h9) rfl dX6_write_122 ?_
          refine lv_iconst (v := 1) hx hb dX6_write_125 (by decide) ?_
          refine lv_iadd hx hb dX6_write_126 ?_
          refine va_put (D := D) (ci := 6) (v := .int ((gj84 0 13) + 1)) (ty := .int) (C := RX6) (T := TX6) (N := 50) hx hb hts (se_iw iwX6) tyX6 tyX6_ok nmX6 hown hK hP hD hS 0 rfl rfl 13 (by decide) (hts _ (List.mem_cons_of_mem _ qX6_f60)) (fun _ h9 => h9) rfl (by decide +kernel) rfl rfl (Nat.le_of_ble_eq_true rfl) dX6_write_127 (fun H locs hP hD hS => ?_)
          replace hP : va_P D se_cl (se_WM k h (se_u (se_u gj84 1 (Int32.toNatClampNeg (gj84 0 13)) (Int64.toInt32 (((v1_84 >>> (Int32.toInt64 (8 * v6_84) &&& 63))) &&& 255))) 0 13 ((gj84 0 13) + 1))) H := hP
          replace hD : va_D A (se_WM k h (se_u (se_u gj84 1 (Int32.toNatClampNeg (gj84 0 13)) (Int64.toInt32 (((v1_84 >>> (Int32.toInt64 (8 * v6_84) &&& 63))) &&& 255))) 0 13 ((gj84 0 13) + 1))) := hD
          refine lv_iinc (v := (v5_84 + 1)) (lv' := [(5, .int (v5_84 + 1)), (0, .ref (h 0)), (1, .long v1_84), (6, .int v6_84)]) hx hb dX6_write_130 hl (k := 2) rfl rfl (by decide) rfl (fun ls hl => ?_)
          refine lv_iinc (v := (v6_84 + (-1))) (lv' := [(6, .int (v6_84 + (-1))), (5, .int (v5_84 + 1)), (0, .ref (h 0)), (1, .long v1_84)]) hx hb dX6_write_133 hl (k := 3) rfl rfl (by decide) rfl (fun ls hl => ?_)
          refine lv_goto (tgt := 84) hx hb dX6_write_136 (by decide) ?_
          exact ih (se_u (se_u gj84 1 (Int32.toNatClampNeg (gj84 0 13)) (Int64.toInt32 (((v1_84 >>> (Int32.toInt64 (8 * v6_84) &&& 63))) &&& 255))) 0 13 ((gj84 0 13) + 1)) v1_84 (v5_84 + 1) (v6_84 + (-1)) _ _ ls (se_inc0 (hi := 2048) (lo := gj84 0 13) (by assumption) hI) (mo_decD c11 hM) (by rw [← hF, F_M_write_j84, if_neg (α := Int32 × se_G) c11, if_neg (α := Int32 × se_G) c12]) hP hD hS (lv_sub hl [2, 3, 1, 0] rfl)
  have hF : F_M_write g p1 p3 = F_M_write g p1 p3 := rfl
  refine lv_aload_n hx hb dX6_write_0 rfl (lv_at hl 0 rfl) ?_
  refine va_get (D := D) (ci := 6) (v := .int (g 0 6)) (C := RX6) (T := TX6) (N := 50) hx hb hts (se_iw iwX6) hown hK hP 0 rfl rfl 6 (by decide) (hts _ (List.mem_cons_of_mem _ qX6_f82)) (fun _ h9 => h9) rfl dX6_write_1 ?_
  refine se_join (v := ((if (g 0 6) = 0 then ((if (g 0 4) = 0 then 1 else ((if (g 0 4) = 1 then 1 else ((if (g 0 4) = 11 then 1 else 0) : Int32)) : Int32)) : Int32) else 1) : Int32)) (pcJ := 36) (restJ := []) (ls := ls) (fun T => ?_) ?_
  · refine lv_if_ne (tgt := 31) hx hb dX6_write_4 (by decide) (fun c2 => ?_) (fun c2 => ?_)
    · refine lv_iconst (v := 1) hx hb dX6_write_31 (by decide) ?_
      refine lv_goto (tgt := 36) hx hb dX6_write_32 (by decide) ?_
      exact T _ (mo_ifn c2 rfl)
    · refine lv_aload_n hx hb dX6_write_7 rfl (lv_at hl 0 rfl) ?_
      refine va_get (D := D) (ci := 6) (v := .int (g 0 4)) (C := RX6) (T := TX6) (N := 50) hx hb hts (se_iw iwX6) hown hK hP 0 rfl rfl 4 (by decide) (hts _ (List.mem_cons_of_mem _ qX6_f118)) (fun _ h9 => h9) rfl dX6_write_8 ?_
      refine lv_if_eq (tgt := 31) hx hb dX6_write_11 (by decide) (fun c3 => ?_) (fun c3 => ?_)
      · refine lv_iconst (v := 1) hx hb dX6_write_31 (by decide) ?_
        refine lv_goto (tgt := 36) hx hb dX6_write_32 (by decide) ?_
        exact T _ (mo_ifp c2 (mo_ifp c3 rfl))
      · refine lv_aload_n hx hb dX6_write_14 rfl (lv_at hl 0 rfl) ?_
        refine va_get (D := D) (ci := 6) (v := .int (g 0 4)) (C := RX6) (T := TX6) (N := 50) hx hb hts (se_iw iwX6) hown hK hP 0 rfl rfl 4 (by decide) (hts _ (List.mem_cons_of_mem _ qX6_f118)) (fun _ h9 => h9) rfl dX6_write_15 ?_
        refine lv_iconst (v := 1) hx hb dX6_write_18 (by decide) ?_
        refine lv_icmp_eq (tgt := 31) hx hb dX6_write_19 (by decide) (fun c4 => ?_) (fun c4 => ?_)
        · refine lv_iconst (v := 1) hx hb dX6_write_31 (by decide) ?_
          refine lv_goto (tgt := 36) hx hb dX6_write_32 (by decide) ?_
          exact T _ (mo_ifp c2 (mo_ifn c3 (mo_ifp c4 rfl)))
        · refine lv_aload_n hx hb dX6_write_22 rfl (lv_at hl 0 rfl) ?_
          refine va_get (D := D) (ci := 6) (v := .int (g 0 4)) (C := RX6) (T := TX6) (N := 50) hx hb hts (se_iw iwX6) hown hK hP 0 rfl rfl 4 (by decide) (hts _ (List.mem_cons_of_mem _ qX6_f118)) (fun _ h9 => h9) rfl dX6_write_23 ?_
          refine lv_bipush (v := 11) hx hb dX6_write_26 (by decide) ?_
          refine lv_icmp_ne (tgt := 35) hx hb dX6_write_28 (by decide) (fun c5 => ?_) (fun c5 => ?_)
          · refine lv_iconst (v := 0) hx hb dX6_write_35 (by decide) ?_
            exact T _ (mo_ifp c2 (mo_ifn c3 (mo_ifn c4 (mo_ifn c5 rfl))))
          · refine lv_iconst (v := 1) hx hb dX6_write_31 (by decide) ?_
            refine lv_goto (tgt := 36) hx hb dX6_write_32 (by decide) ?_
            exact T _ (mo_ifp c2 (mo_ifn c3 (mo_ifn c4 (mo_ifp c5 rfl))))
  refine lv_istore (lv' := [(4, .int ((if (g 0 6) = 0 then ((if (g 0 4) = 0 then 1 else ((if (g 0 4) = 1 then 1 else ((if (g 0 4) = 11 then 1 else 0) : Int32)) : Int32)) : Int32) else 1) : Int32)), (0, .ref (h 0)), (1, .long p1), (3, .int p3)]) hx hb dX6_write_36 hl (by decide) rfl (fun ls hl => ?_)
  refine lv_aload_n hx hb dX6_write_38 rfl (lv_at hl 1 rfl) ?_
  refine lv_iload_n hx hb dX6_write_39 rfl (lv_at hl 3 rfl) ?_
  refine lv_iconst (v := 1) hx hb dX6_write_40 (by decide) ?_
  refine se_join (v := ((if p3 < 1 then 1 else ((if p3 ≤ 8 then ((if ((if (g 0 6) = 0 then ((if (g 0 4) = 0 then 1 else ((if (g 0 4) = 1 then 1 else ((if (g 0 4) = 11 then 1 else 0) : Int32)) : Int32)) : Int32) else 1) : Int32) = 0 then 0 else 2) : Int32) else 1) : Int32)) : Int32)) (pcJ := 64) (restJ := [.ref (h 0)]) (ls := ls) (fun T => ?_) ?_
  · refine lv_icmp_lt (tgt := 50) hx hb dX6_write_41 (by decide) (fun c7 => ?_) (fun c7 => ?_)
    · refine lv_iconst (v := 1) hx hb dX6_write_50 (by decide) ?_
      refine lv_goto (tgt := 64) hx hb dX6_write_51 (by decide) ?_
      exact T _ (mo_ifp c7 rfl)
    · refine lv_iload_n hx hb dX6_write_44 rfl (lv_at hl 3 rfl) ?_
      refine lv_bipush (v := 8) hx hb dX6_write_45 (by decide) ?_
      refine lv_icmp_le (tgt := 54) hx hb dX6_write_47 (by decide) (fun c8 => ?_) (fun c8 => ?_)
      · refine lv_iload hx hb dX6_write_54 (lv_at hl 0 rfl) ?_
        refine lv_if_eq (tgt := 63) hx hb dX6_write_56 (by decide) (fun c9 => ?_) (fun c9 => ?_)
        · refine lv_iconst (v := 0) hx hb dX6_write_63 (by decide) ?_
          exact T _ (mo_ifn c7 (mo_ifp c8 (mo_ifp c9 rfl)))
        · refine lv_iconst (v := 2) hx hb dX6_write_59 (by decide) ?_
          refine lv_goto (tgt := 64) hx hb dX6_write_60 (by decide) ?_
          exact T _ (mo_ifn c7 (mo_ifp c8 (mo_ifn c9 rfl)))
      · refine lv_iconst (v := 1) hx hb dX6_write_50 (by decide) ?_
        refine lv_goto (tgt := 64) hx hb dX6_write_51 (by decide) ?_
        exact T _ (mo_ifn c7 (mo_ifn c8 rfl))
  refine va_put (D := D) (ci := 6) (v := .int ((if p3 < 1 then 1 else ((if p3 ≤ 8 then ((if ((if (g 0 6) = 0 then ((if (g 0 4) = 0 then 1 else ((if (g 0 4) = 1 then 1 else ((if (g 0 4) = 11 then 1 else 0) : Int32)) : Int32)) : Int32) else 1) : Int32) = 0 then 0 else 2) : Int32) else 1) : Int32)) : Int32)) (ty := .int) (C := RX6) (T := TX6) (N := 50) hx hb hts (se_iw iwX6) tyX6 tyX6_ok nmX6 hown hK hP hD hS 0 rfl rfl 2 (by decide) (hts _ (List.mem_cons_of_mem _ qX6_f45)) (fun _ h9 => h9) rfl (by decide +kernel) rfl rfl (Nat.le_of_ble_eq_true rfl) dX6_write_64 (fun H locs hP hD hS => ?_)
  replace hP : va_P D se_cl (se_WM k h (se_u g 0 2 ((if p3 < 1 then 1 else ((if p3 ≤ 8 then ((if ((if (g 0 6) = 0 then ((if (g 0 4) = 0 then 1 else ((if (g 0 4) = 1 then 1 else ((if (g 0 4) = 11 then 1 else 0) : Int32)) : Int32)) : Int32) else 1) : Int32) = 0 then 0 else 2) : Int32) else 1) : Int32)) : Int32))) H := hP
  replace hD : va_D A (se_WM k h (se_u g 0 2 ((if p3 < 1 then 1 else ((if p3 ≤ 8 then ((if ((if (g 0 6) = 0 then ((if (g 0 4) = 0 then 1 else ((if (g 0 4) = 1 then 1 else ((if (g 0 4) = 11 then 1 else 0) : Int32)) : Int32)) : Int32) else 1) : Int32) = 0 then 0 else 2) : Int32) else 1) : Int32)) : Int32))) := hD
  refine lv_aload_n hx hb dX6_write_67 rfl (lv_at hl 1 rfl) ?_
  refine va_get (D := D) (ci := 6) (v := .int ((if p3 < 1 then 1 else ((if p3 ≤ 8 then ((if ((if (g 0 6) = 0 then ((if (g 0 4) = 0 then 1 else ((if (g 0 4) = 1 then 1 else ((if (g 0 4) = 11 then 1 else 0) : Int32)) : Int32)) : Int32) else 1) : Int32) = 0 then 0 else 2) : Int32) else 1) : Int32)) : Int32)) (C := RX6) (T := TX6) (N := 50) hx hb hts (se_iw iwX6) hown hK hP 0 rfl rfl 2 (by decide) (hts _ (List.mem_cons_of_mem _ qX6_f45)) (fun _ h9 => h9) rfl dX6_write_68 ?_
  refine lv_if_le (tgt := 76) hx hb dX6_write_71 (by decide) (fun c10 => ?_) (fun c10 => ?_)
  · refine lv_iconst (v := 0) hx hb dX6_write_76 (by decide) ?_
    refine lv_istore (lv' := [(5, .int 0), (4, .int ((if (g 0 6) = 0 then ((if (g 0 4) = 0 then 1 else ((if (g 0 4) = 1 then 1 else ((if (g 0 4) = 11 then 1 else 0) : Int32)) : Int32)) : Int32) else 1) : Int32)), (0, .ref (h 0)), (1, .long p1), (3, .int p3)]) hx hb dX6_write_77 hl (by decide) rfl (fun ls hl => ?_)
    refine lv_iload_n hx hb dX6_write_79 rfl (lv_at hl 4 rfl) ?_
    refine lv_iconst (v := 1) hx hb dX6_write_80 (by decide) ?_
    refine lv_isub hx hb dX6_write_81 ?_
    refine lv_istore (lv' := [(6, .int (p3 - 1)), (5, .int 0), (4, .int ((if (g 0 6) = 0 then ((if (g 0 4) = 0 then 1 else ((if (g 0 4) = 1 then 1 else ((if (g 0 4) = 11 then 1 else 0) : Int32)) : Int32)) : Int32) else 1) : Int32)), (0, .ref (h 0)), (1, .long p1), (3, .int p3)]) hx hb dX6_write_82 hl (by decide) rfl (fun ls hl => ?_)
    exact L84 (((((p3 - 1)) : Int32).toInt + 1).toNat + 1) (se_u g 0 2 ((if p3 < 1 then 1 else ((if p3 ≤ 8 then ((if ((if (g 0 6) = 0 then ((if (g 0 4) = 0 then 1 else ((if (g 0 4) = 1 then 1 else ((if (g 0 4) = 11 then 1 else 0) : Int32)) : Int32)) : Int32) else 1) : Int32) = 0 then 0 else 2) : Int32) else 1) : Int32)) : Int32)) p1 0 (p3 - 1) _ _ ls hI (Nat.lt_succ_self _) (by rw [F_M_write, if_pos (α := Int32 × se_G) c10]) hP hD hS (lv_sub hl [3, 4, 1, 0] rfl)
  · refine lv_iconst (v := 0) hx hb dX6_write_74 (by decide) ?_
    exact se_ri hx hb hr  hlocks hK hP hD hS dX6_write_75 (by rw [F_M_write, if_neg (α := Int32 × se_G) c10])
