/-! written by program (wip/gen) -/
set_option maxRecDepth 100000 in
set_option maxHeartbeats 4000000 in
theorem c_M_run (l : Launch) (D : va_G) (k : Nat → ClassId) (h : Nat → Nat) (sz : Nat) (g : se_G) (p1 : Int32) : Met l yX6_run (se_w_X6_run) ({ frames := 3, cells := 0, slots := 0, locals := 62 }) (va_Pc [.ref (h 0), .int p1] (se_Pre D se_cl [(k 1, .int), (k 2, .int), (k 3, .boolean), (k 4, .int), (k 5, .int), (k 6, .int)] (se_WM k h g) se_ZN sz)) (se_Qi D se_cl [(k 1, .int), (k 2, .int), (k 3, .boolean), (k 4, .int), (k 5, .int), (k 6, .int)] (se_WM k h) (F_M_run g p1) (va_A (se_WM k h g) sz)) 0 0 (va_A (se_WM k h g) sz) := by
  refine se_met (Qc := se_Qi D se_cl [(k 1, .int), (k 2, .int), (k 3, .boolean), (k 4, .int), (k 5, .int), (k 6, .int)] (se_WM k h) (F_M_run g p1)) (cc := cX6_run) (maxL := 3) (ret := (some .int)) (by decide) rfl (Nat.le_of_ble_eq_true rfl) ?_
  intro p e s m below meth c ls A hx hb hr hts hown hlocks hml hA hP hK hD hS hZ hl
  replace hl : lv_has ls 3 [(0, .ref (h 0)), (1, .int p1)] := hl
  have L47 : ∀ (n : Nat) (gj47 : se_G) (v1_47 : Int32) (v2_47 : Int32) (H : Heap) (locs : List Loc) (ls : Array Slot), ((v1_47).toInt - (v2_47).toInt).toNat < n → F_M_run_j47 n gj47 v1_47 v2_47 = F_M_run g p1 → va_P D se_cl (se_WM k h gj47) H → va_D A (se_WM k h gj47) → va_S A s.heap H locs → lv_has ls 3 [(0, .ref (h 0)), (1, .int v1_47), (2, .int v2_47)] → W p l e ({ frames := 3, cells := 0, slots := 0, locals := 62 }) s m [.ref (h 0), .int p1].toArray below meth c H locs 0 0 (MQ below (se_Qi D se_cl [(k 1, .int), (k 2, .int), (k 3, .boolean), (k 4, .int), (k 5, .int), (k 6, .int)] (se_WM k h) (F_M_run g p1) A) [.ref (h 0), .int p1].toArray s 0 0 A) (F0 m 47 ls []) := by
    intro n
    induction n with
    | zero => intro gj47 v1_47 v2_47 H locs ls hM; exact absurd hM (Nat.not_lt_zero _)
    | succ n ih =>
      intro gj47 v1_47 v2_47 H locs ls hM hF hP hD hS hl
      refine lv_iload_n hx hb dX6_run_47 rfl (lv_at hl 2 rfl) ?_
      refine lv_iload_n hx hb dX6_run_48 rfl (lv_at hl 1 rfl) ?_
      refine lv_icmp_ge (tgt := 112) hx hb dX6_run_49 (by decide) (fun c7 => ?_) (fun c7 => ?_)
      · refine lv_aload_n hx hb dX6_run_112 rfl (lv_at hl 0 rfl) ?_
        refine va_get (D := D) (ci := 6) (v := .int (gj47 0 3)) (C := RX6) (T := TX6) (N := 50) hx hb hts (se_iw iwX6) hown hK hP 0 rfl rfl 3 (by decide) (hts _ (List.mem_cons_of_mem _ qX6_f121)) (fun _ h9 => h9) rfl dX6_run_113 ?_
        exact se_ri hx hb hr  hlocks hK hP hD hS dX6_run_116 (by rw [← hF, F_M_run_j47, if_pos (α := Int32 × se_G) c7])
      · refine lv_aload_n hx hb dX6_run_52 rfl (lv_at hl 0 rfl) ?_
        refine lv_dup hx hb dX6_run_53 rfl ?_
        refine va_get (D := D) (ci := 6) (v := .int (gj47 0 3)) (C := RX6) (T := TX6) (N := 50) hx hb hts (se_iw iwX6) hown hK hP 0 rfl rfl 3 (by decide) (hts _ (List.mem_cons_of_mem _ qX6_f121)) (fun _ h9 => h9) rfl dX6_run_54 ?_
        refine lv_iconst (v := 1) hx hb dX6_run_57 (by decide) ?_
        refine lv_iadd hx hb dX6_run_58 ?_
        refine va_put (D := D) (ci := 6) (v := .int ((gj47 0 3) + 1)) (ty := .int) (C := RX6) (T := TX6) (N := 50) hx hb hts (se_iw iwX6) tyX6 tyX6_ok nmX6 hown hK hP hD hS 0 rfl rfl 3 (by decide) (hts _ (List.mem_cons_of_mem _ qX6_f121)) (fun _ h9 => h9) rfl (by decide +kernel) rfl rfl (Nat.le_of_ble_eq_true rfl) dX6_run_59 (fun H locs hP hD hS => ?_)
        replace hP : va_P D se_cl (se_WM k h (se_u gj47 0 3 ((gj47 0 3) + 1))) H := hP
        replace hD : va_D A (se_WM k h (se_u gj47 0 3 ((gj47 0 3) + 1))) := hD
        refine lv_aload_n hx hb dX6_run_62 rfl (lv_at hl 0 rfl) ?_
        refine va_get (D := D) (ci := 6) (v := .int (gj47 0 4)) (C := RX6) (T := TX6) (N := 50) hx hb hts (se_iw iwX6) hown hK hP 0 rfl rfl 4 (by decide) (hts _ (List.mem_cons_of_mem _ qX6_f118)) (fun _ h9 => h9) rfl dX6_run_63 ?_
        refine lv_bipush (v := 10) hx hb dX6_run_66 (by decide) ?_
        refine lv_icmp_ne (tgt := 87) hx hb dX6_run_68 (by decide) (fun c8 => ?_) (fun c8 => ?_)
        · refine lv_aload_n hx hb dX6_run_87 rfl (lv_at hl 0 rfl) ?_
          refine va_get (D := D) (ci := 6) (v := .int (gj47 0 34)) (C := RX6) (T := TX6) (N := 50) hx hb hts (se_iw iwX6) hown hK hP 0 rfl rfl 34 (by decide) (hts _ (List.mem_cons_of_mem _ qX6_f20)) (fun _ h9 => h9) rfl dX6_run_88 ?_
          refine lv_aload_n hx hb dX6_run_91 rfl (lv_at hl 0 rfl) ?_
          refine va_get (D := D) (ci := 6) (v := .int ((gj47 0 3) + 1)) (C := RX6) (T := TX6) (N := 50) hx hb hts (se_iw iwX6) hown hK hP 0 rfl rfl 3 (by decide) (hts _ (List.mem_cons_of_mem _ qX6_f121)) (fun _ h9 => h9) rfl dX6_run_92 ?_
          refine lv_icmp_ne (tgt := 102) hx hb dX6_run_95 (by decide) (fun c9 => ?_) (fun c9 => ?_)
          · refine lv_aload_n hx hb dX6_run_102 rfl (lv_at hl 0 rfl) ?_
            refine se_cvE (va_runV (C := RX6) (As := []) (rest := []) ⟨hx, hb, hml, hown, hts⟩ (c_M_watch l D k h _ (se_u gj47 0 3 ((gj47 0 3) + 1))) (se_kV 0 hts q_code_X6_watch qX6_m136 q_ini_StreamEndModel q_instanceMethod_X6_watch q_sel_X6_watch (by decide +kernel) ⟨Nat.le_of_ble_eq_true rfl, Nat.le_of_ble_eq_true rfl⟩ rfl rfl) ⟨se_blind se_ZN_ok, va_recv hK hP (ci := 6) (q0 := 0) rfl rfl, se_pre se_ZN_ok hP hK hD hZ⟩ rfl rfl hl.1 rfl (lv_room (Nat.le_of_ble_eq_true rfl)) dX6_run_103 ⟨Nat.zero_le _, Nat.zero_le _⟩) hD hS hA (fun g1 H locs eg1 hP hD hS => ?_)
            refine lv_iinc (v := (v2_47 + 1)) (lv' := [(2, .int (v2_47 + 1)), (0, .ref (h 0)), (1, .int v1_47)]) hx hb dX6_run_106 hl (k := 2) rfl rfl (by decide) rfl (fun ls hl => ?_)
            refine lv_goto (tgt := 47) hx hb dX6_run_109 (by decide) ?_
            exact ih g1 v1_47 (v2_47 + 1) _ _ ls (se_dec c7 hM) (by subst eg1; rw [← hF, F_M_run_j47, if_neg (α := Int32 × se_G) c7, if_neg (α := Int32 × se_G) c8, if_neg (α := Int32 × se_G) c9]) hP hD hS (lv_sub hl [1, 2, 0] rfl)
          · refine lv_aload_n hx hb dX6_run_98 rfl (lv_at hl 0 rfl) ?_
            refine se_cvE (va_runV (C := RX6) (As := []) (rest := []) ⟨hx, hb, hml, hown, hts⟩ (c_M_ring l D k h _ (se_u gj47 0 3 ((gj47 0 3) + 1))) (se_kV 0 hts q_code_X6_ring qX6_m172 q_ini_StreamEndModel q_instanceMethod_X6_ring q_sel_X6_ring (by decide +kernel) ⟨Nat.le_of_ble_eq_true rfl, Nat.le_of_ble_eq_true rfl⟩ rfl rfl) ⟨se_blind se_ZN_ok, va_recv hK hP (ci := 6) (q0 := 0) rfl rfl, se_pre se_ZN_ok hP hK hD hZ⟩ rfl rfl hl.1 rfl (lv_room (Nat.le_of_ble_eq_true rfl)) dX6_run_99 ⟨Nat.zero_le _, Nat.zero_le _⟩) hD hS hA (fun g2 H locs eg2 hP hD hS => ?_)
            refine lv_aload_n hx hb dX6_run_102 rfl (lv_at hl 0 rfl) ?_
            refine se_cvE (va_runV (C := RX6) (As := []) (rest := []) ⟨hx, hb, hml, hown, hts⟩ (c_M_watch l D k h _ g2) (se_kV 0 hts q_code_X6_watch qX6_m136 q_ini_StreamEndModel q_instanceMethod_X6_watch q_sel_X6_watch (by decide +kernel) ⟨Nat.le_of_ble_eq_true rfl, Nat.le_of_ble_eq_true rfl⟩ rfl rfl) ⟨se_blind se_ZN_ok, va_recv hK hP (ci := 6) (q0 := 0) rfl rfl, se_pre se_ZN_ok hP hK hD hZ⟩ rfl rfl hl.1 rfl (lv_room (Nat.le_of_ble_eq_true rfl)) dX6_run_103 ⟨Nat.zero_le _, Nat.zero_le _⟩) hD hS hA (fun g3 H locs eg3 hP hD hS => ?_)
            refine lv_iinc (v := (v2_47 + 1)) (lv' := [(2, .int (v2_47 + 1)), (0, .ref (h 0)), (1, .int v1_47)]) hx hb dX6_run_106 hl (k := 2) rfl rfl (by decide) rfl (fun ls hl => ?_)
            refine lv_goto (tgt := 47) hx hb dX6_run_109 (by decide) ?_
            exact ih g3 v1_47 (v2_47 + 1) _ _ ls (se_dec c7 hM) (by subst eg2; subst eg3; rw [← hF, F_M_run_j47, if_neg (α := Int32 × se_G) c7, if_neg (α := Int32 × se_G) c8, if_pos (α := Int32 × se_G) c9]) hP hD hS (lv_sub hl [1, 2, 0] rfl)
        · refine lv_aload_n hx hb dX6_run_71 rfl (lv_at hl 0 rfl) ?_
          refine va_get (D := D) (ci := 6) (v := .int ((gj47 0 3) + 1)) (C := RX6) (T := TX6) (N := 50) hx hb hts (se_iw iwX6) hown hK hP 0 rfl rfl 3 (by decide) (hts _ (List.mem_cons_of_mem _ qX6_f121)) (fun _ h9 => h9) rfl dX6_run_72 ?_
          refine lv_aload_n hx hb dX6_run_75 rfl (lv_at hl 0 rfl) ?_
          refine va_get (D := D) (ci := 6) (v := .int (gj47 0 43)) (C := RX6) (T := TX6) (N := 50) hx hb hts (se_iw iwX6) hown hK hP 0 rfl rfl 43 (by decide) (hts _ (List.mem_cons_of_mem _ qX6_f124)) (fun _ h9 => h9) rfl dX6_run_76 ?_
          refine lv_icmp_ne (tgt := 87) hx hb dX6_run_79 (by decide) (fun c10 => ?_) (fun c10 => ?_)
          · refine lv_aload_n hx hb dX6_run_87 rfl (lv_at hl 0 rfl) ?_
            refine va_get (D := D) (ci := 6) (v := .int (gj47 0 34)) (C := RX6) (T := TX6) (N := 50) hx hb hts (se_iw iwX6) hown hK hP 0 rfl rfl 34 (by decide) (hts _ (List.mem_cons_of_mem _ qX6_f20)) (fun _ h9 => h9) rfl dX6_run_88 ?_
            refine lv_aload_n hx hb dX6_run_91 rfl (lv_at hl 0 rfl) ?_
            refine va_get (D := D) (ci := 6) (v := .int ((gj47 0 3) + 1)) (C := RX6) (T := TX6) (N := 50) hx hb hts (se_iw iwX6) hown hK hP 0 rfl rfl 3 (by decide) (hts _ (List.mem_cons_of_mem _ qX6_f121)) (fun _ h9 => h9) rfl dX6_run_92 ?_
            refine lv_icmp_ne (tgt := 102) hx hb dX6_run_95 (by decide) (fun c11 => ?_) (fun c11 => ?_)
            · refine lv_aload_n hx hb dX6_run_102 rfl (lv_at hl 0 rfl) ?_
              refine se_cvE (va_runV (C := RX6) (As := []) (rest := []) ⟨hx, hb, hml, hown, hts⟩ (c_M_watch l D k h _ (se_u gj47 0 3 ((gj47 0 3) + 1))) (se_kV 0 hts q_code_X6_watch qX6_m136 q_ini_StreamEndModel q_instanceMethod_X6_watch q_sel_X6_watch (by decide +kernel) ⟨Nat.le_of_ble_eq_true rfl, Nat.le_of_ble_eq_true rfl⟩ rfl rfl) ⟨se_blind se_ZN_ok, va_recv hK hP (ci := 6) (q0 := 0) rfl rfl, se_pre se_ZN_ok hP hK hD hZ⟩ rfl rfl hl.1 rfl (lv_room (Nat.le_of_ble_eq_true rfl)) dX6_run_103 ⟨Nat.zero_le _, Nat.zero_le _⟩) hD hS hA (fun g4 H locs eg4 hP hD hS => ?_)
              refine lv_iinc (v := (v2_47 + 1)) (lv' := [(2, .int (v2_47 + 1)), (0, .ref (h 0)), (1, .int v1_47)]) hx hb dX6_run_106 hl (k := 2) rfl rfl (by decide) rfl (fun ls hl => ?_)
              refine lv_goto (tgt := 47) hx hb dX6_run_109 (by decide) ?_
              exact ih g4 v1_47 (v2_47 + 1) _ _ ls (se_dec c7 hM) (by subst eg4; rw [← hF, F_M_run_j47, if_neg (α := Int32 × se_G) c7, if_pos (α := Int32 × se_G) c8, if_neg (α := Int32 × se_G) c10, if_neg (α := Int32 × se_G) c11]) hP hD hS (lv_sub hl [1, 2, 0] rfl)
            · refine lv_aload_n hx hb dX6_run_98 rfl (lv_at hl 0 rfl) ?_
              refine se_cvE (va_runV (C := RX6) (As := []) (rest := []) ⟨hx, hb, hml, hown, hts⟩ (c_M_ring l D k h _ (se_u gj47 0 3 ((gj47 0 3) + 1))) (se_kV 0 hts q_code_X6_ring qX6_m172 q_ini_StreamEndModel q_instanceMethod_X6_ring q_sel_X6_ring (by decide +kernel) ⟨Nat.le_of_ble_eq_true rfl, Nat.le_of_ble_eq_true rfl⟩ rfl rfl) ⟨se_blind se_ZN_ok, va_recv hK hP (ci := 6) (q0 := 0) rfl rfl, se_pre se_ZN_ok hP hK hD hZ⟩ rfl rfl hl.1 rfl (lv_room (Nat.le_of_ble_eq_true rfl)) dX6_run_99 ⟨Nat.zero_le _, Nat.zero_le _⟩) hD hS hA (fun g5 H locs eg5 hP hD hS => ?_)
              refine lv_aload_n hx hb dX6_run_102 rfl (lv_at hl 0 rfl) ?_
              refine se_cvE (va_runV (C := RX6) (As := []) (rest := []) ⟨hx, hb, hml, hown, hts⟩ (c_M_watch l D k h _ g5) (se_kV 0 hts q_code_X6_watch qX6_m136 q_ini_StreamEndModel q_instanceMethod_X6_watch q_sel_X6_watch (by decide +kernel) ⟨Nat.le_of_ble_eq_true rfl, Nat.le_of_ble_eq_true rfl⟩ rfl rfl) ⟨se_blind se_ZN_ok, va_recv hK hP (ci := 6) (q0 := 0) rfl rfl, se_pre se_ZN_ok hP hK hD hZ⟩ rfl rfl hl.1 rfl (lv_room (Nat.le_of_ble_eq_true rfl)) dX6_run_103 ⟨Nat.zero_le _, Nat.zero_le _⟩) hD hS hA (fun g6 H locs eg6 hP hD hS => ?_)
              refine lv_iinc (v := (v2_47 + 1)) (lv' := [(2, .int (v2_47 + 1)), (0, .ref (h 0)), (1, .int v1_47)]) hx hb dX6_run_106 hl (k := 2) rfl rfl (by decide) rfl (fun ls hl => ?_)
              refine lv_goto (tgt := 47) hx hb dX6_run_109 (by decide) ?_
              exact ih g6 v1_47 (v2_47 + 1) _ _ ls (se_dec c7 hM) (by subst eg5; subst eg6; rw [← hF, F_M_run_j47, if_neg (α := Int32 × se_G) c7, if_pos (α := Int32 × se_G) c8, if_neg (α := Int32 × se_G) c10, if_pos (α := Int32 × se_G) c11]) hP hD hS (lv_sub hl [1, 2, 0] rfl)
          · refine lv_aload_n hx hb dX6_run_82 rfl (lv_at hl 0 rfl) ?_
            refine lv_iconst (v := 0) hx hb dX6_run_83 (by decide) ?_
            refine se_cvE (va_runV (C := RX6) (As := [.int 0]) (rest := []) ⟨hx, hb, hml, hown, hts⟩ (c_M_becomes l D k h _ (se_u gj47 0 3 ((gj47 0 3) + 1)) 0) (se_kV 1 hts q_code_X6_becomes qX6_m147 q_ini_StreamEndModel q_instanceMethod_X6_becomes q_sel_X6_becomes (by decide +kernel) ⟨Nat.le_of_ble_eq_true rfl, Nat.le_of_ble_eq_true rfl⟩ rfl rfl) ⟨se_blind se_ZN_ok, va_recv hK hP (ci := 6) (q0 := 0) rfl rfl, se_pre se_ZN_ok hP hK hD hZ⟩ rfl rfl hl.1 rfl (lv_room (Nat.le_of_ble_eq_true rfl)) dX6_run_84 ⟨Nat.zero_le _, Nat.zero_le _⟩) hD hS hA (fun g7 H locs eg7 hP hD hS => ?_)
            replace hF : (F_M_run_k1 (F_M_run_j47 n) (F_M_becomes (se_u gj47 0 3 ((gj47 0 3) + 1)) 0) v1_47 v2_47) = F_M_run g p1 := by rw [← hF, F_M_run_j47, if_neg (α := Int32 × se_G) c7, if_pos (α := Int32 × se_G) c8, if_pos (α := Int32 × se_G) c10]
            rw [← eg7] at hF
            replace hF : F_M_run_k1 (F_M_run_j47 n) g7 v1_47 v2_47 = F_M_run g p1 := hF
            refine lv_aload_n hx hb dX6_run_87 rfl (lv_at hl 0 rfl) ?_
            refine va_get (D := D) (ci := 6) (v := .int (g7 0 34)) (C := RX6) (T := TX6) (N := 50) hx hb hts (se_iw iwX6) hown hK hP 0 rfl rfl 34 (by decide) (hts _ (List.mem_cons_of_mem _ qX6_f20)) (fun _ h9 => h9) rfl dX6_run_88 ?_
            refine lv_aload_n hx hb dX6_run_91 rfl (lv_at hl 0 rfl) ?_
            refine va_get (D := D) (ci := 6) (v := .int (g7 0 3)) (C := RX6) (T := TX6) (N := 50) hx hb hts (se_iw iwX6) hown hK hP 0 rfl rfl 3 (by decide) (hts _ (List.mem_cons_of_mem _ qX6_f121)) (fun _ h9 => h9) rfl dX6_run_92 ?_
            refine lv_icmp_ne (tgt := 102) hx hb dX6_run_95 (by decide) (fun c12 => ?_) (fun c12 => ?_)
            · refine lv_aload_n hx hb dX6_run_102 rfl (lv_at hl 0 rfl) ?_
              refine se_cvE (va_runV (C := RX6) (As := []) (rest := []) ⟨hx, hb, hml, hown, hts⟩ (c_M_watch l D k h _ g7) (se_kV 0 hts q_code_X6_watch qX6_m136 q_ini_StreamEndModel q_instanceMethod_X6_watch q_sel_X6_watch (by decide +kernel) ⟨Nat.le_of_ble_eq_true rfl, Nat.le_of_ble_eq_true rfl⟩ rfl rfl) ⟨se_blind se_ZN_ok, va_recv hK hP (ci := 6) (q0 := 0) rfl rfl, se_pre se_ZN_ok hP hK hD hZ⟩ rfl rfl hl.1 rfl (lv_room (Nat.le_of_ble_eq_true rfl)) dX6_run_103 ⟨Nat.zero_le _, Nat.zero_le _⟩) hD hS hA (fun g8 H locs eg8 hP hD hS => ?_)
              refine lv_iinc (v := (v2_47 + 1)) (lv' := [(2, .int (v2_47 + 1)), (0, .ref (h 0)), (1, .int v1_47)]) hx hb dX6_run_106 hl (k := 2) rfl rfl (by decide) rfl (fun ls hl => ?_)
              refine lv_goto (tgt := 47) hx hb dX6_run_109 (by decide) ?_
              exact ih g8 v1_47 (v2_47 + 1) _ _ ls (se_dec c7 hM) (by subst eg8; rw [← hF, F_M_run_k1, if_neg (α := Int32 × se_G) c12]) hP hD hS (lv_sub hl [1, 2, 0] rfl)
            · refine lv_aload_n hx hb dX6_run_98 rfl (lv_at hl 0 rfl) ?_
              refine se_cvE (va_runV (C := RX6) (As := []) (rest := []) ⟨hx, hb, hml, hown, hts⟩ (c_M_ring l D k h _ g7) (se_kV 0 hts q_code_X6_ring qX6_m172 q_ini_StreamEndModel q_instanceMethod_X6_ring q_sel_X6_ring (by decide +kernel) ⟨Nat.le_of_ble_eq_true rfl, Nat.le_of_ble_eq_true rfl⟩ rfl rfl) ⟨se_blind se_ZN_ok, va_recv hK hP (ci := 6) (q0 := 0) rfl rfl, se_pre se_ZN_ok hP hK hD hZ⟩ rfl rfl hl.1 rfl (lv_room (Nat.le_of_ble_eq_true rfl)) dX6_run_99 ⟨Nat.zero_le _, Nat.zero_le _⟩) hD hS hA (fun g9 H locs eg9 hP hD hS => ?_)
              refine lv_aload_n hx hb dX6_run_102 rfl (lv_at hl 0 rfl) ?_
              refine se_cvE (va_runV (C := RX6) (As := []) (rest := []) ⟨hx, hb, hml, hown, hts⟩ (c_M_watch l D k h _ g9) (se_kV 0 hts q_code_X6_watch qX6_m136 q_ini_StreamEndModel q_instanceMethod_X6_watch q_sel_X6_watch (by decide +kernel) ⟨Nat.le_of_ble_eq_true rfl, Nat.le_of_ble_eq_true rfl⟩ rfl rfl) ⟨se_blind se_ZN_ok, va_recv hK hP (ci := 6) (q0 := 0) rfl rfl, se_pre se_ZN_ok hP hK hD hZ⟩ rfl rfl hl.1 rfl (lv_room (Nat.le_of_ble_eq_true rfl)) dX6_run_103 ⟨Nat.zero_le _, Nat.zero_le _⟩) hD hS hA (fun g10 H locs eg10 hP hD hS => ?_)
              refine lv_iinc (v := (v2_47 + 1)) (lv' := [(2, .int (v2_47 + 1)), (0, .ref (h 0)), (1, .int v1_47)]) hx hb dX6_run_106 hl (k := 2) rfl rfl (by decide) rfl (fun ls hl => ?_)
              refine lv_goto (tgt := 47) hx hb dX6_run_109 (by decide) ?_
              exact ih g10 v1_47 (v2_47 + 1) _ _ ls (se_dec c7 hM) (by subst eg9; subst eg10; rw [← hF, F_M_run_k1, if_pos (α := Int32 × se_G) c12]) hP hD hS (lv_sub hl [1, 2, 0] rfl)
  have hF : F_M_run g p1 = F_M_run g p1 := rfl
  refine lv_aload_n hx hb dX6_run_0 rfl (lv_at hl 0 rfl) ?_
  refine lv_iload_n hx hb dX6_run_1 rfl (lv_at hl 1 rfl) ?_
  refine lv_iconst (v := 1) hx hb dX6_run_2 (by decide) ?_
  refine lv_icmp_lt (tgt := 13) hx hb dX6_run_3 (by decide) (fun c1 => ?_) (fun c1 => ?_)
  · refine lv_iconst (v := 1) hx hb dX6_run_13 (by decide) ?_
    refine lv_goto (tgt := 33) hx hb dX6_run_14 (by decide) ?_
    refine va_put (D := D) (ci := 6) (v := .int 1) (ty := .int) (C := RX6) (T := TX6) (N := 50) hx hb hts (se_iw iwX6) tyX6 tyX6_ok nmX6 hown hK hP hD hS 0 rfl rfl 2 (by decide) (hts _ (List.mem_cons_of_mem _ qX6_f45)) (fun _ h9 => h9) rfl (by decide +kernel) rfl rfl (Nat.le_of_ble_eq_true rfl) dX6_run_33 (fun H locs hP hD hS => ?_)
    replace hP : va_P D se_cl (se_WM k h (se_u g 0 2 1)) H := hP
    replace hD : va_D A (se_WM k h (se_u g 0 2 1)) := hD
    refine lv_aload_n hx hb dX6_run_36 rfl (lv_at hl 0 rfl) ?_
    refine va_get (D := D) (ci := 6) (v := .int 1) (C := RX6) (T := TX6) (N := 50) hx hb hts (se_iw iwX6) hown hK hP 0 rfl rfl 2 (by decide) (hts _ (List.mem_cons_of_mem _ qX6_f45)) (fun _ h9 => h9) rfl dX6_run_37 ?_
    refine lv_if_le (tgt := 45) hx hb dX6_run_40 (by decide) (fun c0 => absurd c0 (by decide)) (fun c0 => ?_)
    refine lv_iconst (v := 0) hx hb dX6_run_43 (by decide) ?_
    exact se_ri hx hb hr  hlocks hK hP hD hS dX6_run_44 (by rw [F_M_run, if_pos (α := Int32 × se_G) c1])
  · refine lv_iload_n hx hb dX6_run_6 rfl (lv_at hl 1 rfl) ?_
    refine lv_sipush (v := 2000) hx hb dX6_run_7 (by decide) ?_
    refine lv_icmp_le (tgt := 17) hx hb dX6_run_10 (by decide) (fun c3 => ?_) (fun c3 => ?_)
    · refine lv_aload_n hx hb dX6_run_17 rfl (lv_at hl 0 rfl) ?_
      refine va_get (D := D) (ci := 6) (v := .int (g 0 3)) (C := RX6) (T := TX6) (N := 50) hx hb hts (se_iw iwX6) hown hK hP 0 rfl rfl 3 (by decide) (hts _ (List.mem_cons_of_mem _ qX6_f121)) (fun _ h9 => h9) rfl dX6_run_18 ?_
      refine lv_iload_n hx hb dX6_run_21 rfl (lv_at hl 1 rfl) ?_
      refine lv_iadd hx hb dX6_run_22 ?_
      refine lv_ldc hx hb hown (hts _ (List.mem_cons_of_mem _ qX6_k171)) dX6_run_23 ?_
      refine se_join (v := ((if ((g 0 3) + p1) ≤ 1000000 then 0 else 2) : Int32)) (pcJ := 33) (restJ := [.ref (h 0)]) (ls := ls) (fun T => ?_) ?_
      · refine lv_icmp_le (tgt := 32) hx hb dX6_run_25 (by decide) (fun c5 => ?_) (fun c5 => ?_)
        · refine lv_iconst (v := 0) hx hb dX6_run_32 (by decide) ?_
          exact T _ (mo_ifp c5 rfl)
        · refine lv_iconst (v := 2) hx hb dX6_run_28 (by decide) ?_
          refine lv_goto (tgt := 33) hx hb dX6_run_29 (by decide) ?_
          exact T _ (mo_ifn c5 rfl)
      refine va_put (D := D) (ci := 6) (v := .int ((if ((g 0 3) + p1) ≤ 1000000 then 0 else 2) : Int32)) (ty := .int) (C := RX6) (T := TX6) (N := 50) hx hb hts (se_iw iwX6) tyX6 tyX6_ok nmX6 hown hK hP hD hS 0 rfl rfl 2 (by decide) (hts _ (List.mem_cons_of_mem _ qX6_f45)) (fun _ h9 => h9) rfl (by decide +kernel) rfl rfl (Nat.le_of_ble_eq_true rfl) dX6_run_33 (fun H locs hP hD hS => ?_)
      replace hP : va_P D se_cl (se_WM k h (se_u g 0 2 ((if ((g 0 3) + p1) ≤ 1000000 then 0 else 2) : Int32))) H := hP
      replace hD : va_D A (se_WM k h (se_u g 0 2 ((if ((g 0 3) + p1) ≤ 1000000 then 0 else 2) : Int32))) := hD
      refine lv_aload_n hx hb dX6_run_36 rfl (lv_at hl 0 rfl) ?_
      refine va_get (D := D) (ci := 6) (v := .int ((if ((g 0 3) + p1) ≤ 1000000 then 0 else 2) : Int32)) (C := RX6) (T := TX6) (N := 50) hx hb hts (se_iw iwX6) hown hK hP 0 rfl rfl 2 (by decide) (hts _ (List.mem_cons_of_mem _ qX6_f45)) (fun _ h9 => h9) rfl dX6_run_37 ?_
      refine lv_if_le (tgt := 45) hx hb dX6_run_40 (by decide) (fun c6 => ?_) (fun c6 => ?_)
      · refine lv_iconst (v := 0) hx hb dX6_run_45 (by decide) ?_
        refine lv_istore_n (lv' := [(2, .int 0), (0, .ref (h 0)), (1, .int p1)]) hx hb dX6_run_46 rfl hl (by decide) rfl (fun ls hl => ?_)
        exact L47 ((((p1) : Int32).toInt - ((0) : Int32).toInt).toNat + 1) (se_u g 0 2 ((if ((g 0 3) + p1) ≤ 1000000 then 0 else 2) : Int32)) p1 0 _ _ ls (se_fuel _ _) (by rw [F_M_run, if_neg (α := Int32 × se_G) c1, if_pos (α := Int32 × se_G) c3, if_pos (α := Int32 × se_G) c6]) hP hD hS (lv_sub hl [1, 2, 0] rfl)
      · refine lv_iconst (v := 0) hx hb dX6_run_43 (by decide) ?_
        exact se_ri hx hb hr  hlocks hK hP hD hS dX6_run_44 (by rw [F_M_run, if_neg (α := Int32 × se_G) c1, if_pos (α := Int32 × se_G) c3, if_neg (α := Int32 × se_G) c6])
    · refine lv_iconst (v := 1) hx hb dX6_run_13 (by decide) ?_
      refine lv_goto (tgt := 33) hx hb dX6_run_14 (by decide) ?_
      refine va_put (D := D) (ci := 6) (v := .int 1) (ty := .int) (C := RX6) (T := TX6) (N := 50) hx hb hts (se_iw iwX6) tyX6 tyX6_ok nmX6 hown hK hP hD hS 0 rfl rfl 2 (by decide) (hts _ (List.mem_cons_of_mem _ qX6_f45)) (fun _ h9 => h9) rfl (by decide +kernel) rfl rfl (Nat.le_of_ble_eq_true rfl) dX6_run_33 (fun H locs hP hD hS => ?_)
      replace hP : va_P D se_cl (se_WM k h (se_u g 0 2 1)) H := hP
      replace hD : va_D A (se_WM k h (se_u g 0 2 1)) := hD
      refine lv_aload_n hx hb dX6_run_36 rfl (lv_at hl 0 rfl) ?_
      refine va_get (D := D) (ci := 6) (v := .int 1) (C := RX6) (T := TX6) (N := 50) hx hb hts (se_iw iwX6) hown hK hP 0 rfl rfl 2 (by decide) (hts _ (List.mem_cons_of_mem _ qX6_f45)) (fun _ h9 => h9) rfl dX6_run_37 ?_
      refine lv_if_le (tgt := 45) hx hb dX6_run_40 (by decide) (fun c0 => absurd c0 (by decide)) (fun c0 => ?_)
      refine lv_iconst (v := 0) hx hb dX6_run_43 (by decide) ?_
      exact se_ri hx hb hr  hlocks hK hP hD hS dX6_run_44 (by rw [F_M_run, if_neg (α := Int32 × se_G) c1, if_neg (α := Int32 × se_G) c3])
set_option maxRecDepth 100000 in
set_option maxHeartbeats 4000000 in
theorem c_M_feed (l : Launch) (D : va_G) (k : Nat → ClassId) (h : Nat → Nat) (sz : Nat) (g : se_G) (p1 : Int64) (p3 : Int32) (hI : 0 ≤ (g 0 45).toInt ∧ (g 0 45).toInt ≤ 1460) : Met l yX6_feed (se_w_X6_feed) ({ frames := 0, cells := 0, slots := 0, locals := 0 }) (va_Pc [.ref (h 0), .long p1, .int p3] (se_Pre D se_cl [(k 1, .int), (k 2, .int), (k 3, .boolean), (k 4, .int), (k 5, .int), (k 6, .int)] (se_WM k h g) se_ZN sz)) (se_Qi D se_cl [(k 1, .int), (k 2, .int), (k 3, .boolean), (k 4, .int), (k 5, .int), (k 6, .int)] (se_WM k h) (F_M_feed g p1 p3) (va_A (se_WM k h g) sz)) 0 0 (va_A (se_WM k h g) sz) := by
  refine se_met (Qc := se_Qi D se_cl [(k 1, .int), (k 2, .int), (k 3, .boolean), (k 4, .int), (k 5, .int), (k 6, .int)] (se_WM k h) (F_M_feed g p1 p3)) (cc := cX6_feed) (maxL := 5) (ret := (some .int)) (by decide) rfl (Nat.le_of_ble_eq_true rfl) ?_
  intro p e s m below meth c ls A hx hb hr hts hown hlocks hml hA hP hK hD hS hZ hl
  replace hl : lv_has ls 5 [(0, .ref (h 0)), (1, .long p1), (3, .int p3)] := hl
  have L50 : ∀ (n : Nat) (gj50 : se_G) (v1_50 : Int64) (v4_50 : Int32) (H : Heap) (locs : List Loc) (ls : Array Slot), (0 ≤ (gj50 0 45).toInt ∧ (gj50 0 45).toInt + (v4_50).toInt + 1 ≤ 1460 ∧ -1 ≤ (v4_50).toInt) → ((v4_50).toInt + 1).toNat < n → F_M_feed_j50 n gj50 v1_50 v4_50 = F_M_feed g p1 p3 → va_P D se_cl (se_WM k h gj50) H → va_D A (se_WM k h gj50) → va_S A s.heap H locs → lv_has ls 5 [(0, .ref (h 0)), (1, .long v1_50), (4, .int v4_50)] → W p l e ({ frames := 0, cells := 0, slots := 0, locals := 0 }) s m [.ref (h 0), .long p1, .int p3].toArray below meth c H locs 0 0 (MQ below (se_Qi D se_cl [(k 1, .int), (k 2, .int), (k 3, .boolean), (k 4, .int), (k 5, .int), (k 6, .int)] (se_WM k h) (F_M_feed g p1 p3) A) [.ref (h 0), .long p1, .int p3].toArray s 0 0 A) (F0 m 50 ls []) := by
    intro n
    induction n with
    | zero => intro gj50 v1_50 v4_50 H locs ls hI hM; exact absurd hM (Nat.not_lt_zero _)
    | succ n ih =>
      intro gj50 v1_50 v4_50 H locs ls hI hM hF hP hD hS hl
      refine lv_iload hx hb dX6_feed_50 (lv_at hl 2 rfl) ?_
      refine lv_if_lt (tgt := 92) hx hb dX6_feed_52 (by decide) (fun c6 => ?_) (fun c6 => ?_)
      · refine lv_aload_n hx hb dX6_feed_92 rfl (lv_at hl 0 rfl) ?_
        refine va_get (D := D) (ci := 6) (v := .int (gj50 0 45)) (C := RX6) (T := TX6) (N := 50) hx hb hts (se_iw iwX6) hown hK hP 0 rfl rfl 45 (by decide) (hts _ (List.mem_cons_of_mem _ qX6_f175)) (fun _ h9 => h9) rfl dX6_feed_93 ?_
        exact se_ri hx hb hr  hlocks hK hP hD hS dX6_feed_96 (by rw [← hF, F_M_feed_j50, if_pos (α := Int32 × se_G) c6])
      · refine lv_aload_n hx hb dX6_feed_55 rfl (lv_at hl 0 rfl) ?_
        refine va_get (D := D) (ci := 6) (v := .ref (h 4)) (C := RX6) (T := TX6) (N := 50) hx hb hts (se_iw iwX6) hown hK hP 0 rfl rfl 44 (by decide) (hts _ (List.mem_cons_of_mem _ qX6_f27)) (fun _ h9 => h9) rfl dX6_feed_56 ?_
        refine lv_aload_n hx hb dX6_feed_59 rfl (lv_at hl 0 rfl) ?_
        refine va_get (D := D) (ci := 6) (v := .int (gj50 0 45)) (C := RX6) (T := TX6) (N := 50) hx hb hts (se_iw iwX6) hown hK hP 0 rfl rfl 45 (by decide) (hts _ (List.mem_cons_of_mem _ qX6_f175)) (fun _ h9 => h9) rfl dX6_feed_60 ?_
        refine lv_lload_n hx hb dX6_feed_63 rfl (lv_at hl 1 rfl) ?_
        refine lv_bipush (v := 8) hx hb dX6_feed_64 (by decide) ?_
        refine lv_iload hx hb dX6_feed_66 (lv_at hl 2 rfl) ?_
        refine lv_imul hx hb dX6_feed_68 ?_
        refine lv_lshr (v := (v1_50 >>> (Int32.toInt64 (8 * v4_50) &&& 63))) hx hb dX6_feed_69 rfl ?_
        refine lv_ldc2 hx hb hown (hts _ (List.mem_cons_of_mem _ qX6_k134)) dX6_feed_70 ?_
        refine lv_land hx hb dX6_feed_73 ?_
        refine lv_l2i (v := (Int64.toInt32 (((v1_50 >>> (Int32.toInt64 (8 * v4_50) &&& 63))) &&& 255))) hx hb dX6_feed_74 rfl ?_
        refine va_iast hx hb hK hP hD hS 4 3 rfl rfl (mo_fd2 c6 hI) dX6_feed_75 (fun H locs hP hD hS => ?_)
        replace hP : va_P D se_cl (se_WM k h (se_u gj50 4 (Int32.toNatClampNeg (gj50 0 45)) (Int64.toInt32 (((v1_50 >>> (Int32.toInt64 (8 * v4_50) &&& 63))) &&& 255)))) H := hP
        replace hD : va_D A (se_WM k h (se_u gj50 4 (Int32.toNatClampNeg (gj50 0 45)) (Int64.toInt32 (((v1_50 >>> (Int32.toInt64 (8 * v4_50) &&& 63))) &&& 255)))) := hD
        refine lv_aload_n hx hb dX6_feed_76 rfl (lv_at hl 0 rfl) ?_
        refine lv_dup hx hb dX6_feed_77 rfl ?_
        refine va_get (D := D) (ci := 6) (v := .int (gj50 0 45)) (C := RX6) (T := TX6) (N := 50) hx hb hts (se_iw iwX6) hown hK hP 0 rfl rfl 45 (by decide) (hts _ (List.mem_cons_of_mem _ qX6_f175)) (fun _ h9 => h9) rfl dX6_feed_78 ?_
        refine lv_iconst (v := 1) hx hb dX6_feed_81 (by decide) ?_
        refine lv_iadd hx hb dX6_feed_82 ?_
        refine va_put (D := D) (ci := 6) (v := .int ((gj50 0 45) + 1)) (ty := .int) (C := RX6) (T := TX6) (N := 50) hx hb hts (se_iw iwX6) tyX6 tyX6_ok nmX6 hown hK hP hD hS 0 rfl rfl 45 (by decide) (hts _ (List.mem_cons_of_mem _ qX6_f175)) (fun _ h9 => h9) rfl (by decide +kernel) rfl rfl (Nat.le_of_ble_eq_true rfl) dX6_feed_83 (fun H locs hP hD hS => ?_)
        replace hP : va_P D se_cl (se_WM k h (se_u (se_u gj50 4 (Int32.toNatClampNeg (gj50 0 45)) (Int64.toInt32 (((v1_50 >>> (Int32.toInt64 (8 * v4_50) &&& 63))) &&& 255))) 0 45 ((gj50 0 45) + 1))) H := hP
        replace hD : va_D A (se_WM k h (se_u (se_u gj50 4 (Int32.toNatClampNeg (gj50 0 45)) (Int64.toInt32 (((v1_50 >>> (Int32.toInt64 (8 * v4_50) &&& 63))) &&& 255))) 0 45 ((gj50 0 45) + 1))) := hD
        refine lv_iinc (v := (v4_50 + (-1))) (lv' := [(4, .int (v4_50 + (-1))), (0, .ref (h 0)), (1, .long v1_50)]) hx hb dX6_feed_86 hl (k := 2) rfl rfl (by decide) rfl (fun ls hl => ?_)
        refine lv_goto (tgt := 50) hx hb dX6_feed_89 (by decide) ?_
        exact ih (se_u (se_u gj50 4 (Int32.toNatClampNeg (gj50 0 45)) (Int64.toInt32 (((v1_50 >>> (Int32.toInt64 (8 * v4_50) &&& 63))) &&& 255))) 0 45 ((gj50 0 45) + 1)) v1_50 (v4_50 + (-1)) _ _ ls (mo_fd1 c6 hI) (mo_decD c6 hM) (by rw [← hF, F_M_feed_j50, if_neg (α := Int32 × se_G) c6]) hP hD hS (lv_sub hl [1, 2, 0] rfl)
  have hF : F_M_feed g p1 p3 = F_M_feed g p1 p3 := rfl
  refine lv_aload_n hx hb dX6_feed_0 rfl (lv_at hl 0 rfl) ?_
  refine lv_iload_n hx hb dX6_feed_1 rfl (lv_at hl 2 rfl) ?_
  refine lv_iconst (v := 1) hx hb dX6_feed_2 (by decide) ?_
  refine se_join (v := ((if p3 < 1 then 1 else ((if p3 ≤ 8 then ((if ((g 0 45) + p3) ≤ 1460 then 0 else 2) : Int32) else 1) : Int32)) : Int32)) (pcJ := 33) (restJ := [.ref (h 0)]) (ls := ls) (fun T => ?_) ?_
  · refine lv_icmp_lt (tgt := 12) hx hb dX6_feed_3 (by decide) (fun c2 => ?_) (fun c2 => ?_)
    · refine lv_iconst (v := 1) hx hb dX6_feed_12 (by decide) ?_
      refine lv_goto (tgt := 33) hx hb dX6_feed_13 (by decide) ?_
      exact T _ (mo_ifp c2 rfl)
    · refine lv_iload_n hx hb dX6_feed_6 rfl (lv_at hl 2 rfl) ?_
      refine lv_bipush (v := 8) hx hb dX6_feed_7 (by decide) ?_
      refine lv_icmp_le (tgt := 16) hx hb dX6_feed_9 (by decide) (fun c3 => ?_) (fun c3 => ?_)
      · refine lv_aload_n hx hb dX6_feed_16 rfl (lv_at hl 0 rfl) ?_
        refine va_get (D := D) (ci := 6) (v := .int (g 0 45)) (C := RX6) (T := TX6) (N := 50) hx hb hts (se_iw iwX6) hown hK hP 0 rfl rfl 45 (by decide) (hts _ (List.mem_cons_of_mem _ qX6_f175)) (fun _ h9 => h9) rfl dX6_feed_17 ?_
        refine lv_iload_n hx hb dX6_feed_20 rfl (lv_at hl 2 rfl) ?_
        refine lv_iadd hx hb dX6_feed_21 ?_
        refine lv_sipush (v := 1460) hx hb dX6_feed_22 (by decide) ?_
        refine lv_icmp_le (tgt := 32) hx hb dX6_feed_25 (by decide) (fun c4 => ?_) (fun c4 => ?_)
        · refine lv_iconst (v := 0) hx hb dX6_feed_32 (by decide) ?_
          exact T _ (mo_ifn c2 (mo_ifp c3 (mo_ifp c4 rfl)))
        · refine lv_iconst (v := 2) hx hb dX6_feed_28 (by decide) ?_
          refine lv_goto (tgt := 33) hx hb dX6_feed_29 (by decide) ?_
          exact T _ (mo_ifn c2 (mo_ifp c3 (mo_ifn c4 rfl)))
      · refine lv_iconst (v := 1) hx hb dX6_feed_12 (by decide) ?_
        refine lv_goto (tgt := 33) hx hb dX6_feed_13 (by decide) ?_
        exact T _ (mo_ifn c2 (mo_ifn c3 rfl))
  refine va_put (D := D) (ci := 6) (v := .int ((if p3 < 1 then 1 else ((if p3 ≤ 8 then ((if ((g 0 45) + p3) ≤ 1460 then 0 else 2) : Int32) else 1) : Int32)) : Int32)) (ty := .int) (C := RX6) (T := TX6) (N := 50) hx hb hts (se_iw iwX6) tyX6 tyX6_ok nmX6 hown hK hP hD hS 0 rfl rfl 2 (by decide) (hts _ (List.mem_cons_of_mem _ qX6_f45)) (fun _ h9 => h9) rfl (by decide +kernel) rfl rfl (Nat.le_of_ble_eq_true rfl) dX6_feed_33 (fun H locs hP hD hS => ?_)
  replace hP : va_P D se_cl (se_WM k h (se_u g 0 2 ((if p3 < 1 then 1 else ((if p3 ≤ 8 then ((if ((g 0 45) + p3) ≤ 1460 then 0 else 2) : Int32) else 1) : Int32)) : Int32))) H := hP
  replace hD : va_D A (se_WM k h (se_u g 0 2 ((if p3 < 1 then 1 else ((if p3 ≤ 8 then ((if ((g 0 45) + p3) ≤ 1460 then 0 else 2) : Int32) else 1) : Int32)) : Int32))) := hD
  refine lv_aload_n hx hb dX6_feed_36 rfl (lv_at hl 0 rfl) ?_
  refine va_get (D := D) (ci := 6) (v := .int ((if p3 < 1 then 1 else ((if p3 ≤ 8 then ((if ((g 0 45) + p3) ≤ 1460 then 0 else 2) : Int32) else 1) : Int32)) : Int32)) (C := RX6) (T := TX6) (N := 50) hx hb hts (se_iw iwX6) hown hK hP 0 rfl rfl 2 (by decide) (hts _ (List.mem_cons_of_mem _ qX6_f45)) (fun _ h9 => h9) rfl dX6_feed_37 ?_
  refine lv_if_le (tgt := 45) hx hb dX6_feed_40 (by decide) (fun c5 => ?_) (fun c5 => ?_)
  · refine lv_iload_n hx hb dX6_feed_45 rfl (lv_at hl 2 rfl) ?_
    refine lv_iconst (v := 1) hx hb dX6_feed_46 (by decide) ?_
    refine lv_isub hx hb dX6_feed_47 ?_
    refine lv_istore (lv' := [(4, .int (p3 - 1)), (0, .ref (h 0)), (1, .long p1), (3, .int p3)]) hx hb dX6_feed_48 hl (by decide) rfl (fun ls hl => ?_)
    exact L50 (((((p3 - 1)) : Int32).toInt + 1).toNat + 1) (se_u g 0 2 ((if p3 < 1 then 1 else ((if p3 ≤ 8 then ((if ((g 0 45) + p3) ≤ 1460 then 0 else 2) : Int32) else 1) : Int32)) : Int32)) p1 (p3 - 1) _ _ ls (mo_fd0 (by assumption) hI) (Nat.lt_succ_self _) (by rw [F_M_feed, if_pos (α := Int32 × se_G) c5]) hP hD hS (lv_sub hl [1, 2, 0] rfl)
  · refine lv_iconst (v := 0) hx hb dX6_feed_43 (by decide) ?_
    exact se_ri hx hb hr  hlocks hK hP hD hS dX6_feed_44 (by rw [F_M_feed, if_neg (α := Int32 × se_G) c5])
