/-! written by program (wip/gen) -/
set_option maxRecDepth 100000 in
set_option maxHeartbeats 4000000 in
theorem c_M_room (l : Launch) (D : va_G) (k : Nat → ClassId) (h : Nat → Nat) (sz : Nat) (g : se_G)  : Met l yX6_room (se_w_X6_room) ({ frames := 0, cells := 0, slots := 0, locals := 0 }) (va_Pc [.ref (h 0)] (se_Pre D se_cl [(k 1, .int), (k 2, .int), (k 3, .boolean), (k 4, .int), (k 5, .int), (k 6, .int)] (se_WM k h g) se_ZN sz)) (se_Qp (F_M_room g)) 0 0 (fun _ => False) := by
  refine se_metP (cc := cX6_room) (maxL := 1) (ret := (some .int)) (by decide) rfl (Nat.le_of_ble_eq_true rfl) ?_
  intro p e s m below meth c ls A hx hb hr hts hown hlocks hml hA hP hK hD hS hZ hl
  replace hl : lv_has ls 1 [(0, .ref (h 0))] := hl
  have hF : F_M_room g = F_M_room g := rfl
  refine lv_sipush (v := 2048) hx hb dX6_room_0 (by decide) ?_
  refine lv_aload_n hx hb dX6_room_3 rfl (lv_at hl 0 rfl) ?_
  refine va_get (D := D) (ci := 6) (v := .int (g 0 20)) (C := RX6) (T := TX6) (N := 50) hx hb hts (se_iw iwX6) hown hK hP 0 rfl rfl 20 (by decide) (hts _ (List.mem_cons_of_mem _ qX6_f66)) (fun _ h9 => h9) rfl dX6_room_4 ?_
  refine lv_isub hx hb dX6_room_7 ?_
  exact se_rp hx hb hr  hlocks dX6_room_8 (by rw [F_M_room])
set_option maxRecDepth 100000 in
set_option maxHeartbeats 4000000 in
theorem c_M_isShort (l : Launch) (D : va_G) (k : Nat → ClassId) (h : Nat → Nat) (sz : Nat) (g : se_G)  : Met l yX6_isShort (se_w_X6_isShort) ({ frames := 1, cells := 0, slots := 0, locals := 20 }) (va_Pc [.ref (h 0)] (se_Pre D se_cl [(k 1, .int), (k 2, .int), (k 3, .boolean), (k 4, .int), (k 5, .int), (k 6, .int)] (se_WM k h g) se_ZN sz)) (se_Qp (F_M_isShort g)) 0 0 (fun _ => False) := by
  refine se_metP (cc := cX6_isShort) (maxL := 1) (ret := (some .boolean)) (by decide) rfl (Nat.le_of_ble_eq_true rfl) ?_
  intro p e s m below meth c ls A hx hb hr hts hown hlocks hml hA hP hK hD hS hZ hl
  replace hl : lv_has ls 1 [(0, .ref (h 0))] := hl
  have hF : F_M_isShort g = F_M_isShort g := rfl
  refine lv_aload_n hx hb dX6_isShort_0 rfl (lv_at hl 0 rfl) ?_
  refine se_cp (va_runV (C := RX6) (As := []) (rest := []) ⟨hx, hb, hml, hown, hts⟩ (c_M_room l D k h _ g) (se_kV 0 hts q_code_X6_room qX6_m139 q_ini_StreamEndModel q_instanceMethod_X6_room q_sel_X6_room (by decide +kernel) ⟨Nat.le_of_ble_eq_true rfl, Nat.le_of_ble_eq_true rfl⟩ rfl rfl) ⟨se_blind se_ZN_ok, va_recv hK hP (ci := 6) (q0 := 0) rfl rfl, se_pre se_ZN_ok hP hK hD hZ⟩ rfl rfl hl.1 rfl (lv_room (Nat.le_of_ble_eq_true rfl)) dX6_isShort_1 ⟨Nat.zero_le _, Nat.zero_le _⟩) ?_
  refine lv_aload_n hx hb dX6_isShort_4 rfl (lv_at hl 0 rfl) ?_
  refine va_get (D := D) (ci := 6) (v := .int (g 0 11)) (C := RX6) (T := TX6) (N := 50) hx hb hts (se_iw iwX6) hown hK hP 0 rfl rfl 11 (by decide) (hts _ (List.mem_cons_of_mem _ qX6_f42)) (fun _ h9 => h9) rfl dX6_isShort_5 ?_
  refine lv_sipush (v := 1024) hx hb dX6_isShort_8 (by decide) ?_
  refine se_join (v := ((if 1024 ≤ (g 0 11) then 1024 else (g 0 11)) : Int32)) (pcJ := 24) (restJ := [.int (F_M_room g)]) (ls := ls) (fun T => ?_) ?_
  · refine lv_icmp_ge (tgt := 21) hx hb dX6_isShort_11 (by decide) (fun c2 => ?_) (fun c2 => ?_)
    · refine lv_sipush (v := 1024) hx hb dX6_isShort_21 (by decide) ?_
      exact T _ (mo_ifp c2 rfl)
    · refine lv_aload_n hx hb dX6_isShort_14 rfl (lv_at hl 0 rfl) ?_
      refine va_get (D := D) (ci := 6) (v := .int (g 0 11)) (C := RX6) (T := TX6) (N := 50) hx hb hts (se_iw iwX6) hown hK hP 0 rfl rfl 11 (by decide) (hts _ (List.mem_cons_of_mem _ qX6_f42)) (fun _ h9 => h9) rfl dX6_isShort_15 ?_
      refine lv_goto (tgt := 24) hx hb dX6_isShort_18 (by decide) ?_
      exact T _ (mo_ifn c2 rfl)
  refine lv_icmp_ge (tgt := 31) hx hb dX6_isShort_24 (by decide) (fun c3 => ?_) (fun c3 => ?_)
  · refine lv_iconst (v := 0) hx hb dX6_isShort_31 (by decide) ?_
    exact se_rpz hx hb hr rfl hlocks dX6_isShort_32 (by rw [F_M_isShort, if_pos (α := Int32) c3])
  · refine lv_iconst (v := 1) hx hb dX6_isShort_27 (by decide) ?_
    refine lv_goto (tgt := 32) hx hb dX6_isShort_28 (by decide) ?_
    exact se_rpz hx hb hr rfl hlocks dX6_isShort_32 (by rw [F_M_isShort, if_neg (α := Int32) c3])
set_option maxRecDepth 100000 in
set_option maxHeartbeats 4000000 in
theorem c_M_read (l : Launch) (D : va_G) (k : Nat → ClassId) (h : Nat → Nat) (sz : Nat) (g : se_G)  : Met l yX6_read (se_w_X6_read) ({ frames := 2, cells := 0, slots := 0, locals := 40 }) (va_Pc [.ref (h 0)] (se_Pre D se_cl [(k 1, .int), (k 2, .int), (k 3, .boolean), (k 4, .int), (k 5, .int), (k 6, .int)] (se_WM k h g) se_ZN sz)) (se_Qi D se_cl [(k 1, .int), (k 2, .int), (k 3, .boolean), (k 4, .int), (k 5, .int), (k 6, .int)] (se_WM k h) (F_M_read g) (va_A (se_WM k h g) sz)) 0 0 (va_A (se_WM k h g) sz) := by
  refine se_met (Qc := se_Qi D se_cl [(k 1, .int), (k 2, .int), (k 3, .boolean), (k 4, .int), (k 5, .int), (k 6, .int)] (se_WM k h) (F_M_read g)) (cc := cX6_read) (maxL := 4) (ret := (some .int)) (by decide) rfl (Nat.le_of_ble_eq_true rfl) ?_
  intro p e s m below meth c ls A hx hb hr hts hown hlocks hml hA hP hK hD hS hZ hl
  replace hl : lv_has ls 4 [(0, .ref (h 0))] := hl
  have L101 : ∀ (n : Nat) (gj101 : se_G) (v1_101 : Int32) (v2_101 : Int32) (v3_101 : Int32) (H : Heap) (locs : List Loc) (ls : Array Slot), (0 ≤ (v3_101).toInt ∧ (v3_101).toInt ≤ 2047) → ((2048 : Int32).toInt - (v3_101).toInt).toNat < n → F_M_read_j101 n gj101 v1_101 v2_101 v3_101 = F_M_read g → va_P D se_cl (se_WM k h gj101) H → va_D A (se_WM k h gj101) → va_S A s.heap H locs → lv_has ls 4 [(0, .ref (h 0)), (1, .int v1_101), (2, .int v2_101), (3, .int v3_101)] → W p l e ({ frames := 2, cells := 0, slots := 0, locals := 40 }) s m [.ref (h 0)].toArray below meth c H locs 0 0 (MQ below (se_Qi D se_cl [(k 1, .int), (k 2, .int), (k 3, .boolean), (k 4, .int), (k 5, .int), (k 6, .int)] (se_WM k h) (F_M_read g) A) [.ref (h 0)].toArray s 0 0 A) (F0 m 101 ls []) := by
    intro n
    induction n with
    | zero => intro gj101 v1_101 v2_101 v3_101 H locs ls hI hM; exact absurd hM (Nat.not_lt_zero _)
    | succ n ih =>
      intro gj101 v1_101 v2_101 v3_101 H locs ls hI hM hF hP hD hS hl
      refine lv_iload_n hx hb dX6_read_101 rfl (lv_at hl 3 rfl) ?_
      refine lv_iconst (v := 1) hx hb dX6_read_102 (by decide) ?_
      refine lv_iadd hx hb dX6_read_103 ?_
      refine lv_sipush (v := 2048) hx hb dX6_read_104 (by decide) ?_
      refine lv_icmp_ge (tgt := 144) hx hb dX6_read_107 (by decide) (fun c2 => ?_) (fun c2 => ?_)
      · refine lv_aload_n hx hb dX6_read_144 rfl (lv_at hl 0 rfl) ?_
        refine va_get (D := D) (ci := 6) (v := .ref (h 3)) (C := RX6) (T := TX6) (N := 50) hx hb hts (se_iw iwX6) hown hK hP 0 rfl rfl 19 (by decide) (hts _ (List.mem_cons_of_mem _ qX6_f16)) (fun _ h9 => h9) rfl dX6_read_145 ?_
        refine lv_sipush (v := 2047) hx hb dX6_read_148 (by decide) ?_
        refine lv_iconst (v := 0) hx hb dX6_read_151 (by decide) ?_
        refine va_zast hx hb hK hP hD hS 3 2 rfl rfl (mo_in (by decide) (by decide)) dX6_read_152 (fun H locs hP hD hS => ?_)
        replace hP : va_P D se_cl (se_WM k h (se_u gj101 3 (Int32.toNatClampNeg 2047) (vp_nar .boolean 0))) H := hP
        replace hD : va_D A (se_WM k h (se_u gj101 3 (Int32.toNatClampNeg 2047) (vp_nar .boolean 0))) := hD
        refine lv_aload_n hx hb dX6_read_153 rfl (lv_at hl 0 rfl) ?_
        refine lv_dup hx hb dX6_read_154 rfl ?_
        refine va_get (D := D) (ci := 6) (v := .int (gj101 0 20)) (C := RX6) (T := TX6) (N := 50) hx hb hts (se_iw iwX6) hown hK hP 0 rfl rfl 20 (by decide) (hts _ (List.mem_cons_of_mem _ qX6_f66)) (fun _ h9 => h9) rfl dX6_read_155 ?_
        refine lv_iconst (v := 1) hx hb dX6_read_158 (by decide) ?_
        refine lv_isub hx hb dX6_read_159 ?_
        refine va_put (D := D) (ci := 6) (v := .int ((gj101 0 20) - 1)) (ty := .int) (C := RX6) (T := TX6) (N := 50) hx hb hts (se_iw iwX6) tyX6 tyX6_ok nmX6 hown hK hP hD hS 0 rfl rfl 20 (by decide) (hts _ (List.mem_cons_of_mem _ qX6_f66)) (fun _ h9 => h9) rfl (by decide +kernel) rfl rfl (Nat.le_of_ble_eq_true rfl) dX6_read_160 (fun H locs hP hD hS => ?_)
        replace hP : va_P D se_cl (se_WM k h (se_u (se_u gj101 3 (Int32.toNatClampNeg 2047) (vp_nar .boolean 0)) 0 20 ((gj101 0 20) - 1))) H := hP
        replace hD : va_D A (se_WM k h (se_u (se_u gj101 3 (Int32.toNatClampNeg 2047) (vp_nar .boolean 0)) 0 20 ((gj101 0 20) - 1))) := hD
        refine lv_aload_n hx hb dX6_read_163 rfl (lv_at hl 0 rfl) ?_
        refine lv_aload_n hx hb dX6_read_164 rfl (lv_at hl 0 rfl) ?_
        refine va_get (D := D) (ci := 6) (v := .int (gj101 0 33)) (C := RX6) (T := TX6) (N := 50) hx hb hts (se_iw iwX6) hown hK hP 0 rfl rfl 33 (by decide) (hts _ (List.mem_cons_of_mem _ qX6_f112)) (fun _ h9 => h9) rfl dX6_read_165 ?_
        refine se_join (v := ((if (gj101 0 33) = 0 then ((if v2_101 = 0 then 0 else ((if (F_M_isShort (se_u (se_u gj101 3 (Int32.toNatClampNeg 2047) (vp_nar .boolean 0)) 0 20 ((gj101 0 20) - 1))) = 0 then ((if (gj101 0 4) < 4 then 0 else ((if 6 < (gj101 0 4) then 0 else 1) : Int32)) : Int32) else 0) : Int32)) : Int32) else 1) : Int32)) (pcJ := 204) (restJ := [.ref (h 0)]) (ls := ls) (fun T => ?_) ?_
        · refine lv_if_ne (tgt := 199) hx hb dX6_read_168 (by decide) (fun c4 => ?_) (fun c4 => ?_)
          · refine lv_iconst (v := 1) hx hb dX6_read_199 (by decide) ?_
            refine lv_goto (tgt := 204) hx hb dX6_read_200 (by decide) ?_
            exact T _ (mo_ifn c4 rfl)
          · refine lv_iload_n hx hb dX6_read_171 rfl (lv_at hl 2 rfl) ?_
            refine lv_if_eq (tgt := 203) hx hb dX6_read_172 (by decide) (fun c5 => ?_) (fun c5 => ?_)
            · refine lv_iconst (v := 0) hx hb dX6_read_203 (by decide) ?_
              exact T _ (mo_ifp c4 (mo_ifp c5 rfl))
            · refine lv_aload_n hx hb dX6_read_175 rfl (lv_at hl 0 rfl) ?_
              refine se_cp (va_runV (C := RX6) (As := []) (rest := [.ref (h 0)]) ⟨hx, hb, hml, hown, hts⟩ (c_M_isShort l D k h _ (se_u (se_u gj101 3 (Int32.toNatClampNeg 2047) (vp_nar .boolean 0)) 0 20 ((gj101 0 20) - 1))) (se_kV 0 hts q_code_X6_isShort qX6_m143 q_ini_StreamEndModel q_instanceMethod_X6_isShort q_sel_X6_isShort (by decide +kernel) ⟨Nat.le_of_ble_eq_true rfl, Nat.le_of_ble_eq_true rfl⟩ rfl rfl) ⟨se_blind se_ZN_ok, va_recv hK hP (ci := 6) (q0 := 0) rfl rfl, se_pre se_ZN_ok hP hK hD hZ⟩ rfl rfl hl.1 rfl (lv_room (Nat.le_of_ble_eq_true rfl)) dX6_read_176 ⟨Nat.zero_le _, Nat.zero_le _⟩) ?_
              refine lv_if_ne (tgt := 203) hx hb dX6_read_179 (by decide) (fun c6 => ?_) (fun c6 => ?_)
              · refine lv_iconst (v := 0) hx hb dX6_read_203 (by decide) ?_
                exact T _ (mo_ifp c4 (mo_ifn c5 (mo_ifn c6 rfl)))
              · refine lv_aload_n hx hb dX6_read_182 rfl (lv_at hl 0 rfl) ?_
                refine va_get (D := D) (ci := 6) (v := .int (gj101 0 4)) (C := RX6) (T := TX6) (N := 50) hx hb hts (se_iw iwX6) hown hK hP 0 rfl rfl 4 (by decide) (hts _ (List.mem_cons_of_mem _ qX6_f118)) (fun _ h9 => h9) rfl dX6_read_183 ?_
                refine lv_iconst (v := 4) hx hb dX6_read_186 (by decide) ?_
                refine lv_icmp_lt (tgt := 203) hx hb dX6_read_187 (by decide) (fun c7 => ?_) (fun c7 => ?_)
                · refine lv_iconst (v := 0) hx hb dX6_read_203 (by decide) ?_
                  exact T _ (mo_ifp c4 (mo_ifn c5 (mo_ifp c6 (mo_ifp c7 rfl))))
                · refine lv_aload_n hx hb dX6_read_190 rfl (lv_at hl 0 rfl) ?_
                  refine va_get (D := D) (ci := 6) (v := .int (gj101 0 4)) (C := RX6) (T := TX6) (N := 50) hx hb hts (se_iw iwX6) hown hK hP 0 rfl rfl 4 (by decide) (hts _ (List.mem_cons_of_mem _ qX6_f118)) (fun _ h9 => h9) rfl dX6_read_191 ?_
                  refine lv_bipush (v := 6) hx hb dX6_read_194 (by decide) ?_
                  refine lv_icmp_gt (tgt := 203) hx hb dX6_read_196 (by decide) (fun c8 => ?_) (fun c8 => ?_)
                  · refine lv_iconst (v := 0) hx hb dX6_read_203 (by decide) ?_
                    exact T _ (mo_ifp c4 (mo_ifn c5 (mo_ifp c6 (mo_ifn c7 (mo_ifp c8 rfl)))))
                  · refine lv_iconst (v := 1) hx hb dX6_read_199 (by decide) ?_
                    refine lv_goto (tgt := 204) hx hb dX6_read_200 (by decide) ?_
                    exact T _ (mo_ifp c4 (mo_ifn c5 (mo_ifp c6 (mo_ifn c7 (mo_ifn c8 rfl)))))
        have hz204 : ((if (gj101 0 33) = 0 then ((if v2_101 = 0 then 0 else ((if (F_M_isShort (se_u (se_u gj101 3 (Int32.toNatClampNeg 2047) (vp_nar .boolean 0)) 0 20 ((gj101 0 20) - 1))) = 0 then ((if (gj101 0 4) < 4 then 0 else ((if 6 < (gj101 0 4) then 0 else 1) : Int32)) : Int32) else 0) : Int32)) : Int32) else 1) : Int32) = 0 ∨ ((if (gj101 0 33) = 0 then ((if v2_101 = 0 then 0 else ((if (F_M_isShort (se_u (se_u gj101 3 (Int32.toNatClampNeg 2047) (vp_nar .boolean 0)) 0 20 ((gj101 0 20) - 1))) = 0 then ((if (gj101 0 4) < 4 then 0 else ((if 6 < (gj101 0 4) then 0 else 1) : Int32)) : Int32) else 0) : Int32)) : Int32) else 1) : Int32) = 1 := (mo_b01 (mo_b01 (Or.inl rfl) (mo_b01 (mo_b01 (Or.inl rfl) (mo_b01 (Or.inl rfl) (Or.inr rfl))) (Or.inl rfl))) (Or.inr rfl))
        refine va_put (D := D) (ci := 6) (v := .int ((if (gj101 0 33) = 0 then ((if v2_101 = 0 then 0 else ((if (F_M_isShort (se_u (se_u gj101 3 (Int32.toNatClampNeg 2047) (vp_nar .boolean 0)) 0 20 ((gj101 0 20) - 1))) = 0 then ((if (gj101 0 4) < 4 then 0 else ((if 6 < (gj101 0 4) then 0 else 1) : Int32)) : Int32) else 0) : Int32)) : Int32) else 1) : Int32)) (ty := .boolean) (C := RX6) (T := TX6) (N := 50) hx hb hts (se_iw iwX6) tyX6 tyX6_ok nmX6 hown hK hP hD hS 0 rfl rfl 33 (by decide) (hts _ (List.mem_cons_of_mem _ qX6_f112)) (fun _ h9 => h9) rfl (by decide +kernel) (se_nz hz204) (se_fz hz204) (Nat.le_of_ble_eq_true rfl) dX6_read_204 (fun H locs hP hD hS => ?_)
        replace hP : va_P D se_cl (se_WM k h (se_u (se_u (se_u gj101 3 (Int32.toNatClampNeg 2047) (vp_nar .boolean 0)) 0 20 ((gj101 0 20) - 1)) 0 33 ((if (gj101 0 33) = 0 then ((if v2_101 = 0 then 0 else ((if (F_M_isShort (se_u (se_u gj101 3 (Int32.toNatClampNeg 2047) (vp_nar .boolean 0)) 0 20 ((gj101 0 20) - 1))) = 0 then ((if (gj101 0 4) < 4 then 0 else ((if 6 < (gj101 0 4) then 0 else 1) : Int32)) : Int32) else 0) : Int32)) : Int32) else 1) : Int32))) H := hP
        replace hD : va_D A (se_WM k h (se_u (se_u (se_u gj101 3 (Int32.toNatClampNeg 2047) (vp_nar .boolean 0)) 0 20 ((gj101 0 20) - 1)) 0 33 ((if (gj101 0 33) = 0 then ((if v2_101 = 0 then 0 else ((if (F_M_isShort (se_u (se_u gj101 3 (Int32.toNatClampNeg 2047) (vp_nar .boolean 0)) 0 20 ((gj101 0 20) - 1))) = 0 then ((if (gj101 0 4) < 4 then 0 else ((if 6 < (gj101 0 4) then 0 else 1) : Int32)) : Int32) else 0) : Int32)) : Int32) else 1) : Int32))) := hD
        refine lv_iload_n hx hb dX6_read_207 rfl (lv_at hl 1 rfl) ?_
        exact se_ri hx hb hr  hlocks hK hP hD hS dX6_read_208 (by rw [← hF, F_M_read_j101, if_pos (α := Int32 × se_G) c2])
      · refine lv_aload_n hx hb dX6_read_110 rfl (lv_at hl 0 rfl) ?_
        refine va_get (D := D) (ci := 6) (v := .ref (h 2)) (C := RX6) (T := TX6) (N := 50) hx hb hts (se_iw iwX6) hown hK hP 0 rfl rfl 18 (by decide) (hts _ (List.mem_cons_of_mem _ qX6_f13)) (fun _ h9 => h9) rfl dX6_read_111 ?_
        refine lv_iload_n hx hb dX6_read_114 rfl (lv_at hl 3 rfl) ?_
        refine lv_aload_n hx hb dX6_read_115 rfl (lv_at hl 0 rfl) ?_
        refine va_get (D := D) (ci := 6) (v := .ref (h 2)) (C := RX6) (T := TX6) (N := 50) hx hb hts (se_iw iwX6) hown hK hP 0 rfl rfl 18 (by decide) (hts _ (List.mem_cons_of_mem _ qX6_f13)) (fun _ h9 => h9) rfl dX6_read_116 ?_
        refine lv_iload_n hx hb dX6_read_119 rfl (lv_at hl 3 rfl) ?_
        refine lv_iconst (v := 1) hx hb dX6_read_120 (by decide) ?_
        refine lv_iadd hx hb dX6_read_121 ?_
        refine va_iald hx hb hK hP 2 1 rfl rfl (mo_in (mo_rd c2 hI).1 (by have := (mo_rd c2 hI).2; omega)) dX6_read_122 ?_
        refine va_iast hx hb hK hP hD hS 2 1 rfl rfl (mo_in hI.1 (by omega)) dX6_read_123 (fun H locs hP hD hS => ?_)
        replace hP : va_P D se_cl (se_WM k h (se_u gj101 2 (Int32.toNatClampNeg v3_101) (gj101 2 (Int32.toNatClampNeg (v3_101 + 1))))) H := hP
        replace hD : va_D A (se_WM k h (se_u gj101 2 (Int32.toNatClampNeg v3_101) (gj101 2 (Int32.toNatClampNeg (v3_101 + 1))))) := hD
        refine lv_aload_n hx hb dX6_read_124 rfl (lv_at hl 0 rfl) ?_
        refine va_get (D := D) (ci := 6) (v := .ref (h 3)) (C := RX6) (T := TX6) (N := 50) hx hb hts (se_iw iwX6) hown hK hP 0 rfl rfl 19 (by decide) (hts _ (List.mem_cons_of_mem _ qX6_f16)) (fun _ h9 => h9) rfl dX6_read_125 ?_
        refine lv_iload_n hx hb dX6_read_128 rfl (lv_at hl 3 rfl) ?_
        refine lv_aload_n hx hb dX6_read_129 rfl (lv_at hl 0 rfl) ?_
        refine va_get (D := D) (ci := 6) (v := .ref (h 3)) (C := RX6) (T := TX6) (N := 50) hx hb hts (se_iw iwX6) hown hK hP 0 rfl rfl 19 (by decide) (hts _ (List.mem_cons_of_mem _ qX6_f16)) (fun _ h9 => h9) rfl dX6_read_130 ?_
        refine lv_iload_n hx hb dX6_read_133 rfl (lv_at hl 3 rfl) ?_
        refine lv_iconst (v := 1) hx hb dX6_read_134 (by decide) ?_
        refine lv_iadd hx hb dX6_read_135 ?_
        refine va_zald hx hb hK hP 3 2 rfl rfl (mo_in (mo_rd c2 hI).1 (by have := (mo_rd c2 hI).2; omega)) dX6_read_136 ?_
        refine va_zast hx hb hK hP hD hS 3 2 rfl rfl (mo_in hI.1 (by omega)) dX6_read_137 (fun H locs hP hD hS => ?_)
        replace hP : va_P D se_cl (se_WM k h (se_u (se_u gj101 2 (Int32.toNatClampNeg v3_101) (gj101 2 (Int32.toNatClampNeg (v3_101 + 1)))) 3 (Int32.toNatClampNeg v3_101) (vp_nar .boolean (gj101 3 (Int32.toNatClampNeg (v3_101 + 1)))))) H := hP
        replace hD : va_D A (se_WM k h (se_u (se_u gj101 2 (Int32.toNatClampNeg v3_101) (gj101 2 (Int32.toNatClampNeg (v3_101 + 1)))) 3 (Int32.toNatClampNeg v3_101) (vp_nar .boolean (gj101 3 (Int32.toNatClampNeg (v3_101 + 1)))))) := hD
        refine lv_iinc (v := (v3_101 + 1)) (lv' := [(3, .int (v3_101 + 1)), (0, .ref (h 0)), (1, .int v1_101), (2, .int v2_101)]) hx hb dX6_read_138 hl (k := 3) rfl rfl (by decide) rfl (fun ls hl => ?_)
        refine lv_goto (tgt := 101) hx hb dX6_read_141 (by decide) ?_
        exact ih (se_u (se_u gj101 2 (Int32.toNatClampNeg v3_101) (gj101 2 (Int32.toNatClampNeg (v3_101 + 1)))) 3 (Int32.toNatClampNeg v3_101) (vp_nar .boolean (gj101 3 (Int32.toNatClampNeg (v3_101 + 1))))) v1_101 v2_101 (v3_101 + 1) _ _ ls (mo_rd c2 hI) (mo_rdd hI hM) (by rw [← hF, F_M_read_j101, if_neg (α := Int32 × se_G) c2]) hP hD hS (lv_sub hl [1, 2, 3, 0] rfl)
  have hF : F_M_read g = F_M_read g := rfl
  refine lv_aload_n hx hb dX6_read_0 rfl (lv_at hl 0 rfl) ?_
  refine lv_iconst (v := 0) hx hb dX6_read_1 (by decide) ?_
  refine va_put (D := D) (ci := 6) (v := .int 0) (ty := .int) (C := RX6) (T := TX6) (N := 50) hx hb hts (se_iw iwX6) tyX6 tyX6_ok nmX6 hown hK hP hD hS 0 rfl rfl 2 (by decide) (hts _ (List.mem_cons_of_mem _ qX6_f45)) (fun _ h9 => h9) rfl (by decide +kernel) rfl rfl (Nat.le_of_ble_eq_true rfl) dX6_read_2 (fun H locs hP hD hS => ?_)
  replace hP : va_P D se_cl (se_WM k h (se_u g 0 2 0)) H := hP
  replace hD : va_D A (se_WM k h (se_u g 0 2 0)) := hD
  refine lv_aload_n hx hb dX6_read_5 rfl (lv_at hl 0 rfl) ?_
  refine va_get (D := D) (ci := 6) (v := .int (g 0 20)) (C := RX6) (T := TX6) (N := 50) hx hb hts (se_iw iwX6) hown hK hP 0 rfl rfl 20 (by decide) (hts _ (List.mem_cons_of_mem _ qX6_f66)) (fun _ h9 => h9) rfl dX6_read_6 ?_
  refine lv_if_ne (tgt := 87) hx hb dX6_read_9 (by decide) (fun c1 => ?_) (fun c1 => ?_)
  · refine lv_aload_n hx hb dX6_read_87 rfl (lv_at hl 0 rfl) ?_
    refine va_get (D := D) (ci := 6) (v := .ref (h 2)) (C := RX6) (T := TX6) (N := 50) hx hb hts (se_iw iwX6) hown hK hP 0 rfl rfl 18 (by decide) (hts _ (List.mem_cons_of_mem _ qX6_f13)) (fun _ h9 => h9) rfl dX6_read_88 ?_
    refine lv_iconst (v := 0) hx hb dX6_read_91 (by decide) ?_
    refine va_iald hx hb hK hP 2 1 rfl rfl (mo_in (by decide) (by decide)) dX6_read_92 ?_
    refine lv_istore_n (lv' := [(1, .int (g 2 (Int32.toNatClampNeg 0))), (0, .ref (h 0))]) hx hb dX6_read_93 rfl hl (by decide) rfl (fun ls hl => ?_)
    refine lv_aload_n hx hb dX6_read_94 rfl (lv_at hl 1 rfl) ?_
    refine se_cp (va_runV (C := RX6) (As := []) (rest := []) ⟨hx, hb, hml, hown, hts⟩ (c_M_isShort l D k h _ (se_u g 0 2 0)) (se_kV 0 hts q_code_X6_isShort qX6_m143 q_ini_StreamEndModel q_instanceMethod_X6_isShort q_sel_X6_isShort (by decide +kernel) ⟨Nat.le_of_ble_eq_true rfl, Nat.le_of_ble_eq_true rfl⟩ rfl rfl) ⟨se_blind se_ZN_ok, va_recv hK hP (ci := 6) (q0 := 0) rfl rfl, se_pre se_ZN_ok hP hK hD hZ⟩ rfl rfl hl.1 rfl (lv_room (Nat.le_of_ble_eq_true rfl)) dX6_read_95 ⟨Nat.zero_le _, Nat.zero_le _⟩) ?_
    refine lv_istore_n (lv' := [(2, .int (F_M_isShort (se_u g 0 2 0))), (1, .int (g 2 (Int32.toNatClampNeg 0))), (0, .ref (h 0))]) hx hb dX6_read_98 rfl hl (by decide) rfl (fun ls hl => ?_)
    refine lv_iconst (v := 0) hx hb dX6_read_99 (by decide) ?_
    refine lv_istore_n (lv' := [(3, .int 0), (2, .int (F_M_isShort (se_u g 0 2 0))), (1, .int (g 2 (Int32.toNatClampNeg 0))), (0, .ref (h 0))]) hx hb dX6_read_100 rfl hl (by decide) rfl (fun ls hl => ?_)
    exact L101 (((2048 : Int32).toInt - ((0) : Int32).toInt).toNat + 1) (se_u g 0 2 0) (g 2 (Int32.toNatClampNeg 0)) (F_M_isShort (se_u g 0 2 0)) 0 _ _ ls ⟨by decide, by decide⟩ (se_fuel _ _) (by rw [F_M_read, if_neg (α := Int32 × se_G) c1]) hP hD hS (lv_sub hl [3, 2, 1, 0] rfl)
  · refine lv_aload_n hx hb dX6_read_12 rfl (lv_at hl 0 rfl) ?_
    refine va_get (D := D) (ci := 6) (v := .int (g 0 4)) (C := RX6) (T := TX6) (N := 50) hx hb hts (se_iw iwX6) hown hK hP 0 rfl rfl 4 (by decide) (hts _ (List.mem_cons_of_mem _ qX6_f118)) (fun _ h9 => h9) rfl dX6_read_13 ?_
    refine se_join (v := ((if (g 0 4) = 0 then 1 else ((if (g 0 4) = 1 then 1 else ((if (g 0 4) = 11 then 1 else 0) : Int32)) : Int32)) : Int32)) (pcJ := 41) (restJ := []) (ls := ls) (fun T => ?_) ?_
    · refine lv_if_eq (tgt := 36) hx hb dX6_read_16 (by decide) (fun c10 => ?_) (fun c10 => ?_)
      · refine lv_iconst (v := 1) hx hb dX6_read_36 (by decide) ?_
        refine lv_goto (tgt := 41) hx hb dX6_read_37 (by decide) ?_
        exact T _ (mo_ifp c10 rfl)
      · refine lv_aload_n hx hb dX6_read_19 rfl (lv_at hl 0 rfl) ?_
        refine va_get (D := D) (ci := 6) (v := .int (g 0 4)) (C := RX6) (T := TX6) (N := 50) hx hb hts (se_iw iwX6) hown hK hP 0 rfl rfl 4 (by decide) (hts _ (List.mem_cons_of_mem _ qX6_f118)) (fun _ h9 => h9) rfl dX6_read_20 ?_
        refine lv_iconst (v := 1) hx hb dX6_read_23 (by decide) ?_
        refine lv_icmp_eq (tgt := 36) hx hb dX6_read_24 (by decide) (fun c11 => ?_) (fun c11 => ?_)
        · refine lv_iconst (v := 1) hx hb dX6_read_36 (by decide) ?_
          refine lv_goto (tgt := 41) hx hb dX6_read_37 (by decide) ?_
          exact T _ (mo_ifn c10 (mo_ifp c11 rfl))
        · refine lv_aload_n hx hb dX6_read_27 rfl (lv_at hl 0 rfl) ?_
          refine va_get (D := D) (ci := 6) (v := .int (g 0 4)) (C := RX6) (T := TX6) (N := 50) hx hb hts (se_iw iwX6) hown hK hP 0 rfl rfl 4 (by decide) (hts _ (List.mem_cons_of_mem _ qX6_f118)) (fun _ h9 => h9) rfl dX6_read_28 ?_
          refine lv_bipush (v := 11) hx hb dX6_read_31 (by decide) ?_
          refine lv_icmp_ne (tgt := 40) hx hb dX6_read_33 (by decide) (fun c12 => ?_) (fun c12 => ?_)
          · refine lv_iconst (v := 0) hx hb dX6_read_40 (by decide) ?_
            exact T _ (mo_ifn c10 (mo_ifn c11 (mo_ifn c12 rfl)))
          · refine lv_iconst (v := 1) hx hb dX6_read_36 (by decide) ?_
            refine lv_goto (tgt := 41) hx hb dX6_read_37 (by decide) ?_
            exact T _ (mo_ifn c10 (mo_ifn c11 (mo_ifp c12 rfl)))
    refine lv_istore_n (lv' := [(1, .int ((if (g 0 4) = 0 then 1 else ((if (g 0 4) = 1 then 1 else ((if (g 0 4) = 11 then 1 else 0) : Int32)) : Int32)) : Int32)), (0, .ref (h 0))]) hx hb dX6_read_41 rfl hl (by decide) rfl (fun ls hl => ?_)
    refine lv_aload_n hx hb dX6_read_42 rfl (lv_at hl 1 rfl) ?_
    refine lv_iload_n hx hb dX6_read_43 rfl (lv_at hl 0 rfl) ?_
    refine se_join (v := ((if ((if (g 0 4) = 0 then 1 else ((if (g 0 4) = 1 then 1 else ((if (g 0 4) = 11 then 1 else 0) : Int32)) : Int32)) : Int32) = 0 then 0 else ((if (g 0 24) = 0 then 1 else 0) : Int32)) : Int32)) (pcJ := 59) (restJ := [.ref (h 0)]) (ls := ls) (fun T => ?_) ?_
    · refine lv_if_eq (tgt := 58) hx hb dX6_read_44 (by decide) (fun c14 => ?_) (fun c14 => ?_)
      · refine lv_iconst (v := 0) hx hb dX6_read_58 (by decide) ?_
        exact T _ (mo_ifp c14 rfl)
      · refine lv_aload_n hx hb dX6_read_47 rfl (lv_at hl 1 rfl) ?_
        refine va_get (D := D) (ci := 6) (v := .int (g 0 24)) (C := RX6) (T := TX6) (N := 50) hx hb hts (se_iw iwX6) hown hK hP 0 rfl rfl 24 (by decide) (hts _ (List.mem_cons_of_mem _ qX6_f79)) (fun _ h9 => h9) rfl dX6_read_48 ?_
        refine lv_if_ne (tgt := 58) hx hb dX6_read_51 (by decide) (fun c15 => ?_) (fun c15 => ?_)
        · refine lv_iconst (v := 0) hx hb dX6_read_58 (by decide) ?_
          exact T _ (mo_ifn c14 (mo_ifn c15 rfl))
        · refine lv_iconst (v := 1) hx hb dX6_read_54 (by decide) ?_
          refine lv_goto (tgt := 59) hx hb dX6_read_55 (by decide) ?_
          exact T _ (mo_ifn c14 (mo_ifp c15 rfl))
    refine va_put (D := D) (ci := 6) (v := .int ((if ((if (g 0 4) = 0 then 1 else ((if (g 0 4) = 1 then 1 else ((if (g 0 4) = 11 then 1 else 0) : Int32)) : Int32)) : Int32) = 0 then 0 else ((if (g 0 24) = 0 then 1 else 0) : Int32)) : Int32)) (ty := .int) (C := RX6) (T := TX6) (N := 50) hx hb hts (se_iw iwX6) tyX6 tyX6_ok nmX6 hown hK hP hD hS 0 rfl rfl 2 (by decide) (hts _ (List.mem_cons_of_mem _ qX6_f45)) (fun _ h9 => h9) rfl (by decide +kernel) rfl rfl (Nat.le_of_ble_eq_true rfl) dX6_read_59 (fun H locs hP hD hS => ?_)
    replace hP : va_P D se_cl (se_WM k h (se_u (se_u g 0 2 0) 0 2 ((if ((if (g 0 4) = 0 then 1 else ((if (g 0 4) = 1 then 1 else ((if (g 0 4) = 11 then 1 else 0) : Int32)) : Int32)) : Int32) = 0 then 0 else ((if (g 0 24) = 0 then 1 else 0) : Int32)) : Int32))) H := hP
    replace hD : va_D A (se_WM k h (se_u (se_u g 0 2 0) 0 2 ((if ((if (g 0 4) = 0 then 1 else ((if (g 0 4) = 1 then 1 else ((if (g 0 4) = 11 then 1 else 0) : Int32)) : Int32)) : Int32) = 0 then 0 else ((if (g 0 24) = 0 then 1 else 0) : Int32)) : Int32))) := hD
    refine lv_aload_n hx hb dX6_read_62 rfl (lv_at hl 1 rfl) ?_
    refine va_get (D := D) (ci := 6) (v := .int ((if ((if (g 0 4) = 0 then 1 else ((if (g 0 4) = 1 then 1 else ((if (g 0 4) = 11 then 1 else 0) : Int32)) : Int32)) : Int32) = 0 then 0 else ((if (g 0 24) = 0 then 1 else 0) : Int32)) : Int32)) (C := RX6) (T := TX6) (N := 50) hx hb hts (se_iw iwX6) hown hK hP 0 rfl rfl 2 (by decide) (hts _ (List.mem_cons_of_mem _ qX6_f45)) (fun _ h9 => h9) rfl dX6_read_63 ?_
    refine lv_if_le (tgt := 73) hx hb dX6_read_66 (by decide) (fun c16 => ?_) (fun c16 => ?_)
    · refine lv_aload_n hx hb dX6_read_73 rfl (lv_at hl 1 rfl) ?_
      refine va_get (D := D) (ci := 6) (v := .int (g 0 24)) (C := RX6) (T := TX6) (N := 50) hx hb hts (se_iw iwX6) hown hK hP 0 rfl rfl 24 (by decide) (hts _ (List.mem_cons_of_mem _ qX6_f79)) (fun _ h9 => h9) rfl dX6_read_74 ?_
      refine lv_if_eq (tgt := 85) hx hb dX6_read_77 (by decide) (fun c17 => ?_) (fun c17 => ?_)
      · refine lv_iconst (v := (-1)) hx hb dX6_read_85 (by decide) ?_
        exact se_ri hx hb hr  hlocks hK hP hD hS dX6_read_86 (by rw [F_M_read, if_pos (α := Int32 × se_G) c1, if_pos (α := Int32 × se_G) c16, if_pos (α := Int32 × se_G) c17])
      · refine lv_bipush (v := (-2)) hx hb dX6_read_80 (by decide) ?_
        refine lv_goto (tgt := 86) hx hb dX6_read_82 (by decide) ?_
        exact se_ri hx hb hr  hlocks hK hP hD hS dX6_read_86 (by rw [F_M_read, if_pos (α := Int32 × se_G) c1, if_pos (α := Int32 × se_G) c16, if_neg (α := Int32 × se_G) c17])
    · refine lv_iconst (v := 0) hx hb dX6_read_69 (by decide) ?_
      refine lv_goto (tgt := 86) hx hb dX6_read_70 (by decide) ?_
      exact se_ri hx hb hr  hlocks hK hP hD hS dX6_read_86 (by rw [F_M_read, if_pos (α := Int32 × se_G) c1, if_neg (α := Int32 × se_G) c16])
