/-! written by program (wip/gen) -/
set_option maxRecDepth 100000 in
set_option maxHeartbeats 4000000 in
theorem c_M_hitByReset (l : Launch) (D : va_G) (k : Nat → ClassId) (h : Nat → Nat) (sz : Nat) (g : se_G) (p1 : Int32) : Met l yX6_hitByReset (se_w_X6_hitByReset) ({ frames := 2, cells := 0, slots := 0, locals := 42 }) (va_Pc [.ref (h 0), .int p1] (se_Pre D se_cl [(k 1, .int), (k 2, .int), (k 3, .boolean), (k 4, .int), (k 5, .int), (k 6, .int)] (se_WM k h g) se_ZN sz)) (se_Qv D se_cl [(k 1, .int), (k 2, .int), (k 3, .boolean), (k 4, .int), (k 5, .int), (k 6, .int)] (se_WM k h) (F_M_hitByReset g p1) (va_A (se_WM k h g) sz)) 0 0 (va_A (se_WM k h g) sz) := by
  refine se_met (Qc := se_Qv D se_cl [(k 1, .int), (k 2, .int), (k 3, .boolean), (k 4, .int), (k 5, .int), (k 6, .int)] (se_WM k h) (F_M_hitByReset g p1)) (cc := cX6_hitByReset) (maxL := 2) (ret := none) (by decide) rfl (Nat.le_of_ble_eq_true rfl) ?_
  intro p e s m below meth c ls A hx hb hr hts hown hlocks hml hA hP hK hD hS hZ hl
  replace hl : lv_has ls 2 [(0, .ref (h 0)), (1, .int p1)] := hl
  have J43 : ∀ (gj43 : se_G) (H : Heap) (locs : List Loc) (ls : Array Slot), F_M_hitByReset_j43 gj43 = F_M_hitByReset g p1 → va_P D se_cl (se_WM k h gj43) H → va_D A (se_WM k h gj43) → va_S A s.heap H locs → lv_has ls 2 [(0, .ref (h 0))] → W p l e ({ frames := 2, cells := 0, slots := 0, locals := 42 }) s m [.ref (h 0), .int p1].toArray below meth c H locs 0 0 (MQ below (se_Qv D se_cl [(k 1, .int), (k 2, .int), (k 3, .boolean), (k 4, .int), (k 5, .int), (k 6, .int)] (se_WM k h) (F_M_hitByReset g p1) A) [.ref (h 0), .int p1].toArray s 0 0 A) (F0 m 43 ls []) := by
    intro gj43 H locs ls hF hP hD hS hl
    refine lv_aload_n hx hb dX6_hitByReset_43 rfl (lv_at hl 0 rfl) ?_
    refine lv_aload_n hx hb dX6_hitByReset_44 rfl (lv_at hl 0 rfl) ?_
    refine va_get (D := D) (ci := 6) (v := .int (gj43 0 4)) (C := RX6) (T := TX6) (N := 50) hx hb hts (se_iw iwX6) hown hK hP 0 rfl rfl 4 (by decide) (hts _ (List.mem_cons_of_mem _ qX6_f118)) (fun _ h9 => h9) rfl dX6_hitByReset_45 ?_
    refine lv_bipush (v := 8) hx hb dX6_hitByReset_48 (by decide) ?_
    refine se_join (v := ((if (gj43 0 4) = 8 then 0 else ((if (gj43 0 4) = 9 then 0 else ((if (gj43 0 4) = 10 then 0 else 11) : Int32)) : Int32)) : Int32)) (pcJ := 77) (restJ := [.ref (h 0)]) (ls := ls) (fun T => ?_) ?_
    · refine lv_icmp_eq (tgt := 71) hx hb dX6_hitByReset_50 (by decide) (fun c4 => ?_) (fun c4 => ?_)
      · refine lv_iconst (v := 0) hx hb dX6_hitByReset_71 (by decide) ?_
        refine lv_goto (tgt := 77) hx hb dX6_hitByReset_72 (by decide) ?_
        exact T _ (mo_ifp c4 rfl)
      · refine lv_aload_n hx hb dX6_hitByReset_53 rfl (lv_at hl 0 rfl) ?_
        refine va_get (D := D) (ci := 6) (v := .int (gj43 0 4)) (C := RX6) (T := TX6) (N := 50) hx hb hts (se_iw iwX6) hown hK hP 0 rfl rfl 4 (by decide) (hts _ (List.mem_cons_of_mem _ qX6_f118)) (fun _ h9 => h9) rfl dX6_hitByReset_54 ?_
        refine lv_bipush (v := 9) hx hb dX6_hitByReset_57 (by decide) ?_
        refine lv_icmp_eq (tgt := 71) hx hb dX6_hitByReset_59 (by decide) (fun c5 => ?_) (fun c5 => ?_)
        · refine lv_iconst (v := 0) hx hb dX6_hitByReset_71 (by decide) ?_
          refine lv_goto (tgt := 77) hx hb dX6_hitByReset_72 (by decide) ?_
          exact T _ (mo_ifn c4 (mo_ifp c5 rfl))
        · refine lv_aload_n hx hb dX6_hitByReset_62 rfl (lv_at hl 0 rfl) ?_
          refine va_get (D := D) (ci := 6) (v := .int (gj43 0 4)) (C := RX6) (T := TX6) (N := 50) hx hb hts (se_iw iwX6) hown hK hP 0 rfl rfl 4 (by decide) (hts _ (List.mem_cons_of_mem _ qX6_f118)) (fun _ h9 => h9) rfl dX6_hitByReset_63 ?_
          refine lv_bipush (v := 10) hx hb dX6_hitByReset_66 (by decide) ?_
          refine lv_icmp_ne (tgt := 75) hx hb dX6_hitByReset_68 (by decide) (fun c6 => ?_) (fun c6 => ?_)
          · refine lv_bipush (v := 11) hx hb dX6_hitByReset_75 (by decide) ?_
            exact T _ (mo_ifn c4 (mo_ifn c5 (mo_ifn c6 rfl)))
          · refine lv_iconst (v := 0) hx hb dX6_hitByReset_71 (by decide) ?_
            refine lv_goto (tgt := 77) hx hb dX6_hitByReset_72 (by decide) ?_
            exact T _ (mo_ifn c4 (mo_ifn c5 (mo_ifp c6 rfl)))
    refine se_cvE (va_runV (C := RX6) (As := [.int ((if (gj43 0 4) = 8 then 0 else ((if (gj43 0 4) = 9 then 0 else ((if (gj43 0 4) = 10 then 0 else 11) : Int32)) : Int32)) : Int32)]) (rest := []) ⟨hx, hb, hml, hown, hts⟩ (c_M_becomes l D k h _ gj43 ((if (gj43 0 4) = 8 then 0 else ((if (gj43 0 4) = 9 then 0 else ((if (gj43 0 4) = 10 then 0 else 11) : Int32)) : Int32)) : Int32)) (se_kV 1 hts q_code_X6_becomes qX6_m147 q_ini_StreamEndModel q_instanceMethod_X6_becomes q_sel_X6_becomes (by decide +kernel) ⟨Nat.le_of_ble_eq_true rfl, Nat.le_of_ble_eq_true rfl⟩ rfl rfl) ⟨se_blind se_ZN_ok, va_recv hK hP (ci := 6) (q0 := 0) rfl rfl, se_pre se_ZN_ok hP hK hD hZ⟩ rfl rfl hl.1 rfl (lv_room (Nat.le_of_ble_eq_true rfl)) dX6_hitByReset_77 ⟨Nat.zero_le _, Nat.zero_le _⟩) hD hS hA (fun g1 H locs eg1 hP hD hS => ?_)
    exact se_rv hx hb hr hlocks hK hP hD hS dX6_hitByReset_80 (by subst eg1; rw [← hF, F_M_hitByReset_j43])
  have hF : F_M_hitByReset g p1 = F_M_hitByReset g p1 := rfl
  refine lv_iload_n hx hb dX6_hitByReset_0 rfl (lv_at hl 1 rfl) ?_
  refine lv_if_ne (tgt := 12) hx hb dX6_hitByReset_1 (by decide) (fun c1 => ?_) (fun c1 => ?_)
  · refine lv_aload_n hx hb dX6_hitByReset_12 rfl (lv_at hl 0 rfl) ?_
    refine va_get (D := D) (ci := 6) (v := .int (g 0 4)) (C := RX6) (T := TX6) (N := 50) hx hb hts (se_iw iwX6) hown hK hP 0 rfl rfl 4 (by decide) (hts _ (List.mem_cons_of_mem _ qX6_f118)) (fun _ h9 => h9) rfl dX6_hitByReset_13 ?_
    refine lv_iconst (v := 3) hx hb dX6_hitByReset_16 (by decide) ?_
    refine lv_icmp_ne (tgt := 43) hx hb dX6_hitByReset_17 (by decide) (fun c2 => ?_) (fun c2 => ?_)
    · exact J43 g _ _ ls (by rw [F_M_hitByReset, if_neg (α := se_G) c1, if_neg (α := se_G) c2]) hP hD hS (lv_sub hl [0] rfl)
    · refine lv_aload_n hx hb dX6_hitByReset_20 rfl (lv_at hl 0 rfl) ?_
      refine va_get (D := D) (ci := 6) (v := .int (g 0 5)) (C := RX6) (T := TX6) (N := 50) hx hb hts (se_iw iwX6) hown hK hP 0 rfl rfl 5 (by decide) (hts _ (List.mem_cons_of_mem _ qX6_f131)) (fun _ h9 => h9) rfl dX6_hitByReset_21 ?_
      refine lv_if_eq (tgt := 43) hx hb dX6_hitByReset_24 (by decide) (fun c7 => ?_) (fun c7 => ?_)
      · exact J43 g _ _ ls (by rw [F_M_hitByReset, if_neg (α := se_G) c1, if_pos (α := se_G) c2, if_pos (α := se_G) c7]) hP hD hS (lv_sub hl [0] rfl)
      · refine lv_aload_n hx hb dX6_hitByReset_27 rfl (lv_at hl 0 rfl) ?_
        refine lv_aload_n hx hb dX6_hitByReset_28 rfl (lv_at hl 0 rfl) ?_
        refine va_get (D := D) (ci := 6) (v := .int (g 0 8)) (C := RX6) (T := TX6) (N := 50) hx hb hts (se_iw iwX6) hown hK hP 0 rfl rfl 8 (by decide) (hts _ (List.mem_cons_of_mem _ qX6_f48)) (fun _ h9 => h9) rfl dX6_hitByReset_29 ?_
        refine se_cvE (va_runV (C := RX6) (As := [.int (g 0 8)]) (rest := []) ⟨hx, hb, hml, hown, hts⟩ (c_M_clear l D k h _ g (g 0 8)) (se_kV 1 hts q_code_X6_clear qX6_m127 q_ini_StreamEndModel q_instanceMethod_X6_clear q_sel_X6_clear (by decide +kernel) ⟨Nat.le_of_ble_eq_true rfl, Nat.le_of_ble_eq_true rfl⟩ rfl rfl) ⟨se_blind se_ZN_ok, va_recv hK hP (ci := 6) (q0 := 0) rfl rfl, se_pre se_ZN_ok hP hK hD hZ⟩ rfl rfl hl.1 rfl (lv_room (Nat.le_of_ble_eq_true rfl)) dX6_hitByReset_32 ⟨Nat.zero_le _, Nat.zero_le _⟩) hD hS hA (fun g2 H locs eg2 hP hD hS => ?_)
        refine lv_aload_n hx hb dX6_hitByReset_35 rfl (lv_at hl 0 rfl) ?_
        refine lv_iconst (v := 1) hx hb dX6_hitByReset_36 (by decide) ?_
        refine va_put (D := D) (ci := 6) (v := .int 1) (ty := .int) (C := RX6) (T := TX6) (N := 50) hx hb hts (se_iw iwX6) tyX6 tyX6_ok nmX6 hown hK hP hD hS 0 rfl rfl 4 (by decide) (hts _ (List.mem_cons_of_mem _ qX6_f118)) (fun _ h9 => h9) rfl (by decide +kernel) rfl rfl (Nat.le_of_ble_eq_true rfl) dX6_hitByReset_37 (fun H locs hP hD hS => ?_)
        replace hP : va_P D se_cl (se_WM k h (se_u g2 0 4 1)) H := hP
        replace hD : va_D A (se_WM k h (se_u g2 0 4 1)) := hD
        refine lv_goto (tgt := 80) hx hb dX6_hitByReset_40 (by decide) ?_
        exact se_rv hx hb hr hlocks hK hP hD hS dX6_hitByReset_80 (by subst eg2; rw [F_M_hitByReset, if_neg (α := se_G) c1, if_pos (α := se_G) c2, if_neg (α := se_G) c7])
  · refine lv_aload_n hx hb dX6_hitByReset_4 rfl (lv_at hl 0 rfl) ?_
    refine lv_iconst (v := 1) hx hb dX6_hitByReset_5 (by decide) ?_
    refine va_put (D := D) (ci := 6) (v := .int 1) (ty := .boolean) (C := RX6) (T := TX6) (N := 50) hx hb hts (se_iw iwX6) tyX6 tyX6_ok nmX6 hown hK hP hD hS 0 rfl rfl 33 (by decide) (hts _ (List.mem_cons_of_mem _ qX6_f112)) (fun _ h9 => h9) rfl (by decide +kernel) rfl rfl (Nat.le_of_ble_eq_true rfl) dX6_hitByReset_6 (fun H locs hP hD hS => ?_)
    replace hP : va_P D se_cl (se_WM k h (se_u g 0 33 1)) H := hP
    replace hD : va_D A (se_WM k h (se_u g 0 33 1)) := hD
    refine lv_goto (tgt := 80) hx hb dX6_hitByReset_9 (by decide) ?_
    exact se_rv hx hb hr hlocks hK hP hD hS dX6_hitByReset_80 (by rw [F_M_hitByReset, if_pos (α := se_G) c1])
set_option maxRecDepth 100000 in
set_option maxHeartbeats 4000000 in
theorem c_M_toOthers (l : Launch) (D : va_G) (k : Nat → ClassId) (h : Nat → Nat) (sz : Nat) (g : se_G) (p1 : Int32) (p2 : Int32) (p3 : Int32) (p4 : Int32) (hI : mo_pa g) : Met l yX6_toOthers (se_w_X6_toOthers) ({ frames := 3, cells := 0, slots := 0, locals := 70 }) (va_Pc [.ref (h 0), .int p1, .int p2, .int p3, .int p4] (se_Pre D se_cl [(k 1, .int), (k 2, .int), (k 3, .boolean), (k 4, .int), (k 5, .int), (k 6, .int)] (se_WM k h g) se_ZN sz)) (se_Qv D se_cl [(k 1, .int), (k 2, .int), (k 3, .boolean), (k 4, .int), (k 5, .int), (k 6, .int)] (se_WM k h) (F_M_toOthers g p1 p2 p3 p4) (va_A (se_WM k h g) sz)) 0 0 (va_A (se_WM k h g) sz) := by
  refine se_met (Qc := se_Qv D se_cl [(k 1, .int), (k 2, .int), (k 3, .boolean), (k 4, .int), (k 5, .int), (k 6, .int)] (se_WM k h) (F_M_toOthers g p1 p2 p3 p4)) (cc := cX6_toOthers) (maxL := 6) (ret := none) (by decide) rfl (Nat.le_of_ble_eq_true rfl) ?_
  intro p e s m below meth c ls A hx hb hr hts hown hlocks hml hA hP hK hD hS hZ hl
  replace hl : lv_has ls 6 [(0, .ref (h 0)), (1, .int p1), (2, .int p2), (3, .int p3), (4, .int p4)] := hl
  have J192 : ∀ (gj192 : se_G) (v1_192 : Int32) (v2_192 : Int32) (v3_192 : Int32) (v4_192 : Int32) (H : Heap) (locs : List Loc) (ls : Array Slot), (mo_pb gj192) → F_M_toOthers_j192 gj192 v1_192 v2_192 v3_192 v4_192 = F_M_toOthers g p1 p2 p3 p4 → va_P D se_cl (se_WM k h gj192) H → va_D A (se_WM k h gj192) → va_S A s.heap H locs → lv_has ls 6 [(0, .ref (h 0)), (1, .int v1_192), (2, .int v2_192), (3, .int v3_192), (4, .int v4_192)] → W p l e ({ frames := 3, cells := 0, slots := 0, locals := 70 }) s m [.ref (h 0), .int p1, .int p2, .int p3, .int p4].toArray below meth c H locs 0 0 (MQ below (se_Qv D se_cl [(k 1, .int), (k 2, .int), (k 3, .boolean), (k 4, .int), (k 5, .int), (k 6, .int)] (se_WM k h) (F_M_toOthers g p1 p2 p3 p4) A) [.ref (h 0), .int p1, .int p2, .int p3, .int p4].toArray s 0 0 A) (F0 m 192 ls []) := by
    intro gj192 v1_192 v2_192 v3_192 v4_192 H locs ls hI hF hP hD hS hl
    refine lv_aload_n hx hb dX6_toOthers_192 rfl (lv_at hl 0 rfl) ?_
    refine lv_iload_n hx hb dX6_toOthers_193 rfl (lv_at hl 2 rfl) ?_
    refine lv_iload_n hx hb dX6_toOthers_194 rfl (lv_at hl 3 rfl) ?_
    refine lv_iload hx hb dX6_toOthers_195 (lv_at hl 4 rfl) ?_
    refine se_cvE (va_runV (C := RX6) (As := [.int v2_192, .int v3_192, .int v4_192]) (rest := []) ⟨hx, hb, hml, hown, hts⟩ (c_M_tell l D k h _ gj192 v2_192 v3_192 v4_192) (se_kV 3 hts q_code_X6_tell qX6_m219 q_ini_StreamEndModel q_instanceMethod_X6_tell q_sel_X6_tell (by decide +kernel) ⟨Nat.le_of_ble_eq_true rfl, Nat.le_of_ble_eq_true rfl⟩ rfl rfl) ⟨se_blind se_ZN_ok, va_recv hK hP (ci := 6) (q0 := 0) rfl rfl, se_pre se_ZN_ok hP hK hD hZ⟩ rfl rfl hl.1 rfl (lv_room (Nat.le_of_ble_eq_true rfl)) dX6_toOthers_197 ⟨Nat.zero_le _, Nat.zero_le _⟩) hD hS hA (fun g1 H locs eg1 hP hD hS => ?_)
    replace hF : (F_M_toOthers_k2 (F_M_tell gj192 v2_192 v3_192 v4_192) v1_192 v2_192) = F_M_toOthers g p1 p2 p3 p4 := by rw [← hF, F_M_toOthers_j192]
    rw [← eg1] at hF
    replace hF : F_M_toOthers_k2 g1 v1_192 v2_192 = F_M_toOthers g p1 p2 p3 p4 := hF
    replace hI : mo_pb g1 := by rw [eg1]; exact (mo_ktell hI)
    refine lv_aload_n hx hb dX6_toOthers_200 rfl (lv_at hl 0 rfl) ?_
    refine se_ciE (va_runV (C := RX6) (As := []) (rest := []) ⟨hx, hb, hml, hown, hts⟩ (c_M_wasLast l D k h _ g1) (se_kV 0 hts q_code_X6_wasLast qX6_m222 q_ini_StreamEndModel q_instanceMethod_X6_wasLast q_sel_X6_wasLast (by decide +kernel) ⟨Nat.le_of_ble_eq_true rfl, Nat.le_of_ble_eq_true rfl⟩ rfl rfl) ⟨se_blind se_ZN_ok, va_recv hK hP (ci := 6) (q0 := 0) rfl rfl, se_pre se_ZN_ok hP hK hD hZ⟩ rfl rfl hl.1 rfl (lv_room (Nat.le_of_ble_eq_true rfl)) dX6_toOthers_201 ⟨Nat.zero_le _, Nat.zero_le _⟩) hD hS hA (fun r1 g2 H locs eg2 hP hD hS => ?_)
    replace hF : (F_M_toOthers_k1 (F_M_wasLast g1).1 (F_M_wasLast g1).2 v1_192 v2_192) = F_M_toOthers g p1 p2 p3 p4 := by rw [← hF, F_M_toOthers_k2]
    rw [← eg2] at hF
    replace hF : F_M_toOthers_k1 r1 g2 v1_192 v2_192 = F_M_toOthers g p1 p2 p3 p4 := hF
    replace hI : mo_pb g2 := by rw [show g2 = _ from congrArg Prod.snd eg2]; exact (mo_klast hI)
    refine lv_if_eq (tgt := 208) hx hb dX6_toOthers_204 (by decide) (fun c8 => ?_) (fun c8 => ?_)
    · refine lv_aload_n hx hb dX6_toOthers_208 rfl (lv_at hl 0 rfl) ?_
      refine lv_iload_n hx hb dX6_toOthers_209 rfl (lv_at hl 1 rfl) ?_
      refine lv_iload_n hx hb dX6_toOthers_210 rfl (lv_at hl 2 rfl) ?_
      refine se_cvE (va_runV (C := RX6) (As := [.int v1_192, .int v2_192]) (rest := []) ⟨hx, hb, hml, hown, hts⟩ (c_M_take l D k h _ g2 v1_192 v2_192 hI) (se_kV 2 hts q_code_X6_take qX6_m225 q_ini_StreamEndModel q_instanceMethod_X6_take q_sel_X6_take (by decide +kernel) ⟨Nat.le_of_ble_eq_true rfl, Nat.le_of_ble_eq_true rfl⟩ rfl rfl) ⟨se_blind se_ZN_ok, va_recv hK hP (ci := 6) (q0 := 0) rfl rfl, se_pre se_ZN_ok hP hK hD hZ⟩ rfl rfl hl.1 rfl (lv_room (Nat.le_of_ble_eq_true rfl)) dX6_toOthers_211 ⟨Nat.zero_le _, Nat.zero_le _⟩) hD hS hA (fun g3 H locs eg3 hP hD hS => ?_)
      exact se_rv hx hb hr hlocks hK hP hD hS dX6_toOthers_214 (by subst eg3; rw [← hF, F_M_toOthers_k1, if_pos (α := se_G) c8])
    · exact se_rv hx hb hr hlocks hK hP hD hS dX6_toOthers_207 (by rw [← hF, F_M_toOthers_k1, if_neg (α := se_G) c8])
  have J178 : ∀ (gj178 : se_G) (v1_178 : Int32) (v2_178 : Int32) (v3_178 : Int32) (v4_178 : Int32) (H : Heap) (locs : List Loc) (ls : Array Slot), (mo_pa gj178) → F_M_toOthers_j178 gj178 v1_178 v2_178 v3_178 v4_178 = F_M_toOthers g p1 p2 p3 p4 → va_P D se_cl (se_WM k h gj178) H → va_D A (se_WM k h gj178) → va_S A s.heap H locs → lv_has ls 6 [(0, .ref (h 0)), (1, .int v1_178), (2, .int v2_178), (3, .int v3_178), (4, .int v4_178)] → W p l e ({ frames := 3, cells := 0, slots := 0, locals := 70 }) s m [.ref (h 0), .int p1, .int p2, .int p3, .int p4].toArray below meth c H locs 0 0 (MQ below (se_Qv D se_cl [(k 1, .int), (k 2, .int), (k 3, .boolean), (k 4, .int), (k 5, .int), (k 6, .int)] (se_WM k h) (F_M_toOthers g p1 p2 p3 p4) A) [.ref (h 0), .int p1, .int p2, .int p3, .int p4].toArray s 0 0 A) (F0 m 178 ls []) := by
    intro gj178 v1_178 v2_178 v3_178 v4_178 H locs ls hI hF hP hD hS hl
    refine lv_iload_n hx hb dX6_toOthers_178 rfl (lv_at hl 3 rfl) ?_
    refine lv_aload_n hx hb dX6_toOthers_179 rfl (lv_at hl 0 rfl) ?_
    refine va_get (D := D) (ci := 6) (v := .int (gj178 0 9)) (C := RX6) (T := TX6) (N := 50) hx hb hts (se_iw iwX6) hown hK hP 0 rfl rfl 9 (by decide) (hts _ (List.mem_cons_of_mem _ qX6_f51)) (fun _ h9 => h9) rfl dX6_toOthers_180 ?_
    refine lv_isub hx hb dX6_toOthers_183 ?_
    refine lv_if_le (tgt := 192) hx hb dX6_toOthers_184 (by decide) (fun c7 => ?_) (fun c7 => ?_)
    · exact J192 gj178 v1_178 v2_178 v3_178 v4_178 _ _ ls (by first | exact hI.2 | exact mo_kth hI.2) (by rw [← hF, F_M_toOthers_j178, if_pos (α := se_G) c7]) hP hD hS (lv_sub hl [0, 1, 2, 3, 4] rfl)
    · refine lv_aload_n hx hb dX6_toOthers_187 rfl (lv_at hl 0 rfl) ?_
      refine lv_iload_n hx hb dX6_toOthers_188 rfl (lv_at hl 3 rfl) ?_
      refine se_cvE (va_runV (C := RX6) (As := [.int v3_178]) (rest := []) ⟨hx, hb, hml, hown, hts⟩ (c_M_thanked l D k h _ gj178 v3_178 hI.1) (se_kV 1 hts q_code_X6_thanked qX6_m200 q_ini_StreamEndModel q_instanceMethod_X6_thanked q_sel_X6_thanked (by decide +kernel) ⟨Nat.le_of_ble_eq_true rfl, Nat.le_of_ble_eq_true rfl⟩ rfl rfl) ⟨se_blind se_ZN_ok, va_recv hK hP (ci := 6) (q0 := 0) rfl rfl, se_pre se_ZN_ok hP hK hD hZ⟩ rfl rfl hl.1 rfl (lv_room (Nat.le_of_ble_eq_true rfl)) dX6_toOthers_189 ⟨Nat.zero_le _, Nat.zero_le _⟩) hD hS hA (fun g4 H locs eg4 hP hD hS => ?_)
      exact J192 g4 v1_178 v2_178 v3_178 v4_178 _ _ ls (by subst eg4; exact (by first | exact hI.2 | exact mo_kth hI.2)) (by subst eg4; rw [← hF, F_M_toOthers_j178, if_neg (α := se_G) c7]) hP hD hS (lv_sub hl [0, 1, 2, 3, 4] rfl)
  have hF : F_M_toOthers g p1 p2 p3 p4 = F_M_toOthers g p1 p2 p3 p4 := rfl
  refine lv_iload_n hx hb dX6_toOthers_0 rfl (lv_at hl 1 rfl) ?_
  refine lv_iconst (v := 4) hx hb dX6_toOthers_1 (by decide) ?_
  refine se_cp (va_runS (As := [.int p1, .int 4]) (rest := []) ⟨hx, hb, hml, hown, hts⟩ (c_M_has l D k h _ g p1 4) (se_kS 2 hts q_code_X6_has qX6_m178 q_ini_StreamEndModel q_static_X6_has (by decide +kernel) ⟨Nat.le_of_ble_eq_true rfl, Nat.le_of_ble_eq_true rfl⟩ rfl rfl) ⟨se_blind se_ZN_ok, se_pre se_ZN_ok hP hK hD hZ⟩ rfl rfl hl.1 rfl (lv_room (Nat.le_of_ble_eq_true rfl)) dX6_toOthers_2 ⟨Nat.zero_le _, Nat.zero_le _⟩) ?_
  refine lv_istore (lv' := [(5, .int (F_M_has p1 4)), (0, .ref (h 0)), (1, .int p1), (2, .int p2), (3, .int p3), (4, .int p4)]) hx hb dX6_toOthers_5 hl (by decide) rfl (fun ls hl => ?_)
  refine lv_aload_n hx hb dX6_toOthers_7 rfl (lv_at hl 1 rfl) ?_
  refine lv_iload_n hx hb dX6_toOthers_8 rfl (lv_at hl 2 rfl) ?_
  refine lv_iload_n hx hb dX6_toOthers_9 rfl (lv_at hl 3 rfl) ?_
  refine se_cp (va_runV (C := RX6) (As := [.int p1, .int p2]) (rest := []) ⟨hx, hb, hml, hown, hts⟩ (c_M_fits l D k h _ g p1 p2) (se_kV 2 hts q_code_X6_fits qX6_m212 q_ini_StreamEndModel q_instanceMethod_X6_fits q_sel_X6_fits (by decide +kernel) ⟨Nat.le_of_ble_eq_true rfl, Nat.le_of_ble_eq_true rfl⟩ rfl rfl) ⟨se_blind se_ZN_ok, va_recv hK hP (ci := 6) (q0 := 0) rfl rfl, se_pre se_ZN_ok hP hK hD hZ⟩ rfl rfl hl.1 rfl (lv_room (Nat.le_of_ble_eq_true rfl)) dX6_toOthers_10 ⟨Nat.zero_le _, Nat.zero_le _⟩) ?_
  refine lv_if_ne (tgt := 68) hx hb dX6_toOthers_13 (by decide) (fun c1 => ?_) (fun c1 => ?_)
  · refine lv_iload hx hb dX6_toOthers_68 (lv_at hl 0 rfl) ?_
    refine lv_if_eq (tgt := 91) hx hb dX6_toOthers_70 (by decide) (fun c2 => ?_) (fun c2 => ?_)
    · refine lv_iload_n hx hb dX6_toOthers_91 rfl (lv_at hl 2 rfl) ?_
      refine lv_iconst (v := 1) hx hb dX6_toOthers_92 (by decide) ?_
      refine se_cp (va_runS (As := [.int p1, .int 1]) (rest := []) ⟨hx, hb, hml, hown, hts⟩ (c_M_has l D k h _ g p1 1) (se_kS 2 hts q_code_X6_has qX6_m178 q_ini_StreamEndModel q_static_X6_has (by decide +kernel) ⟨Nat.le_of_ble_eq_true rfl, Nat.le_of_ble_eq_true rfl⟩ rfl rfl) ⟨se_blind se_ZN_ok, se_pre se_ZN_ok hP hK hD hZ⟩ rfl rfl hl.1 rfl (lv_room (Nat.le_of_ble_eq_true rfl)) dX6_toOthers_93 ⟨Nat.zero_le _, Nat.zero_le _⟩) ?_
      refine lv_if_eq (tgt := 105) hx hb dX6_toOthers_96 (by decide) (fun c3 => ?_) (fun c3 => ?_)
      · refine lv_iload_n hx hb dX6_toOthers_105 rfl (lv_at hl 2 rfl) ?_
        refine lv_bipush (v := 8) hx hb dX6_toOthers_106 (by decide) ?_
        refine se_cp (va_runS (As := [.int p1, .int 8]) (rest := []) ⟨hx, hb, hml, hown, hts⟩ (c_M_has l D k h _ g p1 8) (se_kS 2 hts q_code_X6_has qX6_m178 q_ini_StreamEndModel q_static_X6_has (by decide +kernel) ⟨Nat.le_of_ble_eq_true rfl, Nat.le_of_ble_eq_true rfl⟩ rfl rfl) ⟨se_blind se_ZN_ok, se_pre se_ZN_ok hP hK hD hZ⟩ rfl rfl hl.1 rfl (lv_room (Nat.le_of_ble_eq_true rfl)) dX6_toOthers_108 ⟨Nat.zero_le _, Nat.zero_le _⟩) ?_
        refine lv_if_ne (tgt := 115) hx hb dX6_toOthers_111 (by decide) (fun c4 => ?_) (fun c4 => ?_)
        · refine lv_aload_n hx hb dX6_toOthers_115 rfl (lv_at hl 1 rfl) ?_
          refine va_get (D := D) (ci := 6) (v := .int (g 0 4)) (C := RX6) (T := TX6) (N := 50) hx hb hts (se_iw iwX6) hown hK hP 0 rfl rfl 4 (by decide) (hts _ (List.mem_cons_of_mem _ qX6_f118)) (fun _ h9 => h9) rfl dX6_toOthers_116 ?_
          refine lv_iconst (v := 3) hx hb dX6_toOthers_119 (by decide) ?_
          refine lv_icmp_ne (tgt := 163) hx hb dX6_toOthers_120 (by decide) (fun c5 => ?_) (fun c5 => ?_)
          · refine lv_iload_n hx hb dX6_toOthers_163 rfl (lv_at hl 4 rfl) ?_
            refine lv_aload_n hx hb dX6_toOthers_164 rfl (lv_at hl 1 rfl) ?_
            refine va_get (D := D) (ci := 6) (v := .int (g 0 10)) (C := RX6) (T := TX6) (N := 50) hx hb hts (se_iw iwX6) hown hK hP 0 rfl rfl 10 (by decide) (hts _ (List.mem_cons_of_mem _ qX6_f54)) (fun _ h9 => h9) rfl dX6_toOthers_165 ?_
            refine lv_isub hx hb dX6_toOthers_168 ?_
            refine lv_if_le (tgt := 178) hx hb dX6_toOthers_169 (by decide) (fun c6 => ?_) (fun c6 => ?_)
            · exact J178 g p1 p2 p3 p4 _ _ ls hI (by rw [F_M_toOthers, if_neg (α := se_G) c1, if_pos (α := se_G) c2, if_pos (α := se_G) c3, if_neg (α := se_G) c4, if_neg (α := se_G) c5, if_pos (α := se_G) c6]) hP hD hS (lv_sub hl [1, 2, 3, 4, 5] rfl)
            · refine lv_aload_n hx hb dX6_toOthers_172 rfl (lv_at hl 1 rfl) ?_
              refine lv_iconst (v := 1) hx hb dX6_toOthers_173 (by decide) ?_
              refine va_put (D := D) (ci := 6) (v := .int 1) (ty := .boolean) (C := RX6) (T := TX6) (N := 50) hx hb hts (se_iw iwX6) tyX6 tyX6_ok nmX6 hown hK hP hD hS 0 rfl rfl 33 (by decide) (hts _ (List.mem_cons_of_mem _ qX6_f112)) (fun _ h9 => h9) rfl (by decide +kernel) rfl rfl (Nat.le_of_ble_eq_true rfl) dX6_toOthers_174 (fun H locs hP hD hS => ?_)
              replace hP : va_P D se_cl (se_WM k h (se_u g 0 33 1)) H := hP
              replace hD : va_D A (se_WM k h (se_u g 0 33 1)) := hD
              exact se_rv hx hb hr hlocks hK hP hD hS dX6_toOthers_177 (by rw [F_M_toOthers, if_neg (α := se_G) c1, if_pos (α := se_G) c2, if_pos (α := se_G) c3, if_neg (α := se_G) c4, if_neg (α := se_G) c5, if_neg (α := se_G) c6])
          · refine lv_iload_n hx hb dX6_toOthers_123 rfl (lv_at hl 4 rfl) ?_
            refine lv_aload_n hx hb dX6_toOthers_124 rfl (lv_at hl 1 rfl) ?_
            refine va_get (D := D) (ci := 6) (v := .int (g 0 10)) (C := RX6) (T := TX6) (N := 50) hx hb hts (se_iw iwX6) hown hK hP 0 rfl rfl 10 (by decide) (hts _ (List.mem_cons_of_mem _ qX6_f54)) (fun _ h9 => h9) rfl dX6_toOthers_125 ?_
            refine lv_icmp_eq (tgt := 139) hx hb dX6_toOthers_128 (by decide) (fun c9 => ?_) (fun c9 => ?_)
            · refine lv_aload_n hx hb dX6_toOthers_139 rfl (lv_at hl 1 rfl) ?_
              refine lv_aload_n hx hb dX6_toOthers_140 rfl (lv_at hl 1 rfl) ?_
              refine va_get (D := D) (ci := 6) (v := .int (g 0 6)) (C := RX6) (T := TX6) (N := 50) hx hb hts (se_iw iwX6) hown hK hP 0 rfl rfl 6 (by decide) (hts _ (List.mem_cons_of_mem _ qX6_f82)) (fun _ h9 => h9) rfl dX6_toOthers_141 ?_
              refine se_join (v := ((if (g 0 6) = 0 then 4 else 5) : Int32)) (pcJ := 152) (restJ := [.ref (h 0)]) (ls := ls) (fun T => ?_) ?_
              · refine lv_if_eq (tgt := 151) hx hb dX6_toOthers_144 (by decide) (fun c11 => ?_) (fun c11 => ?_)
                · refine lv_iconst (v := 4) hx hb dX6_toOthers_151 (by decide) ?_
                  exact T _ (mo_ifp c11 rfl)
                · refine lv_iconst (v := 5) hx hb dX6_toOthers_147 (by decide) ?_
                  refine lv_goto (tgt := 152) hx hb dX6_toOthers_148 (by decide) ?_
                  exact T _ (mo_ifn c11 rfl)
              refine va_put (D := D) (ci := 6) (v := .int ((if (g 0 6) = 0 then 4 else 5) : Int32)) (ty := .int) (C := RX6) (T := TX6) (N := 50) hx hb hts (se_iw iwX6) tyX6 tyX6_ok nmX6 hown hK hP hD hS 0 rfl rfl 4 (by decide) (hts _ (List.mem_cons_of_mem _ qX6_f118)) (fun _ h9 => h9) rfl (by decide +kernel) rfl rfl (Nat.le_of_ble_eq_true rfl) dX6_toOthers_152 (fun H locs hP hD hS => ?_)
              replace hP : va_P D se_cl (se_WM k h (se_u g 0 4 ((if (g 0 6) = 0 then 4 else 5) : Int32))) H := hP
              replace hD : va_D A (se_WM k h (se_u g 0 4 ((if (g 0 6) = 0 then 4 else 5) : Int32))) := hD
              refine lv_aload_n hx hb dX6_toOthers_155 rfl (lv_at hl 1 rfl) ?_
              refine lv_iconst (v := 0) hx hb dX6_toOthers_156 (by decide) ?_
              refine va_put (D := D) (ci := 6) (v := .int 0) (ty := .boolean) (C := RX6) (T := TX6) (N := 50) hx hb hts (se_iw iwX6) tyX6 tyX6_ok nmX6 hown hK hP hD hS 0 rfl rfl 29 (by decide) (hts _ (List.mem_cons_of_mem _ qX6_f103)) (fun _ h9 => h9) rfl (by decide +kernel) rfl rfl (Nat.le_of_ble_eq_true rfl) dX6_toOthers_157 (fun H locs hP hD hS => ?_)
              replace hP : va_P D se_cl (se_WM k h (se_u (se_u g 0 4 ((if (g 0 6) = 0 then 4 else 5) : Int32)) 0 29 0)) H := hP
              replace hD : va_D A (se_WM k h (se_u (se_u g 0 4 ((if (g 0 6) = 0 then 4 else 5) : Int32)) 0 29 0)) := hD
              refine lv_goto (tgt := 178) hx hb dX6_toOthers_160 (by decide) ?_
              exact J178 (se_u (se_u g 0 4 ((if (g 0 6) = 0 then 4 else 5) : Int32)) 0 29 0) p1 p2 p3 p4 _ _ ls hI (by rw [F_M_toOthers, if_neg (α := se_G) c1, if_pos (α := se_G) c2, if_pos (α := se_G) c3, if_neg (α := se_G) c4, if_pos (α := se_G) c5, if_pos (α := se_G) c9]) hP hD hS (lv_sub hl [1, 2, 3, 4, 5] rfl)
            · refine lv_aload_n hx hb dX6_toOthers_131 rfl (lv_at hl 1 rfl) ?_
              refine lv_iload_n hx hb dX6_toOthers_132 rfl (lv_at hl 2 rfl) ?_
              refine lv_iload_n hx hb dX6_toOthers_133 rfl (lv_at hl 3 rfl) ?_
              refine lv_iload_n hx hb dX6_toOthers_134 rfl (lv_at hl 4 rfl) ?_
              refine se_cvE (va_runV (C := RX6) (As := [.int p1, .int p2, .int p3]) (rest := []) ⟨hx, hb, hml, hown, hts⟩ (c_M_resets l D k h _ g p1 p2 p3) (se_kV 3 hts q_code_X6_resets qX6_m192 q_ini_StreamEndModel q_instanceMethod_X6_resets q_sel_X6_resets (by decide +kernel) ⟨Nat.le_of_ble_eq_true rfl, Nat.le_of_ble_eq_true rfl⟩ rfl rfl) ⟨se_blind se_ZN_ok, va_recv hK hP (ci := 6) (q0 := 0) rfl rfl, se_pre se_ZN_ok hP hK hD hZ⟩ rfl rfl hl.1 rfl (lv_room (Nat.le_of_ble_eq_true rfl)) dX6_toOthers_135 ⟨Nat.zero_le _, Nat.zero_le _⟩) hD hS hA (fun g5 H locs eg5 hP hD hS => ?_)
              exact se_rv hx hb hr hlocks hK hP hD hS dX6_toOthers_138 (by subst eg5; rw [F_M_toOthers, if_neg (α := se_G) c1, if_pos (α := se_G) c2, if_pos (α := se_G) c3, if_neg (α := se_G) c4, if_pos (α := se_G) c5, if_neg (α := se_G) c9])
        · exact se_rv hx hb hr hlocks hK hP hD hS dX6_toOthers_114 (by rw [F_M_toOthers, if_neg (α := se_G) c1, if_pos (α := se_G) c2, if_pos (α := se_G) c3, if_pos (α := se_G) c4])
      · refine lv_aload_n hx hb dX6_toOthers_99 rfl (lv_at hl 1 rfl) ?_
        refine lv_iconst (v := 1) hx hb dX6_toOthers_100 (by decide) ?_
        refine va_put (D := D) (ci := 6) (v := .int 1) (ty := .boolean) (C := RX6) (T := TX6) (N := 50) hx hb hts (se_iw iwX6) tyX6 tyX6_ok nmX6 hown hK hP hD hS 0 rfl rfl 33 (by decide) (hts _ (List.mem_cons_of_mem _ qX6_f112)) (fun _ h9 => h9) rfl (by decide +kernel) rfl rfl (Nat.le_of_ble_eq_true rfl) dX6_toOthers_101 (fun H locs hP hD hS => ?_)
        replace hP : va_P D se_cl (se_WM k h (se_u g 0 33 1)) H := hP
        replace hD : va_D A (se_WM k h (se_u g 0 33 1)) := hD
        exact se_rv hx hb hr hlocks hK hP hD hS dX6_toOthers_104 (by rw [F_M_toOthers, if_neg (α := se_G) c1, if_pos (α := se_G) c2, if_neg (α := se_G) c3])
    · refine lv_aload_n hx hb dX6_toOthers_73 rfl (lv_at hl 1 rfl) ?_
      refine lv_iload_n hx hb dX6_toOthers_74 rfl (lv_at hl 3 rfl) ?_
      refine lv_aload_n hx hb dX6_toOthers_75 rfl (lv_at hl 1 rfl) ?_
      refine va_get (D := D) (ci := 6) (v := .int (g 0 21)) (C := RX6) (T := TX6) (N := 50) hx hb hts (se_iw iwX6) hown hK hP 0 rfl rfl 21 (by decide) (hts _ (List.mem_cons_of_mem _ qX6_f69)) (fun _ h9 => h9) rfl dX6_toOthers_76 ?_
      refine se_join (v := ((if p2 = (g 0 21) then 1 else 0) : Int32)) (pcJ := 87) (restJ := [.ref (h 0)]) (ls := ls) (fun T => ?_) ?_
      · refine lv_icmp_ne (tgt := 86) hx hb dX6_toOthers_79 (by decide) (fun c13 => ?_) (fun c13 => ?_)
        · refine lv_iconst (v := 0) hx hb dX6_toOthers_86 (by decide) ?_
          exact T _ (mo_ifn c13 rfl)
        · refine lv_iconst (v := 1) hx hb dX6_toOthers_82 (by decide) ?_
          refine lv_goto (tgt := 87) hx hb dX6_toOthers_83 (by decide) ?_
          exact T _ (mo_ifp c13 rfl)
      refine se_cvE (va_runV (C := RX6) (As := [.int ((if p2 = (g 0 21) then 1 else 0) : Int32)]) (rest := []) ⟨hx, hb, hml, hown, hts⟩ (c_M_hitByReset l D k h _ g ((if p2 = (g 0 21) then 1 else 0) : Int32)) (se_kV 1 hts q_code_X6_hitByReset qX6_m215 q_ini_StreamEndModel q_instanceMethod_X6_hitByReset q_sel_X6_hitByReset (by decide +kernel) ⟨Nat.le_of_ble_eq_true rfl, Nat.le_of_ble_eq_true rfl⟩ rfl rfl) ⟨se_blind se_ZN_ok, va_recv hK hP (ci := 6) (q0 := 0) rfl rfl, se_pre se_ZN_ok hP hK hD hZ⟩ rfl rfl hl.1 rfl (lv_room (Nat.le_of_ble_eq_true rfl)) dX6_toOthers_87 ⟨Nat.zero_le _, Nat.zero_le _⟩) hD hS hA (fun g6 H locs eg6 hP hD hS => ?_)
      exact se_rv hx hb hr hlocks hK hP hD hS dX6_toOthers_90 (by subst eg6; rw [F_M_toOthers, if_neg (α := se_G) c1, if_neg (α := se_G) c2])
  · refine lv_aload_n hx hb dX6_toOthers_16 rfl (lv_at hl 1 rfl) ?_
    refine lv_aload_n hx hb dX6_toOthers_17 rfl (lv_at hl 1 rfl) ?_
    refine va_get (D := D) (ci := 6) (v := .int (g 0 33)) (C := RX6) (T := TX6) (N := 50) hx hb hts (se_iw iwX6) hown hK hP 0 rfl rfl 33 (by decide) (hts _ (List.mem_cons_of_mem _ qX6_f112)) (fun _ h9 => h9) rfl dX6_toOthers_18 ?_
    refine se_join (v := ((if (g 0 33) = 0 then ((if (F_M_has p1 4) = 0 then 1 else 0) : Int32) else 1) : Int32)) (pcJ := 34) (restJ := [.ref (h 0)]) (ls := ls) (fun T => ?_) ?_
    · refine lv_if_ne (tgt := 29) hx hb dX6_toOthers_21 (by decide) (fun c15 => ?_) (fun c15 => ?_)
      · refine lv_iconst (v := 1) hx hb dX6_toOthers_29 (by decide) ?_
        refine lv_goto (tgt := 34) hx hb dX6_toOthers_30 (by decide) ?_
        exact T _ (mo_ifn c15 rfl)
      · refine lv_iload hx hb dX6_toOthers_24 (lv_at hl 0 rfl) ?_
        refine lv_if_ne (tgt := 33) hx hb dX6_toOthers_26 (by decide) (fun c16 => ?_) (fun c16 => ?_)
        · refine lv_iconst (v := 0) hx hb dX6_toOthers_33 (by decide) ?_
          exact T _ (mo_ifp c15 (mo_ifn c16 rfl))
        · refine lv_iconst (v := 1) hx hb dX6_toOthers_29 (by decide) ?_
          refine lv_goto (tgt := 34) hx hb dX6_toOthers_30 (by decide) ?_
          exact T _ (mo_ifp c15 (mo_ifp c16 rfl))
    have hz34 : ((if (g 0 33) = 0 then ((if (F_M_has p1 4) = 0 then 1 else 0) : Int32) else 1) : Int32) = 0 ∨ ((if (g 0 33) = 0 then ((if (F_M_has p1 4) = 0 then 1 else 0) : Int32) else 1) : Int32) = 1 := (mo_b01 (mo_b01 (Or.inr rfl) (Or.inl rfl)) (Or.inr rfl))
    refine va_put (D := D) (ci := 6) (v := .int ((if (g 0 33) = 0 then ((if (F_M_has p1 4) = 0 then 1 else 0) : Int32) else 1) : Int32)) (ty := .boolean) (C := RX6) (T := TX6) (N := 50) hx hb hts (se_iw iwX6) tyX6 tyX6_ok nmX6 hown hK hP hD hS 0 rfl rfl 33 (by decide) (hts _ (List.mem_cons_of_mem _ qX6_f112)) (fun _ h9 => h9) rfl (by decide +kernel) (se_nz hz34) (se_fz hz34) (Nat.le_of_ble_eq_true rfl) dX6_toOthers_34 (fun H locs hP hD hS => ?_)
    replace hP : va_P D se_cl (se_WM k h (se_u g 0 33 ((if (g 0 33) = 0 then ((if (F_M_has p1 4) = 0 then 1 else 0) : Int32) else 1) : Int32))) H := hP
    replace hD : va_D A (se_WM k h (se_u g 0 33 ((if (g 0 33) = 0 then ((if (F_M_has p1 4) = 0 then 1 else 0) : Int32) else 1) : Int32))) := hD
    refine lv_aload_n hx hb dX6_toOthers_37 rfl (lv_at hl 1 rfl) ?_
    refine va_get (D := D) (ci := 6) (v := .int (g 0 4)) (C := RX6) (T := TX6) (N := 50) hx hb hts (se_iw iwX6) hown hK hP 0 rfl rfl 4 (by decide) (hts _ (List.mem_cons_of_mem _ qX6_f118)) (fun _ h9 => h9) rfl dX6_toOthers_38 ?_
    refine lv_bipush (v := 10) hx hb dX6_toOthers_41 (by decide) ?_
    refine lv_icmp_ne (tgt := 67) hx hb dX6_toOthers_43 (by decide) (fun c17 => ?_) (fun c17 => ?_)
    · exact se_rv hx hb hr hlocks hK hP hD hS dX6_toOthers_67 (by rw [F_M_toOthers, if_pos (α := se_G) c1, if_neg (α := se_G) c17])
    · refine lv_iload_n hx hb dX6_toOthers_46 rfl (lv_at hl 2 rfl) ?_
      refine lv_iconst (v := 2) hx hb dX6_toOthers_47 (by decide) ?_
      refine se_cp (va_runS (As := [.int p1, .int 2]) (rest := []) ⟨hx, hb, hml, hown, hts⟩ (c_M_has l D k h _ (se_u g 0 33 ((if (g 0 33) = 0 then ((if (F_M_has p1 4) = 0 then 1 else 0) : Int32) else 1) : Int32)) p1 2) (se_kS 2 hts q_code_X6_has qX6_m178 q_ini_StreamEndModel q_static_X6_has (by decide +kernel) ⟨Nat.le_of_ble_eq_true rfl, Nat.le_of_ble_eq_true rfl⟩ rfl rfl) ⟨se_blind se_ZN_ok, se_pre se_ZN_ok hP hK hD hZ⟩ rfl rfl hl.1 rfl (lv_room (Nat.le_of_ble_eq_true rfl)) dX6_toOthers_48 ⟨Nat.zero_le _, Nat.zero_le _⟩) ?_
      refine lv_if_eq (tgt := 67) hx hb dX6_toOthers_51 (by decide) (fun c18 => ?_) (fun c18 => ?_)
      · exact se_rv hx hb hr hlocks hK hP hD hS dX6_toOthers_67 (by rw [F_M_toOthers, if_pos (α := se_G) c1, if_pos (α := se_G) c17, if_pos (α := se_G) c18])
      · refine lv_aload_n hx hb dX6_toOthers_54 rfl (lv_at hl 1 rfl) ?_
        refine lv_aload_n hx hb dX6_toOthers_55 rfl (lv_at hl 1 rfl) ?_
        refine va_get (D := D) (ci := 6) (v := .int (g 0 3)) (C := RX6) (T := TX6) (N := 50) hx hb hts (se_iw iwX6) hown hK hP 0 rfl rfl 3 (by decide) (hts _ (List.mem_cons_of_mem _ qX6_f121)) (fun _ h9 => h9) rfl dX6_toOthers_56 ?_
        refine lv_aload_n hx hb dX6_toOthers_59 rfl (lv_at hl 1 rfl) ?_
        refine va_get (D := D) (ci := 6) (v := .int (g 0 1)) (C := RX6) (T := TX6) (N := 50) hx hb hts (se_iw iwX6) hown hK hP 0 rfl rfl 1 (by decide) (hts _ (List.mem_cons_of_mem _ qX6_f39)) (fun _ h9 => h9) rfl dX6_toOthers_60 ?_
        refine lv_iadd hx hb dX6_toOthers_63 ?_
        refine va_put (D := D) (ci := 6) (v := .int ((g 0 3) + (g 0 1))) (ty := .int) (C := RX6) (T := TX6) (N := 50) hx hb hts (se_iw iwX6) tyX6 tyX6_ok nmX6 hown hK hP hD hS 0 rfl rfl 43 (by decide) (hts _ (List.mem_cons_of_mem _ qX6_f124)) (fun _ h9 => h9) rfl (by decide +kernel) rfl rfl (Nat.le_of_ble_eq_true rfl) dX6_toOthers_64 (fun H locs hP hD hS => ?_)
        replace hP : va_P D se_cl (se_WM k h (se_u (se_u g 0 33 ((if (g 0 33) = 0 then ((if (F_M_has p1 4) = 0 then 1 else 0) : Int32) else 1) : Int32)) 0 43 ((g 0 3) + (g 0 1)))) H := hP
        replace hD : va_D A (se_WM k h (se_u (se_u g 0 33 ((if (g 0 33) = 0 then ((if (F_M_has p1 4) = 0 then 1 else 0) : Int32) else 1) : Int32)) 0 43 ((g 0 3) + (g 0 1)))) := hD
        exact se_rv hx hb hr hlocks hK hP hD hS dX6_toOthers_67 (by rw [F_M_toOthers, if_pos (α := se_G) c1, if_pos (α := se_G) c17, if_neg (α := se_G) c18])
