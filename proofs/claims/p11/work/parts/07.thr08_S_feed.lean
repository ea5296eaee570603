/-! written by program (wip/gen) -/
set_option maxRecDepth 100000 in
set_option maxHeartbeats 4000000 in
theorem c_S_feed (l : Launch) (hfl : l.flags = pinnedFlags ++ [noTraceFlag]) (D : va_G) (k : Nat → ClassId) (h : Nat → Nat) (sa : Nat → Nat) (sz : Nat) (g : se_G) (p1 : Int64) (p3 : Int32) : xe_Met l yX5_feed (se_w_X5_feed) ({ frames := 6, cells := 1, slots := 6, locals := 91 }) (va_Pc [.ref (h 0), .long p1, .int p3] (se_Pre D se_cl [(k 2, .byte), (k 4, .int), (k 8, .byte), (k 10, .byte)] (se_WS k h g) (se_ZNX sa) sz)) (se_Xi D se_cl [(k 2, .byte), (k 4, .int), (k 8, .byte), (k 10, .byte)] (se_WS k h) (F_S_feed g p1 p3) (va_A (se_WS k h g) sz)) (xe_X D se_cl [(k 2, .byte), (k 4, .int), (k 8, .byte), (k 10, .byte)] (se_WS k h) (F_S_feed g p1 p3) (va_A (se_WS k h g) sz)) 1 6 (va_A (se_WS k h g) sz) := by
  refine xe_met (Qc := se_Xi D se_cl [(k 2, .byte), (k 4, .int), (k 8, .byte), (k 10, .byte)] (se_WS k h) (F_S_feed g p1 p3)) (XC := xe_X D se_cl [(k 2, .byte), (k 4, .int), (k 8, .byte), (k 10, .byte)] (se_WS k h) (F_S_feed g p1 p3)) (cc := cX5_feed) (maxL := 5) (ret := (some .int)) (by decide) rfl (Nat.le_of_ble_eq_true rfl) ?_
  intro p e s m below meth c ls A hx hb hr hts hown hlocks hml hno hA hP hK hD hS hZX hl
  have hZ : se_ZN s := hZX.1
  replace hl : lv_has ls 5 [(0, .ref (h 0)), (1, .long p1), (3, .int p3)] := hl
  have L45 : ∀ (n : Nat) (gj45 : se_G) (v1_45 : Int64) (v3_45 : Int32) (v4_45 : Int32) (H : Heap) (locs : List Loc) (ls : Array Slot), ((v3_45).toInt - (v4_45).toInt).toNat < n → F_S_feed_j45 n gj45 v1_45 v3_45 v4_45 = F_S_feed g p1 p3 → va_P D se_cl (se_WS k h gj45) H → va_D A (se_WS k h gj45) → va_S A s.heap H locs → lv_has ls 5 [(0, .ref (h 0)), (1, .long v1_45), (3, .int v3_45), (4, .int v4_45)] → W p l e ({ frames := 6, cells := 1, slots := 6, locals := 91 }) s m [.ref (h 0), .long p1, .int p3].toArray below meth c H locs 0 0 (xe_MQ below (se_Xi D se_cl [(k 2, .byte), (k 4, .int), (k 8, .byte), (k 10, .byte)] (se_WS k h) (F_S_feed g p1 p3) A) (xe_X D se_cl [(k 2, .byte), (k 4, .int), (k 8, .byte), (k 10, .byte)] (se_WS k h) (F_S_feed g p1 p3) A) [.ref (h 0), .long p1, .int p3].toArray s 1 6 A) (F0 m 45 ls []) := by
    intro n
    induction n with
    | zero => intro gj45 v1_45 v3_45 v4_45 H locs ls hM; exact absurd hM (Nat.not_lt_zero _)
    | succ n ih =>
      intro gj45 v1_45 v3_45 v4_45 H locs ls hM hF hP hD hS hl
      refine lv_iload hx hb dX5_feed_45 (lv_at hl 3 rfl) ?_
      refine lv_iload_n hx hb dX5_feed_47 rfl (lv_at hl 2 rfl) ?_
      refine lv_icmp_ge (tgt := 71) hx hb dX5_feed_48 (by decide) (fun c3 => ?_) (fun c3 => ?_)
      · refine lv_aload_n hx hb dX5_feed_71 rfl (lv_at hl 0 rfl) ?_
        refine va_get (D := D) (ci := 5) (v := .ref (h 7)) (C := RX5) (T := TX5) (N := 12) hx hb hts (se_iw iwX5) hown hK hP 0 rfl rfl 6 (by decide) (hts _ (List.mem_cons_of_mem _ qX5_f49)) (fun _ h9 => h9) rfl dX5_feed_72 ?_
        refine va_getN (D := D) (ci := 3) (v := .int (gj45 7 1)) (C := RX3) (T := TX3) (N := 7) hx hb hts (se_iw iwX3) hown hK hP 7 rfl rfl 1 (by decide) (va_Nw.use rfl (hZ _ nX5_f230 rfl)) (fun _ h9 => h9) rfl dX5_feed_75 ?_
        exact xe_ret (W.widen (k := 1) (n := 6) (Nat.zero_le _) (Nat.zero_le _) (se_xi hx hb hr hlocks hK hP hD hS dX5_feed_78 (by rw [← hF, F_S_feed_j45, if_pos c3])))
      · refine lv_aload_n hx hb dX5_feed_51 rfl (lv_at hl 0 rfl) ?_
        refine va_get (D := D) (ci := 5) (v := .ref (h 7)) (C := RX5) (T := TX5) (N := 12) hx hb hts (se_iw iwX5) hown hK hP 0 rfl rfl 6 (by decide) (hts _ (List.mem_cons_of_mem _ qX5_f49)) (fun _ h9 => h9) rfl dX5_feed_52 ?_
        refine lv_lload_n hx hb dX5_feed_55 rfl (lv_at hl 1 rfl) ?_
        refine lv_iload_n hx hb dX5_feed_56 rfl (lv_at hl 2 rfl) ?_
        refine lv_iload hx hb dX5_feed_57 (lv_at hl 3 rfl) ?_
        refine se_cp (va_runS (As := [.long v1_45, .int v3_45, .int v4_45]) (rest := [.ref (h 7)]) ⟨hx, hb, hml, hown, hts⟩ (c_S_byteOf l D k h _ gj45 v1_45 v3_45 v4_45) (se_kS 3 hts q_code_X5_byteOf qX5_m108 q_ini_StreamEnd q_static_X5_byteOf (by decide +kernel) ⟨Nat.le_of_ble_eq_true rfl, Nat.le_of_ble_eq_true rfl⟩ rfl rfl) ⟨se_blind se_ZN_ok, se_pre se_ZN_ok hP hK hD hZ⟩ rfl rfl hl.1 rfl (lv_room (Nat.le_of_ble_eq_true rfl)) dX5_feed_59 ⟨Nat.zero_le _, Nat.zero_le _⟩) ?_
        refine se_cvE (va_runVN (C := RX3) (As := [.int (F_S_byteOf v1_45 v3_45 v4_45)]) (rest := []) ⟨hx, hb, hml, hown, hts⟩ (c_S_Segment_append_7 l D k h _ gj45 (F_S_byteOf v1_45 v3_45 v4_45)) (se_kVN 1 hts q_code_X3_append (hZ _ nX5_m246 rfl) q_ini_StreamEnd_Segment q_instanceMethod_X3_append q_sel_X3_append (by decide +kernel) ⟨Nat.le_of_ble_eq_true rfl, Nat.le_of_ble_eq_true rfl⟩ rfl rfl) ⟨se_blind se_ZN_ok, va_recv hK hP (ci := 3) (q0 := 7) rfl rfl, se_pre se_ZN_ok hP hK hD hZ⟩ rfl rfl hl.1 rfl (lv_room (Nat.le_of_ble_eq_true rfl)) dX5_feed_62 ⟨Nat.zero_le _, Nat.zero_le _⟩) hD hS hA (fun g1 H locs eg1 hP hD hS => ?_)
        refine lv_iinc (v := (v4_45 + 1)) (lv' := [(4, .int (v4_45 + 1)), (0, .ref (h 0)), (1, .long v1_45), (3, .int v3_45)]) hx hb dX5_feed_65 hl (k := 3) rfl rfl (by decide) rfl (fun ls hl => ?_)
        refine lv_goto (tgt := 45) hx hb dX5_feed_68 (by decide) ?_
        exact ih g1 v1_45 v3_45 (v4_45 + 1) _ _ ls (se_dec c3 hM) (by subst eg1; rw [← hF, F_S_feed_j45, if_neg c3]) hP hD hS (lv_sub hl [1, 2, 3, 0] rfl)
  have hF : F_S_feed g p1 p3 = F_S_feed g p1 p3 := rfl
  refine lv_iload_n hx hb dX5_feed_0 rfl (lv_at hl 2 rfl) ?_
  refine se_cp (va_runS (As := [.int p3]) (rest := []) ⟨hx, hb, hml, hown, hts⟩ (c_S_isHandful l D k h _ g p3) (se_kS 1 hts q_code_X5_isHandful qX5_m84 q_ini_StreamEnd q_static_X5_isHandful (by decide +kernel) ⟨Nat.le_of_ble_eq_true rfl, Nat.le_of_ble_eq_true rfl⟩ rfl rfl) ⟨se_blind se_ZN_ok, se_pre se_ZN_ok hP hK hD hZ⟩ rfl rfl hl.1 rfl (lv_room (Nat.le_of_ble_eq_true rfl)) dX5_feed_1 ⟨Nat.zero_le _, Nat.zero_le _⟩) ?_
  refine lv_if_ne (tgt := 17) hx hb dX5_feed_4 (by decide) (fun c1 => ?_) (fun c1 => ?_)
  · refine lv_iload_n hx hb dX5_feed_17 rfl (lv_at hl 2 rfl) ?_
    refine lv_sipush (v := 1460) hx hb dX5_feed_18 (by decide) ?_
    refine lv_aload_n hx hb dX5_feed_21 rfl (lv_at hl 0 rfl) ?_
    refine va_get (D := D) (ci := 5) (v := .ref (h 7)) (C := RX5) (T := TX5) (N := 12) hx hb hts (se_iw iwX5) hown hK hP 0 rfl rfl 6 (by decide) (hts _ (List.mem_cons_of_mem _ qX5_f49)) (fun _ h9 => h9) rfl dX5_feed_22 ?_
    refine va_getN (D := D) (ci := 3) (v := .int (g 7 1)) (C := RX3) (T := TX3) (N := 7) hx hb hts (se_iw iwX3) hown hK hP 7 rfl rfl 1 (by decide) (va_Nw.use rfl (hZ _ nX5_f230 rfl)) (fun _ h9 => h9) rfl dX5_feed_25 ?_
    refine lv_isub hx hb dX5_feed_28 ?_
    refine lv_icmp_le (tgt := 42) hx hb dX5_feed_29 (by decide) (fun c2 => ?_) (fun c2 => ?_)
    · refine lv_iconst (v := 0) hx hb dX5_feed_42 (by decide) ?_
      refine lv_istore (lv' := [(4, .int 0), (0, .ref (h 0)), (1, .long p1), (3, .int p3)]) hx hb dX5_feed_43 hl (by decide) rfl (fun ls hl => ?_)
      exact L45 ((((p3) : Int32).toInt - ((0) : Int32).toInt).toNat + 1) g p1 p3 0 _ _ ls (se_fuel _ _) (by rw [F_S_feed, if_neg c1, if_pos c2]) hP hD hS (lv_sub hl [1, 2, 3, 0] rfl)
    · exact xe_throw (own := RX5) (cls := "java/lang/IllegalStateException") (names := xe_names) (text := "a segment has at most 1460 bytes") (sa := sa 244) hx hb hfl hown (by decide) (by decide) (hts _ (List.mem_cons_of_mem _ qX5_c73)) (hts _ (List.mem_cons_of_mem _ q_ini_java_lang_IllegalStateException)) (hZX.2.1 (244, "a segment has at most 1460 bytes") (by decide)) (xe_at2 hts hZX) (hl.1.trans hml.symm) dX5_feed_32 dX5_feed_35 dX5_feed_36 dX5_feed_38 dX5_feed_41 hno (by decide) (by decide) (by decide) (by decide) hlocks (xe_x hK hP hD (se_xe se_x2 (by rw [F_S_feed, if_neg c1, if_neg c2])))
  · exact xe_throw (own := RX5) (cls := "java/lang/IllegalArgumentException") (names := xe_names) (text := "1 to 8 bytes are fed at once") (sa := sa 242) hx hb hfl hown (by decide) (by decide) (hts _ (List.mem_cons_of_mem _ qX5_c88)) (hts _ (List.mem_cons_of_mem _ q_ini_java_lang_IllegalArgumentException)) (hZX.2.1 (242, "1 to 8 bytes are fed at once") (by decide)) (xe_at1 hts hZX) (hl.1.trans hml.symm) dX5_feed_7 dX5_feed_10 dX5_feed_11 dX5_feed_13 dX5_feed_16 hno (by decide) (by decide) (by decide) (by decide) hlocks (xe_x hK hP hD (se_xe se_x1 (by rw [F_S_feed, if_pos c1])))
