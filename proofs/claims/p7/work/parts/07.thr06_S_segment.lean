/-! written by program (wip/gen) -/
set_option maxRecDepth 100000 in
set_option maxHeartbeats 4000000 in
theorem c_S_segment (l : Launch) (hfl : l.flags = pinnedFlags ++ [noTraceFlag]) (D : va_G) (k : Nat → ClassId) (h : Nat → Nat) (sa : Nat → Nat) (sz : Nat) (g : se_G) (p1 : Int32) : xe_Met l yX5_segment (se_w_X5_segment) ({ frames := 6, cells := 1, slots := 6, locals := 91 }) (va_Pc [.ref (h 0), .int p1] (se_Pre D se_cl [(k 2, .byte), (k 4, .int), (k 8, .byte), (k 10, .byte)] (se_WS k h g) (se_ZNX sa) sz)) (se_Xi D se_cl [(k 2, .byte), (k 4, .int), (k 8, .byte), (k 10, .byte)] (se_WS k h) (F_S_segment g p1) (va_A (se_WS k h g) sz)) (xe_X D se_cl [(k 2, .byte), (k 4, .int), (k 8, .byte), (k 10, .byte)] (se_WS k h) (F_S_segment g p1) (va_A (se_WS k h g) sz)) 1 6 (va_A (se_WS k h g) sz) := by
  refine xe_met (Qc := se_Xi D se_cl [(k 2, .byte), (k 4, .int), (k 8, .byte), (k 10, .byte)] (se_WS k h) (F_S_segment g p1)) (XC := xe_X D se_cl [(k 2, .byte), (k 4, .int), (k 8, .byte), (k 10, .byte)] (se_WS k h) (F_S_segment g p1)) (cc := cX5_segment) (maxL := 2) (ret := (some .int)) (by decide) rfl (Nat.le_of_ble_eq_true rfl) ?_
  intro p e s m below meth c ls A hx hb hr hts hown hlocks hml hno hA hP hK hD hS hZX hl
  have hZ : se_ZN s := hZX.1
  replace hl : lv_has ls 2 [(0, .ref (h 0)), (1, .int p1)] := hl
  have hF : F_S_segment g p1 = F_S_segment g p1 := rfl
  refine lv_iload_n hx hb dX5_segment_0 rfl (lv_at hl 1 rfl) ?_
  refine lv_if_lt (tgt := 9) hx hb dX5_segment_1 (by decide) (fun c1 => ?_) (fun c1 => ?_)
  · exact xe_throw (own := RX5) (cls := "java/lang/IllegalArgumentException") (names := xe_names) (text := "a segment has no such part") (sa := sa 213) hx hb hfl hown (by decide) (by decide) (hts _ (List.mem_cons_of_mem _ qX5_c88)) (hts _ (List.mem_cons_of_mem _ q_ini_java_lang_IllegalArgumentException)) (hZX.2.1 (213, "a segment has no such part") (by decide)) (xe_at1 hts hZX) (hl.1.trans hml.symm) dX5_segment_9 dX5_segment_12 dX5_segment_13 dX5_segment_15 dX5_segment_18 hno (by decide) (by decide) (by decide) (by decide) hlocks (xe_x hK hP hD (se_xe se_x1 (by rw [F_S_segment, if_pos c1])))
  · refine lv_iload_n hx hb dX5_segment_4 rfl (lv_at hl 1 rfl) ?_
    refine lv_iconst (v := 5) hx hb dX5_segment_5 (by decide) ?_
    refine lv_icmp_le (tgt := 19) hx hb dX5_segment_6 (by decide) (fun c2 => ?_) (fun c2 => ?_)
    · refine lv_aload_n hx hb dX5_segment_19 rfl (lv_at hl 0 rfl) ?_
      refine va_get (D := D) (ci := 5) (v := .int (g 0 8)) (C := RX5) (T := TX5) (N := 12) hx hb hts (se_iw iwX5) hown hK hP 0 rfl rfl 8 (by decide) (hts _ (List.mem_cons_of_mem _ qX5_f56)) (fun _ h9 => h9) rfl dX5_segment_20 ?_
      refine lv_if_ne (tgt := 36) hx hb dX5_segment_23 (by decide) (fun c3 => ?_) (fun c3 => ?_)
      · refine lv_iload_n hx hb dX5_segment_36 rfl (lv_at hl 1 rfl) ?_
        by_cases c4 : p1 = 0
        · refine se_swIn c4 hx hb dX5_segment_37 (off := 35) (tgt := 72) (by decide) (by decide) (by decide) (by decide) ?_
          refine lv_aload_n hx hb dX5_segment_72 rfl (lv_at hl 0 rfl) ?_
          refine va_get (D := D) (ci := 5) (v := .ref (h 9)) (C := RX5) (T := TX5) (N := 12) hx hb hts (se_iw iwX5) hown hK hP 0 rfl rfl 7 (by decide) (hts _ (List.mem_cons_of_mem _ qX5_f53)) (fun _ h9 => h9) rfl dX5_segment_73 ?_
          refine va_getN (D := D) (ci := 3) (v := .int (g 9 2)) (C := RX3) (T := TX3) (N := 7) hx hb hts (se_iw iwX3) hown hK hP 9 rfl rfl 2 (by decide) (va_Nw.use rfl (hZ _ nX5_f217 rfl)) (fun _ h9 => h9) rfl dX5_segment_76 ?_
          exact xe_ret (W.widen (k := 1) (n := 6) (Nat.zero_le _) (Nat.zero_le _) (se_xi hx hb hr hlocks hK hP hD hS dX5_segment_79 (by rw [F_S_segment, if_neg c1, if_pos c2, if_neg c3, if_pos c4])))
        by_cases c5 : p1 = 1
        · refine se_swIn c5 hx hb dX5_segment_37 (off := 43) (tgt := 80) (by decide) (by decide) (by decide) (by decide) ?_
          refine lv_aload_n hx hb dX5_segment_80 rfl (lv_at hl 0 rfl) ?_
          refine va_get (D := D) (ci := 5) (v := .ref (h 9)) (C := RX5) (T := TX5) (N := 12) hx hb hts (se_iw iwX5) hown hK hP 0 rfl rfl 7 (by decide) (hts _ (List.mem_cons_of_mem _ qX5_f53)) (fun _ h9 => h9) rfl dX5_segment_81 ?_
          refine va_getN (D := D) (ci := 3) (v := .int (g 9 3)) (C := RX3) (T := TX3) (N := 7) hx hb hts (se_iw iwX3) hown hK hP 9 rfl rfl 3 (by decide) (va_Nw.use rfl (hZ _ nX5_f220 rfl)) (fun _ h9 => h9) rfl dX5_segment_84 ?_
          exact xe_ret (W.widen (k := 1) (n := 6) (Nat.zero_le _) (Nat.zero_le _) (se_xi hx hb hr hlocks hK hP hD hS dX5_segment_87 (by rw [F_S_segment, if_neg c1, if_pos c2, if_neg c3, if_neg c4, if_pos c5])))
        by_cases c6 : p1 = 2
        · refine se_swIn c6 hx hb dX5_segment_37 (off := 51) (tgt := 88) (by decide) (by decide) (by decide) (by decide) ?_
          refine lv_aload_n hx hb dX5_segment_88 rfl (lv_at hl 0 rfl) ?_
          refine va_get (D := D) (ci := 5) (v := .ref (h 9)) (C := RX5) (T := TX5) (N := 12) hx hb hts (se_iw iwX5) hown hK hP 0 rfl rfl 7 (by decide) (hts _ (List.mem_cons_of_mem _ qX5_f53)) (fun _ h9 => h9) rfl dX5_segment_89 ?_
          refine va_getN (D := D) (ci := 3) (v := .int (g 9 4)) (C := RX3) (T := TX3) (N := 7) hx hb hts (se_iw iwX3) hown hK hP 9 rfl rfl 4 (by decide) (va_Nw.use rfl (hZ _ nX5_f223 rfl)) (fun _ h9 => h9) rfl dX5_segment_92 ?_
          exact xe_ret (W.widen (k := 1) (n := 6) (Nat.zero_le _) (Nat.zero_le _) (se_xi hx hb hr hlocks hK hP hD hS dX5_segment_95 (by rw [F_S_segment, if_neg c1, if_pos c2, if_neg c3, if_neg c4, if_neg c5, if_pos c6])))
        by_cases c7 : p1 = 3
        · refine se_swIn c7 hx hb dX5_segment_37 (off := 59) (tgt := 96) (by decide) (by decide) (by decide) (by decide) ?_
          refine lv_aload_n hx hb dX5_segment_96 rfl (lv_at hl 0 rfl) ?_
          refine va_get (D := D) (ci := 5) (v := .ref (h 9)) (C := RX5) (T := TX5) (N := 12) hx hb hts (se_iw iwX5) hown hK hP 0 rfl rfl 7 (by decide) (hts _ (List.mem_cons_of_mem _ qX5_f53)) (fun _ h9 => h9) rfl dX5_segment_97 ?_
          refine va_getN (D := D) (ci := 3) (v := .int (g 9 5)) (C := RX3) (T := TX3) (N := 7) hx hb hts (se_iw iwX3) hown hK hP 9 rfl rfl 5 (by decide) (va_Nw.use rfl (hZ _ nX5_f226 rfl)) (fun _ h9 => h9) rfl dX5_segment_100 ?_
          exact xe_ret (W.widen (k := 1) (n := 6) (Nat.zero_le _) (Nat.zero_le _) (se_xi hx hb hr hlocks hK hP hD hS dX5_segment_103 (by rw [F_S_segment, if_neg c1, if_pos c2, if_neg c3, if_neg c4, if_neg c5, if_neg c6, if_pos c7])))
        by_cases c8 : p1 = 4
        · refine se_swIn c8 hx hb dX5_segment_37 (off := 67) (tgt := 104) (by decide) (by decide) (by decide) (by decide) ?_
          refine lv_aload_n hx hb dX5_segment_104 rfl (lv_at hl 0 rfl) ?_
          refine va_get (D := D) (ci := 5) (v := .ref (h 9)) (C := RX5) (T := TX5) (N := 12) hx hb hts (se_iw iwX5) hown hK hP 0 rfl rfl 7 (by decide) (hts _ (List.mem_cons_of_mem _ qX5_f53)) (fun _ h9 => h9) rfl dX5_segment_105 ?_
          refine va_getN (D := D) (ci := 3) (v := .int (g 9 6)) (C := RX3) (T := TX3) (N := 7) hx hb hts (se_iw iwX3) hown hK hP 9 rfl rfl 6 (by decide) (va_Nw.use rfl (hZ _ nX5_f229 rfl)) (fun _ h9 => h9) rfl dX5_segment_108 ?_
          exact xe_ret (W.widen (k := 1) (n := 6) (Nat.zero_le _) (Nat.zero_le _) (se_xi hx hb hr hlocks hK hP hD hS dX5_segment_111 (by rw [F_S_segment, if_neg c1, if_pos c2, if_neg c3, if_neg c4, if_neg c5, if_neg c6, if_neg c7, if_pos c8])))
        refine lv_tableOut (tgt := 112) hx hb dX5_segment_37 (se_swOut (L := [0, 1, 2, 3, 4]) (N := 5) (by intro k hk; simp only [List.mem_cons, List.not_mem_nil, or_false] at hk; rcases hk with rfl | rfl | rfl | rfl | rfl <;> first | exact c4 | exact c5 | exact c6 | exact c7 | exact c8) (by decide) (by decide) (by decide)) (by decide) ?_
        refine lv_aload_n hx hb dX5_segment_112 rfl (lv_at hl 0 rfl) ?_
        refine va_get (D := D) (ci := 5) (v := .ref (h 9)) (C := RX5) (T := TX5) (N := 12) hx hb hts (se_iw iwX5) hown hK hP 0 rfl rfl 7 (by decide) (hts _ (List.mem_cons_of_mem _ qX5_f53)) (fun _ h9 => h9) rfl dX5_segment_113 ?_
        refine va_getN (D := D) (ci := 3) (v := .int (g 9 1)) (C := RX3) (T := TX3) (N := 7) hx hb hts (se_iw iwX3) hown hK hP 9 rfl rfl 1 (by decide) (va_Nw.use rfl (hZ _ nX5_f230 rfl)) (fun _ h9 => h9) rfl dX5_segment_116 ?_
        exact xe_ret (W.widen (k := 1) (n := 6) (Nat.zero_le _) (Nat.zero_le _) (se_xi hx hb hr hlocks hK hP hD hS dX5_segment_119 (by rw [F_S_segment, if_neg c1, if_pos c2, if_neg c3, if_neg c4, if_neg c5, if_neg c6, if_neg c7, if_neg c8])))
      · exact xe_throw (own := RX5) (cls := "java/lang/IllegalStateException") (names := xe_names) (text := "no segment was made") (sa := sa 215) hx hb hfl hown (by decide) (by decide) (hts _ (List.mem_cons_of_mem _ qX5_c73)) (hts _ (List.mem_cons_of_mem _ q_ini_java_lang_IllegalStateException)) (hZX.2.1 (215, "no segment was made") (by decide)) (xe_at2 hts hZX) (hl.1.trans hml.symm) dX5_segment_26 dX5_segment_29 dX5_segment_30 dX5_segment_32 dX5_segment_35 hno (by decide) (by decide) (by decide) (by decide) hlocks (xe_x hK hP hD (se_xe se_x2 (by rw [F_S_segment, if_neg c1, if_pos c2, if_pos c3])))
    · exact xe_throw (own := RX5) (cls := "java/lang/IllegalArgumentException") (names := xe_names) (text := "a segment has no such part") (sa := sa 213) hx hb hfl hown (by decide) (by decide) (hts _ (List.mem_cons_of_mem _ qX5_c88)) (hts _ (List.mem_cons_of_mem _ q_ini_java_lang_IllegalArgumentException)) (hZX.2.1 (213, "a segment has no such part") (by decide)) (xe_at1 hts hZX) (hl.1.trans hml.symm) dX5_segment_9 dX5_segment_12 dX5_segment_13 dX5_segment_15 dX5_segment_18 hno (by decide) (by decide) (by decide) (by decide) hlocks (xe_x hK hP hD (se_xe se_x1 (by rw [F_S_segment, if_neg c1, if_neg c2])))
