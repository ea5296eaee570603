/-! written by program (wip/gen) -/
set_option maxRecDepth 100000 in
set_option maxHeartbeats 4000000 in
theorem c_S_byteAt (l : Launch) (hfl : l.flags = pinnedFlags ++ [noTraceFlag]) (D : va_G) (k : Nat → ClassId) (h : Nat → Nat) (sa : Nat → Nat) (sz : Nat) (g : se_G) (p1 : Int32) (hI : (g 9 1).toInt ≤ 1460) : xe_Met l yX5_byteAt (se_w_X5_byteAt) ({ frames := 6, cells := 1, slots := 6, locals := 91 }) (va_Pc [.ref (h 0), .int p1] (se_Pre D se_cl [(k 2, .byte), (k 4, .int), (k 8, .byte), (k 10, .byte)] (se_WS k h g) (se_ZNX sa) sz)) (se_Xi D se_cl [(k 2, .byte), (k 4, .int), (k 8, .byte), (k 10, .byte)] (se_WS k h) (F_S_byteAt g p1) (va_A (se_WS k h g) sz)) (xe_X D se_cl [(k 2, .byte), (k 4, .int), (k 8, .byte), (k 10, .byte)] (se_WS k h) (F_S_byteAt g p1) (va_A (se_WS k h g) sz)) 1 6 (va_A (se_WS k h g) sz) := by
  refine xe_met (Qc := se_Xi D se_cl [(k 2, .byte), (k 4, .int), (k 8, .byte), (k 10, .byte)] (se_WS k h) (F_S_byteAt g p1)) (XC := xe_X D se_cl [(k 2, .byte), (k 4, .int), (k 8, .byte), (k 10, .byte)] (se_WS k h) (F_S_byteAt g p1)) (cc := cX5_byteAt) (maxL := 2) (ret := (some .int)) (by decide) rfl (Nat.le_of_ble_eq_true rfl) ?_
  intro p e s m below meth c ls A hx hb hr hts hown hlocks hml hno hA hP hK hD hS hZX hl
  have hZ : se_ZN s := hZX.1
  replace hl : lv_has ls 2 [(0, .ref (h 0)), (1, .int p1)] := hl
  have hF : F_S_byteAt g p1 = F_S_byteAt g p1 := rfl
  refine lv_aload_n hx hb dX5_byteAt_0 rfl (lv_at hl 0 rfl) ?_
  refine va_get (D := D) (ci := 5) (v := .int (g 0 8)) (C := RX5) (T := TX5) (N := 12) hx hb hts (se_iw iwX5) hown hK hP 0 rfl rfl 8 (by decide) (hts _ (List.mem_cons_of_mem _ qX5_f56)) (fun _ h9 => h9) rfl dX5_byteAt_1 ?_
  refine lv_if_ne (tgt := 17) hx hb dX5_byteAt_4 (by decide) (fun c1 => ?_) (fun c1 => ?_)
  · refine lv_iload_n hx hb dX5_byteAt_17 rfl (lv_at hl 1 rfl) ?_
    refine lv_if_lt (tgt := 32) hx hb dX5_byteAt_18 (by decide) (fun c2 => ?_) (fun c2 => ?_)
    · exact xe_throw (own := RX5) (cls := "java/lang/IndexOutOfBoundsException") (names := xe_names) (text := "the segment has no such byte") (sa := sa 235) hx hb hfl hown (by decide) (by decide) (hts _ (List.mem_cons_of_mem _ qX5_c233)) (hts _ (List.mem_cons_of_mem _ q_ini_java_lang_IndexOutOfBoundsException)) (hZX.2.1 (235, "the segment has no such byte") (by decide)) (xe_at3 hts hZX) (hl.1.trans hml.symm) dX5_byteAt_32 dX5_byteAt_35 dX5_byteAt_36 dX5_byteAt_38 dX5_byteAt_41 hno (by decide) (by decide) (by decide) (by decide) hlocks (xe_x hK hP hD (se_xe se_x3 (by rw [F_S_byteAt, if_neg c1, if_pos c2])))
    · refine lv_iload_n hx hb dX5_byteAt_21 rfl (lv_at hl 1 rfl) ?_
      refine lv_aload_n hx hb dX5_byteAt_22 rfl (lv_at hl 0 rfl) ?_
      refine va_get (D := D) (ci := 5) (v := .ref (h 9)) (C := RX5) (T := TX5) (N := 12) hx hb hts (se_iw iwX5) hown hK hP 0 rfl rfl 7 (by decide) (hts _ (List.mem_cons_of_mem _ qX5_f53)) (fun _ h9 => h9) rfl dX5_byteAt_23 ?_
      refine va_getN (D := D) (ci := 3) (v := .int (g 9 1)) (C := RX3) (T := TX3) (N := 7) hx hb hts (se_iw iwX3) hown hK hP 9 rfl rfl 1 (by decide) (va_Nw.use rfl (hZ _ nX5_f230 rfl)) (fun _ h9 => h9) rfl dX5_byteAt_26 ?_
      refine lv_icmp_lt (tgt := 42) hx hb dX5_byteAt_29 (by decide) (fun c3 => ?_) (fun c3 => ?_)
      · refine lv_aload_n hx hb dX5_byteAt_42 rfl (lv_at hl 0 rfl) ?_
        refine va_get (D := D) (ci := 5) (v := .ref (h 9)) (C := RX5) (T := TX5) (N := 12) hx hb hts (se_iw iwX5) hown hK hP 0 rfl rfl 7 (by decide) (hts _ (List.mem_cons_of_mem _ qX5_f53)) (fun _ h9 => h9) rfl dX5_byteAt_43 ?_
        refine va_getN (D := D) (ci := 3) (v := .ref (h 10)) (C := RX3) (T := TX3) (N := 7) hx hb hts (se_iw iwX3) hown hK hP 9 rfl rfl 0 (by decide) (va_Nw.use rfl (hZ _ nX5_f238 rfl)) (fun _ h9 => h9) rfl dX5_byteAt_46 ?_
        refine lv_iload_n hx hb dX5_byteAt_49 rfl (lv_at hl 1 rfl) ?_
        refine va_bald hx hb hK hP 10 3 rfl rfl (se_inLt c2 c3 hI) dX5_byteAt_50 ?_
        refine lv_sipush (v := 255) hx hb dX5_byteAt_51 (by decide) ?_
        refine lv_iand hx hb dX5_byteAt_54 ?_
        exact xe_ret (W.widen (k := 1) (n := 6) (Nat.zero_le _) (Nat.zero_le _) (se_xi hx hb hr hlocks hK hP hD hS dX5_byteAt_55 (by rw [F_S_byteAt, if_neg c1, if_neg c2, if_pos c3])))
      · exact xe_throw (own := RX5) (cls := "java/lang/IndexOutOfBoundsException") (names := xe_names) (text := "the segment has no such byte") (sa := sa 235) hx hb hfl hown (by decide) (by decide) (hts _ (List.mem_cons_of_mem _ qX5_c233)) (hts _ (List.mem_cons_of_mem _ q_ini_java_lang_IndexOutOfBoundsException)) (hZX.2.1 (235, "the segment has no such byte") (by decide)) (xe_at3 hts hZX) (hl.1.trans hml.symm) dX5_byteAt_32 dX5_byteAt_35 dX5_byteAt_36 dX5_byteAt_38 dX5_byteAt_41 hno (by decide) (by decide) (by decide) (by decide) hlocks (xe_x hK hP hD (se_xe se_x3 (by rw [F_S_byteAt, if_neg c1, if_neg c2, if_neg c3])))
  · exact xe_throw (own := RX5) (cls := "java/lang/IllegalStateException") (names := xe_names) (text := "no segment was made") (sa := sa 215) hx hb hfl hown (by decide) (by decide) (hts _ (List.mem_cons_of_mem _ qX5_c73)) (hts _ (List.mem_cons_of_mem _ q_ini_java_lang_IllegalStateException)) (hZX.2.1 (215, "no segment was made") (by decide)) (xe_at2 hts hZX) (hl.1.trans hml.symm) dX5_byteAt_7 dX5_byteAt_10 dX5_byteAt_11 dX5_byteAt_13 dX5_byteAt_16 hno (by decide) (by decide) (by decide) (by decide) hlocks (xe_x hK hP hD (se_xe se_x2 (by rw [F_S_byteAt, if_pos c1])))
