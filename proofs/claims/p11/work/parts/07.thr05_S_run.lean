/-! written by program (wip/gen) -/
set_option maxRecDepth 100000 in
set_option maxHeartbeats 4000000 in
theorem c_S_run (l : Launch) (hfl : l.flags = pinnedFlags ++ [noTraceFlag]) (D : va_G) (k : Nat → ClassId) (h : Nat → Nat) (sa : Nat → Nat) (sz : Nat) (g : se_G) (p1 : Int32) : xe_Met l yX5_run (se_w_X5_run) ({ frames := 6, cells := 1, slots := 6, locals := 91 }) (va_Pc [.ref (h 0), .int p1] (se_Pre D se_cl [(k 2, .byte), (k 4, .int), (k 8, .byte), (k 10, .byte)] (se_WS k h g) (se_ZNX sa) sz)) (se_Xi D se_cl [(k 2, .byte), (k 4, .int), (k 8, .byte), (k 10, .byte)] (se_WS k h) (F_S_run g p1) (va_A (se_WS k h g) sz)) (xe_X D se_cl [(k 2, .byte), (k 4, .int), (k 8, .byte), (k 10, .byte)] (se_WS k h) (F_S_run g p1) (va_A (se_WS k h g) sz)) 1 6 (va_A (se_WS k h g) sz) := by
  refine xe_met (Qc := se_Xi D se_cl [(k 2, .byte), (k 4, .int), (k 8, .byte), (k 10, .byte)] (se_WS k h) (F_S_run g p1)) (XC := xe_X D se_cl [(k 2, .byte), (k 4, .int), (k 8, .byte), (k 10, .byte)] (se_WS k h) (F_S_run g p1)) (cc := cX5_run) (maxL := 4) (ret := (some .int)) (by decide) rfl (Nat.le_of_ble_eq_true rfl) ?_
  intro p e s m below meth c ls A hx hb hr hts hown hlocks hml hno hA hP hK hD hS hZX hl
  have hZ : se_ZN s := hZX.1
  replace hl : lv_has ls 4 [(0, .ref (h 0)), (1, .int p1)] := hl
  have L48 : ∀ (n : Nat) (gj48 : se_G) (v2_48 : Int32) (H : Heap) (locs : List Loc) (ls : Array Slot), (v2_48).toInt.toNat < n → F_S_run_j48 n gj48 v2_48 = F_S_run g p1 → va_P D se_cl (se_WS k h gj48) H → va_D A (se_WS k h gj48) → va_S A s.heap H locs → lv_has ls 4 [(0, .ref (h 0)), (2, .int v2_48)] → W p l e ({ frames := 6, cells := 1, slots := 6, locals := 91 }) s m [.ref (h 0), .int p1].toArray below meth c H locs 0 0 (xe_MQ below (se_Xi D se_cl [(k 2, .byte), (k 4, .int), (k 8, .byte), (k 10, .byte)] (se_WS k h) (F_S_run g p1) A) (xe_X D se_cl [(k 2, .byte), (k 4, .int), (k 8, .byte), (k 10, .byte)] (se_WS k h) (F_S_run g p1) A) [.ref (h 0), .int p1].toArray s 1 6 A) (F0 m 48 ls []) := by
    intro n
    induction n with
    | zero => intro gj48 v2_48 H locs ls hM; exact absurd hM (Nat.not_lt_zero _)
    | succ n ih =>
      intro gj48 v2_48 H locs ls hM hF hP hD hS hl
      refine lv_iload_n hx hb dX5_run_48 rfl (lv_at hl 1 rfl) ?_
      refine lv_if_le (tgt := 106) hx hb dX5_run_49 (by decide) (fun c4 => ?_) (fun c4 => ?_)
      · refine lv_aload_n hx hb dX5_run_106 rfl (lv_at hl 0 rfl) ?_
        refine va_get (D := D) (ci := 5) (v := .ref (h 5)) (C := RX5) (T := TX5) (N := 12) hx hb hts (se_iw iwX5) hown hK hP 0 rfl rfl 4 (by decide) (hts _ (List.mem_cons_of_mem _ qX5_f35)) (fun _ h9 => h9) rfl dX5_run_107 ?_
        refine va_getN (D := D) (ci := 4) (v := .int (gj48 5 0)) (C := RX4) (T := TX4) (N := 11) hx hb hts (se_iw iwX4) hown hK hP 5 rfl rfl 0 (by decide) (va_Nw.use rfl (hZ _ nX5_f150 rfl)) (fun _ h9 => h9) rfl dX5_run_110 ?_
        exact xe_ret (W.widen (k := 1) (n := 6) (Nat.zero_le _) (Nat.zero_le _) (se_xi hx hb hr hlocks hK hP hD hS dX5_run_113 (by rw [← hF, F_S_run_j48, if_pos c4])))
      · refine lv_aload_n hx hb dX5_run_52 rfl (lv_at hl 0 rfl) ?_
        refine va_get (D := D) (ci := 5) (v := .ref (h 5)) (C := RX5) (T := TX5) (N := 12) hx hb hts (se_iw iwX5) hown hK hP 0 rfl rfl 4 (by decide) (hts _ (List.mem_cons_of_mem _ qX5_f35)) (fun _ h9 => h9) rfl dX5_run_53 ?_
        refine va_getN (D := D) (ci := 4) (v := .int (gj48 5 1)) (C := RX4) (T := TX4) (N := 11) hx hb hts (se_iw iwX4) hown hK hP 5 rfl rfl 1 (by decide) (va_Nw.use rfl (hZ _ nX5_f155 rfl)) (fun _ h9 => h9) rfl dX5_run_56 ?_
        refine se_join (v := ((if (gj48 5 1) = 0 then v2_48 else (if 1 < (if (F_S_Watch_ticksToAlarm gj48) < v2_48 then (F_S_Watch_ticksToAlarm gj48) else v2_48) then (if (F_S_Watch_ticksToAlarm gj48) < v2_48 then (F_S_Watch_ticksToAlarm gj48) else v2_48) else 1)) : Int32)) (pcJ := 81) (restJ := []) (ls := ls) (fun T => ?_) ?_
        · refine lv_if_eq (tgt := 80) hx hb dX5_run_59 (by decide) (fun c6 => ?_) (fun c6 => ?_)
          · refine lv_iload_n hx hb dX5_run_80 rfl (lv_at hl 1 rfl) ?_
            exact T _ (by rw [if_pos c6])
          · refine lv_iconst (v := 1) hx hb dX5_run_62 (by decide) ?_
            refine lv_iload_n hx hb dX5_run_63 rfl (lv_at hl 1 rfl) ?_
            refine lv_aload_n hx hb dX5_run_64 rfl (lv_at hl 0 rfl) ?_
            refine va_get (D := D) (ci := 5) (v := .ref (h 5)) (C := RX5) (T := TX5) (N := 12) hx hb hts (se_iw iwX5) hown hK hP 0 rfl rfl 4 (by decide) (hts _ (List.mem_cons_of_mem _ qX5_f35)) (fun _ h9 => h9) rfl dX5_run_65 ?_
            refine se_cp (va_runVN (C := RX4) (As := []) (rest := [.int v2_48, .int 1]) ⟨hx, hb, hml, hown, hts⟩ (c_S_Watch_ticksToAlarm l D k h _ gj48) (se_kVN 0 hts q_code_X4_ticksToAlarm (hZ _ nX5_m158 rfl) q_ini_StreamEnd_Watch q_instanceMethod_X4_ticksToAlarm q_sel_X4_ticksToAlarm (by decide +kernel) ⟨Nat.le_of_ble_eq_true rfl, Nat.le_of_ble_eq_true rfl⟩ rfl rfl) ⟨se_blind se_ZN_ok, va_recv hK hP (ci := 4) (q0 := 5) rfl rfl, se_pre se_ZN_ok hP hK hD hZ⟩ rfl rfl hl.1 rfl (lv_room (Nat.le_of_ble_eq_true rfl)) dX5_run_68 ⟨Nat.zero_le _, Nat.zero_le _⟩) ?_
            refine va_mmin hx hb (hml.trans hl.1.symm) hown (hts _ (List.mem_cons_of_mem _ qX5_m102)) (hts _ (List.mem_cons_of_mem _ q_static_Math_min)) (hts _ (List.mem_cons_of_mem _ q_ini_java_lang_Math)) (hts _ (List.mem_cons_of_mem _ q_code_Math_min)) (Nat.le_of_ble_eq_true rfl) (Nat.le_of_ble_eq_true rfl) (Nat.zero_le _) (Nat.zero_le _) dX5_run_71 ?_
            refine va_mmax hx hb (hml.trans hl.1.symm) hown (hts _ (List.mem_cons_of_mem _ qX5_m161)) (hts _ (List.mem_cons_of_mem _ q_static_Math_max)) (hts _ (List.mem_cons_of_mem _ q_ini_java_lang_Math)) (hts _ (List.mem_cons_of_mem _ q_code_Math_max)) (Nat.le_of_ble_eq_true rfl) (Nat.le_of_ble_eq_true rfl) (Nat.zero_le _) (Nat.zero_le _) dX5_run_74 ?_
            refine lv_goto (tgt := 81) hx hb dX5_run_77 (by decide) ?_
            exact T _ (by rw [if_neg c6])
        refine lv_istore_n (lv' := [(3, .int ((if (gj48 5 1) = 0 then v2_48 else (if 1 < (if (F_S_Watch_ticksToAlarm gj48) < v2_48 then (F_S_Watch_ticksToAlarm gj48) else v2_48) then (if (F_S_Watch_ticksToAlarm gj48) < v2_48 then (F_S_Watch_ticksToAlarm gj48) else v2_48) else 1)) : Int32)), (0, .ref (h 0)), (2, .int v2_48)]) hx hb dX5_run_81 rfl hl (by decide) rfl (fun ls hl => ?_)
        refine lv_iload_n hx hb dX5_run_82 rfl (lv_at hl 2 rfl) ?_
        refine lv_iload_n hx hb dX5_run_83 rfl (lv_at hl 0 rfl) ?_
        refine lv_isub hx hb dX5_run_84 ?_
        refine lv_istore_n (lv' := [(2, .int (v2_48 - ((if (gj48 5 1) = 0 then v2_48 else (if 1 < (if (F_S_Watch_ticksToAlarm gj48) < v2_48 then (F_S_Watch_ticksToAlarm gj48) else v2_48) then (if (F_S_Watch_ticksToAlarm gj48) < v2_48 then (F_S_Watch_ticksToAlarm gj48) else v2_48) else 1)) : Int32))), (3, .int ((if (gj48 5 1) = 0 then v2_48 else (if 1 < (if (F_S_Watch_ticksToAlarm gj48) < v2_48 then (F_S_Watch_ticksToAlarm gj48) else v2_48) then (if (F_S_Watch_ticksToAlarm gj48) < v2_48 then (F_S_Watch_ticksToAlarm gj48) else v2_48) else 1)) : Int32)), (0, .ref (h 0))]) hx hb dX5_run_85 rfl hl (by decide) rfl (fun ls hl => ?_)
        refine lv_aload_n hx hb dX5_run_86 rfl (lv_at hl 2 rfl) ?_
        refine va_get (D := D) (ci := 5) (v := .ref (h 5)) (C := RX5) (T := TX5) (N := 12) hx hb hts (se_iw iwX5) hown hK hP 0 rfl rfl 4 (by decide) (hts _ (List.mem_cons_of_mem _ qX5_f35)) (fun _ h9 => h9) rfl dX5_run_87 ?_
        refine lv_dup hx hb dX5_run_90 rfl ?_
        refine va_getN (D := D) (ci := 4) (v := .int (gj48 5 0)) (C := RX4) (T := TX4) (N := 11) hx hb hts (se_iw iwX4) hown hK hP 5 rfl rfl 0 (by decide) (va_Nw.use rfl (hZ _ nX5_f150 rfl)) (fun _ h9 => h9) rfl dX5_run_91 ?_
        refine lv_iload_n hx hb dX5_run_94 rfl (lv_at hl 1 rfl) ?_
        refine lv_iadd hx hb dX5_run_95 ?_
        refine va_putN (D := D) (ci := 4) (v := .int ((gj48 5 0) + ((if (gj48 5 1) = 0 then v2_48 else (if 1 < (if (F_S_Watch_ticksToAlarm gj48) < v2_48 then (F_S_Watch_ticksToAlarm gj48) else v2_48) then (if (F_S_Watch_ticksToAlarm gj48) < v2_48 then (F_S_Watch_ticksToAlarm gj48) else v2_48) else 1)) : Int32))) (ty := .int) (C := RX4) (T := TX4) (N := 11) hx hb hts (se_iw iwX4) tyX4 tyX4_ok nmX4 hown hK hP hD hS 5 rfl rfl 0 (by decide) (va_Nw.use rfl (hZ _ nX5_f150 rfl)) (fun _ h9 => h9) rfl (by decide +kernel) rfl rfl (Nat.le_of_ble_eq_true rfl) dX5_run_96 (fun H locs hP hD hS => ?_)
        replace hP : va_P D se_cl (se_WS k h (se_u gj48 5 0 ((gj48 5 0) + ((if (gj48 5 1) = 0 then v2_48 else (if 1 < (if (F_S_Watch_ticksToAlarm gj48) < v2_48 then (F_S_Watch_ticksToAlarm gj48) else v2_48) then (if (F_S_Watch_ticksToAlarm gj48) < v2_48 then (F_S_Watch_ticksToAlarm gj48) else v2_48) else 1)) : Int32)))) H := hP
        replace hD : va_D A (se_WS k h (se_u gj48 5 0 ((gj48 5 0) + ((if (gj48 5 1) = 0 then v2_48 else (if 1 < (if (F_S_Watch_ticksToAlarm gj48) < v2_48 then (F_S_Watch_ticksToAlarm gj48) else v2_48) then (if (F_S_Watch_ticksToAlarm gj48) < v2_48 then (F_S_Watch_ticksToAlarm gj48) else v2_48) else 1)) : Int32)))) := hD
        refine lv_aload_n hx hb dX5_run_99 rfl (lv_at hl 2 rfl) ?_
        refine se_cvE (va_runV (C := RX5) (As := []) (rest := []) ⟨hx, hb, hml, hown, hts⟩ (c_S_takeEvents l D k h _ (se_u gj48 5 0 ((gj48 5 0) + ((if (gj48 5 1) = 0 then v2_48 else (if 1 < (if (F_S_Watch_ticksToAlarm gj48) < v2_48 then (F_S_Watch_ticksToAlarm gj48) else v2_48) then (if (F_S_Watch_ticksToAlarm gj48) < v2_48 then (F_S_Watch_ticksToAlarm gj48) else v2_48) else 1)) : Int32)))) (se_kV 0 hts q_code_X5_takeEvents qX5_m164 q_ini_StreamEnd q_instanceMethod_X5_takeEvents q_sel_X5_takeEvents (by decide +kernel) ⟨Nat.le_of_ble_eq_true rfl, Nat.le_of_ble_eq_true rfl⟩ rfl rfl) ⟨se_blind se_ZN_ok, va_recv hK hP (ci := 5) (q0 := 0) rfl rfl, se_pre se_ZN_ok hP hK hD hZ⟩ rfl rfl hl.1 rfl (lv_room (Nat.le_of_ble_eq_true rfl)) dX5_run_100 ⟨Nat.zero_le _, Nat.zero_le _⟩) hD hS hA (fun g1 H locs eg1 hP hD hS => ?_)
        refine lv_goto (tgt := 48) hx hb dX5_run_103 (by decide) ?_
        exact ih g1 (v2_48 - ((if (gj48 5 1) = 0 then v2_48 else (if 1 < (if (F_S_Watch_ticksToAlarm gj48) < v2_48 then (F_S_Watch_ticksToAlarm gj48) else v2_48) then (if (F_S_Watch_ticksToAlarm gj48) < v2_48 then (F_S_Watch_ticksToAlarm gj48) else v2_48) else 1)) : Int32)) _ _ ls (se_decL c4 hM) (by subst eg1; rw [← hF, F_S_run_j48, if_neg c4]) hP hD hS (lv_sub hl [2, 0] rfl)
  have hF : F_S_run g p1 = F_S_run g p1 := rfl
  refine lv_iload_n hx hb dX5_run_0 rfl (lv_at hl 1 rfl) ?_
  refine lv_iconst (v := 1) hx hb dX5_run_1 (by decide) ?_
  refine lv_icmp_lt (tgt := 12) hx hb dX5_run_2 (by decide) (fun c1 => ?_) (fun c1 => ?_)
  · exact xe_throw (own := RX5) (cls := "java/lang/IllegalArgumentException") (names := xe_names) (text := "1 to 2000 ticks go by at once") (sa := sa 147) hx hb hfl hown (by decide) (by decide) (hts _ (List.mem_cons_of_mem _ qX5_c88)) (hts _ (List.mem_cons_of_mem _ q_ini_java_lang_IllegalArgumentException)) (hZX.2.1 (147, "1 to 2000 ticks go by at once") (by decide)) (xe_at1 hts hZX) (hl.1.trans hml.symm) dX5_run_12 dX5_run_15 dX5_run_16 dX5_run_18 dX5_run_21 hno (by decide) (by decide) (by decide) (by decide) hlocks (xe_x hK hP hD (se_xe se_x1 (by rw [F_S_run, if_pos c1])))
  · refine lv_iload_n hx hb dX5_run_5 rfl (lv_at hl 1 rfl) ?_
    refine lv_sipush (v := 2000) hx hb dX5_run_6 (by decide) ?_
    refine lv_icmp_le (tgt := 22) hx hb dX5_run_9 (by decide) (fun c2 => ?_) (fun c2 => ?_)
    · refine lv_iload_n hx hb dX5_run_22 rfl (lv_at hl 1 rfl) ?_
      refine lv_ldc hx hb hown (hts _ (List.mem_cons_of_mem _ qX5_k149)) dX5_run_23 ?_
      refine lv_aload_n hx hb dX5_run_25 rfl (lv_at hl 0 rfl) ?_
      refine va_get (D := D) (ci := 5) (v := .ref (h 5)) (C := RX5) (T := TX5) (N := 12) hx hb hts (se_iw iwX5) hown hK hP 0 rfl rfl 4 (by decide) (hts _ (List.mem_cons_of_mem _ qX5_f35)) (fun _ h9 => h9) rfl dX5_run_26 ?_
      refine va_getN (D := D) (ci := 4) (v := .int (g 5 0)) (C := RX4) (T := TX4) (N := 11) hx hb hts (se_iw iwX4) hown hK hP 5 rfl rfl 0 (by decide) (va_Nw.use rfl (hZ _ nX5_f150 rfl)) (fun _ h9 => h9) rfl dX5_run_29 ?_
      refine lv_isub hx hb dX5_run_32 ?_
      refine lv_icmp_le (tgt := 46) hx hb dX5_run_33 (by decide) (fun c3 => ?_) (fun c3 => ?_)
      · refine lv_iload_n hx hb dX5_run_46 rfl (lv_at hl 1 rfl) ?_
        refine lv_istore_n (lv' := [(2, .int p1), (0, .ref (h 0)), (1, .int p1)]) hx hb dX5_run_47 rfl hl (by decide) rfl (fun ls hl => ?_)
        exact L48 (((p1) : Int32).toInt.toNat + 1) g p1 _ _ ls (Nat.lt_succ_self _) (by rw [F_S_run, if_neg c1, if_pos c2, if_pos c3]) hP hD hS (lv_sub hl [1, 0] rfl)
      · exact xe_throw (own := RX5) (cls := "java/lang/IllegalStateException") (names := xe_names) (text := "the time would be too late") (sa := sa 153) hx hb hfl hown (by decide) (by decide) (hts _ (List.mem_cons_of_mem _ qX5_c73)) (hts _ (List.mem_cons_of_mem _ q_ini_java_lang_IllegalStateException)) (hZX.2.1 (153, "the time would be too late") (by decide)) (xe_at2 hts hZX) (hl.1.trans hml.symm) dX5_run_36 dX5_run_39 dX5_run_40 dX5_run_42 dX5_run_45 hno (by decide) (by decide) (by decide) (by decide) hlocks (xe_x hK hP hD (se_xe se_x2 (by rw [F_S_run, if_neg c1, if_pos c2, if_neg c3])))
    · exact xe_throw (own := RX5) (cls := "java/lang/IllegalArgumentException") (names := xe_names) (text := "1 to 2000 ticks go by at once") (sa := sa 147) hx hb hfl hown (by decide) (by decide) (hts _ (List.mem_cons_of_mem _ qX5_c88)) (hts _ (List.mem_cons_of_mem _ q_ini_java_lang_IllegalArgumentException)) (hZX.2.1 (147, "1 to 2000 ticks go by at once") (by decide)) (xe_at1 hts hZX) (hl.1.trans hml.symm) dX5_run_12 dX5_run_15 dX5_run_16 dX5_run_18 dX5_run_21 hno (by decide) (by decide) (by decide) (by decide) hlocks (xe_x hK hP hD (se_xe se_x1 (by rw [F_S_run, if_neg c1, if_neg c2])))
