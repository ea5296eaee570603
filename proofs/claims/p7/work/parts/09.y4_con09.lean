/-! written by program (wip/gen) -/
set_option maxRecDepth 100000 in
set_option maxHeartbeats 4000000 in
theorem c_M_take (l : Launch) (D : va_G) (k : Nat → ClassId) (h : Nat → Nat) (sz : Nat) (g : se_G) (p1 : Int32) (p2 : Int32) (hI : 0 ≤ (g 0 20).toInt ∧ (g 0 20).toInt ≤ 2048 ∧ (g 0 45).toInt ≤ 1460) : Met l yX6_take (se_w_X6_take) ({ frames := 2, cells := 0, slots := 0, locals := 42 }) (va_Pc [.ref (h 0), .int p1, .int p2] (se_Pre D se_cl [(k 1, .int), (k 2, .int), (k 3, .boolean), (k 4, .int), (k 5, .int), (k 6, .int)] (se_WM k h g) se_ZN sz)) (se_Qv D se_cl [(k 1, .int), (k 2, .int), (k 3, .boolean), (k 4, .int), (k 5, .int), (k 6, .int)] (se_WM k h) (F_M_take g p1 p2) (va_A (se_WM k h g) sz)) 0 0 (va_A (se_WM k h g) sz) := by
  refine se_met (Qc := se_Qv D se_cl [(k 1, .int), (k 2, .int), (k 3, .boolean), (k 4, .int), (k 5, .int), (k 6, .int)] (se_WM k h) (F_M_take g p1 p2)) (cc := cX6_take) (maxL := 9) (ret := none) (by decide) rfl (Nat.le_of_ble_eq_true rfl) ?_
  intro p e s m below meth c ls A hx hb hr hts hown hlocks hml hA hP hK hD hS hZ hl
  replace hl : lv_has ls 9 [(0, .ref (h 0)), (1, .int p1), (2, .int p2)] := hl
  have J301 : ∀ (gj301 : se_G) (v1_301 : Int32) (v4_301 : Int32) (H : Heap) (locs : List Loc) (ls : Array Slot), F_M_take_j301 gj301 v1_301 v4_301 = F_M_take g p1 p2 → va_P D se_cl (se_WM k h gj301) H → va_D A (se_WM k h gj301) → va_S A s.heap H locs → lv_has ls 9 [(0, .ref (h 0)), (1, .int v1_301), (4, .int v4_301)] → W p l e ({ frames := 2, cells := 0, slots := 0, locals := 42 }) s m [.ref (h 0), .int p1, .int p2].toArray below meth c H locs 0 0 (MQ below (se_Qv D se_cl [(k 1, .int), (k 2, .int), (k 3, .boolean), (k 4, .int), (k 5, .int), (k 6, .int)] (se_WM k h) (F_M_take g p1 p2) A) [.ref (h 0), .int p1, .int p2].toArray s 0 0 A) (F0 m 301 ls []) := by
    intro gj301 v1_301 v4_301 H locs ls hF hP hD hS hl
    refine lv_aload_n hx hb dX6_take_301 rfl (lv_at hl 0 rfl) ?_
    refine lv_aload_n hx hb dX6_take_302 rfl (lv_at hl 0 rfl) ?_
    refine va_get (D := D) (ci := 6) (v := .int (gj301 0 33)) (C := RX6) (T := TX6) (N := 50) hx hb hts (se_iw iwX6) hown hK hP 0 rfl rfl 33 (by decide) (hts _ (List.mem_cons_of_mem _ qX6_f112)) (fun _ h9 => h9) rfl dX6_take_303 ?_
    refine se_join (v := ((if (gj301 0 33) = 0 then ((if 0 < (gj301 0 45) then 1 else ((if (F_M_has v1_301 2) = 0 then 0 else 1) : Int32)) : Int32) else 1) : Int32)) (pcJ := 329) (restJ := [.ref (h 0)]) (ls := ls) (fun T => ?_) ?_
    · refine lv_if_ne (tgt := 324) hx hb dX6_take_306 (by decide) (fun c9 => ?_) (fun c9 => ?_)
      · refine lv_iconst (v := 1) hx hb dX6_take_324 (by decide) ?_
        refine lv_goto (tgt := 329) hx hb dX6_take_325 (by decide) ?_
        exact T _ (mo_ifn c9 rfl)
      · refine lv_aload_n hx hb dX6_take_309 rfl (lv_at hl 0 rfl) ?_
        refine va_get (D := D) (ci := 6) (v := .int (gj301 0 45)) (C := RX6) (T := TX6) (N := 50) hx hb hts (se_iw iwX6) hown hK hP 0 rfl rfl 45 (by decide) (hts _ (List.mem_cons_of_mem _ qX6_f175)) (fun _ h9 => h9) rfl dX6_take_310 ?_
        refine lv_if_gt (tgt := 324) hx hb dX6_take_313 (by decide) (fun c10 => ?_) (fun c10 => ?_)
        · refine lv_iconst (v := 1) hx hb dX6_take_324 (by decide) ?_
          refine lv_goto (tgt := 329) hx hb dX6_take_325 (by decide) ?_
          exact T _ (mo_ifp c9 (mo_ifp c10 rfl))
        · refine lv_iload_n hx hb dX6_take_316 rfl (lv_at hl 1 rfl) ?_
          refine lv_iconst (v := 2) hx hb dX6_take_317 (by decide) ?_
          refine se_cp (va_runS (As := [.int v1_301, .int 2]) (rest := [.ref (h 0)]) ⟨hx, hb, hml, hown, hts⟩ (c_M_has l D k h _ gj301 v1_301 2) (se_kS 2 hts q_code_X6_has qX6_m178 q_ini_StreamEndModel q_static_X6_has (by decide +kernel) ⟨Nat.le_of_ble_eq_true rfl, Nat.le_of_ble_eq_true rfl⟩ rfl rfl) ⟨se_blind se_ZN_ok, se_pre se_ZN_ok hP hK hD hZ⟩ rfl rfl hl.1 rfl (lv_room (Nat.le_of_ble_eq_true rfl)) dX6_take_318 ⟨Nat.zero_le _, Nat.zero_le _⟩) ?_
          refine lv_if_eq (tgt := 328) hx hb dX6_take_321 (by decide) (fun c11 => ?_) (fun c11 => ?_)
          · refine lv_iconst (v := 0) hx hb dX6_take_328 (by decide) ?_
            exact T _ (mo_ifp c9 (mo_ifn c10 (mo_ifp c11 rfl)))
          · refine lv_iconst (v := 1) hx hb dX6_take_324 (by decide) ?_
            refine lv_goto (tgt := 329) hx hb dX6_take_325 (by decide) ?_
            exact T _ (mo_ifp c9 (mo_ifn c10 (mo_ifn c11 rfl)))
    have hz329 : ((if (gj301 0 33) = 0 then ((if 0 < (gj301 0 45) then 1 else ((if (F_M_has v1_301 2) = 0 then 0 else 1) : Int32)) : Int32) else 1) : Int32) = 0 ∨ ((if (gj301 0 33) = 0 then ((if 0 < (gj301 0 45) then 1 else ((if (F_M_has v1_301 2) = 0 then 0 else 1) : Int32)) : Int32) else 1) : Int32) = 1 := (mo_b01 (mo_b01 (Or.inr rfl) (mo_b01 (Or.inl rfl) (Or.inr rfl))) (Or.inr rfl))
    refine va_put (D := D) (ci := 6) (v := .int ((if (gj301 0 33) = 0 then ((if 0 < (gj301 0 45) then 1 else ((if (F_M_has v1_301 2) = 0 then 0 else 1) : Int32)) : Int32) else 1) : Int32)) (ty := .boolean) (C := RX6) (T := TX6) (N := 50) hx hb hts (se_iw iwX6) tyX6 tyX6_ok nmX6 hown hK hP hD hS 0 rfl rfl 33 (by decide) (hts _ (List.mem_cons_of_mem _ qX6_f112)) (fun _ h9 => h9) rfl (by decide +kernel) (se_nz hz329) (se_fz hz329) (Nat.le_of_ble_eq_true rfl) dX6_take_329 (fun H locs hP hD hS => ?_)
    replace hP : va_P D se_cl (se_WM k h (se_u gj301 0 33 ((if (gj301 0 33) = 0 then ((if 0 < (gj301 0 45) then 1 else ((if (F_M_has v1_301 2) = 0 then 0 else 1) : Int32)) : Int32) else 1) : Int32))) H := hP
    replace hD : va_D A (se_WM k h (se_u gj301 0 33 ((if (gj301 0 33) = 0 then ((if 0 < (gj301 0 45) then 1 else ((if (F_M_has v1_301 2) = 0 then 0 else 1) : Int32)) : Int32) else 1) : Int32))) := hD
    refine lv_iload hx hb dX6_take_332 (lv_at hl 2 rfl) ?_
    refine lv_if_eq (tgt := 402) hx hb dX6_take_334 (by decide) (fun c12 => ?_) (fun c12 => ?_)
    · exact se_rv hx hb hr hlocks hK hP hD hS dX6_take_402 (by rw [← hF, F_M_take_j301, if_pos (α := se_G) c12])
    · refine lv_aload_n hx hb dX6_take_337 rfl (lv_at hl 0 rfl) ?_
      refine va_get (D := D) (ci := 6) (v := .int (gj301 0 22)) (C := RX6) (T := TX6) (N := 50) hx hb hts (se_iw iwX6) hown hK hP 0 rfl rfl 22 (by decide) (hts _ (List.mem_cons_of_mem _ qX6_f76)) (fun _ h9 => h9) rfl dX6_take_338 ?_
      refine lv_if_eq (tgt := 402) hx hb dX6_take_341 (by decide) (fun c13 => ?_) (fun c13 => ?_)
      · exact se_rv hx hb hr hlocks hK hP hD hS dX6_take_402 (by rw [← hF, F_M_take_j301, if_neg (α := se_G) c12, if_pos (α := se_G) c13])
      · refine lv_aload_n hx hb dX6_take_344 rfl (lv_at hl 0 rfl) ?_
        refine va_get (D := D) (ci := 6) (v := .int (gj301 0 21)) (C := RX6) (T := TX6) (N := 50) hx hb hts (se_iw iwX6) hown hK hP 0 rfl rfl 21 (by decide) (hts _ (List.mem_cons_of_mem _ qX6_f69)) (fun _ h9 => h9) rfl dX6_take_345 ?_
        refine lv_aload_n hx hb dX6_take_348 rfl (lv_at hl 0 rfl) ?_
        refine va_get (D := D) (ci := 6) (v := .int (gj301 0 23)) (C := RX6) (T := TX6) (N := 50) hx hb hts (se_iw iwX6) hown hK hP 0 rfl rfl 23 (by decide) (hts _ (List.mem_cons_of_mem _ qX6_f229)) (fun _ h9 => h9) rfl dX6_take_349 ?_
        refine lv_icmp_ne (tgt := 402) hx hb dX6_take_352 (by decide) (fun c14 => ?_) (fun c14 => ?_)
        · exact se_rv hx hb hr hlocks hK hP hD hS dX6_take_402 (by rw [← hF, F_M_take_j301, if_neg (α := se_G) c12, if_neg (α := se_G) c13, if_neg (α := se_G) c14])
        · refine lv_aload_n hx hb dX6_take_355 rfl (lv_at hl 0 rfl) ?_
          refine lv_dup hx hb dX6_take_356 rfl ?_
          refine va_get (D := D) (ci := 6) (v := .int (gj301 0 21)) (C := RX6) (T := TX6) (N := 50) hx hb hts (se_iw iwX6) hown hK hP 0 rfl rfl 21 (by decide) (hts _ (List.mem_cons_of_mem _ qX6_f69)) (fun _ h9 => h9) rfl dX6_take_357 ?_
          refine lv_iconst (v := 1) hx hb dX6_take_360 (by decide) ?_
          refine lv_iadd hx hb dX6_take_361 ?_
          refine va_put (D := D) (ci := 6) (v := .int ((gj301 0 21) + 1)) (ty := .int) (C := RX6) (T := TX6) (N := 50) hx hb hts (se_iw iwX6) tyX6 tyX6_ok nmX6 hown hK hP hD hS 0 rfl rfl 21 (by decide) (hts _ (List.mem_cons_of_mem _ qX6_f69)) (fun _ h9 => h9) rfl (by decide +kernel) rfl rfl (Nat.le_of_ble_eq_true rfl) dX6_take_362 (fun H locs hP hD hS => ?_)
          replace hP : va_P D se_cl (se_WM k h (se_u (se_u gj301 0 33 ((if (gj301 0 33) = 0 then ((if 0 < (gj301 0 45) then 1 else ((if (F_M_has v1_301 2) = 0 then 0 else 1) : Int32)) : Int32) else 1) : Int32)) 0 21 ((gj301 0 21) + 1))) H := hP
          replace hD : va_D A (se_WM k h (se_u (se_u gj301 0 33 ((if (gj301 0 33) = 0 then ((if 0 < (gj301 0 45) then 1 else ((if (F_M_has v1_301 2) = 0 then 0 else 1) : Int32)) : Int32) else 1) : Int32)) 0 21 ((gj301 0 21) + 1))) := hD
          refine lv_aload_n hx hb dX6_take_365 rfl (lv_at hl 0 rfl) ?_
          refine lv_iconst (v := 1) hx hb dX6_take_366 (by decide) ?_
          refine va_put (D := D) (ci := 6) (v := .int 1) (ty := .boolean) (C := RX6) (T := TX6) (N := 50) hx hb hts (se_iw iwX6) tyX6 tyX6_ok nmX6 hown hK hP hD hS 0 rfl rfl 24 (by decide) (hts _ (List.mem_cons_of_mem _ qX6_f79)) (fun _ h9 => h9) rfl (by decide +kernel) rfl rfl (Nat.le_of_ble_eq_true rfl) dX6_take_367 (fun H locs hP hD hS => ?_)
          replace hP : va_P D se_cl (se_WM k h (se_u (se_u (se_u gj301 0 33 ((if (gj301 0 33) = 0 then ((if 0 < (gj301 0 45) then 1 else ((if (F_M_has v1_301 2) = 0 then 0 else 1) : Int32)) : Int32) else 1) : Int32)) 0 21 ((gj301 0 21) + 1)) 0 24 1)) H := hP
          replace hD : va_D A (se_WM k h (se_u (se_u (se_u gj301 0 33 ((if (gj301 0 33) = 0 then ((if 0 < (gj301 0 45) then 1 else ((if (F_M_has v1_301 2) = 0 then 0 else 1) : Int32)) : Int32) else 1) : Int32)) 0 21 ((gj301 0 21) + 1)) 0 24 1)) := hD
          refine lv_aload_n hx hb dX6_take_370 rfl (lv_at hl 0 rfl) ?_
          refine lv_aload_n hx hb dX6_take_371 rfl (lv_at hl 0 rfl) ?_
          refine va_get (D := D) (ci := 6) (v := .int (gj301 0 4)) (C := RX6) (T := TX6) (N := 50) hx hb hts (se_iw iwX6) hown hK hP 0 rfl rfl 4 (by decide) (hts _ (List.mem_cons_of_mem _ qX6_f118)) (fun _ h9 => h9) rfl dX6_take_372 ?_
          refine lv_iconst (v := 4) hx hb dX6_take_375 (by decide) ?_
          refine se_join (v := ((if (gj301 0 4) = 4 then 7 else ((if (gj301 0 4) = 5 then 8 else 10) : Int32)) : Int32)) (pcJ := 399) (restJ := [.ref (h 0)]) (ls := ls) (fun T => ?_) ?_
          · refine lv_icmp_ne (tgt := 384) hx hb dX6_take_376 (by decide) (fun c16 => ?_) (fun c16 => ?_)
            · refine lv_aload_n hx hb dX6_take_384 rfl (lv_at hl 0 rfl) ?_
              refine va_get (D := D) (ci := 6) (v := .int (gj301 0 4)) (C := RX6) (T := TX6) (N := 50) hx hb hts (se_iw iwX6) hown hK hP 0 rfl rfl 4 (by decide) (hts _ (List.mem_cons_of_mem _ qX6_f118)) (fun _ h9 => h9) rfl dX6_take_385 ?_
              refine lv_iconst (v := 5) hx hb dX6_take_388 (by decide) ?_
              refine lv_icmp_ne (tgt := 397) hx hb dX6_take_389 (by decide) (fun c17 => ?_) (fun c17 => ?_)
              · refine lv_bipush (v := 10) hx hb dX6_take_397 (by decide) ?_
                exact T _ (mo_ifn c16 (mo_ifn c17 rfl))
              · refine lv_bipush (v := 8) hx hb dX6_take_392 (by decide) ?_
                refine lv_goto (tgt := 399) hx hb dX6_take_394 (by decide) ?_
                exact T _ (mo_ifn c16 (mo_ifp c17 rfl))
            · refine lv_bipush (v := 7) hx hb dX6_take_379 (by decide) ?_
              refine lv_goto (tgt := 399) hx hb dX6_take_381 (by decide) ?_
              exact T _ (mo_ifp c16 rfl)
          refine se_cvE (va_runV (C := RX6) (As := [.int ((if (gj301 0 4) = 4 then 7 else ((if (gj301 0 4) = 5 then 8 else 10) : Int32)) : Int32)]) (rest := []) ⟨hx, hb, hml, hown, hts⟩ (c_M_becomes l D k h _ (se_u (se_u (se_u gj301 0 33 ((if (gj301 0 33) = 0 then ((if 0 < (gj301 0 45) then 1 else ((if (F_M_has v1_301 2) = 0 then 0 else 1) : Int32)) : Int32) else 1) : Int32)) 0 21 ((gj301 0 21) + 1)) 0 24 1) ((if (gj301 0 4) = 4 then 7 else ((if (gj301 0 4) = 5 then 8 else 10) : Int32)) : Int32)) (se_kV 1 hts q_code_X6_becomes qX6_m147 q_ini_StreamEndModel q_instanceMethod_X6_becomes q_sel_X6_becomes (by decide +kernel) ⟨Nat.le_of_ble_eq_true rfl, Nat.le_of_ble_eq_true rfl⟩ rfl rfl) ⟨se_blind se_ZN_ok, va_recv hK hP (ci := 6) (q0 := 0) rfl rfl, se_pre se_ZN_ok hP hK hD hZ⟩ rfl rfl hl.1 rfl (lv_room (Nat.le_of_ble_eq_true rfl)) dX6_take_399 ⟨Nat.zero_le _, Nat.zero_le _⟩) hD hS hA (fun g1 H locs eg1 hP hD hS => ?_)
          exact se_rv hx hb hr hlocks hK hP hD hS dX6_take_402 (by subst eg1; rw [← hF, F_M_take_j301, if_neg (α := se_G) c12, if_neg (α := se_G) c13, if_pos (α := se_G) c14])
  have L223 : ∀ (n : Nat) (gj223 : se_G) (v1_223 : Int32) (v4_223 : Int32) (H : Heap) (locs : List Loc) (ls : Array Slot), (0 ≤ (gj223 0 20).toInt) → ((2048 : Int32).toInt - (gj223 0 20).toInt).toNat < n → F_M_take_j223 n gj223 v1_223 v4_223 = F_M_take g p1 p2 → va_P D se_cl (se_WM k h gj223) H → va_D A (se_WM k h gj223) → va_S A s.heap H locs → lv_has ls 9 [(0, .ref (h 0)), (1, .int v1_223), (4, .int v4_223)] → W p l e ({ frames := 2, cells := 0, slots := 0, locals := 42 }) s m [.ref (h 0), .int p1, .int p2].toArray below meth c H locs 0 0 (MQ below (se_Qv D se_cl [(k 1, .int), (k 2, .int), (k 3, .boolean), (k 4, .int), (k 5, .int), (k 6, .int)] (se_WM k h) (F_M_take g p1 p2) A) [.ref (h 0), .int p1, .int p2].toArray s 0 0 A) (F0 m 223 ls []) := by
    intro n
    induction n with
    | zero => intro gj223 v1_223 v4_223 H locs ls hI hM; exact absurd hM (Nat.not_lt_zero _)
    | succ n ih =>
      intro gj223 v1_223 v4_223 H locs ls hI hM hF hP hD hS hl
      refine lv_iload hx hb dX6_take_223 (lv_at hl 2 rfl) ?_
      refine lv_if_eq (tgt := 301) hx hb dX6_take_225 (by decide) (fun c7 => ?_) (fun c7 => ?_)
      · exact J301 gj223 v1_223 v4_223 _ _ ls (by rw [← hF, F_M_take_j223, if_pos (α := se_G) c7]) hP hD hS (lv_sub hl [0, 1, 2] rfl)
      · refine lv_aload_n hx hb dX6_take_228 rfl (lv_at hl 0 rfl) ?_
        refine va_get (D := D) (ci := 6) (v := .int (gj223 0 20)) (C := RX6) (T := TX6) (N := 50) hx hb hts (se_iw iwX6) hown hK hP 0 rfl rfl 20 (by decide) (hts _ (List.mem_cons_of_mem _ qX6_f66)) (fun _ h9 => h9) rfl dX6_take_229 ?_
        refine lv_sipush (v := 2048) hx hb dX6_take_232 (by decide) ?_
        refine lv_icmp_ge (tgt := 301) hx hb dX6_take_235 (by decide) (fun c18 => ?_) (fun c18 => ?_)
        · exact J301 gj223 v1_223 v4_223 _ _ ls (by rw [← hF, F_M_take_j223, if_neg (α := se_G) c7, if_pos (α := se_G) c18]) hP hD hS (lv_sub hl [0, 1, 2] rfl)
        · refine lv_aload_n hx hb dX6_take_238 rfl (lv_at hl 0 rfl) ?_
          refine va_get (D := D) (ci := 6) (v := .ref (h 3)) (C := RX6) (T := TX6) (N := 50) hx hb hts (se_iw iwX6) hown hK hP 0 rfl rfl 19 (by decide) (hts _ (List.mem_cons_of_mem _ qX6_f16)) (fun _ h9 => h9) rfl dX6_take_239 ?_
          refine lv_aload_n hx hb dX6_take_242 rfl (lv_at hl 0 rfl) ?_
          refine va_get (D := D) (ci := 6) (v := .int (gj223 0 20)) (C := RX6) (T := TX6) (N := 50) hx hb hts (se_iw iwX6) hown hK hP 0 rfl rfl 20 (by decide) (hts _ (List.mem_cons_of_mem _ qX6_f66)) (fun _ h9 => h9) rfl dX6_take_243 ?_
          refine va_zald hx hb hK hP 3 2 rfl rfl (se_inN (N := 2048) (by decide) (se_nn hI) (by assumption)) dX6_take_246 ?_
          refine lv_if_eq (tgt := 301) hx hb dX6_take_247 (by decide) (fun c19 => ?_) (fun c19 => ?_)
          · exact J301 gj223 v1_223 v4_223 _ _ ls (by rw [← hF, F_M_take_j223, if_neg (α := se_G) c7, if_neg (α := se_G) c18, if_pos (α := se_G) c19]) hP hD hS (lv_sub hl [0, 1, 2] rfl)
          · refine lv_aload_n hx hb dX6_take_250 rfl (lv_at hl 0 rfl) ?_
            refine va_get (D := D) (ci := 6) (v := .int (gj223 0 22)) (C := RX6) (T := TX6) (N := 50) hx hb hts (se_iw iwX6) hown hK hP 0 rfl rfl 22 (by decide) (hts _ (List.mem_cons_of_mem _ qX6_f76)) (fun _ h9 => h9) rfl dX6_take_251 ?_
            refine lv_if_eq (tgt := 268) hx hb dX6_take_254 (by decide) (fun c20 => ?_) (fun c20 => ?_)
            · refine lv_aload_n hx hb dX6_take_268 rfl (lv_at hl 0 rfl) ?_
              refine va_get (D := D) (ci := 6) (v := .ref (h 3)) (C := RX6) (T := TX6) (N := 50) hx hb hts (se_iw iwX6) hown hK hP 0 rfl rfl 19 (by decide) (hts _ (List.mem_cons_of_mem _ qX6_f16)) (fun _ h9 => h9) rfl dX6_take_269 ?_
              refine lv_aload_n hx hb dX6_take_272 rfl (lv_at hl 0 rfl) ?_
              refine va_get (D := D) (ci := 6) (v := .int (gj223 0 20)) (C := RX6) (T := TX6) (N := 50) hx hb hts (se_iw iwX6) hown hK hP 0 rfl rfl 20 (by decide) (hts _ (List.mem_cons_of_mem _ qX6_f66)) (fun _ h9 => h9) rfl dX6_take_273 ?_
              refine lv_iconst (v := 0) hx hb dX6_take_276 (by decide) ?_
              refine va_zast hx hb hK hP hD hS 3 2 rfl rfl (se_inN (N := 2048) (by decide) (se_nn hI) (by assumption)) dX6_take_277 (fun H locs hP hD hS => ?_)
              replace hP : va_P D se_cl (se_WM k h (se_u gj223 3 (Int32.toNatClampNeg (gj223 0 20)) (vp_nar .boolean 0))) H := hP
              replace hD : va_D A (se_WM k h (se_u gj223 3 (Int32.toNatClampNeg (gj223 0 20)) (vp_nar .boolean 0))) := hD
              refine lv_aload_n hx hb dX6_take_278 rfl (lv_at hl 0 rfl) ?_
              refine lv_dup hx hb dX6_take_279 rfl ?_
              refine va_get (D := D) (ci := 6) (v := .int (gj223 0 20)) (C := RX6) (T := TX6) (N := 50) hx hb hts (se_iw iwX6) hown hK hP 0 rfl rfl 20 (by decide) (hts _ (List.mem_cons_of_mem _ qX6_f66)) (fun _ h9 => h9) rfl dX6_take_280 ?_
              refine lv_iconst (v := 1) hx hb dX6_take_283 (by decide) ?_
              refine lv_iadd hx hb dX6_take_284 ?_
              refine va_put (D := D) (ci := 6) (v := .int ((gj223 0 20) + 1)) (ty := .int) (C := RX6) (T := TX6) (N := 50) hx hb hts (se_iw iwX6) tyX6 tyX6_ok nmX6 hown hK hP hD hS 0 rfl rfl 20 (by decide) (hts _ (List.mem_cons_of_mem _ qX6_f66)) (fun _ h9 => h9) rfl (by decide +kernel) rfl rfl (Nat.le_of_ble_eq_true rfl) dX6_take_285 (fun H locs hP hD hS => ?_)
              replace hP : va_P D se_cl (se_WM k h (se_u (se_u gj223 3 (Int32.toNatClampNeg (gj223 0 20)) (vp_nar .boolean 0)) 0 20 ((gj223 0 20) + 1))) H := hP
              replace hD : va_D A (se_WM k h (se_u (se_u gj223 3 (Int32.toNatClampNeg (gj223 0 20)) (vp_nar .boolean 0)) 0 20 ((gj223 0 20) + 1))) := hD
              refine lv_aload_n hx hb dX6_take_288 rfl (lv_at hl 0 rfl) ?_
              refine lv_dup hx hb dX6_take_289 rfl ?_
              refine va_get (D := D) (ci := 6) (v := .int (gj223 0 21)) (C := RX6) (T := TX6) (N := 50) hx hb hts (se_iw iwX6) hown hK hP 0 rfl rfl 21 (by decide) (hts _ (List.mem_cons_of_mem _ qX6_f69)) (fun _ h9 => h9) rfl dX6_take_290 ?_
              refine lv_iconst (v := 1) hx hb dX6_take_293 (by decide) ?_
              refine lv_iadd hx hb dX6_take_294 ?_
              refine va_put (D := D) (ci := 6) (v := .int ((gj223 0 21) + 1)) (ty := .int) (C := RX6) (T := TX6) (N := 50) hx hb hts (se_iw iwX6) tyX6 tyX6_ok nmX6 hown hK hP hD hS 0 rfl rfl 21 (by decide) (hts _ (List.mem_cons_of_mem _ qX6_f69)) (fun _ h9 => h9) rfl (by decide +kernel) rfl rfl (Nat.le_of_ble_eq_true rfl) dX6_take_295 (fun H locs hP hD hS => ?_)
              replace hP : va_P D se_cl (se_WM k h (se_u (se_u (se_u gj223 3 (Int32.toNatClampNeg (gj223 0 20)) (vp_nar .boolean 0)) 0 20 ((gj223 0 20) + 1)) 0 21 ((gj223 0 21) + 1))) H := hP
              replace hD : va_D A (se_WM k h (se_u (se_u (se_u gj223 3 (Int32.toNatClampNeg (gj223 0 20)) (vp_nar .boolean 0)) 0 20 ((gj223 0 20) + 1)) 0 21 ((gj223 0 21) + 1))) := hD
              refine lv_goto (tgt := 223) hx hb dX6_take_298 (by decide) ?_
              exact ih (se_u (se_u (se_u gj223 3 (Int32.toNatClampNeg (gj223 0 20)) (vp_nar .boolean 0)) 0 20 ((gj223 0 20) + 1)) 0 21 ((gj223 0 21) + 1)) v1_223 v4_223 _ _ ls (se_inc0 (hi := 2048) (lo := gj223 0 20) (by assumption) hI) (se_dec (hi := 2048) (lo := gj223 0 20) (by assumption) hM) (by rw [← hF, F_M_take_j223, if_neg (α := se_G) c7, if_neg (α := se_G) c18, if_neg (α := se_G) c19, if_pos (α := se_G) c20]) hP hD hS (lv_sub hl [0, 1, 2] rfl)
            · refine lv_aload_n hx hb dX6_take_257 rfl (lv_at hl 0 rfl) ?_
              refine va_get (D := D) (ci := 6) (v := .int (gj223 0 21)) (C := RX6) (T := TX6) (N := 50) hx hb hts (se_iw iwX6) hown hK hP 0 rfl rfl 21 (by decide) (hts _ (List.mem_cons_of_mem _ qX6_f69)) (fun _ h9 => h9) rfl dX6_take_258 ?_
              refine lv_aload_n hx hb dX6_take_261 rfl (lv_at hl 0 rfl) ?_
              refine va_get (D := D) (ci := 6) (v := .int (gj223 0 23)) (C := RX6) (T := TX6) (N := 50) hx hb hts (se_iw iwX6) hown hK hP 0 rfl rfl 23 (by decide) (hts _ (List.mem_cons_of_mem _ qX6_f229)) (fun _ h9 => h9) rfl dX6_take_262 ?_
              refine lv_icmp_eq (tgt := 301) hx hb dX6_take_265 (by decide) (fun c21 => ?_) (fun c21 => ?_)
              · exact J301 gj223 v1_223 v4_223 _ _ ls (by rw [← hF, F_M_take_j223, if_neg (α := se_G) c7, if_neg (α := se_G) c18, if_neg (α := se_G) c19, if_neg (α := se_G) c20, if_pos (α := se_G) c21]) hP hD hS (lv_sub hl [0, 1, 2] rfl)
              · refine lv_aload_n hx hb dX6_take_268 rfl (lv_at hl 0 rfl) ?_
                refine va_get (D := D) (ci := 6) (v := .ref (h 3)) (C := RX6) (T := TX6) (N := 50) hx hb hts (se_iw iwX6) hown hK hP 0 rfl rfl 19 (by decide) (hts _ (List.mem_cons_of_mem _ qX6_f16)) (fun _ h9 => h9) rfl dX6_take_269 ?_
                refine lv_aload_n hx hb dX6_take_272 rfl (lv_at hl 0 rfl) ?_
                refine va_get (D := D) (ci := 6) (v := .int (gj223 0 20)) (C := RX6) (T := TX6) (N := 50) hx hb hts (se_iw iwX6) hown hK hP 0 rfl rfl 20 (by decide) (hts _ (List.mem_cons_of_mem _ qX6_f66)) (fun _ h9 => h9) rfl dX6_take_273 ?_
                refine lv_iconst (v := 0) hx hb dX6_take_276 (by decide) ?_
                refine va_zast hx hb hK hP hD hS 3 2 rfl rfl (se_inN (N := 2048) (by decide) (se_nn hI) (by assumption)) dX6_take_277 (fun H locs hP hD hS => ?_)
                replace hP : va_P D se_cl (se_WM k h (se_u gj223 3 (Int32.toNatClampNeg (gj223 0 20)) (vp_nar .boolean 0))) H := hP
                replace hD : va_D A (se_WM k h (se_u gj223 3 (Int32.toNatClampNeg (gj223 0 20)) (vp_nar .boolean 0))) := hD
                refine lv_aload_n hx hb dX6_take_278 rfl (lv_at hl 0 rfl) ?_
                refine lv_dup hx hb dX6_take_279 rfl ?_
                refine va_get (D := D) (ci := 6) (v := .int (gj223 0 20)) (C := RX6) (T := TX6) (N := 50) hx hb hts (se_iw iwX6) hown hK hP 0 rfl rfl 20 (by decide) (hts _ (List.mem_cons_of_mem _ qX6_f66)) (fun _ h9 => h9) rfl dX6_take_280 ?_
                refine lv_iconst (v := 1) hx hb dX6_take_283 (by decide) ?_
                refine lv_iadd hx hb dX6_take_284 ?_
                refine va_put (D := D) (ci := 6) (v := .int ((gj223 0 20) + 1)) (ty := .int) (C := RX6) (T := TX6) (N := 50) hx hb hts (se_iw iwX6) tyX6 tyX6_ok nmX6 hown hK hP hD hS 0 rfl rfl 20 (by decide) (hts _ (List.mem_cons_of_mem _ qX6_f66)) (fun _ h9 => h9) rfl (by decide +kernel) rfl rfl (Nat.le_of_ble_eq_true rfl) dX6_take_285 (fun H locs hP hD hS => ?_)
                replace hP : va_P D se_cl (se_WM k h (se_u (se_u gj223 3 (Int32.toNatClampNeg (gj223 0 20)) (vp_nar .boolean 0)) 0 20 ((gj223 0 20) + 1))) H := hP
                replace hD : va_D A (se_WM k h (se_u (se_u gj223 3 (Int32.toNatClampNeg (gj223 0 20)) (vp_nar .boolean 0)) 0 20 ((gj223 0 20) + 1))) := hD
                refine lv_aload_n hx hb dX6_take_288 rfl (lv_at hl 0 rfl) ?_
                refine lv_dup hx hb dX6_take_289 rfl ?_
                refine va_get (D := D) (ci := 6) (v := .int (gj223 0 21)) (C := RX6) (T := TX6) (N := 50) hx hb hts (se_iw iwX6) hown hK hP 0 rfl rfl 21 (by decide) (hts _ (List.mem_cons_of_mem _ qX6_f69)) (fun _ h9 => h9) rfl dX6_take_290 ?_
                refine lv_iconst (v := 1) hx hb dX6_take_293 (by decide) ?_
                refine lv_iadd hx hb dX6_take_294 ?_
                refine va_put (D := D) (ci := 6) (v := .int ((gj223 0 21) + 1)) (ty := .int) (C := RX6) (T := TX6) (N := 50) hx hb hts (se_iw iwX6) tyX6 tyX6_ok nmX6 hown hK hP hD hS 0 rfl rfl 21 (by decide) (hts _ (List.mem_cons_of_mem _ qX6_f69)) (fun _ h9 => h9) rfl (by decide +kernel) rfl rfl (Nat.le_of_ble_eq_true rfl) dX6_take_295 (fun H locs hP hD hS => ?_)
                replace hP : va_P D se_cl (se_WM k h (se_u (se_u (se_u gj223 3 (Int32.toNatClampNeg (gj223 0 20)) (vp_nar .boolean 0)) 0 20 ((gj223 0 20) + 1)) 0 21 ((gj223 0 21) + 1))) H := hP
                replace hD : va_D A (se_WM k h (se_u (se_u (se_u gj223 3 (Int32.toNatClampNeg (gj223 0 20)) (vp_nar .boolean 0)) 0 20 ((gj223 0 20) + 1)) 0 21 ((gj223 0 21) + 1))) := hD
                refine lv_goto (tgt := 223) hx hb dX6_take_298 (by decide) ?_
                exact ih (se_u (se_u (se_u gj223 3 (Int32.toNatClampNeg (gj223 0 20)) (vp_nar .boolean 0)) 0 20 ((gj223 0 20) + 1)) 0 21 ((gj223 0 21) + 1)) v1_223 v4_223 _ _ ls (se_inc0 (hi := 2048) (lo := gj223 0 20) (by assumption) hI) (se_dec (hi := 2048) (lo := gj223 0 20) (by assumption) hM) (by rw [← hF, F_M_take_j223, if_neg (α := se_G) c7, if_neg (α := se_G) c18, if_neg (α := se_G) c19, if_neg (α := se_G) c20, if_neg (α := se_G) c21]) hP hD hS (lv_sub hl [0, 1, 2] rfl)
  have J167 : ∀ (gj167 : se_G) (v1_167 : Int32) (v3_167 : Int32) (v4_167 : Int32) (v5_167 : Int32) (H : Heap) (locs : List Loc) (ls : Array Slot), (0 ≤ (gj167 0 20).toInt) → F_M_take_j167 gj167 v1_167 v3_167 v4_167 v5_167 = F_M_take g p1 p2 → va_P D se_cl (se_WM k h gj167) H → va_D A (se_WM k h gj167) → va_S A s.heap H locs → lv_has ls 9 [(0, .ref (h 0)), (1, .int v1_167), (3, .int v3_167), (4, .int v4_167), (5, .int v5_167)] → W p l e ({ frames := 2, cells := 0, slots := 0, locals := 42 }) s m [.ref (h 0), .int p1, .int p2].toArray below meth c H locs 0 0 (MQ below (se_Qv D se_cl [(k 1, .int), (k 2, .int), (k 3, .boolean), (k 4, .int), (k 5, .int), (k 6, .int)] (se_WM k h) (F_M_take g p1 p2) A) [.ref (h 0), .int p1, .int p2].toArray s 0 0 A) (F0 m 167 ls []) := by
    intro gj167 v1_167 v3_167 v4_167 v5_167 H locs ls hI hF hP hD hS hl
    refine lv_iload_n hx hb dX6_take_167 rfl (lv_at hl 2 rfl) ?_
    refine lv_aload_n hx hb dX6_take_168 rfl (lv_at hl 0 rfl) ?_
    refine va_get (D := D) (ci := 6) (v := .int (gj167 0 45)) (C := RX6) (T := TX6) (N := 50) hx hb hts (se_iw iwX6) hown hK hP 0 rfl rfl 45 (by decide) (hts _ (List.mem_cons_of_mem _ qX6_f175)) (fun _ h9 => h9) rfl dX6_take_169 ?_
    refine lv_iadd hx hb dX6_take_172 ?_
    refine lv_istore (lv' := [(6, .int (v3_167 + (gj167 0 45))), (0, .ref (h 0)), (1, .int v1_167), (3, .int v3_167), (4, .int v4_167), (5, .int v5_167)]) hx hb dX6_take_173 hl (by decide) rfl (fun ls hl => ?_)
    refine lv_iload hx hb dX6_take_175 (lv_at hl 4 rfl) ?_
    refine lv_if_eq (tgt := 223) hx hb dX6_take_177 (by decide) (fun c6 => ?_) (fun c6 => ?_)
    · exact L223 (((2048 : Int32).toInt - (gj167 0 20).toInt).toNat + 1) gj167 v1_167 v4_167 _ _ ls hI (se_fuel _ _) (by rw [← hF, F_M_take_j167, if_pos (α := se_G) c6]) hP hD hS (lv_sub hl [1, 2, 4] rfl)
    · refine lv_iload_n hx hb dX6_take_180 rfl (lv_at hl 2 rfl) ?_
      refine lv_iconst (v := 2) hx hb dX6_take_181 (by decide) ?_
      refine se_cp (va_runS (As := [.int v1_167, .int 2]) (rest := []) ⟨hx, hb, hml, hown, hts⟩ (c_M_has l D k h _ gj167 v1_167 2) (se_kS 2 hts q_code_X6_has qX6_m178 q_ini_StreamEndModel q_static_X6_has (by decide +kernel) ⟨Nat.le_of_ble_eq_true rfl, Nat.le_of_ble_eq_true rfl⟩ rfl rfl) ⟨se_blind se_ZN_ok, se_pre se_ZN_ok hP hK hD hZ⟩ rfl rfl hl.1 rfl (lv_room (Nat.le_of_ble_eq_true rfl)) dX6_take_182 ⟨Nat.zero_le _, Nat.zero_le _⟩) ?_
      refine lv_if_eq (tgt := 223) hx hb dX6_take_185 (by decide) (fun c22 => ?_) (fun c22 => ?_)
      · exact L223 (((2048 : Int32).toInt - (gj167 0 20).toInt).toNat + 1) gj167 v1_167 v4_167 _ _ ls hI (se_fuel _ _) (by rw [← hF, F_M_take_j167, if_neg (α := se_G) c6, if_pos (α := se_G) c22]) hP hD hS (lv_sub hl [1, 2, 4] rfl)
      · refine lv_iload hx hb dX6_take_188 (lv_at hl 0 rfl) ?_
        refine lv_if_lt (tgt := 223) hx hb dX6_take_190 (by decide) (fun c23 => ?_) (fun c23 => ?_)
        · exact L223 (((2048 : Int32).toInt - (gj167 0 20).toInt).toNat + 1) gj167 v1_167 v4_167 _ _ ls hI (se_fuel _ _) (by rw [← hF, F_M_take_j167, if_neg (α := se_G) c6, if_neg (α := se_G) c22, if_pos (α := se_G) c23]) hP hD hS (lv_sub hl [1, 2, 4] rfl)
        · refine lv_iload hx hb dX6_take_193 (lv_at hl 0 rfl) ?_
          refine lv_iload hx hb dX6_take_195 (lv_at hl 5 rfl) ?_
          refine lv_icmp_ge (tgt := 223) hx hb dX6_take_197 (by decide) (fun c24 => ?_) (fun c24 => ?_)
          · exact L223 (((2048 : Int32).toInt - (gj167 0 20).toInt).toNat + 1) gj167 v1_167 v4_167 _ _ ls hI (se_fuel _ _) (by rw [← hF, F_M_take_j167, if_neg (α := se_G) c6, if_neg (α := se_G) c22, if_neg (α := se_G) c23, if_pos (α := se_G) c24]) hP hD hS (lv_sub hl [1, 2, 4] rfl)
          · refine lv_aload_n hx hb dX6_take_200 rfl (lv_at hl 1 rfl) ?_
            refine va_get (D := D) (ci := 6) (v := .int (gj167 0 22)) (C := RX6) (T := TX6) (N := 50) hx hb hts (se_iw iwX6) hown hK hP 0 rfl rfl 22 (by decide) (hts _ (List.mem_cons_of_mem _ qX6_f76)) (fun _ h9 => h9) rfl dX6_take_201 ?_
            refine lv_if_ne (tgt := 223) hx hb dX6_take_204 (by decide) (fun c25 => ?_) (fun c25 => ?_)
            · exact L223 (((2048 : Int32).toInt - (gj167 0 20).toInt).toNat + 1) gj167 v1_167 v4_167 _ _ ls hI (se_fuel _ _) (by rw [← hF, F_M_take_j167, if_neg (α := se_G) c6, if_neg (α := se_G) c22, if_neg (α := se_G) c23, if_neg (α := se_G) c24, if_neg (α := se_G) c25]) hP hD hS (lv_sub hl [1, 2, 4] rfl)
            · refine lv_aload_n hx hb dX6_take_207 rfl (lv_at hl 1 rfl) ?_
              refine lv_iconst (v := 1) hx hb dX6_take_208 (by decide) ?_
              refine va_put (D := D) (ci := 6) (v := .int 1) (ty := .boolean) (C := RX6) (T := TX6) (N := 50) hx hb hts (se_iw iwX6) tyX6 tyX6_ok nmX6 hown hK hP hD hS 0 rfl rfl 22 (by decide) (hts _ (List.mem_cons_of_mem _ qX6_f76)) (fun _ h9 => h9) rfl (by decide +kernel) rfl rfl (Nat.le_of_ble_eq_true rfl) dX6_take_209 (fun H locs hP hD hS => ?_)
              replace hP : va_P D se_cl (se_WM k h (se_u gj167 0 22 1)) H := hP
              replace hD : va_D A (se_WM k h (se_u gj167 0 22 1)) := hD
              refine lv_aload_n hx hb dX6_take_212 rfl (lv_at hl 1 rfl) ?_
              refine lv_aload_n hx hb dX6_take_213 rfl (lv_at hl 1 rfl) ?_
              refine va_get (D := D) (ci := 6) (v := .int (gj167 0 21)) (C := RX6) (T := TX6) (N := 50) hx hb hts (se_iw iwX6) hown hK hP 0 rfl rfl 21 (by decide) (hts _ (List.mem_cons_of_mem _ qX6_f69)) (fun _ h9 => h9) rfl dX6_take_214 ?_
              refine lv_iload hx hb dX6_take_217 (lv_at hl 0 rfl) ?_
              refine lv_iadd hx hb dX6_take_219 ?_
              refine va_put (D := D) (ci := 6) (v := .int ((gj167 0 21) + (v3_167 + (gj167 0 45)))) (ty := .int) (C := RX6) (T := TX6) (N := 50) hx hb hts (se_iw iwX6) tyX6 tyX6_ok nmX6 hown hK hP hD hS 0 rfl rfl 23 (by decide) (hts _ (List.mem_cons_of_mem _ qX6_f229)) (fun _ h9 => h9) rfl (by decide +kernel) rfl rfl (Nat.le_of_ble_eq_true rfl) dX6_take_220 (fun H locs hP hD hS => ?_)
              replace hP : va_P D se_cl (se_WM k h (se_u (se_u gj167 0 22 1) 0 23 ((gj167 0 21) + (v3_167 + (gj167 0 45))))) H := hP
              replace hD : va_D A (se_WM k h (se_u (se_u gj167 0 22 1) 0 23 ((gj167 0 21) + (v3_167 + (gj167 0 45))))) := hD
              exact L223 (((2048 : Int32).toInt - ((se_u (se_u gj167 0 22 1) 0 23 ((gj167 0 21) + (v3_167 + (gj167 0 45)))) 0 20).toInt).toNat + 1) (se_u (se_u gj167 0 22 1) 0 23 ((gj167 0 21) + (v3_167 + (gj167 0 45)))) v1_167 v4_167 _ _ ls hI (se_fuel _ _) (by rw [← hF, F_M_take_j167, if_neg (α := se_G) c6, if_neg (α := se_G) c22, if_neg (α := se_G) c23, if_neg (α := se_G) c24, if_pos (α := se_G) c25]) hP hD hS (lv_sub hl [1, 2, 4] rfl)
  have L48 : ∀ (n : Nat) (gj48 : se_G) (v1_48 : Int32) (v3_48 : Int32) (v4_48 : Int32) (v5_48 : Int32) (v6_48 : Int32) (H : Heap) (locs : List Loc) (ls : Array Slot), (0 ≤ (v6_48).toInt ∧ v5_48 = 2048 - gj48 0 20 ∧ 0 ≤ (gj48 0 20).toInt ∧ (gj48 0 20).toInt ≤ 2048 ∧ (gj48 0 45).toInt ≤ 1460) → ((gj48 0 45 : Int32).toInt - (v6_48).toInt).toNat < n → F_M_take_j48 n gj48 v1_48 v3_48 v4_48 v5_48 v6_48 = F_M_take g p1 p2 → va_P D se_cl (se_WM k h gj48) H → va_D A (se_WM k h gj48) → va_S A s.heap H locs → lv_has ls 9 [(0, .ref (h 0)), (1, .int v1_48), (3, .int v3_48), (4, .int v4_48), (5, .int v5_48), (6, .int v6_48)] → W p l e ({ frames := 2, cells := 0, slots := 0, locals := 42 }) s m [.ref (h 0), .int p1, .int p2].toArray below meth c H locs 0 0 (MQ below (se_Qv D se_cl [(k 1, .int), (k 2, .int), (k 3, .boolean), (k 4, .int), (k 5, .int), (k 6, .int)] (se_WM k h) (F_M_take g p1 p2) A) [.ref (h 0), .int p1, .int p2].toArray s 0 0 A) (F0 m 48 ls []) := by
    intro n
    induction n with
    | zero => intro gj48 v1_48 v3_48 v4_48 v5_48 v6_48 H locs ls hI hM; exact absurd hM (Nat.not_lt_zero _)
    | succ n ih =>
      intro gj48 v1_48 v3_48 v4_48 v5_48 v6_48 H locs ls hI hM hF hP hD hS hl
      refine lv_iload hx hb dX6_take_48 (lv_at hl 5 rfl) ?_
      refine lv_aload_n hx hb dX6_take_50 rfl (lv_at hl 0 rfl) ?_
      refine va_get (D := D) (ci := 6) (v := .int (gj48 0 45)) (C := RX6) (T := TX6) (N := 50) hx hb hts (se_iw iwX6) hown hK hP 0 rfl rfl 45 (by decide) (hts _ (List.mem_cons_of_mem _ qX6_f175)) (fun _ h9 => h9) rfl dX6_take_51 ?_
      refine lv_icmp_ge (tgt := 167) hx hb dX6_take_54 (by decide) (fun c5 => ?_) (fun c5 => ?_)
      · exact J167 gj48 v1_48 v3_48 v4_48 v5_48 _ _ ls hI.2.2.1 (by rw [← hF, F_M_take_j48, if_pos (α := se_G) c5]) hP hD hS (lv_sub hl [0, 1, 2, 3, 4] rfl)
      · refine lv_iload hx hb dX6_take_57 (lv_at hl 3 rfl) ?_
        refine lv_if_eq (tgt := 167) hx hb dX6_take_59 (by decide) (fun c26 => ?_) (fun c26 => ?_)
        · exact J167 gj48 v1_48 v3_48 v4_48 v5_48 _ _ ls hI.2.2.1 (by rw [← hF, F_M_take_j48, if_neg (α := se_G) c5, if_pos (α := se_G) c26]) hP hD hS (lv_sub hl [0, 1, 2, 3, 4] rfl)
        · refine lv_iload_n hx hb dX6_take_62 rfl (lv_at hl 2 rfl) ?_
          refine lv_iload hx hb dX6_take_63 (lv_at hl 5 rfl) ?_
          refine lv_iadd hx hb dX6_take_65 ?_
          refine lv_istore (lv' := [(7, .int (v3_48 + v6_48)), (0, .ref (h 0)), (1, .int v1_48), (3, .int v3_48), (4, .int v4_48), (5, .int v5_48), (6, .int v6_48)]) hx hb dX6_take_66 hl (by decide) rfl (fun ls hl => ?_)
          refine lv_aload_n hx hb dX6_take_68 rfl (lv_at hl 1 rfl) ?_
          refine va_get (D := D) (ci := 6) (v := .int (gj48 0 22)) (C := RX6) (T := TX6) (N := 50) hx hb hts (se_iw iwX6) hown hK hP 0 rfl rfl 22 (by decide) (hts _ (List.mem_cons_of_mem _ qX6_f76)) (fun _ h9 => h9) rfl dX6_take_69 ?_
          refine se_join (v := ((if (gj48 0 22) = 0 then 0 else ((if (((gj48 0 21) + (v3_48 + v6_48)) - (gj48 0 23)) < 0 then 0 else 1) : Int32)) : Int32)) (pcJ := 95) (restJ := []) (ls := ls) (fun T => ?_) ?_
          · refine lv_if_eq (tgt := 94) hx hb dX6_take_72 (by decide) (fun c28 => ?_) (fun c28 => ?_)
            · refine lv_iconst (v := 0) hx hb dX6_take_94 (by decide) ?_
              exact T _ (mo_ifp c28 rfl)
            · refine lv_aload_n hx hb dX6_take_75 rfl (lv_at hl 1 rfl) ?_
              refine va_get (D := D) (ci := 6) (v := .int (gj48 0 21)) (C := RX6) (T := TX6) (N := 50) hx hb hts (se_iw iwX6) hown hK hP 0 rfl rfl 21 (by decide) (hts _ (List.mem_cons_of_mem _ qX6_f69)) (fun _ h9 => h9) rfl dX6_take_76 ?_
              refine lv_iload hx hb dX6_take_79 (lv_at hl 0 rfl) ?_
              refine lv_iadd hx hb dX6_take_81 ?_
              refine lv_aload_n hx hb dX6_take_82 rfl (lv_at hl 1 rfl) ?_
              refine va_get (D := D) (ci := 6) (v := .int (gj48 0 23)) (C := RX6) (T := TX6) (N := 50) hx hb hts (se_iw iwX6) hown hK hP 0 rfl rfl 23 (by decide) (hts _ (List.mem_cons_of_mem _ qX6_f229)) (fun _ h9 => h9) rfl dX6_take_83 ?_
              refine lv_isub hx hb dX6_take_86 ?_
              refine lv_if_lt (tgt := 94) hx hb dX6_take_87 (by decide) (fun c29 => ?_) (fun c29 => ?_)
              · refine lv_iconst (v := 0) hx hb dX6_take_94 (by decide) ?_
                exact T _ (mo_ifn c28 (mo_ifp c29 rfl))
              · refine lv_iconst (v := 1) hx hb dX6_take_90 (by decide) ?_
                refine lv_goto (tgt := 95) hx hb dX6_take_91 (by decide) ?_
                exact T _ (mo_ifn c28 (mo_ifn c29 rfl))
          refine lv_istore (lv' := [(8, .int ((if (gj48 0 22) = 0 then 0 else ((if (((gj48 0 21) + (v3_48 + v6_48)) - (gj48 0 23)) < 0 then 0 else 1) : Int32)) : Int32)), (7, .int (v3_48 + v6_48)), (0, .ref (h 0)), (1, .int v1_48), (3, .int v3_48), (4, .int v4_48), (5, .int v5_48), (6, .int v6_48)]) hx hb dX6_take_95 hl (by decide) rfl (fun ls hl => ?_)
          refine lv_iload hx hb dX6_take_97 (lv_at hl 1 rfl) ?_
          refine lv_if_lt (tgt := 161) hx hb dX6_take_99 (by decide) (fun c30 => ?_) (fun c30 => ?_)
          · refine lv_iinc (v := (v6_48 + 1)) (lv' := [(6, .int (v6_48 + 1)), (8, .int ((if (gj48 0 22) = 0 then 0 else ((if (((gj48 0 21) + (v3_48 + v6_48)) - (gj48 0 23)) < 0 then 0 else 1) : Int32)) : Int32)), (7, .int (v3_48 + v6_48)), (0, .ref (h 0)), (1, .int v1_48), (3, .int v3_48), (4, .int v4_48), (5, .int v5_48)]) hx hb dX6_take_161 hl (k := 7) rfl rfl (by decide) rfl (fun ls hl => ?_)
            refine lv_goto (tgt := 48) hx hb dX6_take_164 (by decide) ?_
            exact ih gj48 v1_48 v3_48 v4_48 v5_48 (v6_48 + 1) _ _ ls ⟨se_inc0 c5 hI.1, hI.2⟩ (se_dec c5 hM) (by rw [← hF, F_M_take_j48, if_neg (α := se_G) c5, if_neg (α := se_G) c26, if_pos (α := se_G) c30]) hP hD hS (lv_sub hl [3, 4, 5, 6, 7, 0] rfl)
          · refine lv_iload hx hb dX6_take_102 (lv_at hl 1 rfl) ?_
            refine lv_iload hx hb dX6_take_104 (lv_at hl 6 rfl) ?_
            refine lv_icmp_ge (tgt := 161) hx hb dX6_take_106 (by decide) (fun c31 => ?_) (fun c31 => ?_)
            · refine lv_iinc (v := (v6_48 + 1)) (lv' := [(6, .int (v6_48 + 1)), (8, .int ((if (gj48 0 22) = 0 then 0 else ((if (((gj48 0 21) + (v3_48 + v6_48)) - (gj48 0 23)) < 0 then 0 else 1) : Int32)) : Int32)), (7, .int (v3_48 + v6_48)), (0, .ref (h 0)), (1, .int v1_48), (3, .int v3_48), (4, .int v4_48), (5, .int v5_48)]) hx hb dX6_take_161 hl (k := 7) rfl rfl (by decide) rfl (fun ls hl => ?_)
              refine lv_goto (tgt := 48) hx hb dX6_take_164 (by decide) ?_
              exact ih gj48 v1_48 v3_48 v4_48 v5_48 (v6_48 + 1) _ _ ls ⟨se_inc0 c5 hI.1, hI.2⟩ (se_dec c5 hM) (by rw [← hF, F_M_take_j48, if_neg (α := se_G) c5, if_neg (α := se_G) c26, if_neg (α := se_G) c30, if_pos (α := se_G) c31]) hP hD hS (lv_sub hl [3, 4, 5, 6, 7, 0] rfl)
            · refine lv_iload hx hb dX6_take_109 (lv_at hl 0 rfl) ?_
              refine lv_if_ne (tgt := 161) hx hb dX6_take_111 (by decide) (fun c32 => ?_) (fun c32 => ?_)
              · refine lv_iinc (v := (v6_48 + 1)) (lv' := [(6, .int (v6_48 + 1)), (8, .int ((if (gj48 0 22) = 0 then 0 else ((if (((gj48 0 21) + (v3_48 + v6_48)) - (gj48 0 23)) < 0 then 0 else 1) : Int32)) : Int32)), (7, .int (v3_48 + v6_48)), (0, .ref (h 0)), (1, .int v1_48), (3, .int v3_48), (4, .int v4_48), (5, .int v5_48)]) hx hb dX6_take_161 hl (k := 7) rfl rfl (by decide) rfl (fun ls hl => ?_)
                refine lv_goto (tgt := 48) hx hb dX6_take_164 (by decide) ?_
                exact ih gj48 v1_48 v3_48 v4_48 v5_48 (v6_48 + 1) _ _ ls ⟨se_inc0 c5 hI.1, hI.2⟩ (se_dec c5 hM) (by rw [← hF, F_M_take_j48, if_neg (α := se_G) c5, if_neg (α := se_G) c26, if_neg (α := se_G) c30, if_neg (α := se_G) c31, if_neg (α := se_G) c32]) hP hD hS (lv_sub hl [3, 4, 5, 6, 7, 0] rfl)
              · refine lv_aload_n hx hb dX6_take_114 rfl (lv_at hl 2 rfl) ?_
                refine va_get (D := D) (ci := 6) (v := .ref (h 3)) (C := RX6) (T := TX6) (N := 50) hx hb hts (se_iw iwX6) hown hK hP 0 rfl rfl 19 (by decide) (hts _ (List.mem_cons_of_mem _ qX6_f16)) (fun _ h9 => h9) rfl dX6_take_115 ?_
                refine lv_aload_n hx hb dX6_take_118 rfl (lv_at hl 2 rfl) ?_
                refine va_get (D := D) (ci := 6) (v := .int (gj48 0 20)) (C := RX6) (T := TX6) (N := 50) hx hb hts (se_iw iwX6) hown hK hP 0 rfl rfl 20 (by decide) (hts _ (List.mem_cons_of_mem _ qX6_f66)) (fun _ h9 => h9) rfl dX6_take_119 ?_
                refine lv_iload hx hb dX6_take_122 (lv_at hl 1 rfl) ?_
                refine lv_iadd hx hb dX6_take_124 ?_
                refine va_zald hx hb hK hP 3 2 rfl rfl (mo_tk1 (by assumption) (by assumption) hI.2.1 hI.2.2.1 hI.2.2.2.1) dX6_take_125 ?_
                refine lv_if_ne (tgt := 161) hx hb dX6_take_126 (by decide) (fun c33 => ?_) (fun c33 => ?_)
                · refine lv_iinc (v := (v6_48 + 1)) (lv' := [(6, .int (v6_48 + 1)), (8, .int ((if (gj48 0 22) = 0 then 0 else ((if (((gj48 0 21) + (v3_48 + v6_48)) - (gj48 0 23)) < 0 then 0 else 1) : Int32)) : Int32)), (7, .int (v3_48 + v6_48)), (0, .ref (h 0)), (1, .int v1_48), (3, .int v3_48), (4, .int v4_48), (5, .int v5_48)]) hx hb dX6_take_161 hl (k := 7) rfl rfl (by decide) rfl (fun ls hl => ?_)
                  refine lv_goto (tgt := 48) hx hb dX6_take_164 (by decide) ?_
                  exact ih gj48 v1_48 v3_48 v4_48 v5_48 (v6_48 + 1) _ _ ls ⟨se_inc0 c5 hI.1, hI.2⟩ (se_dec c5 hM) (by rw [← hF, F_M_take_j48, if_neg (α := se_G) c5, if_neg (α := se_G) c26, if_neg (α := se_G) c30, if_neg (α := se_G) c31, if_pos (α := se_G) c32, if_neg (α := se_G) c33]) hP hD hS (lv_sub hl [3, 4, 5, 6, 7, 0] rfl)
                · refine lv_aload_n hx hb dX6_take_129 rfl (lv_at hl 2 rfl) ?_
                  refine va_get (D := D) (ci := 6) (v := .ref (h 3)) (C := RX6) (T := TX6) (N := 50) hx hb hts (se_iw iwX6) hown hK hP 0 rfl rfl 19 (by decide) (hts _ (List.mem_cons_of_mem _ qX6_f16)) (fun _ h9 => h9) rfl dX6_take_130 ?_
                  refine lv_aload_n hx hb dX6_take_133 rfl (lv_at hl 2 rfl) ?_
                  refine va_get (D := D) (ci := 6) (v := .int (gj48 0 20)) (C := RX6) (T := TX6) (N := 50) hx hb hts (se_iw iwX6) hown hK hP 0 rfl rfl 20 (by decide) (hts _ (List.mem_cons_of_mem _ qX6_f66)) (fun _ h9 => h9) rfl dX6_take_134 ?_
                  refine lv_iload hx hb dX6_take_137 (lv_at hl 1 rfl) ?_
                  refine lv_iadd hx hb dX6_take_139 ?_
                  refine lv_iconst (v := 1) hx hb dX6_take_140 (by decide) ?_
                  refine va_zast hx hb hK hP hD hS 3 2 rfl rfl (mo_tk1 (by assumption) (by assumption) hI.2.1 hI.2.2.1 hI.2.2.2.1) dX6_take_141 (fun H locs hP hD hS => ?_)
                  replace hP : va_P D se_cl (se_WM k h (se_u gj48 3 (Int32.toNatClampNeg ((gj48 0 20) + (v3_48 + v6_48))) (vp_nar .boolean 1))) H := hP
                  replace hD : va_D A (se_WM k h (se_u gj48 3 (Int32.toNatClampNeg ((gj48 0 20) + (v3_48 + v6_48))) (vp_nar .boolean 1))) := hD
                  refine lv_aload_n hx hb dX6_take_142 rfl (lv_at hl 2 rfl) ?_
                  refine va_get (D := D) (ci := 6) (v := .ref (h 2)) (C := RX6) (T := TX6) (N := 50) hx hb hts (se_iw iwX6) hown hK hP 0 rfl rfl 18 (by decide) (hts _ (List.mem_cons_of_mem _ qX6_f13)) (fun _ h9 => h9) rfl dX6_take_143 ?_
                  refine lv_aload_n hx hb dX6_take_146 rfl (lv_at hl 2 rfl) ?_
                  refine va_get (D := D) (ci := 6) (v := .int (gj48 0 20)) (C := RX6) (T := TX6) (N := 50) hx hb hts (se_iw iwX6) hown hK hP 0 rfl rfl 20 (by decide) (hts _ (List.mem_cons_of_mem _ qX6_f66)) (fun _ h9 => h9) rfl dX6_take_147 ?_
                  refine lv_iload hx hb dX6_take_150 (lv_at hl 1 rfl) ?_
                  refine lv_iadd hx hb dX6_take_152 ?_
                  refine lv_aload_n hx hb dX6_take_153 rfl (lv_at hl 2 rfl) ?_
                  refine va_get (D := D) (ci := 6) (v := .ref (h 4)) (C := RX6) (T := TX6) (N := 50) hx hb hts (se_iw iwX6) hown hK hP 0 rfl rfl 44 (by decide) (hts _ (List.mem_cons_of_mem _ qX6_f27)) (fun _ h9 => h9) rfl dX6_take_154 ?_
                  refine lv_iload hx hb dX6_take_157 (lv_at hl 7 rfl) ?_
                  refine va_iald hx hb hK hP 4 3 rfl rfl (se_inN (N := 1460) (by decide) (se_nn hI.1) (se_nle2 c5 (N := 1460) hI.2.2.2.2)) dX6_take_159 ?_
                  refine va_iast hx hb hK hP hD hS 2 1 rfl rfl (mo_tk1 (by assumption) (by assumption) hI.2.1 hI.2.2.1 hI.2.2.2.1) dX6_take_160 (fun H locs hP hD hS => ?_)
                  replace hP : va_P D se_cl (se_WM k h (se_u (se_u gj48 3 (Int32.toNatClampNeg ((gj48 0 20) + (v3_48 + v6_48))) (vp_nar .boolean 1)) 2 (Int32.toNatClampNeg ((gj48 0 20) + (v3_48 + v6_48))) (gj48 4 (Int32.toNatClampNeg v6_48)))) H := hP
                  replace hD : va_D A (se_WM k h (se_u (se_u gj48 3 (Int32.toNatClampNeg ((gj48 0 20) + (v3_48 + v6_48))) (vp_nar .boolean 1)) 2 (Int32.toNatClampNeg ((gj48 0 20) + (v3_48 + v6_48))) (gj48 4 (Int32.toNatClampNeg v6_48)))) := hD
                  refine lv_iinc (v := (v6_48 + 1)) (lv' := [(6, .int (v6_48 + 1)), (8, .int ((if (gj48 0 22) = 0 then 0 else ((if (((gj48 0 21) + (v3_48 + v6_48)) - (gj48 0 23)) < 0 then 0 else 1) : Int32)) : Int32)), (7, .int (v3_48 + v6_48)), (0, .ref (h 0)), (1, .int v1_48), (3, .int v3_48), (4, .int v4_48), (5, .int v5_48)]) hx hb dX6_take_161 hl (k := 7) rfl rfl (by decide) rfl (fun ls hl => ?_)
                  refine lv_goto (tgt := 48) hx hb dX6_take_164 (by decide) ?_
                  exact ih (se_u (se_u gj48 3 (Int32.toNatClampNeg ((gj48 0 20) + (v3_48 + v6_48))) (vp_nar .boolean 1)) 2 (Int32.toNatClampNeg ((gj48 0 20) + (v3_48 + v6_48))) (gj48 4 (Int32.toNatClampNeg v6_48))) v1_48 v3_48 v4_48 v5_48 (v6_48 + 1) _ _ ls ⟨se_inc0 c5 hI.1, hI.2⟩ (se_dec c5 hM) (by rw [← hF, F_M_take_j48, if_neg (α := se_G) c5, if_neg (α := se_G) c26, if_neg (α := se_G) c30, if_neg (α := se_G) c31, if_pos (α := se_G) c32, if_pos (α := se_G) c33]) hP hD hS (lv_sub hl [3, 4, 5, 6, 7, 0] rfl)
  have hF : F_M_take g p1 p2 = F_M_take g p1 p2 := rfl
  refine lv_iload_n hx hb dX6_take_0 rfl (lv_at hl 2 rfl) ?_
  refine lv_aload_n hx hb dX6_take_1 rfl (lv_at hl 0 rfl) ?_
  refine va_get (D := D) (ci := 6) (v := .int (g 0 21)) (C := RX6) (T := TX6) (N := 50) hx hb hts (se_iw iwX6) hown hK hP 0 rfl rfl 21 (by decide) (hts _ (List.mem_cons_of_mem _ qX6_f69)) (fun _ h9 => h9) rfl dX6_take_2 ?_
  refine lv_isub hx hb dX6_take_5 ?_
  refine lv_istore_n (lv' := [(3, .int (p2 - (g 0 21))), (0, .ref (h 0)), (1, .int p1), (2, .int p2)]) hx hb dX6_take_6 rfl hl (by decide) rfl (fun ls hl => ?_)
  refine lv_aload_n hx hb dX6_take_7 rfl (lv_at hl 1 rfl) ?_
  refine va_get (D := D) (ci := 6) (v := .int (g 0 4)) (C := RX6) (T := TX6) (N := 50) hx hb hts (se_iw iwX6) hown hK hP 0 rfl rfl 4 (by decide) (hts _ (List.mem_cons_of_mem _ qX6_f118)) (fun _ h9 => h9) rfl dX6_take_8 ?_
  refine lv_iconst (v := 4) hx hb dX6_take_11 (by decide) ?_
  refine se_join (v := ((if (g 0 4) = 4 then 1 else ((if (g 0 4) = 5 then 1 else ((if (g 0 4) = 6 then 1 else 0) : Int32)) : Int32)) : Int32)) (pcJ := 37) (restJ := []) (ls := ls) (fun T => ?_) ?_
  · refine lv_icmp_eq (tgt := 32) hx hb dX6_take_12 (by decide) (fun c2 => ?_) (fun c2 => ?_)
    · refine lv_iconst (v := 1) hx hb dX6_take_32 (by decide) ?_
      refine lv_goto (tgt := 37) hx hb dX6_take_33 (by decide) ?_
      exact T _ (mo_ifp c2 rfl)
    · refine lv_aload_n hx hb dX6_take_15 rfl (lv_at hl 1 rfl) ?_
      refine va_get (D := D) (ci := 6) (v := .int (g 0 4)) (C := RX6) (T := TX6) (N := 50) hx hb hts (se_iw iwX6) hown hK hP 0 rfl rfl 4 (by decide) (hts _ (List.mem_cons_of_mem _ qX6_f118)) (fun _ h9 => h9) rfl dX6_take_16 ?_
      refine lv_iconst (v := 5) hx hb dX6_take_19 (by decide) ?_
      refine lv_icmp_eq (tgt := 32) hx hb dX6_take_20 (by decide) (fun c3 => ?_) (fun c3 => ?_)
      · refine lv_iconst (v := 1) hx hb dX6_take_32 (by decide) ?_
        refine lv_goto (tgt := 37) hx hb dX6_take_33 (by decide) ?_
        exact T _ (mo_ifn c2 (mo_ifp c3 rfl))
      · refine lv_aload_n hx hb dX6_take_23 rfl (lv_at hl 1 rfl) ?_
        refine va_get (D := D) (ci := 6) (v := .int (g 0 4)) (C := RX6) (T := TX6) (N := 50) hx hb hts (se_iw iwX6) hown hK hP 0 rfl rfl 4 (by decide) (hts _ (List.mem_cons_of_mem _ qX6_f118)) (fun _ h9 => h9) rfl dX6_take_24 ?_
        refine lv_bipush (v := 6) hx hb dX6_take_27 (by decide) ?_
        refine lv_icmp_ne (tgt := 36) hx hb dX6_take_29 (by decide) (fun c4 => ?_) (fun c4 => ?_)
        · refine lv_iconst (v := 0) hx hb dX6_take_36 (by decide) ?_
          exact T _ (mo_ifn c2 (mo_ifn c3 (mo_ifn c4 rfl)))
        · refine lv_iconst (v := 1) hx hb dX6_take_32 (by decide) ?_
          refine lv_goto (tgt := 37) hx hb dX6_take_33 (by decide) ?_
          exact T _ (mo_ifn c2 (mo_ifn c3 (mo_ifp c4 rfl)))
  refine lv_istore (lv' := [(4, .int ((if (g 0 4) = 4 then 1 else ((if (g 0 4) = 5 then 1 else ((if (g 0 4) = 6 then 1 else 0) : Int32)) : Int32)) : Int32)), (3, .int (p2 - (g 0 21))), (0, .ref (h 0)), (1, .int p1), (2, .int p2)]) hx hb dX6_take_37 hl (by decide) rfl (fun ls hl => ?_)
  refine lv_aload_n hx hb dX6_take_39 rfl (lv_at hl 2 rfl) ?_
  refine se_cp (va_runV (C := RX6) (As := []) (rest := []) ⟨hx, hb, hml, hown, hts⟩ (c_M_room l D k h _ g) (se_kV 0 hts q_code_X6_room qX6_m139 q_ini_StreamEndModel q_instanceMethod_X6_room q_sel_X6_room (by decide +kernel) ⟨Nat.le_of_ble_eq_true rfl, Nat.le_of_ble_eq_true rfl⟩ rfl rfl) ⟨se_blind se_ZN_ok, va_recv hK hP (ci := 6) (q0 := 0) rfl rfl, se_pre se_ZN_ok hP hK hD hZ⟩ rfl rfl hl.1 rfl (lv_room (Nat.le_of_ble_eq_true rfl)) dX6_take_40 ⟨Nat.zero_le _, Nat.zero_le _⟩) ?_
  refine lv_istore (lv' := [(5, .int (F_M_room g)), (4, .int ((if (g 0 4) = 4 then 1 else ((if (g 0 4) = 5 then 1 else ((if (g 0 4) = 6 then 1 else 0) : Int32)) : Int32)) : Int32)), (3, .int (p2 - (g 0 21))), (0, .ref (h 0)), (1, .int p1), (2, .int p2)]) hx hb dX6_take_43 hl (by decide) rfl (fun ls hl => ?_)
  refine lv_iconst (v := 0) hx hb dX6_take_45 (by decide) ?_
  refine lv_istore (lv' := [(6, .int 0), (5, .int (F_M_room g)), (4, .int ((if (g 0 4) = 4 then 1 else ((if (g 0 4) = 5 then 1 else ((if (g 0 4) = 6 then 1 else 0) : Int32)) : Int32)) : Int32)), (3, .int (p2 - (g 0 21))), (0, .ref (h 0)), (1, .int p1), (2, .int p2)]) hx hb dX6_take_46 hl (by decide) rfl (fun ls hl => ?_)
  exact L48 (((g 0 45 : Int32).toInt - ((0) : Int32).toInt).toNat + 1) g p1 (p2 - (g 0 21)) ((if (g 0 4) = 4 then 1 else ((if (g 0 4) = 5 then 1 else ((if (g 0 4) = 6 then 1 else 0) : Int32)) : Int32)) : Int32) (F_M_room g) 0 _ _ ls ⟨by decide, rfl, hI.1, hI.2.1, hI.2.2⟩ (se_fuel _ _) (by rw [F_M_take]) hP hD hS (lv_sub hl [4, 5, 3, 2, 1, 0] rfl)
