/-! written by program (wip/gen) -/
set_option maxRecDepth 100000 in
set_option maxHeartbeats 4000000 in
theorem i_X1 (l : Launch) (D : va_G) (q : Nat) (sz : Nat)  : Met l yX1_init (Cond.code yX1_init cX1_init 1 none :: se_all) ({ frames := 1, cells := 1, slots := 2048, locals := 23 }) (va_Pc [.ref q] (se_Pre D se_cl [] [(q, .inr (1, [.null, .int 0, .int 0, .int 0, .int 0, .int 0, .int 0, .int 0]))] se_ZN sz)) ((fun A => va_Qv (fun _ : ClassId × Nat => True) (fun u t => va_P D se_cl [(q, .inr (1, [.ref u.2, .int 0, .int 0, .int 0, .int 0, .int 0, .int 0, .int 0])), (u.2, .inl (u.1, 2048, .inl ((F_A_Arrays_fill (fun _ => fun _ => 0) (-1)) 0)))] t.heap ∧ va_K D se_cl [(u.1, .int)] t ∧ va_D A [(q, .inr (1, [.ref u.2, .int 0, .int 0, .int 0, .int 0, .int 0, .int 0, .int 0])), (u.2, .inl (u.1, 2048, .inl ((F_A_Arrays_fill (fun _ => fun _ => 0) (-1)) 0)))]) A) (va_A [(q, .inr (1, [.null, .int 0, .int 0, .int 0, .int 0, .int 0, .int 0, .int 0]))] sz)) 1 2048 (va_A [(q, .inr (1, [.null, .int 0, .int 0, .int 0, .int 0, .int 0, .int 0, .int 0]))] sz) := by
  refine se_metI (Qc := fun A => va_Qv (fun _ : ClassId × Nat => True) (fun u t => va_P D se_cl [(q, .inr (1, [.ref u.2, .int 0, .int 0, .int 0, .int 0, .int 0, .int 0, .int 0])), (u.2, .inl (u.1, 2048, .inl ((F_A_Arrays_fill (fun _ => fun _ => 0) (-1)) 0)))] t.heap ∧ va_K D se_cl [(u.1, .int)] t ∧ va_D A [(q, .inr (1, [.ref u.2, .int 0, .int 0, .int 0, .int 0, .int 0, .int 0, .int 0])), (u.2, .inl (u.1, 2048, .inl ((F_A_Arrays_fill (fun _ => fun _ => 0) (-1)) 0)))]) A) (cc := cX1_init) (maxL := 1) (ret := none) (by decide) rfl (Nat.le_of_ble_eq_true rfl) ?_
  intro p e s m below meth c ls A hx hb hr hts hown hlocks hml hin hA hP hK hD hS hZ hl
  replace hl : lv_has ls 1 [(0, .ref q)] := hl
  refine lv_aload_n hx hb dX1_init_0 rfl (lv_at hl 0 rfl) ?_
  refine W.objInit hx hb hown (hts _ (List.mem_cons_of_mem _ qX1_m3)) (hts _ (List.mem_cons_of_mem _ q_inst_obj)) (hts _ (List.mem_cons_of_mem _ q_code_obj)) rfl (by rw [hml]; exact hl.1) rfl dX1_init_1 (Nat.le_of_ble_eq_true rfl) (Nat.le_of_ble_eq_true rfl) ?_
  refine W.eq (g2 := F0 m 4 ls []) rfl ?_
  refine lv_aload_n hx hb dX1_init_4 rfl (lv_at hl 0 rfl) ?_
  refine lv_sipush (v := 2048) hx hb dX1_init_5 (by decide) ?_
  refine va_newa (atype := .int) hx hb (hts _ (List.mem_cons_of_mem _ q_arr_int)) (ty := .int) rfl hK hP hD hS hA (n := 2048) (N' := 2048) (a0 := (2048, .inl (fun _ => 0))) (fun _ => rfl) (by decide) (by decide) (by decide) (Nat.le_of_ble_eq_true rfl) (Nat.le_of_ble_eq_true rfl) dX1_init_8 (fun qa8 ca8 H hK hP hD hS => ?_)
  replace hP : va_P D se_cl [(q, .inr (1, [.null, .int 0, .int 0, .int 0, .int 0, .int 0, .int 0, .int 0])), (qa8, .inl (ca8, 2048, .inl (fun _ => 0)))] H := hP
  replace hD : va_D A [(q, .inr (1, [.null, .int 0, .int 0, .int 0, .int 0, .int 0, .int 0, .int 0])), (qa8, .inl (ca8, 2048, .inl (fun _ => 0)))] := hD
  replace hK : va_K D se_cl [(ca8, .int)] s := hK
  refine va_putF (D := D) (ci := 1) (v := .ref qa8) (ty := .array .int) (C := RX1) (T := TX1) (N := 8) hx hb hts (se_iw iwX1) tyX1 tyX1_ok nmX1 hown hK hP hD hS 0 rfl rfl 0 (by decide) (hts _ (List.mem_cons_of_mem _ qX1_f9)) (fun _ h9 => h9) rfl hin rfl (by decide +kernel) rfl rfl (Nat.le_of_ble_eq_true rfl) dX1_init_10 (fun H locs hP hD hS => ?_)
  replace hP : va_P D se_cl [(q, .inr (1, [.ref qa8, .int 0, .int 0, .int 0, .int 0, .int 0, .int 0, .int 0])), (qa8, .inl (ca8, 2048, .inl (fun _ => 0)))] H := hP
  replace hD : va_D A [(q, .inr (1, [.ref qa8, .int 0, .int 0, .int 0, .int 0, .int 0, .int 0, .int 0])), (qa8, .inl (ca8, 2048, .inl (fun _ => 0)))] := hD
  refine lv_aload_n hx hb dX1_init_13 rfl (lv_at hl 0 rfl) ?_
  refine va_get (D := D) (ci := 1) (v := .ref qa8) (C := RX1) (T := TX1) (N := 8) hx hb hts (se_iw iwX1) hown hK hP 0 rfl rfl 0 (by decide) (hts _ (List.mem_cons_of_mem _ qX1_f9)) (fun _ h9 => h9) rfl dX1_init_14 ?_
  refine lv_iconst (v := (-1)) hx hb dX1_init_17 (by decide) ?_
  have hPc := hP.sub (ws' := (se_WA (fun _ => ca8) (fun _ => qa8) (fun _ => fun _ => 0))) [1] rfl
  have hDc := hD.sub (ws' := (se_WA (fun _ => ca8) (fun _ => qa8) (fun _ => fun _ => 0))) [1] (by decide) rfl
  have hKc := hK.sub (tys' := [(ca8, .int)]) [0] rfl
  have hFc := va_free (wc := (se_WA (fun _ => ca8) (fun _ => qa8) (fun _ => fun _ => 0))) hD hS hA [1] rfl
  refine va_callv (va_runS (As := [.ref qa8, .int (-1)]) (rest := []) ⟨hx, hb, hml, hown, hts⟩ (c_A_Arrays_fill l D (fun _ => ca8) (fun _ => qa8) _ (fun _ => fun _ => 0) (-1)) (se_kS 2 hts q_code_XA_fill qX1_m15 q_ini_java_util_Arrays q_static_XA_fill (by decide +kernel) ⟨Nat.le_of_ble_eq_true rfl, Nat.le_of_ble_eq_true rfl⟩ rfl rfl) ⟨se_blind se_ZN_ok, se_pre se_ZN_ok hPc hKc hDc hZ⟩ rfl rfl hl.1 rfl (lv_room (Nat.le_of_ble_eq_true rfl)) dX1_init_18 ⟨Nat.le_of_ble_eq_true rfl, Nat.le_of_ble_eq_true rfl⟩) hS (fun q _ h => hFc q h) hFc (fun uf t H1 locs ht hvm hw hB hz1 hk1 hS => ?_)
  obtain ⟨hP1, hK1, hD1⟩ := hB
  rw [ht] at hP1
  subst hw
  obtain ⟨hP, hD⟩ := va_join (wr := [(q, .inr (1, [.ref qa8, .int 0, .int 0, .int 0, .int 0, .int 0, .int 0, .int 0]))]) (w1 := [(qa8, .inl (ca8, 2048, .inl ((F_A_Arrays_fill (fun _ => fun _ => 0) (-1)) 0)))]) hP hD [1] [0] rfl rfl (by decide) (by decide) hk1 hFc hP1 hD1
  generalize H1 = H at hP hS ⊢
  replace hP : va_P D se_cl [(q, .inr (1, [.ref qa8, .int 0, .int 0, .int 0, .int 0, .int 0, .int 0, .int 0])), (qa8, .inl (ca8, 2048, .inl ((F_A_Arrays_fill (fun _ => fun _ => 0) (-1)) 0)))] H := hP
  replace hD : va_D A [(q, .inr (1, [.ref qa8, .int 0, .int 0, .int 0, .int 0, .int 0, .int 0, .int 0])), (qa8, .inl (ca8, 2048, .inl ((F_A_Arrays_fill (fun _ => fun _ => 0) (-1)) 0)))] := hD
  exact W.vret hx hb hr (fun t ht hW => ⟨⟨(ca8, qa8), rfl, trivial, by rw [ht]; exact hP, va_K.moved hW.alike hK, hD⟩, hS.F ht⟩) hS.2.2 dX1_init_21 hlocks
