/-! written by program (wip/gen) -/
set_option maxRecDepth 100000 in
set_option maxHeartbeats 4000000 in
theorem i_X3 (l : Launch) (D : va_G) (q : Nat) (sz : Nat)  : Met l yX3_init (Cond.code yX3_init cX3_init 1 none :: se_all) ({ frames := 1, cells := 1, slots := 1460, locals := 12 }) (va_Pc [.ref q] (se_Pre D se_cl [] [(q, .inr (3, [.null, .int 0, .int 0, .int 0, .int 0, .int 0, .int 0]))] se_ZN sz)) ((fun A => va_Qv (fun _ : ClassId × Nat => True) (fun u t => va_P D se_cl [(q, .inr (3, [.ref u.2, .int 0, .int 0, .int 0, .int 0, .int 0, .int 0])), (u.2, .inl (u.1, 1460, .inl (fun _ => 0)))] t.heap ∧ va_K D se_cl [(u.1, .byte)] t ∧ va_D A [(q, .inr (3, [.ref u.2, .int 0, .int 0, .int 0, .int 0, .int 0, .int 0])), (u.2, .inl (u.1, 1460, .inl (fun _ => 0)))]) A) (va_A [(q, .inr (3, [.null, .int 0, .int 0, .int 0, .int 0, .int 0, .int 0]))] sz)) 1 1460 (va_A [(q, .inr (3, [.null, .int 0, .int 0, .int 0, .int 0, .int 0, .int 0]))] sz) := by
  refine se_metI (Qc := fun A => va_Qv (fun _ : ClassId × Nat => True) (fun u t => va_P D se_cl [(q, .inr (3, [.ref u.2, .int 0, .int 0, .int 0, .int 0, .int 0, .int 0])), (u.2, .inl (u.1, 1460, .inl (fun _ => 0)))] t.heap ∧ va_K D se_cl [(u.1, .byte)] t ∧ va_D A [(q, .inr (3, [.ref u.2, .int 0, .int 0, .int 0, .int 0, .int 0, .int 0])), (u.2, .inl (u.1, 1460, .inl (fun _ => 0)))]) A) (cc := cX3_init) (maxL := 1) (ret := none) (by decide) rfl (Nat.le_of_ble_eq_true rfl) ?_
  intro p e s m below meth c ls A hx hb hr hts hown hlocks hml hin hA hP hK hD hS hZ hl
  replace hl : lv_has ls 1 [(0, .ref q)] := hl
  refine lv_aload_n hx hb dX3_init_0 rfl (lv_at hl 0 rfl) ?_
  refine W.objInit hx hb hown (hts _ (List.mem_cons_of_mem _ qX3_m3)) (hts _ (List.mem_cons_of_mem _ q_inst_obj)) (hts _ (List.mem_cons_of_mem _ q_code_obj)) rfl (by rw [hml]; exact hl.1) rfl dX3_init_1 (Nat.le_of_ble_eq_true rfl) (Nat.le_of_ble_eq_true rfl) ?_
  refine W.eq (g2 := F0 m 4 ls []) rfl ?_
  refine lv_aload_n hx hb dX3_init_4 rfl (lv_at hl 0 rfl) ?_
  refine lv_sipush (v := 1460) hx hb dX3_init_5 (by decide) ?_
  refine va_newa (atype := .byte) hx hb (hts _ (List.mem_cons_of_mem _ q_arr_byte)) (ty := .byte) rfl hK hP hD hS hA (n := 1460) (N' := 1460) (a0 := (1460, .inl (fun _ => 0))) (fun _ => rfl) (by decide) (by decide) (by decide) (Nat.le_of_ble_eq_true rfl) (Nat.le_of_ble_eq_true rfl) dX3_init_8 (fun qa8 ca8 H hK hP hD hS => ?_)
  replace hP : va_P D se_cl [(q, .inr (3, [.null, .int 0, .int 0, .int 0, .int 0, .int 0, .int 0])), (qa8, .inl (ca8, 1460, .inl (fun _ => 0)))] H := hP
  replace hD : va_D A [(q, .inr (3, [.null, .int 0, .int 0, .int 0, .int 0, .int 0, .int 0])), (qa8, .inl (ca8, 1460, .inl (fun _ => 0)))] := hD
  replace hK : va_K D se_cl [(ca8, .byte)] s := hK
  refine va_putF (D := D) (ci := 3) (v := .ref qa8) (ty := .array .byte) (C := RX3) (T := TX3) (N := 7) hx hb hts (se_iw iwX3) tyX3 tyX3_ok nmX3 hown hK hP hD hS 0 rfl rfl 0 (by decide) (hts _ (List.mem_cons_of_mem _ qX3_f9)) (fun _ h9 => h9) rfl hin rfl (by decide +kernel) rfl rfl (Nat.le_of_ble_eq_true rfl) dX3_init_10 (fun H locs hP hD hS => ?_)
  replace hP : va_P D se_cl [(q, .inr (3, [.ref qa8, .int 0, .int 0, .int 0, .int 0, .int 0, .int 0])), (qa8, .inl (ca8, 1460, .inl (fun _ => 0)))] H := hP
  replace hD : va_D A [(q, .inr (3, [.ref qa8, .int 0, .int 0, .int 0, .int 0, .int 0, .int 0])), (qa8, .inl (ca8, 1460, .inl (fun _ => 0)))] := hD
  exact W.vret hx hb hr (fun t ht hW => ⟨⟨(ca8, qa8), rfl, trivial, by rw [ht]; exact hP, va_K.moved hW.alike hK, hD⟩, hS.F ht⟩) hS.2.2 dX3_init_13 hlocks
