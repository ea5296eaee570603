/-! written by program (wip/gen) -/
section LB1
variable {p : Program} {l : Launch} {e : Env} {R : Room} {s : State} {m : MethodId} {args : Array Value} {below : List Frame} {meth : Method} {c : Code} {H : Heap} {locs : List Loc} {cells slots : Nat} {Q : State → Prop}
variable {y : MethodName} {bytes cc : ByteArray} {maxL nL mc ms n index : Nat} {ret : Option FieldType} {hh : List (Nat × Nat × Nat × Nat)} {ws : List Cond} {rm : Room} {Pc : Array Value → State → Prop} {Qc : Array Value → State → Outcome → State → Prop} {free : Addr → Prop} {Ts : List Cond} {own : String} {As rest : List Value} {g : JFrame}
def lb_CW (R : Room) (s : State) (args : Array Value) (own : String) (index : Nat) (y : MethodName) (bytes : ByteArray) (maxL : Nat) (ret : Option FieldType) (hh : List (Nat × Nat × Nat × Nat)) (ws : List Cond) (rm : Room) (mc ms n : Nat) : Prop :=
  (rm.cells = mc ∧ rm.slots = ms ∧ rm.frames + 1 ≤ R.frames ∧ 8 + (maxL + 11) + rm.locals ≤ R.locals ∧ (∀ w ∈ ws, ∀ (a' : Array Value) (U : State), s.WarmedH U.vm → w.before a' U = true) ∧ Cond.codeWith y bytes maxL ret hh ∈ ws) ∧ (Cond.codeWith y bytes maxL ret hh).before args s = true ∧ (Cond.initialized y.cls).before args s = true ∧ (Cond.methodLink own index y).before args s = true ∧ (Cond.static y).before args s = true ∧ (y.cls ≠ "java/lang/invoke/MethodHandle" ∧ y.cls ≠ "java/lang/invoke/VarHandle") ∧ ∀ sig, parseMethodDescriptor y.desc = some sig → n = sig.parameters.length
theorem lb_kSW {a0 : Cond} (n : Nat) (hts : ∀ w ∈ a0 :: se_all, w.before args s = true) (hc : Cond.codeWith y bytes maxL ret hh ∈ se_all) (hl : Cond.methodLink own index y ∈ se_all) {C : String} (hi : Cond.initialized C ∈ se_all) (hst : Cond.static y ∈ se_all)
    (hd : y.cls = C ∧ y.cls ≠ "java/lang/invoke/MethodHandle" ∧ y.cls ≠ "java/lang/invoke/VarHandle" ∧ (parseMethodDescriptor y.desc).map (fun d => d.parameters.length) = some n) (hR : rm.frames + 1 ≤ R.frames ∧ 8 + (maxL + 11) + rm.locals ≤ R.locals) (hrc : rm.cells = mc) (hrs : rm.slots = ms) :
    lb_CW R s args own index y bytes maxL ret hh (Cond.codeWith y bytes maxL ret hh :: se_all) rm mc ms n := by
  have t : ∀ w ∈ se_all, w.before args s = true := fun w h => hts w (List.mem_cons_of_mem _ h)
  obtain ⟨hC, hd⟩ := hd
  subst hC
  refine ⟨⟨hrc, hrs, hR.1, hR.2, pay_in hts (se_gi hc), List.mem_cons_self⟩, t _ hc, t _ hi, t _ hl, t _ hst, ⟨hd.1, hd.2.1⟩, fun sig h => ?_⟩
  have h2 := hd.2.2
  rw [h] at h2
  exact (Option.some.inj h2).symm
theorem lb_runSW (S : CallFix p m c cc nL s args Ts own) (hM : Met l y ws rm Pc Qc mc ms free) (cw : lb_CW R s args own index y bytes maxL ret hh ws rm mc ms n) (hp : PreS s H Pc As)
    (hg : g.method = m) (hn : As.length = n) (hsize : g.locals.size = nL) (hstack : g.stack = As.reverse ++ rest) (hW : 2 * g.monitorRoom + (rest.map fun v => v.category).sum ≤ 8) (hdg : decode cc g.pc = .ok (.invokestatic index, 3)) (hf : cells + mc ≤ R.cells ∧ slots + ms ≤ R.slots) :
    va_Run p l e R s m args below meth c H locs cells slots mc ms g rest (Qc As.toArray) free := by
  obtain ⟨⟨hrc, hrs, hfr, hlo, hws, hcw⟩, hcode, hini, hl, hst, hy, hlen⟩ := cw
  have hK : Back l R p e below s args y 3 8 (PreOf R mc ms Pc) (PostOf Qc mc ms free) := va_backW (hh := hh) (bytes := bytes) (maxL := maxL) (ret := ret) hM hp.1 hrc hrs hfr hlo hws hcw (fun a' U hW => word_at hW (Or.inl (by first | rfl | simp [Cond.onTables, Cond.keeps, Cond.steady])) hini)
  obtain ⟨hx, hb, hml, ho, -⟩ := S
  intro T hT X
  obtain ⟨mk, methM, cM, hnamed, hmethM, -, -, -, -, -, -, hsigM⟩ := Cond.codeWith_spec hcode
  have hstatic : methM.isStatic = true := Cond.static_spec hnamed hmethM hst
  obtain ⟨kP, hkP, -⟩ := className_of_methodNamed hnamed
  have hinitP : kP.init = .initialized := Cond.initialized_spec (findClass_of_methodNamed hnamed) hkP hini
  have hdg' : decode c.code g.pc = .ok (.invokestatic index, 3) := by rw [hb]; exact hdg
  obtain ⟨vm₁, X₁, hstep₁⟩ := X.invokestatic hx ho hl hnamed hmethM hstatic hkP hinitP hy (g := g) hg (argsL := As) (rest := rest) (hn.trans (hlen _ hsigM)) hstack hdg'
  obtain ⟨v, ⟨U', l2, c2, s2⟩, X', ⟨g', mk', t, L, e1, e2, hq, h1, hL, h2, h3⟩, hsteps⟩ := hK m meth c ⟨T.setVm vm₁, locs, cells, slots⟩ { g with stack := rest } (.invokestatic index) mk As.toArray X₁ hg (hsize.trans hml.symm) hdg' hW (X₁.named hnamed) ⟨hf.1, hf.2, hp.2 (T.setVm vm₁) hT X₁.warmed⟩
  dsimp only [Pt.U, Pt.locs, Pt.cells, Pt.slots] at X' e1 e2 h1 h2 h3 hsteps
  subst h1; subst h2; subst h3
  exact ⟨v, (T.setVm vm₁).calling g' mk' As.toArray, t, U', L, hT, X', hL, e1, e2, hq, fun target h => hstep₁ _ fun acts => by rw [doInvoke_state]; exact hsteps.trans h⟩
end LB1
section LB2
variable {p : Program} {l : Launch} {e : Env} {R : Room} {s : State} {m : MethodId} {args : Array Value} {below : List Frame} {meth : Method} {c : Code} {H : Heap} {locs : List Loc} {cells slots mc ms : Nat} {Q : State → Prop}
variable {cc : ByteArray} {pc : Nat} {ls : Array Slot} {rest st0 : List Value} {a : Array Value} {A : Nat → Prop} {H0 : Heap} {D : va_G} {cl : List vw_C} {tys : List (ClassId × FieldType)} {wc wr ws : va_W} {S : Type} {wf : S → va_W}
theorem lb_ci {post : Int32 → S → Prop} (hr : va_Run p l e R s m args below meth c H locs cells slots mc ms (F0 m pc ls st0) rest (va_Qi post (fun u t => va_P D cl (wf u) t.heap ∧ va_K D cl tys t ∧ va_D (va_A wc H.size) (wf u)) (va_A wc H.size) a) (va_A wc H.size))
    (hP : va_P D cl ws H) (hD : va_D A ws) (hS : va_S A H0 H locs) (hA : ∀ q : Nat, H0.size ≤ q → A q) (isC isR : List Nat) (hC : isC.map (fun i => ws[i]?) = wc.map some) (hR : isR.map (fun i => ws[i]?) = wr.map some) (hn : va_nd isR = true) (hdis : ∀ i ∈ isR, i ∉ isC)
    (kk : ∀ (r : Int32) (u : S) (H1 : Heap) (locs1 : List Loc), post r u → va_P D cl (wr ++ wf u) H1 → va_D A (wr ++ wf u) → va_S A H0 H1 locs1 → W p l e R s m args below meth c H1 locs1 (cells + mc) (slots + ms) Q (F0 m (pc + 3) ls (.int r :: rest))) : W p l e R s m args below meth c H locs cells slots Q (F0 m pc ls st0) := by
  have hF := va_free hD hS hA isC hC
  refine va_calli hr hS (fun q _ h => hF q h) hF (fun r u t H1 locs1 ht hvm hw hB hz1 hk1 hS1 => ?_)
  obtain ⟨hP1, hK1, hD1⟩ := hB
  rw [ht] at hP1
  obtain ⟨hP9, hD9⟩ := va_join (wr := wr) (w1 := wf u) hP hD isC isR hC hR hn hdis hk1 hF hP1 hD1
  exact kk r u H1 locs1 hw hP9 hD9 hS1
theorem lb_cv {post : S → Prop} (hr : va_Run p l e R s m args below meth c H locs cells slots mc ms (F0 m pc ls st0) rest (va_Qv post (fun u t => va_P D cl (wf u) t.heap ∧ va_K D cl tys t ∧ va_D (va_A wc H.size) (wf u)) (va_A wc H.size) a) (va_A wc H.size))
    (hP : va_P D cl ws H) (hD : va_D A ws) (hS : va_S A H0 H locs) (hA : ∀ q : Nat, H0.size ≤ q → A q) (isC isR : List Nat) (hC : isC.map (fun i => ws[i]?) = wc.map some) (hR : isR.map (fun i => ws[i]?) = wr.map some) (hn : va_nd isR = true) (hdis : ∀ i ∈ isR, i ∉ isC)
    (kk : ∀ (u : S) (H1 : Heap) (locs1 : List Loc), post u → va_P D cl (wr ++ wf u) H1 → va_D A (wr ++ wf u) → va_S A H0 H1 locs1 → W p l e R s m args below meth c H1 locs1 (cells + mc) (slots + ms) Q (F0 m (pc + 3) ls rest)) : W p l e R s m args below meth c H locs cells slots Q (F0 m pc ls st0) := by
  have hF := va_free hD hS hA isC hC
  refine va_callv hr hS (fun q _ h => hF q h) hF (fun u t H1 locs1 ht hvm hw hB hz1 hk1 hS1 => ?_)
  obtain ⟨hP1, hK1, hD1⟩ := hB
  rw [ht] at hP1
  obtain ⟨hP9, hD9⟩ := va_join (wr := wr) (w1 := wf u) hP hD isC isR hC hR hn hdis hk1 hF hP1 hD1
  exact kk u H1 locs1 hw hP9 hD9 hS1
theorem lb_cn {post : S → Prop} {tf : S → List (ClassId × FieldType)} (hr : va_Run p l e R s m args below meth c H locs cells slots mc ms (F0 m pc ls st0) rest (va_Qv post (fun u t => va_P D cl (wf u) t.heap ∧ va_K D cl (tf u) t ∧ va_D (va_A wc H.size) (wf u)) (va_A wc H.size) a) (va_A wc H.size))
    (hP : va_P D cl ws H) (hD : va_D A ws) (hS : va_S A H0 H locs) (hA : ∀ q : Nat, H0.size ≤ q → A q) (isC isR : List Nat) (hC : isC.map (fun i => ws[i]?) = wc.map some) (hR : isR.map (fun i => ws[i]?) = wr.map some) (hn : va_nd isR = true) (hdis : ∀ i ∈ isR, i ∉ isC)
    (kk : ∀ (u : S) (H1 : Heap) (locs1 : List Loc), post u → va_K D cl (tf u) s → va_P D cl (wr ++ wf u) H1 → va_D A (wr ++ wf u) → va_S A H0 H1 locs1 → W p l e R s m args below meth c H1 locs1 (cells + mc) (slots + ms) Q (F0 m (pc + 3) ls rest)) : W p l e R s m args below meth c H locs cells slots Q (F0 m pc ls st0) := by
  have hF := va_free hD hS hA isC hC
  refine va_callv hr hS (fun q _ h => hF q h) hF (fun u t H1 locs1 ht hvm hw hB hz1 hk1 hS1 => ?_)
  obtain ⟨hP1, hK1, hD1⟩ := hB
  rw [ht] at hP1
  obtain ⟨hP9, hD9⟩ := va_join (wr := wr) (w1 := wf u) hP hD isC isR hC hR hn hdis hk1 hF hP1 hD1
  exact kk u H1 locs1 hw (va_K.moved hvm.symm hK1) hP9 hD9 hS1
theorem lb_sld {b L : Nat} {xs : Nat → Int32} (hX : va_X b L xs s H0) (hbl : b < H0.size) (hbA : ¬ A b) (hS : va_S A H0 H locs) {x : Int32} {j : Nat} (hj : x = nI j) (hlt : j < L) (hL : L < 2 ^ 31) (hx : p.tables.exec = Jvm.exec) (hb : c.code = cc) (hdg : decode cc pc = .ok (.iaload, 1))
    (kk : W p l e R s m args below meth c H locs cells slots Q (F0 m (pc + 1) ls (.int (xs j) :: rest))) : W p l e R s m args below meth c H locs cells slots Q (F0 m pc ls (.int x :: .ref b :: rest)) := by
  subst hj
  refine va_sld hx hb hX hbl hbA hS (vp_in_nI hlt hL) hdg ?_
  rw [nI_clamp (by omega)]
  exact kk
end LB2
theorem lb_go {L i : Nat} (hL : L < 2 ^ 30) (hi : i < 2 ^ 30) (c : ¬ Int32.ofNat L - 6 < nI i) : i + 6 ≤ L := by
  have h1 := nI_toInt (n := i) (by omega)
  have h2 : (Int32.ofNat L).toInt = (L : Int) := nI_toInt (n := L) (by omega)
  have h6 : (6 : Int32).toInt = 6 := by decide
  rw [Int32.lt_iff_toInt_lt, Int32.toInt_sub, h1, h2, h6, Int.bmod_def] at c
  split at c <;> omega
theorem lb_6 (i : Nat) : nI i + 6 = nI (i + 6) := nI_add i 6
theorem lb_b01 (x : Int32) : (if x = 0 then (0 : Int32) else 1) = 0 ∨ (if x = 0 then (0 : Int32) else 1) = 1 := by
  split
  · exact Or.inl rfl
  · exact Or.inr rfl
theorem lb_ZH {sa : Nat → Nat} {A B : Nat → Prop} {s : State} {H : Heap} {locs : List Loc} (h : xe_ZH sa A s) (hS : va_S A s.heap H locs) (hB : ∀ q, B q → A q) : ∀ U : State, U.heap = H → s.WarmedH U.vm → xe_ZH sa B U := by
  intro U hU hW
  refine ⟨se_ZN_ok.2 s U hW h.1, fun q hq => vk_R.warm hW (h.2.1 q hq), ?_, ?_, h.2.2.2.2.1.moved hW.alike, h.2.2.2.2.2.moved hW.alike⟩
  · rw [hU]; exact h.2.2.1.go hW.alike hS.2.1 (fun q _ z => hB q z)
  · rw [hU]; exact h.2.2.2.1.go hW.alike hS.2.1 (fun q _ z => hB q z)
theorem lb_ZH_c {sa : Nat → Nat} {B : Nat → Prop} : ∀ (U : State) (g : JFrame) (mk : MethodId) (a : Array Value), xe_ZH sa B U → xe_ZH sa B (U.calling g mk a) := by
  intro U g mk a h
  refine ⟨se_ZN_ok.1 U g mk a h.1, fun q hq => vk_R.same rfl (h.2.1 q hq), ?_, ?_, h.2.2.2.2.1.moved (u := U) (Vm.Alike.refl U.vm), h.2.2.2.2.2.moved (u := U) (Vm.Alike.refl U.vm)⟩
  · exact h.2.2.1.go (u := U) (H := U.heap) (Vm.Alike.refl U.vm) (fun _ _ _ => rfl) (fun _ _ z => z)
  · exact h.2.2.2.1.go (u := U) (H := U.heap) (Vm.Alike.refl U.vm) (fun _ _ _ => rfl) (fun _ _ z => z)
abbrev lb_a0 : Cond := Cond.initialized "StreamEnd"
theorem lb_hts {a : Array Value} {s : State} (hts : ∀ w ∈ lw_tbl, w.before a s = true) : ∀ w ∈ lb_a0 :: se_all, w.before a s = true := by
  intro w hw
  rcases List.mem_cons.mp hw with rfl | h
  · exact hts _ (se_tbl q_ini_StreamEnd)
  · exact hts _ (se_tbl h)
set_option maxRecDepth 100000 in
set_option maxHeartbeats 4000000 in
theorem lb_nest : ∀ w ∈ se_nest, w ∈ lw_tbl := by decide +kernel
set_option maxRecDepth 100000 in
set_option maxHeartbeats 4000000 in
theorem lb_strs : ∀ q ∈ xe_strs, Cond.stringRef RX5 q.1 q.2 ∈ lw_tbl := by decide +kernel
set_option maxRecDepth 100000 in
theorem lb_lay1 : Cond.laysStatic Bundle.tN "UNASSIGNED_STACK" Bundle.steD ∈ lw_tbl := by decide +kernel
set_option maxRecDepth 100000 in
theorem lb_lay2 : Cond.laysStatic Bundle.tN "SUPPRESSED_SENTINEL" Bundle.listD ∈ lw_tbl := by decide +kernel
def lb_sa (s : State) (n : Nat) : Nat := match (Term.string RX5 n).eval #[] s none [] s with
  | some (.ref a) => a
  | _ => 0
theorem lb_Z {b : Nat} {s : State} (hts : ∀ w ∈ lw_tbl, w.before #[Value.ref b] s = true) (hgv : (Jvm.Cond.and given_1 narrow_1).before #[Value.ref b] s = true) : xe_ZH (lb_sa s) (fun q => s.heap.size ≤ q) s := by
  have hf := flat_of_before _ hgv
  have hA : ∀ a : Nat, a < s.heap.size → ¬ (fun q : Nat => s.heap.size ≤ q) a := fun a h => Nat.not_le.mpr h
  obtain ⟨c5, i5, hk5⟩ := u_known (C := RX5) (T := TX5) (N := 12) (n := 12) (lb_hts hts) (se_iw iwX5) (hts _ (se_tbl q_inst_X5))
  refine ⟨fun w hw hn => ?_, fun q hq => ?_, ?_, ?_, ?_, ?_⟩
  · have h3 : w.onTables = true := by cases w <;> first | rfl | (simp [se_isN] at hn; done)
    exact va_Nw.of h3 (hts w (lb_nest w hw))
  · have h1 := hts _ (lb_strs q hq)
    obtain ⟨k, cf, i, a, hk, hcf, hcp, -, hr, hev⟩ := Cond.stringRef_spec hk5.2.1 h1
    have h2 : vk_R RX5 q.1 q.2 a s := vk_R.of h1 hev
    have h4 : lb_sa s q.1 = a := by unfold lb_sa; rw [h2.2]
    rw [h4]
    exact h2
  · exact xe_St.of (hts _ lb_lay1) (hf _ (by decide +kernel)) hA
  · exact xe_St.of (hts _ lb_lay2) (hf _ (by decide +kernel)) hA
  · exact va_Nc.of (hf _ (by decide +kernel))
  · exact va_Nc.of (hf _ (by decide +kernel))
def lb_cell (L : Nat) (xs : Nat → Int32) (k : Int32) : Int32 := if Int32.ofNat L ≤ k then 0 else xs k.toNatClampNeg
theorem lb_cell_in {L : Nat} (hL : L < 2 ^ 31) {k : Int32} (h0 : ¬ k < 0) (c : ¬ Int32.ofNat L ≤ k) : vp_in k L := by
  rw [vp_in_iff]
  have h2 : (Int32.ofNat L).toInt = (L : Int) := nI_toInt (n := L) hL
  rw [Int32.lt_iff_toInt_lt, Int32.toInt_zero] at h0
  rw [Int32.le_iff_toInt_le, h2] at c
  omega
theorem lb_X_c {b L : Nat} {xs : Nat → Int32} {k : Int32} : FrameBlind (va_Pc [.ref b, .int k] (fun U => va_X b L xs U U.heap)) := by
  intro a U g mk q
  obtain ⟨q0, q1⟩ := q
  exact ⟨q0, va_X.moved (u := U) (U := U.calling g mk a) (Vm.Alike.refl U.vm) q1⟩
theorem lb_cellC (l : Launch) {b L : Nat} {xs : Nat → Int32} (hL : L < 2 ^ 31) {k : Int32} (h0 : ¬ k < 0) : Met l yXL_cell (Cond.code yXL_cell cXL_cell 2 (some .int) :: se_all) { frames := 0, cells := 0, slots := 0, locals := 0 } (va_Pc [.ref b, .int k] (fun U => va_X b L xs U U.heap)) (se_Qp (lb_cell L xs k)) 0 0 (fun _ => False) := by
  refine Met.ofW (cc := cXL_cell) (maxL := 2) (ret := some .int) (by decide) rfl ?_
  intro p e s m args below meth c s₁ B hml hv
  obtain ⟨rfl, hX⟩ := hv
  have hbl : b < s.heap.size := by
    obtain ⟨scr, h1, -⟩ := id hX
    exact (Array.getElem?_eq_some_iff.mp h1).1
  have hbA : ¬ (fun _ : Nat => False) b := id
  have hS : va_S (fun _ : Nat => False) s.heap s.heap [] := va_S.rf
  have hl := lv_entry ([.ref b, .int k]) (n := 2) (Nat.le_of_ble_eq_true rfl)
  rw [lg_entry_eq]
  generalize (lg_sl ([.ref b, .int k]) ++ List.replicate (2 - (lg_sl ([.ref b, .int k])).length) Slot.unset).toArray = ls at hl ⊢
  replace hl : lv_has ls 2 [(0, .ref b), (1, .int k)] := hl
  have hx := B.exec
  have hb := B.bytes
  refine lv_iload_n hx hb dXL_cell_0 rfl (lv_at hl 1 rfl) ?_
  refine lv_aload_n hx hb dXL_cell_1 rfl (lv_at hl 0 rfl) ?_
  refine va_slen hx hb hX hbl hbA hS dXL_cell_2 ?_
  refine lv_icmp_ge (tgt := 12) hx hb dXL_cell_3 (by decide) (fun c1 => ?_) (fun c1 => ?_)
  · refine lv_iconst (v := 0) hx hb dXL_cell_12 (by decide) ?_
    exact se_rp hx hb B.returns B.notSynchronized dXL_cell_13 (by rw [lb_cell, if_pos c1])
  · refine lv_aload_n hx hb dXL_cell_6 rfl (lv_at hl 0 rfl) ?_
    refine lv_iload_n hx hb dXL_cell_7 rfl (lv_at hl 1 rfl) ?_
    refine va_sld hx hb hX hbl hbA hS (lb_cell_in hL h0 c1) dXL_cell_8 ?_
    refine lv_goto (tgt := 13) hx hb dXL_cell_9 (by decide) ?_
    exact se_rp hx hb B.returns B.notSynchronized dXL_cell_13 (by rw [lb_cell, if_neg c1])
theorem lb_k0 {c x r : Int32} (h : r = (if c = 0 then 0 else if c = x then 1 else 2)) (h0 : r = 0) : c = 0 := by
  subst h
  by_cases hc : c = 0
  · exact hc
  · rw [if_neg hc] at h0
    by_cases hx : c = x
    · rw [if_pos hx] at h0; exact absurd h0 (by decide)
    · rw [if_neg hx] at h0; exact absurd h0 (by decide)
theorem lb_out {f f1 : Nat → Int64} {c v w : Int32} (hf : f1 = (if c = 0 then vp_updL f 0 (Int32.toInt64 v) else f)) (hc : c = 0) (hv : v = w) : lg_cmp (f1 (0 : Int32).toNatClampNeg) (Int32.toInt64 w) = 0 := by
  rw [lg_cmp_eq, hf, if_pos hc, ← hv]
  rfl

