/-! written by program (wip/gen) -/
section XEE
variable {p : Program} {l : Launch} {e : Env} {R : Room} {s : State} {m : MethodId} {args : Array Value} {below : List Frame} {meth : Method} {c : Code} {H : Heap} {locs : List Loc} {cells slots : Nat} {Q : State → Prop}
variable {pc : Nat} {ls : Array Slot} {rest : List Value} {own E : String} {ce : Cell} {q : Addr}
theorem xe_catch1 {name : String} {x : ExceptionTableEntry} {suf : List ExceptionTableEntry} (hown : s.vm.findClass own = some m.cls) (htab : c.exceptionTable.toList = x :: suf) (hx : covers x pc = true) (h0 : x.catchType ≠ 0)
    (hlink : (Cond.classLink own x.catchType name).before args s = true) (hcast : (Cond.castable E name).before args s = true) (hcell : H[q]? = some ce) (hv : ce.vm = .none) (hcl : s.vm.findClass E = some ce.cls)
    (kk : W p l e R s m args below meth c H locs cells slots Q (F0 m x.handlerPc ls [.ref q])) : xe_W p l e R s m args below meth c H locs cells slots Q (F0 m pc ls rest) q := by
  intro T hT X
  have hpl : e.platform.magicAccessors = ({} : Platform).magicAccessors := by rw [X.admits.platform]
  obtain ⟨c3, c4, hc3, hc4, hasg⟩ := Cond.castable_spec hcast
  cases Option.some.inj (hc3.symm.trans hcl)
  obtain ⟨c5, hc5, hln⟩ := Cond.classLink_spec hown hlink e.platform hpl
  cases Option.some.inj (hc4.symm.trans hc5)
  have hk0 : ∃ k, s.vm.classes[ce.cls]? = some k := by obtain ⟨k9, h9, -⟩ := Vm.findClass_spec hcl; exact ⟨k9, h9⟩
  obtain ⟨vm', hW', hrow⟩ := xe_row (e := e) (S := (T.setTop (F0 m pc ls rest)).pushFrame (.throwing q)) (s₀ := s) (f := F0 m pc ls rest) (a := q) (x := x) (cell := ce) (cT := c4) X.warmed hx h0 hln (by show T.heap[q]? = _; rw [hT]; exact hcell) (fun k h => by rw [hv] at h; cases h) hk0
  obtain ⟨t, a1, b1⟩ := kk (T.setVm vm') hT (X.noted hW')
  refine ⟨t, xe_step (g := F0 m pc ls rest) X.here (pc := x.handlerPc) (vm' := vm') (fun Q9 E9 d acts => ?_) a1, b1⟩
  rw [Jvm.W.findHandler_eq (meth := meth) (code := c) X.method' X.code, htab, hrow, if_pos hasg]
theorem xe_catch2 {name nm : String} {x z : ExceptionTableEntry} {suf : List ExceptionTableEntry} (hown : s.vm.findClass own = some m.cls) (htab : c.exceptionTable.toList = z :: x :: suf) (hz : covers z pc = true) (hz0 : z.catchType ≠ 0)
    (hzl : (Cond.classLink own z.catchType nm).before args s = true) (hno : va_Nc E nm s) (hx : covers x pc = true) (h0 : x.catchType ≠ 0)
    (hlink : (Cond.classLink own x.catchType name).before args s = true) (hcast : (Cond.castable E name).before args s = true) (hcell : H[q]? = some ce) (hv : ce.vm = .none) (hcl : s.vm.findClass E = some ce.cls)
    (kk : W p l e R s m args below meth c H locs cells slots Q (F0 m x.handlerPc ls [.ref q])) : xe_W p l e R s m args below meth c H locs cells slots Q (F0 m pc ls rest) q := by
  intro T hT X
  have hpl : e.platform.magicAccessors = ({} : Platform).magicAccessors := by rw [X.admits.platform]
  obtain ⟨c3, c4, hc3, hc4, hasg⟩ := Cond.castable_spec hcast
  cases Option.some.inj (hc3.symm.trans hcl)
  obtain ⟨c5, hc5, hln⟩ := Cond.classLink_spec hown hlink e.platform hpl
  cases Option.some.inj (hc4.symm.trans hc5)
  obtain ⟨c6, hc6, hlz⟩ := Cond.classLink_spec hown hzl e.platform hpl
  obtain ⟨a8, b8, h1, h2, h3⟩ := hno
  cases Option.some.inj (h1.symm.trans hcl)
  cases Option.some.inj (h2.symm.trans hc6)
  have hk0 : ∃ k, s.vm.classes[ce.cls]? = some k := by obtain ⟨k9, h9, -⟩ := Vm.findClass_spec hcl; exact ⟨k9, h9⟩
  have hne : ∀ k, ce.vm ≠ .statics k := fun k h => by rw [hv] at h; cases h
  obtain ⟨vm1, hW1, hrow1⟩ := xe_row (e := e) (S := (T.setTop (F0 m pc ls rest)).pushFrame (.throwing q)) (s₀ := s) (f := F0 m pc ls rest) (a := q) (x := z) (cell := ce) (cT := c6) X.warmed hz hz0 hlz (by show T.heap[q]? = _; rw [hT]; exact hcell) hne hk0
  obtain ⟨vm', hW', hrow⟩ := xe_row (e := e) (S := ((T.setTop (F0 m pc ls rest)).pushFrame (.throwing q)).setVm vm1) (s₀ := s) (f := F0 m pc ls rest) (a := q) (x := x) (cell := ce) (cT := c4) hW1 hx h0 hln (by show T.heap[q]? = _; rw [hT]; exact hcell) hne hk0
  obtain ⟨t, a1, b1⟩ := kk (T.setVm vm') hT (X.noted hW')
  refine ⟨t, xe_step (g := F0 m pc ls rest) X.here (pc := x.handlerPc) (vm' := vm') (fun Q9 E9 d acts => ?_) a1, b1⟩
  rw [Jvm.W.findHandler_eq (meth := meth) (code := c) X.method' X.code, htab, hrow1, if_neg (by rw [h3]; exact Bool.false_ne_true), hrow, if_pos hasg]
  exact Iff.rfl
variable {cc : ByteArray} {st0 : List Value} {a : Array Value} {A : Nat → Prop} {H0 : Heap} {D : va_G} {cl : List vw_C} {tys : List (ClassId × FieldType)} {wf : se_G → va_W} {wc wr ws : va_W} {val : Int32 × Int32 × se_G}
theorem xe_ci (hr : ∀ T : State, T.heap = H → Stand p l e R s m args below meth c T locs cells slots → xe_Came p l e R s m args below meth c locs cells slots 1 6 (F0 m pc ls st0) rest H (se_Xi D cl tys wf val (va_A wc H.size) a) (xe_X D cl tys wf val (va_A wc H.size)) (va_A wc H.size) (T.setTop (F0 m pc ls st0)))
    (hP : va_P D cl ws H) (hD : va_D A ws) (hS : va_S A H0 H locs) (hA : ∀ q : Nat, H0.size ≤ q → A q) (isC isR : List Nat) (hC : isC.map (fun i => ws[i]?) = wc.map some) (hR : isR.map (fun i => ws[i]?) = wr.map some) (hn : va_nd isR = true) (hdis : ∀ i ∈ isR, i ∉ isC)
    (kx : ∀ (E : String) (q : Addr) (ce : Cell) (u : se_G) (H1 : Heap) (locs1 : List Loc), (se_x E, (0 : Int32), u) = val → va_P D cl (wr ++ wf u) H1 → va_D A (wr ++ wf u) → va_S A H0 H1 locs1 → H1[q]? = some ce → ce.vm = .none → s.vm.findClass E = some ce.cls → xe_W p l e R s m args below meth c H1 locs1 (cells + 1) (slots + 6) Q (F0 m pc ls rest) q)
    (kk : ∀ (r : Int32) (u : se_G) (H1 : Heap) (locs1 : List Loc), ((0 : Int32), r, u) = val → va_P D cl (wr ++ wf u) H1 → va_D A (wr ++ wf u) → va_S A H0 H1 locs1 → W p l e R s m args below meth c H1 locs1 (cells + 1) (slots + 6) Q (F0 m (pc + 3) ls (.int r :: rest))) :
    W p l e R s m args below meth c H locs cells slots Q (F0 m pc ls st0) := by
  have hF := va_free hD hS hA isC hC
  intro T hT X
  have keep : ∀ {st₀ t T' : State} {L : List Loc}, st₀.heap = H → T'.heap = t.heap → (∀ q ∈ L, va_A wc H.size q.base) → va_F (va_A wc H.size) st₀ t → (∀ q : Nat, q < H.size → ¬ va_A wc H.size q → T'.heap[q]? = H[q]?) ∧ va_S A H0 T'.heap (locs ++ L) := by
    intro st₀ t T' L h0 e1 hL ⟨hz, hk⟩
    rw [h0] at hz hk
    refine ⟨fun q h1 h2 => by rw [e1]; exact hk q h1 h2, Nat.le_trans hS.1 (by rw [e1]; exact hz), fun q h1 h2 => ?_, fun q hq => ?_⟩
    · rw [e1, hk q (Nat.lt_of_lt_of_le h1 hS.1) (fun z => h2 (hF q z))]
      exact hS.2.1 q h1 h2
    · rcases List.mem_append.mp hq with h | h
      · exact hS.2.2 q h
      · exact hF _ (hL q h)
  rcases hr T hT X with ⟨v, st₀, t, T', L, h0, X', hL, e1, e2, ⟨⟨r, u, hv, hp, hB⟩, hFr⟩, st⟩ | ⟨q, st₀, t, T', L, E, ce, h0, X', hL, e1, e2, ⟨u, hp, hB, hFr⟩, hce, hcv, hcl, st⟩
  · cases hv
    obtain ⟨k1, k2⟩ := keep h0 e1 hL hFr
    obtain ⟨hP1, hK1, hD1⟩ := hB
    rw [← e1] at hP1
    obtain ⟨j1, j2⟩ := va_join (wr := wr) (w1 := wf u) hP hD isC isR hC hR hn hdis k1 hF hP1 hD1
    obtain ⟨t2, a1, b1⟩ := kk r u T'.heap (locs ++ L) hp j1 j2 k2 T' rfl X'
    exact ⟨t2, st t2 a1, b1⟩
  · obtain ⟨k1, k2⟩ := keep h0 e1 hL hFr
    obtain ⟨hP1, hK1, hD1⟩ := hB
    rw [← e1] at hP1 hce
    obtain ⟨j1, j2⟩ := va_join (wr := wr) (w1 := wf u) hP hD isC isR hC hR hn hdis k1 hF hP1 hD1
    obtain ⟨t2, a1, b1⟩ := kx E q ce u T'.heap (locs ++ L) hp j1 j2 k2 hce hcv hcl T' rfl X'
    exact ⟨t2, st t2 a1, b1⟩
theorem xe_cv (hr : ∀ T : State, T.heap = H → Stand p l e R s m args below meth c T locs cells slots → xe_Came p l e R s m args below meth c locs cells slots 1 6 (F0 m pc ls st0) rest H (se_Xv D cl tys wf val (va_A wc H.size) a) (xe_X D cl tys wf val (va_A wc H.size)) (va_A wc H.size) (T.setTop (F0 m pc ls st0)))
    (hP : va_P D cl ws H) (hD : va_D A ws) (hS : va_S A H0 H locs) (hA : ∀ q : Nat, H0.size ≤ q → A q) (isC isR : List Nat) (hC : isC.map (fun i => ws[i]?) = wc.map some) (hR : isR.map (fun i => ws[i]?) = wr.map some) (hn : va_nd isR = true) (hdis : ∀ i ∈ isR, i ∉ isC)
    (kx : ∀ (E : String) (q : Addr) (ce : Cell) (u : se_G) (H1 : Heap) (locs1 : List Loc), (se_x E, (0 : Int32), u) = val → va_P D cl (wr ++ wf u) H1 → va_D A (wr ++ wf u) → va_S A H0 H1 locs1 → H1[q]? = some ce → ce.vm = .none → s.vm.findClass E = some ce.cls → xe_W p l e R s m args below meth c H1 locs1 (cells + 1) (slots + 6) Q (F0 m pc ls rest) q)
    (kk : ∀ (u : se_G) (H1 : Heap) (locs1 : List Loc), ((0 : Int32), (0 : Int32), u) = val → va_P D cl (wr ++ wf u) H1 → va_D A (wr ++ wf u) → va_S A H0 H1 locs1 → W p l e R s m args below meth c H1 locs1 (cells + 1) (slots + 6) Q (F0 m (pc + 3) ls rest)) :
    W p l e R s m args below meth c H locs cells slots Q (F0 m pc ls st0) := by
  have hF := va_free hD hS hA isC hC
  intro T hT X
  have keep : ∀ {st₀ t T' : State} {L : List Loc}, st₀.heap = H → T'.heap = t.heap → (∀ q ∈ L, va_A wc H.size q.base) → va_F (va_A wc H.size) st₀ t → (∀ q : Nat, q < H.size → ¬ va_A wc H.size q → T'.heap[q]? = H[q]?) ∧ va_S A H0 T'.heap (locs ++ L) := by
    intro st₀ t T' L h0 e1 hL ⟨hz, hk⟩
    rw [h0] at hz hk
    refine ⟨fun q h1 h2 => by rw [e1]; exact hk q h1 h2, Nat.le_trans hS.1 (by rw [e1]; exact hz), fun q h1 h2 => ?_, fun q hq => ?_⟩
    · rw [e1, hk q (Nat.lt_of_lt_of_le h1 hS.1) (fun z => h2 (hF q z))]
      exact hS.2.1 q h1 h2
    · rcases List.mem_append.mp hq with h | h
      · exact hS.2.2 q h
      · exact hF _ (hL q h)
  rcases hr T hT X with ⟨v, st₀, t, T', L, h0, X', hL, e1, e2, ⟨⟨u, hv, hp, hB⟩, hFr⟩, st⟩ | ⟨q, st₀, t, T', L, E, ce, h0, X', hL, e1, e2, ⟨u, hp, hB, hFr⟩, hce, hcv, hcl, st⟩
  · cases hv
    obtain ⟨k1, k2⟩ := keep h0 e1 hL hFr
    obtain ⟨hP1, hK1, hD1⟩ := hB
    rw [← e1] at hP1
    obtain ⟨j1, j2⟩ := va_join (wr := wr) (w1 := wf u) hP hD isC isR hC hR hn hdis k1 hF hP1 hD1
    obtain ⟨t2, a1, b1⟩ := kk u T'.heap (locs ++ L) hp j1 j2 k2 T' rfl X'
    exact ⟨t2, st t2 a1, b1⟩
  · obtain ⟨k1, k2⟩ := keep h0 e1 hL hFr
    obtain ⟨hP1, hK1, hD1⟩ := hB
    rw [← e1] at hP1 hce
    obtain ⟨j1, j2⟩ := va_join (wr := wr) (w1 := wf u) hP hD isC isR hC hR hn hdis k1 hF hP1 hD1
    obtain ⟨t2, a1, b1⟩ := kx E q ce u T'.heap (locs ++ L) hp j1 j2 k2 hce hcv hcl T' rfl X'
    exact ⟨t2, st t2 a1, b1⟩
end XEE

