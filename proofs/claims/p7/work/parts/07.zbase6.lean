/-! written by program (wip/gen) -/
def xe_St (n d : String) (A : Nat → Prop) (U : State) (H : Heap) : Prop :=
  ∃ (c : ClassId) (k : Class) (i : Nat) (f : Field) (a : Nat) (cell : Cell) (v : Value), U.vm.findClass Bundle.tN = some c ∧ U.fieldFound? Bundle.tN n d = some (c, k, i, f) ∧ f.isStatic = true ∧ k.statics = some a ∧ H[a]? = some cell ∧ cell.vm.isStatics = true ∧ cell.cls = c ∧ f.slot < cell.slots.size ∧ k.staticTypes[f.slot]? = some f.type ∧ cell.slots[f.slot]? = some v ∧ (v = .null ∨ ∃ t, v = .ref t) ∧ ¬ A a
theorem xe_St.go {n d : String} {A B : Nat → Prop} {u U : State} {H H1 : Heap} (h : xe_St n d A u H) (hvm : u.vm.Alike U.vm) (hq : ∀ a : Nat, a < H.size → ¬ A a → H1[a]? = H[a]?) (hAB : ∀ q, q < H.size → B q → A q) : xe_St n d B U H1 := by
  obtain ⟨c, k, i, f, a, cell, v, h1, h2, h3, h4, h5, h6, h7, h8, h9, h10, h11, h12⟩ := h
  obtain ⟨k', hi', he⟩ := State.fieldFound?_setVm hvm h2
  have hlt := (Array.getElem?_eq_some_iff.mp h5).1
  exact ⟨c, k', i, f, a, cell, v, by rw [hvm.findClass]; exact h1, hi', h3, by rw [he]; exact h4, by rw [hq a hlt h12]; exact h5, h6, h7, h8, by rw [he]; exact h9, h10, h11, fun z => h12 (hAB _ hlt z)⟩
theorem xe_St.lays {n d : String} {A : Nat → Prop} {s : State} (h : xe_St n d A s s.heap) : (Cond.laysStatic Bundle.tN n d).before #[] s = true := by
  obtain ⟨c, k, i, f, a, cell, v, h1, h2, h3, h4, h5, h6, h7, h8, h9, -⟩ := h
  simp [Cond.before, Cond.holds, Cond.value, h1, h2, h3, h4, h5, h6, h7, h8, h9]
theorem xe_St.ref {n d : String} {A : Nat → Prop} {s : State} (h : xe_St n d A s s.heap) : (Cond.isRef (.static Bundle.tN n d)).before #[] s = true := by
  obtain ⟨c, k, i, f, a, cell, v, h1, h2, h3, h4, h5, h6, h7, h8, h9, h10, h11, -⟩ := h
  have he : (Term.static Bundle.tN n d).eval #[] s none [] s = some v := by simp [Term.eval, State.fieldNamed?, h2, h3, h4, h5, h6, h10]
  simp only [Cond.before, Cond.holds, Cond.value, he]
  rcases h11 with e | ⟨x, e⟩ <;> simp [e]
theorem xe_St.of {args : Array Value} {s : State} {n d : String} {A : Nat → Prop} (hl : (Cond.laysStatic Bundle.tN n d).before args s = true) (hr : (Cond.isRef (.static Bundle.tN n d)).before args s = true) (hA : ∀ a : Nat, a < s.heap.size → ¬ A a) : xe_St n d A s s.heap := by
  obtain ⟨c, k, i, f, a, cell, h1, h2, h3, h4, h5, h6, h7, h8, h9⟩ := Cond.laysStatic_spec hl
  have hv : cell.slots[f.slot]? = some cell.slots[f.slot] := Array.getElem?_eq_getElem h8
  have he : (Term.static Bundle.tN n d).eval args s none [] s = some cell.slots[f.slot] := by simp [Term.eval, State.fieldNamed?, h2, h3, h4, h5, h6, hv]
  refine ⟨c, k, i, f, a, cell, cell.slots[f.slot], h1, h2, h3, h4, h5, h6, h7, h8, h9, hv, ?_, hA a (Array.getElem?_eq_some_iff.mp h5).1⟩
  simp only [Cond.before, Cond.holds, Cond.value, he] at hr
  cases hw : cell.slots[f.slot] with
  | null => exact Or.inl rfl
  | ref t => exact Or.inr ⟨t, rfl⟩
  | _ => rw [hw] at hr; simp at hr
theorem xe_metW {l : Launch} {y : MethodName} {ws ws' : List Cond} {rm : Room} {Qc : (Nat → Prop) → Array Value → State → Outcome → State → Prop} {mc ms : Nat} {cc : ByteArray} {maxL : Nat} {ret : Option FieldType} {hh : List (Nat × Nat × Nat × Nat)} {av : List Value} {D : va_G} {cl : List vw_C} {tys : List (ClassId × FieldType)} {w : va_W} {Z : (Nat → Prop) → State → Prop} {sz : Nat}
    (hy : plainName y.cls = true) (hw : ws = Cond.codeWith y cc maxL ret hh :: ws') (hlen : (lg_sl av).length ≤ maxL)
    (body : ∀ (p : Program) (e : Env) (s : State) (m : MethodId) (below : List Frame) (meth : Method) (c : Code) (ls : Array Slot) (A : Nat → Prop),
      p.tables.exec = Jvm.exec → c.code = cc → meth.sig.returnType = ret → (∀ w ∈ ws, w.before av.toArray s = true) → s.vm.findClass y.cls = some m.cls → meth.locks = false → c.maxLocals = maxL → c.exceptionTable.toList = tableOf hh →
      (∀ q : Nat, s.heap.size ≤ q → A q) → va_P D cl w s.heap → va_K D cl tys s → va_D A w → va_S A s.heap s.heap [] → Z A s → lv_has ls maxL (lv_args 0 av) →
      W p l e rm s m av.toArray below meth c s.heap [] 0 0 (MQ below (Qc A) av.toArray s mc ms A) (F0 m 0 ls [])) :
    Met l y ws rm (va_Pc av (se_Pre D cl tys w (Z (va_A w sz)) sz)) (Qc (va_A w sz)) mc ms (va_A w sz) := by
  refine va_MetW (cc := cc) (maxL := maxL) (ret := ret) (hh := hh) hy hw ?_
  intro p e s m args below meth c s₁ B hml hv
  have hts := atoms_spec (ws := ws) B.pre
  have htab : c.exceptionTable.toList = tableOf hh := by
    obtain ⟨m9, meth9, c9, hn9, h1, h2, -, -, h6, -⟩ := Cond.codeWith_spec (hts _ (by rw [hw]; exact List.mem_cons_self))
    cases Option.some.inj (hn9.symm.trans B.named)
    cases Option.some.inj (h1.symm.trans B.method)
    cases Option.some.inj (h2.symm.trans (Stand.of_body B).code)
    rw [← h6, table_eq]
  obtain ⟨rfl, hsz, hP, hK, hD0, hZ⟩ := hv
  subst hsz
  have hl := lv_entry av (n := maxL) hlen
  rw [lg_entry_eq]
  exact body p e s m below meth c _ (va_A w s.heap.size) B.exec B.bytes B.returns hts (findClass_of_methodNamed B.named) B.notSynchronized hml htab (fun q h => Or.inr h) hP hK hD0.self va_S.rf hZ hl
theorem xe_blind {av : List Value} {D : va_G} {cl : List vw_C} {tys : List (ClassId × FieldType)} {w : va_W} {Z : State → Prop} {sz : Nat} (hZ : ∀ (U : State) (g : JFrame) (mk : MethodId) (a : Array Value), Z U → Z (U.calling g mk a)) : FrameBlind (va_Pc av (se_Pre D cl tys w Z sz)) := by
  intro a U g mk q
  obtain ⟨q0, q1, qP, qK, qD, qZ⟩ := q
  exact ⟨q0, q1, qP, va_K.moved (u := U) (U := U.calling g mk a) (Vm.Alike.refl U.vm) qK, qD, hZ U g mk a qZ⟩
theorem xe_pre {s : State} {H : Heap} {A : Nat → Prop} {av : List Value} {D : va_G} {cl : List vw_C} {tys : List (ClassId × FieldType)} {w : va_W} {Z : State → Prop} (hP : va_P D cl w H) (hK : va_K D cl tys s) (hD : va_D A w) (hz : ∀ U : State, U.heap = H → s.WarmedH U.vm → Z U) : ∀ U : State, U.heap = H → s.WarmedH U.vm → va_Pc av (se_Pre D cl tys w Z H.size) av.toArray U :=
  fun U hU hW => ⟨rfl, by rw [hU], by rw [hU]; exact hP, va_K.moved hW.alike hK, hD.weaken (fun _ _ _ _ => trivial), hz U hU hW⟩
theorem se_x1of {E : String} (h : se_x E = 1) : E = "java/lang/IllegalArgumentException" := by
  unfold se_x at h
  by_cases h1 : E = "java/lang/IllegalArgumentException"
  · exact h1
  · rw [if_neg h1] at h
    by_cases h2 : E = "java/lang/IllegalStateException"
    · rw [if_pos h2] at h; exact absurd h (by decide)
    · rw [if_neg h2] at h
      by_cases h3 : E = "java/lang/IndexOutOfBoundsException"
      · rw [if_pos h3] at h; exact absurd h (by decide)
      · rw [if_neg h3] at h; exact absurd h (by decide)
theorem se_x2of {E : String} (h : se_x E = 2) : E = "java/lang/IllegalStateException" := by
  unfold se_x at h
  by_cases h1 : E = "java/lang/IllegalArgumentException"
  · rw [if_pos h1] at h; exact absurd h (by decide)
  · rw [if_neg h1] at h
    by_cases h2 : E = "java/lang/IllegalStateException"
    · exact h2
    · rw [if_neg h2] at h
      by_cases h3 : E = "java/lang/IndexOutOfBoundsException"
      · rw [if_pos h3] at h; exact absurd h (by decide)
      · rw [if_neg h3] at h; exact absurd h (by decide)
theorem se_x3of {E : String} (h : se_x E = 3) : E = "java/lang/IndexOutOfBoundsException" := by
  unfold se_x at h
  by_cases h1 : E = "java/lang/IllegalArgumentException"
  · rw [if_pos h1] at h; exact absurd h (by decide)
  · rw [if_neg h1] at h
    by_cases h2 : E = "java/lang/IllegalStateException"
    · rw [if_pos h2] at h; exact absurd h (by decide)
    · rw [if_neg h2] at h
      by_cases h3 : E = "java/lang/IndexOutOfBoundsException"
      · exact h3
      · rw [if_neg h3] at h; exact absurd h (by decide)

