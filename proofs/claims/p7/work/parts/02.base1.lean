/-! written by program (wip/gen) -/
abbrev se_G : Type := Nat → Nat → Int32
def se_u (g : se_G) (i j : Nat) (v : Int32) : se_G := fun a => if a = i then upd (g i) j v else g a
def se_Pre (D : va_G) (cl : List vw_C) (tys : List (ClassId × FieldType)) (w : va_W) (Z : State → Prop) (sz : Nat) (U : State) : Prop := U.heap.size = sz ∧ va_P D cl w U.heap ∧ va_K D cl tys U ∧ va_D (fun _ => True) w ∧ Z U
def se_At (D : va_G) (cl : List vw_C) (tys : List (ClassId × FieldType)) (wf : se_G → va_W) (A : Nat → Prop) (u : se_G) (t : State) : Prop := va_P D cl (wf u) t.heap ∧ va_K D cl tys t ∧ va_D A (wf u)
def se_Qv (D : va_G) (cl : List vw_C) (tys : List (ClassId × FieldType)) (wf : se_G → va_W) (val : se_G) (A : Nat → Prop) : Array Value → State → Outcome → State → Prop := va_Qv (fun u : se_G => u = val) (se_At D cl tys wf A) A
def se_Qi (D : va_G) (cl : List vw_C) (tys : List (ClassId × FieldType)) (wf : se_G → va_W) (val : Int32 × se_G) (A : Nat → Prop) : Array Value → State → Outcome → State → Prop := va_Qi (fun (r : Int32) (u : se_G) => (r, u) = val) (se_At D cl tys wf A) A
def se_Qp (r0 : Int32) : Array Value → State → Outcome → State → Prop := fun _ st o t => o = .returned (some (.int r0)) ∧ t.heap = st.heap
def se_Zok (Z : State → Prop) : Prop := (∀ (U : State) (g : JFrame) (mk : MethodId) (a : Array Value), Z U → Z (U.calling g mk a)) ∧ ∀ s U : State, s.WarmedH U.vm → Z s → Z U
def se_isN (w : Cond) : Bool := match w with
  | .fieldLinkNest _ _ _ _ _ _ => true
  | .methodLinkNest _ _ _ _ => true
  | .castable _ _ => true
  | .declares _ => true
  | _ => false
def se_N (L : List Cond) (U : State) : Prop := ∀ w ∈ L, se_isN w = true → va_Nw w U
theorem se_N_ok (L : List Cond) : se_Zok (se_N L) := by
  refine ⟨fun U g mk a h w hw hn => ?_, fun s U hW h w hw hn => ?_⟩
  · have h1 := h w hw hn
    cases w <;> first | exact va_Nw.same rfl rfl h1 | (simp [se_isN] at hn; done)
  · have h1 := h w hw hn
    cases w <;> first | exact va_Nw.warmF hW h1 | exact va_Nw.warmM hW h1 | exact va_Nw.warmC hW h1 | exact va_Nw.warmD hW h1 | (simp [se_isN] at hn; done)
theorem se_blind {av : List Value} {D : va_G} {cl : List vw_C} {tys : List (ClassId × FieldType)} {w : va_W} {Z : State → Prop} {sz : Nat} (hZ : se_Zok Z) : FrameBlind (va_Pc av (se_Pre D cl tys w Z sz)) := by
  intro a U g mk q
  obtain ⟨q0, q1, qP, qK, qD, qZ⟩ := q
  exact ⟨q0, q1, qP, va_K.moved (u := U) (U := U.calling g mk a) (Vm.Alike.refl U.vm) qK, qD, hZ.1 U g mk a qZ⟩
theorem se_pre {s : State} {H : Heap} {A : Nat → Prop} {av : List Value} {D : va_G} {cl : List vw_C} {tys : List (ClassId × FieldType)} {w : va_W} {Z : State → Prop} (hZ : se_Zok Z) (hP : va_P D cl w H) (hK : va_K D cl tys s) (hD : va_D A w) (hz : Z s) : ∀ U : State, U.heap = H → s.WarmedH U.vm → va_Pc av (se_Pre D cl tys w Z H.size) av.toArray U :=
  fun U hU hW => ⟨rfl, by rw [hU], by rw [hU]; exact hP, va_K.moved hW.alike hK, hD.weaken (fun _ _ _ _ => trivial), hZ.2 s U hW hz⟩
theorem se_met {l : Launch} {y : MethodName} {ws ws' : List Cond} {rm : Room} {Qc : (Nat → Prop) → Array Value → State → Outcome → State → Prop} {mc ms : Nat} {cc : ByteArray} {maxL : Nat} {ret : Option FieldType} {av : List Value} {D : va_G} {cl : List vw_C} {tys : List (ClassId × FieldType)} {w : va_W} {Z : State → Prop} {sz : Nat}
    (hy : plainName y.cls = true) (hw : ws = Cond.code y cc maxL ret :: ws') (hlen : (lg_sl av).length ≤ maxL)
    (body : ∀ (p : Program) (e : Env) (s : State) (m : MethodId) (below : List Frame) (meth : Method) (c : Code) (ls : Array Slot) (A : Nat → Prop),
      p.tables.exec = Jvm.exec → c.code = cc → meth.sig.returnType = ret → (∀ w ∈ ws, w.before av.toArray s = true) → s.vm.findClass y.cls = some m.cls → meth.locks = false → c.maxLocals = maxL →
      (∀ q : Nat, s.heap.size ≤ q → A q) → va_P D cl w s.heap → va_K D cl tys s → va_D A w → va_S A s.heap s.heap [] → Z s → lv_has ls maxL (lv_args 0 av) →
      W p l e rm s m av.toArray below meth c s.heap [] 0 0 (MQ below (Qc A) av.toArray s mc ms A) (F0 m 0 ls [])) :
    Met l y ws rm (va_Pc av (se_Pre D cl tys w Z sz)) (Qc (va_A w sz)) mc ms (va_A w sz) := by
  refine Met.ofW (cc := cc) (maxL := maxL) (ret := ret) hy hw ?_
  intro p e s m args below meth c s₁ B hml hv
  obtain ⟨rfl, hsz, hP, hK, hD0, hZ⟩ := hv
  subst hsz
  have hl := lv_entry av (n := maxL) hlen
  rw [lg_entry_eq]
  exact body p e s m below meth c _ (va_A w s.heap.size) B.exec B.bytes B.returns (atoms_spec (ws := ws) B.pre) (findClass_of_methodNamed B.named) B.notSynchronized hml (fun q h => Or.inr h) hP hK hD0.self va_S.rf hZ hl
theorem se_metP {l : Launch} {y : MethodName} {ws ws' : List Cond} {rm : Room} {r0 : Int32} {cc : ByteArray} {maxL : Nat} {ret : Option FieldType} {av : List Value} {D : va_G} {cl : List vw_C} {tys : List (ClassId × FieldType)} {w : va_W} {Z : State → Prop} {sz : Nat}
    (hy : plainName y.cls = true) (hw : ws = Cond.code y cc maxL ret :: ws') (hlen : (lg_sl av).length ≤ maxL)
    (body : ∀ (p : Program) (e : Env) (s : State) (m : MethodId) (below : List Frame) (meth : Method) (c : Code) (ls : Array Slot) (A : Nat → Prop),
      p.tables.exec = Jvm.exec → c.code = cc → meth.sig.returnType = ret → (∀ w ∈ ws, w.before av.toArray s = true) → s.vm.findClass y.cls = some m.cls → meth.locks = false → c.maxLocals = maxL →
      (∀ q : Nat, s.heap.size ≤ q → A q) → va_P D cl w s.heap → va_K D cl tys s → va_D A w → va_S A s.heap s.heap [] → Z s → lv_has ls maxL (lv_args 0 av) →
      W p l e rm s m av.toArray below meth c s.heap [] 0 0 (MQ below (se_Qp r0) av.toArray s 0 0 (fun _ => False)) (F0 m 0 ls [])) :
    Met l y ws rm (va_Pc av (se_Pre D cl tys w Z sz)) (se_Qp r0) 0 0 (fun _ => False) := by
  refine Met.ofW (cc := cc) (maxL := maxL) (ret := ret) hy hw ?_
  intro p e s m args below meth c s₁ B hml hv
  obtain ⟨rfl, hsz, hP, hK, hD0, hZ⟩ := hv
  subst hsz
  have hl := lv_entry av (n := maxL) hlen
  rw [lg_entry_eq]
  exact body p e s m below meth c _ (va_A w s.heap.size) B.exec B.bytes B.returns (atoms_spec (ws := ws) B.pre) (findClass_of_methodNamed B.named) B.notSynchronized hml (fun q h => Or.inr h) hP hK hD0.self va_S.rf hZ hl
section SEA
variable {p : Program} {l : Launch} {e : Env} {R : Room} {s : State} {m : MethodId} {args : Array Value} {below : List Frame} {meth : Method} {c : Code} {H : Heap} {locs : List Loc} {cells slots : Nat} {Q : State → Prop}
variable {cc : ByteArray} {pc : Nat} {ls : Array Slot} {rest st0 : List Value} {a : Array Value} {A : Nat → Prop} {H0 : Heap} {D : va_G} {cl : List vw_C} {tys : List (ClassId × FieldType)} {w : va_W} {wf : se_G → va_W}
theorem se_fr (hD : va_D A w) (hS : va_S A H0 H locs) (hA : ∀ q : Nat, H0.size ≤ q → A q) : ∀ q, va_A w H.size q → A q := by
  intro q h
  rcases h with ⟨k, e, h⟩ | h
  · exact hD.2 k (q, e) h
  · exact hA q (Nat.le_trans hS.1 h)
theorem se_cv {val : se_G} (hr : va_Run p l e R s m args below meth c H locs cells slots 0 0 (F0 m pc ls st0) rest (se_Qv D cl tys wf val (va_A w H.size) a) (va_A w H.size)) (hD : va_D A w) (hS : va_S A H0 H locs) (hA : ∀ q : Nat, H0.size ≤ q → A q)
    (kk : ∀ (H1 : Heap) (locs1 : List Loc), va_P D cl (wf val) H1 → va_D A (wf val) → va_S A H0 H1 locs1 → W p l e R s m args below meth c H1 locs1 cells slots Q (F0 m (pc + 3) ls rest)) : W p l e R s m args below meth c H locs cells slots Q (F0 m pc ls st0) := by
  have hF := se_fr hD hS hA
  refine va_callv hr hS (fun q _ h => hF q h) hF (fun u t H1 locs1 ht hvm hp hB hz hk hS1 => ?_)
  subst hp
  obtain ⟨hP1, hK1, hD1⟩ := hB
  rw [ht] at hP1
  exact kk H1 locs1 hP1 (hD1.weaken (fun _ _ _ h => hF _ h)) hS1
theorem se_cvE {val : se_G} (hr : va_Run p l e R s m args below meth c H locs cells slots 0 0 (F0 m pc ls st0) rest (se_Qv D cl tys wf val (va_A w H.size) a) (va_A w H.size)) (hD : va_D A w) (hS : va_S A H0 H locs) (hA : ∀ q : Nat, H0.size ≤ q → A q)
    (kk : ∀ (u : se_G) (H1 : Heap) (locs1 : List Loc), u = val → va_P D cl (wf u) H1 → va_D A (wf u) → va_S A H0 H1 locs1 → W p l e R s m args below meth c H1 locs1 cells slots Q (F0 m (pc + 3) ls rest)) : W p l e R s m args below meth c H locs cells slots Q (F0 m pc ls st0) :=
  se_cv hr hD hS hA (fun H1 l1 q1 q2 q3 => kk val H1 l1 rfl q1 q2 q3)
theorem se_ci {val : Int32 × se_G} (hr : va_Run p l e R s m args below meth c H locs cells slots 0 0 (F0 m pc ls st0) rest (se_Qi D cl tys wf val (va_A w H.size) a) (va_A w H.size)) (hD : va_D A w) (hS : va_S A H0 H locs) (hA : ∀ q : Nat, H0.size ≤ q → A q)
    (kk : ∀ (H1 : Heap) (locs1 : List Loc), va_P D cl (wf val.2) H1 → va_D A (wf val.2) → va_S A H0 H1 locs1 → W p l e R s m args below meth c H1 locs1 cells slots Q (F0 m (pc + 3) ls (.int val.1 :: rest))) : W p l e R s m args below meth c H locs cells slots Q (F0 m pc ls st0) := by
  have hF := se_fr hD hS hA
  refine va_calli hr hS (fun q _ h => hF q h) hF (fun r u t H1 locs1 ht hvm hp hB hz hk hS1 => ?_)
  subst hp
  obtain ⟨hP1, hK1, hD1⟩ := hB
  rw [ht] at hP1
  exact kk H1 locs1 hP1 (hD1.weaken (fun _ _ _ h => hF _ h)) hS1
theorem se_ciE {val : Int32 × se_G} (hr : va_Run p l e R s m args below meth c H locs cells slots 0 0 (F0 m pc ls st0) rest (se_Qi D cl tys wf val (va_A w H.size) a) (va_A w H.size)) (hD : va_D A w) (hS : va_S A H0 H locs) (hA : ∀ q : Nat, H0.size ≤ q → A q)
    (kk : ∀ (r : Int32) (u : se_G) (H1 : Heap) (locs1 : List Loc), (r, u) = val → va_P D cl (wf u) H1 → va_D A (wf u) → va_S A H0 H1 locs1 → W p l e R s m args below meth c H1 locs1 cells slots Q (F0 m (pc + 3) ls (.int r :: rest))) : W p l e R s m args below meth c H locs cells slots Q (F0 m pc ls st0) :=
  se_ci hr hD hS hA (fun H1 l1 q1 q2 q3 => kk val.1 val.2 H1 l1 rfl q1 q2 q3)
theorem se_cp {r0 : Int32} (hr : va_Run p l e R s m args below meth c H locs cells slots 0 0 (F0 m pc ls st0) rest (se_Qp r0 a) (fun _ => False)) (kk : W p l e R s m args below meth c H locs cells slots Q (F0 m (pc + 3) ls (.int r0 :: rest))) : W p l e R s m args below meth c H locs cells slots Q (F0 m pc ls st0) := by
  intro T hT X
  obtain ⟨v, st₀, t, T', L, h0, X', hL, e1, e2, ⟨hv, hh⟩, st⟩ := hr T hT X
  cases hv
  have hL0 : L = [] := List.eq_nil_iff_forall_not_mem.mpr (fun q hq => hL q hq)
  subst hL0
  rw [List.append_nil] at X'
  obtain ⟨t2, a1, b1⟩ := kk T' (by rw [e1, hh, h0]) X'
  exact ⟨t2, st t2 a1, b1⟩
theorem se_rv {u val : se_G} (hx : p.tables.exec = Jvm.exec) (hb : c.code = cc) (hr : meth.sig.returnType = none) (hlocks : meth.locks = false) (hK : va_K D cl tys s) (hP : va_P D cl (wf u) H) (hD : va_D A (wf u)) (hS : va_S A s.heap H locs) (hdg : decode cc pc = .ok (.return_, 1)) (he : u = val) :
    W p l e R s m args below meth c H locs cells slots (MQ below (se_Qv D cl tys wf val A) args s cells slots A) (F0 m pc ls []) :=
  W.vret hx hb hr (fun t ht hW => ⟨⟨u, rfl, he, by rw [ht]; exact hP, va_K.moved hW.alike hK, hD⟩, hS.F ht⟩) hS.2.2 hdg hlocks
theorem se_ri {r : Int32} {u : se_G} {val : Int32 × se_G} (hx : p.tables.exec = Jvm.exec) (hb : c.code = cc) (hr : meth.sig.returnType = some .int) (hlocks : meth.locks = false) (hK : va_K D cl tys s) (hP : va_P D cl (wf u) H) (hD : va_D A (wf u)) (hS : va_S A s.heap H locs) (hdg : decode cc pc = .ok (.ireturn, 1)) (he : (r, u) = val) :
    W p l e R s m args below meth c H locs cells slots (MQ below (se_Qi D cl tys wf val A) args s cells slots A) (F0 m pc ls [.int r]) :=
  W.iret hx hb hr (fun t ht hW => ⟨⟨r, u, rfl, he, by rw [ht]; exact hP, va_K.moved hW.alike hK, hD⟩, hS.F ht⟩) hS.2.2 hdg hlocks
theorem se_riz {ty : FieldType} {r : Int32} {u : se_G} {val : Int32 × se_G} (hx : p.tables.exec = Jvm.exec) (hb : c.code = cc) (hr : meth.sig.returnType = some ty) (hn : narrow ty (.int r) = .int r) (hlocks : meth.locks = false) (hK : va_K D cl tys s) (hP : va_P D cl (wf u) H) (hD : va_D A (wf u)) (hS : va_S A s.heap H locs) (hdg : decode cc pc = .ok (.ireturn, 1)) (he : (r, u) = val) :
    W p l e R s m args below meth c H locs cells slots (MQ below (se_Qi D cl tys wf val A) args s cells slots A) (F0 m pc ls [.int r]) :=
  W.zret hx hb hr hn (fun t ht hW => ⟨⟨r, u, rfl, he, by rw [ht]; exact hP, va_K.moved hW.alike hK, hD⟩, hS.F ht⟩) hS.2.2 hdg hlocks
theorem se_rp {r r0 : Int32} (hx : p.tables.exec = Jvm.exec) (hb : c.code = cc) (hr : meth.sig.returnType = some .int) (hlocks : meth.locks = false) (hdg : decode cc pc = .ok (.ireturn, 1)) (he : r = r0) :
    W p l e R s m args below meth c s.heap [] cells slots (MQ below (se_Qp r0) args s cells slots (fun _ => False)) (F0 m pc ls [.int r]) :=
  W.iret hx hb hr (fun t ht _ => ⟨by rw [he], ht⟩) (fun _ h => by cases h) hdg hlocks
theorem se_rpz {ty : FieldType} {r r0 : Int32} (hx : p.tables.exec = Jvm.exec) (hb : c.code = cc) (hr : meth.sig.returnType = some ty) (hn : narrow ty (.int r) = .int r) (hlocks : meth.locks = false) (hdg : decode cc pc = .ok (.ireturn, 1)) (he : r = r0) :
    W p l e R s m args below meth c s.heap [] cells slots (MQ below (se_Qp r0) args s cells slots (fun _ => False)) (F0 m pc ls [.int r]) :=
  W.zret hx hb hr hn (fun t ht _ => ⟨by rw [he], ht⟩) (fun _ h => by cases h) hdg hlocks
theorem se_join {v : Int32} {pcJ : Nat} {restJ : List Value} {g : JFrame} (h : (∀ z : Int32, z = v → W p l e R s m args below meth c H locs cells slots Q (F0 m pcJ ls (.int z :: restJ))) → W p l e R s m args below meth c H locs cells slots Q g) (k : W p l e R s m args below meth c H locs cells slots Q (F0 m pcJ ls (.int v :: restJ))) : W p l e R s m args below meth c H locs cells slots Q g :=
  h (fun z e => by rw [e]; exact k)
theorem se_joinH {v : Int32} {pcJ : Nat} {restJ : List Value} {g : JFrame} (h : (∀ (z : Int32) (H1 : Heap) (locs1 : List Loc), z = v → va_P D cl w H1 → va_D A w → va_S A H0 H1 locs1 → W p l e R s m args below meth c H1 locs1 cells slots Q (F0 m pcJ ls (.int z :: restJ))) → W p l e R s m args below meth c H locs cells slots Q g)
    (k : ∀ (H1 : Heap) (locs1 : List Loc), va_P D cl w H1 → va_D A w → va_S A H0 H1 locs1 → W p l e R s m args below meth c H1 locs1 cells slots Q (F0 m pcJ ls (.int v :: restJ))) : W p l e R s m args below meth c H locs cells slots Q g :=
  h (fun z H1 l1 e q1 q2 q3 => by rw [e]; exact k H1 l1 q1 q2 q3)
end SEA
def se_x (E : String) : Int32 := if E = "java/lang/IllegalArgumentException" then 1 else if E = "java/lang/IllegalStateException" then 2 else if E = "java/lang/IndexOutOfBoundsException" then 3 else 4
def se_Xv (D : va_G) (cl : List vw_C) (tys : List (ClassId × FieldType)) (wf : se_G → va_W) (val : Int32 × Int32 × se_G) (A : Nat → Prop) : Array Value → State → Outcome → State → Prop := va_Qv (fun u : se_G => ((0 : Int32), (0 : Int32), u) = val) (se_At D cl tys wf A) A
def se_Xi (D : va_G) (cl : List vw_C) (tys : List (ClassId × FieldType)) (wf : se_G → va_W) (val : Int32 × Int32 × se_G) (A : Nat → Prop) : Array Value → State → Outcome → State → Prop := va_Qi (fun (r : Int32) (u : se_G) => ((0 : Int32), r, u) = val) (se_At D cl tys wf A) A

section SEB
variable {p : Program} {l : Launch} {e : Env} {R : Room} {s : State} {m : MethodId} {args : Array Value} {below : List Frame} {meth : Method} {c : Code} {H : Heap} {locs : List Loc} {cells slots : Nat} {Q : State → Prop}
variable {cc : ByteArray} {pc : Nat} {ls : Array Slot} {rest : List Value}
theorem se_swIn {x k : Int32} (hk : x = k) (hx : p.tables.exec = Jvm.exec) (hb : c.code = cc) {dflt lo hi : Int} {offs : Array Int} {len : Nat} (hdg : decode cc pc = .ok (.tableswitch dflt lo hi offs, len)) {off : Int} {tgt : Nat} (h1 : ¬ k.toInt < lo) (h2 : ¬ hi < k.toInt) (ho : offs[(k.toInt - lo).toNat]? = some off) (ht : (pc : Int) + off = (tgt : Int))
    (kk : W p l e R s m args below meth c H locs cells slots Q (F0 m tgt ls rest)) : W p l e R s m args below meth c H locs cells slots Q (F0 m pc ls (.int x :: rest)) := by
  subst hk
  exact lv_tableIn hx hb hdg h1 h2 ho ht kk
end SEB
theorem se_swOut {x : Int32} {L : List Int32} {N : Nat} {lo hi : Int} (hL : ∀ k ∈ L, ¬ x = k) (hc : L.map Int32.toInt = (List.range N).map Int.ofNat) (hlo : lo = 0) (hhi : hi = (N : Int) - 1) : x.toInt < lo ∨ hi < x.toInt := by
  subst hlo; subst hhi
  by_cases h0 : x.toInt < 0
  · exact Or.inl h0
  · by_cases h1 : (N : Int) - 1 < x.toInt
    · exact Or.inr h1
    · exfalso
      have h2 : x.toInt ∈ L.map Int32.toInt := by
        rw [hc]
        exact List.mem_map.mpr ⟨x.toInt.toNat, List.mem_range.mpr (by omega), Int.toNat_of_nonneg (by omega)⟩
      obtain ⟨k, hk, e⟩ := List.mem_map.mp h2
      exact hL k hk (Int32.toInt_inj.mp e).symm
theorem se_inc {lo hi : Int32} (c : ¬ hi ≤ lo) : (lo + 1).toInt = lo.toInt + 1 := by
  have h1 : lo.toInt < hi.toInt := by rw [Int32.le_iff_toInt_le] at c; omega
  have h2 := Int32.toInt_lt hi
  have h3 := Int32.le_toInt lo
  have h4 : (1 : Int32).toInt = 1 := by decide
  rw [Int32.toInt_add, h4, Int.bmod_def]
  split <;> omega
theorem se_dec {lo hi : Int32} {n : Nat} (c : ¬ hi ≤ lo) (h : (hi.toInt - lo.toInt).toNat < n + 1) : (hi.toInt - (lo + 1).toInt).toNat < n := by
  have h1 : lo.toInt < hi.toInt := by rw [Int32.le_iff_toInt_le] at c; omega
  rw [se_inc c]
  omega
theorem se_fuel (a b : Int) : (a - b).toNat < (a - b).toNat + 1 := Nat.lt_succ_self _
theorem se_nz {x : Int32} (h : x = 0 ∨ x = 1) : narrow .boolean (.int x) = .int x := by rcases h with rfl | rfl <;> rfl
theorem se_fz {x : Int32} (h : x = 0 ∨ x = 1) : fits .boolean (.int x) = true := by rcases h with rfl | rfl <;> rfl
theorem se_inN {x N : Int32} {n : Nat} (hN : N.toInt = n) (h0 : ¬ x < 0) (h1 : ¬ N ≤ x) : vp_in x n := by
  rw [vp_in_iff]
  rw [Int32.lt_iff_toInt_lt, Int32.toInt_zero] at h0
  rw [Int32.le_iff_toInt_le] at h1
  omega
theorem se_nn {x : Int32} (h : 0 ≤ x.toInt) : ¬ x < 0 := by rw [Int32.lt_iff_toInt_lt, Int32.toInt_zero]; omega
theorem se_inc0 {lo hi : Int32} (c : ¬ hi ≤ lo) (h : 0 ≤ lo.toInt) : 0 ≤ (lo + 1).toInt := by rw [se_inc c]; omega
theorem se_nle2 {x y N : Int32} (c : ¬ y ≤ x) (h : y.toInt ≤ N.toInt) : ¬ N ≤ x := by rw [Int32.le_iff_toInt_le] at c ⊢; omega
theorem se_max0 (x : Int32) : 0 ≤ (if 0 < x then x else 0).toInt := by
  split
  · rename_i h
    rw [Int32.lt_iff_toInt_lt, Int32.toInt_zero] at h
    omega
  · decide
theorem se_minle {x y : Int32} {n : Int} (h : y.toInt ≤ n) : (if x < y then x else y).toInt ≤ n := by
  split
  · rename_i q
    rw [Int32.lt_iff_toInt_lt] at q
    omega
  · exact h
theorem se_subS {L st : Int32} {n : Nat} (h : L.toInt.toNat < n + 1) (h1 : 1 ≤ st.toInt) (h2 : st.toInt ≤ L.toInt) : (L - st).toInt.toNat < n := by
  have h3 := Int32.toInt_lt L
  rw [Int32.toInt_sub, Int.bmod_def]
  split <;> omega
theorem se_decL {L T A : Int32} {n : Nat} (c : ¬ L ≤ 0) (h : L.toInt.toNat < n + 1) : (L - (if A = 0 then L else (if 1 < (if T < L then T else L) then (if T < L then T else L) else 1))).toInt.toNat < n := by
  have c0 : 0 < L.toInt := by rw [Int32.le_iff_toInt_le, Int32.toInt_zero] at c; omega
  have e1 : (1 : Int32).toInt = 1 := by decide
  have hM : (if T < L then T else L).toInt ≤ L.toInt := by
    split
    · rename_i q
      rw [Int32.lt_iff_toInt_lt] at q
      omega
    · omega
  generalize (if T < L then T else L) = M at hM ⊢
  refine se_subS h ?_ ?_
  · split
    · omega
    · split
      · rename_i q
        rw [Int32.lt_iff_toInt_lt, e1] at q
        omega
      · rw [e1]; omega
  · split
    · omega
    · split
      · exact hM
      · rw [e1]; omega
section SEC
variable {p : Program} {l : Launch} {e : Env} {R : Room} {s : State} {m : MethodId} {args : Array Value} {below : List Frame} {meth : Method} {c : Code} {H : Heap} {locs : List Loc} {cells slots : Nat} {Q : State → Prop}
variable {cc : ByteArray} {pc : Nat} {ls : Array Slot} {A : Nat → Prop} {D : va_G} {cl : List vw_C} {tys : List (ClassId × FieldType)} {wf : se_G → va_W}
theorem se_xv {u : se_G} {val : Int32 × Int32 × se_G} (hx : p.tables.exec = Jvm.exec) (hb : c.code = cc) (hr : meth.sig.returnType = none) (hlocks : meth.locks = false) (hK : va_K D cl tys s) (hP : va_P D cl (wf u) H) (hD : va_D A (wf u)) (hS : va_S A s.heap H locs) (hdg : decode cc pc = .ok (.return_, 1)) (he : ((0 : Int32), (0 : Int32), u) = val) :
    W p l e R s m args below meth c H locs cells slots (MQ below (se_Xv D cl tys wf val A) args s cells slots A) (F0 m pc ls []) :=
  W.vret hx hb hr (fun t ht hW => ⟨⟨u, rfl, he, by rw [ht]; exact hP, va_K.moved hW.alike hK, hD⟩, hS.F ht⟩) hS.2.2 hdg hlocks
theorem se_xi {r : Int32} {u : se_G} {val : Int32 × Int32 × se_G} (hx : p.tables.exec = Jvm.exec) (hb : c.code = cc) (hr : meth.sig.returnType = some .int) (hlocks : meth.locks = false) (hK : va_K D cl tys s) (hP : va_P D cl (wf u) H) (hD : va_D A (wf u)) (hS : va_S A s.heap H locs) (hdg : decode cc pc = .ok (.ireturn, 1)) (he : ((0 : Int32), r, u) = val) :
    W p l e R s m args below meth c H locs cells slots (MQ below (se_Xi D cl tys wf val A) args s cells slots A) (F0 m pc ls [.int r]) :=
  W.iret hx hb hr (fun t ht hW => ⟨⟨r, u, rfl, he, by rw [ht]; exact hP, va_K.moved hW.alike hK, hD⟩, hS.F ht⟩) hS.2.2 hdg hlocks
end SEC
theorem se_x1 : se_x "java/lang/IllegalArgumentException" = 1 := by decide
theorem se_x2 : se_x "java/lang/IllegalStateException" = 2 := by decide
theorem se_x3 : se_x "java/lang/IndexOutOfBoundsException" = 3 := by decide
theorem se_xe {E : String} {k : Int32} {u : se_G} {val : Int32 × Int32 × se_G} (h : se_x E = k) (he : (k, (0 : Int32), u) = val) : (se_x E, (0 : Int32), u) = val := by rw [h]; exact he

