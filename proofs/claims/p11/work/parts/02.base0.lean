/-! written by program (wip/gen) -/
def se_all : List Cond := lw_tbl.filter goodWord
theorem se_good {w : Cond} (h : w ∈ se_all) : goodWord w = true := (List.mem_filter.mp h).2
theorem se_tbl {w : Cond} (h : w ∈ se_all) : w ∈ lw_tbl := (List.mem_filter.mp h).1
theorem se_in {w : Cond} (i : Nat) (h : tables_1[i]? = some w) (hg : goodWord w = true) : w ∈ se_all := List.mem_filter.mpr ⟨List.mem_append_right _ (List.mem_of_getElem? h), hg⟩
theorem se_inL {ws : List Cond} (ps : List Nat) (h : ws = ps.filterMap (fun i => tables_1[i]?)) (hg : ws.all goodWord = true) : ∀ w ∈ ws, w ∈ se_all := by
  intro w hw
  have h1 := List.all_eq_true.mp hg w hw
  rw [h] at hw
  obtain ⟨i, -, hi⟩ := List.mem_filterMap.mp hw
  exact se_in i hi h1
theorem se_inS {y : MethodName} {n : Nat} (h : (y, n) ∈ lw_privs) : Cond.selects y.cls y y ∈ se_all := List.mem_filter.mpr ⟨List.mem_append_left _ (List.mem_map.mpr ⟨(y, n), h, rfl⟩), rfl⟩
theorem se_iw {ws : List Cond} {a : Cond} (h : ∀ w ∈ ws, w ∈ se_all) : ∀ w ∈ ws, w ∈ a :: se_all := fun w hw => List.mem_cons_of_mem _ (h w hw)
theorem se_gi {a b : Cond} (hb : b ∈ se_all) : GoodIn (a :: se_all) (b :: se_all) := by
  intro w h
  rcases List.mem_cons.mp h with rfl | h
  · exact ⟨List.mem_cons_of_mem _ hb, good_of_word (se_good hb)⟩
  · exact ⟨List.mem_cons_of_mem _ h, good_of_word (se_good h)⟩
section SE0
variable {R : Room} {s : State} {args : Array Value} {own C host : String} {index maxL : Nat} {y : MethodName} {bytes : ByteArray} {ret : Option FieldType} {rm : Room} {a0 : Cond} {mc ms : Nat}
theorem se_kV (n : Nat) (hts : ∀ w ∈ a0 :: se_all, w.before args s = true) (hc : Cond.code y bytes maxL ret ∈ se_all) (hl : Cond.methodLink own index y ∈ se_all) (hi : Cond.initialized C ∈ se_all) (hin : Cond.instanceMethod y ∈ se_all) (hs : Cond.selects C y y ∈ se_all)
    (hd : y.cls = C ∧ y.cls ≠ "java/lang/invoke/MethodHandle" ∧ y.cls ≠ "java/lang/invoke/VarHandle" ∧ (parseMethodDescriptor y.desc).map (fun d => d.parameters.length) = some n) (hR : rm.frames + 1 ≤ R.frames ∧ 8 + (maxL + 11) + rm.locals ≤ R.locals) (hrc : rm.cells = mc) (hrs : rm.slots = ms) :
    CallW R s args own C index y bytes maxL ret (Cond.code y bytes maxL ret :: se_all) rm mc ms n := by
  have t : ∀ w ∈ se_all, w.before args s = true := fun w h => hts w (List.mem_cons_of_mem _ h)
  obtain ⟨hC, hd⟩ := hd
  subst hC
  exact ⟨callB_of n hts (se_gi hc) rfl hrc hrs (t _ hi) (t _ hl) hd hR, t _ hin, t _ hs⟩
theorem se_kVN (n : Nat) (hts : ∀ w ∈ a0 :: se_all, w.before args s = true) (hc : Cond.code y bytes maxL ret ∈ se_all) (hl : va_Nw (.methodLinkNest own index y host) s) (hi : Cond.initialized C ∈ se_all) (hin : Cond.instanceMethod y ∈ se_all) (hs : Cond.selects C y y ∈ se_all)
    (hd : y.cls = C ∧ y.cls ≠ "java/lang/invoke/MethodHandle" ∧ y.cls ≠ "java/lang/invoke/VarHandle" ∧ (parseMethodDescriptor y.desc).map (fun d => d.parameters.length) = some n) (hR : rm.frames + 1 ≤ R.frames ∧ 8 + (maxL + 11) + rm.locals ≤ R.locals) (hrc : rm.cells = mc) (hrs : rm.slots = ms) :
    va_CN R s args own index y host bytes maxL ret (Cond.code y bytes maxL ret :: se_all) rm mc ms n ∧ (Cond.instanceMethod y).before args s = true ∧ (Cond.selects C y y).before args s = true := by
  have t : ∀ w ∈ se_all, w.before args s = true := fun w h => hts w (List.mem_cons_of_mem _ h)
  obtain ⟨hC, hd⟩ := hd
  subst hC
  exact ⟨va_cnB n hts (se_gi hc) rfl hrc hrs hl (t _ hi) hd hR, t _ hin, t _ hs⟩
theorem se_kS (n : Nat) (hts : ∀ w ∈ a0 :: se_all, w.before args s = true) (hc : Cond.code y bytes maxL ret ∈ se_all) (hl : Cond.methodLink own index y ∈ se_all) (hi : Cond.initialized C ∈ se_all) (hst : Cond.static y ∈ se_all)
    (hd : y.cls = C ∧ y.cls ≠ "java/lang/invoke/MethodHandle" ∧ y.cls ≠ "java/lang/invoke/VarHandle" ∧ (parseMethodDescriptor y.desc).map (fun d => d.parameters.length) = some n) (hR : rm.frames + 1 ≤ R.frames ∧ 8 + (maxL + 11) + rm.locals ≤ R.locals) (hrc : rm.cells = mc) (hrs : rm.slots = ms) :
    CallB R s args own index y bytes maxL ret (Cond.code y bytes maxL ret :: se_all) rm mc ms n ∧ (Cond.static y).before args s = true := by
  have t : ∀ w ∈ se_all, w.before args s = true := fun w h => hts w (List.mem_cons_of_mem _ h)
  obtain ⟨hC, hd⟩ := hd
  subst hC
  exact ⟨callB_of n hts (se_gi hc) rfl hrc hrs (t _ hi) (t _ hl) hd hR, t _ hst⟩
theorem se_kSN (n : Nat) (hts : ∀ w ∈ a0 :: se_all, w.before args s = true) (hc : Cond.code y bytes maxL ret ∈ se_all) (hl : va_Nw (.methodLinkNest own index y host) s) (hi : Cond.initialized C ∈ se_all) (hst : Cond.static y ∈ se_all)
    (hd : y.cls = C ∧ y.cls ≠ "java/lang/invoke/MethodHandle" ∧ y.cls ≠ "java/lang/invoke/VarHandle" ∧ (parseMethodDescriptor y.desc).map (fun d => d.parameters.length) = some n) (hR : rm.frames + 1 ≤ R.frames ∧ 8 + (maxL + 11) + rm.locals ≤ R.locals) (hrc : rm.cells = mc) (hrs : rm.slots = ms) :
    va_CN R s args own index y host bytes maxL ret (Cond.code y bytes maxL ret :: se_all) rm mc ms n ∧ (Cond.static y).before args s = true ∧ True := by
  have t : ∀ w ∈ se_all, w.before args s = true := fun w h => hts w (List.mem_cons_of_mem _ h)
  obtain ⟨hC, hd⟩ := hd
  subst hC
  exact ⟨va_cnB n hts (se_gi hc) rfl hrc hrs hl (t _ hi) hd hR, t _ hst, trivial⟩
end SE0

