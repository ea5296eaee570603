/-! written by program (wip/gen) -/
def M_A0 (g : se_G) : Prop := g 0 9 = g 0 8 ∧ g 0 10 = g 0 8 ∧ g 0 14 = g 0 8 + 1 ∧ g 0 31 = 0
def M_A1 (g : se_G) : Prop := g 0 9 = g 0 8 ∧ g 0 10 = g 0 8 + 1 ∧ g 0 14 = g 0 8 + 1 ∧ g 0 31 = 0
def M_Gn (j : Nat) (g : se_G) : Prop := ∃ c e s : Nat, (g 0 13 = Int32.ofNat c ∧ c ≤ 2048) ∧ g 0 9 = g 0 14 + Int32.ofNat e ∧ g 0 10 = g 0 14 + Int32.ofNat s ∧ (e ≤ s ∧ e ≤ j) ∧ s ≤ c + j
def M_Q (j : Nat) (g : se_G) : Prop := (M_A0 g ∧ (g 0 4 = 0 ∨ g 0 4 = 1 ∨ g 0 4 = 11)) ∨ (M_A1 g ∧ (g 0 4 = 0 ∨ g 0 4 = 2 ∨ g 0 4 = 3 ∨ g 0 4 = 11)) ∨ (M_Gn j g ∧ ¬ g 0 4 = 1 ∧ ¬ g 0 4 = 2 ∧ ¬ g 0 4 = 3)
def M_R (g : se_G) : Prop := (∃ c : Nat, g 0 13 = Int32.ofNat c ∧ c ≤ 2048) ∧ (g 0 0).toInt ≤ 1460 ∧ (g 0 11).toInt ≤ 1460 ∧ (∃ h : Nat, g 0 20 = Int32.ofNat h ∧ h ≤ 2048) ∧ (∃ n : Nat, g 0 45 = Int32.ofNat n ∧ n ≤ 1460) ∧ (g 0 49).toInt ≤ 1460
def M_I (j : Nat) (g : se_G) : Prop := M_R g ∧ M_Q j g
theorem M_Gn_same {j : Nat} {g g' : se_G} (h : M_Gn j g) (e9 : g' 0 9 = g 0 9) (e10 : g' 0 10 = g 0 10) (e13 : g' 0 13 = g 0 13) (e14 : g' 0 14 = g 0 14) : M_Gn j g' := by
  obtain ⟨c, e, s, h1, h2, h3, h4, h5⟩ := h
  exact ⟨c, e, s, by rw [e13]; exact h1, by rw [e9, e14, h2], by rw [e10, e14, h3], h4, h5⟩
theorem M_Gn_up {j : Nat} {g : se_G} (h : M_Gn j g) : M_Gn (j + 1) g := by
  obtain ⟨c, e, s, h1, h2, h3, h4, h5⟩ := h
  exact ⟨c, e, s, h1, h2, h3, by omega, by omega⟩
theorem M_Q_up {j : Nat} {g : se_G} (h : M_Q j g) : M_Q (j + 1) g := by
  rcases h with h | h | h
  · exact Or.inl h
  · exact Or.inr (Or.inl h)
  · exact Or.inr (Or.inr ⟨M_Gn_up h.1, h.2⟩)
theorem M_I_up {j : Nat} {g : se_G} (h : M_I j g) : M_I (j + 1) g := ⟨h.1, M_Q_up h.2⟩
theorem M_Q_same {j : Nat} {g g' : se_G} (h : M_Q j g) (e4 : g' 0 4 = g 0 4) (e8 : g' 0 8 = g 0 8) (e9 : g' 0 9 = g 0 9) (e10 : g' 0 10 = g 0 10) (e13 : g' 0 13 = g 0 13) (e14 : g' 0 14 = g 0 14) (e31 : g' 0 31 = g 0 31) : M_Q j g' := by
  rcases h with ⟨h, hs⟩ | ⟨h, hs⟩ | ⟨h, hs⟩
  · refine Or.inl ⟨?_, by rw [e4]; exact hs⟩
    unfold M_A0; rw [e8, e9, e10, e14, e31]; exact h
  · refine Or.inr (Or.inl ⟨?_, by rw [e4]; exact hs⟩)
    unfold M_A1; rw [e8, e9, e10, e14, e31]; exact h
  · exact Or.inr (Or.inr ⟨M_Gn_same h e9 e10 e13 e14, by rw [e4]; exact hs⟩)
theorem M_R_same {g g' : se_G} (h : M_R g) (e0 : g' 0 0 = g 0 0) (e11 : g' 0 11 = g 0 11) (e13 : g' 0 13 = g 0 13) (e20 : g' 0 20 = g 0 20) (e45 : g' 0 45 = g 0 45) (e49 : g' 0 49 = g 0 49) : M_R g' := by
  unfold M_R; rw [e0, e11, e13, e20, e45, e49]; exact h
theorem M_I_fr {j : Nat} {g g' : se_G} (h : M_I j g) (w : Nat → Nat → Bool) (hf : ∀ o k, w o k = false → g' o k = g o k) (hw : (w 0 0 || w 0 4 || w 0 8 || w 0 9 || w 0 10 || w 0 11 || w 0 13 || w 0 14 || w 0 20 || w 0 31 || w 0 45 || w 0 49) = false) : M_I j g' := by
  simp only [Bool.or_eq_false_iff] at hw
  obtain ⟨⟨⟨⟨⟨⟨⟨⟨⟨⟨⟨h0, h4⟩, h8⟩, h9⟩, h10⟩, h11⟩, h13⟩, h14⟩, h20⟩, h31⟩, h45⟩, h49⟩ := hw
  exact ⟨M_R_same h.1 (hf _ _ h0) (hf _ _ h11) (hf _ _ h13) (hf _ _ h20) (hf _ _ h45) (hf _ _ h49), M_Q_same h.2 (hf _ _ h4) (hf _ _ h8) (hf _ _ h9) (hf _ _ h10) (hf _ _ h13) (hf _ _ h14) (hf _ _ h31)⟩
theorem M_I_watch {j : Nat} {g : se_G} (h : M_I j g) : M_I j (F_M_watch g) := M_I_fr h w_F_M_watch (fun _ _ z => fr_F_M_watch z g) rfl
theorem M_I_u {j : Nat} {g : se_G} (h : M_I j g) {k : Nat} {v : Int32} (hk : (k == 0 || k == 4 || k == 8 || k == 9 || k == 10 || k == 11 || k == 13 || k == 14 || k == 20 || k == 31 || k == 45 || k == 49) = false) : M_I j (se_u g 0 k v) := by
  refine M_I_fr h (fun o i => o == 0 && i == k) (fun o i z => se_u_ne (fun q => by rw [q.1, q.2] at z; simp at z)) ?_
  simp only [Bool.or_eq_false_iff, beq_eq_false_iff_ne, ne_eq] at hk
  simp only [Bool.or_eq_false_iff, beq_eq_false_iff_ne, ne_eq, beq_self_eq_true, Bool.true_and]
  omega
theorem M_I_code {j : Nat} {g : se_G} (h : M_I j g) {v : Int32} : M_I j (se_u g 0 2 v) := M_I_u h rfl
theorem M_I_thank {j : Nat} {g : se_G} (h : M_I j g) {v : Int32} : M_I j (se_u g 0 33 v) := M_I_u h rfl
theorem M_I_arr {j : Nat} {g : se_G} (h : M_I j g) {a k : Nat} {v : Int32} (ha : ¬ a = 0) : M_I j (se_u g a k v) :=
  M_I_fr h (fun o _ => o == a) (fun o i z => se_u_ne (fun q => by rw [q.1] at z; simp at z)) (by simp; omega)
theorem M_bec_31 {g : se_G} {p : Int32} (hp : p = 0 ∨ p = 11 ∨ p = 10) : F_M_becomes g p 0 31 = 0 := by
  have a : ∀ g' v, F_M_becomes_j40 g' p v 0 31 = 0 := by
    intro g' v
    unfold F_M_becomes_j40
    rw [fr_F_M_becomes_j49 (o := 0) (j := 31) rfl]
    rfl
  unfold F_M_becomes
  rcases hp with rfl | rfl | rfl
  · rw [if_pos rfl]; exact a _ _
  · rw [if_neg (by decide), if_pos rfl]; exact a _ _
  · rw [if_neg (by decide), if_neg (by decide), if_pos rfl]; exact a _ _
theorem M_bec_31s {g : se_G} {p : Int32} (hp : ¬ (p = 0 ∨ p = 11 ∨ p = 10)) : F_M_becomes g p 0 31 = g 0 31 := by
  unfold F_M_becomes
  rw [if_neg (fun z => hp (Or.inl z)), if_neg (fun z => hp (Or.inr (Or.inl z))), if_neg (fun z => hp (Or.inr (Or.inr z))), fr_F_M_becomes_j49 (o := 0) (j := 31) rfl]
  rfl
theorem M_bec_4 {g : se_G} {p : Int32} : F_M_becomes g p 0 4 = p := by
  have a : ∀ g' v, F_M_becomes_j40 g' p v 0 4 = g' 0 4 := fun g' v => fr_F_M_becomes_j40 (o := 0) (j := 4) rfl g' p v
  have b : ∀ g', F_M_becomes_j49 g' p 0 4 = g' 0 4 := fun g' => fr_F_M_becomes_j49 (o := 0) (j := 4) rfl g' p
  unfold F_M_becomes
  split
  · rw [a]; rfl
  · split
    · rw [a]; rfl
    · split
      · rw [a]; rfl
      · rw [b]; rfl
theorem M_R_bec {g : se_G} {p : Int32} (h : M_R g) : M_R (F_M_becomes g p) :=
  M_R_same h (fr_F_M_becomes (o := 0) (j := 0) rfl g p) (fr_F_M_becomes (o := 0) (j := 11) rfl g p) (fr_F_M_becomes (o := 0) (j := 13) rfl g p) (fr_F_M_becomes (o := 0) (j := 20) rfl g p) (fr_F_M_becomes (o := 0) (j := 45) rfl g p) (fr_F_M_becomes (o := 0) (j := 49) rfl g p)
theorem M_Gn_bec {j : Nat} {g : se_G} {p : Int32} (h : M_Gn j g) : M_Gn j (F_M_becomes g p) :=
  M_Gn_same h (fr_F_M_becomes (o := 0) (j := 9) rfl g p) (fr_F_M_becomes (o := 0) (j := 10) rfl g p) (fr_F_M_becomes (o := 0) (j := 13) rfl g p) (fr_F_M_becomes (o := 0) (j := 14) rfl g p)
theorem M_I_end {j : Nat} {g : se_G} {p : Int32} (h : M_I j g) (hp : p = 0 ∨ p = 11) : M_I j (F_M_becomes g p) := by
  refine ⟨M_R_bec h.1, ?_⟩
  have e8 := fr_F_M_becomes (o := 0) (j := 8) rfl g p
  have e9 := fr_F_M_becomes (o := 0) (j := 9) rfl g p
  have e10 := fr_F_M_becomes (o := 0) (j := 10) rfl g p
  have e14 := fr_F_M_becomes (o := 0) (j := 14) rfl g p
  have e31 : F_M_becomes g p 0 31 = 0 := M_bec_31 (by rcases hp with z | z; exact Or.inl z; exact Or.inr (Or.inl z))
  rcases h.2 with ⟨h2, hs⟩ | ⟨h2, hs⟩ | ⟨h2, hs⟩
  · refine Or.inl ⟨?_, by rw [M_bec_4]; rcases hp with z | z; exact Or.inl z; exact Or.inr (Or.inr z)⟩
    unfold M_A0; rw [e8, e9, e10, e14]; exact ⟨h2.1, h2.2.1, h2.2.2.1, e31⟩
  · refine Or.inr (Or.inl ⟨?_, by rw [M_bec_4]; rcases hp with z | z; exact Or.inl z; exact Or.inr (Or.inr (Or.inr z))⟩)
    unfold M_A1; rw [e8, e9, e10, e14]; exact ⟨h2.1, h2.2.1, h2.2.2.1, e31⟩
  · refine Or.inr (Or.inr ⟨M_Gn_bec h2, ?_⟩)
    rw [M_bec_4]
    rcases hp with rfl | rfl <;> decide
theorem M_I_to {j : Nat} {g : se_G} {p : Int32} (h : M_R g) (h2 : M_Gn j g) (hp : ¬ p = 1 ∧ ¬ p = 2 ∧ ¬ p = 3) : M_I j (F_M_becomes g p) :=
  ⟨M_R_bec h, Or.inr (Or.inr ⟨M_Gn_bec h2, by rw [M_bec_4]; exact hp⟩)⟩
theorem M_I_Gn {j : Nat} {g : se_G} (h : M_I j g) (h0 : ¬ g 0 4 = 0) (h1 : ¬ g 0 4 = 1) (h2 : ¬ g 0 4 = 2) (h3 : ¬ g 0 4 = 3) (h11 : ¬ g 0 4 = 11) : M_Gn j g := by
  rcases h.2 with ⟨_, z | z | z⟩ | ⟨_, z | z | z | z⟩ | ⟨h, _⟩
  · exact absurd z h0
  · exact absurd z h1
  · exact absurd z h11
  · exact absurd z h0
  · exact absurd z h2
  · exact absurd z h3
  · exact absurd z h11
  · exact h
theorem M_I_ring {j : Nat} {g : se_G} (h : M_I j g) : M_I j (F_M_ring g) := by
  have h1 : M_I j (se_u g 0 36 (g 0 36 + 1)) := M_I_u h rfl
  have a80 : ∀ g', M_I j g' → M_I j (F_M_ring_j80 g') := fun g' h' => M_I_fr h' w_F_M_ring_j80 (fun _ _ z => fr_F_M_ring_j80 z g') rfl
  have gn : ∀ g', M_R g' → M_Gn j g' → (¬ g' 0 4 = 1 ∧ ¬ g' 0 4 = 2 ∧ ¬ g' 0 4 = 3) → M_I j (F_M_ring_j56 g') := by
    intro g' hr hg hs
    unfold F_M_ring_j56
    split
    · exact a80 _ (M_I_u ⟨hr, Or.inr (Or.inr ⟨hg, hs⟩)⟩ rfl)
    · exact a80 _ ⟨hr, Or.inr (Or.inr ⟨M_Gn_same hg rfl rfl rfl rfl, hs⟩)⟩
  have eq : ∀ g', M_I j g' → g' 0 9 = g' 0 10 → M_I j (F_M_ring_j56 g') := by
    intro g' h' he
    unfold F_M_ring_j56
    rw [if_pos he]
    exact a80 _ (M_I_u h' rfl)
  unfold F_M_ring
  split
  · rcases h.2 with ⟨hq, hs⟩ | ⟨hq, hs⟩ | ⟨hq, hs⟩
    · rw [if_pos hq.1, if_pos hq.2.1]
      exact eq _ h1 (show g 0 9 = g 0 10 by rw [hq.1, hq.2.1])
    · have n : ¬ g 0 10 = g 0 8 := by
        rw [hq.2.1]; intro z
        have z2 : g 0 8 + 1 - g 0 8 = 0 := by rw [z, Int32.sub_self]
        rw [Int32.add_comm, Int32.add_sub_cancel] at z2
        exact absurd z2 (by decide)
      rw [if_pos hq.1, if_neg n]
      exact a80 _ (M_I_u h1 rfl)
    · have g1 : M_I j (F_M_ring_j56 (se_u g 0 36 (g 0 36 + 1))) := gn _ h1.1 (M_Gn_same hq rfl rfl rfl rfl) hs
      split
      · split
        · exact g1
        · exact a80 _ (M_I_u h1 rfl)
      · exact g1
  · exact M_I_end h1 (Or.inr rfl)
theorem M_I_tick {j : Nat} {g : se_G} (h : M_I j g) : M_I j (M_tick g) := by
  have h1 : M_I j (se_u g 0 3 (g 0 3 + 1)) := M_I_u h rfl
  unfold M_tick
  refine M_I_watch ?_
  have h2 : M_I j (if g 0 4 = 10 then (if g 0 3 + 1 = g 0 43 then F_M_becomes (se_u g 0 3 (g 0 3 + 1)) 0 else se_u g 0 3 (g 0 3 + 1)) else se_u g 0 3 (g 0 3 + 1)) := by
    split
    · split
      · exact M_I_end h1 (Or.inl rfl)
      · exact h1
    · exact h1
  generalize (if g 0 4 = 10 then (if g 0 3 + 1 = g 0 43 then F_M_becomes (se_u g 0 3 (g 0 3 + 1)) 0 else se_u g 0 3 (g 0 3 + 1)) else se_u g 0 3 (g 0 3 + 1)) = g2 at h2
  split
  · exact M_I_ring h2
  · exact h2
theorem M_I_tickN {j : Nat} {g : se_G} (h : M_I j g) : ∀ k, M_I j (M_tickN k g) := by
  intro k
  induction k with
  | zero => exact h
  | succ k ih => exact M_I_tick ih
theorem M_I_close {j : Nat} {g : se_G} (h : M_I j g) : M_I j (F_M_close g) := by
  unfold F_M_close
  generalize hv : ((if (g 0 6) = 0 then ((if (g 0 4) = 0 then 1 else ((if (g 0 4) = 11 then 1 else 0) : Int32)) : Int32) else 1) : Int32) = v
  have h1 : M_I j (se_u (se_u g 0 2 v) 0 6 1) := M_I_u (M_I_code h) rfl
  split
  · rename_i c0
    have c1 : ¬ g 0 4 = 0 ∧ ¬ g 0 4 = 11 := by
      rw [← hv] at c0
      constructor
      · intro z
        by_cases y : g 0 6 = 0
        · rw [if_pos y, if_pos z] at c0; exact absurd c0 (by decide)
        · rw [if_neg y] at c0; exact absurd c0 (by decide)
      · intro z
        by_cases y : g 0 6 = 0
        · rw [if_pos y, if_neg (by rw [z]; decide), if_pos z] at c0; exact absurd c0 (by decide)
        · rw [if_neg y] at c0; exact absurd c0 (by decide)
    split
    · exact M_I_watch (M_I_end h1 (Or.inl rfl))
    · rename_i d1
      split
      · exact M_I_watch (M_I_end h1 (Or.inl rfl))
      · rename_i d2
        split
        · rename_i d4
          exact M_I_watch (M_I_to h1.1 (M_I_Gn h1 c1.1 d1 d2 (by show ¬ g 0 4 = 3; rw [d4]; decide) c1.2) (by decide))
        · split
          · rename_i d4 d7
            exact M_I_watch (M_I_to h1.1 (M_I_Gn h1 c1.1 d1 d2 (by show ¬ g 0 4 = 3; rw [d7]; decide) c1.2) (by decide))
          · exact M_I_watch h1
  · exact M_I_code h
theorem M_I_abort {j : Nat} {g : se_G} (h : M_I j g) : M_I j (F_M_abort g) := by
  unfold F_M_abort
  generalize ((if (g 0 4) = 0 then 1 else ((if (g 0 4) = 11 then 1 else 0) : Int32)) : Int32) = v
  split
  · split
    · exact M_I_end (M_I_code h) (Or.inr rfl)
    · split
      · exact M_I_end (M_I_code h) (Or.inr rfl)
      · split
        · exact M_I_end (M_I_code h) (Or.inr rfl)
        · exact M_I_end (M_I_u (M_I_u (M_I_u (M_I_u (M_I_code h) rfl) rfl) rfl) rfl) (Or.inr rfl)
  · exact M_I_code h

