/-! written by program (wip/gen) -/
theorem M_I_make {j : Nat} {g : se_G} {a b c d e : Int32} (h : M_I j g) : M_I j (F_M_make g a b c d e) := by
  unfold F_M_make
  exact M_I_49 (M_I_arr (M_I_arr (M_I_arr (M_I_arr (M_I_arr (M_I_u h rfl) (by decide)) (by decide)) (by decide)) (by decide)) (by decide)) (by decide)
theorem M_I_tb_loop {j : Nat} : ∀ (n : Nat) (g : se_G) (a b c : Int32), b.toInt ≤ 1460 → M_I j g → M_I j (F_M_tellBytes_j58 n g a b c) := by
  intro n
  induction n with
  | zero => intro g a b c _ h; exact h
  | succ n ih =>
    intro g a b c hb h
    rw [F_M_tellBytes_j58]
    split
    · exact M_I_thank (M_I_49 h hb)
    · exact ih _ _ _ _ hb (M_I_arr h (by decide))
theorem M_I_tb {j : Nat} {g : se_G} {a b n : Int32} (h : M_I j g) (hn : n.toInt ≤ 1460) : M_I j (F_M_tellBytes g a b n) := M_I_tb_loop _ _ _ _ _ hn (M_I_make h)
theorem M_I_sent {j : Nat} {g : se_G} {a b : Int32} (h : M_I j g) : M_I j (F_M_sent g a b) := M_I_fr h w_F_M_sent (fun _ _ z => fr_F_M_sent z g a b) rfl
theorem M_I_sendOpen {j : Nat} {g : se_G} (h : M_I j g) : M_I j (F_M_sendOpen g) := by
  unfold F_M_sendOpen F_M_sendOpen_k1
  exact M_I_u (M_I_sent (M_I_tb (M_I_u h rfl) (by decide))) rfl
theorem M_I_31 {j : Nat} {g : se_G} (h : M_I j g) : M_I j (se_u g 0 31 0) := by
  refine ⟨M_R_same h.1 rfl rfl rfl rfl rfl rfl, ?_⟩
  rcases h.2 with ⟨hq, hs⟩ | ⟨hq, hs⟩ | ⟨hq, hs⟩
  · exact Or.inl ⟨⟨hq.1, hq.2.1, hq.2.2.1, rfl⟩, hs⟩
  · exact Or.inr (Or.inl ⟨⟨hq.1, hq.2.1, hq.2.2.1, rfl⟩, hs⟩)
  · exact Or.inr (Or.inr ⟨M_Gn_same hq rfl rfl rfl rfl, hs⟩)
theorem M_I_sendAgain {j : Nat} {g : se_G} (h : M_I j g) : M_I j (F_M_sendAgain g) := by
  unfold F_M_sendAgain F_M_sendAgain_j48 F_M_sendAgain_j65 F_M_sendAgain_k1
  exact M_I_sent (M_I_tb (M_I_31 h) (mo_min h.1.2.2.1))
theorem M_I_sendNew {j : Nat} {g : se_G} {b : Int32} {m c e s : Nat} (h : M_R g) (hs : ¬ g 0 4 = 1 ∧ ¬ g 0 4 = 2 ∧ ¬ g 0 4 = 3) (q1 : g 0 13 = Int32.ofNat c ∧ c ≤ 2048) (q2 : g 0 9 = g 0 14 + Int32.ofNat e) (q3 : g 0 10 = g 0 14 + Int32.ofNat s) (q4 : e ≤ s ∧ e ≤ j) (q5 : s ≤ c + j) (hm : m = 0 ∨ s + m ≤ c) (hm2 : m ≤ 1460) : M_I (j + 1) (F_M_sendNew g (Int32.ofNat m) b) := by
  have hi : M_I j g := ⟨h, Or.inr (Or.inr ⟨⟨c, e, s, q1, q2, q3, q4, q5⟩, hs⟩)⟩
  unfold F_M_sendNew F_M_sendNew_k1
  refine M_I_sent ?_
  have ht := M_I_tb (a := ((if b = 0 then 0 else 2) : Int32)) (b := g 0 10) hi (show (Int32.ofNat m).toInt ≤ 1460 by rw [nn_int (by omega)]; omega)
  have f4 := fr_F_M_tellBytes (o := 0) (j := 4) rfl g ((if b = 0 then 0 else 2) : Int32) (g 0 10) (Int32.ofNat m)
  have f9 := fr_F_M_tellBytes (o := 0) (j := 9) rfl g ((if b = 0 then 0 else 2) : Int32) (g 0 10) (Int32.ofNat m)
  have f10 := fr_F_M_tellBytes (o := 0) (j := 10) rfl g ((if b = 0 then 0 else 2) : Int32) (g 0 10) (Int32.ofNat m)
  have f13 := fr_F_M_tellBytes (o := 0) (j := 13) rfl g ((if b = 0 then 0 else 2) : Int32) (g 0 10) (Int32.ofNat m)
  have f14 := fr_F_M_tellBytes (o := 0) (j := 14) rfl g ((if b = 0 then 0 else 2) : Int32) (g 0 10) (Int32.ofNat m)
  generalize F_M_tellBytes g ((if b = 0 then 0 else 2) : Int32) (g 0 10) (Int32.ofNat m) = g1 at ht f4 f9 f10 f13 f14 ⊢
  refine ⟨M_R_same ht.1 rfl rfl rfl rfl rfl rfl, Or.inr (Or.inr ⟨?_, by show ¬ g1 0 4 = 1 ∧ ¬ g1 0 4 = 2 ∧ ¬ g1 0 4 = 3; rw [f4]; exact hs⟩)⟩
  have eb : ∃ x : Nat, x ≤ 1 ∧ ((if b = 0 then 0 else 1) : Int32) = Int32.ofNat x := by
    split
    · exact ⟨0, by omega, rfl⟩
    · exact ⟨1, by omega, rfl⟩
  obtain ⟨x, hx, ex⟩ := eb
  refine ⟨c, e, s + (m + x), ⟨by show g1 0 13 = _; rw [f13]; exact q1.1, q1.2⟩, by show g1 0 9 = g1 0 14 + _; rw [f9, f14]; exact q2, ?_, by omega, by omega⟩
  show g1 0 10 + (Int32.ofNat m + ((if b = 0 then 0 else 1) : Int32)) = g1 0 14 + _
  rw [ex, f10, f14, q3, ← Int32.ofNat_add, Int32.add_assoc, ← Int32.ofNat_add]
theorem M_sends_state {g : se_G} (h : ¬ F_M_sends g = 0) : ¬ g 0 4 = 0 ∧ ¬ g 0 4 = 1 ∧ ¬ g 0 4 = 2 ∧ ¬ g 0 4 = 3 ∧ ¬ g 0 4 = 11 := by
  refine ⟨?_, ?_, ?_, ?_, ?_⟩ <;> (intro z; apply h; unfold F_M_sends; rw [z]; rfl)
theorem M_can_n {p n m : Int32} (hp : p.toInt ≤ 1460) : ∃ k : Nat, ((if 0 ≤ ((if m ≤ ((if p ≤ n then p else n) : Int32) then m else ((if p ≤ n then p else n) : Int32)) : Int32) then ((if m ≤ ((if p ≤ n then p else n) : Int32) then m else ((if p ≤ n then p else n) : Int32)) : Int32) else 0) : Int32) = Int32.ofNat k ∧ k ≤ 1460 ∧ (k = 0 ∨ (k : Int) ≤ n.toInt) := by
  generalize hy : ((if p ≤ n then p else n) : Int32) = y
  have a1 : y.toInt ≤ p.toInt ∧ y.toInt ≤ n.toInt := by
    rw [← hy]
    split
    · rename_i c; rw [Int32.le_iff_toInt_le] at c; omega
    · rename_i c; have := mo_nle c; omega
  generalize hx : ((if m ≤ y then m else y) : Int32) = x
  have a2 : x.toInt ≤ y.toInt := by
    rw [← hx]
    split
    · rename_i c; rw [Int32.le_iff_toInt_le] at c; exact c
    · exact Int.le_refl _
  split
  · rename_i c
    rw [Int32.le_iff_toInt_le, Int32.toInt_zero] at c
    exact ⟨_, nn_of c, by omega, Or.inr (by omega)⟩
  · exact ⟨0, rfl, by omega, Or.inl rfl⟩
theorem M_unsent_int {g : se_G} {c s : Nat} (q1 : g 0 13 = Int32.ofNat c ∧ c ≤ 2048) (q3 : g 0 10 = g 0 14 + Int32.ofNat s) (hs : s ≤ 4000) : (F_M_unsent g).toInt = (c : Int) - s := by
  unfold F_M_unsent
  have q1b := q1.2
  rw [q3, q1.1, Int32.add_comm, Int32.add_sub_cancel, mo_sub (by rw [nn_int (by omega), nn_int (by omega)]; omega) (by rw [nn_int (by omega), nn_int (by omega)]; omega), nn_int (by omega), nn_int (by omega)]
theorem M_I_sendFresh {j : Nat} {g : se_G} (hj : j ≤ 600) (h : M_I j g) : M_I (j + 1) (F_M_sendFresh g).2 := by
  unfold F_M_sendFresh
  split
  · exact M_I_up h
  · rename_i c0
    obtain ⟨s0, s1, s2, s3, s11⟩ := M_sends_state c0
    obtain ⟨c, e, s, q1, q2, q3, q4, q5⟩ := M_I_Gn h s0 s1 s2 s3 s11
    have q1b := q1.2
    have un := M_unsent_int q1 q3 (by omega)
    obtain ⟨k, hk, hk1, hk2⟩ := M_can_n (p := g 0 11) (n := F_M_unsent g) (m := (((g 0 9) + (g 0 15)) - (g 0 10))) h.1.2.2.1
    unfold F_M_sendFresh_j29
    rw [hk]
    unfold F_M_sendFresh_j67 F_M_sendFresh_j91
    generalize ((if (F_M_owesLast g) = 0 then 0 else ((if Int32.ofNat k = F_M_unsent g then ((if (((g 0 9) + (g 0 15)) - (g 0 10)) ≤ Int32.ofNat k then 0 else 1) : Int32) else 0) : Int32)) : Int32) = b
    have nw : M_I (j + 1) (F_M_sendNew g (Int32.ofNat k) b) := M_I_sendNew h.1 ⟨s1, s2, s3⟩ q1 q2 q3 q4 q5 (by omega) hk1
    split
    · exact nw
    · split
      · split
        · exact M_I_up h
        · have h2 : M_R (se_u g 0 32 0) := M_R_same h.1 rfl rfl rfl rfl rfl rfl
          split
          · exact M_I_sendNew (g := se_u g 0 32 0) (m := 0) (c := c) (e := e) (s := s) h2 ⟨s1, s2, s3⟩ q1 q2 q3 q4 q5 (Or.inl rfl) (by omega)
          · rename_i c3
            have c4 := mo_nle c3
            rw [Int32.toInt_zero] at c4
            exact M_I_sendNew (g := se_u g 0 32 0) (m := 1) (c := c) (e := e) (s := s) h2 ⟨s1, s2, s3⟩ q1 q2 q3 q4 q5 (Or.inr (by omega)) (by omega)
      · exact nw
theorem M_I_next {j : Nat} {g : se_G} (hj : j ≤ 600) (h : M_I j g) : M_I (j + 1) (F_M_next g).2 := by
  unfold F_M_next
  split
  · split
    · split
      · have h1 := M_I_sendFresh hj (M_I_code (v := 0) h)
        unfold F_M_next_k1
        split
        · split
          · exact h1
          · exact M_I_tb (n := 0) h1 (by decide)
        · exact h1
      · exact M_I_up (M_I_sendAgain (M_I_code h))
    · exact M_I_up (M_I_sendOpen (M_I_code h))
  · exact M_I_up (M_I_make (M_I_u (M_I_code h) rfl))
theorem M_I_nx {j : Nat} {g : se_G} (hj : j ≤ 588) (h : M_I j g) : mo_nx g := by
  obtain ⟨c, hc, hc1⟩ := h.1.1
  refine ⟨⟨h.1.2.2.1, ?_, ?_, ?_⟩, ?_⟩
  · rw [hc, nn_int (by omega)]; omega
  · rw [hc, nn_int (by omega)]; omega
  · by_cases c0 : F_M_sends g = 0
    · exact Or.inl c0
    · obtain ⟨s0, s1, s2, s3, s11⟩ := M_sends_state c0
      obtain ⟨c, e, s, q1, q2, q3, q4, q5⟩ := M_I_Gn h s0 s1 s2 s3 s11
      have q1b := q1.2
      refine Or.inr ?_
      rw [q3, Int32.add_comm, Int32.add_sub_cancel, nn_int (by omega)]
      omega
  · rcases h.2 with ⟨hq, hs⟩ | ⟨hq, hs⟩ | ⟨hq, hs⟩
    · exact Or.inl hq.2.2.2
    · exact Or.inl hq.2.2.2
    · obtain ⟨c, e, s, q1, q2, q3, q4, q5⟩ := hq
      refine Or.inr ?_
      have q1b := q1.2
      rw [q2, Int32.add_comm, Int32.add_sub_cancel, nn_int (by omega)]
      omega

