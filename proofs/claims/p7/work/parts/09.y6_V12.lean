/-! written by program (wip/gen) -/
theorem M_I_tell {j : Nat} {g : se_G} {a b c : Int32} (h : M_I j g) : M_I j (F_M_tell g a b c) := M_I_fr h w_F_M_tell (fun _ _ z => fr_F_M_tell z g a b c) rfl
theorem M_I_resets {j : Nat} {g : se_G} {a b c : Int32} (h : M_I j g) : M_I j (F_M_resets g a b c) := M_I_fr h w_F_M_resets (fun _ _ z => fr_F_M_resets z g a b c) rfl
theorem M_I_wasLast {j : Nat} {g : se_G} (h : M_I j g) : M_I j (F_M_wasLast g).2 := by
  have gn : ∀ p : Int32, g 0 4 = p → (¬ p = 0 ∧ ¬ p = 1 ∧ ¬ p = 2 ∧ ¬ p = 3 ∧ ¬ p = 11) → M_Gn j g := by
    intro p hp hh
    subst hp
    exact M_I_Gn h hh.1 hh.2.1 hh.2.2.1 hh.2.2.2.1 hh.2.2.2.2
  have a87 : ∀ v, M_I j (F_M_wasLast_j87 g v).2 := by
    intro v
    unfold F_M_wasLast_j87
    split
    · exact h
    · split
      · exact M_I_end h (Or.inl rfl)
      · exact h
  have a65 : ∀ v, M_I j (F_M_wasLast_j65 g v).2 := by
    intro v
    unfold F_M_wasLast_j65
    split
    · exact a87 _
    · split
      · rename_i c; exact M_I_to (p := 10) h.1 (gn 8 c (by decide)) (by decide)
      · exact a87 _
  unfold F_M_wasLast
  generalize ((if (g 0 6) = 0 then 0 else ((if (g 0 13) = 0 then ((if (g 0 9) = (g 0 10) then ((if ((g 0 10) - (g 0 14)) = 1 then 1 else 0) : Int32) else 0) : Int32) else 0) : Int32)) : Int32) = v
  split
  · exact a65 _
  · split
    · rename_i c; exact M_I_to (p := 6) h.1 (gn 5 c (by decide)) (by decide)
    · exact a65 _
theorem M_I_take301 {j : Nat} {g : se_G} {a b : Int32} (h : M_I j g) (hb : b = 0 ∨ M_Gn j g) : M_I j (F_M_take_j301 g a b) := by
  unfold F_M_take_j301
  generalize ((if (g 0 33) = 0 then ((if 0 < (g 0 45) then 1 else ((if (F_M_has a 2) = 0 then 0 else 1) : Int32)) : Int32) else 1) : Int32) = t
  have hp : ∀ p : Int32, ¬ ((if p = 4 then 7 else ((if p = 5 then 8 else 10) : Int32)) : Int32) = 1 ∧ ¬ ((if p = 4 then 7 else ((if p = 5 then 8 else 10) : Int32)) : Int32) = 2 ∧ ¬ ((if p = 4 then 7 else ((if p = 5 then 8 else 10) : Int32)) : Int32) = 3 := by
    intro p
    by_cases c4 : p = 4
    · rw [if_pos c4]; decide
    · rw [if_neg c4]
      by_cases c5 : p = 5
      · rw [if_pos c5]; decide
      · rw [if_neg c5]; decide
  split
  · exact M_I_thank h
  · rename_i c
    split
    · exact M_I_thank h
    · split
      · have h1 : M_I j (se_u (se_u (se_u g 0 33 t) 0 21 (g 0 21 + 1)) 0 24 1) := M_I_u (M_I_u (M_I_thank h) rfl) rfl
        exact M_I_to h1.1 (M_Gn_same (hb.resolve_left c) rfl rfl rfl rfl) (hp _)
      · exact M_I_thank h
theorem M_I_take223 {j : Nat} {a b : Int32} : ∀ (n : Nat) (g : se_G), M_I j g → (b = 0 ∨ M_Gn j g) → M_I j (F_M_take_j223 n g a b) := by
  intro n
  induction n with
  | zero => intro g h _; exact h
  | succ n ih =>
    intro g h hb
    have t := M_I_take301 (a := a) h hb
    have up : ¬ 2048 ≤ g 0 20 → M_I j (se_u (se_u (se_u g 3 (Int32.toNatClampNeg (g 0 20)) (vp_nar .boolean 0)) 0 20 (g 0 20 + 1)) 0 21 (g 0 21 + 1)) := by
      intro c
      obtain ⟨k, hk, hk1⟩ := h.1.2.2.2.1
      refine M_I_u (M_I_20 (M_I_arr h (by decide)) ⟨k + 1, by rw [hk, nn_succ], ?_⟩) rfl
      rw [hk, show (2048 : Int32) = Int32.ofNat 2048 from rfl, nn_le (by omega) (by omega)] at c
      omega
    have hg : b = 0 ∨ M_Gn j (se_u (se_u (se_u g 3 (Int32.toNatClampNeg (g 0 20)) (vp_nar .boolean 0)) 0 20 (g 0 20 + 1)) 0 21 (g 0 21 + 1)) := by
      rcases hb with z | z
      · exact Or.inl z
      · exact Or.inr (M_Gn_same z rfl rfl rfl rfl)
    rw [F_M_take_j223]
    split
    · exact t
    · split
      · exact t
      · rename_i c
        split
        · exact t
        · split
          · exact ih _ (up c) hg
          · split
            · exact t
            · exact ih _ (up c) hg
theorem M_I_take167 {j : Nat} {g : se_G} {a b c d : Int32} (h : M_I j g) (hb : c = 0 ∨ M_Gn j g) : M_I j (F_M_take_j167 g a b c d) := by
  have t : ∀ n, M_I j (F_M_take_j223 n g a c) := fun n => M_I_take223 n g h hb
  unfold F_M_take_j167
  split
  · exact t _
  · split
    · exact t _
    · split
      · exact t _
      · split
        · exact t _
        · split
          · refine M_I_take223 _ _ (M_I_u (M_I_u h rfl) rfl) ?_
            rcases hb with z | z
            · exact Or.inl z
            · exact Or.inr (M_Gn_same z rfl rfl rfl rfl)
          · exact t _
theorem M_I_take48 {j : Nat} {a b c d : Int32} : ∀ (n : Nat) (g : se_G) (k : Int32), M_I j g → (c = 0 ∨ M_Gn j g) → M_I j (F_M_take_j48 n g a b c d k) := by
  intro n
  induction n with
  | zero => intro g k h _; exact h
  | succ n ih =>
    intro g k h hb
    have t := M_I_take167 (a := a) (b := b) (d := d) h hb
    rw [F_M_take_j48]
    generalize ((if (g 0 22) = 0 then 0 else ((if (((g 0 21) + (b + k)) - (g 0 23)) < 0 then 0 else 1) : Int32)) : Int32) = t0
    split
    · exact t
    · split
      · exact t
      · split
        · exact ih _ _ h hb
        · split
          · exact ih _ _ h hb
          · split
            · split
              · refine ih _ _ (M_I_arr (M_I_arr h (by decide)) (by decide)) ?_
                rcases hb with z | z
                · exact Or.inl z
                · exact Or.inr (M_Gn_same z rfl rfl rfl rfl)
              · exact ih _ _ h hb
            · exact ih _ _ h hb
theorem M_I_take {j : Nat} {g : se_G} {a b : Int32} (h : M_I j g) : M_I j (F_M_take g a b) := by
  unfold F_M_take
  refine M_I_take48 _ _ _ h ?_
  have gn : ∀ p : Int32, g 0 4 = p → (¬ p = 0 ∧ ¬ p = 1 ∧ ¬ p = 2 ∧ ¬ p = 3 ∧ ¬ p = 11) → M_Gn j g := by
    intro p hp hh
    subst hp
    exact M_I_Gn h hh.1 hh.2.1 hh.2.2.1 hh.2.2.2.1 hh.2.2.2.2
  by_cases c4 : g 0 4 = 4
  · exact Or.inr (gn 4 c4 (by decide))
  · by_cases c5 : g 0 4 = 5
    · exact Or.inr (gn 5 c5 (by decide))
    · by_cases c6 : g 0 4 = 6
      · exact Or.inr (gn 6 c6 (by decide))
      · rw [if_neg c4, if_neg c5, if_neg c6]; exact Or.inl rfl
theorem M_I_others192 {j : Nat} {g : se_G} {a b c d : Int32} (h : M_I j g) : M_I j (F_M_toOthers_j192 g a b c d) := by
  unfold F_M_toOthers_j192 F_M_toOthers_k2 F_M_toOthers_k1
  have h1 := M_I_wasLast (M_I_tell (a := b) (b := c) (c := d) h)
  split
  · exact M_I_take h1
  · exact h1
theorem M_I_others178 {j : Nat} {g : se_G} {a b c d : Int32} (hj : j ≤ 600) (h : M_R g) (hx : M_X j g c) (hs : ¬ g 0 4 = 1 ∧ ¬ g 0 4 = 2 ∧ ¬ g 0 4 = 3) (h2 : c - g 0 10 ≤ 0) : M_I j (F_M_toOthers_j178 g a b c d) := by
  unfold F_M_toOthers_j178
  split
  · rename_i c0
    refine M_I_others192 ?_
    rcases hx with hg | ⟨ha, hu⟩
    · exact ⟨h, Or.inr (Or.inr ⟨hg, hs⟩)⟩
    · exfalso
      rw [hu, ha.2.1, ha.1, Int32.add_comm, Int32.add_sub_cancel] at c0
      exact absurd c0 (by decide)
  · rename_i c0
    obtain ⟨r1, r2⟩ := M_Gn_thanked hj h hx c0 h2
    refine M_I_others192 ⟨r1, Or.inr (Or.inr ⟨r2, ?_⟩)⟩
    rw [fr_F_M_thanked (o := 0) (j := 4) rfl]
    exact hs
theorem M_I_hit {j : Nat} {g : se_G} {p : Int32} (h : M_I j g) (hs : ¬ g 0 4 = 0 ∧ ¬ g 0 4 = 1 ∧ ¬ g 0 4 = 2 ∧ ¬ g 0 4 = 11) : M_I j (F_M_hitByReset g p) := by
  have a43 : M_I j (F_M_hitByReset_j43 g) := by
    unfold F_M_hitByReset_j43
    by_cases c8 : g 0 4 = 8
    · rw [if_pos c8]; exact M_I_end h (Or.inl rfl)
    · rw [if_neg c8]
      by_cases c9 : g 0 4 = 9
      · rw [if_pos c9]; exact M_I_end h (Or.inl rfl)
      · rw [if_neg c9]
        by_cases c10 : g 0 4 = 10
        · rw [if_pos c10]; exact M_I_end h (Or.inl rfl)
        · rw [if_neg c10]; exact M_I_end h (Or.inr rfl)
  unfold F_M_hitByReset
  split
  · exact M_I_thank h
  · split
    · split
      · exact a43
      · obtain ⟨e8, e9, e10, e14, e13, e11, e20, e31⟩ := M_clear_at (g := g) (p := g 0 8)
        have hr := M_clear_R (p := g 0 8) h.1
        have fin : ∀ g1 : se_G, M_R g1 → g1 0 9 = g1 0 8 → g1 0 10 = g1 0 8 → g1 0 14 = g1 0 8 + 1 → g1 0 31 = 0 → M_I j (se_u g1 0 4 1) := by
          intro g1 r a1 a2 a3 a4
          exact ⟨M_R_same r rfl rfl rfl rfl rfl rfl, Or.inl ⟨⟨a1, a2, a3, a4⟩, Or.inr (Or.inl rfl)⟩⟩
        exact fin _ hr (e9.trans e8.symm) (e10.trans e8.symm) (by rw [e14, e8]) e31
    · exact a43
theorem M_I_others {j : Nat} {g : se_G} {a b c d : Int32} (hj : j ≤ 600) (h : M_I j g) (hs : ¬ g 0 4 = 0 ∧ ¬ g 0 4 = 1 ∧ ¬ g 0 4 = 2 ∧ ¬ g 0 4 = 11) : M_I j (F_M_toOthers g a b c d) := by
  unfold F_M_toOthers
  split
  · split
    · split
      · exact M_I_thank h
      · exact M_I_u (M_I_thank h) rfl
    · exact M_I_thank h
  · split
    · split
      · split
        · exact h
        · split
          · rename_i c3
            split
            · rename_i cn
              have ha : M_A1 g := by
                rcases h.2 with ⟨_, z | z | z⟩ | ⟨q, _⟩ | ⟨_, _, _, z⟩
                · exact absurd z hs.1
                · exact absurd z hs.2.1
                · exact absurd z hs.2.2.2
                · exact q
                · exact absurd c3 z
              refine M_I_others178 hj (M_R_same h.1 rfl rfl rfl rfl rfl rfl) (Or.inr ⟨ha, cn⟩) ?_ ?_
              · show ¬ ((if g 0 6 = 0 then 4 else 5) : Int32) = 1 ∧ ¬ ((if g 0 6 = 0 then 4 else 5) : Int32) = 2 ∧ ¬ ((if g 0 6 = 0 then 4 else 5) : Int32) = 3
                split <;> decide
              · show c - g 0 10 ≤ 0
                rw [cn, Int32.sub_self]; decide
            · exact M_I_resets h
          · rename_i c3
            split
            · rename_i cn
              exact M_I_others178 hj h.1 (Or.inl (M_I_Gn h hs.1 hs.2.1 hs.2.2.1 c3 hs.2.2.2)) ⟨hs.2.1, hs.2.2.1, c3⟩ cn
            · exact M_I_thank h
      · exact M_I_thank h
    · exact M_I_hit h hs
theorem M_I_11 {j : Nat} {g : se_G} {x : Int32} (h : M_I j g) (hx : x.toInt ≤ 1460) : M_I j (se_u g 0 11 x) := by
  refine ⟨?_, M_Q_same h.2 rfl rfl rfl rfl rfl rfl rfl⟩
  obtain ⟨h1, h2, h3, h4⟩ := h.1
  exact ⟨h1, h2, hx, h4⟩
theorem M_I_greet {j : Nat} {g : se_G} {a b c d e : Int32} (h : M_I j g) : M_I j (F_M_greet g a b c d e) := by
  unfold F_M_greet
  exact M_I_u (M_I_u (M_I_u (M_I_11 (M_I_u (M_I_u h rfl) rfl) (mo_min h.1.2.1)) rfl) rfl) rfl
theorem M_I_listening {j : Nat} {g : se_G} {a b c d e : Int32} (h : M_I j g) (hs : g 0 4 = 1) : M_I j (F_M_toListening g a b c d e) := by
  unfold F_M_toListening
  split
  · split
    · split
      · exact h
      · have h1 := M_I_greet (a := a) (b := b) (c := c) (d := d) (e := e) h
        have e4 := fr_F_M_greet (o := 0) (j := 4) rfl g a b c d e
        generalize F_M_greet g a b c d e = g1 at h1 e4 ⊢
        rw [hs] at e4
        unfold F_M_toListening_k1
        have ha : M_A0 g1 := by
          rcases h1.2 with ⟨q, _⟩ | ⟨_, z | z | z | z⟩ | ⟨_, z, _⟩
          · exact q
          · rw [e4] at z; exact absurd z (by decide)
          · rw [e4] at z; exact absurd z (by decide)
          · rw [e4] at z; exact absurd z (by decide)
          · rw [e4] at z; exact absurd z (by decide)
          · exact absurd e4 z
        exact ⟨M_R_same h1.1 rfl rfl rfl rfl rfl rfl, Or.inr (Or.inl ⟨⟨ha.1, rfl, ha.2.2.1, ha.2.2.2⟩, Or.inr (Or.inr (Or.inl rfl))⟩)⟩
    · exact M_I_resets h
  · exact h
theorem M_I_asking31 {j : Nat} {g : se_G} {a b c d e f : Int32} (hj : j ≤ 600) (h : M_I j g) (hs : g 0 4 = 2) (hf : f = 0 ∨ c = g 0 10) : M_I j (F_M_toAsking_j31 g a b c d e f) := by
  unfold F_M_toAsking_j31
  split
  · split
    · exact h
    · have h1 := M_I_greet (a := a) (b := b) (c := c) (d := d) (e := e) h
      have e4 := fr_F_M_greet (o := 0) (j := 4) rfl g a b c d e
      have e10 := fr_F_M_greet (o := 0) (j := 10) rfl g a b c d e
      generalize F_M_greet g a b c d e = g1 at h1 e4 e10 ⊢
      rw [hs] at e4
      have ha : M_A1 g1 := by
        rcases h1.2 with ⟨_, z | z | z⟩ | ⟨q, _⟩ | ⟨_, _, z, _⟩
        · rw [e4] at z; exact absurd z (by decide)
        · rw [e4] at z; exact absurd z (by decide)
        · rw [e4] at z; exact absurd z (by decide)
        · exact q
        · exact absurd e4 z
      unfold F_M_toAsking_k1
      split
      · exact ⟨M_R_same h1.1 rfl rfl rfl rfl rfl rfl, Or.inr (Or.inl ⟨ha, Or.inr (Or.inr (Or.inl rfl))⟩)⟩
      · rename_i c0
        have hc : c = g1 0 10 := by rw [e10]; exact hf.resolve_left c0
        obtain ⟨r1, r2⟩ := M_Gn_thanked (j := j) (g := se_u (se_u g1 0 4 4) 0 29 0) (u := c) hj (M_R_same h1.1 rfl rfl rfl rfl rfl rfl) (Or.inr ⟨ha, hc⟩) (by
          show ¬ c - g1 0 9 ≤ 0
          rw [hc, ha.2.1, ha.1, Int32.add_comm, Int32.add_sub_cancel]; decide) (by
          show c - g1 0 10 ≤ 0
          rw [hc, Int32.sub_self]; decide)
        refine M_I_thank ⟨r1, Or.inr (Or.inr ⟨r2, ?_⟩)⟩
        rw [fr_F_M_thanked (o := 0) (j := 4) rfl]
        show ¬ (4 : Int32) = 1 ∧ ¬ (4 : Int32) = 2 ∧ ¬ (4 : Int32) = 3
        decide
  · split
    · exact h
    · exact M_I_end h (Or.inr rfl)
theorem M_I_asking {j : Nat} {g : se_G} {a b c d e : Int32} (hj : j ≤ 600) (h : M_I j g) (hs : g 0 4 = 2) : M_I j (F_M_toAsking g a b c d e) := by
  unfold F_M_toAsking
  split
  · rename_i c0
    exact M_I_asking31 hj h hs (Or.inl c0)
  · split
    · rename_i c1
      exact M_I_asking31 hj h hs (Or.inr c1)
    · exact M_I_resets h
theorem M_I_arrive143 {j : Nat} {g : se_G} (h : M_I j g) : M_I j (F_M_arrive_j143 g).2 := M_I_watch (M_I_45 h ⟨0, rfl, by omega⟩)
theorem M_I_arrive {j : Nat} {g : se_G} {a b c d e : Int32} (hj : j ≤ 600) (h : M_I j g) : M_I j (F_M_arrive g a b c d e).2 := by
  rw [F_M_arrive]
  generalize ((if ((if 65535 < e then 0 else 1) : Int32) = 0 then 1 else 0) : Int32) = x
  have h1 : M_I j (se_u g 0 2 x) := M_I_code h
  have bad : M_I j (F_M_arrive_j38 g a b c d e).2 := M_I_code h
  by_cases c1 : a < 0
  · rw [if_pos c1]; exact bad
  rw [if_neg c1]
  by_cases c2 : 15 < a
  · rw [if_pos c2]; exact bad
  rw [if_neg c2]
  by_cases c3 : d < 0
  · rw [if_pos c3]; exact bad
  rw [if_neg c3]
  by_cases c4 : 65535 < d
  · rw [if_pos c4]; exact bad
  rw [if_neg c4]
  by_cases c5 : e < 0
  · rw [if_pos c5]; exact bad
  rw [if_neg c5]
  by_cases c6 : x ≤ 0
  · rw [if_pos c6]
    by_cases s0 : g 0 4 = 0
    · rw [if_pos s0]; exact M_I_arrive143 (M_I_resets h1)
    rw [if_neg s0]
    by_cases s11 : g 0 4 = 11
    · rw [if_pos s11]; exact M_I_arrive143 (M_I_resets h1)
    rw [if_neg s11]
    by_cases s1 : g 0 4 = 1
    · rw [if_pos s1]; exact M_I_arrive143 (M_I_listening h1 s1)
    rw [if_neg s1]
    by_cases s2 : g 0 4 = 2
    · rw [if_pos s2]; exact M_I_arrive143 (M_I_asking hj h1 s2)
    rw [if_neg s2]
    exact M_I_arrive143 (M_I_others hj h1 ⟨s0, s1, s2, s11⟩)
  · rw [if_neg c6]; exact h1
theorem M_I_pa {j : Nat} {g : se_G} (h : M_I j g) : mo_pa g := by
  obtain ⟨⟨c, hc, hc1⟩, _, _, ⟨k, hk, hk1⟩, ⟨n, hn, hn1⟩, _⟩ := h.1
  unfold mo_pa mo_pb
  rw [hc, hk, hn, nn_int (by omega), nn_int (by omega), nn_int (by omega)]
  omega

