/-! written by program (wip/gen) -/
theorem M_clear_31 : ∀ (k n : Nat) (g : se_G) (v : Int32), v = Int32.ofNat (2048 - k) → k < n → k ≤ 2048 → F_M_clear_j72 n g v 0 31 = 0 := by
  intro k
  induction k with
  | zero =>
    intro n g v hv h1 h2
    subst hv
    cases n with
    | zero => omega
    | succ n => rw [F_M_clear_j72, if_pos (show (2048 : Int32) ≤ Int32.ofNat (2048 - 0) from (nn_le (m := 2048) (n := 2048) (by omega) (by omega)).mpr (by omega))]; rfl
  | succ k ih =>
    intro n g v hv h1 h2
    subst hv
    cases n with
    | zero => omega
    | succ n =>
      rw [F_M_clear_j72, if_neg (show ¬ (2048 : Int32) ≤ Int32.ofNat (2048 - (k + 1)) from fun z => absurd ((nn_le (m := 2048) (n := 2048 - (k + 1)) (by omega) (by omega)).mp z) (by omega)), nn_succ, show 2048 - (k + 1) + 1 = 2048 - k by omega]
      exact ih n _ _ rfl (by omega) (by omega)
theorem M_clear_at {g : se_G} {p : Int32} : F_M_clear g p 0 8 = p ∧ F_M_clear g p 0 9 = p ∧ F_M_clear g p 0 10 = p ∧ F_M_clear g p 0 14 = p + 1 ∧ F_M_clear g p 0 13 = 0 ∧ F_M_clear g p 0 11 = g 0 0 ∧ F_M_clear g p 0 20 = 0 ∧ F_M_clear g p 0 31 = 0 := by
  unfold F_M_clear
  refine ⟨?_, ?_, ?_, ?_, ?_, ?_, ?_, ?_⟩
  · rw [fr_F_M_clear_j72 (o := 0) (j := 8) rfl]; rfl
  · rw [fr_F_M_clear_j72 (o := 0) (j := 9) rfl]; rfl
  · rw [fr_F_M_clear_j72 (o := 0) (j := 10) rfl]; rfl
  · rw [fr_F_M_clear_j72 (o := 0) (j := 14) rfl]; rfl
  · rw [fr_F_M_clear_j72 (o := 0) (j := 13) rfl]; rfl
  · rw [fr_F_M_clear_j72 (o := 0) (j := 11) rfl]; rfl
  · rw [fr_F_M_clear_j72 (o := 0) (j := 20) rfl]; rfl
  · exact M_clear_31 2048 _ _ _ rfl (by decide) (by omega)
theorem M_clear_R {g : se_G} {p : Int32} (h : M_R g) : M_R (F_M_clear g p) := by
  obtain ⟨e8, e9, e10, e14, e13, e11, e20, e31⟩ := M_clear_at (g := g) (p := p)
  have e0 := fr_F_M_clear (o := 0) (j := 0) rfl g p
  have e45 := fr_F_M_clear (o := 0) (j := 45) rfl g p
  have e49 := fr_F_M_clear (o := 0) (j := 49) rfl g p
  unfold M_R
  rw [e0, e11, e13, e20, e45, e49]
  exact ⟨⟨0, rfl, by omega⟩, h.2.1, h.2.1, ⟨0, rfl, by omega⟩, h.2.2.2.2.1, h.2.2.2.2.2⟩
theorem M_I_begin_k1 {j : Nat} {g1 : se_G} {p2 : Int32} (hr : M_R g1) (e9 : g1 0 9 = g1 0 8) (e10 : g1 0 10 = g1 0 8) (e14 : g1 0 14 = g1 0 8 + 1) (e31 : g1 0 31 = 0) : M_I j (F_M_begin_k1 p2 g1) := by
  unfold F_M_begin_k1
  by_cases c : p2 = 0
  · simp only [if_pos c]
    exact ⟨M_R_same hr rfl rfl rfl rfl rfl rfl, Or.inr (Or.inl ⟨⟨e9, rfl, e14, e31⟩, Or.inr (Or.inl rfl)⟩)⟩
  · simp only [if_neg c]
    exact ⟨M_R_same hr rfl rfl rfl rfl rfl rfl, Or.inl ⟨⟨e9, e10, e14, e31⟩, Or.inr (Or.inl rfl)⟩⟩
theorem M_I_begin {j : Nat} {g : se_G} {p1 p2 : Int32} (h : M_I j g) : M_I j (F_M_begin g p1 p2) := by
  unfold F_M_begin
  generalize ((if (g 0 4) = 0 then 0 else ((if (g 0 4) = 11 then 0 else 1) : Int32)) : Int32) = v
  split
  · obtain ⟨e8, e9, e10, e14, e13, e11, e20, e31⟩ := M_clear_at (g := se_u g 0 2 v) (p := p1)
    exact M_I_begin_k1 (M_clear_R (p := p1) (M_I_code (v := v) h).1) (e9.trans e8.symm) (e10.trans e8.symm) (by rw [e14, e8]) e31
  · exact M_I_code h
theorem M_I_13 {j : Nat} {g g' : se_G} {c c' : Nat} (h : M_I j g) (hc : g 0 13 = Int32.ofNat c) (hc1 : c ≤ 2048) (hc' : g' 0 13 = Int32.ofNat c') (h1 : c ≤ c') (h2 : c' ≤ 2048) (w : Nat → Nat → Bool) (hf : ∀ o k, w o k = false → g' o k = g o k) (hw : (w 0 0 || w 0 4 || w 0 8 || w 0 9 || w 0 10 || w 0 11 || w 0 14 || w 0 20 || w 0 31 || w 0 45 || w 0 49) = false) : M_I j g' := by
  simp only [Bool.or_eq_false_iff] at hw
  obtain ⟨⟨⟨⟨⟨⟨⟨⟨⟨⟨w0, w4⟩, w8⟩, w9⟩, w10⟩, w11⟩, w14⟩, w20⟩, w31⟩, w45⟩, w49⟩ := hw
  have e0 := hf _ _ w0
  have e4 := hf _ _ w4
  have e8 := hf _ _ w8
  have e9 := hf _ _ w9
  have e10 := hf _ _ w10
  have e11 := hf _ _ w11
  have e14 := hf _ _ w14
  have e20 := hf _ _ w20
  have e31 := hf _ _ w31
  have e45 := hf _ _ w45
  have e49 := hf _ _ w49
  refine ⟨⟨⟨c', hc', h2⟩, by rw [e0]; exact h.1.2.1, by rw [e11]; exact h.1.2.2.1, by rw [e20]; exact h.1.2.2.2.1, by rw [e45]; exact h.1.2.2.2.2.1, by rw [e49]; exact h.1.2.2.2.2.2⟩, ?_⟩
  rcases h.2 with ⟨hq, hs⟩ | ⟨hq, hs⟩ | ⟨hq, hs⟩
  · exact Or.inl ⟨by unfold M_A0; rw [e8, e9, e10, e14, e31]; exact hq, by rw [e4]; exact hs⟩
  · exact Or.inr (Or.inl ⟨by unfold M_A1; rw [e8, e9, e10, e14, e31]; exact hq, by rw [e4]; exact hs⟩)
  · obtain ⟨c0, e, s, q1, q2, q3, q4, q5⟩ := hq
    have q1b := q1.2
    have hcc : c0 = c := by
      have z := q1.1
      rw [hc, nn_inj (by omega) (by omega)] at z
      exact z.symm
    refine Or.inr (Or.inr ⟨⟨c', e, s, ⟨hc', h2⟩, by rw [e9, e14, q2], by rw [e10, e14, q3], q4, by omega⟩, by rw [e4]; exact hs⟩)
theorem nn_lt2048 {g : se_G} {c : Nat} (hc : g 0 13 = Int32.ofNat c) (h : c ≤ 2048) (q : ¬ 2048 ≤ g 0 13) : c + 1 ≤ 2048 := by
  rw [hc, show (2048 : Int32) = Int32.ofNat 2048 from rfl, nn_le (by omega) (by omega)] at q
  omega
theorem M_I_write_loop {j : Nat} : ∀ (n : Nat) (g : se_G) (v : Int64) (a b : Int32), M_I j g → M_I j (F_M_write_j84 n g v a b).2 := by
  intro n
  induction n with
  | zero => intro g v a b h; exact h
  | succ n ih =>
    intro g v a b h
    rw [F_M_write_j84]
    split
    · exact M_I_watch h
    · split
      · exact M_I_watch h
      · rename_i c1 c2
        obtain ⟨c, hc, hc1⟩ := h.1.1
        refine ih _ _ _ _ ?_
        refine M_I_13 (c := c) (c' := c + 1) h hc hc1 (by rw [se_u_eq, hc, nn_succ]) (by omega) (nn_lt2048 hc hc1 c2) (fun o k => o == 1 || (o == 0 && k == 13)) ?_ rfl
        intro o k hz
        simp only [Bool.or_eq_false_iff, Bool.and_eq_false_iff, beq_eq_false_iff_ne, ne_eq] at hz
        rw [se_u_ne (by omega), se_u_ne (by omega)]
theorem M_I_write {j : Nat} {g : se_G} {v : Int64} {p : Int32} (h : M_I j g) : M_I j (F_M_write g v p).2 := by
  rw [F_M_write]
  generalize ((if p < 1 then 1 else ((if p ≤ 8 then ((if ((if (g 0 6) = 0 then ((if (g 0 4) = 0 then 1 else ((if (g 0 4) = 1 then 1 else ((if (g 0 4) = 11 then 1 else 0) : Int32)) : Int32)) : Int32) else 1) : Int32) = 0 then 0 else 2) : Int32) else 1) : Int32)) : Int32) = x
  split
  · exact M_I_write_loop _ _ _ _ _ (M_I_code h)
  · exact M_I_code h
theorem M_I_20 {j : Nat} {g : se_G} {x : Int32} (h : M_I j g) (hx : ∃ n : Nat, x = Int32.ofNat n ∧ n ≤ 2048) : M_I j (se_u g 0 20 x) := by
  refine ⟨?_, M_Q_same h.2 rfl rfl rfl rfl rfl rfl rfl⟩
  obtain ⟨h1, h2, h3, h4, h5⟩ := h.1
  exact ⟨h1, h2, h3, hx, h5⟩
theorem M_I_45 {j : Nat} {g : se_G} {x : Int32} (h : M_I j g) (hx : ∃ n : Nat, x = Int32.ofNat n ∧ n ≤ 1460) : M_I j (se_u g 0 45 x) := by
  refine ⟨?_, M_Q_same h.2 rfl rfl rfl rfl rfl rfl rfl⟩
  obtain ⟨h1, h2, h3, h4, h5, h6⟩ := h.1
  exact ⟨h1, h2, h3, h4, hx, h6⟩
theorem M_I_49 {j : Nat} {g : se_G} {x : Int32} (h : M_I j g) (hx : x.toInt ≤ 1460) : M_I j (se_u g 0 49 x) := by
  refine ⟨?_, M_Q_same h.2 rfl rfl rfl rfl rfl rfl rfl⟩
  obtain ⟨h1, h2, h3, h4, h5, h6⟩ := h.1
  exact ⟨h1, h2, h3, h4, h5, hx⟩
theorem M_I_read_loop {j : Nat} : ∀ (n : Nat) (g : se_G) (a b c : Int32), M_I j g → ¬ g 0 20 = 0 → M_I j (F_M_read_j101 n g a b c).2 := by
  intro n
  induction n with
  | zero => intro g a b c h _; exact h
  | succ n ih =>
    intro g a b c h hn
    rw [F_M_read_j101]
    split
    · obtain ⟨k, hk, hk1⟩ := h.1.2.2.2.1
      refine M_I_thank (M_I_20 (M_I_arr h (by decide)) ?_)
      have hk0 : ¬ k = 0 := by rintro rfl; exact hn hk
      refine ⟨k - 1, ?_, by omega⟩
      rw [hk, show k = k - 1 + 1 by omega, nn_pred]; rfl
    · exact ih _ _ _ _ (M_I_arr (M_I_arr h (by decide)) (by decide)) hn
theorem M_I_read {j : Nat} {g : se_G} (h : M_I j g) : M_I j (F_M_read g).2 := by
  rw [F_M_read]
  generalize ((if ((if (g 0 4) = 0 then 1 else ((if (g 0 4) = 1 then 1 else ((if (g 0 4) = 11 then 1 else 0) : Int32)) : Int32)) : Int32) = 0 then 0 else ((if (g 0 24) = 0 then 1 else 0) : Int32)) : Int32) = x
  split
  · split
    · split
      · exact M_I_code (M_I_code h)
      · exact M_I_code (M_I_code h)
    · exact M_I_code (M_I_code h)
  · rename_i c
    exact M_I_read_loop _ _ _ _ _ (M_I_code h) c
theorem M_I_run {j : Nat} {g : se_G} {p : Int32} (h : M_I j g) : M_I j (F_M_run g p).2 := by
  have lp : ∀ (n : Nat) (g : se_G) (a b : Int32), M_I j g → M_I j (F_M_run_j47 n g a b).2 := by
    intro n
    induction n with
    | zero => intro g a b h; exact h
    | succ n ih =>
      intro g a b h
      by_cases c : a ≤ b
      · rw [F_M_run_j47, if_pos c]; exact h
      · rw [M_run_step n g a b c]; exact ih _ _ _ (M_I_tick h)
  rw [F_M_run]
  generalize ((if ((g 0 3) + p) ≤ 1000000 then 0 else 2) : Int32) = x
  split
  · exact M_I_code h
  · split
    · split
      · exact lp _ _ _ _ (M_I_code h)
      · exact M_I_code h
    · exact M_I_code h
theorem M_I_fedN {j : Nat} {v : Int64} : ∀ (k m : Nat) (g : se_G), g 0 45 = Int32.ofNat m → m + k ≤ 1460 → M_I j g → M_I j (M_fedN v k g) := by
  intro k
  induction k with
  | zero => intro m g _ _ h; exact h
  | succ k ih =>
    intro m g hm hk h
    rw [M_fedN]
    refine ih (m + 1) _ ?_ (by omega) ?_
    · rw [M_fed1, se_u_eq, hm, nn_succ]
    · exact M_I_45 (M_I_arr h (by decide)) ⟨m + 1, by rw [hm, nn_succ], by omega⟩
theorem M_feed_eq {g : se_G} {v : Int64} {m k : Nat} (hm : g 0 45 = Int32.ofNat m) (hm1 : m ≤ 1460) (h1 : 1 ≤ k) (h8 : k ≤ 8) (hk : m + k ≤ 1460) : F_M_feed g v (Int32.ofNat k) = (Int32.ofNat (m + k), M_fedN v k (se_u g 0 2 0)) := by
  have c1 : ¬ Int32.ofNat k < 1 := by rw [show (1 : Int32) = Int32.ofNat 1 from rfl, nn_lt (by omega) (by omega)]; omega
  have c2 : Int32.ofNat k ≤ 8 := by rw [show (8 : Int32) = Int32.ofNat 8 from rfl, nn_le (by omega) (by omega)]; omega
  have c3 : g 0 45 + Int32.ofNat k ≤ 1460 := by rw [hm, ← Int32.ofNat_add, show (1460 : Int32) = Int32.ofNat 1460 from rfl, nn_le (by omega) (by omega)]; omega
  rw [F_M_feed, if_neg c1, if_pos c2, if_pos c3, if_pos (by decide)]
  have e9 : (Int32.ofNat k - 1).toInt = (k : Int) - 1 := by rw [mo_sub (by rw [nn_int (by omega), mo_1]; omega) (by rw [nn_int (by omega), mo_1]; omega), nn_int (by omega), mo_1]
  rw [M_feed_loop v k _ _ (by rw [e9]; omega) (by omega), M_fedN_n k (se_u g 0 2 0) (m := m) hm]
theorem M_feed_bad1 {g : se_G} {v : Int64} {p : Int32} (h : p < 1 ∨ ¬ p ≤ 8) : F_M_feed g v p = (0, se_u g 0 2 1) := by
  by_cases c1 : p < 1
  · rw [F_M_feed, if_pos c1]; rfl
  · rw [F_M_feed, if_neg c1, if_neg (h.resolve_left c1)]; rfl
theorem M_feed_bad2 {g : se_G} {v : Int64} {m k : Nat} (hm : g 0 45 = Int32.ofNat m) (hm1 : m ≤ 1460) (h1 : 1 ≤ k) (h8 : k ≤ 8) (hk : ¬ m + k ≤ 1460) : F_M_feed g v (Int32.ofNat k) = (0, se_u g 0 2 2) := by
  have c1 : ¬ Int32.ofNat k < 1 := by rw [show (1 : Int32) = Int32.ofNat 1 from rfl, nn_lt (by omega) (by omega)]; omega
  have c2 : Int32.ofNat k ≤ 8 := by rw [show (8 : Int32) = Int32.ofNat 8 from rfl, nn_le (by omega) (by omega)]; omega
  have c3 : ¬ g 0 45 + Int32.ofNat k ≤ 1460 := by rw [hm, ← Int32.ofNat_add, show (1460 : Int32) = Int32.ofNat 1460 from rfl, nn_le (by omega) (by omega)]; omega
  rw [F_M_feed, if_neg c1, if_pos c2, if_neg c3, if_neg (by decide)]
theorem nn_hand {p : Int32} (h1 : ¬ p < 1) (h8 : p ≤ 8) : ∃ k : Nat, p = Int32.ofNat k ∧ 1 ≤ k ∧ k ≤ 8 := by
  rw [Int32.lt_iff_toInt_lt, mo_1] at h1
  rw [Int32.le_iff_toInt_le, show (8 : Int32).toInt = 8 by decide] at h8
  exact ⟨_, nn_of (by omega), by omega, by omega⟩
theorem M_I_feed {j : Nat} {g : se_G} {v : Int64} {p : Int32} (h : M_I j g) : M_I j (F_M_feed g v p).2 := by
  obtain ⟨m, hm, hm1⟩ := h.1.2.2.2.2.1
  by_cases c1 : p < 1
  · rw [M_feed_bad1 (Or.inl c1)]; exact M_I_code h
  by_cases c2 : p ≤ 8
  · obtain ⟨k, rfl, hk1, hk8⟩ := nn_hand c1 c2
    by_cases c3 : m + k ≤ 1460
    · rw [M_feed_eq hm hm1 hk1 hk8 c3]; exact M_I_fedN k m _ hm c3 (M_I_code h)
    · rw [M_feed_bad2 hm hm1 hk1 hk8 c3]; exact M_I_code h
  · rw [M_feed_bad1 (Or.inr c2)]; exact M_I_code h

