/-! written by program (wip/gen) -/
def rk (j : Nat) (g gm : se_G) : Prop := S_B g 7 ∧ S_B g 9 ∧ (∃ t : Nat, g 5 0 = Int32.ofNat t ∧ gm 0 3 = Int32.ofNat t ∧ t ≤ 1000000) ∧ g 7 1 = gm 0 45 ∧ M_I j gm
theorem rk_up {j : Nat} {g g' gm gm' : se_G} (h : rk j g gm) (h7 : g' 7 1 = g 7 1) (h9 : S_B g' 9) (h5 : g' 5 0 = g 5 0) (m3 : gm' 0 3 = gm 0 3) (m45 : gm' 0 45 = gm 0 45) (hi : M_I (j + 1) gm') : rk (j + 1) g' gm' := by
  obtain ⟨a1, a2, ⟨t, b1, b2, b3⟩, a4, a5⟩ := h
  exact ⟨S_B_same a1 h7, h9, ⟨t, by rw [h5, b1], by rw [m3, b2], b3⟩, by rw [h7, m45, a4], hi⟩
theorem S_run_t : ∀ (n k t : Nat) (g : se_G), k < n → g 5 0 = Int32.ofNat t → t + k < 2 ^ 31 → ∃ g' : se_G, F_S_run_j48 n g (Int32.ofNat k) = (0, Int32.ofNat (t + k), g') ∧ g' 5 0 = Int32.ofNat (t + k) := by
  intro n
  induction n with
  | zero => intro k t g h; omega
  | succ n ih =>
    intro k t g h1 h2 h3
    rw [F_S_run_j48]
    by_cases c : Int32.ofNat k ≤ 0
    · rw [if_pos c]
      have hk : k = 0 := by
        rw [show (0 : Int32) = Int32.ofNat 0 from rfl, nn_le (by omega) (by omega)] at c
        omega
      subst hk
      exact ⟨g, by rw [h2]; rfl, h2⟩
    · rw [if_neg c]
      have hk : 1 ≤ k := by
        rw [show (0 : Int32) = Int32.ofNat 0 from rfl, nn_le (by omega) (by omega)] at c
        omega
      have hstep : ∀ st : Int32, (∃ s : Nat, st = Int32.ofNat s ∧ 1 ≤ s ∧ s ≤ k) → ∃ g' : se_G, F_S_run_j48 n (F_S_takeEvents (se_u g 5 0 (g 5 0 + st))) (Int32.ofNat k - st) = (0, Int32.ofNat (t + k), g') ∧ g' 5 0 = Int32.ofNat (t + k) := by
        rintro st ⟨s, rfl, s1, s2⟩
        rw [nn_sub s2]
        obtain ⟨g', e1, e2⟩ := ih (k - s) (t + s) (F_S_takeEvents (se_u g 5 0 (g 5 0 + Int32.ofNat s))) (by omega) (by rw [fr_F_S_takeEvents (o := 5) (j := 0) rfl, se_u_eq, h2, ← Int32.ofNat_add]) (by omega)
        rw [show t + s + (k - s) = t + k by omega] at e1 e2
        exact ⟨g', e1, e2⟩
      apply hstep
      by_cases ca : g 5 1 = 0
      · rw [if_pos ca]; exact ⟨k, rfl, hk, Nat.le_refl _⟩
      · rw [if_neg ca]
        generalize F_S_Watch_ticksToAlarm g = T
        have hm : ((if T < Int32.ofNat k then T else Int32.ofNat k) : Int32).toInt ≤ k := by
          split
          · rename_i q; rw [Int32.lt_iff_toInt_lt, nn_int (by omega)] at q; omega
          · rw [nn_int (by omega)]; exact Int.le_refl _
        generalize ((if T < Int32.ofNat k then T else Int32.ofNat k) : Int32) = M at hm
        split
        · rename_i q
          rw [Int32.lt_iff_toInt_lt, mo_1] at q
          exact ⟨_, nn_of (by omega), by omega, by omega⟩
        · exact ⟨1, rfl, by omega, hk⟩
theorem M_tick_fr {g : se_G} {z : Nat} (h1 : w_F_M_watch 0 z = false) (h2 : w_F_M_ring 0 z = false) (h3 : w_F_M_becomes 0 z = false) (h4 : ¬ z = 3) : M_tick g 0 z = g 0 z := by
  have hb : (if g 0 4 = 10 then (if g 0 3 + 1 = g 0 43 then F_M_becomes (se_u g 0 3 (g 0 3 + 1)) 0 else se_u g 0 3 (g 0 3 + 1)) else se_u g 0 3 (g 0 3 + 1)) 0 z = g 0 z := by
    split
    · split
      · rw [fr_F_M_becomes h3, se_u_ne (by omega)]
      · rw [se_u_ne (by omega)]
    · rw [se_u_ne (by omega)]
  unfold M_tick
  rw [fr_F_M_watch h1]
  generalize (if g 0 4 = 10 then (if g 0 3 + 1 = g 0 43 then F_M_becomes (se_u g 0 3 (g 0 3 + 1)) 0 else se_u g 0 3 (g 0 3 + 1)) else se_u g 0 3 (g 0 3 + 1)) = g2 at hb ⊢
  split
  · rw [fr_F_M_ring h2]; exact hb
  · exact hb
theorem M_tick_3 {g : se_G} : M_tick g 0 3 = g 0 3 + 1 := by
  have hb : (if g 0 4 = 10 then (if g 0 3 + 1 = g 0 43 then F_M_becomes (se_u g 0 3 (g 0 3 + 1)) 0 else se_u g 0 3 (g 0 3 + 1)) else se_u g 0 3 (g 0 3 + 1)) 0 3 = g 0 3 + 1 := by
    split
    · split
      · rw [fr_F_M_becomes (o := 0) (j := 3) rfl]; rfl
      · rfl
    · rfl
  unfold M_tick
  rw [fr_F_M_watch (o := 0) (j := 3) rfl]
  generalize (if g 0 4 = 10 then (if g 0 3 + 1 = g 0 43 then F_M_becomes (se_u g 0 3 (g 0 3 + 1)) 0 else se_u g 0 3 (g 0 3 + 1)) else se_u g 0 3 (g 0 3 + 1)) = g2 at hb ⊢
  split
  · rw [fr_F_M_ring (o := 0) (j := 3) rfl]; exact hb
  · exact hb
theorem M_tickN_3 {g : se_G} {t : Nat} (ht : g 0 3 = Int32.ofNat t) : ∀ k : Nat, M_tickN k g 0 3 = Int32.ofNat (t + k) := by
  intro k
  induction k with
  | zero => exact ht
  | succ k ih => rw [M_tickN, M_tick_3, ih, nn_succ]; rfl
theorem M_tickN_fr {g : se_G} {z : Nat} (h1 : w_F_M_watch 0 z = false) (h2 : w_F_M_ring 0 z = false) (h3 : w_F_M_becomes 0 z = false) (h4 : ¬ z = 3) : ∀ k : Nat, M_tickN k g 0 z = g 0 z := by
  intro k
  induction k with
  | zero => rfl
  | succ k ih => rw [M_tickN, M_tick_fr h1 h2 h3 h4, ih]
theorem rk_run {j : Nat} {g gm : se_G} (h : rk j g gm) (p1 : Int32) : rk (j + 1) (F_S_run g p1).2.2 (F_M_run gm p1).2 ∧ F_M_thrown (F_M_run gm p1).2 = ((if (F_S_run g p1).1 = 0 then 0 else if (F_S_run g p1).1 = 1 then 1 else 2) : Int32) ∧ ((F_S_run g p1).1 = 0 → (F_S_run g p1).2.1 = (F_M_run gm p1).1) := by
  have hi := h.2.2.2.2
  obtain ⟨t, t1, t2, t3⟩ := h.2.2.1
  have same : ∀ v : Int32, rk (j + 1) g (se_u gm 0 2 v) := fun v => rk_up h rfl h.2.1 rfl rfl rfl (M_I_up (M_I_code hi))
  have bad : ∀ {x : Int32 × se_G} {y : Int32 × Int32 × se_G} {v : Int32}, (v = 1 ∨ v = 2) → x = (0, se_u gm 0 2 v) → y = (v, 0, g) → rk (j + 1) y.2.2 x.2 ∧ F_M_thrown x.2 = ((if y.1 = 0 then 0 else if y.1 = 1 then 1 else 2) : Int32) ∧ (y.1 = 0 → y.2.1 = x.1) := by
    intro x y v hv hx hy
    subst hx; subst hy
    refine ⟨same v, ?_, fun z => ?_⟩
    · rcases hv with rfl | rfl <;> rfl
    · rcases hv with rfl | rfl
      · exact absurd (show (1 : Int32) = 0 from z) (by decide)
      · exact absurd (show (2 : Int32) = 0 from z) (by decide)
  by_cases c1 : p1 < 1
  · exact bad (Or.inl rfl) (by rw [F_M_run, if_pos c1]) (by rw [F_S_run, if_pos c1])
  by_cases c2 : p1 ≤ 2000
  · have d1 : 1 ≤ p1.toInt := by rw [Int32.lt_iff_toInt_lt, mo_1] at c1; omega
    have d2 : p1.toInt ≤ 2000 := by rw [Int32.le_iff_toInt_le, show (2000 : Int32).toInt = 2000 by decide] at c2; exact c2
    obtain ⟨k, hk, hk1, hk2⟩ : ∃ k : Nat, p1 = Int32.ofNat k ∧ 1 ≤ k ∧ k ≤ 2000 := ⟨_, nn_of (by omega), by omega, by omega⟩
    subst hk
    by_cases c3 : t + k ≤ 1000000
    · have s3 : Int32.ofNat k ≤ 1000000 - g 5 0 := by rw [t1, show (1000000 : Int32) = Int32.ofNat 1000000 from rfl, nn_sub t3, nn_le (by omega) (by omega)]; omega
      have m3 : gm 0 3 + Int32.ofNat k ≤ 1000000 := by rw [t2, ← Int32.ofNat_add, show (1000000 : Int32) = Int32.ofNat 1000000 from rfl, nn_le (by omega) (by omega)]; exact c3
      obtain ⟨g', e1, e2⟩ := S_run_t ((Int32.ofNat k).toInt.toNat + 1) k t g (by rw [nn_int (by omega)]; omega) t1 (by omega)
      have es : F_S_run g (Int32.ofNat k) = (0, Int32.ofNat (t + k), g') := by rw [F_S_run, if_neg c1, if_pos c2, if_pos s3, e1]
      have em : F_M_run gm (Int32.ofNat k) = ((M_tickN k (se_u gm 0 2 0)) 0 3, M_tickN k (se_u gm 0 2 0)) := by
        rw [F_M_run, if_neg c1, if_pos c2, if_pos m3, if_pos (by decide)]
        have := M_run_loop k (((Int32.ofNat k).toInt - (0 : Int32).toInt).toNat + 1) 0 (se_u gm 0 2 0) (by rw [nn_int (by omega), Int32.toInt_zero]; omega) (by omega)
        rw [Nat.zero_add] at this
        exact this
      have q3 : M_tickN k (se_u gm 0 2 0) 0 3 = Int32.ofNat (t + k) := M_tickN_3 (g := se_u gm 0 2 0) t2 k
      have f7 : g' 7 1 = g 7 1 := by
        have := fr_F_S_run (o := 7) (j := 1) rfl g (Int32.ofNat k)
        rw [es] at this; exact this
      have f9 : g' 9 1 = g 9 1 := by
        have := fr_F_S_run (o := 9) (j := 1) rfl g (Int32.ofNat k)
        rw [es] at this; exact this
      have q45 : M_tickN k (se_u gm 0 2 0) 0 45 = gm 0 45 := by rw [M_tickN_fr rfl rfl rfl (by decide)]; rfl
      have q2 : M_tickN k (se_u gm 0 2 0) 0 2 = 0 := by rw [M_tickN_fr rfl rfl rfl (by decide)]; rfl
      have qi : M_I (j + 1) (M_tickN k (se_u gm 0 2 0)) := M_I_up (M_I_tickN (M_I_code hi) k)
      rw [es, em]
      refine ⟨⟨S_B_same h.1 f7, S_B_same h.2.1 f9, ⟨t + k, e2, q3, c3⟩, (f7.trans h.2.2.2.1).trans q45.symm, qi⟩, q2, fun _ => q3.symm⟩
    · have s3 : ¬ Int32.ofNat k ≤ 1000000 - g 5 0 := by rw [t1, show (1000000 : Int32) = Int32.ofNat 1000000 from rfl, nn_sub t3, nn_le (by omega) (by omega)]; omega
      have m3 : ¬ gm 0 3 + Int32.ofNat k ≤ 1000000 := by rw [t2, ← Int32.ofNat_add, show (1000000 : Int32) = Int32.ofNat 1000000 from rfl, nn_le (by omega) (by omega)]; exact c3
      exact bad (v := 2) (Or.inr rfl) (by rw [F_M_run, if_neg c1, if_pos c2, if_neg m3, if_neg (by decide)]) (by rw [F_S_run, if_neg c1, if_pos c2, if_neg s3])
  · exact bad (Or.inl rfl) (by rw [F_M_run, if_neg c1, if_neg c2]) (by rw [F_S_run, if_neg c1, if_neg c2])
theorem rk_feed {j : Nat} {g gm : se_G} (h : rk j g gm) (p1 : Int64) (p3 : Int32) : rk (j + 1) (F_S_feed g p1 p3).2.2 (F_M_feed gm p1 p3).2 ∧ F_M_thrown (F_M_feed gm p1 p3).2 = ((if (F_S_feed g p1 p3).1 = 0 then 0 else if (F_S_feed g p1 p3).1 = 1 then 1 else 2) : Int32) ∧ ((F_S_feed g p1 p3).1 = 0 → (F_S_feed g p1 p3).2.1 = (F_M_feed gm p1 p3).1) := by
  have hi := h.2.2.2.2
  obtain ⟨m, m1, m2⟩ := h.1
  have mm : gm 0 45 = Int32.ofNat m := by rw [← h.2.2.2.1, m1]
  have same : ∀ v : Int32, rk (j + 1) g (se_u gm 0 2 v) := fun v => rk_up h rfl h.2.1 rfl rfl rfl (M_I_up (M_I_code hi))
  have bad : ∀ {x : Int32 × se_G} {y : Int32 × Int32 × se_G} {v : Int32}, (v = 1 ∨ v = 2) → x = (0, se_u gm 0 2 v) → y = (v, 0, g) → rk (j + 1) y.2.2 x.2 ∧ F_M_thrown x.2 = ((if y.1 = 0 then 0 else if y.1 = 1 then 1 else 2) : Int32) ∧ (y.1 = 0 → y.2.1 = x.1) := by
    intro x y v hv hx hy
    subst hx; subst hy
    refine ⟨same v, ?_, fun z => ?_⟩
    · rcases hv with rfl | rfl <;> rfl
    · rcases hv with rfl | rfl
      · exact absurd (show (1 : Int32) = 0 from z) (by decide)
      · exact absurd (show (2 : Int32) = 0 from z) (by decide)
  by_cases c1 : p3 < 1
  · exact bad (Or.inl rfl) (M_feed_bad1 (Or.inl c1)) (by rw [F_S_feed, F_S_isHandful, if_pos c1, if_pos rfl])
  by_cases c2 : p3 ≤ 8
  · have c8 : ¬ (8 : Int32) < p3 := by rw [Int32.lt_iff_toInt_lt]; rw [Int32.le_iff_toInt_le] at c2; omega
    obtain ⟨k, rfl, hk1, hk8⟩ := nn_hand c1 c2
    by_cases c3 : m + k ≤ 1460
    · have s3 : Int32.ofNat k ≤ 1460 - g 7 1 := by rw [m1, show (1460 : Int32) = Int32.ofNat 1460 from rfl, nn_sub m2, nn_le (by omega) (by omega)]; omega
      obtain ⟨g', e1, e2, _, e4⟩ := S_feed_loop p1 k (((Int32.ofNat k).toInt - ((0 : Int32)).toInt).toNat + 1) 0 m g (by rw [nn_int (by omega), Int32.toInt_zero]; omega) (by omega) c3 m1
      rw [Nat.zero_add] at e1
      have es : F_S_feed g p1 (Int32.ofNat k) = (0, Int32.ofNat (m + k), g') := by
        rw [F_S_feed, F_S_isHandful, if_neg c1, if_neg c8, if_neg (by decide), if_pos s3]; exact e1
      have em := M_feed_eq (v := p1) mm m2 hk1 hk8 c3
      have q45 := M_fedN_n (v := p1) k (se_u gm 0 2 0) (m := m) mm
      have q3 : M_fedN p1 k (se_u gm 0 2 0) 0 3 = gm 0 3 := by rw [M_fedN_fr (by omega) (by omega)]; rfl
      have q2 : M_fedN p1 k (se_u gm 0 2 0) 0 2 = 0 := by rw [M_fedN_fr (by omega) (by omega)]; rfl
      have qi : M_I (j + 1) (M_fedN p1 k (se_u gm 0 2 0)) := M_I_up (M_I_fedN k m _ mm c3 (M_I_code hi))
      have f9 : g' 9 1 = g 9 1 := e4 9 1 rfl
      have f5 : g' 5 0 = g 5 0 := e4 5 0 rfl
      obtain ⟨t, t1, t2, t3⟩ := h.2.2.1
      rw [es, em]
      exact ⟨⟨⟨m + k, e2, c3⟩, S_B_same h.2.1 f9, ⟨t, f5.trans t1, q3.trans t2, t3⟩, e2.trans q45.symm, qi⟩, q2, fun _ => rfl⟩
    · have s3 : ¬ Int32.ofNat k ≤ 1460 - g 7 1 := by rw [m1, show (1460 : Int32) = Int32.ofNat 1460 from rfl, nn_sub m2, nn_le (by omega) (by omega)]; omega
      exact bad (v := 2) (Or.inr rfl) (M_feed_bad2 mm m2 hk1 hk8 c3) (by rw [F_S_feed, F_S_isHandful, if_neg c1, if_neg c8, if_neg (by decide), if_neg s3])
  · have c8 : (8 : Int32) < p3 := by rw [Int32.lt_iff_toInt_lt]; rw [Int32.le_iff_toInt_le] at c2; omega
    exact bad (Or.inl rfl) (M_feed_bad1 (Or.inr c2)) (by rw [F_S_feed, F_S_isHandful, if_neg c1, if_pos c8, if_pos rfl])
theorem rk_begin {j : Nat} {g gm : se_G} (h : rk j g gm) (p1 p2 : Int32) : rk (j + 1) (F_S_begin g p1 p2).2.2 (F_M_begin gm p1 p2) :=
  rk_up h (fr_F_S_begin (o := 7) (j := 1) rfl g p1 p2) (S_B_same h.2.1 (fr_F_S_begin (o := 9) (j := 1) rfl g p1 p2)) (fr_F_S_begin (o := 5) (j := 0) rfl g p1 p2) (fr_F_M_begin (o := 0) (j := 3) rfl gm p1 p2) (fr_F_M_begin (o := 0) (j := 45) rfl gm p1 p2) (M_I_up (M_I_begin h.2.2.2.2))
theorem rk_write {j : Nat} {g gm : se_G} (h : rk j g gm) (p1 : Int64) (p3 : Int32) : rk (j + 1) (F_S_write g p1 p3).2.2 (F_M_write gm p1 p3).2 :=
  rk_up h (fr_F_S_write (o := 7) (j := 1) rfl g p1 p3) (S_B_same h.2.1 (fr_F_S_write (o := 9) (j := 1) rfl g p1 p3)) (fr_F_S_write (o := 5) (j := 0) rfl g p1 p3) (fr_F_M_write (o := 0) (j := 3) rfl gm p1 p3) (fr_F_M_write (o := 0) (j := 45) rfl gm p1 p3) (M_I_up (M_I_write h.2.2.2.2))
theorem rk_read {j : Nat} {g gm : se_G} (h : rk j g gm) : rk (j + 1) (F_S_read g).2.2 (F_M_read gm).2 :=
  rk_up h (fr_F_S_read (o := 7) (j := 1) rfl g) (S_B_same h.2.1 (fr_F_S_read (o := 9) (j := 1) rfl g)) (fr_F_S_read (o := 5) (j := 0) rfl g) (fr_F_M_read (o := 0) (j := 3) rfl gm) (fr_F_M_read (o := 0) (j := 45) rfl gm) (M_I_up (M_I_read h.2.2.2.2))
theorem rk_close {j : Nat} {g gm : se_G} (h : rk j g gm) : rk (j + 1) (F_S_close g).2.2 (F_M_close gm) :=
  rk_up h (fr_F_S_close (o := 7) (j := 1) rfl g) (S_B_same h.2.1 (fr_F_S_close (o := 9) (j := 1) rfl g)) (fr_F_S_close (o := 5) (j := 0) rfl g) (fr_F_M_close (o := 0) (j := 3) rfl gm) (fr_F_M_close (o := 0) (j := 45) rfl gm) (M_I_up (M_I_close h.2.2.2.2))
theorem rk_abort {j : Nat} {g gm : se_G} (h : rk j g gm) : rk (j + 1) (F_S_abort g).2.2 (F_M_abort gm) :=
  rk_up h (fr_F_S_abort (o := 7) (j := 1) rfl g) (S_B_same h.2.1 (fr_F_S_abort (o := 9) (j := 1) rfl g)) (fr_F_S_abort (o := 5) (j := 0) rfl g) (fr_F_M_abort (o := 0) (j := 3) rfl gm) (fr_F_M_abort (o := 0) (j := 45) rfl gm) (M_I_up (M_I_abort h.2.2.2.2))
theorem rk_next {j : Nat} {g gm : se_G} (hj : j ≤ 588) (h : rk j g gm) : rk (j + 1) (F_S_next g).2 (F_M_next gm).2 :=
  rk_up h (fr_F_S_next (o := 7) (j := 1) rfl g) (S_B_next g h.2.1) (fr_F_S_next (o := 5) (j := 0) rfl g) (fr_F_M_next (o := 0) (j := 3) rfl gm) (fr_F_M_next (o := 0) (j := 45) rfl gm) (M_I_next (by omega) h.2.2.2.2)
theorem rk_segment {j : Nat} {g gm : se_G} (h : rk j g gm) (p1 : Int32) : rk (j + 1) (F_S_segment g p1).2.2 (F_M_segment gm p1).2 :=
  rk_up h (fr_F_S_segment (o := 7) (j := 1) rfl g p1) (S_B_same h.2.1 (fr_F_S_segment (o := 9) (j := 1) rfl g p1)) (fr_F_S_segment (o := 5) (j := 0) rfl g p1) (fr_F_M_segment (o := 0) (j := 3) rfl gm p1) (fr_F_M_segment (o := 0) (j := 45) rfl gm p1) (M_I_up (M_I_fr h.2.2.2.2 w_F_M_segment (fun _ _ z => fr_F_M_segment z gm p1) rfl))
theorem rk_byteAt {j : Nat} {g gm : se_G} (h : rk j g gm) (p1 : Int32) : rk (j + 1) (F_S_byteAt g p1).2.2 (F_M_byteAt gm p1).2 :=
  rk_up h (fr_F_S_byteAt (o := 7) (j := 1) rfl g p1) (S_B_same h.2.1 (fr_F_S_byteAt (o := 9) (j := 1) rfl g p1)) (fr_F_S_byteAt (o := 5) (j := 0) rfl g p1) (fr_F_M_byteAt (o := 0) (j := 3) rfl gm p1) (fr_F_M_byteAt (o := 0) (j := 45) rfl gm p1) (M_I_up (M_I_fr h.2.2.2.2 w_F_M_byteAt (fun _ _ z => fr_F_M_byteAt z gm p1) rfl))
theorem rk_figure {j : Nat} {g gm : se_G} (h : rk j g gm) (p1 : Int32) : rk (j + 1) (F_S_figure g p1).2.2 (F_M_figure gm p1).2 :=
  rk_up h (fr_F_S_figure (o := 7) (j := 1) rfl g p1) (S_B_same h.2.1 (fr_F_S_figure (o := 9) (j := 1) rfl g p1)) (fr_F_S_figure (o := 5) (j := 0) rfl g p1) (fr_F_M_figure (o := 0) (j := 3) rfl gm p1) (fr_F_M_figure (o := 0) (j := 45) rfl gm p1) (M_I_up (M_I_fr h.2.2.2.2 w_F_M_figure (fun _ _ z => fr_F_M_figure z gm p1) rfl))
theorem rk_state {j : Nat} {g gm : se_G} (h : rk j g gm) : rk (j + 1) g (F_M_state gm).2 := rk_up h rfl h.2.1 rfl rfl rfl (M_I_up (M_I_code h.2.2.2.2))
theorem rk_skip {j : Nat} {g gm : se_G} (h : rk j g gm) : rk (j + 1) g gm := rk_up h rfl h.2.1 rfl rfl rfl (M_I_up h.2.2.2.2)
theorem rk_arrive {j : Nat} {g gm : se_G} (hj : j ≤ 588) (h : rk j g gm) (p1 p2 p3 p4 p5 : Int32) : rk (j + 1) (F_S_arrive g p1 p2 p3 p4 p5).2.2 (F_M_arrive gm p1 p2 p3 p4 p5).2 := by
  have hi : M_I (j + 1) (F_M_arrive gm p1 p2 p3 p4 p5).2 := M_I_up (M_I_arrive (by omega) h.2.2.2.2)
  obtain ⟨t, t1, t2, t3⟩ := h.2.2.1
  refine ⟨S_B_arrive h.1 p1 p2 p3 p4 p5, S_B_same h.2.1 (fr_F_S_arrive (o := 9) (j := 1) rfl g p1 p2 p3 p4 p5), ⟨t, by rw [fr_F_S_arrive (o := 5) (j := 0) rfl]; exact t1, by rw [fr_F_M_arrive (o := 0) (j := 3) rfl]; exact t2, t3⟩, ?_, hi⟩
  have z0 : ∀ gx : se_G, (F_M_arrive_j143 gx).2 0 45 = 0 := by
    intro gx
    unfold F_M_arrive_j143 F_M_arrive_k1
    dsimp only
    rw [fr_F_M_watch (o := 0) (j := 45) rfl]; rfl
  have y0 : ∀ gx : se_G, (F_S_arrive_k1 (F_S_watchClosedWindow (se_u gx 7 1 0))).2.2 7 1 = 0 := by
    intro gx
    unfold F_S_arrive_k1
    dsimp only
    rw [fr_F_S_watchClosedWindow (o := 7) (j := 1) rfl]; rfl
  have bad : ∀ {x : Int32 × se_G} {y : Int32 × Int32 × se_G}, x = (0, se_u gm 0 2 1) → y = (1, 0, g) → y.2.2 7 1 = x.2 0 45 := by
    intro x y hx hy
    subst hx; subst hy
    exact h.2.2.2.1
  by_cases c1 : p1 < 0
  · exact bad (by rw [F_M_arrive, if_pos c1]; rfl) (by rw [F_S_arrive, if_pos c1])
  by_cases c2 : 15 < p1
  · exact bad (by rw [F_M_arrive, if_neg c1, if_pos c2]; rfl) (by rw [F_S_arrive, if_neg c1, if_pos c2])
  by_cases c3 : p4 < 0
  · exact bad (by rw [F_M_arrive, if_neg c1, if_neg c2, if_pos c3]; rfl) (by rw [F_S_arrive, if_neg c1, if_neg c2, F_S_isWidth, if_pos c3, if_pos rfl])
  by_cases c4 : 65535 < p4
  · exact bad (by rw [F_M_arrive, if_neg c1, if_neg c2, if_neg c3, if_pos c4]; rfl) (by rw [F_S_arrive, if_neg c1, if_neg c2, F_S_isWidth, if_neg c3, if_pos c4, if_pos rfl])
  have w4 : F_S_isWidth p4 = 1 := by rw [F_S_isWidth, if_neg c3, if_neg c4]
  by_cases c5 : p5 < 0
  · exact bad (by rw [F_M_arrive, if_neg c1, if_neg c2, if_neg c3, if_neg c4, if_pos c5]; rfl) (by rw [F_S_arrive, if_neg c1, if_neg c2, w4, if_neg (by decide), F_S_isWidth, if_pos c5, if_pos rfl])
  by_cases c6 : 65535 < p5
  · exact bad (by rw [F_M_arrive, if_neg c1, if_neg c2, if_neg c3, if_neg c4, if_neg c5, if_pos c6, if_pos rfl, if_neg (by decide)]) (by rw [F_S_arrive, if_neg c1, if_neg c2, w4, if_neg (by decide), F_S_isWidth, if_neg c5, if_pos c6, if_pos rfl])
  have w5 : F_S_isWidth p5 = 1 := by rw [F_S_isWidth, if_neg c5, if_neg c6]
  have e1 : (F_S_arrive g p1 p2 p3 p4 p5).2.2 7 1 = 0 := by
    rw [F_S_arrive, if_neg c1, if_neg c2, w4, if_neg (by decide), w5, if_neg (by decide)]; exact y0 _
  have e2 : (F_M_arrive gm p1 p2 p3 p4 p5).2 0 45 = 0 := by
    rw [F_M_arrive, if_neg c1, if_neg c2, if_neg c3, if_neg c4, if_neg c5, if_neg c6, if_neg (show ¬ (1 : Int32) = 0 by decide), if_pos (by decide)]
    by_cases s0 : gm 0 4 = 0
    · rw [if_pos s0]; exact z0 _
    rw [if_neg s0]
    by_cases s11 : gm 0 4 = 11
    · rw [if_pos s11]; exact z0 _
    rw [if_neg s11]
    by_cases s1 : gm 0 4 = 1
    · rw [if_pos s1]; exact z0 _
    rw [if_neg s1]
    by_cases s2 : gm 0 4 = 2
    · rw [if_pos s2]; exact z0 _
    rw [if_neg s2]; exact z0 _
  rw [e1, e2]
theorem rk_71 {j : Nat} {g gm : se_G} (h : rk j g gm) : (g 7 1).toInt ≤ 1460 := by
  obtain ⟨n, e, l⟩ := h.1
  rw [e, nn_int (by omega)]; omega
theorem rk_91 {j : Nat} {g gm : se_G} (h : rk j g gm) : (g 9 1).toInt ≤ 1460 := by
  obtain ⟨n, e, l⟩ := h.2.1
  rw [e, nn_int (by omega)]; omega
theorem rk_mfeed {j : Nat} {g gm : se_G} (h : rk j g gm) : 0 ≤ (gm 0 45).toInt ∧ (gm 0 45).toInt ≤ 1460 := by
  obtain ⟨n, e, l⟩ := h.2.2.2.2.1.2.2.2.2.1
  rw [e, nn_int (by omega)]; omega
theorem rk_mwrite {j : Nat} {g gm : se_G} (h : rk j g gm) : 0 ≤ (gm 0 13).toInt := by
  obtain ⟨n, e, l⟩ := h.2.2.2.2.1.1
  rw [e, nn_int (by omega)]; omega

