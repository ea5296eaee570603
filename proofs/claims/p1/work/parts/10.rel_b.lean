/-! written by program (wip/gen) -/
theorem rl_idle {g : se_G} (h4 : g 0 4 = 0) (ha : g 0 34 = -1) {t : Nat} (ht : g 0 3 = Int32.ofNat t) (hb : t < 2 ^ 30) : M_tick g = se_u g 0 3 (Int32.ofNat (t + 1)) := by
  have n1 : ¬ g 0 4 = 10 := by rw [h4]; decide
  unfold M_tick
  simp only [if_neg n1]
  rw [ht, nn_succ]
  have e : se_u g 0 3 (Int32.ofNat (t + 1)) 0 34 = -1 := ha
  have e2 : se_u g 0 3 (Int32.ofNat (t + 1)) 0 3 = Int32.ofNat (t + 1) := rfl
  rw [e, e2, if_neg (by intro z; have z2 := congrArg Int32.toInt z; rw [nn_int (by omega), mo_m1] at z2; omega)]
  have e3 : F_M_sends (se_u g 0 3 (Int32.ofNat (t + 1))) = 0 := by
    unfold F_M_sends
    rw [show se_u g 0 3 (Int32.ofNat (t + 1)) 0 4 = 0 from h4]
    rfl
  unfold F_M_watch
  rw [e3]
  rfl
theorem rl_idleN {g : se_G} (h4 : g 0 4 = 0) (ha : g 0 34 = -1) (ht : g 0 3 = 0) : ∀ k : Nat, k < 2 ^ 30 → M_tickN k g 0 3 = Int32.ofNat k ∧ M_tickN k g 0 4 = 0 ∧ M_tickN k g 0 34 = -1 ∧ M_tickN k g 0 2 = g 0 2 := by
  intro k
  induction k with
  | zero => intro _; exact ⟨ht, h4, ha, rfl⟩
  | succ k ih =>
    intro hk
    obtain ⟨e1, e2, e3, e4⟩ := ih (by omega)
    rw [M_tickN, rl_idle e2 e3 e1 (by omega)]
    exact ⟨rfl, e2, e3, e4⟩
theorem rl_run {j : Nat} {g gm : se_G} (hj : 6 * j + 8 ≤ 8) (h : rl j g gm) (p1 : Int32) : rl (j + 1) (F_S_run g p1).2.2 (F_M_run gm p1).2 ∧ F_M_thrown (F_M_run gm p1).2 = ((if (F_S_run g p1).1 = 0 then 0 else if (F_S_run g p1).1 = 1 then 1 else 2) : Int32) ∧ ((F_S_run g p1).1 = 0 → (F_S_run g p1).2.1 = (F_M_run gm p1).1) := by
  obtain ⟨fa, q1, q2, rfl, rfl⟩ := rl_got hj h
  refine ⟨rl_next1, ?_⟩
  have bad : ∀ {x : Int32 × se_G} {y : Int32 × Int32 × se_G}, x = (0, se_u (F_M_init q1 q2) 0 2 1) → y = (1, 0, F_S_init fa q1 q2) → F_M_thrown x.2 = ((if y.1 = 0 then 0 else if y.1 = 1 then 1 else 2) : Int32) ∧ (y.1 = 0 → y.2.1 = x.1) := by
    intro x y hx hy
    rw [hx, hy]
    exact ⟨rfl, fun z => absurd z (show ¬ (1 : Int32) = 0 by decide)⟩
  by_cases c1 : p1 < 1
  · exact bad (by rw [F_M_run, if_pos c1]) (by rw [F_S_run, if_pos c1])
  by_cases c2 : p1 ≤ 2000
  · have d1 : 1 ≤ p1.toInt := by rw [Int32.lt_iff_toInt_lt, mo_1] at c1; omega
    have d2 : p1.toInt ≤ 2000 := by rw [Int32.le_iff_toInt_le, show (2000 : Int32).toInt = 2000 by decide] at c2; exact c2
    obtain ⟨k, hk, hk1, hk2⟩ : ∃ k : Nat, p1 = Int32.ofNat k ∧ 1 ≤ k ∧ k ≤ 2000 := ⟨_, nn_of (by omega), by omega, by omega⟩
    subst hk
    have hW : S_W (F_S_init fa q1 q2) 0 := ⟨rfl, by omega, ⟨60, rfl, by omega, by omega⟩, Or.inl rfl⟩
    have e1 : F_S_run (F_S_init fa q1 q2) (Int32.ofNat k) = (0, Int32.ofNat k, S_tickN k (F_S_init fa q1 q2)) := by
      rw [F_S_run, if_neg c1, if_pos c2, if_pos (show Int32.ofNat k ≤ 1000000 - (F_S_init fa q1 q2) 5 0 from ?_), S_run_eq hW (by omega), Nat.zero_add]
      rw [show (F_S_init fa q1 q2) 5 0 = 0 from rfl, Int32.sub_zero]
      exact (nn_le (m := k) (n := 1000000) (by omega) (by omega)).mpr (by omega)
    have a0 : (F_M_init q1 q2) 0 3 + Int32.ofNat k ≤ 1000000 := by
      rw [show (F_M_init q1 q2) 0 3 = 0 from rfl, Int32.zero_add]
      exact (nn_le (m := k) (n := 1000000) (by omega) (by omega)).mpr (by omega)
    have e2 : F_M_run (F_M_init q1 q2) (Int32.ofNat k) = ((M_tickN k (se_u (F_M_init q1 q2) 0 2 0)) 0 3, M_tickN k (se_u (F_M_init q1 q2) 0 2 0)) := by
      rw [F_M_run, if_neg c1, if_pos c2, if_pos a0, if_pos (by decide)]
      have := M_run_loop k (((Int32.ofNat k).toInt - (0 : Int32).toInt).toNat + 1) 0 (se_u (F_M_init q1 q2) 0 2 0) (by rw [nn_int (by omega), Int32.toInt_zero]; omega) (by omega)
      rw [Nat.zero_add] at this
      exact this
    obtain ⟨b1, b2, b3, b4⟩ := rl_idleN (g := se_u (F_M_init q1 q2) 0 2 0) rfl rfl rfl k (by omega)
    rw [e1, e2]
    exact ⟨b4, fun _ => b1.symm⟩
  · exact bad (by rw [F_M_run, if_neg c1, if_neg c2]) (by rw [F_S_run, if_neg c1, if_neg c2])
theorem rl_feed {j : Nat} {g gm : se_G} (hj : 6 * j + 8 ≤ 8) (h : rl j g gm) (p1 : Int64) (p3 : Int32) : rl (j + 1) (F_S_feed g p1 p3).2.2 (F_M_feed gm p1 p3).2 ∧ F_M_thrown (F_M_feed gm p1 p3).2 = ((if (F_S_feed g p1 p3).1 = 0 then 0 else if (F_S_feed g p1 p3).1 = 1 then 1 else 2) : Int32) ∧ ((F_S_feed g p1 p3).1 = 0 → (F_S_feed g p1 p3).2.1 = (F_M_feed gm p1 p3).1) := by
  obtain ⟨fa, q1, q2, rfl, rfl⟩ := rl_got hj h
  refine ⟨rl_next1, ?_⟩
  have bad : ∀ {x : Int32 × se_G} {y : Int32 × Int32 × se_G}, x = (0, se_u (F_M_init q1 q2) 0 2 1) → y = (1, 0, F_S_init fa q1 q2) → F_M_thrown x.2 = ((if y.1 = 0 then 0 else if y.1 = 1 then 1 else 2) : Int32) ∧ (y.1 = 0 → y.2.1 = x.1) := by
    intro x y hx hy
    rw [hx, hy]
    exact ⟨rfl, fun z => absurd z (show ¬ (1 : Int32) = 0 by decide)⟩
  by_cases c1 : p3 < 1
  · exact bad (by rw [F_M_feed, if_pos c1]; rfl) (by rw [F_S_feed, F_S_isHandful, if_pos c1, if_pos rfl])
  by_cases c2 : p3 ≤ 8
  · have d1 : 1 ≤ p3.toInt := by rw [Int32.lt_iff_toInt_lt, mo_1] at c1; omega
    have d2 : p3.toInt ≤ 8 := by rw [Int32.le_iff_toInt_le, show (8 : Int32).toInt = 8 by decide] at c2; exact c2
    have c3 : ¬ (8 : Int32) < p3 := by rw [Int32.lt_iff_toInt_lt, show (8 : Int32).toInt = 8 by decide]; omega
    obtain ⟨k, hk, hk1, hk2⟩ : ∃ k : Nat, p3 = Int32.ofNat k ∧ 1 ≤ k ∧ k ≤ 8 := ⟨_, nn_of (by omega), by omega, by omega⟩
    subst hk
    obtain ⟨g', hl, _⟩ := S_feed_loop p1 k (((Int32.ofNat k).toInt - ((0 : Int32)).toInt).toNat + 1) 0 0 (F_S_init fa q1 q2) (by rw [nn_int (by omega), Int32.toInt_zero]; omega) (by omega) (by omega) rfl
    rw [Nat.zero_add] at hl
    have e1 : F_S_feed (F_S_init fa q1 q2) p1 (Int32.ofNat k) = (0, Int32.ofNat k, g') := by
      rw [F_S_feed, F_S_isHandful, if_neg c1, if_neg c3, if_neg (by decide), if_pos (show Int32.ofNat k ≤ 1460 - (F_S_init fa q1 q2) 7 1 from ?_)]
      · exact hl
      · rw [show (F_S_init fa q1 q2) 7 1 = 0 from rfl, Int32.sub_zero]
        exact (nn_le (m := k) (n := 1460) (by omega) (by omega)).mpr (by omega)
    have a0 : (F_M_init q1 q2) 0 45 + Int32.ofNat k ≤ 1460 := by
      rw [show (F_M_init q1 q2) 0 45 = 0 from rfl, Int32.zero_add]
      exact (nn_le (m := k) (n := 1460) (by omega) (by omega)).mpr (by omega)
    have e2 : F_M_feed (F_M_init q1 q2) p1 (Int32.ofNat k) = ((M_fedN p1 k (se_u (F_M_init q1 q2) 0 2 0)) 0 45, M_fedN p1 k (se_u (F_M_init q1 q2) 0 2 0)) := by
      rw [F_M_feed, if_neg c1, if_pos c2, if_pos a0, if_pos (by decide)]
      have e9 : (Int32.ofNat k - 1).toInt = (k : Int) - 1 := by rw [mo_sub (by rw [nn_int (by omega), mo_1]; omega) (by rw [nn_int (by omega), mo_1]; omega), nn_int (by omega), mo_1]
      exact M_feed_loop p1 k _ _ (by rw [e9]; omega) (by omega)
    rw [e1, e2]
    refine ⟨?_, fun _ => ?_⟩
    · show (M_fedN p1 k (se_u (F_M_init q1 q2) 0 2 0)) 0 2 = 0
      rw [M_fedN_fr (by omega) (by omega)]; rfl
    · show Int32.ofNat k = (M_fedN p1 k (se_u (F_M_init q1 q2) 0 2 0)) 0 45
      rw [M_fedN_n k _ (m := 0) rfl, Nat.zero_add]
  · have c3 : (8 : Int32) < p3 := by rw [Int32.lt_iff_toInt_lt]; rw [Int32.le_iff_toInt_le] at c2; omega
    exact bad (by rw [F_M_feed, if_neg c1, if_neg c2]; rfl) (by rw [F_S_feed, F_S_isHandful, if_neg c1, if_pos c3, if_pos rfl])
theorem rl_init (p1 p2 : Int32) : rl 0 (F_S_init ((F_A_Arrays_fill (fun _ => fun _ => 0) (-1)) 0) p1 p2) (F_M_init p1 p2) := fun _ => ⟨_, p1, p2, rfl, rfl⟩

