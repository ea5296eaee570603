/-! written by program (wip/gen) -/
theorem nn_pred (n : Nat) : Int32.ofNat (n + 1) - 1 = Int32.ofNat n := by rw [← nn_succ]; exact Int32.add_sub_cancel ..
theorem nn_m1 (n : Nat) : Int32.ofNat (n + 1) + (-1) = Int32.ofNat n := by rw [← Int32.sub_eq_add_neg]; exact nn_pred n
theorem nn_0m1 : Int32.ofNat 0 - 1 = -1 := by decide
theorem nn_nneg {n : Nat} (h : n < 2 ^ 31) : ¬ Int32.ofNat n < 0 := by rw [Int32.lt_iff_toInt_lt, nn_int h, Int32.toInt_zero]; omega
def bt (v : Int64) (k : Nat) : Int32 := Int64.toInt32 ((v >>> (Int32.toInt64 (8 * Int32.ofNat k) &&& 63)) &&& 255)
def M_fed1 (v : Int64) (k : Nat) (g : se_G) : se_G := se_u (se_u g 4 (Int32.toNatClampNeg (g 0 45)) (bt v k)) 0 45 (g 0 45 + 1)
def M_fedN (v : Int64) : Nat → se_G → se_G
  | 0, g => g
  | k + 1, g => M_fedN v k (M_fed1 v k g)
theorem M_feed_loop (v : Int64) : ∀ (k n : Nat) (g : se_G), k < n → k < 2 ^ 31 → F_M_feed_j50 n g v (Int32.ofNat k - 1) = ((M_fedN v k g) 0 45, M_fedN v k g) := by
  intro k
  induction k with
  | zero =>
    intro n g h1 h2
    cases n with
    | zero => omega
    | succ n => rw [F_M_feed_j50, nn_0m1, if_pos (by decide)]; rfl
  | succ k ih =>
    intro n g h1 h2
    cases n with
    | zero => omega
    | succ n =>
      rw [F_M_feed_j50, nn_pred, if_neg (nn_nneg (by omega)), show Int32.ofNat k + (-1) = Int32.ofNat k - 1 from (Int32.sub_eq_add_neg ..).symm]
      exact ih n _ (by omega) (by omega)
theorem M_fedN_fr {v : Int64} {o j : Nat} (h : ¬ o = 4) (h2 : ¬ (o = 0 ∧ j = 45)) : ∀ (k : Nat) (g : se_G), M_fedN v k g o j = g o j := by
  intro k
  induction k with
  | zero => intro g; rfl
  | succ k ih => intro g; rw [M_fedN, ih, M_fed1, se_u_ne h2, se_u_ne (by omega)]
theorem M_fedN_n {v : Int64} : ∀ (k : Nat) (g : se_G) {m : Nat}, g 0 45 = Int32.ofNat m → M_fedN v k g 0 45 = Int32.ofNat (m + k) := by
  intro k
  induction k with
  | zero => intro g m h; exact h
  | succ k ih =>
    intro g m h
    rw [M_fedN, ih _ (m := m + 1) (by rw [M_fed1, se_u_eq, h, nn_succ])]
    rw [show m + 1 + k = m + (k + 1) by omega]
def M_tick (g : se_G) : se_G :=
  F_M_watch (if (if g 0 4 = 10 then (if g 0 3 + 1 = g 0 43 then F_M_becomes (se_u g 0 3 (g 0 3 + 1)) 0 else se_u g 0 3 (g 0 3 + 1)) else se_u g 0 3 (g 0 3 + 1)) 0 34 = (if g 0 4 = 10 then (if g 0 3 + 1 = g 0 43 then F_M_becomes (se_u g 0 3 (g 0 3 + 1)) 0 else se_u g 0 3 (g 0 3 + 1)) else se_u g 0 3 (g 0 3 + 1)) 0 3
    then F_M_ring (if g 0 4 = 10 then (if g 0 3 + 1 = g 0 43 then F_M_becomes (se_u g 0 3 (g 0 3 + 1)) 0 else se_u g 0 3 (g 0 3 + 1)) else se_u g 0 3 (g 0 3 + 1))
    else (if g 0 4 = 10 then (if g 0 3 + 1 = g 0 43 then F_M_becomes (se_u g 0 3 (g 0 3 + 1)) 0 else se_u g 0 3 (g 0 3 + 1)) else se_u g 0 3 (g 0 3 + 1)))
def M_tickN : Nat → se_G → se_G
  | 0, g => g
  | k + 1, g => M_tick (M_tickN k g)
theorem M_tickN_front : ∀ (k : Nat) (g : se_G), M_tickN k (M_tick g) = M_tickN (k + 1) g := by
  intro k
  induction k with
  | zero => intro g; rfl
  | succ k ih => intro g; rw [M_tickN, ih]; rfl
theorem M_run_step (n : Nat) (g : se_G) (a b : Int32) (h : ¬ a ≤ b) : F_M_run_j47 (n + 1) g a b = F_M_run_j47 n (M_tick g) a (b + 1) := by
  rw [F_M_run_j47, if_neg h]
  unfold M_tick
  by_cases c1 : g 0 4 = 10
  · simp only [if_pos c1]
    by_cases c2 : g 0 3 + 1 = g 0 43
    · simp only [if_pos c2]
      unfold F_M_run_k1
      by_cases c3 : F_M_becomes (se_u g 0 3 (g 0 3 + 1)) 0 0 34 = F_M_becomes (se_u g 0 3 (g 0 3 + 1)) 0 0 3
      · rw [if_pos c3, if_pos c3]
      · rw [if_neg c3, if_neg c3]
    · simp only [if_neg c2]
      have e : se_u g 0 3 (g 0 3 + 1) 0 34 = g 0 34 := rfl
      have e2 : se_u g 0 3 (g 0 3 + 1) 0 3 = g 0 3 + 1 := rfl
      rw [e, e2]
      by_cases c3 : g 0 34 = g 0 3 + 1
      · rw [if_pos c3, if_pos c3]
      · rw [if_neg c3, if_neg c3]
  · simp only [if_neg c1]
    have e : se_u g 0 3 (g 0 3 + 1) 0 34 = g 0 34 := rfl
    have e2 : se_u g 0 3 (g 0 3 + 1) 0 3 = g 0 3 + 1 := rfl
    rw [e, e2]
    by_cases c3 : g 0 34 = g 0 3 + 1
    · rw [if_pos c3, if_pos c3]
    · rw [if_neg c3, if_neg c3]
theorem M_run_loop : ∀ (k n i : Nat) (g : se_G), k < n → i + k < 2 ^ 31 → F_M_run_j47 n g (Int32.ofNat (i + k)) (Int32.ofNat i) = ((M_tickN k g) 0 3, M_tickN k g) := by
  intro k
  induction k with
  | zero =>
    intro n i g h1 h2
    cases n with
    | zero => omega
    | succ n => simp only [Nat.add_zero]; rw [F_M_run_j47, if_pos ((nn_le (m := i) (n := i) h2 h2).mpr (Nat.le_refl _))]; rfl
  | succ k ih =>
    intro n i g h1 h2
    cases n with
    | zero => omega
    | succ n =>
      rw [M_run_step n g _ _ (by rw [nn_le h2 (by omega)]; omega), nn_succ, show i + (k + 1) = i + 1 + k by omega, ih n (i + 1) _ (by omega) (by omega), M_tickN_front]

