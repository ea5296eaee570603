/-! written by program (wip/gen) -/
theorem S_fill_loop (v : Int32) : ∀ (k n i : Nat) (g : se_G), k < n → i + k < 2 ^ 31 → ∀ c, (F_S_Arrays_fill_j5 n g v (Int32.ofNat i) (Int32.ofNat (i + k))) 4 c = if i ≤ c ∧ c < i + k then v else g 4 c := by
  intro k
  induction k with
  | zero =>
    intro n i g h1 h2 c
    cases n with
    | zero => omega
    | succ n => simp only [Nat.add_zero]; rw [F_S_Arrays_fill_j5, if_pos ((nn_le (m := i) (n := i) h2 h2).mpr (Nat.le_refl _)), if_neg (by omega)]
  | succ k ih =>
    intro n i g h1 h2 c
    cases n with
    | zero => omega
    | succ n =>
      rw [F_S_Arrays_fill_j5, if_neg (by rw [nn_le (by omega) (by omega)]; omega), nn_succ, nn_clamp (by omega), show i + (k + 1) = i + 1 + k by omega, ih n (i + 1) _ (by omega) (by omega), se_u_row]
      by_cases c1 : i + 1 ≤ c ∧ c < i + 1 + k
      · rw [if_pos c1, if_pos (by omega)]
      · rw [if_neg c1]
        by_cases c2 : c = i
        · rw [if_pos c2, if_pos (by omega)]
        · rw [if_neg c2, if_neg (by omega)]
theorem S_fill (g : se_G) (v : Int32) (c : Nat) : (F_S_Arrays_fill g v) 4 c = if c < 2048 then v else g 4 c := by
  unfold F_S_Arrays_fill
  rw [show (0 : Int32) = Int32.ofNat 0 from rfl, show (2048 : Int32) = Int32.ofNat (0 + 2048) from rfl, S_fill_loop v 2048 _ 0 g (by decide) (by decide) c]
  by_cases h : c < 2048
  · rw [if_pos h, if_pos (by omega)]
  · rw [if_neg h, if_neg (by omega)]
theorem S_store_loop : ∀ (k n i : Nat) (g : se_G), k < n → i + k ≤ 2048 →
    (∀ t, i ≤ t → t < i + k → (F_S_Incoming_store_j35 n g (Int32.ofNat (i + k)) (Int32.ofNat i)) 4 (ix (g 7 3 + Int32.ofNat t)) = if g 4 (ix (g 7 3 + Int32.ofNat t)) = -1 then g 8 t &&& 255 else g 4 (ix (g 7 3 + Int32.ofNat t))) ∧
    (∀ c, (∀ t, i ≤ t → t < i + k → c ≠ ix (g 7 3 + Int32.ofNat t)) → (F_S_Incoming_store_j35 n g (Int32.ofNat (i + k)) (Int32.ofNat i)) 4 c = g 4 c) := by
  intro k
  induction k with
  | zero =>
    intro n i g h1 h2
    cases n with
    | zero => omega
    | succ n => simp only [Nat.add_zero]; rw [F_S_Incoming_store_j35, if_pos ((nn_le (m := i) (n := i) (by omega) (by omega)).mpr (Nat.le_refl _))]; exact ⟨fun t a b => by omega, fun c _ => rfl⟩
  | succ k ih =>
    intro n i g h1 h2
    cases n with
    | zero => omega
    | succ n =>
      rw [F_S_Incoming_store_j35, if_neg (by rw [nn_le (by omega) (by omega)]; omega), nn_succ, ix_and, nn_clamp (by omega), show i + (k + 1) = i + 1 + k by omega]
      by_cases hc : g 4 (ix (g 7 3 + Int32.ofNat i)) = -1
      · rw [if_pos hc]
        obtain ⟨e1, e2⟩ := ih n (i + 1) (se_u g 4 (ix (g 7 3 + Int32.ofNat i)) (g 8 i &&& 255)) (by omega) (by omega)
        have q7 : se_u g 4 (ix (g 7 3 + Int32.ofNat i)) (g 8 i &&& 255) 7 3 = g 7 3 := se_u_ne (by omega)
        have q8 : ∀ t, se_u g 4 (ix (g 7 3 + Int32.ofNat i)) (g 8 i &&& 255) 8 t = g 8 t := fun t => se_u_ne (by omega)
        simp only [q7, q8] at e1 e2
        refine ⟨fun t a b => ?_, fun c h => ?_⟩
        · by_cases ht : t = i
          · subst ht
            rw [e2 _ (fun t' a' b' z => by have := (ix_inj (by omega) (by omega)).mp z; omega), se_u_row, if_pos rfl, if_pos hc]
          · rw [e1 t (by omega) b, se_u_row, if_neg (fun z => ht ((ix_inj (by omega) (by omega)).mp z))]
        · rw [e2 c (fun t a b => h t (by omega) b), se_u_row, if_neg (h i (by omega) (by omega))]
      · rw [if_neg hc]
        obtain ⟨e1, e2⟩ := ih n (i + 1) g (by omega) (by omega)
        refine ⟨fun t a b => ?_, fun c h => e2 c (fun t a b => h t (by omega) b)⟩
        by_cases ht : t = i
        · subst ht
          rw [e2 _ (fun t' a' b' z => by have := (ix_inj (by omega) (by omega)).mp z; omega), if_neg hc]
        · exact e1 t (by omega) b
def S_goN (g : se_G) (k : Nat) : se_G := se_u (se_u g 3 2 (g 3 2 + Int32.ofNat k)) 3 3 (g 3 3 + Int32.ofNat k)
theorem se_u_id (g : se_G) (a b : Nat) : se_u g a b (g a b) = g := by
  funext o j
  unfold se_u upd
  by_cases h : o = a
  · rw [if_pos h, h]
    by_cases h2 : j = b
    · rw [if_pos h2, h2]
    · rw [if_neg h2]
  · rw [if_neg h]
theorem S_goN_zero (g : se_G) : S_goN g 0 = g := by
  unfold S_goN
  rw [show Int32.ofNat 0 = 0 from rfl, Int32.add_zero, Int32.add_zero, se_u_id, se_u_id]
theorem se_u_u {g : se_G} {a b : Nat} {v w : Int32} : se_u (se_u g a b v) a b w = se_u g a b w := by
  funext o j
  unfold se_u upd
  by_cases h : o = a
  · rw [if_pos h, if_pos rfl, if_pos h]
    by_cases h2 : j = b
    · rw [if_pos h2, if_pos h2]
    · rw [if_neg h2, if_neg h2, if_neg h2]
  · rw [if_neg h, if_neg h, if_neg h]
theorem se_u_comm {g : se_G} {a b c d : Nat} {v w : Int32} (h : ¬ (a = c ∧ b = d)) : se_u (se_u g a b v) c d w = se_u (se_u g c d w) a b v := by
  funext o j
  by_cases h1 : o = c ∧ j = d
  · obtain ⟨rfl, rfl⟩ := h1
    rw [se_u_eq, se_u_ne (fun z => h ⟨z.1.symm, z.2.symm⟩), se_u_eq]
  · rw [se_u_ne h1]
    by_cases h2 : o = a ∧ j = b
    · obtain ⟨rfl, rfl⟩ := h2; rw [se_u_eq, se_u_eq]
    · rw [se_u_ne h2, se_u_ne h2, se_u_ne h1]
theorem S_goN_succ (g : se_G) (k : Nat) : S_goN (se_u (se_u g 3 2 (g 3 2 + 1)) 3 3 (g 3 3 + 1)) k = S_goN g (k + 1) := by
  unfold S_goN
  rw [se_u_ne (o := 3) (j := 2) (by omega), se_u_eq, se_u_eq, se_u_comm (a := 3) (b := 3) (c := 3) (d := 2) (by omega), se_u_u, se_u_u, Int32.add_assoc, Int32.add_assoc, show (1 : Int32) + Int32.ofNat k = Int32.ofNat (k + 1) by rw [Int32.add_comm]; exact nn_succ k]
abbrev S_stop (g : se_G) : Prop := 2048 ≤ g 3 3 ∨ ¬ F_S_Incoming_isAtLast g = 0 ∨ g 4 (ix (g 3 2)) = -1
theorem S_goOn_step (n : Nat) (g : se_G) : F_S_Incoming_goOn_j0 (n + 1) g = if S_stop g then F_S_Incoming_goOn_j57 g else F_S_Incoming_goOn_j0 n (S_goN g 1) := by
  rw [F_S_Incoming_goOn_j0, ix_and]
  by_cases h1 : (2048 : Int32) ≤ g 3 3
  · rw [if_pos h1, if_pos (show S_stop g from Or.inl h1)]
  · rw [if_neg h1]
    by_cases h2 : F_S_Incoming_isAtLast g = 0
    · rw [if_pos h2]
      by_cases h3 : g 4 (ix (g 3 2)) = -1
      · rw [if_pos h3, if_pos (show S_stop g from Or.inr (Or.inr h3))]
      · rw [if_neg h3, if_neg (show ¬ S_stop g by rintro (z | z | z); exact h1 z; exact z h2; exact h3 z)]
        rfl
    · rw [if_neg h2, if_pos (show S_stop g from Or.inr (Or.inl h2))]
theorem S_goOn_loop : ∀ (n m : Nat) (g : se_G), g 3 3 = Int32.ofNat m → m ≤ 2048 → 2048 - m < n → ∃ k, m + k ≤ 2048 ∧ F_S_Incoming_goOn_j0 n g = F_S_Incoming_goOn_j57 (S_goN g k) ∧ S_stop (S_goN g k) ∧ ∀ i, i < k → ¬ S_stop (S_goN g i) := by
  intro n
  induction n with
  | zero => intro m g h1 h2 h3; omega
  | succ n ih =>
    intro m g h1 h2 h3
    rw [S_goOn_step]
    by_cases hs : S_stop g
    · rw [if_pos hs]
      exact ⟨0, by omega, by rw [S_goN_zero], by rw [S_goN_zero]; exact hs, fun i hi => by omega⟩
    · rw [if_neg hs]
      have hm : m < 2048 := by
        refine Nat.lt_of_not_le (fun z => hs (Or.inl ?_))
        rw [h1, show (2048 : Int32) = Int32.ofNat 2048 from rfl, nn_le (by omega) (by omega)]; exact z
      obtain ⟨k, e1, e2, e3, e4⟩ := ih (m + 1) (S_goN g 1) (by unfold S_goN; rw [se_u_eq, h1]; exact nn_succ m) (by omega) (by omega)
      have hk : ∀ i, S_goN (S_goN g 1) i = S_goN g (i + 1) := fun i => S_goN_succ g i
      refine ⟨k + 1, by omega, by rw [e2, hk], by rw [← hk]; exact e3, fun i hi => ?_⟩
      cases i with
      | zero => rw [S_goN_zero]; exact hs
      | succ i => rw [← hk]; exact e4 i (by omega)

