/-! written by program (wip/gen) -/
theorem nn_cancel (x a b : Int32) : x + a - (x + b) = a - b := by
  rw [← Int32.sub_sub, Int32.add_comm x a, Int32.add_sub_cancel]
theorem M_th_loop : ∀ (k n : Nat) (g : se_G) (v1 v3 v4 : Int32) (c : Nat), v4 = Int32.ofNat (c - k) → g 0 13 = Int32.ofNat c → c ≤ 2048 → k ≤ c → k < n →
    F_M_thanked_j35 n g v1 v3 v4 0 13 = Int32.ofNat c - v3 ∧ F_M_thanked_j35 n g v1 v3 v4 0 14 = g 0 14 + v3 ∧ F_M_thanked_j35 n g v1 v3 v4 0 9 = v1 ∧ F_M_thanked_j35 n g v1 v3 v4 0 31 = 0 := by
  intro k
  induction k with
  | zero =>
    intro n g v1 v3 v4 c hv hc h2 hk hn
    cases n with
    | zero => omega
    | succ n =>
      have c0 : g 0 13 ≤ v4 := by rw [hc, hv, nn_le (by omega) (by omega)]; omega
      have fin : ∀ g' : se_G, g' 0 13 = Int32.ofNat c - v3 → g' 0 14 = g 0 14 + v3 → g' 0 9 = v1 → F_M_thanked_j125 g' 0 13 = Int32.ofNat c - v3 ∧ F_M_thanked_j125 g' 0 14 = g 0 14 + v3 ∧ F_M_thanked_j125 g' 0 9 = v1 ∧ F_M_thanked_j125 g' 0 31 = 0 := by
        intro g' a1 a2 a3
        exact ⟨a1, a2, a3, rfl⟩
      rw [F_M_thanked_j35, if_pos c0]
      split
      · exact fin _ (by rw [← hc]; rfl) rfl rfl
      · split
        · exact fin _ (by rw [← hc]; rfl) rfl rfl
        · refine fin _ ?_ ?_ ?_
          · rw [fr_F_M_learn (o := 0) (j := 13) rfl, ← hc]; rfl
          · rw [fr_F_M_learn (o := 0) (j := 14) rfl]; rfl
          · rw [fr_F_M_learn (o := 0) (j := 9) rfl]; rfl
  | succ k ih =>
    intro n g v1 v3 v4 c hv hc h2 hk hn
    cases n with
    | zero => omega
    | succ n =>
      have c0 : ¬ g 0 13 ≤ v4 := by rw [hc, hv, nn_le (by omega) (by omega)]; omega
      rw [F_M_thanked_j35, if_neg c0]
      exact ih n (se_u g 1 (Int32.toNatClampNeg (v4 - v3)) (g 1 (Int32.toNatClampNeg v4))) v1 v3 (v4 + 1) c (by rw [hv, nn_succ]; congr 1; omega) hc h2 (by omega) (by omega)
theorem M_th_at {g : se_G} {u : Int32} {c n : Nat} (hc : g 0 13 = Int32.ofNat c) (h2 : c ≤ 2048) (hn : u - g 0 14 = Int32.ofNat n) (hn2 : n < 2 ^ 31) :
    F_M_thanked g u 0 13 = Int32.ofNat (c - min n c) ∧ F_M_thanked g u 0 14 = g 0 14 + Int32.ofNat (min n c) ∧ F_M_thanked g u 0 9 = u ∧ F_M_thanked g u 0 31 = 0 := by
  have ev : ((if 0 ≤ (u - g 0 14) then ((if (u - g 0 14) ≤ (g 0 13) then (u - g 0 14) else (g 0 13)) : Int32) else 0) : Int32) = Int32.ofNat (min n c) := by
    rw [hn, hc, if_pos (show (0 : Int32) ≤ Int32.ofNat n from (nn_le (m := 0) (n := n) (by omega) hn2).mpr (Nat.zero_le _))]
    by_cases q : n ≤ c
    · rw [if_pos ((nn_le hn2 (by omega)).mpr q), Nat.min_eq_left q]
    · rw [if_neg (fun z => q ((nn_le hn2 (by omega)).mp z)), Nat.min_eq_right (by omega)]
  unfold F_M_thanked
  rw [ev]
  have hm : min n c ≤ c := Nat.min_le_right _ _
  have := M_th_loop (c - min n c) (((g 0 13 : Int32).toInt - (((Int32.ofNat (min n c))) : Int32).toInt).toNat + 1) g u (Int32.ofNat (min n c)) (Int32.ofNat (min n c)) c (by congr 1; omega) hc h2 (by omega) (by rw [hc, nn_int (by omega), nn_int (by omega)]; omega)
  rw [nn_sub hm] at this
  exact this
def M_X (j : Nat) (g : se_G) (u : Int32) : Prop := M_Gn j g ∨ (M_A1 g ∧ u = g 0 10)
theorem M_R_thanked {g : se_G} {u : Int32} {c : Nat} (h : M_R g) (hc : F_M_thanked g u 0 13 = Int32.ofNat c) (hc2 : c ≤ 2048) : M_R (F_M_thanked g u) := by
  have e0 := fr_F_M_thanked (o := 0) (j := 0) rfl g u
  have e11 := fr_F_M_thanked (o := 0) (j := 11) rfl g u
  have e20 := fr_F_M_thanked (o := 0) (j := 20) rfl g u
  have e45 := fr_F_M_thanked (o := 0) (j := 45) rfl g u
  have e49 := fr_F_M_thanked (o := 0) (j := 49) rfl g u
  unfold M_R
  rw [e0, e11, hc, e20, e45, e49]
  exact ⟨⟨c, rfl, hc2⟩, h.2⟩
theorem M_Gn_thanked {j : Nat} {g : se_G} {u : Int32} (hj : j ≤ 600) (h : M_R g) (hx : M_X j g u) (h1 : ¬ u - g 0 9 ≤ 0) (h2 : u - g 0 10 ≤ 0) : M_R (F_M_thanked g u) ∧ M_Gn j (F_M_thanked g u) := by
  have f10 := fr_F_M_thanked (o := 0) (j := 10) rfl g u
  rcases hx with ⟨c, e, s, q1, q2, q3, q4, q5⟩ | ⟨ha, hu⟩
  · have q1b := q1.2
    have d1 := mo_nle h1
    rw [Int32.toInt_zero] at d1
    rw [Int32.le_iff_toInt_le, Int32.toInt_zero] at h2
    obtain ⟨d, hd⟩ : ∃ d : Nat, u - g 0 9 = Int32.ofNat d := ⟨_, nn_of (by omega)⟩
    have hd0 : (u - g 0 9).toInt.toNat < 2 ^ 31 := by have := (u - g 0 9).toInt_lt; omega
    obtain ⟨d, hd, hd3⟩ : ∃ d : Nat, u - g 0 9 = Int32.ofNat d ∧ d < 2 ^ 31 := ⟨_, nn_of (by omega), hd0⟩
    rw [hd, nn_int hd3] at d1
    have eu : u = g 0 14 + Int32.ofNat (e + d) := by
      have : u = g 0 9 + (u - g 0 9) := by rw [Int32.add_comm, Int32.sub_add_cancel]
      rw [this, hd, q2, Int32.add_assoc, ← Int32.ofNat_add]
    have ex : u - g 0 10 = Int32.ofNat (e + d) - Int32.ofNat s := by
      rw [eu, q3]; exact nn_cancel ..
    have hds : d ≤ s - e := by
      by_cases z : s ≤ e + d
      · rw [ex, nn_sub z, nn_int (by omega)] at h2
        omega
      · omega
    have hn : u - g 0 14 = Int32.ofNat (e + d) := by rw [eu, Int32.add_comm, Int32.add_sub_cancel]
    obtain ⟨a13, a14, a9, a31⟩ := M_th_at q1.1 q1.2 hn (by omega)
    refine ⟨M_R_thanked h a13 (by omega), c - min (e + d) c, e + d - min (e + d) c, s - min (e + d) c, ⟨a13, by omega⟩, ?_, ?_, by omega, by omega⟩
    · rw [a9, a14, eu, Int32.add_assoc, ← Int32.ofNat_add]; congr 2; omega
    · rw [f10, a14, q3, Int32.add_assoc, ← Int32.ofNat_add]; congr 2; omega
  · obtain ⟨b1, b2, b3, b4⟩ := ha
    obtain ⟨c, hc, hc2⟩ := h.1
    have hn : u - g 0 14 = Int32.ofNat 0 := by rw [hu, b2, b3, Int32.sub_self]; rfl
    obtain ⟨a13, a14, a9, a31⟩ := M_th_at hc hc2 hn (by omega)
    rw [Nat.zero_min] at a13 a14
    have z0 : ∀ x : Int32, x + Int32.ofNat 0 = x := fun x => Int32.add_zero x
    refine ⟨M_R_thanked h a13 (by omega), c, 0, 0, ⟨a13, hc2⟩, ?_, ?_, by omega, by omega⟩
    · rw [a9, a14, hu, b2, b3, z0, z0]
    · rw [f10, a14, b2, b3, z0, z0]

