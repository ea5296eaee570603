/-! written by program (wip/gen) -/
theorem nn_int {n : Nat} (h : n < 2 ^ 31) : (Int32.ofNat n).toInt = n := Int32.toInt_ofNat_of_lt h
theorem nn_clamp {n : Nat} (h : n < 2 ^ 31) : (Int32.ofNat n).toNatClampNeg = n := by
  show (Int32.ofNat n).toInt.toNat = n
  rw [nn_int h]; rfl
theorem nn_lt {m n : Nat} (hm : m < 2 ^ 31) (hn : n < 2 ^ 31) : (Int32.ofNat m < Int32.ofNat n) ↔ m < n := by
  rw [Int32.lt_iff_toInt_lt, nn_int hm, nn_int hn]; omega
theorem nn_le {m n : Nat} (hm : m < 2 ^ 31) (hn : n < 2 ^ 31) : (Int32.ofNat m ≤ Int32.ofNat n) ↔ m ≤ n := by
  rw [Int32.le_iff_toInt_le, nn_int hm, nn_int hn]; omega
theorem nn_succ (n : Nat) : Int32.ofNat n + 1 = Int32.ofNat (n + 1) := (Int32.ofNat_add n 1).symm
theorem nn_inj {m n : Nat} (hm : m < 2 ^ 31) (hn : n < 2 ^ 31) : (Int32.ofNat m = Int32.ofNat n) ↔ m = n := by
  rw [← Int32.toInt_inj, nn_int hm, nn_int hn]; omega
theorem nn_of {x : Int32} (h : 0 ≤ x.toInt) : x = Int32.ofNat x.toInt.toNat := by
  rw [← Int32.toInt_inj, nn_int (by have := x.toInt_lt; omega)]
  omega
theorem nn_sub {m n : Nat} (h : n ≤ m) : Int32.ofNat m - Int32.ofNat n = Int32.ofNat (m - n) := by
  have h1 : Int32.ofNat m = Int32.ofNat (m - n) + Int32.ofNat n := by rw [← Int32.ofNat_add]; congr 1; omega
  rw [h1, Int32.add_sub_cancel]
theorem ix_addn (x : Int32) (n : Nat) : ix (x + Int32.ofNat n) = (ix x + n) % 2048 := by
  rw [ix_add, ix_ofNat]; omega
theorem ix_inj {x : Int32} {m n : Nat} (hm : m < 2048) (hn : n < 2048) : ix (x + Int32.ofNat m) = ix (x + Int32.ofNat n) ↔ m = n := by
  rw [ix_addn, ix_addn]
  have := ix_lt x
  omega
theorem se_u_row {g : se_G} {a b j : Nat} {v : Int32} : se_u g a b v a j = if j = b then v else g a j := by
  unfold se_u upd
  rw [if_pos rfl]
def ob (g : se_G) (t : Nat) : Int32 := g 2 (ix (g 1 1 + Int32.ofNat t))
theorem ob_append {g : se_G} {v : Int32} {n t : Nat} (hc : g 1 2 = Int32.ofNat n) (hn : n < 2048) (ht : t < 2048) : ob (F_S_Outgoing_append g v) t = if t = n then vp_nar .byte v else ob g t := by
  unfold ob
  rw [fr_F_S_Outgoing_append (o := 1) (j := 1) rfl]
  unfold F_S_Outgoing_append
  rw [se_u_ne (by omega), se_u_row, ix_and, hc]
  by_cases h : t = n
  · rw [if_pos h, if_pos (by rw [h])]
  · rw [if_neg h, if_neg (fun z => h ((ix_inj ht hn).mp z))]
def S_appN (v1 : Int64) (v3 : Int32) : Nat → Nat → se_G → se_G
  | 0, _, g => g
  | k + 1, i, g => S_appN v1 v3 k (i + 1) (F_S_Outgoing_append g (F_S_byteOf v1 v3 (Int32.ofNat i)))
theorem S_appN_fr {v1 : Int64} {v3 : Int32} {o j : Nat} (h : w_F_S_Outgoing_append o j = false) : ∀ (k i : Nat) (g : se_G), S_appN v1 v3 k i g o j = g o j := by
  intro k
  induction k with
  | zero => intro i g; rfl
  | succ k ih => intro i g; rw [S_appN, ih, fr_F_S_Outgoing_append h]
theorem S_appN_n {v1 : Int64} {v3 : Int32} : ∀ (k i : Nat) (g : se_G) {n : Nat}, g 1 2 = Int32.ofNat n → S_appN v1 v3 k i g 1 2 = Int32.ofNat (n + k) := by
  intro k
  induction k with
  | zero => intro i g n h; exact h
  | succ k ih =>
    intro i g n h
    rw [S_appN, ih (i + 1) _ (n := n + 1) (by unfold F_S_Outgoing_append; rw [se_u_eq, h, nn_succ])]
    congr 1; omega
theorem S_appN_ob {v1 : Int64} {v3 : Int32} {t : Nat} (ht : t < 2048) : ∀ (k i : Nat) (g : se_G) {n : Nat}, g 1 2 = Int32.ofNat n → n + k ≤ 2048 → ob (S_appN v1 v3 k i g) t = if n ≤ t ∧ t < n + k then vp_nar .byte (F_S_byteOf v1 v3 (Int32.ofNat (i + (t - n)))) else ob g t := by
  intro k
  induction k with
  | zero => intro i g n h1 h2; rw [if_neg (by omega)]; rfl
  | succ k ih =>
    intro i g n h1 h2
    rw [S_appN, ih (i + 1) _ (n := n + 1) (by unfold F_S_Outgoing_append; rw [se_u_eq, h1, nn_succ]) (by omega), ob_append h1 (by omega) ht]
    by_cases c : n + 1 ≤ t ∧ t < n + 1 + k
    · rw [if_pos c, if_pos (by omega)]
      congr 3; omega
    · rw [if_neg c]
      by_cases c2 : t = n
      · rw [if_pos c2, if_pos (by omega), c2]
        congr 3; omega
      · rw [if_neg c2, if_neg (by omega)]
theorem S_write_loop (v1 : Int64) (v3 : Int32) : ∀ (k n i : Nat) (g : se_G), k < n → i + k < 2 ^ 31 → F_S_write_j68 n g v1 v3 (Int32.ofNat (i + k)) (Int32.ofNat i) = (0, Int32.ofNat (i + k), F_S_watchClosedWindow (S_appN v1 v3 k i g)) := by
  intro k
  induction k with
  | zero =>
    intro n i g h1 h2
    cases n with
    | zero => omega
    | succ n => simp only [Nat.add_zero]; rw [F_S_write_j68, if_pos ((nn_le (m := i) (n := i) h2 h2).mpr (Nat.le_refl _))]; rfl
  | succ k ih =>
    intro n i g h1 h2
    cases n with
    | zero => omega
    | succ n =>
      rw [F_S_write_j68, if_neg (by rw [nn_le (by omega) (by omega)]; omega), nn_succ]
      have h3 := ih n (i + 1) (F_S_Outgoing_append g (F_S_byteOf v1 v3 (Int32.ofNat i))) (by omega) (by omega)
      rw [show i + 1 + k = i + (k + 1) by omega] at h3
      rw [h3]; rfl
theorem S_copy_loop : ∀ (k n i off : Nat) (g : se_G), k < n → i + k ≤ 1460 → g 9 1 = Int32.ofNat i →
    (F_S_Outgoing_copyTo_j8 n g (Int32.ofNat off) (Int32.ofNat (i + k)) (Int32.ofNat i)) 9 1 = Int32.ofNat (i + k) ∧ ∀ c, (F_S_Outgoing_copyTo_j8 n g (Int32.ofNat off) (Int32.ofNat (i + k)) (Int32.ofNat i)) 10 c = if i ≤ c ∧ c < i + k then vp_nar .byte (ob g (off + c)) else g 10 c := by
  intro k
  induction k with
  | zero =>
    intro n i off g h1 h2 h3
    cases n with
    | zero => omega
    | succ n => simp only [Nat.add_zero]; rw [F_S_Outgoing_copyTo_j8, if_pos ((nn_le (m := i) (n := i) (by omega) (by omega)).mpr (Nat.le_refl _))]; exact ⟨h3, fun c => by rw [if_neg (by omega)]⟩
  | succ k ih =>
    intro n i off g h1 h2 h3
    cases n with
    | zero => omega
    | succ n =>
      rw [F_S_Outgoing_copyTo_j8, if_neg (by rw [nn_le (by omega) (by omega)]; omega), nn_succ, ix_and]
      have h0 : (0 : Int32) = Int32.ofNat 0 := rfl
      have h1460 : (1460 : Int32) = Int32.ofNat 1460 := rfl
      have ha : F_S_Segment_append_9 g (g 2 (ix (g 1 1 + Int32.ofNat off + Int32.ofNat i))) = se_u (se_u g 10 i (vp_nar .byte (ob g (off + i)))) 9 1 (Int32.ofNat (i + 1)) := by
        unfold F_S_Segment_append_9 ob
        rw [h3, if_neg (by rw [h0, nn_lt (by omega) (by omega)]; omega), if_neg (by rw [h1460, nn_le (by omega) (by omega)]; omega), nn_clamp (by omega), nn_succ, Int32.ofNat_add off i, Int32.add_assoc]
      rw [ha]
      have h4 := ih n (i + 1) off (se_u (se_u g 10 i (vp_nar .byte (ob g (off + i)))) 9 1 (Int32.ofNat (i + 1))) (by omega) (by omega) se_u_eq
      rw [show i + 1 + k = i + (k + 1) by omega] at h4
      refine ⟨h4.1, fun c => ?_⟩
      have hob : ∀ t, ob (se_u (se_u g 10 i (vp_nar .byte (ob g (off + i)))) 9 1 (Int32.ofNat (i + 1))) t = ob g t := by
        intro t; unfold ob; rw [se_u_ne (by omega), se_u_ne (by omega), se_u_ne (by omega), se_u_ne (by omega)]
      rw [h4.2 c, hob, se_u_ne (by omega), se_u_row]
      by_cases c1 : i + 1 ≤ c ∧ c < i + (k + 1)
      · rw [if_pos c1, if_pos (by omega)]
      · rw [if_neg c1]
        by_cases c2 : c = i
        · rw [if_pos c2, if_pos (by omega), c2]
        · rw [if_neg c2, if_neg (by omega)]
theorem S_feed_loop (v1 : Int64) : ∀ (k n i m : Nat) (g : se_G), k < n → i + k < 2 ^ 31 → m + k ≤ 1460 → g 7 1 = Int32.ofNat m →
    ∃ g' : se_G, F_S_feed_j45 n g v1 (Int32.ofNat (i + k)) (Int32.ofNat i) = (0, Int32.ofNat (m + k), g') ∧ g' 7 1 = Int32.ofNat (m + k) ∧ (∀ c, g' 8 c = if m ≤ c ∧ c < m + k then vp_nar .byte (F_S_byteOf v1 (Int32.ofNat (i + k)) (Int32.ofNat (i + (c - m)))) else g 8 c) ∧ ∀ o j, w_F_S_Segment_append_7 o j = false → g' o j = g o j := by
  intro k
  induction k with
  | zero =>
    intro n i m g h1 h2 h3 h4
    cases n with
    | zero => omega
    | succ n => simp only [Nat.add_zero]; rw [F_S_feed_j45, if_pos ((nn_le (m := i) (n := i) (by omega) (by omega)).mpr (Nat.le_refl _)), h4]; exact ⟨g, rfl, h4, fun c => by rw [if_neg (by omega)], fun _ _ _ => rfl⟩
  | succ k ih =>
    intro n i m g h1 h2 h3 h4
    cases n with
    | zero => omega
    | succ n =>
      rw [F_S_feed_j45, if_neg (by rw [nn_le (by omega) (by omega)]; omega), nn_succ]
      have h0 : (0 : Int32) = Int32.ofNat 0 := rfl
      have h1460 : (1460 : Int32) = Int32.ofNat 1460 := rfl
      have ha : ∀ v, F_S_Segment_append_7 g v = se_u (se_u g 8 m (vp_nar .byte v)) 7 1 (Int32.ofNat (m + 1)) := by
        intro v
        unfold F_S_Segment_append_7
        rw [h4, if_neg (by rw [h0, nn_lt (by omega) (by omega)]; omega), if_neg (by rw [h1460, nn_le (by omega) (by omega)]; omega), nn_clamp (by omega), nn_succ]
      rw [ha, show i + (k + 1) = i + 1 + k by omega]
      obtain ⟨g', e1, e2, e3, e4⟩ := ih n (i + 1) (m + 1) (se_u (se_u g 8 m (vp_nar .byte (F_S_byteOf v1 (Int32.ofNat (i + 1 + k)) (Int32.ofNat i)))) 7 1 (Int32.ofNat (m + 1))) (by omega) (by omega) (by omega) se_u_eq
      refine ⟨g', by rw [e1]; congr 3; omega, by rw [e2]; congr 1; omega, fun c => ?_, fun o j h => ?_⟩
      · rw [e3 c, se_u_ne (by omega), se_u_row]
        by_cases c1 : m + 1 ≤ c ∧ c < m + 1 + k
        · rw [if_pos c1, if_pos (by omega)]
          congr 3; omega
        · rw [if_neg c1]
          by_cases c2 : c = m
          · rw [if_pos c2, if_pos (by omega), c2]
            congr 3; omega
          · rw [if_neg c2, if_neg (by omega)]
      · rw [e4 o j h]
        have h2 := h
        simp only [w_F_S_Segment_append_7, Bool.or_eq_false_iff, Bool.and_eq_false_iff, beq_eq_false_iff_ne, ne_eq] at h2
        rw [se_u_ne (by omega), se_u_ne (by omega)]

