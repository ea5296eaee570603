/-! written by program (wip/gen) -/
theorem mo_in {x : Int32} {n : Nat} (h0 : 0 ≤ x.toInt) (h1 : x.toInt < n) : vp_in x n := by rw [vp_in_iff]; exact ⟨h0, h1⟩
theorem mo_nlt {x : Int32} (c : ¬ x < 0) : 0 ≤ x.toInt := by rw [Int32.lt_iff_toInt_lt, Int32.toInt_zero] at c; omega
theorem mo_nle {x N : Int32} (c : ¬ N ≤ x) : x.toInt < N.toInt := by rw [Int32.le_iff_toInt_le] at c; omega
theorem mo_add {x y : Int32} (h0 : -2147483648 ≤ x.toInt + y.toInt) (h1 : x.toInt + y.toInt < 2147483648) : (x + y).toInt = x.toInt + y.toInt := by
  rw [Int32.toInt_add]; exact Int.bmod_eq_of_le (by omega) (by omega)
theorem mo_sub {x y : Int32} (h0 : -2147483648 ≤ x.toInt - y.toInt) (h1 : x.toInt - y.toInt < 2147483648) : (x - y).toInt = x.toInt - y.toInt := by
  rw [Int32.toInt_sub]; exact Int.bmod_eq_of_le (by omega) (by omega)
theorem mo_1 : (1 : Int32).toInt = 1 := by decide
theorem mo_m1 : (-1 : Int32).toInt = -1 := by decide
theorem mo_decD {x : Int32} {n : Nat} (c : ¬ x < 0) (h : (x.toInt + 1).toNat < n + 1) : ((x + (-1)).toInt + 1).toNat < n := by
  have := mo_nlt c
  have h2 := x.toInt_lt
  rw [mo_add (by rw [mo_m1]; omega) (by rw [mo_m1]; omega), mo_m1]; omega
theorem mo_rd {x : Int32} (c : ¬ 2048 ≤ x + 1) (h : 0 ≤ x.toInt ∧ x.toInt ≤ 2047) : 0 ≤ (x + 1).toInt ∧ (x + 1).toInt ≤ 2047 := by
  have c1 := mo_nle c
  rw [mo_add (by rw [mo_1]; omega) (by rw [mo_1]; omega), mo_1] at c1 ⊢
  rw [show (2048 : Int32).toInt = 2048 by decide] at c1
  omega
theorem mo_rdd {x : Int32} {n : Nat} (h : 0 ≤ x.toInt ∧ x.toInt ≤ 2047) (hM : ((2048 : Int32).toInt - x.toInt).toNat < n + 1) : ((2048 : Int32).toInt - (x + 1).toInt).toNat < n := by
  rw [mo_add (by rw [mo_1]; omega) (by rw [mo_1]; omega), mo_1]
  rw [show (2048 : Int32).toInt = 2048 by decide] at hM ⊢
  omega
theorem mo_th0 {d c : Int32} (h : 0 ≤ c.toInt ∧ c.toInt ≤ 2048) : 0 ≤ ((if 0 ≤ d then ((if d ≤ c then d else c) : Int32) else 0) : Int32).toInt ∧ ((if 0 ≤ d then ((if d ≤ c then d else c) : Int32) else 0) : Int32).toInt ≤ ((if 0 ≤ d then ((if d ≤ c then d else c) : Int32) else 0) : Int32).toInt ∧ c.toInt ≤ 2048 := by
  refine ⟨?_, Int.le_refl _, h.2⟩
  split
  · rename_i q
    rw [Int32.le_iff_toInt_le, Int32.toInt_zero] at q
    split
    · exact q
    · exact h.1
  · decide
theorem mo_th1 {a k c : Int32} (q : ¬ c ≤ k) (h : 0 ≤ a.toInt ∧ a.toInt ≤ k.toInt ∧ c.toInt ≤ 2048) : 0 ≤ a.toInt ∧ a.toInt ≤ (k + 1).toInt ∧ c.toInt ≤ 2048 := by
  have q1 := mo_nle q
  rw [mo_add (by rw [mo_1]; omega) (by rw [mo_1]; omega), mo_1]
  omega
theorem mo_th2 {a k c : Int32} (q : ¬ c ≤ k) (h : 0 ≤ a.toInt ∧ a.toInt ≤ k.toInt ∧ c.toInt ≤ 2048) : vp_in k 2048 := by
  have q1 := mo_nle q
  exact mo_in (by omega) (by omega)
theorem mo_th3 {a k c : Int32} (q : ¬ c ≤ k) (h : 0 ≤ a.toInt ∧ a.toInt ≤ k.toInt ∧ c.toInt ≤ 2048) : vp_in (k - a) 2048 := by
  have q1 := mo_nle q
  have e := mo_sub (x := k) (y := a) (by omega) (by omega)
  exact mo_in (by omega) (by omega)
theorem mo_pq {p q : Prop} [Decidable p] [Decidable q] {x : Int32} (c : ((if p then 1 else ((if q then x else 1) : Int32)) : Int32) ≤ 0) : ¬ p ∧ q ∧ x ≤ 0 := by
  by_cases h1 : p
  · rw [if_pos h1] at c; exact absurd c (by decide)
  · rw [if_neg h1] at c
    by_cases h2 : q
    · rw [if_pos h2] at c; exact ⟨h1, h2, c⟩
    · rw [if_neg h2] at c; exact absurd c (by decide)
theorem mo_fd0 {p f : Int32} (c : ((if p < 1 then 1 else ((if p ≤ 8 then ((if (f + p) ≤ 1460 then 0 else 2) : Int32) else 1) : Int32)) : Int32) ≤ 0) (h : 0 ≤ f.toInt ∧ f.toInt ≤ 1460) : 0 ≤ f.toInt ∧ f.toInt + (p - 1).toInt + 1 ≤ 1460 ∧ -1 ≤ (p - 1).toInt := by
  obtain ⟨c1, c2, c3⟩ := mo_pq c
  rw [Int32.lt_iff_toInt_lt, mo_1] at c1
  rw [Int32.le_iff_toInt_le, show (8 : Int32).toInt = 8 by decide] at c2
  have c4 : f + p ≤ 1460 := by
    by_cases z : f + p ≤ 1460
    · exact z
    · rw [if_neg z] at c3; exact absurd c3 (by decide)
  rw [Int32.le_iff_toInt_le, mo_add (by omega) (by omega), show (1460 : Int32).toInt = 1460 by decide] at c4
  rw [mo_sub (by rw [mo_1]; omega) (by rw [mo_1]; omega), mo_1]
  omega
theorem mo_fd1 {f k : Int32} (c : ¬ k < 0) (h : 0 ≤ f.toInt ∧ f.toInt + k.toInt + 1 ≤ 1460 ∧ -1 ≤ k.toInt) : 0 ≤ (f + 1).toInt ∧ (f + 1).toInt + (k + (-1)).toInt + 1 ≤ 1460 ∧ -1 ≤ (k + (-1)).toInt := by
  have c1 := mo_nlt c
  rw [mo_add (x := f) (by rw [mo_1]; omega) (by rw [mo_1]; omega), mo_add (x := k) (by rw [mo_m1]; omega) (by rw [mo_m1]; omega), mo_1, mo_m1]
  omega
theorem mo_fd2 {f k : Int32} (c : ¬ k < 0) (h : 0 ≤ f.toInt ∧ f.toInt + k.toInt + 1 ≤ 1460 ∧ -1 ≤ k.toInt) : vp_in f 1460 := by
  have c1 := mo_nlt c
  exact mo_in h.1 (by omega)
def mo_tb (d n : Int32) : Prop := n.toInt ≤ 0 ∨ (0 ≤ d.toInt ∧ d.toInt + n.toInt ≤ 2048 ∧ n.toInt ≤ 1460)
theorem mo_tb0 {d n k : Int32} (c : ¬ n ≤ k) (h : 0 ≤ k.toInt ∧ mo_tb d n) : 0 ≤ k.toInt ∧ k.toInt < n.toInt ∧ 0 ≤ d.toInt ∧ d.toInt + n.toInt ≤ 2048 ∧ n.toInt ≤ 1460 := by
  have c1 := mo_nle c
  rcases h.2 with z | z
  · omega
  · exact ⟨h.1, c1, z⟩
theorem mo_tb1 {d n k : Int32} (c : ¬ n ≤ k) (h : 0 ≤ k.toInt ∧ mo_tb d n) : vp_in (d + k) 2048 := by
  have h1 := mo_tb0 c h
  have e := mo_add (x := d) (y := k) (by omega) (by omega)
  exact mo_in (by omega) (by omega)
theorem mo_tb2 {d n k : Int32} (c : ¬ n ≤ k) (h : 0 ≤ k.toInt ∧ mo_tb d n) : vp_in k 1460 := by
  have h1 := mo_tb0 c h
  exact mo_in (by omega) (by omega)
theorem mo_tb3 {d n k : Int32} (c : ¬ n ≤ k) (h : 0 ≤ k.toInt ∧ mo_tb d n) : 0 ≤ (k + 1).toInt ∧ mo_tb d n := ⟨se_inc0 c h.1, h.2⟩
theorem mo_min {p x : Int32} {n : Int} (h : p.toInt ≤ n) : ((if p ≤ x then p else x) : Int32).toInt ≤ n := by
  split
  · exact h
  · rename_i c
    have := mo_nle c
    omega
theorem mo_sa {d n : Int32} (h : (0 ≤ d.toInt ∧ d.toInt ≤ 588) ∧ n.toInt ≤ 1460) : mo_tb d n := Or.inr ⟨h.1.1, by omega, h.2⟩
def mo_sg (p d n : Int32) : Prop := p.toInt ≤ 1460 ∧ 0 ≤ d.toInt ∧ d.toInt + n.toInt ≤ 2048
theorem mo_sg0 {p d c : Int32} (h0 : p.toInt ≤ 1460) (h1 : 0 ≤ c.toInt) (h2 : c.toInt ≤ 2048) (h3 : 0 ≤ d.toInt) : mo_sg p d (c - d) := by
  have := d.toInt_lt
  refine ⟨h0, h3, ?_⟩
  rw [mo_sub (by omega) (by omega)]
  omega
theorem mo_can {p d n m : Int32} (h : mo_sg p d n) : mo_tb d ((if 0 ≤ ((if m ≤ ((if p ≤ n then p else n) : Int32) then m else ((if p ≤ n then p else n) : Int32)) : Int32) then ((if m ≤ ((if p ≤ n then p else n) : Int32) then m else ((if p ≤ n then p else n) : Int32)) : Int32) else 0) : Int32) := by
  obtain ⟨h0, h1, h2⟩ := h
  generalize hy : ((if p ≤ n then p else n) : Int32) = y
  have a1 : y.toInt ≤ p.toInt ∧ y.toInt ≤ n.toInt := by
    rw [← hy]
    split
    · rename_i c; rw [Int32.le_iff_toInt_le] at c; omega
    · rename_i c; have := mo_nle c; omega
  generalize hx : ((if m ≤ y then m else y) : Int32) = x
  have a2 : x.toInt ≤ y.toInt := by
    rw [← hx]
    split
    · rename_i c; rw [Int32.le_iff_toInt_le] at c; exact c
    · exact Int.le_refl _
  split
  · exact Or.inr ⟨h1, by omega, by omega⟩
  · exact Or.inl (by decide)
theorem mo_pr {p d n : Int32} (c : ¬ n ≤ 0) (h : mo_sg p d n) : mo_tb d 1 := by
  have c1 := mo_nle c
  obtain ⟨h0, h1, h2⟩ := h
  rw [Int32.toInt_zero] at c1
  exact Or.inr ⟨h1, by rw [mo_1]; omega, by decide⟩
theorem mo_s5 {p m : Int32} (c : ((if p < 0 then 1 else ((if p ≤ 5 then ((if m = 0 then 2 else 0) : Int32) else 1) : Int32)) : Int32) ≤ 0) (h : ¬ p = 5) : vp_in p 5 := by
  obtain ⟨c1, c2, _⟩ := mo_pq c
  have c3 := mo_nlt c1
  rw [Int32.le_iff_toInt_le, show (5 : Int32).toInt = 5 by decide] at c2
  refine mo_in c3 ?_
  by_cases z : p.toInt = 5
  · exact absurd (Int32.toInt_inj.mp (z.trans (by decide))) h
  · omega
theorem mo_ba {m p n : Int32} (c : ((if m = 0 then 1 else ((if p < 0 then 2 else ((if p < n then 0 else 2) : Int32)) : Int32)) : Int32) ≤ 0) (h : n.toInt ≤ 1460) : vp_in p 1460 := by
  by_cases h1 : m = 0
  · rw [if_pos h1] at c; exact absurd c (by decide)
  · rw [if_neg h1] at c
    by_cases h2 : p < 0
    · rw [if_pos h2] at c; exact absurd c (by decide)
    · rw [if_neg h2] at c
      by_cases h3 : p < n
      · rw [Int32.lt_iff_toInt_lt] at h3
        exact mo_in (mo_nlt h2) (by omega)
      · rw [if_neg h3] at c; exact absurd c (by decide)
theorem mo_tk1 {v w h : Int32} (c1 : ¬ v < 0) (c2 : ¬ w ≤ v) (hw : w = 2048 - h) (h0 : 0 ≤ h.toInt) (h1 : h.toInt ≤ 2048) : vp_in (h + v) 2048 := by
  have d1 := mo_nlt c1
  have d2 := mo_nle c2
  rw [hw, mo_sub (by rw [show (2048 : Int32).toInt = 2048 by decide]; omega) (by rw [show (2048 : Int32).toInt = 2048 by decide]; omega), show (2048 : Int32).toInt = 2048 by decide] at d2
  have e := mo_add (x := h) (y := v) (by omega) (by omega)
  exact mo_in (by omega) (by omega)
theorem mo_b01 {c : Prop} [Decidable c] {a b : Int32} (ha : a = 0 ∨ a = 1) (hb : b = 0 ∨ b = 1) : ((if c then a else b) : Int32) = 0 ∨ ((if c then a else b) : Int32) = 1 := by
  split
  · exact ha
  · exact hb
theorem mo_ifp {α : Type} {c : Prop} [Decidable c] {x a b : α} (h : c) (e : x = a) : x = (if c then a else b) := by rw [if_pos h]; exact e
theorem mo_ifn {α : Type} {c : Prop} [Decidable c] {x a b : α} (h : ¬ c) (e : x = b) : x = (if c then a else b) := by rw [if_neg h]; exact e

def F_M_thrown (g : se_G)  : Int32 := (g 0 2)
def F_M_quiesce (g : se_G)  : se_G := (se_u (se_u (se_u (se_u (se_u (se_u g 0 29 0) 0 31 0) 0 32 0) 0 33 0) 0 34 (-1)) 0 37 0)
def F_M_clear_j72 : Nat → se_G → Int32 → se_G
  | 0, gj72, _ => gj72
  | n + 1, gj72, v2_72 => (if 2048 ≤ v2_72 then (se_u (se_u (se_u (se_u (se_u (se_u (F_M_quiesce gj72) 0 35 60) 0 36 0) 0 40 0) 0 41 0) 0 42 0) 0 30 0) else (F_M_clear_j72 n (se_u gj72 3 (Int32.toNatClampNeg v2_72) (vp_nar .boolean 0)) (v2_72 + 1)))
def F_M_clear (g : se_G) (p1 : Int32) : se_G := (F_M_clear_j72 (((2048 : Int32).toInt - ((0) : Int32).toInt).toNat + 1) (se_u (se_u (se_u (se_u (se_u (se_u (se_u (se_u (se_u (se_u (se_u (se_u (se_u g 0 8 p1) 0 9 p1) 0 10 p1) 0 14 (p1 + 1)) 0 13 0) 0 11 (g 0 0)) 0 15 0) 0 20 0) 0 21 0) 0 7 0) 0 22 0) 0 24 0) 0 6 0) 0)
def F_M_begin_k1 (p2 : Int32) (g1 : se_G) : se_G := (if p2 = 0 then (se_u (se_u (se_u (se_u g1 0 5 p2) 0 4 ((if p2 = 0 then 2 else 1) : Int32)) 0 29 1) 0 10 ((g1 0 8) + 1)) else (se_u (se_u g1 0 5 p2) 0 4 ((if p2 = 0 then 2 else 1) : Int32)))
def F_M_begin (g : se_G) (p1 : Int32) (p2 : Int32) : se_G := (if ((if (g 0 4) = 0 then 0 else ((if (g 0 4) = 11 then 0 else 1) : Int32)) : Int32) ≤ 0 then (F_M_begin_k1 p2 (F_M_clear (se_u g 0 2 ((if (g 0 4) = 0 then 0 else ((if (g 0 4) = 11 then 0 else 1) : Int32)) : Int32)) p1)) else (se_u g 0 2 ((if (g 0 4) = 0 then 0 else ((if (g 0 4) = 11 then 0 else 1) : Int32)) : Int32)))
def F_M_sends (g : se_G)  : Int32 := (if (g 0 4) = 4 then 1 else (if (g 0 4) = 5 then 1 else (if (g 0 4) = 7 then 1 else (if (g 0 4) = 8 then 1 else (if (g 0 4) = 9 then 1 else 0)))))
def F_M_unsent (g : se_G)  : Int32 := ((g 0 13) - ((g 0 10) - (g 0 14)))
def F_M_owesLast (g : se_G)  : Int32 := (if (g 0 6) = 0 then 0 else (if (g 0 13) < ((g 0 10) - (g 0 14)) then 0 else 1))
def F_M_watch (g : se_G)  : se_G := (if ((if (F_M_sends g) = 0 then 0 else ((if (g 0 9) = (g 0 10) then ((if (g 0 15) = 0 then ((if 0 < (F_M_unsent g) then 1 else ((if (F_M_owesLast g) = 0 then 0 else 1) : Int32)) : Int32) else 0) : Int32) else 0) : Int32)) : Int32) = 0 then g else (if 0 ≤ (g 0 34) then g else (se_u g 0 34 ((g 0 3) + (g 0 35)))))
def F_M_write_j84 : Nat → se_G → Int64 → Int32 → Int32 → Int32 × se_G
  | 0, gj84, _, _, _ => (0, gj84)
  | n + 1, gj84, v1_84, v5_84, v6_84 => (if v6_84 < 0 then (v5_84, (F_M_watch gj84)) else (if 2048 ≤ (gj84 0 13) then (v5_84, (F_M_watch gj84)) else (F_M_write_j84 n (se_u (se_u gj84 1 (Int32.toNatClampNeg (gj84 0 13)) (Int64.toInt32 (((v1_84 >>> (Int32.toInt64 (8 * v6_84) &&& 63))) &&& 255))) 0 13 ((gj84 0 13) + 1)) v1_84 (v5_84 + 1) (v6_84 + (-1)))))
def F_M_write (g : se_G) (p1 : Int64) (p3 : Int32) : Int32 × se_G := (if ((if p3 < 1 then 1 else ((if p3 ≤ 8 then ((if ((if (g 0 6) = 0 then ((if (g 0 4) = 0 then 1 else ((if (g 0 4) = 1 then 1 else ((if (g 0 4) = 11 then 1 else 0) : Int32)) : Int32)) : Int32) else 1) : Int32) = 0 then 0 else 2) : Int32) else 1) : Int32)) : Int32) ≤ 0 then (F_M_write_j84 (((((p3 - 1)) : Int32).toInt + 1).toNat + 1) (se_u g 0 2 ((if p3 < 1 then 1 else ((if p3 ≤ 8 then ((if ((if (g 0 6) = 0 then ((if (g 0 4) = 0 then 1 else ((if (g 0 4) = 1 then 1 else ((if (g 0 4) = 11 then 1 else 0) : Int32)) : Int32)) : Int32) else 1) : Int32) = 0 then 0 else 2) : Int32) else 1) : Int32)) : Int32)) p1 0 (p3 - 1)) else (0, (se_u g 0 2 ((if p3 < 1 then 1 else ((if p3 ≤ 8 then ((if ((if (g 0 6) = 0 then ((if (g 0 4) = 0 then 1 else ((if (g 0 4) = 1 then 1 else ((if (g 0 4) = 11 then 1 else 0) : Int32)) : Int32)) : Int32) else 1) : Int32) = 0 then 0 else 2) : Int32) else 1) : Int32)) : Int32))))
def F_M_room (g : se_G)  : Int32 := (2048 - (g 0 20))
def F_M_isShort (g : se_G)  : Int32 := (if ((if 1024 ≤ (g 0 11) then 1024 else (g 0 11)) : Int32) ≤ (F_M_room g) then 0 else 1)
def F_M_read_j101 : Nat → se_G → Int32 → Int32 → Int32 → Int32 × se_G
  | 0, gj101, _, _, _ => (0, gj101)
  | n + 1, gj101, v1_101, v2_101, v3_101 => (if 2048 ≤ (v3_101 + 1) then (v1_101, (se_u (se_u (se_u gj101 3 (Int32.toNatClampNeg 2047) (vp_nar .boolean 0)) 0 20 ((gj101 0 20) - 1)) 0 33 ((if (gj101 0 33) = 0 then ((if v2_101 = 0 then 0 else ((if (F_M_isShort (se_u (se_u gj101 3 (Int32.toNatClampNeg 2047) (vp_nar .boolean 0)) 0 20 ((gj101 0 20) - 1))) = 0 then ((if (gj101 0 4) < 4 then 0 else ((if 6 < (gj101 0 4) then 0 else 1) : Int32)) : Int32) else 0) : Int32)) : Int32) else 1) : Int32))) else (F_M_read_j101 n (se_u (se_u gj101 2 (Int32.toNatClampNeg v3_101) (gj101 2 (Int32.toNatClampNeg (v3_101 + 1)))) 3 (Int32.toNatClampNeg v3_101) (vp_nar .boolean (gj101 3 (Int32.toNatClampNeg (v3_101 + 1))))) v1_101 v2_101 (v3_101 + 1)))
def F_M_read (g : se_G)  : Int32 × se_G := (if (g 0 20) = 0 then (if ((if ((if (g 0 4) = 0 then 1 else ((if (g 0 4) = 1 then 1 else ((if (g 0 4) = 11 then 1 else 0) : Int32)) : Int32)) : Int32) = 0 then 0 else ((if (g 0 24) = 0 then 1 else 0) : Int32)) : Int32) ≤ 0 then (if (g 0 24) = 0 then ((-1), (se_u (se_u g 0 2 0) 0 2 ((if ((if (g 0 4) = 0 then 1 else ((if (g 0 4) = 1 then 1 else ((if (g 0 4) = 11 then 1 else 0) : Int32)) : Int32)) : Int32) = 0 then 0 else ((if (g 0 24) = 0 then 1 else 0) : Int32)) : Int32))) else ((-2), (se_u (se_u g 0 2 0) 0 2 ((if ((if (g 0 4) = 0 then 1 else ((if (g 0 4) = 1 then 1 else ((if (g 0 4) = 11 then 1 else 0) : Int32)) : Int32)) : Int32) = 0 then 0 else ((if (g 0 24) = 0 then 1 else 0) : Int32)) : Int32)))) else (0, (se_u (se_u g 0 2 0) 0 2 ((if ((if (g 0 4) = 0 then 1 else ((if (g 0 4) = 1 then 1 else ((if (g 0 4) = 11 then 1 else 0) : Int32)) : Int32)) : Int32) = 0 then 0 else ((if (g 0 24) = 0 then 1 else 0) : Int32)) : Int32)))) else (F_M_read_j101 (((2048 : Int32).toInt - ((0) : Int32).toInt).toNat + 1) (se_u g 0 2 0) (g 2 (Int32.toNatClampNeg 0)) (F_M_isShort (se_u g 0 2 0)) 0))
def F_M_becomes_j49 (gj49 : se_G) (v1_49 : Int32) : se_G := (if v1_49 = 10 then (se_u gj49 0 43 ((gj49 0 3) + (gj49 0 1))) else gj49)
def F_M_becomes_j40 (gj40 : se_G) (v1_40 : Int32) (v2_40 : Int32) : se_G := (F_M_becomes_j49 (se_u (F_M_quiesce gj40) 0 33 v2_40) v1_40)
def F_M_becomes (g : se_G) (p1 : Int32) : se_G := (if p1 = 0 then (F_M_becomes_j40 (se_u g 0 4 p1) p1 ((if (g 0 33) = 0 then 0 else ((if p1 = 10 then 1 else 0) : Int32)) : Int32)) else (if p1 = 11 then (F_M_becomes_j40 (se_u g 0 4 p1) p1 ((if (g 0 33) = 0 then 0 else ((if p1 = 10 then 1 else 0) : Int32)) : Int32)) else (if p1 = 10 then (F_M_becomes_j40 (se_u g 0 4 p1) p1 ((if (g 0 33) = 0 then 0 else ((if p1 = 10 then 1 else 0) : Int32)) : Int32)) else (F_M_becomes_j49 (se_u g 0 4 p1) p1))))
def F_M_close (g : se_G)  : se_G := (if ((if (g 0 6) = 0 then ((if (g 0 4) = 0 then 1 else ((if (g 0 4) = 11 then 1 else 0) : Int32)) : Int32) else 1) : Int32) ≤ 0 then (if (g 0 4) = 1 then (F_M_watch (F_M_becomes (se_u (se_u g 0 2 ((if (g 0 6) = 0 then ((if (g 0 4) = 0 then 1 else ((if (g 0 4) = 11 then 1 else 0) : Int32)) : Int32) else 1) : Int32)) 0 6 1) 0)) else (if (g 0 4) = 2 then (F_M_watch (F_M_becomes (se_u (se_u g 0 2 ((if (g 0 6) = 0 then ((if (g 0 4) = 0 then 1 else ((if (g 0 4) = 11 then 1 else 0) : Int32)) : Int32) else 1) : Int32)) 0 6 1) 0)) else (if (g 0 4) = 4 then (F_M_watch (F_M_becomes (se_u (se_u g 0 2 ((if (g 0 6) = 0 then ((if (g 0 4) = 0 then 1 else ((if (g 0 4) = 11 then 1 else 0) : Int32)) : Int32) else 1) : Int32)) 0 6 1) 5)) else (if (g 0 4) = 7 then (F_M_watch (F_M_becomes (se_u (se_u g 0 2 ((if (g 0 6) = 0 then ((if (g 0 4) = 0 then 1 else ((if (g 0 4) = 11 then 1 else 0) : Int32)) : Int32) else 1) : Int32)) 0 6 1) 9)) else (F_M_watch (se_u (se_u g 0 2 ((if (g 0 6) = 0 then ((if (g 0 4) = 0 then 1 else ((if (g 0 4) = 11 then 1 else 0) : Int32)) : Int32) else 1) : Int32)) 0 6 1)))))) else (se_u g 0 2 ((if (g 0 6) = 0 then ((if (g 0 4) = 0 then 1 else ((if (g 0 4) = 11 then 1 else 0) : Int32)) : Int32) else 1) : Int32)))
def F_M_abort (g : se_G)  : se_G := (if ((if (g 0 4) = 0 then 1 else ((if (g 0 4) = 11 then 1 else 0) : Int32)) : Int32) ≤ 0 then (if (g 0 4) = 1 then (F_M_becomes (se_u g 0 2 ((if (g 0 4) = 0 then 1 else ((if (g 0 4) = 11 then 1 else 0) : Int32)) : Int32)) 11) else (if (g 0 4) = 2 then (F_M_becomes (se_u g 0 2 ((if (g 0 4) = 0 then 1 else ((if (g 0 4) = 11 then 1 else 0) : Int32)) : Int32)) 11) else (if (g 0 4) = 10 then (F_M_becomes (se_u g 0 2 ((if (g 0 4) = 0 then 1 else ((if (g 0 4) = 11 then 1 else 0) : Int32)) : Int32)) 11) else (F_M_becomes (se_u (se_u (se_u (se_u (se_u g 0 2 ((if (g 0 4) = 0 then 1 else ((if (g 0 4) = 11 then 1 else 0) : Int32)) : Int32)) 0 25 1) 0 26 12) 0 27 (g 0 10)) 0 28 (g 0 21)) 11)))) else (se_u g 0 2 ((if (g 0 4) = 0 then 1 else ((if (g 0 4) = 11 then 1 else 0) : Int32)) : Int32)))
def F_M_ring_j80 (gj80 : se_G) : se_G := (se_u (se_u gj80 0 35 ((if ((gj80 0 35) * 2) ≤ 1200 then ((gj80 0 35) * 2) else 1200) : Int32)) 0 34 ((gj80 0 3) + ((if ((gj80 0 35) * 2) ≤ 1200 then ((gj80 0 35) * 2) else 1200) : Int32)))
def F_M_ring_j56 (gj56 : se_G) : se_G := (if (gj56 0 9) = (gj56 0 10) then (F_M_ring_j80 (se_u gj56 0 32 1)) else (F_M_ring_j80 (se_u gj56 0 31 1)))
def F_M_ring (g : se_G)  : se_G := (if ((g 0 36) + 1) ≤ 8 then (if (g 0 9) = (g 0 8) then (if (g 0 10) = (g 0 8) then (F_M_ring_j56 (se_u g 0 36 ((g 0 36) + 1))) else (F_M_ring_j80 (se_u (se_u g 0 36 ((g 0 36) + 1)) 0 29 1))) else (F_M_ring_j56 (se_u g 0 36 ((g 0 36) + 1)))) else (F_M_becomes (se_u g 0 36 ((g 0 36) + 1)) 11))
def F_M_run_k1 (rec : se_G → Int32 → Int32 → (Int32 × se_G)) (g7 : se_G) (v1_47 : Int32) (v2_47 : Int32) : Int32 × se_G := (if (g7 0 34) = (g7 0 3) then (rec (F_M_watch (F_M_ring g7)) v1_47 (v2_47 + 1)) else (rec (F_M_watch g7) v1_47 (v2_47 + 1)))
def F_M_run_j47 : Nat → se_G → Int32 → Int32 → Int32 × se_G
  | 0, gj47, _, _ => (0, gj47)
  | n + 1, gj47, v1_47, v2_47 => (if v1_47 ≤ v2_47 then ((gj47 0 3), gj47) else (if (gj47 0 4) = 10 then (if ((gj47 0 3) + 1) = (gj47 0 43) then (F_M_run_k1 (F_M_run_j47 n) (F_M_becomes (se_u gj47 0 3 ((gj47 0 3) + 1)) 0) v1_47 v2_47) else (if (gj47 0 34) = ((gj47 0 3) + 1) then (F_M_run_j47 n (F_M_watch (F_M_ring (se_u gj47 0 3 ((gj47 0 3) + 1)))) v1_47 (v2_47 + 1)) else (F_M_run_j47 n (F_M_watch (se_u gj47 0 3 ((gj47 0 3) + 1))) v1_47 (v2_47 + 1)))) else (if (gj47 0 34) = ((gj47 0 3) + 1) then (F_M_run_j47 n (F_M_watch (F_M_ring (se_u gj47 0 3 ((gj47 0 3) + 1)))) v1_47 (v2_47 + 1)) else (F_M_run_j47 n (F_M_watch (se_u gj47 0 3 ((gj47 0 3) + 1))) v1_47 (v2_47 + 1)))))
def F_M_run (g : se_G) (p1 : Int32) : Int32 × se_G := (if p1 < 1 then (0, (se_u g 0 2 1)) else (if p1 ≤ 2000 then (if ((if ((g 0 3) + p1) ≤ 1000000 then 0 else 2) : Int32) ≤ 0 then (F_M_run_j47 ((((p1) : Int32).toInt - ((0) : Int32).toInt).toNat + 1) (se_u g 0 2 ((if ((g 0 3) + p1) ≤ 1000000 then 0 else 2) : Int32)) p1 0) else (0, (se_u g 0 2 ((if ((g 0 3) + p1) ≤ 1000000 then 0 else 2) : Int32)))) else (0, (se_u g 0 2 1))))
def F_M_feed_j50 : Nat → se_G → Int64 → Int32 → Int32 × se_G
  | 0, gj50, _, _ => (0, gj50)
  | n + 1, gj50, v1_50, v4_50 => (if v4_50 < 0 then ((gj50 0 45), gj50) else (F_M_feed_j50 n (se_u (se_u gj50 4 (Int32.toNatClampNeg (gj50 0 45)) (Int64.toInt32 (((v1_50 >>> (Int32.toInt64 (8 * v4_50) &&& 63))) &&& 255))) 0 45 ((gj50 0 45) + 1)) v1_50 (v4_50 + (-1))))
def F_M_feed (g : se_G) (p1 : Int64) (p3 : Int32) : Int32 × se_G := (if ((if p3 < 1 then 1 else ((if p3 ≤ 8 then ((if ((g 0 45) + p3) ≤ 1460 then 0 else 2) : Int32) else 1) : Int32)) : Int32) ≤ 0 then (F_M_feed_j50 (((((p3 - 1)) : Int32).toInt + 1).toNat + 1) (se_u g 0 2 ((if p3 < 1 then 1 else ((if p3 ≤ 8 then ((if ((g 0 45) + p3) ≤ 1460 then 0 else 2) : Int32) else 1) : Int32)) : Int32)) p1 (p3 - 1)) else (0, (se_u g 0 2 ((if p3 < 1 then 1 else ((if p3 ≤ 8 then ((if ((g 0 45) + p3) ≤ 1460 then 0 else 2) : Int32) else 1) : Int32)) : Int32))))
def F_M_has (p0 : Int32) (p1 : Int32) : Int32 := (if (p0 &&& p1) = 0 then 0 else 1)
def F_M_size (g : se_G) (p1 : Int32) : Int32 := (((g 0 45) + ((if (F_M_has p1 1) = 0 then 0 else 1) : Int32)) + ((if (F_M_has p1 2) = 0 then 0 else 1) : Int32))
def F_M_resets (g : se_G) (p1 : Int32) (p2 : Int32) (p3 : Int32) : se_G := (if (F_M_has p1 4) = 0 then (se_u (se_u (se_u (se_u g 0 25 1) 0 26 ((if (F_M_has p1 8) = 0 then 12 else 4) : Int32)) 0 27 ((if (F_M_has p1 8) = 0 then 0 else p3) : Int32)) 0 28 ((if (F_M_has p1 8) = 0 then (p2 + (F_M_size (se_u (se_u (se_u g 0 25 1) 0 26 ((if (F_M_has p1 8) = 0 then 12 else 4) : Int32)) 0 27 ((if (F_M_has p1 8) = 0 then 0 else p3) : Int32)) p1)) else 0) : Int32)) else g)
def F_M_fits (g : se_G) (p1 : Int32) (p2 : Int32) : Int32 := (if (F_M_size g p1) = 0 then (if (p2 - (g 0 21)) = 0 then 1 else (if (p2 - (g 0 21)) ≤ 0 then 0 else (if (F_M_room g) ≤ (p2 - (g 0 21)) then 0 else 1))) else (if (F_M_room g) ≤ 0 then 0 else (if (F_M_room g) ≤ (p2 - (g 0 21)) then 0 else (if ((p2 - (g 0 21)) + (F_M_size g p1)) ≤ 0 then 0 else 1))))
def F_M_tell_j37 (gj37 : se_G) (v1_37 : Int32) (v2_37 : Int32) (v3_37 : Int32) : se_G := (if ((if (gj37 0 15) = 0 then ((if v3_37 = 0 then 0 else 1) : Int32) else 0) : Int32) = 0 then (if v3_37 = 0 then (se_u (se_u (se_u (se_u gj37 0 15 v3_37) 0 16 v1_37) 0 17 v2_37) 0 36 0) else (se_u (se_u (se_u gj37 0 15 v3_37) 0 16 v1_37) 0 17 v2_37)) else (se_u (se_u (se_u (se_u (se_u (se_u gj37 0 15 v3_37) 0 16 v1_37) 0 17 v2_37) 0 36 0) 0 32 0) 0 34 ((if (gj37 0 9) = (gj37 0 10) then (-1) else (gj37 0 34)) : Int32)))
def F_M_tell (g : se_G) (p1 : Int32) (p2 : Int32) (p3 : Int32) : se_G := (if (p2 - (g 0 9)) < 0 then g else (if (p1 - (g 0 16)) < 0 then g else (if (p1 - (g 0 16)) = 0 then (if 0 ≤ (p2 - (g 0 17)) then (F_M_tell_j37 g p1 p2 p3) else g) else (F_M_tell_j37 g p1 p2 p3))))
def F_M_wasLast_j87 (gj87 : se_G) (v1_87 : Int32) : Int32 × se_G := (if v1_87 = 0 then (0, gj87) else (if (gj87 0 4) = 9 then (1, (F_M_becomes gj87 0)) else (0, gj87)))
def F_M_wasLast_j65 (gj65 : se_G) (v1_65 : Int32) : Int32 × se_G := (if v1_65 = 0 then (F_M_wasLast_j87 gj65 v1_65) else (if (gj65 0 4) = 8 then (0, (F_M_becomes gj65 10)) else (F_M_wasLast_j87 gj65 v1_65)))
def F_M_wasLast (g : se_G)  : Int32 × se_G := (if ((if (g 0 6) = 0 then 0 else ((if (g 0 13) = 0 then ((if (g 0 9) = (g 0 10) then ((if ((g 0 10) - (g 0 14)) = 1 then 1 else 0) : Int32) else 0) : Int32) else 0) : Int32)) : Int32) = 0 then (F_M_wasLast_j65 g ((if (g 0 6) = 0 then 0 else ((if (g 0 13) = 0 then ((if (g 0 9) = (g 0 10) then ((if ((g 0 10) - (g 0 14)) = 1 then 1 else 0) : Int32) else 0) : Int32) else 0) : Int32)) : Int32)) else (if (g 0 4) = 5 then (0, (F_M_becomes g 6)) else (F_M_wasLast_j65 g ((if (g 0 6) = 0 then 0 else ((if (g 0 13) = 0 then ((if (g 0 9) = (g 0 10) then ((if ((g 0 10) - (g 0 14)) = 1 then 1 else 0) : Int32) else 0) : Int32) else 0) : Int32)) : Int32))))
def F_M_take_j301 (gj301 : se_G) (v1_301 : Int32) (v4_301 : Int32) : se_G := (if v4_301 = 0 then (se_u gj301 0 33 ((if (gj301 0 33) = 0 then ((if 0 < (gj301 0 45) then 1 else ((if (F_M_has v1_301 2) = 0 then 0 else 1) : Int32)) : Int32) else 1) : Int32)) else (if (gj301 0 22) = 0 then (se_u gj301 0 33 ((if (gj301 0 33) = 0 then ((if 0 < (gj301 0 45) then 1 else ((if (F_M_has v1_301 2) = 0 then 0 else 1) : Int32)) : Int32) else 1) : Int32)) else (if (gj301 0 21) = (gj301 0 23) then (F_M_becomes (se_u (se_u (se_u gj301 0 33 ((if (gj301 0 33) = 0 then ((if 0 < (gj301 0 45) then 1 else ((if (F_M_has v1_301 2) = 0 then 0 else 1) : Int32)) : Int32) else 1) : Int32)) 0 21 ((gj301 0 21) + 1)) 0 24 1) ((if (gj301 0 4) = 4 then 7 else ((if (gj301 0 4) = 5 then 8 else 10) : Int32)) : Int32)) else (se_u gj301 0 33 ((if (gj301 0 33) = 0 then ((if 0 < (gj301 0 45) then 1 else ((if (F_M_has v1_301 2) = 0 then 0 else 1) : Int32)) : Int32) else 1) : Int32)))))
def F_M_take_j223 : Nat → se_G → Int32 → Int32 → se_G
  | 0, gj223, _, _ => gj223
  | n + 1, gj223, v1_223, v4_223 => (if v4_223 = 0 then (F_M_take_j301 gj223 v1_223 v4_223) else (if 2048 ≤ (gj223 0 20) then (F_M_take_j301 gj223 v1_223 v4_223) else (if (gj223 3 (Int32.toNatClampNeg (gj223 0 20))) = 0 then (F_M_take_j301 gj223 v1_223 v4_223) else (if (gj223 0 22) = 0 then (F_M_take_j223 n (se_u (se_u (se_u gj223 3 (Int32.toNatClampNeg (gj223 0 20)) (vp_nar .boolean 0)) 0 20 ((gj223 0 20) + 1)) 0 21 ((gj223 0 21) + 1)) v1_223 v4_223) else (if (gj223 0 21) = (gj223 0 23) then (F_M_take_j301 gj223 v1_223 v4_223) else (F_M_take_j223 n (se_u (se_u (se_u gj223 3 (Int32.toNatClampNeg (gj223 0 20)) (vp_nar .boolean 0)) 0 20 ((gj223 0 20) + 1)) 0 21 ((gj223 0 21) + 1)) v1_223 v4_223))))))
def F_M_take_j167 (gj167 : se_G) (v1_167 : Int32) (v3_167 : Int32) (v4_167 : Int32) (v5_167 : Int32) : se_G := (if v4_167 = 0 then (F_M_take_j223 (((2048 : Int32).toInt - (gj167 0 20).toInt).toNat + 1) gj167 v1_167 v4_167) else (if (F_M_has v1_167 2) = 0 then (F_M_take_j223 (((2048 : Int32).toInt - (gj167 0 20).toInt).toNat + 1) gj167 v1_167 v4_167) else (if (v3_167 + (gj167 0 45)) < 0 then (F_M_take_j223 (((2048 : Int32).toInt - (gj167 0 20).toInt).toNat + 1) gj167 v1_167 v4_167) else (if v5_167 ≤ (v3_167 + (gj167 0 45)) then (F_M_take_j223 (((2048 : Int32).toInt - (gj167 0 20).toInt).toNat + 1) gj167 v1_167 v4_167) else (if (gj167 0 22) = 0 then (F_M_take_j223 (((2048 : Int32).toInt - ((se_u (se_u gj167 0 22 1) 0 23 ((gj167 0 21) + (v3_167 + (gj167 0 45)))) 0 20).toInt).toNat + 1) (se_u (se_u gj167 0 22 1) 0 23 ((gj167 0 21) + (v3_167 + (gj167 0 45)))) v1_167 v4_167) else (F_M_take_j223 (((2048 : Int32).toInt - (gj167 0 20).toInt).toNat + 1) gj167 v1_167 v4_167))))))
def F_M_take_j48 : Nat → se_G → Int32 → Int32 → Int32 → Int32 → Int32 → se_G
  | 0, gj48, _, _, _, _, _ => gj48
  | n + 1, gj48, v1_48, v3_48, v4_48, v5_48, v6_48 => (if (gj48 0 45) ≤ v6_48 then (F_M_take_j167 gj48 v1_48 v3_48 v4_48 v5_48) else (if v4_48 = 0 then (F_M_take_j167 gj48 v1_48 v3_48 v4_48 v5_48) else (if (v3_48 + v6_48) < 0 then (F_M_take_j48 n gj48 v1_48 v3_48 v4_48 v5_48 (v6_48 + 1)) else (if v5_48 ≤ (v3_48 + v6_48) then (F_M_take_j48 n gj48 v1_48 v3_48 v4_48 v5_48 (v6_48 + 1)) else (if ((if (gj48 0 22) = 0 then 0 else ((if (((gj48 0 21) + (v3_48 + v6_48)) - (gj48 0 23)) < 0 then 0 else 1) : Int32)) : Int32) = 0 then (if (gj48 3 (Int32.toNatClampNeg ((gj48 0 20) + (v3_48 + v6_48)))) = 0 then (F_M_take_j48 n (se_u (se_u gj48 3 (Int32.toNatClampNeg ((gj48 0 20) + (v3_48 + v6_48))) (vp_nar .boolean 1)) 2 (Int32.toNatClampNeg ((gj48 0 20) + (v3_48 + v6_48))) (gj48 4 (Int32.toNatClampNeg v6_48))) v1_48 v3_48 v4_48 v5_48 (v6_48 + 1)) else (F_M_take_j48 n gj48 v1_48 v3_48 v4_48 v5_48 (v6_48 + 1))) else (F_M_take_j48 n gj48 v1_48 v3_48 v4_48 v5_48 (v6_48 + 1)))))))
def F_M_take (g : se_G) (p1 : Int32) (p2 : Int32) : se_G := (F_M_take_j48 (((g 0 45 : Int32).toInt - ((0) : Int32).toInt).toNat + 1) g p1 (p2 - (g 0 21)) ((if (g 0 4) = 4 then 1 else ((if (g 0 4) = 5 then 1 else ((if (g 0 4) = 6 then 1 else 0) : Int32)) : Int32)) : Int32) (F_M_room g) 0)
def F_M_learn_j76 (gj76 : se_G) : se_G := (se_u gj76 0 35 ((if 20 ≤ (((gj76 0 41) / 8) + ((if (gj76 0 42) ≤ 1 then 1 else (gj76 0 42)) : Int32)) then ((if (((gj76 0 41) / 8) + ((if (gj76 0 42) ≤ 1 then 1 else (gj76 0 42)) : Int32)) ≤ 1200 then (((gj76 0 41) / 8) + ((if (gj76 0 42) ≤ 1 then 1 else (gj76 0 42)) : Int32)) else 1200) : Int32) else 20) : Int32))
def F_M_learn (g : se_G) (p1 : Int32) : se_G := (if (g 0 40) = 0 then (F_M_learn_j76 (se_u (se_u (se_u g 0 40 1) 0 41 (8 * p1)) 0 42 (2 * p1))) else (F_M_learn_j76 (se_u (se_u g 0 41 ((g 0 41) + (p1 - ((g 0 41) / 8)))) 0 42 ((g 0 42) + (((if 0 ≤ (p1 - ((g 0 41) / 8)) then (p1 - ((g 0 41) / 8)) else (-(p1 - ((g 0 41) / 8)))) : Int32) - ((g 0 42) / 4))))))
def F_M_thanked_j125 (gj125 : se_G) : se_G := (se_u (se_u (se_u gj125 0 36 0) 0 31 0) 0 34 ((if (gj125 0 9) = (gj125 0 10) then (-1) else ((gj125 0 3) + (gj125 0 35))) : Int32))
def F_M_thanked_j35 : Nat → se_G → Int32 → Int32 → Int32 → se_G
  | 0, gj35, _, _, _ => gj35
  | n + 1, gj35, v1_35, v3_35, v4_35 => (if (gj35 0 13) ≤ v4_35 then (if (gj35 0 37) = 0 then (F_M_thanked_j125 (se_u (se_u (se_u gj35 0 13 ((gj35 0 13) - v3_35)) 0 14 ((gj35 0 14) + v3_35)) 0 9 v1_35)) else (if 0 < ((gj35 0 38) - v1_35) then (F_M_thanked_j125 (se_u (se_u (se_u gj35 0 13 ((gj35 0 13) - v3_35)) 0 14 ((gj35 0 14) + v3_35)) 0 9 v1_35)) else (F_M_thanked_j125 (F_M_learn (se_u (se_u (se_u (se_u gj35 0 13 ((gj35 0 13) - v3_35)) 0 14 ((gj35 0 14) + v3_35)) 0 9 v1_35) 0 37 0) ((gj35 0 3) - (gj35 0 39)))))) else (F_M_thanked_j35 n (se_u gj35 1 (Int32.toNatClampNeg (v4_35 - v3_35)) (gj35 1 (Int32.toNatClampNeg v4_35))) v1_35 v3_35 (v4_35 + 1)))
def F_M_thanked (g : se_G) (p1 : Int32) : se_G := (F_M_thanked_j35 (((g 0 13 : Int32).toInt - ((((if 0 ≤ (p1 - (g 0 14)) then ((if (p1 - (g 0 14)) ≤ (g 0 13) then (p1 - (g 0 14)) else (g 0 13)) : Int32) else 0) : Int32)) : Int32).toInt).toNat + 1) g p1 ((if 0 ≤ (p1 - (g 0 14)) then ((if (p1 - (g 0 14)) ≤ (g 0 13) then (p1 - (g 0 14)) else (g 0 13)) : Int32) else 0) : Int32) ((if 0 ≤ (p1 - (g 0 14)) then ((if (p1 - (g 0 14)) ≤ (g 0 13) then (p1 - (g 0 14)) else (g 0 13)) : Int32) else 0) : Int32))
def F_M_hitByReset_j43 (gj43 : se_G) : se_G := (F_M_becomes gj43 ((if (gj43 0 4) = 8 then 0 else ((if (gj43 0 4) = 9 then 0 else ((if (gj43 0 4) = 10 then 0 else 11) : Int32)) : Int32)) : Int32))
def F_M_hitByReset (g : se_G) (p1 : Int32) : se_G := (if p1 = 0 then (se_u g 0 33 1) else (if (g 0 4) = 3 then (if (g 0 5) = 0 then (F_M_hitByReset_j43 g) else (se_u (F_M_clear g (g 0 8)) 0 4 1)) else (F_M_hitByReset_j43 g)))
def F_M_toOthers_k1 (r1 : Int32) (g2 : se_G) (v1_192 : Int32) (v2_192 : Int32) : se_G := (if r1 = 0 then (F_M_take g2 v1_192 v2_192) else g2)
def F_M_toOthers_k2 (g1 : se_G) (v1_192 : Int32) (v2_192 : Int32) : se_G := (F_M_toOthers_k1 (F_M_wasLast g1).1 (F_M_wasLast g1).2 v1_192 v2_192)
def F_M_toOthers_j192 (gj192 : se_G) (v1_192 : Int32) (v2_192 : Int32) (v3_192 : Int32) (v4_192 : Int32) : se_G := (F_M_toOthers_k2 (F_M_tell gj192 v2_192 v3_192 v4_192) v1_192 v2_192)
def F_M_toOthers_j178 (gj178 : se_G) (v1_178 : Int32) (v2_178 : Int32) (v3_178 : Int32) (v4_178 : Int32) : se_G := (if (v3_178 - (gj178 0 9)) ≤ 0 then (F_M_toOthers_j192 gj178 v1_178 v2_178 v3_178 v4_178) else (F_M_toOthers_j192 (F_M_thanked gj178 v3_178) v1_178 v2_178 v3_178 v4_178))
def F_M_toOthers (g : se_G) (p1 : Int32) (p2 : Int32) (p3 : Int32) (p4 : Int32) : se_G := (if (F_M_fits g p1 p2) = 0 then (if (g 0 4) = 10 then (if (F_M_has p1 2) = 0 then (se_u g 0 33 ((if (g 0 33) = 0 then ((if (F_M_has p1 4) = 0 then 1 else 0) : Int32) else 1) : Int32)) else (se_u (se_u g 0 33 ((if (g 0 33) = 0 then ((if (F_M_has p1 4) = 0 then 1 else 0) : Int32) else 1) : Int32)) 0 43 ((g 0 3) + (g 0 1)))) else (se_u g 0 33 ((if (g 0 33) = 0 then ((if (F_M_has p1 4) = 0 then 1 else 0) : Int32) else 1) : Int32))) else (if (F_M_has p1 4) = 0 then (if (F_M_has p1 1) = 0 then (if (F_M_has p1 8) = 0 then g else (if (g 0 4) = 3 then (if p3 = (g 0 10) then (F_M_toOthers_j178 (se_u (se_u g 0 4 ((if (g 0 6) = 0 then 4 else 5) : Int32)) 0 29 0) p1 p2 p3 p4) else (F_M_resets g p1 p2 p3)) else (if (p3 - (g 0 10)) ≤ 0 then (F_M_toOthers_j178 g p1 p2 p3 p4) else (se_u g 0 33 1)))) else (se_u g 0 33 1)) else (F_M_hitByReset g ((if p2 = (g 0 21) then 1 else 0) : Int32))))
def F_M_greet (g : se_G) (p1 : Int32) (p2 : Int32) (p3 : Int32) (p4 : Int32) (p5 : Int32) : se_G := (se_u (se_u (se_u (se_u (se_u (se_u g 0 7 1) 0 21 (p2 + 1)) 0 11 ((if (g 0 0) ≤ ((if p5 = 0 then 536 else p5) : Int32) then (g 0 0) else ((if p5 = 0 then 536 else p5) : Int32)) : Int32)) 0 15 p4) 0 16 p2) 0 17 ((if (F_M_has p1 8) = 0 then (g 0 8) else p3) : Int32))
def F_M_toAsking_k1 (v6_31 : Int32) (g1 : se_G) (v3_31 : Int32) : se_G := (if v6_31 = 0 then (se_u (se_u g1 0 4 3) 0 29 1) else (se_u (F_M_thanked (se_u (se_u g1 0 4 4) 0 29 0) v3_31) 0 33 1))
def F_M_toAsking_j31 (gj31 : se_G) (v1_31 : Int32) (v2_31 : Int32) (v3_31 : Int32) (v4_31 : Int32) (v5_31 : Int32) (v6_31 : Int32) : se_G := (if (F_M_has v1_31 4) = 0 then (if (F_M_has v1_31 1) = 0 then gj31 else (F_M_toAsking_k1 v6_31 (F_M_greet gj31 v1_31 v2_31 v3_31 v4_31 v5_31) v3_31)) else (if v6_31 = 0 then gj31 else (F_M_becomes gj31 11)))
def F_M_toAsking (g : se_G) (p1 : Int32) (p2 : Int32) (p3 : Int32) (p4 : Int32) (p5 : Int32) : se_G := (if (F_M_has p1 8) = 0 then (F_M_toAsking_j31 g p1 p2 p3 p4 p5 (F_M_has p1 8)) else (if p3 = (g 0 10) then (F_M_toAsking_j31 g p1 p2 p3 p4 p5 (F_M_has p1 8)) else (F_M_resets g p1 p2 p3)))
def F_M_toListening_k1 (g1 : se_G) : se_G := (se_u (se_u (se_u g1 0 4 3) 0 10 ((g1 0 8) + 1)) 0 29 1)
def F_M_toListening (g : se_G) (p1 : Int32) (p2 : Int32) (p3 : Int32) (p4 : Int32) (p5 : Int32) : se_G := (if (F_M_has p1 4) = 0 then (if (F_M_has p1 8) = 0 then (if (F_M_has p1 1) = 0 then g else (F_M_toListening_k1 (F_M_greet g p1 p2 p3 p4 p5))) else (F_M_resets g p1 p2 p3)) else g)
def F_M_arrive_k1 (g2 : se_G) : Int32 × se_G := ((g2 0 4), g2)
def F_M_arrive_j143 (gj143 : se_G) : Int32 × se_G := (F_M_arrive_k1 (F_M_watch (se_u gj143 0 45 0)))
def F_M_arrive_j80 (gj80 : se_G) (v1_80 : Int32) (v2_80 : Int32) (v3_80 : Int32) : Int32 × se_G := (F_M_arrive_j143 (F_M_resets gj80 v1_80 v2_80 v3_80))
def F_M_arrive_j38 (gj38 : se_G) (v1_38 : Int32) (v2_38 : Int32) (v3_38 : Int32) (v4_38 : Int32) (v5_38 : Int32) : Int32 × se_G := (0, (se_u gj38 0 2 1))
def F_M_arrive (g : se_G) (p1 : Int32) (p2 : Int32) (p3 : Int32) (p4 : Int32) (p5 : Int32) : Int32 × se_G := (if p1 < 0 then (F_M_arrive_j38 g p1 p2 p3 p4 p5) else (if 15 < p1 then (F_M_arrive_j38 g p1 p2 p3 p4 p5) else (if p4 < 0 then (F_M_arrive_j38 g p1 p2 p3 p4 p5) else (if 65535 < p4 then (F_M_arrive_j38 g p1 p2 p3 p4 p5) else (if p5 < 0 then (F_M_arrive_j38 g p1 p2 p3 p4 p5) else (if ((if ((if 65535 < p5 then 0 else 1) : Int32) = 0 then 1 else 0) : Int32) ≤ 0 then (if (g 0 4) = 0 then (F_M_arrive_j80 (se_u g 0 2 ((if ((if 65535 < p5 then 0 else 1) : Int32) = 0 then 1 else 0) : Int32)) p1 p2 p3) else (if (g 0 4) = 11 then (F_M_arrive_j80 (se_u g 0 2 ((if ((if 65535 < p5 then 0 else 1) : Int32) = 0 then 1 else 0) : Int32)) p1 p2 p3) else (if (g 0 4) = 1 then (F_M_arrive_j143 (F_M_toListening (se_u g 0 2 ((if ((if 65535 < p5 then 0 else 1) : Int32) = 0 then 1 else 0) : Int32)) p1 p2 p3 p4 p5)) else (if (g 0 4) = 2 then (F_M_arrive_j143 (F_M_toAsking (se_u g 0 2 ((if ((if 65535 < p5 then 0 else 1) : Int32) = 0 then 1 else 0) : Int32)) p1 p2 p3 p4 p5)) else (F_M_arrive_j143 (F_M_toOthers (se_u g 0 2 ((if ((if 65535 < p5 then 0 else 1) : Int32) = 0 then 1 else 0) : Int32)) p1 p2 p3 p4)))))) else (0, (se_u g 0 2 ((if ((if 65535 < p5 then 0 else 1) : Int32) = 0 then 1 else 0) : Int32)))))))))
def F_M_make (g : se_G) (p1 : Int32) (p2 : Int32) (p3 : Int32) (p4 : Int32) (p5 : Int32) : se_G := (se_u (se_u (se_u (se_u (se_u (se_u (se_u g 0 46 1) 5 (Int32.toNatClampNeg 0) p1) 5 (Int32.toNatClampNeg 1) p2) 5 (Int32.toNatClampNeg 2) p3) 5 (Int32.toNatClampNeg 3) p4) 5 (Int32.toNatClampNeg 4) p5) 0 49 0)
def F_M_tellBytes_j58 : Nat → se_G → Int32 → Int32 → Int32 → se_G
  | 0, gj58, _, _, _ => gj58
  | n + 1, gj58, v2_58, v3_58, v4_58 => (if v3_58 ≤ v4_58 then (se_u (se_u gj58 0 49 v3_58) 0 33 ((if (gj58 0 33) = 0 then 0 else ((if (gj58 0 7) = 0 then 1 else 0) : Int32)) : Int32)) else (F_M_tellBytes_j58 n (se_u gj58 6 (Int32.toNatClampNeg v4_58) (gj58 1 (Int32.toNatClampNeg ((v2_58 - (gj58 0 14)) + v4_58)))) v2_58 v3_58 (v4_58 + 1)))
def F_M_tellBytes (g : se_G) (p1 : Int32) (p2 : Int32) (p3 : Int32) : se_G := (F_M_tellBytes_j58 ((((p3) : Int32).toInt - ((0) : Int32).toInt).toNat + 1) (F_M_make g (p1 ||| ((if (g 0 7) = 0 then 0 else 8) : Int32)) p2 ((if (g 0 7) = 0 then 0 else (g 0 21)) : Int32) (F_M_room g) ((if (F_M_has p1 1) = 0 then 0 else (g 0 0)) : Int32)) p2 p3 0)
def F_M_sent_j37 (gj37 : se_G) : se_G := (se_u gj37 0 34 ((if 0 ≤ (gj37 0 34) then (gj37 0 34) else ((gj37 0 3) + (gj37 0 35))) : Int32))
def F_M_sent (g : se_G) (p1 : Int32) (p2 : Int32) : se_G := (if p2 = 0 then (F_M_sent_j37 (se_u g 0 37 0)) else (if (g 0 37) = 0 then (F_M_sent_j37 (se_u (se_u (se_u g 0 37 1) 0 38 p1) 0 39 (g 0 3))) else (F_M_sent_j37 g)))
def F_M_sendNew_k1 (g1 : se_G) (p1 : Int32) (p2 : Int32) : se_G := (F_M_sent (se_u g1 0 10 ((g1 0 10) + (p1 + ((if p2 = 0 then 0 else 1) : Int32)))) ((g1 0 10) + (p1 + ((if p2 = 0 then 0 else 1) : Int32))) 1)
def F_M_sendNew (g : se_G) (p1 : Int32) (p2 : Int32) : se_G := (F_M_sendNew_k1 (F_M_tellBytes g ((if p2 = 0 then 0 else 2) : Int32) (g 0 10) p1) p1 p2)
def F_M_sendFresh_j91 (gj91 : se_G) (v2_91 : Int32) (v3_91 : Int32) (v4_91 : Int32) : Int32 × se_G := (if 0 < v3_91 then (1, (F_M_sendNew gj91 v3_91 v4_91)) else (if v4_91 = 0 then (if (gj91 0 32) = 0 then (0, gj91) else (if v2_91 ≤ 0 then (1, (F_M_sendNew (se_u gj91 0 32 0) 0 1)) else (1, (F_M_sendNew (se_u gj91 0 32 0) 1 0)))) else (1, (F_M_sendNew gj91 v3_91 v4_91))))
def F_M_sendFresh_j67 (gj67 : se_G) (v1_67 : Int32) (v2_67 : Int32) (v3_67 : Int32) : Int32 × se_G := (F_M_sendFresh_j91 gj67 v2_67 v3_67 ((if (F_M_owesLast gj67) = 0 then 0 else ((if v3_67 = v2_67 then ((if v1_67 ≤ v3_67 then 0 else 1) : Int32) else 0) : Int32)) : Int32))
def F_M_sendFresh_j29 (gj29 : se_G) (v1_29 : Int32) (v2_29 : Int32) : Int32 × se_G := (F_M_sendFresh_j67 gj29 v1_29 v2_29 ((if 0 ≤ ((if v1_29 ≤ ((if (gj29 0 11) ≤ v2_29 then (gj29 0 11) else v2_29) : Int32) then v1_29 else ((if (gj29 0 11) ≤ v2_29 then (gj29 0 11) else v2_29) : Int32)) : Int32) then ((if v1_29 ≤ ((if (gj29 0 11) ≤ v2_29 then (gj29 0 11) else v2_29) : Int32) then v1_29 else ((if (gj29 0 11) ≤ v2_29 then (gj29 0 11) else v2_29) : Int32)) : Int32) else 0) : Int32))
def F_M_sendFresh (g : se_G)  : Int32 × se_G := (if (F_M_sends g) = 0 then (0, g) else (F_M_sendFresh_j29 g (((g 0 9) + (g 0 15)) - (g 0 10)) (F_M_unsent g)))
def F_M_sendAgain_k1 (g1 : se_G) : se_G := (F_M_sent g1 (g1 0 10) 0)
def F_M_sendAgain_j65 (gj65 : se_G) (v1_65 : Int32) (v2_65 : Int32) (v3_65 : Int32) : se_G := (F_M_sendAgain_k1 (F_M_tellBytes gj65 ((if ((if v1_65 ≤ v2_65 then 0 else ((if v3_65 = v2_65 then 1 else 0) : Int32)) : Int32) = 0 then 0 else 2) : Int32) (gj65 0 9) v3_65))
def F_M_sendAgain_j48 (gj48 : se_G) (v1_48 : Int32) (v2_48 : Int32) : se_G := (F_M_sendAgain_j65 gj48 v1_48 v2_48 ((if (gj48 0 11) ≤ v2_48 then (gj48 0 11) else v2_48) : Int32))
def F_M_sendAgain (g : se_G)  : se_G := (F_M_sendAgain_j48 (se_u g 0 31 0) ((g 0 10) - (g 0 9)) ((if ((g 0 10) - (g 0 14)) ≤ (g 0 13) then ((g 0 10) - (g 0 14)) else (g 0 13)) : Int32))
def F_M_sendOpen_k1 (g1 : se_G) : se_G := (se_u (F_M_sent g1 ((g1 0 8) + 1) ((if (g1 0 30) = 0 then 1 else 0) : Int32)) 0 30 1)
def F_M_sendOpen (g : se_G)  : se_G := (F_M_sendOpen_k1 (F_M_tellBytes (se_u g 0 29 0) 1 (g 0 8) 0))
def F_M_next_k1 (r1 : Int32) (g1 : se_G) : Int32 × se_G := (if r1 = 0 then (if (g1 0 33) = 0 then (0, g1) else (1, (F_M_tellBytes g1 0 (g1 0 10) 0))) else (1, g1))
def F_M_next (g : se_G)  : Int32 × se_G := (if (g 0 25) = 0 then (if (g 0 29) = 0 then (if (g 0 31) = 0 then (F_M_next_k1 (F_M_sendFresh (se_u g 0 2 0)).1 (F_M_sendFresh (se_u g 0 2 0)).2) else (1, (F_M_sendAgain (se_u g 0 2 0)))) else (1, (F_M_sendOpen (se_u g 0 2 0)))) else (1, (F_M_make (se_u (se_u g 0 2 0) 0 25 0) (g 0 26) (g 0 27) (g 0 28) 0 0)))
def F_M_segment (g : se_G) (p1 : Int32) : Int32 × se_G := (if ((if p1 < 0 then 1 else ((if p1 ≤ 5 then ((if (g 0 46) = 0 then 2 else 0) : Int32) else 1) : Int32)) : Int32) ≤ 0 then (if p1 = 5 then ((g 0 49), (se_u g 0 2 ((if p1 < 0 then 1 else ((if p1 ≤ 5 then ((if (g 0 46) = 0 then 2 else 0) : Int32) else 1) : Int32)) : Int32))) else ((g 5 (Int32.toNatClampNeg p1)), (se_u g 0 2 ((if p1 < 0 then 1 else ((if p1 ≤ 5 then ((if (g 0 46) = 0 then 2 else 0) : Int32) else 1) : Int32)) : Int32)))) else (0, (se_u g 0 2 ((if p1 < 0 then 1 else ((if p1 ≤ 5 then ((if (g 0 46) = 0 then 2 else 0) : Int32) else 1) : Int32)) : Int32))))
def F_M_byteAt (g : se_G) (p1 : Int32) : Int32 × se_G := (if ((if (g 0 46) = 0 then 1 else ((if p1 < 0 then 2 else ((if p1 < (g 0 49) then 0 else 2) : Int32)) : Int32)) : Int32) ≤ 0 then ((g 6 (Int32.toNatClampNeg p1)), (se_u g 0 2 ((if (g 0 46) = 0 then 1 else ((if p1 < 0 then 2 else ((if p1 < (g 0 49) then 0 else 2) : Int32)) : Int32)) : Int32))) else (0, (se_u g 0 2 ((if (g 0 46) = 0 then 1 else ((if p1 < 0 then 2 else ((if p1 < (g 0 49) then 0 else 2) : Int32)) : Int32)) : Int32))))
def F_M_state (g : se_G)  : Int32 × se_G := ((g 0 4), (se_u g 0 2 0))
def F_M_figure (g : se_G) (p1 : Int32) : Int32 × se_G := (if p1 = 0 then ((g 0 9), (se_u g 0 2 ((if p1 < 0 then 1 else ((if p1 ≤ 12 then 0 else 1) : Int32)) : Int32))) else (if p1 = 1 then ((g 0 10), (se_u g 0 2 ((if p1 < 0 then 1 else ((if p1 ≤ 12 then 0 else 1) : Int32)) : Int32))) else (if p1 = 2 then ((g 0 15), (se_u g 0 2 ((if p1 < 0 then 1 else ((if p1 ≤ 12 then 0 else 1) : Int32)) : Int32))) else (if p1 = 3 then ((g 0 21), (se_u g 0 2 ((if p1 < 0 then 1 else ((if p1 ≤ 12 then 0 else 1) : Int32)) : Int32))) else (if p1 = 4 then ((F_M_room (se_u g 0 2 ((if p1 < 0 then 1 else ((if p1 ≤ 12 then 0 else 1) : Int32)) : Int32))), (se_u g 0 2 ((if p1 < 0 then 1 else ((if p1 ≤ 12 then 0 else 1) : Int32)) : Int32))) else (if p1 = 5 then ((g 0 35), (se_u g 0 2 ((if p1 < 0 then 1 else ((if p1 ≤ 12 then 0 else 1) : Int32)) : Int32))) else (if p1 = 6 then ((g 0 13), (se_u g 0 2 ((if p1 < 0 then 1 else ((if p1 ≤ 12 then 0 else 1) : Int32)) : Int32))) else (if p1 = 7 then ((g 0 20), (se_u g 0 2 ((if p1 < 0 then 1 else ((if p1 ≤ 12 then 0 else 1) : Int32)) : Int32))) else (if p1 = 8 then ((g 0 36), (se_u g 0 2 ((if p1 < 0 then 1 else ((if p1 ≤ 12 then 0 else 1) : Int32)) : Int32))) else (if p1 = 9 then ((g 0 11), (se_u g 0 2 ((if p1 < 0 then 1 else ((if p1 ≤ 12 then 0 else 1) : Int32)) : Int32))) else (if p1 = 10 then ((g 0 41), (se_u g 0 2 ((if p1 < 0 then 1 else ((if p1 ≤ 12 then 0 else 1) : Int32)) : Int32))) else (if p1 = 11 then ((g 0 42), (se_u g 0 2 ((if p1 < 0 then 1 else ((if p1 ≤ 12 then 0 else 1) : Int32)) : Int32))) else (if p1 = 12 then (if 0 ≤ (g 0 34) then (((g 0 34) - (g 0 3)), (se_u g 0 2 ((if p1 < 0 then 1 else ((if p1 ≤ 12 then 0 else 1) : Int32)) : Int32))) else (0, (se_u g 0 2 ((if p1 < 0 then 1 else ((if p1 ≤ 12 then 0 else 1) : Int32)) : Int32)))) else (0, (se_u g 0 2 ((if p1 < 0 then 1 else ((if p1 ≤ 12 then 0 else 1) : Int32)) : Int32))))))))))))))))
def se_WM (k : Nat → ClassId) (h : Nat → Nat) (g : se_G) : va_W := [(h 0, .inr (6, [.int (g 0 0), .int (g 0 1), .int (g 0 2), .int (g 0 3), .int (g 0 4), .int (g 0 5), .int (g 0 6), .int (g 0 7), .int (g 0 8), .int (g 0 9), .int (g 0 10), .int (g 0 11), .ref (h 1), .int (g 0 13), .int (g 0 14), .int (g 0 15), .int (g 0 16), .int (g 0 17), .ref (h 2), .ref (h 3), .int (g 0 20), .int (g 0 21), .int (g 0 22), .int (g 0 23), .int (g 0 24), .int (g 0 25), .int (g 0 26), .int (g 0 27), .int (g 0 28), .int (g 0 29), .int (g 0 30), .int (g 0 31), .int (g 0 32), .int (g 0 33), .int (g 0 34), .int (g 0 35), .int (g 0 36), .int (g 0 37), .int (g 0 38), .int (g 0 39), .int (g 0 40), .int (g 0 41), .int (g 0 42), .int (g 0 43), .ref (h 4), .int (g 0 45), .int (g 0 46), .ref (h 5), .ref (h 6), .int (g 0 49)])),
  (h 1, .inl (k 1, 2048, .inl (g 1))),
  (h 2, .inl (k 2, 2048, .inl (g 2))),
  (h 3, .inl (k 3, 2048, .inl (g 3))),
  (h 4, .inl (k 4, 1460, .inl (g 4))),
  (h 5, .inl (k 5, 5, .inl (g 5))),
  (h 6, .inl (k 6, 1460, .inl (g 6)))]
