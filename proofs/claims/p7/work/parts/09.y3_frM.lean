/-! written by program (wip/gen) -/
def w_F_M_quiesce (o j : Nat) : Bool := (o == 0 && (j == 29 || j == 31 || j == 32 || j == 33 || j == 34 || j == 37))
theorem fr_F_M_quiesce {o j : Nat} (h : w_F_M_quiesce o j = false) (g : se_G) : (F_M_quiesce g) o j = g o j := by
  unfold F_M_quiesce
  have h2 := h
  simp only [w_F_M_quiesce, Bool.or_eq_false_iff, Bool.and_eq_false_iff, beq_eq_false_iff_ne, ne_eq] at h2
  repeat' split
  all_goals repeat first | (with_reducible rfl) | rw [se_u_ne (by omega)]
def w_F_M_clear_j72 (o j : Nat) : Bool := (o == 0 && (j == 30 || j == 35 || j == 36 || j == 40 || j == 41 || j == 42)) || o == 3 || w_F_M_quiesce o j
theorem fr_F_M_clear_j72 {o j : Nat} (h : w_F_M_clear_j72 o j = false) : ∀ (n : Nat) (gj72 : se_G) (v2_72 : Int32), (F_M_clear_j72 n gj72 v2_72) o j = gj72 o j := by
  intro n
  induction n with
  | zero => intro gj72 v2_72; rfl
  | succ n ih =>
    intro gj72 v2_72
    rw [F_M_clear_j72]
    have h2 := h
    simp only [w_F_M_clear_j72, Bool.or_eq_false_iff, Bool.and_eq_false_iff, beq_eq_false_iff_ne, ne_eq] at h2
    repeat' split
    all_goals repeat first | (with_reducible rfl) | rw [se_u_ne (by omega)] | rw [fr_F_M_quiesce (by simp only [h2])] | rw [ih]
def w_F_M_clear (o j : Nat) : Bool := (o == 0 && (j == 6 || j == 7 || j == 8 || j == 9 || j == 10 || j == 11 || j == 13 || j == 14 || j == 15 || j == 20 || j == 21 || j == 22 || j == 24)) || w_F_M_clear_j72 o j
theorem fr_F_M_clear {o j : Nat} (h : w_F_M_clear o j = false) (g : se_G) (p1 : Int32) : (F_M_clear g p1) o j = g o j := by
  unfold F_M_clear
  have h2 := h
  simp only [w_F_M_clear, Bool.or_eq_false_iff, Bool.and_eq_false_iff, beq_eq_false_iff_ne, ne_eq] at h2
  repeat' split
  all_goals repeat first | (with_reducible rfl) | rw [se_u_ne (by omega)] | rw [fr_F_M_clear_j72 (by simp only [h2])]
def w_F_M_begin_k1 (o j : Nat) : Bool := (o == 0 && (j == 4 || j == 5 || j == 10 || j == 29))
theorem fr_F_M_begin_k1 {o j : Nat} (h : w_F_M_begin_k1 o j = false) (p2 : Int32) (g1 : se_G) : (F_M_begin_k1 p2 g1) o j = g1 o j := by
  unfold F_M_begin_k1
  have h2 := h
  simp only [w_F_M_begin_k1, Bool.or_eq_false_iff, Bool.and_eq_false_iff, beq_eq_false_iff_ne, ne_eq] at h2
  repeat' split
  all_goals repeat first | (with_reducible rfl) | rw [se_u_ne (by omega)]
def w_F_M_begin (o j : Nat) : Bool := (o == 0 && (j == 2)) || w_F_M_begin_k1 o j || w_F_M_clear o j
theorem fr_F_M_begin {o j : Nat} (h : w_F_M_begin o j = false) (g : se_G) (p1 : Int32) (p2 : Int32) : (F_M_begin g p1 p2) o j = g o j := by
  unfold F_M_begin
  have h2 := h
  simp only [w_F_M_begin, Bool.or_eq_false_iff, Bool.and_eq_false_iff, beq_eq_false_iff_ne, ne_eq] at h2
  repeat' split
  all_goals repeat first | (with_reducible rfl) | rw [se_u_ne (by omega)] | rw [fr_F_M_begin_k1 (by simp only [h2])] | rw [fr_F_M_clear (by simp only [h2])]
def w_F_M_watch (o j : Nat) : Bool := (o == 0 && (j == 34))
theorem fr_F_M_watch {o j : Nat} (h : w_F_M_watch o j = false) (g : se_G) : (F_M_watch g) o j = g o j := by
  unfold F_M_watch
  have h2 := h
  simp only [w_F_M_watch, Bool.or_eq_false_iff, Bool.and_eq_false_iff, beq_eq_false_iff_ne, ne_eq] at h2
  repeat' split
  all_goals repeat first | (with_reducible rfl) | rw [se_u_ne (by omega)]
def w_F_M_write_j84 (o j : Nat) : Bool := (o == 0 && (j == 13)) || o == 1 || w_F_M_watch o j
theorem fr_F_M_write_j84 {o j : Nat} (h : w_F_M_write_j84 o j = false) : ∀ (n : Nat) (gj84 : se_G) (v1_84 : Int64) (v5_84 : Int32) (v6_84 : Int32), (F_M_write_j84 n gj84 v1_84 v5_84 v6_84).2 o j = gj84 o j := by
  intro n
  induction n with
  | zero => intro gj84 v1_84 v5_84 v6_84; rfl
  | succ n ih =>
    intro gj84 v1_84 v5_84 v6_84
    rw [F_M_write_j84]
    have h2 := h
    simp only [w_F_M_write_j84, Bool.or_eq_false_iff, Bool.and_eq_false_iff, beq_eq_false_iff_ne, ne_eq] at h2
    repeat' split
    all_goals repeat first | (with_reducible rfl) | rw [se_u_ne (by omega)] | rw [fr_F_M_watch (by simp only [h2])] | rw [ih] | dsimp only
def w_F_M_write (o j : Nat) : Bool := (o == 0 && (j == 2)) || w_F_M_write_j84 o j
theorem fr_F_M_write {o j : Nat} (h : w_F_M_write o j = false) (g : se_G) (p1 : Int64) (p3 : Int32) : (F_M_write g p1 p3).2 o j = g o j := by
  unfold F_M_write
  have h2 := h
  simp only [w_F_M_write, Bool.or_eq_false_iff, Bool.and_eq_false_iff, beq_eq_false_iff_ne, ne_eq] at h2
  repeat' split
  all_goals repeat first | (with_reducible rfl) | rw [se_u_ne (by omega)] | rw [fr_F_M_write_j84 (by simp only [h2])] | dsimp only
def w_F_M_read_j101 (o j : Nat) : Bool := (o == 0 && (j == 20 || j == 33)) || o == 2 || o == 3
theorem fr_F_M_read_j101 {o j : Nat} (h : w_F_M_read_j101 o j = false) : ∀ (n : Nat) (gj101 : se_G) (v1_101 : Int32) (v2_101 : Int32) (v3_101 : Int32), (F_M_read_j101 n gj101 v1_101 v2_101 v3_101).2 o j = gj101 o j := by
  intro n
  induction n with
  | zero => intro gj101 v1_101 v2_101 v3_101; rfl
  | succ n ih =>
    intro gj101 v1_101 v2_101 v3_101
    rw [F_M_read_j101]
    have h2 := h
    simp only [w_F_M_read_j101, Bool.or_eq_false_iff, Bool.and_eq_false_iff, beq_eq_false_iff_ne, ne_eq] at h2
    repeat' split
    all_goals repeat first | (with_reducible rfl) | rw [se_u_ne (by omega)] | rw [ih] | dsimp only
def w_F_M_read (o j : Nat) : Bool := (o == 0 && (j == 2)) || w_F_M_read_j101 o j
theorem fr_F_M_read {o j : Nat} (h : w_F_M_read o j = false) (g : se_G) : (F_M_read g).2 o j = g o j := by
  unfold F_M_read
  have h2 := h
  simp only [w_F_M_read, Bool.or_eq_false_iff, Bool.and_eq_false_iff, beq_eq_false_iff_ne, ne_eq] at h2
  repeat' split
  all_goals repeat first | (with_reducible rfl) | rw [se_u_ne (by omega)] | rw [fr_F_M_read_j101 (by simp only [h2])] | dsimp only
def w_F_M_becomes_j49 (o j : Nat) : Bool := (o == 0 && (j == 43))
theorem fr_F_M_becomes_j49 {o j : Nat} (h : w_F_M_becomes_j49 o j = false) (gj49 : se_G) (v1_49 : Int32) : (F_M_becomes_j49 gj49 v1_49) o j = gj49 o j := by
  unfold F_M_becomes_j49
  have h2 := h
  simp only [w_F_M_becomes_j49, Bool.or_eq_false_iff, Bool.and_eq_false_iff, beq_eq_false_iff_ne, ne_eq] at h2
  repeat' split
  all_goals repeat first | (with_reducible rfl) | rw [se_u_ne (by omega)]
def w_F_M_becomes_j40 (o j : Nat) : Bool := (o == 0 && (j == 33)) || w_F_M_becomes_j49 o j || w_F_M_quiesce o j
theorem fr_F_M_becomes_j40 {o j : Nat} (h : w_F_M_becomes_j40 o j = false) (gj40 : se_G) (v1_40 : Int32) (v2_40 : Int32) : (F_M_becomes_j40 gj40 v1_40 v2_40) o j = gj40 o j := by
  unfold F_M_becomes_j40
  have h2 := h
  simp only [w_F_M_becomes_j40, Bool.or_eq_false_iff, Bool.and_eq_false_iff, beq_eq_false_iff_ne, ne_eq] at h2
  repeat' split
  all_goals repeat first | (with_reducible rfl) | rw [se_u_ne (by omega)] | rw [fr_F_M_becomes_j49 (by simp only [h2])] | rw [fr_F_M_quiesce (by simp only [h2])]
def w_F_M_becomes (o j : Nat) : Bool := (o == 0 && (j == 4)) || w_F_M_becomes_j40 o j || w_F_M_becomes_j49 o j
theorem fr_F_M_becomes {o j : Nat} (h : w_F_M_becomes o j = false) (g : se_G) (p1 : Int32) : (F_M_becomes g p1) o j = g o j := by
  unfold F_M_becomes
  have h2 := h
  simp only [w_F_M_becomes, Bool.or_eq_false_iff, Bool.and_eq_false_iff, beq_eq_false_iff_ne, ne_eq] at h2
  repeat' split
  all_goals repeat first | (with_reducible rfl) | rw [se_u_ne (by omega)] | rw [fr_F_M_becomes_j40 (by simp only [h2])] | rw [fr_F_M_becomes_j49 (by simp only [h2])]
def w_F_M_close (o j : Nat) : Bool := (o == 0 && (j == 2 || j == 6)) || w_F_M_watch o j || w_F_M_becomes o j
theorem fr_F_M_close {o j : Nat} (h : w_F_M_close o j = false) (g : se_G) : (F_M_close g) o j = g o j := by
  unfold F_M_close
  have h2 := h
  simp only [w_F_M_close, Bool.or_eq_false_iff, Bool.and_eq_false_iff, beq_eq_false_iff_ne, ne_eq] at h2
  repeat' split
  all_goals repeat first | (with_reducible rfl) | rw [se_u_ne (by omega)] | rw [fr_F_M_watch (by simp only [h2])] | rw [fr_F_M_becomes (by simp only [h2])]
def w_F_M_abort (o j : Nat) : Bool := (o == 0 && (j == 2 || j == 25 || j == 26 || j == 27 || j == 28)) || w_F_M_becomes o j
theorem fr_F_M_abort {o j : Nat} (h : w_F_M_abort o j = false) (g : se_G) : (F_M_abort g) o j = g o j := by
  unfold F_M_abort
  have h2 := h
  simp only [w_F_M_abort, Bool.or_eq_false_iff, Bool.and_eq_false_iff, beq_eq_false_iff_ne, ne_eq] at h2
  repeat' split
  all_goals repeat first | (with_reducible rfl) | rw [se_u_ne (by omega)] | rw [fr_F_M_becomes (by simp only [h2])]
def w_F_M_ring_j80 (o j : Nat) : Bool := (o == 0 && (j == 34 || j == 35))
theorem fr_F_M_ring_j80 {o j : Nat} (h : w_F_M_ring_j80 o j = false) (gj80 : se_G) : (F_M_ring_j80 gj80) o j = gj80 o j := by
  unfold F_M_ring_j80
  have h2 := h
  simp only [w_F_M_ring_j80, Bool.or_eq_false_iff, Bool.and_eq_false_iff, beq_eq_false_iff_ne, ne_eq] at h2
  repeat' split
  all_goals repeat first | (with_reducible rfl) | rw [se_u_ne (by omega)]
def w_F_M_ring_j56 (o j : Nat) : Bool := (o == 0 && (j == 31 || j == 32)) || w_F_M_ring_j80 o j
theorem fr_F_M_ring_j56 {o j : Nat} (h : w_F_M_ring_j56 o j = false) (gj56 : se_G) : (F_M_ring_j56 gj56) o j = gj56 o j := by
  unfold F_M_ring_j56
  have h2 := h
  simp only [w_F_M_ring_j56, Bool.or_eq_false_iff, Bool.and_eq_false_iff, beq_eq_false_iff_ne, ne_eq] at h2
  repeat' split
  all_goals repeat first | (with_reducible rfl) | rw [se_u_ne (by omega)] | rw [fr_F_M_ring_j80 (by simp only [h2])]
def w_F_M_ring (o j : Nat) : Bool := (o == 0 && (j == 29 || j == 36)) || w_F_M_ring_j56 o j || w_F_M_ring_j80 o j || w_F_M_becomes o j
theorem fr_F_M_ring {o j : Nat} (h : w_F_M_ring o j = false) (g : se_G) : (F_M_ring g) o j = g o j := by
  unfold F_M_ring
  have h2 := h
  simp only [w_F_M_ring, Bool.or_eq_false_iff, Bool.and_eq_false_iff, beq_eq_false_iff_ne, ne_eq] at h2
  repeat' split
  all_goals repeat first | (with_reducible rfl) | rw [se_u_ne (by omega)] | rw [fr_F_M_ring_j56 (by simp only [h2])] | rw [fr_F_M_ring_j80 (by simp only [h2])] | rw [fr_F_M_becomes (by simp only [h2])]
def w_F_M_feed_j50 (o j : Nat) : Bool := (o == 0 && (j == 45)) || o == 4
theorem fr_F_M_feed_j50 {o j : Nat} (h : w_F_M_feed_j50 o j = false) : ∀ (n : Nat) (gj50 : se_G) (v1_50 : Int64) (v4_50 : Int32), (F_M_feed_j50 n gj50 v1_50 v4_50).2 o j = gj50 o j := by
  intro n
  induction n with
  | zero => intro gj50 v1_50 v4_50; rfl
  | succ n ih =>
    intro gj50 v1_50 v4_50
    rw [F_M_feed_j50]
    have h2 := h
    simp only [w_F_M_feed_j50, Bool.or_eq_false_iff, Bool.and_eq_false_iff, beq_eq_false_iff_ne, ne_eq] at h2
    repeat' split
    all_goals repeat first | (with_reducible rfl) | rw [se_u_ne (by omega)] | rw [ih] | dsimp only
def w_F_M_feed (o j : Nat) : Bool := (o == 0 && (j == 2)) || w_F_M_feed_j50 o j
theorem fr_F_M_feed {o j : Nat} (h : w_F_M_feed o j = false) (g : se_G) (p1 : Int64) (p3 : Int32) : (F_M_feed g p1 p3).2 o j = g o j := by
  unfold F_M_feed
  have h2 := h
  simp only [w_F_M_feed, Bool.or_eq_false_iff, Bool.and_eq_false_iff, beq_eq_false_iff_ne, ne_eq] at h2
  repeat' split
  all_goals repeat first | (with_reducible rfl) | rw [se_u_ne (by omega)] | rw [fr_F_M_feed_j50 (by simp only [h2])] | dsimp only
def w_F_M_resets (o j : Nat) : Bool := (o == 0 && (j == 25 || j == 26 || j == 27 || j == 28))
theorem fr_F_M_resets {o j : Nat} (h : w_F_M_resets o j = false) (g : se_G) (p1 : Int32) (p2 : Int32) (p3 : Int32) : (F_M_resets g p1 p2 p3) o j = g o j := by
  unfold F_M_resets
  have h2 := h
  simp only [w_F_M_resets, Bool.or_eq_false_iff, Bool.and_eq_false_iff, beq_eq_false_iff_ne, ne_eq] at h2
  repeat' split
  all_goals repeat first | (with_reducible rfl) | rw [se_u_ne (by omega)]
def w_F_M_tell_j37 (o j : Nat) : Bool := (o == 0 && (j == 15 || j == 16 || j == 17 || j == 32 || j == 34 || j == 36))
theorem fr_F_M_tell_j37 {o j : Nat} (h : w_F_M_tell_j37 o j = false) (gj37 : se_G) (v1_37 : Int32) (v2_37 : Int32) (v3_37 : Int32) : (F_M_tell_j37 gj37 v1_37 v2_37 v3_37) o j = gj37 o j := by
  unfold F_M_tell_j37
  have h2 := h
  simp only [w_F_M_tell_j37, Bool.or_eq_false_iff, Bool.and_eq_false_iff, beq_eq_false_iff_ne, ne_eq] at h2
  repeat' split
  all_goals repeat first | (with_reducible rfl) | rw [se_u_ne (by omega)]
def w_F_M_tell (o j : Nat) : Bool := w_F_M_tell_j37 o j
theorem fr_F_M_tell {o j : Nat} (h : w_F_M_tell o j = false) (g : se_G) (p1 : Int32) (p2 : Int32) (p3 : Int32) : (F_M_tell g p1 p2 p3) o j = g o j := by
  unfold F_M_tell
  have h2 := h
  simp only [w_F_M_tell, Bool.or_eq_false_iff, Bool.and_eq_false_iff, beq_eq_false_iff_ne, ne_eq] at h2
  repeat' split
  all_goals repeat first | (with_reducible rfl) | rw [fr_F_M_tell_j37 (by simp only [h2])]
def w_F_M_wasLast_j87 (o j : Nat) : Bool := w_F_M_becomes o j
theorem fr_F_M_wasLast_j87 {o j : Nat} (h : w_F_M_wasLast_j87 o j = false) (gj87 : se_G) (v1_87 : Int32) : (F_M_wasLast_j87 gj87 v1_87).2 o j = gj87 o j := by
  unfold F_M_wasLast_j87
  have h2 := h
  simp only [w_F_M_wasLast_j87, Bool.or_eq_false_iff, Bool.and_eq_false_iff, beq_eq_false_iff_ne, ne_eq] at h2
  repeat' split
  all_goals repeat first | (with_reducible rfl) | rw [fr_F_M_becomes (by simp only [h2])] | dsimp only
def w_F_M_wasLast_j65 (o j : Nat) : Bool := w_F_M_wasLast_j87 o j || w_F_M_becomes o j
theorem fr_F_M_wasLast_j65 {o j : Nat} (h : w_F_M_wasLast_j65 o j = false) (gj65 : se_G) (v1_65 : Int32) : (F_M_wasLast_j65 gj65 v1_65).2 o j = gj65 o j := by
  unfold F_M_wasLast_j65
  have h2 := h
  simp only [w_F_M_wasLast_j65, Bool.or_eq_false_iff, Bool.and_eq_false_iff, beq_eq_false_iff_ne, ne_eq] at h2
  repeat' split
  all_goals repeat first | (with_reducible rfl) | rw [fr_F_M_wasLast_j87 (by simp only [h2])] | rw [fr_F_M_becomes (by simp only [h2])] | dsimp only
def w_F_M_wasLast (o j : Nat) : Bool := w_F_M_wasLast_j65 o j || w_F_M_becomes o j
theorem fr_F_M_wasLast {o j : Nat} (h : w_F_M_wasLast o j = false) (g : se_G) : (F_M_wasLast g).2 o j = g o j := by
  unfold F_M_wasLast
  have h2 := h
  simp only [w_F_M_wasLast, Bool.or_eq_false_iff, Bool.and_eq_false_iff, beq_eq_false_iff_ne, ne_eq] at h2
  repeat' split
  all_goals repeat first | (with_reducible rfl) | rw [fr_F_M_wasLast_j65 (by simp only [h2])] | rw [fr_F_M_becomes (by simp only [h2])] | dsimp only
def w_F_M_take_j301 (o j : Nat) : Bool := (o == 0 && (j == 21 || j == 24 || j == 33)) || w_F_M_becomes o j
theorem fr_F_M_take_j301 {o j : Nat} (h : w_F_M_take_j301 o j = false) (gj301 : se_G) (v1_301 : Int32) (v4_301 : Int32) : (F_M_take_j301 gj301 v1_301 v4_301) o j = gj301 o j := by
  unfold F_M_take_j301
  have h2 := h
  simp only [w_F_M_take_j301, Bool.or_eq_false_iff, Bool.and_eq_false_iff, beq_eq_false_iff_ne, ne_eq] at h2
  repeat' split
  all_goals repeat first | (with_reducible rfl) | rw [se_u_ne (by omega)] | rw [fr_F_M_becomes (by simp only [h2])]
def w_F_M_take_j223 (o j : Nat) : Bool := (o == 0 && (j == 20 || j == 21)) || o == 3 || w_F_M_take_j301 o j
theorem fr_F_M_take_j223 {o j : Nat} (h : w_F_M_take_j223 o j = false) : ∀ (n : Nat) (gj223 : se_G) (v1_223 : Int32) (v4_223 : Int32), (F_M_take_j223 n gj223 v1_223 v4_223) o j = gj223 o j := by
  intro n
  induction n with
  | zero => intro gj223 v1_223 v4_223; rfl
  | succ n ih =>
    intro gj223 v1_223 v4_223
    rw [F_M_take_j223]
    have h2 := h
    simp only [w_F_M_take_j223, Bool.or_eq_false_iff, Bool.and_eq_false_iff, beq_eq_false_iff_ne, ne_eq] at h2
    repeat' split
    all_goals repeat first | (with_reducible rfl) | rw [se_u_ne (by omega)] | rw [fr_F_M_take_j301 (by simp only [h2])] | rw [ih]
def w_F_M_take_j167 (o j : Nat) : Bool := (o == 0 && (j == 22 || j == 23)) || w_F_M_take_j223 o j
theorem fr_F_M_take_j167 {o j : Nat} (h : w_F_M_take_j167 o j = false) (gj167 : se_G) (v1_167 : Int32) (v3_167 : Int32) (v4_167 : Int32) (v5_167 : Int32) : (F_M_take_j167 gj167 v1_167 v3_167 v4_167 v5_167) o j = gj167 o j := by
  unfold F_M_take_j167
  have h2 := h
  simp only [w_F_M_take_j167, Bool.or_eq_false_iff, Bool.and_eq_false_iff, beq_eq_false_iff_ne, ne_eq] at h2
  repeat' split
  all_goals repeat first | (with_reducible rfl) | rw [se_u_ne (by omega)] | rw [fr_F_M_take_j223 (by simp only [h2])]
def w_F_M_take_j48 (o j : Nat) : Bool := o == 2 || o == 3 || w_F_M_take_j167 o j
theorem fr_F_M_take_j48 {o j : Nat} (h : w_F_M_take_j48 o j = false) : ∀ (n : Nat) (gj48 : se_G) (v1_48 : Int32) (v3_48 : Int32) (v4_48 : Int32) (v5_48 : Int32) (v6_48 : Int32), (F_M_take_j48 n gj48 v1_48 v3_48 v4_48 v5_48 v6_48) o j = gj48 o j := by
  intro n
  induction n with
  | zero => intro gj48 v1_48 v3_48 v4_48 v5_48 v6_48; rfl
  | succ n ih =>
    intro gj48 v1_48 v3_48 v4_48 v5_48 v6_48
    rw [F_M_take_j48]
    have h2 := h
    simp only [w_F_M_take_j48, Bool.or_eq_false_iff, Bool.and_eq_false_iff, beq_eq_false_iff_ne, ne_eq] at h2
    repeat' split
    all_goals repeat first | (with_reducible rfl) | rw [se_u_ne (by omega)] | rw [fr_F_M_take_j167 (by simp only [h2])] | rw [ih]
def w_F_M_take (o j : Nat) : Bool := w_F_M_take_j48 o j
theorem fr_F_M_take {o j : Nat} (h : w_F_M_take o j = false) (g : se_G) (p1 : Int32) (p2 : Int32) : (F_M_take g p1 p2) o j = g o j := by
  unfold F_M_take
  have h2 := h
  simp only [w_F_M_take, Bool.or_eq_false_iff, Bool.and_eq_false_iff, beq_eq_false_iff_ne, ne_eq] at h2
  repeat' split
  all_goals repeat first | (with_reducible rfl) | rw [fr_F_M_take_j48 (by simp only [h2])]
def w_F_M_learn_j76 (o j : Nat) : Bool := (o == 0 && (j == 35))
theorem fr_F_M_learn_j76 {o j : Nat} (h : w_F_M_learn_j76 o j = false) (gj76 : se_G) : (F_M_learn_j76 gj76) o j = gj76 o j := by
  unfold F_M_learn_j76
  have h2 := h
  simp only [w_F_M_learn_j76, Bool.or_eq_false_iff, Bool.and_eq_false_iff, beq_eq_false_iff_ne, ne_eq] at h2
  repeat' split
  all_goals repeat first | (with_reducible rfl) | rw [se_u_ne (by omega)]
def w_F_M_learn (o j : Nat) : Bool := (o == 0 && (j == 40 || j == 41 || j == 42)) || w_F_M_learn_j76 o j
theorem fr_F_M_learn {o j : Nat} (h : w_F_M_learn o j = false) (g : se_G) (p1 : Int32) : (F_M_learn g p1) o j = g o j := by
  unfold F_M_learn
  have h2 := h
  simp only [w_F_M_learn, Bool.or_eq_false_iff, Bool.and_eq_false_iff, beq_eq_false_iff_ne, ne_eq] at h2
  repeat' split
  all_goals repeat first | (with_reducible rfl) | rw [se_u_ne (by omega)] | rw [fr_F_M_learn_j76 (by simp only [h2])]
def w_F_M_thanked_j125 (o j : Nat) : Bool := (o == 0 && (j == 31 || j == 34 || j == 36))
theorem fr_F_M_thanked_j125 {o j : Nat} (h : w_F_M_thanked_j125 o j = false) (gj125 : se_G) : (F_M_thanked_j125 gj125) o j = gj125 o j := by
  unfold F_M_thanked_j125
  have h2 := h
  simp only [w_F_M_thanked_j125, Bool.or_eq_false_iff, Bool.and_eq_false_iff, beq_eq_false_iff_ne, ne_eq] at h2
  repeat' split
  all_goals repeat first | (with_reducible rfl) | rw [se_u_ne (by omega)]
def w_F_M_thanked_j35 (o j : Nat) : Bool := (o == 0 && (j == 9 || j == 13 || j == 14 || j == 37)) || o == 1 || w_F_M_thanked_j125 o j || w_F_M_learn o j
theorem fr_F_M_thanked_j35 {o j : Nat} (h : w_F_M_thanked_j35 o j = false) : ∀ (n : Nat) (gj35 : se_G) (v1_35 : Int32) (v3_35 : Int32) (v4_35 : Int32), (F_M_thanked_j35 n gj35 v1_35 v3_35 v4_35) o j = gj35 o j := by
  intro n
  induction n with
  | zero => intro gj35 v1_35 v3_35 v4_35; rfl
  | succ n ih =>
    intro gj35 v1_35 v3_35 v4_35
    rw [F_M_thanked_j35]
    have h2 := h
    simp only [w_F_M_thanked_j35, Bool.or_eq_false_iff, Bool.and_eq_false_iff, beq_eq_false_iff_ne, ne_eq] at h2
    repeat' split
    all_goals repeat first | (with_reducible rfl) | rw [se_u_ne (by omega)] | rw [fr_F_M_thanked_j125 (by simp only [h2])] | rw [fr_F_M_learn (by simp only [h2])] | rw [ih]
def w_F_M_thanked (o j : Nat) : Bool := w_F_M_thanked_j35 o j
theorem fr_F_M_thanked {o j : Nat} (h : w_F_M_thanked o j = false) (g : se_G) (p1 : Int32) : (F_M_thanked g p1) o j = g o j := by
  unfold F_M_thanked
  have h2 := h
  simp only [w_F_M_thanked, Bool.or_eq_false_iff, Bool.and_eq_false_iff, beq_eq_false_iff_ne, ne_eq] at h2
  repeat' split
  all_goals repeat first | (with_reducible rfl) | rw [fr_F_M_thanked_j35 (by simp only [h2])]
def w_F_M_hitByReset_j43 (o j : Nat) : Bool := w_F_M_becomes o j
theorem fr_F_M_hitByReset_j43 {o j : Nat} (h : w_F_M_hitByReset_j43 o j = false) (gj43 : se_G) : (F_M_hitByReset_j43 gj43) o j = gj43 o j := by
  unfold F_M_hitByReset_j43
  have h2 := h
  simp only [w_F_M_hitByReset_j43, Bool.or_eq_false_iff, Bool.and_eq_false_iff, beq_eq_false_iff_ne, ne_eq] at h2
  repeat' split
  all_goals repeat first | (with_reducible rfl) | rw [fr_F_M_becomes (by simp only [h2])]
def w_F_M_hitByReset (o j : Nat) : Bool := (o == 0 && (j == 4 || j == 33)) || w_F_M_hitByReset_j43 o j || w_F_M_clear o j
theorem fr_F_M_hitByReset {o j : Nat} (h : w_F_M_hitByReset o j = false) (g : se_G) (p1 : Int32) : (F_M_hitByReset g p1) o j = g o j := by
  unfold F_M_hitByReset
  have h2 := h
  simp only [w_F_M_hitByReset, Bool.or_eq_false_iff, Bool.and_eq_false_iff, beq_eq_false_iff_ne, ne_eq] at h2
  repeat' split
  all_goals repeat first | (with_reducible rfl) | rw [se_u_ne (by omega)] | rw [fr_F_M_hitByReset_j43 (by simp only [h2])] | rw [fr_F_M_clear (by simp only [h2])]
def w_F_M_toOthers_k1 (o j : Nat) : Bool := w_F_M_take o j
theorem fr_F_M_toOthers_k1 {o j : Nat} (h : w_F_M_toOthers_k1 o j = false) (r1 : Int32) (g2 : se_G) (v1_192 : Int32) (v2_192 : Int32) : (F_M_toOthers_k1 r1 g2 v1_192 v2_192) o j = g2 o j := by
  unfold F_M_toOthers_k1
  have h2 := h
  simp only [w_F_M_toOthers_k1, Bool.or_eq_false_iff, Bool.and_eq_false_iff, beq_eq_false_iff_ne, ne_eq] at h2
  repeat' split
  all_goals repeat first | (with_reducible rfl) | rw [fr_F_M_take (by simp only [h2])]
def w_F_M_toOthers_k2 (o j : Nat) : Bool := w_F_M_toOthers_k1 o j || w_F_M_wasLast o j
theorem fr_F_M_toOthers_k2 {o j : Nat} (h : w_F_M_toOthers_k2 o j = false) (g1 : se_G) (v1_192 : Int32) (v2_192 : Int32) : (F_M_toOthers_k2 g1 v1_192 v2_192) o j = g1 o j := by
  unfold F_M_toOthers_k2
  have h2 := h
  simp only [w_F_M_toOthers_k2, Bool.or_eq_false_iff, Bool.and_eq_false_iff, beq_eq_false_iff_ne, ne_eq] at h2
  repeat' split
  all_goals repeat first | (with_reducible rfl) | rw [fr_F_M_toOthers_k1 (by simp only [h2])] | rw [fr_F_M_wasLast (by simp only [h2])]
def w_F_M_toOthers_j192 (o j : Nat) : Bool := w_F_M_toOthers_k2 o j || w_F_M_tell o j
theorem fr_F_M_toOthers_j192 {o j : Nat} (h : w_F_M_toOthers_j192 o j = false) (gj192 : se_G) (v1_192 : Int32) (v2_192 : Int32) (v3_192 : Int32) (v4_192 : Int32) : (F_M_toOthers_j192 gj192 v1_192 v2_192 v3_192 v4_192) o j = gj192 o j := by
  unfold F_M_toOthers_j192
  have h2 := h
  simp only [w_F_M_toOthers_j192, Bool.or_eq_false_iff, Bool.and_eq_false_iff, beq_eq_false_iff_ne, ne_eq] at h2
  repeat' split
  all_goals repeat first | (with_reducible rfl) | rw [fr_F_M_toOthers_k2 (by simp only [h2])] | rw [fr_F_M_tell (by simp only [h2])]
def w_F_M_toOthers_j178 (o j : Nat) : Bool := w_F_M_toOthers_j192 o j || w_F_M_thanked o j
theorem fr_F_M_toOthers_j178 {o j : Nat} (h : w_F_M_toOthers_j178 o j = false) (gj178 : se_G) (v1_178 : Int32) (v2_178 : Int32) (v3_178 : Int32) (v4_178 : Int32) : (F_M_toOthers_j178 gj178 v1_178 v2_178 v3_178 v4_178) o j = gj178 o j := by
  unfold F_M_toOthers_j178
  have h2 := h
  simp only [w_F_M_toOthers_j178, Bool.or_eq_false_iff, Bool.and_eq_false_iff, beq_eq_false_iff_ne, ne_eq] at h2
  repeat' split
  all_goals repeat first | (with_reducible rfl) | rw [fr_F_M_toOthers_j192 (by simp only [h2])] | rw [fr_F_M_thanked (by simp only [h2])]
def w_F_M_toOthers (o j : Nat) : Bool := (o == 0 && (j == 4 || j == 29 || j == 33 || j == 43)) || w_F_M_toOthers_j178 o j || w_F_M_resets o j || w_F_M_hitByReset o j
theorem fr_F_M_toOthers {o j : Nat} (h : w_F_M_toOthers o j = false) (g : se_G) (p1 : Int32) (p2 : Int32) (p3 : Int32) (p4 : Int32) : (F_M_toOthers g p1 p2 p3 p4) o j = g o j := by
  unfold F_M_toOthers
  have h2 := h
  simp only [w_F_M_toOthers, Bool.or_eq_false_iff, Bool.and_eq_false_iff, beq_eq_false_iff_ne, ne_eq] at h2
  repeat' split
  all_goals repeat first | (with_reducible rfl) | rw [se_u_ne (by omega)] | rw [fr_F_M_toOthers_j178 (by simp only [h2])] | rw [fr_F_M_resets (by simp only [h2])] | rw [fr_F_M_hitByReset (by simp only [h2])]
def w_F_M_greet (o j : Nat) : Bool := (o == 0 && (j == 7 || j == 11 || j == 15 || j == 16 || j == 17 || j == 21))
theorem fr_F_M_greet {o j : Nat} (h : w_F_M_greet o j = false) (g : se_G) (p1 : Int32) (p2 : Int32) (p3 : Int32) (p4 : Int32) (p5 : Int32) : (F_M_greet g p1 p2 p3 p4 p5) o j = g o j := by
  unfold F_M_greet
  have h2 := h
  simp only [w_F_M_greet, Bool.or_eq_false_iff, Bool.and_eq_false_iff, beq_eq_false_iff_ne, ne_eq] at h2
  repeat' split
  all_goals repeat first | (with_reducible rfl) | rw [se_u_ne (by omega)]
def w_F_M_toAsking_k1 (o j : Nat) : Bool := (o == 0 && (j == 4 || j == 29 || j == 33)) || w_F_M_thanked o j
theorem fr_F_M_toAsking_k1 {o j : Nat} (h : w_F_M_toAsking_k1 o j = false) (v6_31 : Int32) (g1 : se_G) (v3_31 : Int32) : (F_M_toAsking_k1 v6_31 g1 v3_31) o j = g1 o j := by
  unfold F_M_toAsking_k1
  have h2 := h
  simp only [w_F_M_toAsking_k1, Bool.or_eq_false_iff, Bool.and_eq_false_iff, beq_eq_false_iff_ne, ne_eq] at h2
  repeat' split
  all_goals repeat first | (with_reducible rfl) | rw [se_u_ne (by omega)] | rw [fr_F_M_thanked (by simp only [h2])]
def w_F_M_toAsking_j31 (o j : Nat) : Bool := w_F_M_toAsking_k1 o j || w_F_M_greet o j || w_F_M_becomes o j
theorem fr_F_M_toAsking_j31 {o j : Nat} (h : w_F_M_toAsking_j31 o j = false) (gj31 : se_G) (v1_31 : Int32) (v2_31 : Int32) (v3_31 : Int32) (v4_31 : Int32) (v5_31 : Int32) (v6_31 : Int32) : (F_M_toAsking_j31 gj31 v1_31 v2_31 v3_31 v4_31 v5_31 v6_31) o j = gj31 o j := by
  unfold F_M_toAsking_j31
  have h2 := h
  simp only [w_F_M_toAsking_j31, Bool.or_eq_false_iff, Bool.and_eq_false_iff, beq_eq_false_iff_ne, ne_eq] at h2
  repeat' split
  all_goals repeat first | (with_reducible rfl) | rw [fr_F_M_toAsking_k1 (by simp only [h2])] | rw [fr_F_M_greet (by simp only [h2])] | rw [fr_F_M_becomes (by simp only [h2])]
def w_F_M_toAsking (o j : Nat) : Bool := w_F_M_toAsking_j31 o j || w_F_M_resets o j
theorem fr_F_M_toAsking {o j : Nat} (h : w_F_M_toAsking o j = false) (g : se_G) (p1 : Int32) (p2 : Int32) (p3 : Int32) (p4 : Int32) (p5 : Int32) : (F_M_toAsking g p1 p2 p3 p4 p5) o j = g o j := by
  unfold F_M_toAsking
  have h2 := h
  simp only [w_F_M_toAsking, Bool.or_eq_false_iff, Bool.and_eq_false_iff, beq_eq_false_iff_ne, ne_eq] at h2
  repeat' split
  all_goals repeat first | (with_reducible rfl) | rw [fr_F_M_toAsking_j31 (by simp only [h2])] | rw [fr_F_M_resets (by simp only [h2])]
def w_F_M_toListening_k1 (o j : Nat) : Bool := (o == 0 && (j == 4 || j == 10 || j == 29))
theorem fr_F_M_toListening_k1 {o j : Nat} (h : w_F_M_toListening_k1 o j = false) (g1 : se_G) : (F_M_toListening_k1 g1) o j = g1 o j := by
  unfold F_M_toListening_k1
  have h2 := h
  simp only [w_F_M_toListening_k1, Bool.or_eq_false_iff, Bool.and_eq_false_iff, beq_eq_false_iff_ne, ne_eq] at h2
  repeat' split
  all_goals repeat first | (with_reducible rfl) | rw [se_u_ne (by omega)]
def w_F_M_toListening (o j : Nat) : Bool := w_F_M_toListening_k1 o j || w_F_M_greet o j || w_F_M_resets o j
theorem fr_F_M_toListening {o j : Nat} (h : w_F_M_toListening o j = false) (g : se_G) (p1 : Int32) (p2 : Int32) (p3 : Int32) (p4 : Int32) (p5 : Int32) : (F_M_toListening g p1 p2 p3 p4 p5) o j = g o j := by
  unfold F_M_toListening
  have h2 := h
  simp only [w_F_M_toListening, Bool.or_eq_false_iff, Bool.and_eq_false_iff, beq_eq_false_iff_ne, ne_eq] at h2
  repeat' split
  all_goals repeat first | (with_reducible rfl) | rw [fr_F_M_toListening_k1 (by simp only [h2])] | rw [fr_F_M_greet (by simp only [h2])] | rw [fr_F_M_resets (by simp only [h2])]
def w_F_M_arrive_k1 (_ _ : Nat) : Bool := false
theorem fr_F_M_arrive_k1 {o j : Nat} (_ : w_F_M_arrive_k1 o j = false) (g2 : se_G) : (F_M_arrive_k1 g2).2 o j = g2 o j := by
  unfold F_M_arrive_k1
  repeat' split
  all_goals rfl
def w_F_M_arrive_j143 (o j : Nat) : Bool := (o == 0 && (j == 45)) || w_F_M_arrive_k1 o j || w_F_M_watch o j
theorem fr_F_M_arrive_j143 {o j : Nat} (h : w_F_M_arrive_j143 o j = false) (gj143 : se_G) : (F_M_arrive_j143 gj143).2 o j = gj143 o j := by
  unfold F_M_arrive_j143
  have h2 := h
  simp only [w_F_M_arrive_j143, Bool.or_eq_false_iff, Bool.and_eq_false_iff, beq_eq_false_iff_ne, ne_eq] at h2
  repeat' split
  all_goals repeat first | (with_reducible rfl) | rw [se_u_ne (by omega)] | rw [fr_F_M_arrive_k1 (by simp only [h2])] | rw [fr_F_M_watch (by simp only [h2])] | dsimp only
def w_F_M_arrive_j80 (o j : Nat) : Bool := w_F_M_arrive_j143 o j || w_F_M_resets o j
theorem fr_F_M_arrive_j80 {o j : Nat} (h : w_F_M_arrive_j80 o j = false) (gj80 : se_G) (v1_80 : Int32) (v2_80 : Int32) (v3_80 : Int32) : (F_M_arrive_j80 gj80 v1_80 v2_80 v3_80).2 o j = gj80 o j := by
  unfold F_M_arrive_j80
  have h2 := h
  simp only [w_F_M_arrive_j80, Bool.or_eq_false_iff, Bool.and_eq_false_iff, beq_eq_false_iff_ne, ne_eq] at h2
  repeat' split
  all_goals repeat first | (with_reducible rfl) | rw [fr_F_M_arrive_j143 (by simp only [h2])] | rw [fr_F_M_resets (by simp only [h2])] | dsimp only
def w_F_M_arrive_j38 (o j : Nat) : Bool := (o == 0 && (j == 2))
theorem fr_F_M_arrive_j38 {o j : Nat} (h : w_F_M_arrive_j38 o j = false) (gj38 : se_G) (v1_38 : Int32) (v2_38 : Int32) (v3_38 : Int32) (v4_38 : Int32) (v5_38 : Int32) : (F_M_arrive_j38 gj38 v1_38 v2_38 v3_38 v4_38 v5_38).2 o j = gj38 o j := by
  unfold F_M_arrive_j38
  have h2 := h
  simp only [w_F_M_arrive_j38, Bool.or_eq_false_iff, Bool.and_eq_false_iff, beq_eq_false_iff_ne, ne_eq] at h2
  repeat' split
  all_goals repeat first | (with_reducible rfl) | rw [se_u_ne (by omega)] | dsimp only
def w_F_M_arrive (o j : Nat) : Bool := (o == 0 && (j == 2)) || w_F_M_arrive_j38 o j || w_F_M_arrive_j80 o j || w_F_M_arrive_j143 o j || w_F_M_toListening o j || w_F_M_toAsking o j || w_F_M_toOthers o j
theorem fr_F_M_arrive {o j : Nat} (h : w_F_M_arrive o j = false) (g : se_G) (p1 : Int32) (p2 : Int32) (p3 : Int32) (p4 : Int32) (p5 : Int32) : (F_M_arrive g p1 p2 p3 p4 p5).2 o j = g o j := by
  unfold F_M_arrive
  have h2 := h
  simp only [w_F_M_arrive, Bool.or_eq_false_iff, Bool.and_eq_false_iff, beq_eq_false_iff_ne, ne_eq] at h2
  repeat' (with_reducible refine se_it2 ?_ ?_)
  all_goals repeat first | (with_reducible rfl) | rw [se_u_ne (by omega)] | rw [fr_F_M_arrive_j38 (by simp only [h2])] | rw [fr_F_M_arrive_j80 (by simp only [h2])] | rw [fr_F_M_arrive_j143 (by simp only [h2])] | rw [fr_F_M_toListening (by simp only [h2])] | rw [fr_F_M_toAsking (by simp only [h2])] | rw [fr_F_M_toOthers (by simp only [h2])] | dsimp only
def w_F_M_make (o j : Nat) : Bool := (o == 0 && (j == 46 || j == 49)) || o == 5
theorem fr_F_M_make {o j : Nat} (h : w_F_M_make o j = false) (g : se_G) (p1 : Int32) (p2 : Int32) (p3 : Int32) (p4 : Int32) (p5 : Int32) : (F_M_make g p1 p2 p3 p4 p5) o j = g o j := by
  unfold F_M_make
  have h2 := h
  simp only [w_F_M_make, Bool.or_eq_false_iff, Bool.and_eq_false_iff, beq_eq_false_iff_ne, ne_eq] at h2
  repeat' split
  all_goals repeat first | (with_reducible rfl) | rw [se_u_ne (by omega)]
def w_F_M_tellBytes_j58 (o j : Nat) : Bool := (o == 0 && (j == 33 || j == 49)) || o == 6
theorem fr_F_M_tellBytes_j58 {o j : Nat} (h : w_F_M_tellBytes_j58 o j = false) : ∀ (n : Nat) (gj58 : se_G) (v2_58 : Int32) (v3_58 : Int32) (v4_58 : Int32), (F_M_tellBytes_j58 n gj58 v2_58 v3_58 v4_58) o j = gj58 o j := by
  intro n
  induction n with
  | zero => intro gj58 v2_58 v3_58 v4_58; rfl
  | succ n ih =>
    intro gj58 v2_58 v3_58 v4_58
    rw [F_M_tellBytes_j58]
    have h2 := h
    simp only [w_F_M_tellBytes_j58, Bool.or_eq_false_iff, Bool.and_eq_false_iff, beq_eq_false_iff_ne, ne_eq] at h2
    repeat' split
    all_goals repeat first | (with_reducible rfl) | rw [se_u_ne (by omega)] | rw [ih]
def w_F_M_tellBytes (o j : Nat) : Bool := w_F_M_tellBytes_j58 o j || w_F_M_make o j
theorem fr_F_M_tellBytes {o j : Nat} (h : w_F_M_tellBytes o j = false) (g : se_G) (p1 : Int32) (p2 : Int32) (p3 : Int32) : (F_M_tellBytes g p1 p2 p3) o j = g o j := by
  unfold F_M_tellBytes
  have h2 := h
  simp only [w_F_M_tellBytes, Bool.or_eq_false_iff, Bool.and_eq_false_iff, beq_eq_false_iff_ne, ne_eq] at h2
  repeat' split
  all_goals repeat first | (with_reducible rfl) | rw [fr_F_M_tellBytes_j58 (by simp only [h2])] | rw [fr_F_M_make (by simp only [h2])]
def w_F_M_sent_j37 (o j : Nat) : Bool := (o == 0 && (j == 34))
theorem fr_F_M_sent_j37 {o j : Nat} (h : w_F_M_sent_j37 o j = false) (gj37 : se_G) : (F_M_sent_j37 gj37) o j = gj37 o j := by
  unfold F_M_sent_j37
  have h2 := h
  simp only [w_F_M_sent_j37, Bool.or_eq_false_iff, Bool.and_eq_false_iff, beq_eq_false_iff_ne, ne_eq] at h2
  repeat' split
  all_goals repeat first | (with_reducible rfl) | rw [se_u_ne (by omega)]
def w_F_M_sent (o j : Nat) : Bool := (o == 0 && (j == 37 || j == 38 || j == 39)) || w_F_M_sent_j37 o j
theorem fr_F_M_sent {o j : Nat} (h : w_F_M_sent o j = false) (g : se_G) (p1 : Int32) (p2 : Int32) : (F_M_sent g p1 p2) o j = g o j := by
  unfold F_M_sent
  have h2 := h
  simp only [w_F_M_sent, Bool.or_eq_false_iff, Bool.and_eq_false_iff, beq_eq_false_iff_ne, ne_eq] at h2
  repeat' split
  all_goals repeat first | (with_reducible rfl) | rw [se_u_ne (by omega)] | rw [fr_F_M_sent_j37 (by simp only [h2])]
def w_F_M_sendNew_k1 (o j : Nat) : Bool := (o == 0 && (j == 10)) || w_F_M_sent o j
theorem fr_F_M_sendNew_k1 {o j : Nat} (h : w_F_M_sendNew_k1 o j = false) (g1 : se_G) (p1 : Int32) (p2 : Int32) : (F_M_sendNew_k1 g1 p1 p2) o j = g1 o j := by
  unfold F_M_sendNew_k1
  have h2 := h
  simp only [w_F_M_sendNew_k1, Bool.or_eq_false_iff, Bool.and_eq_false_iff, beq_eq_false_iff_ne, ne_eq] at h2
  repeat' split
  all_goals repeat first | (with_reducible rfl) | rw [se_u_ne (by omega)] | rw [fr_F_M_sent (by simp only [h2])]
def w_F_M_sendNew (o j : Nat) : Bool := w_F_M_sendNew_k1 o j || w_F_M_tellBytes o j
theorem fr_F_M_sendNew {o j : Nat} (h : w_F_M_sendNew o j = false) (g : se_G) (p1 : Int32) (p2 : Int32) : (F_M_sendNew g p1 p2) o j = g o j := by
  unfold F_M_sendNew
  have h2 := h
  simp only [w_F_M_sendNew, Bool.or_eq_false_iff, Bool.and_eq_false_iff, beq_eq_false_iff_ne, ne_eq] at h2
  repeat' split
  all_goals repeat first | (with_reducible rfl) | rw [fr_F_M_sendNew_k1 (by simp only [h2])] | rw [fr_F_M_tellBytes (by simp only [h2])]
def w_F_M_sendFresh_j91 (o j : Nat) : Bool := (o == 0 && (j == 32)) || w_F_M_sendNew o j
theorem fr_F_M_sendFresh_j91 {o j : Nat} (h : w_F_M_sendFresh_j91 o j = false) (gj91 : se_G) (v2_91 : Int32) (v3_91 : Int32) (v4_91 : Int32) : (F_M_sendFresh_j91 gj91 v2_91 v3_91 v4_91).2 o j = gj91 o j := by
  unfold F_M_sendFresh_j91
  have h2 := h
  simp only [w_F_M_sendFresh_j91, Bool.or_eq_false_iff, Bool.and_eq_false_iff, beq_eq_false_iff_ne, ne_eq] at h2
  repeat' split
  all_goals repeat first | (with_reducible rfl) | rw [se_u_ne (by omega)] | rw [fr_F_M_sendNew (by simp only [h2])] | dsimp only
def w_F_M_sendFresh_j67 (o j : Nat) : Bool := w_F_M_sendFresh_j91 o j
theorem fr_F_M_sendFresh_j67 {o j : Nat} (h : w_F_M_sendFresh_j67 o j = false) (gj67 : se_G) (v1_67 : Int32) (v2_67 : Int32) (v3_67 : Int32) : (F_M_sendFresh_j67 gj67 v1_67 v2_67 v3_67).2 o j = gj67 o j := by
  unfold F_M_sendFresh_j67
  have h2 := h
  simp only [w_F_M_sendFresh_j67, Bool.or_eq_false_iff, Bool.and_eq_false_iff, beq_eq_false_iff_ne, ne_eq] at h2
  repeat' split
  all_goals repeat first | (with_reducible rfl) | rw [fr_F_M_sendFresh_j91 (by simp only [h2])] | dsimp only
def w_F_M_sendFresh_j29 (o j : Nat) : Bool := w_F_M_sendFresh_j67 o j
theorem fr_F_M_sendFresh_j29 {o j : Nat} (h : w_F_M_sendFresh_j29 o j = false) (gj29 : se_G) (v1_29 : Int32) (v2_29 : Int32) : (F_M_sendFresh_j29 gj29 v1_29 v2_29).2 o j = gj29 o j := by
  unfold F_M_sendFresh_j29
  have h2 := h
  simp only [w_F_M_sendFresh_j29, Bool.or_eq_false_iff, Bool.and_eq_false_iff, beq_eq_false_iff_ne, ne_eq] at h2
  repeat' split
  all_goals repeat first | (with_reducible rfl) | rw [fr_F_M_sendFresh_j67 (by simp only [h2])] | dsimp only
def w_F_M_sendFresh (o j : Nat) : Bool := w_F_M_sendFresh_j29 o j
theorem fr_F_M_sendFresh {o j : Nat} (h : w_F_M_sendFresh o j = false) (g : se_G) : (F_M_sendFresh g).2 o j = g o j := by
  unfold F_M_sendFresh
  have h2 := h
  simp only [w_F_M_sendFresh, Bool.or_eq_false_iff, Bool.and_eq_false_iff, beq_eq_false_iff_ne, ne_eq] at h2
  repeat' split
  all_goals repeat first | (with_reducible rfl) | rw [fr_F_M_sendFresh_j29 (by simp only [h2])] | dsimp only
def w_F_M_sendAgain_k1 (o j : Nat) : Bool := w_F_M_sent o j
theorem fr_F_M_sendAgain_k1 {o j : Nat} (h : w_F_M_sendAgain_k1 o j = false) (g1 : se_G) : (F_M_sendAgain_k1 g1) o j = g1 o j := by
  unfold F_M_sendAgain_k1
  have h2 := h
  simp only [w_F_M_sendAgain_k1, Bool.or_eq_false_iff, Bool.and_eq_false_iff, beq_eq_false_iff_ne, ne_eq] at h2
  repeat' split
  all_goals repeat first | (with_reducible rfl) | rw [fr_F_M_sent (by simp only [h2])]
def w_F_M_sendAgain_j65 (o j : Nat) : Bool := w_F_M_sendAgain_k1 o j || w_F_M_tellBytes o j
theorem fr_F_M_sendAgain_j65 {o j : Nat} (h : w_F_M_sendAgain_j65 o j = false) (gj65 : se_G) (v1_65 : Int32) (v2_65 : Int32) (v3_65 : Int32) : (F_M_sendAgain_j65 gj65 v1_65 v2_65 v3_65) o j = gj65 o j := by
  unfold F_M_sendAgain_j65
  have h2 := h
  simp only [w_F_M_sendAgain_j65, Bool.or_eq_false_iff, Bool.and_eq_false_iff, beq_eq_false_iff_ne, ne_eq] at h2
  repeat' split
  all_goals repeat first | (with_reducible rfl) | rw [fr_F_M_sendAgain_k1 (by simp only [h2])] | rw [fr_F_M_tellBytes (by simp only [h2])]
def w_F_M_sendAgain_j48 (o j : Nat) : Bool := w_F_M_sendAgain_j65 o j
theorem fr_F_M_sendAgain_j48 {o j : Nat} (h : w_F_M_sendAgain_j48 o j = false) (gj48 : se_G) (v1_48 : Int32) (v2_48 : Int32) : (F_M_sendAgain_j48 gj48 v1_48 v2_48) o j = gj48 o j := by
  unfold F_M_sendAgain_j48
  have h2 := h
  simp only [w_F_M_sendAgain_j48, Bool.or_eq_false_iff, Bool.and_eq_false_iff, beq_eq_false_iff_ne, ne_eq] at h2
  repeat' split
  all_goals repeat first | (with_reducible rfl) | rw [fr_F_M_sendAgain_j65 (by simp only [h2])]
def w_F_M_sendAgain (o j : Nat) : Bool := (o == 0 && (j == 31)) || w_F_M_sendAgain_j48 o j
theorem fr_F_M_sendAgain {o j : Nat} (h : w_F_M_sendAgain o j = false) (g : se_G) : (F_M_sendAgain g) o j = g o j := by
  unfold F_M_sendAgain
  have h2 := h
  simp only [w_F_M_sendAgain, Bool.or_eq_false_iff, Bool.and_eq_false_iff, beq_eq_false_iff_ne, ne_eq] at h2
  repeat' split
  all_goals repeat first | (with_reducible rfl) | rw [se_u_ne (by omega)] | rw [fr_F_M_sendAgain_j48 (by simp only [h2])]
def w_F_M_sendOpen_k1 (o j : Nat) : Bool := (o == 0 && (j == 30)) || w_F_M_sent o j
theorem fr_F_M_sendOpen_k1 {o j : Nat} (h : w_F_M_sendOpen_k1 o j = false) (g1 : se_G) : (F_M_sendOpen_k1 g1) o j = g1 o j := by
  unfold F_M_sendOpen_k1
  have h2 := h
  simp only [w_F_M_sendOpen_k1, Bool.or_eq_false_iff, Bool.and_eq_false_iff, beq_eq_false_iff_ne, ne_eq] at h2
  repeat' split
  all_goals repeat first | (with_reducible rfl) | rw [se_u_ne (by omega)] | rw [fr_F_M_sent (by simp only [h2])]
def w_F_M_sendOpen (o j : Nat) : Bool := (o == 0 && (j == 29)) || w_F_M_sendOpen_k1 o j || w_F_M_tellBytes o j
theorem fr_F_M_sendOpen {o j : Nat} (h : w_F_M_sendOpen o j = false) (g : se_G) : (F_M_sendOpen g) o j = g o j := by
  unfold F_M_sendOpen
  have h2 := h
  simp only [w_F_M_sendOpen, Bool.or_eq_false_iff, Bool.and_eq_false_iff, beq_eq_false_iff_ne, ne_eq] at h2
  repeat' split
  all_goals repeat first | (with_reducible rfl) | rw [se_u_ne (by omega)] | rw [fr_F_M_sendOpen_k1 (by simp only [h2])] | rw [fr_F_M_tellBytes (by simp only [h2])]
def w_F_M_next_k1 (o j : Nat) : Bool := w_F_M_tellBytes o j
theorem fr_F_M_next_k1 {o j : Nat} (h : w_F_M_next_k1 o j = false) (r1 : Int32) (g1 : se_G) : (F_M_next_k1 r1 g1).2 o j = g1 o j := by
  unfold F_M_next_k1
  have h2 := h
  simp only [w_F_M_next_k1, Bool.or_eq_false_iff, Bool.and_eq_false_iff, beq_eq_false_iff_ne, ne_eq] at h2
  repeat' split
  all_goals repeat first | (with_reducible rfl) | rw [fr_F_M_tellBytes (by simp only [h2])] | dsimp only
def w_F_M_next (o j : Nat) : Bool := (o == 0 && (j == 2 || j == 25)) || w_F_M_next_k1 o j || w_F_M_sendFresh o j || w_F_M_sendAgain o j || w_F_M_sendOpen o j || w_F_M_make o j
theorem fr_F_M_next {o j : Nat} (h : w_F_M_next o j = false) (g : se_G) : (F_M_next g).2 o j = g o j := by
  unfold F_M_next
  have h2 := h
  simp only [w_F_M_next, Bool.or_eq_false_iff, Bool.and_eq_false_iff, beq_eq_false_iff_ne, ne_eq] at h2
  repeat' split
  all_goals repeat first | (with_reducible rfl) | rw [se_u_ne (by omega)] | rw [fr_F_M_next_k1 (by simp only [h2])] | rw [fr_F_M_sendFresh (by simp only [h2])] | rw [fr_F_M_sendAgain (by simp only [h2])] | rw [fr_F_M_sendOpen (by simp only [h2])] | rw [fr_F_M_make (by simp only [h2])] | dsimp only
def w_F_M_segment (o j : Nat) : Bool := (o == 0 && (j == 2))
theorem fr_F_M_segment {o j : Nat} (h : w_F_M_segment o j = false) (g : se_G) (p1 : Int32) : (F_M_segment g p1).2 o j = g o j := by
  unfold F_M_segment
  have h2 := h
  simp only [w_F_M_segment, Bool.or_eq_false_iff, Bool.and_eq_false_iff, beq_eq_false_iff_ne, ne_eq] at h2
  repeat' split
  all_goals repeat first | (with_reducible rfl) | rw [se_u_ne (by omega)] | dsimp only
def w_F_M_byteAt (o j : Nat) : Bool := (o == 0 && (j == 2))
theorem fr_F_M_byteAt {o j : Nat} (h : w_F_M_byteAt o j = false) (g : se_G) (p1 : Int32) : (F_M_byteAt g p1).2 o j = g o j := by
  unfold F_M_byteAt
  have h2 := h
  simp only [w_F_M_byteAt, Bool.or_eq_false_iff, Bool.and_eq_false_iff, beq_eq_false_iff_ne, ne_eq] at h2
  repeat' split
  all_goals repeat first | (with_reducible rfl) | rw [se_u_ne (by omega)] | dsimp only
def w_F_M_state (o j : Nat) : Bool := (o == 0 && (j == 2))
theorem fr_F_M_state {o j : Nat} (h : w_F_M_state o j = false) (g : se_G) : (F_M_state g).2 o j = g o j := by
  unfold F_M_state
  have h2 := h
  simp only [w_F_M_state, Bool.or_eq_false_iff, Bool.and_eq_false_iff, beq_eq_false_iff_ne, ne_eq] at h2
  repeat' split
  all_goals repeat first | (with_reducible rfl) | rw [se_u_ne (by omega)] | dsimp only
def w_F_M_figure (o j : Nat) : Bool := (o == 0 && (j == 2))
theorem fr_F_M_figure {o j : Nat} (h : w_F_M_figure o j = false) (g : se_G) (p1 : Int32) : (F_M_figure g p1).2 o j = g o j := by
  unfold F_M_figure
  have h2 := h
  simp only [w_F_M_figure, Bool.or_eq_false_iff, Bool.and_eq_false_iff, beq_eq_false_iff_ne, ne_eq] at h2
  repeat' (with_reducible refine se_it2 ?_ ?_)
  all_goals repeat first | (with_reducible rfl) | rw [se_u_ne (by omega)] | dsimp only
def mo_sf (g : se_G) : Prop := (g 0 11).toInt ≤ 1460 ∧ 0 ≤ (g 0 13).toInt ∧ (g 0 13).toInt ≤ 2048 ∧ (F_M_sends g = 0 ∨ 0 ≤ (g 0 10 - g 0 14).toInt)
def mo_nx (g : se_G) : Prop := mo_sf g ∧ (g 0 31 = 0 ∨ (0 ≤ (g 0 9 - g 0 14).toInt ∧ (g 0 9 - g 0 14).toInt ≤ 588))
def mo_pb (g : se_G) : Prop := 0 ≤ (g 0 20).toInt ∧ (g 0 20).toInt ≤ 2048 ∧ (g 0 45).toInt ≤ 1460
def mo_pa (g : se_G) : Prop := (0 ≤ (g 0 13).toInt ∧ (g 0 13).toInt ≤ 2048) ∧ mo_pb g
theorem mo_sf1 {g : se_G} (c : ¬ F_M_sends g = 0) (h : mo_sf g) : mo_sg (g 0 11) (g 0 10 - g 0 14) (F_M_unsent g) := mo_sg0 h.1 h.2.1 h.2.2.1 (h.2.2.2.resolve_left c)
theorem mo_nx1 {g : se_G} (c : ¬ g 0 31 = 0) (h : mo_nx g) : (0 ≤ (g 0 9 - g 0 14).toInt ∧ (g 0 9 - g 0 14).toInt ≤ 588) ∧ (g 0 11).toInt ≤ 1460 := ⟨h.2.resolve_left c, h.1.1⟩
theorem mo_kth {g : se_G} {v : Int32} (h : mo_pb g) : mo_pb (F_M_thanked g v) := by
  unfold mo_pb
  rw [fr_F_M_thanked (o := 0) (j := 20) rfl, fr_F_M_thanked (o := 0) (j := 45) rfl]
  exact h
theorem mo_ktell {g : se_G} {a b c : Int32} (h : mo_pb g) : mo_pb (F_M_tell g a b c) := by
  unfold mo_pb
  rw [fr_F_M_tell (o := 0) (j := 20) rfl, fr_F_M_tell (o := 0) (j := 45) rfl]
  exact h
theorem mo_klast {g : se_G} (h : mo_pb g) : mo_pb (F_M_wasLast g).2 := by
  unfold mo_pb
  rw [fr_F_M_wasLast (o := 0) (j := 20) rfl, fr_F_M_wasLast (o := 0) (j := 45) rfl]
  exact h

