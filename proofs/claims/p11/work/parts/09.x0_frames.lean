/-! written by program (wip/gen) -/
theorem se_u_ne {g : se_G} {a b o j : Nat} {v : Int32} (h : ¬ (o = a ∧ j = b)) : se_u g a b v o j = g o j := by
  unfold se_u upd
  by_cases h1 : o = a
  · rw [if_pos h1, if_neg (fun z => h ⟨h1, z⟩), h1]
  · rw [if_neg h1]
theorem se_u_eq {g : se_G} {a b : Nat} {v : Int32} : se_u g a b v a b = v := by
  unfold se_u upd
  rw [if_pos rfl, if_pos rfl]
theorem se_ite22 {c : Prop} [Decidable c] {a b : Int32 × Int32 × se_G} {g : se_G} (ha : a.2.2 = g) (hb : b.2.2 = g) : (if c then a else b).2.2 = g := by
  split
  · exact ha
  · exact hb
theorem se_it2 {c : Prop} [Decidable c] {a b : Int32 × se_G} {o j : Nat} {x : Int32} (ha : a.2 o j = x) (hb : b.2 o j = x) : (if c then a else b).2 o j = x := by
  split
  · exact ha
  · exact hb

def w_F_S_Outgoing_windowIs (o j : Nat) : Bool := (o == 1 && (j == 10 || j == 11 || j == 12))
theorem fr_F_S_Outgoing_windowIs {o j : Nat} (h : w_F_S_Outgoing_windowIs o j = false) (g : se_G) (p1 : Int32) (p2 : Int32) (p3 : Int32) : (F_S_Outgoing_windowIs g p1 p2 p3) o j = g o j := by
  unfold F_S_Outgoing_windowIs
  have h2 := h
  simp only [w_F_S_Outgoing_windowIs, Bool.or_eq_false_iff, Bool.and_eq_false_iff, beq_eq_false_iff_ne, ne_eq] at h2
  repeat' split
  all_goals repeat first | (with_reducible rfl) | rw [se_u_ne (by omega)]
def w_F_S_Outgoing_restart (o j : Nat) : Bool := (o == 1 && (j == 1 || j == 2 || j == 3 || j == 4 || j == 5 || j == 6 || j == 7 || j == 8 || j == 9)) || w_F_S_Outgoing_windowIs o j
theorem fr_F_S_Outgoing_restart {o j : Nat} (h : w_F_S_Outgoing_restart o j = false) (g : se_G) (p1 : Int32) (p2 : Int32) : (F_S_Outgoing_restart g p1 p2) o j = g o j := by
  unfold F_S_Outgoing_restart
  have h2 := h
  simp only [w_F_S_Outgoing_restart, Bool.or_eq_false_iff, Bool.and_eq_false_iff, beq_eq_false_iff_ne, ne_eq] at h2
  repeat' split
  all_goals repeat first | (with_reducible rfl) | rw [se_u_ne (by omega)] | rw [fr_F_S_Outgoing_windowIs (by simp only [h2])]
def w_F_S_Arrays_fill_j5 (o j : Nat) : Bool := o == 4
theorem fr_F_S_Arrays_fill_j5 {o j : Nat} (h : w_F_S_Arrays_fill_j5 o j = false) : ∀ (n : Nat) (gj5 : se_G) (v1_5 : Int32) (v2_5 : Int32) (v3_5 : Int32), (F_S_Arrays_fill_j5 n gj5 v1_5 v2_5 v3_5) o j = gj5 o j := by
  intro n
  induction n with
  | zero => intro gj5 v1_5 v2_5 v3_5; rfl
  | succ n ih =>
    intro gj5 v1_5 v2_5 v3_5
    rw [F_S_Arrays_fill_j5]
    have h2 := h
    simp only [w_F_S_Arrays_fill_j5, Bool.or_eq_false_iff, Bool.and_eq_false_iff, beq_eq_false_iff_ne, ne_eq] at h2
    repeat' split
    all_goals repeat first | (with_reducible rfl) | rw [se_u_ne (by omega)] | rw [ih]
def w_F_S_Arrays_fill (o j : Nat) : Bool := w_F_S_Arrays_fill_j5 o j
theorem fr_F_S_Arrays_fill {o j : Nat} (h : w_F_S_Arrays_fill o j = false) (g : se_G) (p1 : Int32) : (F_S_Arrays_fill g p1) o j = g o j := by
  unfold F_S_Arrays_fill
  have h2 := h
  simp only [w_F_S_Arrays_fill, Bool.or_eq_false_iff, Bool.and_eq_false_iff, beq_eq_false_iff_ne, ne_eq] at h2
  repeat' split
  all_goals repeat first | (with_reducible rfl) | rw [fr_F_S_Arrays_fill_j5 (by simp only [h2])]
def w_F_S_Incoming_restart (o j : Nat) : Bool := (o == 3 && (j == 1 || j == 2 || j == 3 || j == 4 || j == 5 || j == 6 || j == 7)) || w_F_S_Arrays_fill o j
theorem fr_F_S_Incoming_restart {o j : Nat} (h : w_F_S_Incoming_restart o j = false) (g : se_G) : (F_S_Incoming_restart g) o j = g o j := by
  unfold F_S_Incoming_restart
  have h2 := h
  simp only [w_F_S_Incoming_restart, Bool.or_eq_false_iff, Bool.and_eq_false_iff, beq_eq_false_iff_ne, ne_eq] at h2
  repeat' split
  all_goals repeat first | (with_reducible rfl) | rw [se_u_ne (by omega)] | rw [fr_F_S_Arrays_fill (by simp only [h2])]
def w_F_S_Watch_restart (o j : Nat) : Bool := (o == 5 && (j == 1 || j == 2 || j == 3 || j == 4 || j == 5 || j == 6 || j == 7 || j == 8 || j == 9 || j == 10))
theorem fr_F_S_Watch_restart {o j : Nat} (h : w_F_S_Watch_restart o j = false) (g : se_G) : (F_S_Watch_restart g) o j = g o j := by
  unfold F_S_Watch_restart
  have h2 := h
  simp only [w_F_S_Watch_restart, Bool.or_eq_false_iff, Bool.and_eq_false_iff, beq_eq_false_iff_ne, ne_eq] at h2
  repeat' split
  all_goals repeat first | (with_reducible rfl) | rw [se_u_ne (by omega)]
def w_F_S_Due_dropStream (o j : Nat) : Bool := (o == 6 && (j == 4 || j == 6 || j == 7))
theorem fr_F_S_Due_dropStream {o j : Nat} (h : w_F_S_Due_dropStream o j = false) (g : se_G) : (F_S_Due_dropStream g) o j = g o j := by
  unfold F_S_Due_dropStream
  have h2 := h
  simp only [w_F_S_Due_dropStream, Bool.or_eq_false_iff, Bool.and_eq_false_iff, beq_eq_false_iff_ne, ne_eq] at h2
  repeat' split
  all_goals repeat first | (with_reducible rfl) | rw [se_u_ne (by omega)]
def w_F_S_Due_restart (o j : Nat) : Bool := (o == 6 && (j == 5 || j == 8)) || w_F_S_Due_dropStream o j
theorem fr_F_S_Due_restart {o j : Nat} (h : w_F_S_Due_restart o j = false) (g : se_G) : (F_S_Due_restart g) o j = g o j := by
  unfold F_S_Due_restart
  have h2 := h
  simp only [w_F_S_Due_restart, Bool.or_eq_false_iff, Bool.and_eq_false_iff, beq_eq_false_iff_ne, ne_eq] at h2
  repeat' split
  all_goals repeat first | (with_reducible rfl) | rw [se_u_ne (by omega)] | rw [fr_F_S_Due_dropStream (by simp only [h2])]
def w_F_S_openIsDue (o j : Nat) : Bool := (o == 1 && (j == 6)) || (o == 6 && (j == 4))
theorem fr_F_S_openIsDue {o j : Nat} (h : w_F_S_openIsDue o j = false) (g : se_G) : (F_S_openIsDue g) o j = g o j := by
  unfold F_S_openIsDue
  have h2 := h
  simp only [w_F_S_openIsDue, Bool.or_eq_false_iff, Bool.and_eq_false_iff, beq_eq_false_iff_ne, ne_eq] at h2
  repeat' split
  all_goals repeat first | (with_reducible rfl) | rw [se_u_ne (by omega)]
def w_F_S_startStream_k1 (o j : Nat) : Bool := (o == 0 && (j == 9 || j == 10)) || w_F_S_openIsDue o j
theorem fr_F_S_startStream_k1 {o j : Nat} (h : w_F_S_startStream_k1 o j = false) (p2 : Int32) (g4 : se_G) : (F_S_startStream_k1 p2 g4) o j = g4 o j := by
  unfold F_S_startStream_k1
  have h2 := h
  simp only [w_F_S_startStream_k1, Bool.or_eq_false_iff, Bool.and_eq_false_iff, beq_eq_false_iff_ne, ne_eq] at h2
  repeat' split
  all_goals repeat first | (with_reducible rfl) | rw [se_u_ne (by omega)] | rw [fr_F_S_openIsDue (by simp only [h2])]
def w_F_S_startStream_k2 (o j : Nat) : Bool := w_F_S_startStream_k1 o j || w_F_S_Due_restart o j
theorem fr_F_S_startStream_k2 {o j : Nat} (h : w_F_S_startStream_k2 o j = false) (p2 : Int32) (g3 : se_G) : (F_S_startStream_k2 p2 g3) o j = g3 o j := by
  unfold F_S_startStream_k2
  have h2 := h
  simp only [w_F_S_startStream_k2, Bool.or_eq_false_iff, Bool.and_eq_false_iff, beq_eq_false_iff_ne, ne_eq] at h2
  repeat' split
  all_goals repeat first | (with_reducible rfl) | rw [fr_F_S_startStream_k1 (by simp only [h2])] | rw [fr_F_S_Due_restart (by simp only [h2])]
def w_F_S_startStream_k3 (o j : Nat) : Bool := w_F_S_startStream_k2 o j || w_F_S_Watch_restart o j
theorem fr_F_S_startStream_k3 {o j : Nat} (h : w_F_S_startStream_k3 o j = false) (p2 : Int32) (g2 : se_G) : (F_S_startStream_k3 p2 g2) o j = g2 o j := by
  unfold F_S_startStream_k3
  have h2 := h
  simp only [w_F_S_startStream_k3, Bool.or_eq_false_iff, Bool.and_eq_false_iff, beq_eq_false_iff_ne, ne_eq] at h2
  repeat' split
  all_goals repeat first | (with_reducible rfl) | rw [fr_F_S_startStream_k2 (by simp only [h2])] | rw [fr_F_S_Watch_restart (by simp only [h2])]
def w_F_S_startStream_k4 (o j : Nat) : Bool := w_F_S_startStream_k3 o j || w_F_S_Incoming_restart o j
theorem fr_F_S_startStream_k4 {o j : Nat} (h : w_F_S_startStream_k4 o j = false) (p2 : Int32) (g1 : se_G) : (F_S_startStream_k4 p2 g1) o j = g1 o j := by
  unfold F_S_startStream_k4
  have h2 := h
  simp only [w_F_S_startStream_k4, Bool.or_eq_false_iff, Bool.and_eq_false_iff, beq_eq_false_iff_ne, ne_eq] at h2
  repeat' split
  all_goals repeat first | (with_reducible rfl) | rw [fr_F_S_startStream_k3 (by simp only [h2])] | rw [fr_F_S_Incoming_restart (by simp only [h2])]
def w_F_S_startStream (o j : Nat) : Bool := w_F_S_startStream_k4 o j || w_F_S_Outgoing_restart o j
theorem fr_F_S_startStream {o j : Nat} (h : w_F_S_startStream o j = false) (g : se_G) (p1 : Int32) (p2 : Int32) : (F_S_startStream g p1 p2) o j = g o j := by
  unfold F_S_startStream
  have h2 := h
  simp only [w_F_S_startStream, Bool.or_eq_false_iff, Bool.and_eq_false_iff, beq_eq_false_iff_ne, ne_eq] at h2
  repeat' split
  all_goals repeat first | (with_reducible rfl) | rw [fr_F_S_startStream_k4 (by simp only [h2])] | rw [fr_F_S_Outgoing_restart (by simp only [h2])]
def w_F_S_begin (o j : Nat) : Bool := w_F_S_startStream o j
theorem fr_F_S_begin {o j : Nat} (h : w_F_S_begin o j = false) (g : se_G) (p1 : Int32) (p2 : Int32) : (F_S_begin g p1 p2).2.2 o j = g o j := by
  unfold F_S_begin
  have h2 := h
  simp only [w_F_S_begin, Bool.or_eq_false_iff, Bool.and_eq_false_iff, beq_eq_false_iff_ne, ne_eq] at h2
  repeat' split
  all_goals repeat first | (with_reducible rfl) | rw [fr_F_S_startStream (by simp only [h2])] | dsimp only
def w_F_S_Watch_setAlarm (o j : Nat) : Bool := (o == 5 && (j == 1 || j == 2))
theorem fr_F_S_Watch_setAlarm {o j : Nat} (h : w_F_S_Watch_setAlarm o j = false) (g : se_G) : (F_S_Watch_setAlarm g) o j = g o j := by
  unfold F_S_Watch_setAlarm
  have h2 := h
  simp only [w_F_S_Watch_setAlarm, Bool.or_eq_false_iff, Bool.and_eq_false_iff, beq_eq_false_iff_ne, ne_eq] at h2
  repeat' split
  all_goals repeat first | (with_reducible rfl) | rw [se_u_ne (by omega)]
def w_F_S_watchClosedWindow (o j : Nat) : Bool := w_F_S_Watch_setAlarm o j
theorem fr_F_S_watchClosedWindow {o j : Nat} (h : w_F_S_watchClosedWindow o j = false) (g : se_G) : (F_S_watchClosedWindow g) o j = g o j := by
  unfold F_S_watchClosedWindow
  have h2 := h
  simp only [w_F_S_watchClosedWindow, Bool.or_eq_false_iff, Bool.and_eq_false_iff, beq_eq_false_iff_ne, ne_eq] at h2
  repeat' split
  all_goals repeat first | (with_reducible rfl) | rw [fr_F_S_Watch_setAlarm (by simp only [h2])]
def w_F_S_Outgoing_append (o j : Nat) : Bool := (o == 1 && (j == 2)) || o == 2
theorem fr_F_S_Outgoing_append {o j : Nat} (h : w_F_S_Outgoing_append o j = false) (g : se_G) (p1 : Int32) : (F_S_Outgoing_append g p1) o j = g o j := by
  unfold F_S_Outgoing_append
  have h2 := h
  simp only [w_F_S_Outgoing_append, Bool.or_eq_false_iff, Bool.and_eq_false_iff, beq_eq_false_iff_ne, ne_eq] at h2
  repeat' split
  all_goals repeat first | (with_reducible rfl) | rw [se_u_ne (by omega)]
def w_F_S_write_j68 (o j : Nat) : Bool := w_F_S_watchClosedWindow o j || w_F_S_Outgoing_append o j
theorem fr_F_S_write_j68 {o j : Nat} (h : w_F_S_write_j68 o j = false) : ∀ (n : Nat) (gj68 : se_G) (v1_68 : Int64) (v3_68 : Int32) (v4_68 : Int32) (v5_68 : Int32), (F_S_write_j68 n gj68 v1_68 v3_68 v4_68 v5_68).2.2 o j = gj68 o j := by
  intro n
  induction n with
  | zero => intro gj68 v1_68 v3_68 v4_68 v5_68; rfl
  | succ n ih =>
    intro gj68 v1_68 v3_68 v4_68 v5_68
    rw [F_S_write_j68]
    have h2 := h
    simp only [w_F_S_write_j68, Bool.or_eq_false_iff, Bool.and_eq_false_iff, beq_eq_false_iff_ne, ne_eq] at h2
    repeat' split
    all_goals repeat first | (with_reducible rfl) | rw [fr_F_S_watchClosedWindow (by simp only [h2])] | rw [fr_F_S_Outgoing_append (by simp only [h2])] | rw [ih] | dsimp only
def w_F_S_write (o j : Nat) : Bool := w_F_S_write_j68 o j
theorem fr_F_S_write {o j : Nat} (h : w_F_S_write o j = false) (g : se_G) (p1 : Int64) (p3 : Int32) : (F_S_write g p1 p3).2.2 o j = g o j := by
  unfold F_S_write
  have h2 := h
  simp only [w_F_S_write, Bool.or_eq_false_iff, Bool.and_eq_false_iff, beq_eq_false_iff_ne, ne_eq] at h2
  repeat' split
  all_goals repeat first | (with_reducible rfl) | rw [fr_F_S_write_j68 (by simp only [h2])] | dsimp only
def w_F_S_Incoming_takeByte (o j : Nat) : Bool := (o == 3 && (j == 3 || j == 4)) || o == 4
theorem fr_F_S_Incoming_takeByte {o j : Nat} (h : w_F_S_Incoming_takeByte o j = false) (g : se_G) : (F_S_Incoming_takeByte g).2 o j = g o j := by
  unfold F_S_Incoming_takeByte
  have h2 := h
  simp only [w_F_S_Incoming_takeByte, Bool.or_eq_false_iff, Bool.and_eq_false_iff, beq_eq_false_iff_ne, ne_eq] at h2
  repeat' split
  all_goals repeat first | (with_reducible rfl) | rw [se_u_ne (by omega)] | dsimp only
def w_F_S_readByte_k1 (o j : Nat) : Bool := (o == 6 && (j == 8))
theorem fr_F_S_readByte_k1 {o j : Nat} (h : w_F_S_readByte_k1 o j = false) (g : se_G) (r1 : Int32) (g1 : se_G) : (F_S_readByte_k1 g r1 g1).2 o j = g1 o j := by
  unfold F_S_readByte_k1
  have h2 := h
  simp only [w_F_S_readByte_k1, Bool.or_eq_false_iff, Bool.and_eq_false_iff, beq_eq_false_iff_ne, ne_eq] at h2
  repeat' split
  all_goals repeat first | (with_reducible rfl) | rw [se_u_ne (by omega)] | dsimp only
def w_F_S_readByte (o j : Nat) : Bool := w_F_S_readByte_k1 o j || w_F_S_Incoming_takeByte o j
theorem fr_F_S_readByte {o j : Nat} (h : w_F_S_readByte o j = false) (g : se_G) : (F_S_readByte g).2 o j = g o j := by
  unfold F_S_readByte
  have h2 := h
  simp only [w_F_S_readByte, Bool.or_eq_false_iff, Bool.and_eq_false_iff, beq_eq_false_iff_ne, ne_eq] at h2
  repeat' split
  all_goals repeat first | (with_reducible rfl) | rw [fr_F_S_readByte_k1 (by simp only [h2])] | rw [fr_F_S_Incoming_takeByte (by simp only [h2])] | dsimp only
def w_F_S_read (o j : Nat) : Bool := w_F_S_readByte o j
theorem fr_F_S_read {o j : Nat} (h : w_F_S_read o j = false) (g : se_G) : (F_S_read g).2.2 o j = g o j := by
  unfold F_S_read
  have h2 := h
  simp only [w_F_S_read, Bool.or_eq_false_iff, Bool.and_eq_false_iff, beq_eq_false_iff_ne, ne_eq] at h2
  repeat' split
  all_goals repeat first | (with_reducible rfl) | rw [fr_F_S_readByte (by simp only [h2])] | dsimp only
def w_F_S_beginQuiet (o j : Nat) : Bool := (o == 0 && (j == 11))
theorem fr_F_S_beginQuiet {o j : Nat} (h : w_F_S_beginQuiet o j = false) (g : se_G) : (F_S_beginQuiet g) o j = g o j := by
  unfold F_S_beginQuiet
  have h2 := h
  simp only [w_F_S_beginQuiet, Bool.or_eq_false_iff, Bool.and_eq_false_iff, beq_eq_false_iff_ne, ne_eq] at h2
  repeat' split
  all_goals repeat first | (with_reducible rfl) | rw [se_u_ne (by omega)]
def w_F_S_halt_k1 (o j : Nat) : Bool := (o == 6 && (j == 8)) || w_F_S_beginQuiet o j
theorem fr_F_S_halt_k1 {o j : Nat} (h : w_F_S_halt_k1 o j = false) (p1 : Int32) (g1 : se_G) : (F_S_halt_k1 p1 g1) o j = g1 o j := by
  unfold F_S_halt_k1
  have h2 := h
  simp only [w_F_S_halt_k1, Bool.or_eq_false_iff, Bool.and_eq_false_iff, beq_eq_false_iff_ne, ne_eq] at h2
  repeat' split
  all_goals repeat first | (with_reducible rfl) | rw [se_u_ne (by omega)] | rw [fr_F_S_beginQuiet (by simp only [h2])]
def w_F_S_halt (o j : Nat) : Bool := (o == 0 && (j == 9)) || (o == 5 && (j == 1)) || w_F_S_halt_k1 o j || w_F_S_Due_dropStream o j
theorem fr_F_S_halt {o j : Nat} (h : w_F_S_halt o j = false) (g : se_G) (p1 : Int32) : (F_S_halt g p1) o j = g o j := by
  unfold F_S_halt
  have h2 := h
  simp only [w_F_S_halt, Bool.or_eq_false_iff, Bool.and_eq_false_iff, beq_eq_false_iff_ne, ne_eq] at h2
  repeat' split
  all_goals repeat first | (with_reducible rfl) | rw [se_u_ne (by omega)] | rw [fr_F_S_halt_k1 (by simp only [h2])] | rw [fr_F_S_Due_dropStream (by simp only [h2])]
def w_F_S_close (o j : Nat) : Bool := (o == 0 && (j == 9)) || (o == 1 && (j == 7)) || w_F_S_watchClosedWindow o j || w_F_S_halt o j
theorem fr_F_S_close {o j : Nat} (h : w_F_S_close o j = false) (g : se_G) : (F_S_close g).2.2 o j = g o j := by
  unfold F_S_close
  have h2 := h
  simp only [w_F_S_close, Bool.or_eq_false_iff, Bool.and_eq_false_iff, beq_eq_false_iff_ne, ne_eq] at h2
  repeat' split
  all_goals repeat first | (with_reducible rfl) | rw [se_u_ne (by omega)] | rw [fr_F_S_watchClosedWindow (by simp only [h2])] | rw [fr_F_S_halt (by simp only [h2])] | dsimp only
def w_F_S_Due_resetIs (o j : Nat) : Bool := (o == 6 && (j == 0 || j == 1 || j == 2 || j == 3))
theorem fr_F_S_Due_resetIs {o j : Nat} (h : w_F_S_Due_resetIs o j = false) (g : se_G) (p1 : Int32) (p2 : Int32) (p3 : Int32) : (F_S_Due_resetIs g p1 p2 p3) o j = g o j := by
  unfold F_S_Due_resetIs
  have h2 := h
  simp only [w_F_S_Due_resetIs, Bool.or_eq_false_iff, Bool.and_eq_false_iff, beq_eq_false_iff_ne, ne_eq] at h2
  repeat' split
  all_goals repeat first | (with_reducible rfl) | rw [se_u_ne (by omega)]
def w_F_S_abort (o j : Nat) : Bool := w_F_S_halt o j || w_F_S_Due_resetIs o j
theorem fr_F_S_abort {o j : Nat} (h : w_F_S_abort o j = false) (g : se_G) : (F_S_abort g).2.2 o j = g o j := by
  unfold F_S_abort
  have h2 := h
  simp only [w_F_S_abort, Bool.or_eq_false_iff, Bool.and_eq_false_iff, beq_eq_false_iff_ne, ne_eq] at h2
  repeat' split
  all_goals repeat first | (with_reducible rfl) | rw [fr_F_S_halt (by simp only [h2])] | rw [fr_F_S_Due_resetIs (by simp only [h2])] | dsimp only
def w_F_S_Watch_doubleWait (o j : Nat) : Bool := (o == 5 && (j == 4))
theorem fr_F_S_Watch_doubleWait {o j : Nat} (h : w_F_S_Watch_doubleWait o j = false) (g : se_G) : (F_S_Watch_doubleWait g) o j = g o j := by
  unfold F_S_Watch_doubleWait
  have h2 := h
  simp only [w_F_S_Watch_doubleWait, Bool.or_eq_false_iff, Bool.and_eq_false_iff, beq_eq_false_iff_ne, ne_eq] at h2
  repeat' split
  all_goals repeat first | (with_reducible rfl) | rw [se_u_ne (by omega)]
def w_F_S_takeAlarm_j48 (o j : Nat) : Bool := (o == 6 && (j == 4)) || w_F_S_Watch_setAlarm o j || w_F_S_Watch_doubleWait o j
theorem fr_F_S_takeAlarm_j48 {o j : Nat} (h : w_F_S_takeAlarm_j48 o j = false) (gj48 : se_G) : (F_S_takeAlarm_j48 gj48) o j = gj48 o j := by
  unfold F_S_takeAlarm_j48
  have h2 := h
  simp only [w_F_S_takeAlarm_j48, Bool.or_eq_false_iff, Bool.and_eq_false_iff, beq_eq_false_iff_ne, ne_eq] at h2
  repeat' split
  all_goals repeat first | (with_reducible rfl) | rw [se_u_ne (by omega)] | rw [fr_F_S_Watch_setAlarm (by simp only [h2])] | rw [fr_F_S_Watch_doubleWait (by simp only [h2])]
def w_F_S_takeAlarm (o j : Nat) : Bool := (o == 5 && (j == 3)) || (o == 6 && (j == 6 || j == 7)) || w_F_S_takeAlarm_j48 o j || w_F_S_Watch_setAlarm o j || w_F_S_Watch_doubleWait o j || w_F_S_halt o j
theorem fr_F_S_takeAlarm {o j : Nat} (h : w_F_S_takeAlarm o j = false) (g : se_G) : (F_S_takeAlarm g) o j = g o j := by
  unfold F_S_takeAlarm
  have h2 := h
  simp only [w_F_S_takeAlarm, Bool.or_eq_false_iff, Bool.and_eq_false_iff, beq_eq_false_iff_ne, ne_eq] at h2
  repeat' split
  all_goals repeat first | (with_reducible rfl) | rw [se_u_ne (by omega)] | rw [fr_F_S_takeAlarm_j48 (by simp only [h2])] | rw [fr_F_S_Watch_setAlarm (by simp only [h2])] | rw [fr_F_S_Watch_doubleWait (by simp only [h2])] | rw [fr_F_S_halt (by simp only [h2])]
def w_F_S_takeEvents_j28 (o j : Nat) : Bool := w_F_S_takeAlarm o j
theorem fr_F_S_takeEvents_j28 {o j : Nat} (h : w_F_S_takeEvents_j28 o j = false) (gj28 : se_G) : (F_S_takeEvents_j28 gj28) o j = gj28 o j := by
  unfold F_S_takeEvents_j28
  have h2 := h
  simp only [w_F_S_takeEvents_j28, Bool.or_eq_false_iff, Bool.and_eq_false_iff, beq_eq_false_iff_ne, ne_eq] at h2
  repeat' split
  all_goals repeat first | (with_reducible rfl) | rw [fr_F_S_takeAlarm (by simp only [h2])]
def w_F_S_takeEvents (o j : Nat) : Bool := w_F_S_takeEvents_j28 o j || w_F_S_halt o j
theorem fr_F_S_takeEvents {o j : Nat} (h : w_F_S_takeEvents o j = false) (g : se_G) : (F_S_takeEvents g) o j = g o j := by
  unfold F_S_takeEvents
  have h2 := h
  simp only [w_F_S_takeEvents, Bool.or_eq_false_iff, Bool.and_eq_false_iff, beq_eq_false_iff_ne, ne_eq] at h2
  repeat' split
  all_goals repeat first | (with_reducible rfl) | rw [fr_F_S_takeEvents_j28 (by simp only [h2])] | rw [fr_F_S_halt (by simp only [h2])]
def w_F_S_run_j48 (o j : Nat) : Bool := (o == 5 && (j == 0)) || w_F_S_takeEvents o j
theorem fr_F_S_run_j48 {o j : Nat} (h : w_F_S_run_j48 o j = false) : ∀ (n : Nat) (gj48 : se_G) (v2_48 : Int32), (F_S_run_j48 n gj48 v2_48).2.2 o j = gj48 o j := by
  intro n
  induction n with
  | zero => intro gj48 v2_48; rfl
  | succ n ih =>
    intro gj48 v2_48
    rw [F_S_run_j48]
    have h2 := h
    simp only [w_F_S_run_j48, Bool.or_eq_false_iff, Bool.and_eq_false_iff, beq_eq_false_iff_ne, ne_eq] at h2
    repeat' split
    all_goals repeat first | (with_reducible rfl) | rw [se_u_ne (by omega)] | rw [fr_F_S_takeEvents (by simp only [h2])] | rw [ih] | dsimp only
def w_F_S_run (o j : Nat) : Bool := w_F_S_run_j48 o j
theorem fr_F_S_run {o j : Nat} (h : w_F_S_run o j = false) (g : se_G) (p1 : Int32) : (F_S_run g p1).2.2 o j = g o j := by
  unfold F_S_run
  have h2 := h
  simp only [w_F_S_run, Bool.or_eq_false_iff, Bool.and_eq_false_iff, beq_eq_false_iff_ne, ne_eq] at h2
  repeat' split
  all_goals repeat first | (with_reducible rfl) | rw [fr_F_S_run_j48 (by simp only [h2])] | dsimp only
def w_F_S_Segment_headIs_9 (o j : Nat) : Bool := (o == 9 && (j == 2 || j == 3 || j == 4 || j == 5 || j == 6))
theorem fr_F_S_Segment_headIs_9 {o j : Nat} (h : w_F_S_Segment_headIs_9 o j = false) (g : se_G) (p1 : Int32) (p2 : Int32) (p3 : Int32) (p4 : Int32) (p5 : Int32) : (F_S_Segment_headIs_9 g p1 p2 p3 p4 p5) o j = g o j := by
  unfold F_S_Segment_headIs_9
  have h2 := h
  simp only [w_F_S_Segment_headIs_9, Bool.or_eq_false_iff, Bool.and_eq_false_iff, beq_eq_false_iff_ne, ne_eq] at h2
  repeat' split
  all_goals repeat first | (with_reducible rfl) | rw [se_u_ne (by omega)]
def w_F_S_Segment_append_9 (o j : Nat) : Bool := (o == 9 && (j == 1)) || o == 10
theorem fr_F_S_Segment_append_9 {o j : Nat} (h : w_F_S_Segment_append_9 o j = false) (g : se_G) (p1 : Int32) : (F_S_Segment_append_9 g p1) o j = g o j := by
  unfold F_S_Segment_append_9
  have h2 := h
  simp only [w_F_S_Segment_append_9, Bool.or_eq_false_iff, Bool.and_eq_false_iff, beq_eq_false_iff_ne, ne_eq] at h2
  repeat' split
  all_goals repeat first | (with_reducible rfl) | rw [se_u_ne (by omega)]
def w_F_S_Outgoing_copyTo_j8 (o j : Nat) : Bool := w_F_S_Segment_append_9 o j
theorem fr_F_S_Outgoing_copyTo_j8 {o j : Nat} (h : w_F_S_Outgoing_copyTo_j8 o j = false) : ∀ (n : Nat) (gj8 : se_G) (v2_8 : Int32) (v3_8 : Int32) (v4_8 : Int32), (F_S_Outgoing_copyTo_j8 n gj8 v2_8 v3_8 v4_8) o j = gj8 o j := by
  intro n
  induction n with
  | zero => intro gj8 v2_8 v3_8 v4_8; rfl
  | succ n ih =>
    intro gj8 v2_8 v3_8 v4_8
    rw [F_S_Outgoing_copyTo_j8]
    have h2 := h
    simp only [w_F_S_Outgoing_copyTo_j8, Bool.or_eq_false_iff, Bool.and_eq_false_iff, beq_eq_false_iff_ne, ne_eq] at h2
    repeat' split
    all_goals repeat first | (with_reducible rfl) | rw [fr_F_S_Segment_append_9 (by simp only [h2])] | rw [ih]
def w_F_S_Outgoing_copyTo (o j : Nat) : Bool := (o == 9 && (j == 1)) || w_F_S_Outgoing_copyTo_j8 o j
theorem fr_F_S_Outgoing_copyTo {o j : Nat} (h : w_F_S_Outgoing_copyTo o j = false) (g : se_G) (p2 : Int32) (p3 : Int32) : (F_S_Outgoing_copyTo g p2 p3) o j = g o j := by
  unfold F_S_Outgoing_copyTo
  have h2 := h
  simp only [w_F_S_Outgoing_copyTo, Bool.or_eq_false_iff, Bool.and_eq_false_iff, beq_eq_false_iff_ne, ne_eq] at h2
  repeat' split
  all_goals repeat first | (with_reducible rfl) | rw [se_u_ne (by omega)] | rw [fr_F_S_Outgoing_copyTo_j8 (by simp only [h2])]
def w_F_S_make_k1 (o j : Nat) : Bool := (o == 6 && (j == 8))
theorem fr_F_S_make_k1 {o j : Nat} (h : w_F_S_make_k1 o j = false) (g2 : se_G) : (F_S_make_k1 g2) o j = g2 o j := by
  unfold F_S_make_k1
  have h2 := h
  simp only [w_F_S_make_k1, Bool.or_eq_false_iff, Bool.and_eq_false_iff, beq_eq_false_iff_ne, ne_eq] at h2
  repeat' split
  all_goals repeat first | (with_reducible rfl) | rw [se_u_ne (by omega)]
def w_F_S_make_k2 (o j : Nat) : Bool := w_F_S_make_k1 o j || w_F_S_Outgoing_copyTo o j
theorem fr_F_S_make_k2 {o j : Nat} (h : w_F_S_make_k2 o j = false) (g1 : se_G) (p3 : Int32) (p4 : Int32) : (F_S_make_k2 g1 p3 p4) o j = g1 o j := by
  unfold F_S_make_k2
  have h2 := h
  simp only [w_F_S_make_k2, Bool.or_eq_false_iff, Bool.and_eq_false_iff, beq_eq_false_iff_ne, ne_eq] at h2
  repeat' split
  all_goals repeat first | (with_reducible rfl) | rw [fr_F_S_make_k1 (by simp only [h2])] | rw [fr_F_S_Outgoing_copyTo (by simp only [h2])]
def w_F_S_make (o j : Nat) : Bool := w_F_S_make_k2 o j || w_F_S_Segment_headIs_9 o j
theorem fr_F_S_make {o j : Nat} (h : w_F_S_make o j = false) (g : se_G) (p1 : Int32) (p2 : Int32) (p3 : Int32) (p4 : Int32) : (F_S_make g p1 p2 p3 p4) o j = g o j := by
  unfold F_S_make
  have h2 := h
  simp only [w_F_S_make, Bool.or_eq_false_iff, Bool.and_eq_false_iff, beq_eq_false_iff_ne, ne_eq] at h2
  repeat' split
  all_goals repeat first | (with_reducible rfl) | rw [fr_F_S_make_k2 (by simp only [h2])] | rw [fr_F_S_Segment_headIs_9 (by simp only [h2])]
def w_F_S_Outgoing_wasSent (o j : Nat) : Bool := (o == 1 && (j == 3 || j == 6 || j == 8))
theorem fr_F_S_Outgoing_wasSent {o j : Nat} (h : w_F_S_Outgoing_wasSent o j = false) (g : se_G) (p1 : Int32) (p2 : Int32) : (F_S_Outgoing_wasSent g p1 p2) o j = g o j := by
  unfold F_S_Outgoing_wasSent
  have h2 := h
  simp only [w_F_S_Outgoing_wasSent, Bool.or_eq_false_iff, Bool.and_eq_false_iff, beq_eq_false_iff_ne, ne_eq] at h2
  repeat' split
  all_goals repeat first | (with_reducible rfl) | rw [se_u_ne (by omega)]
def w_F_S_Watch_measure (o j : Nat) : Bool := (o == 5 && (j == 8 || j == 9 || j == 10))
theorem fr_F_S_Watch_measure {o j : Nat} (h : w_F_S_Watch_measure o j = false) (g : se_G) (p1 : Int32) : (F_S_Watch_measure g p1) o j = g o j := by
  unfold F_S_Watch_measure
  have h2 := h
  simp only [w_F_S_Watch_measure, Bool.or_eq_false_iff, Bool.and_eq_false_iff, beq_eq_false_iff_ne, ne_eq] at h2
  repeat' split
  all_goals repeat first | (with_reducible rfl) | rw [se_u_ne (by omega)]
def w_F_S_Watch_setAlarmIfOff (o j : Nat) : Bool := w_F_S_Watch_setAlarm o j
theorem fr_F_S_Watch_setAlarmIfOff {o j : Nat} (h : w_F_S_Watch_setAlarmIfOff o j = false) (g : se_G) : (F_S_Watch_setAlarmIfOff g) o j = g o j := by
  unfold F_S_Watch_setAlarmIfOff
  have h2 := h
  simp only [w_F_S_Watch_setAlarmIfOff, Bool.or_eq_false_iff, Bool.and_eq_false_iff, beq_eq_false_iff_ne, ne_eq] at h2
  repeat' split
  all_goals repeat first | (with_reducible rfl) | rw [fr_F_S_Watch_setAlarm (by simp only [h2])]
def w_F_S_makeNew_k1 (o j : Nat) : Bool := w_F_S_Watch_setAlarmIfOff o j || w_F_S_Watch_measure o j
theorem fr_F_S_makeNew_k1 {o j : Nat} (h : w_F_S_makeNew_k1 o j = false) (g2 : se_G) : (F_S_makeNew_k1 g2) o j = g2 o j := by
  unfold F_S_makeNew_k1
  have h2 := h
  simp only [w_F_S_makeNew_k1, Bool.or_eq_false_iff, Bool.and_eq_false_iff, beq_eq_false_iff_ne, ne_eq] at h2
  repeat' split
  all_goals repeat first | (with_reducible rfl) | rw [fr_F_S_Watch_setAlarmIfOff (by simp only [h2])] | rw [fr_F_S_Watch_measure (by simp only [h2])]
def w_F_S_makeNew (o j : Nat) : Bool := (o == 6 && (j == 7)) || w_F_S_makeNew_k1 o j || w_F_S_Outgoing_wasSent o j || w_F_S_make o j
theorem fr_F_S_makeNew {o j : Nat} (h : w_F_S_makeNew o j = false) (g : se_G) (p1 : Int32) (p2 : Int32) : (F_S_makeNew g p1 p2) o j = g o j := by
  unfold F_S_makeNew
  have h2 := h
  simp only [w_F_S_makeNew, Bool.or_eq_false_iff, Bool.and_eq_false_iff, beq_eq_false_iff_ne, ne_eq] at h2
  repeat' split
  all_goals repeat first | (with_reducible rfl) | rw [se_u_ne (by omega)] | rw [fr_F_S_makeNew_k1 (by simp only [h2])] | rw [fr_F_S_Outgoing_wasSent (by simp only [h2])] | rw [fr_F_S_make (by simp only [h2])]
def w_F_S_makeProbe (o j : Nat) : Bool := w_F_S_makeNew o j
theorem fr_F_S_makeProbe {o j : Nat} (h : w_F_S_makeProbe o j = false) (g : se_G) : (F_S_makeProbe g) o j = g o j := by
  unfold F_S_makeProbe
  have h2 := h
  simp only [w_F_S_makeProbe, Bool.or_eq_false_iff, Bool.and_eq_false_iff, beq_eq_false_iff_ne, ne_eq] at h2
  repeat' split
  all_goals repeat first | (with_reducible rfl) | rw [fr_F_S_makeNew (by simp only [h2])]
def w_F_S_makeAgain (o j : Nat) : Bool := (o == 5 && (j == 8)) || (o == 6 && (j == 6)) || w_F_S_make o j
theorem fr_F_S_makeAgain {o j : Nat} (h : w_F_S_makeAgain o j = false) (g : se_G) : (F_S_makeAgain g) o j = g o j := by
  unfold F_S_makeAgain
  have h2 := h
  simp only [w_F_S_makeAgain, Bool.or_eq_false_iff, Bool.and_eq_false_iff, beq_eq_false_iff_ne, ne_eq] at h2
  repeat' split
  all_goals repeat first | (with_reducible rfl) | rw [se_u_ne (by omega)] | rw [fr_F_S_make (by simp only [h2])]
def w_F_S_makeOpen_k1 (o j : Nat) : Bool := (o == 5 && (j == 8)) || (o == 6 && (j == 5)) || w_F_S_Watch_setAlarmIfOff o j || w_F_S_Watch_measure o j
theorem fr_F_S_makeOpen_k1 {o j : Nat} (h : w_F_S_makeOpen_k1 o j = false) (g1 : se_G) : (F_S_makeOpen_k1 g1) o j = g1 o j := by
  unfold F_S_makeOpen_k1
  have h2 := h
  simp only [w_F_S_makeOpen_k1, Bool.or_eq_false_iff, Bool.and_eq_false_iff, beq_eq_false_iff_ne, ne_eq] at h2
  repeat' split
  all_goals repeat first | (with_reducible rfl) | rw [se_u_ne (by omega)] | rw [fr_F_S_Watch_setAlarmIfOff (by simp only [h2])] | rw [fr_F_S_Watch_measure (by simp only [h2])]
def w_F_S_makeOpen (o j : Nat) : Bool := (o == 6 && (j == 4)) || w_F_S_makeOpen_k1 o j || w_F_S_make o j
theorem fr_F_S_makeOpen {o j : Nat} (h : w_F_S_makeOpen o j = false) (g : se_G) : (F_S_makeOpen g) o j = g o j := by
  unfold F_S_makeOpen
  have h2 := h
  simp only [w_F_S_makeOpen, Bool.or_eq_false_iff, Bool.and_eq_false_iff, beq_eq_false_iff_ne, ne_eq] at h2
  repeat' split
  all_goals repeat first | (with_reducible rfl) | rw [se_u_ne (by omega)] | rw [fr_F_S_makeOpen_k1 (by simp only [h2])] | rw [fr_F_S_make (by simp only [h2])]
def w_F_S_makeReset_k1 (o j : Nat) : Bool := (o == 6 && (j == 8)) || (o == 9 && (j == 1))
theorem fr_F_S_makeReset_k1 {o j : Nat} (h : w_F_S_makeReset_k1 o j = false) (g1 : se_G) : (F_S_makeReset_k1 g1) o j = g1 o j := by
  unfold F_S_makeReset_k1
  have h2 := h
  simp only [w_F_S_makeReset_k1, Bool.or_eq_false_iff, Bool.and_eq_false_iff, beq_eq_false_iff_ne, ne_eq] at h2
  repeat' split
  all_goals repeat first | (with_reducible rfl) | rw [se_u_ne (by omega)]
def w_F_S_makeReset (o j : Nat) : Bool := (o == 6 && (j == 0)) || w_F_S_makeReset_k1 o j || w_F_S_Segment_headIs_9 o j
theorem fr_F_S_makeReset {o j : Nat} (h : w_F_S_makeReset o j = false) (g : se_G) : (F_S_makeReset g) o j = g o j := by
  unfold F_S_makeReset
  have h2 := h
  simp only [w_F_S_makeReset, Bool.or_eq_false_iff, Bool.and_eq_false_iff, beq_eq_false_iff_ne, ne_eq] at h2
  repeat' split
  all_goals repeat first | (with_reducible rfl) | rw [se_u_ne (by omega)] | rw [fr_F_S_makeReset_k1 (by simp only [h2])] | rw [fr_F_S_Segment_headIs_9 (by simp only [h2])]
def w_F_S_next_j89 (o j : Nat) : Bool := (o == 0 && (j == 8)) || w_F_S_make o j || w_F_S_makeProbe o j
theorem fr_F_S_next_j89 {o j : Nat} (h : w_F_S_next_j89 o j = false) (gj89 : se_G) : (F_S_next_j89 gj89).2 o j = gj89 o j := by
  unfold F_S_next_j89
  have h2 := h
  simp only [w_F_S_next_j89, Bool.or_eq_false_iff, Bool.and_eq_false_iff, beq_eq_false_iff_ne, ne_eq] at h2
  repeat' split
  all_goals repeat first | (with_reducible rfl) | rw [se_u_ne (by omega)] | rw [fr_F_S_make (by simp only [h2])] | rw [fr_F_S_makeProbe (by simp only [h2])] | dsimp only
def w_F_S_next (o j : Nat) : Bool := (o == 0 && (j == 8)) || w_F_S_next_j89 o j || w_F_S_makeNew o j || w_F_S_makeAgain o j || w_F_S_makeOpen o j || w_F_S_makeReset o j
theorem fr_F_S_next {o j : Nat} (h : w_F_S_next o j = false) (g : se_G) : (F_S_next g).2 o j = g o j := by
  unfold F_S_next
  have h2 := h
  simp only [w_F_S_next, Bool.or_eq_false_iff, Bool.and_eq_false_iff, beq_eq_false_iff_ne, ne_eq] at h2
  repeat' split
  all_goals repeat first | (with_reducible rfl) | rw [se_u_ne (by omega)] | rw [fr_F_S_next_j89 (by simp only [h2])] | rw [fr_F_S_makeNew (by simp only [h2])] | rw [fr_F_S_makeAgain (by simp only [h2])] | rw [fr_F_S_makeOpen (by simp only [h2])] | rw [fr_F_S_makeReset (by simp only [h2])] | dsimp only
theorem st_F_S_segment (g : se_G) (p1 : Int32) : (F_S_segment g p1).2.2 = g := by
  unfold F_S_segment
  repeat' first | rfl | refine se_ite22 ?_ ?_
def w_F_S_segment (_ _ : Nat) : Bool := false
theorem fr_F_S_segment {o j : Nat} (_ : w_F_S_segment o j = false) (g : se_G) (p1 : Int32) : (F_S_segment g p1).2.2 o j = g o j := by rw [st_F_S_segment]
theorem st_F_S_byteAt (g : se_G) (p1 : Int32) : (F_S_byteAt g p1).2.2 = g := by
  unfold F_S_byteAt
  repeat' first | rfl | refine se_ite22 ?_ ?_
def w_F_S_byteAt (_ _ : Nat) : Bool := false
theorem fr_F_S_byteAt {o j : Nat} (_ : w_F_S_byteAt o j = false) (g : se_G) (p1 : Int32) : (F_S_byteAt g p1).2.2 o j = g o j := by rw [st_F_S_byteAt]
def w_F_S_Segment_append_7 (o j : Nat) : Bool := (o == 7 && (j == 1)) || o == 8
theorem fr_F_S_Segment_append_7 {o j : Nat} (h : w_F_S_Segment_append_7 o j = false) (g : se_G) (p1 : Int32) : (F_S_Segment_append_7 g p1) o j = g o j := by
  unfold F_S_Segment_append_7
  have h2 := h
  simp only [w_F_S_Segment_append_7, Bool.or_eq_false_iff, Bool.and_eq_false_iff, beq_eq_false_iff_ne, ne_eq] at h2
  repeat' split
  all_goals repeat first | (with_reducible rfl) | rw [se_u_ne (by omega)]
def w_F_S_feed_j45 (o j : Nat) : Bool := w_F_S_Segment_append_7 o j
theorem fr_F_S_feed_j45 {o j : Nat} (h : w_F_S_feed_j45 o j = false) : ∀ (n : Nat) (gj45 : se_G) (v1_45 : Int64) (v3_45 : Int32) (v4_45 : Int32), (F_S_feed_j45 n gj45 v1_45 v3_45 v4_45).2.2 o j = gj45 o j := by
  intro n
  induction n with
  | zero => intro gj45 v1_45 v3_45 v4_45; rfl
  | succ n ih =>
    intro gj45 v1_45 v3_45 v4_45
    rw [F_S_feed_j45]
    have h2 := h
    simp only [w_F_S_feed_j45, Bool.or_eq_false_iff, Bool.and_eq_false_iff, beq_eq_false_iff_ne, ne_eq] at h2
    repeat' split
    all_goals repeat first | (with_reducible rfl) | rw [fr_F_S_Segment_append_7 (by simp only [h2])] | rw [ih] | dsimp only
def w_F_S_feed (o j : Nat) : Bool := w_F_S_feed_j45 o j
theorem fr_F_S_feed {o j : Nat} (h : w_F_S_feed o j = false) (g : se_G) (p1 : Int64) (p3 : Int32) : (F_S_feed g p1 p3).2.2 o j = g o j := by
  unfold F_S_feed
  have h2 := h
  simp only [w_F_S_feed, Bool.or_eq_false_iff, Bool.and_eq_false_iff, beq_eq_false_iff_ne, ne_eq] at h2
  repeat' split
  all_goals repeat first | (with_reducible rfl) | rw [fr_F_S_feed_j45 (by simp only [h2])] | dsimp only
def w_F_S_Segment_headIs_7 (o j : Nat) : Bool := (o == 7 && (j == 2 || j == 3 || j == 4 || j == 5 || j == 6))
theorem fr_F_S_Segment_headIs_7 {o j : Nat} (h : w_F_S_Segment_headIs_7 o j = false) (g : se_G) (p1 : Int32) (p2 : Int32) (p3 : Int32) (p4 : Int32) (p5 : Int32) : (F_S_Segment_headIs_7 g p1 p2 p3 p4 p5) o j = g o j := by
  unfold F_S_Segment_headIs_7
  have h2 := h
  simp only [w_F_S_Segment_headIs_7, Bool.or_eq_false_iff, Bool.and_eq_false_iff, beq_eq_false_iff_ne, ne_eq] at h2
  repeat' split
  all_goals repeat first | (with_reducible rfl) | rw [se_u_ne (by omega)]
def w_F_S_takeWindow_j119 (o j : Nat) : Bool := (o == 5 && (j == 3))
theorem fr_F_S_takeWindow_j119 {o j : Nat} (h : w_F_S_takeWindow_j119 o j = false) (gj119 : se_G) (v1_119 : Int32) : (F_S_takeWindow_j119 gj119 v1_119) o j = gj119 o j := by
  unfold F_S_takeWindow_j119
  have h2 := h
  simp only [w_F_S_takeWindow_j119, Bool.or_eq_false_iff, Bool.and_eq_false_iff, beq_eq_false_iff_ne, ne_eq] at h2
  repeat' split
  all_goals repeat first | (with_reducible rfl) | rw [se_u_ne (by omega)]
def w_F_S_takeWindow_k1 (o j : Nat) : Bool := (o == 5 && (j == 1)) || (o == 6 && (j == 7)) || w_F_S_takeWindow_j119 o j
theorem fr_F_S_takeWindow_k1 {o j : Nat} (h : w_F_S_takeWindow_k1 o j = false) (g : se_G) (g1 : se_G) : (F_S_takeWindow_k1 g g1) o j = g1 o j := by
  unfold F_S_takeWindow_k1
  have h2 := h
  simp only [w_F_S_takeWindow_k1, Bool.or_eq_false_iff, Bool.and_eq_false_iff, beq_eq_false_iff_ne, ne_eq] at h2
  repeat' split
  all_goals repeat first | (with_reducible rfl) | rw [se_u_ne (by omega)] | rw [fr_F_S_takeWindow_j119 (by simp only [h2])]
def w_F_S_takeWindow (o j : Nat) : Bool := w_F_S_takeWindow_k1 o j || w_F_S_Outgoing_windowIs o j
theorem fr_F_S_takeWindow {o j : Nat} (h : w_F_S_takeWindow o j = false) (g : se_G) : (F_S_takeWindow g) o j = g o j := by
  unfold F_S_takeWindow
  have h2 := h
  simp only [w_F_S_takeWindow, Bool.or_eq_false_iff, Bool.and_eq_false_iff, beq_eq_false_iff_ne, ne_eq] at h2
  repeat' split
  all_goals repeat first | (with_reducible rfl) | rw [fr_F_S_takeWindow_k1 (by simp only [h2])] | rw [fr_F_S_Outgoing_windowIs (by simp only [h2])]
def w_F_S_Incoming_store_j35 (o j : Nat) : Bool := o == 4
theorem fr_F_S_Incoming_store_j35 {o j : Nat} (h : w_F_S_Incoming_store_j35 o j = false) : ∀ (n : Nat) (gj35 : se_G) (v4_35 : Int32) (v5_35 : Int32), (F_S_Incoming_store_j35 n gj35 v4_35 v5_35) o j = gj35 o j := by
  intro n
  induction n with
  | zero => intro gj35 v4_35 v5_35; rfl
  | succ n ih =>
    intro gj35 v4_35 v5_35
    rw [F_S_Incoming_store_j35]
    have h2 := h
    simp only [w_F_S_Incoming_store_j35, Bool.or_eq_false_iff, Bool.and_eq_false_iff, beq_eq_false_iff_ne, ne_eq] at h2
    repeat' split
    all_goals repeat first | (with_reducible rfl) | rw [se_u_ne (by omega)] | rw [ih]
def w_F_S_Incoming_store (o j : Nat) : Bool := w_F_S_Incoming_store_j35 o j
theorem fr_F_S_Incoming_store {o j : Nat} (h : w_F_S_Incoming_store o j = false) (g : se_G) : (F_S_Incoming_store g) o j = g o j := by
  unfold F_S_Incoming_store
  have h2 := h
  simp only [w_F_S_Incoming_store, Bool.or_eq_false_iff, Bool.and_eq_false_iff, beq_eq_false_iff_ne, ne_eq] at h2
  repeat' split
  all_goals repeat first | (with_reducible rfl) | rw [fr_F_S_Incoming_store_j35 (by simp only [h2])]
def w_F_S_Incoming_goOn_j57 (o j : Nat) : Bool := (o == 3 && (j == 2 || j == 7))
theorem fr_F_S_Incoming_goOn_j57 {o j : Nat} (h : w_F_S_Incoming_goOn_j57 o j = false) (gj57 : se_G) : (F_S_Incoming_goOn_j57 gj57) o j = gj57 o j := by
  unfold F_S_Incoming_goOn_j57
  have h2 := h
  simp only [w_F_S_Incoming_goOn_j57, Bool.or_eq_false_iff, Bool.and_eq_false_iff, beq_eq_false_iff_ne, ne_eq] at h2
  repeat' split
  all_goals repeat first | (with_reducible rfl) | rw [se_u_ne (by omega)]
def w_F_S_Incoming_goOn_j0 (o j : Nat) : Bool := (o == 3 && (j == 2 || j == 3)) || w_F_S_Incoming_goOn_j57 o j
theorem fr_F_S_Incoming_goOn_j0 {o j : Nat} (h : w_F_S_Incoming_goOn_j0 o j = false) : ∀ (n : Nat) (gj0 : se_G), (F_S_Incoming_goOn_j0 n gj0) o j = gj0 o j := by
  intro n
  induction n with
  | zero => intro gj0; rfl
  | succ n ih =>
    intro gj0
    rw [F_S_Incoming_goOn_j0]
    have h2 := h
    simp only [w_F_S_Incoming_goOn_j0, Bool.or_eq_false_iff, Bool.and_eq_false_iff, beq_eq_false_iff_ne, ne_eq] at h2
    repeat' split
    all_goals repeat first | (with_reducible rfl) | rw [se_u_ne (by omega)] | rw [fr_F_S_Incoming_goOn_j57 (by simp only [h2])] | rw [ih]
def w_F_S_Incoming_goOn (o j : Nat) : Bool := w_F_S_Incoming_goOn_j0 o j
theorem fr_F_S_Incoming_goOn {o j : Nat} (h : w_F_S_Incoming_goOn o j = false) (g : se_G) : (F_S_Incoming_goOn g) o j = g o j := by
  unfold F_S_Incoming_goOn
  have h2 := h
  simp only [w_F_S_Incoming_goOn, Bool.or_eq_false_iff, Bool.and_eq_false_iff, beq_eq_false_iff_ne, ne_eq] at h2
  repeat' split
  all_goals repeat first | (with_reducible rfl) | rw [fr_F_S_Incoming_goOn_j0 (by simp only [h2])]
def w_F_S_peerLeaves (o j : Nat) : Bool := (o == 0 && (j == 9)) || w_F_S_halt o j
theorem fr_F_S_peerLeaves {o j : Nat} (h : w_F_S_peerLeaves o j = false) (g : se_G) : (F_S_peerLeaves g) o j = g o j := by
  unfold F_S_peerLeaves
  have h2 := h
  simp only [w_F_S_peerLeaves, Bool.or_eq_false_iff, Bool.and_eq_false_iff, beq_eq_false_iff_ne, ne_eq] at h2
  repeat' split
  all_goals repeat first | (with_reducible rfl) | rw [se_u_ne (by omega)] | rw [fr_F_S_halt (by simp only [h2])]
def w_F_S_Incoming_noteLast (o j : Nat) : Bool := (o == 3 && (j == 5 || j == 6))
theorem fr_F_S_Incoming_noteLast {o j : Nat} (h : w_F_S_Incoming_noteLast o j = false) (g : se_G) (p1 : Int32) : (F_S_Incoming_noteLast g p1) o j = g o j := by
  unfold F_S_Incoming_noteLast
  have h2 := h
  simp only [w_F_S_Incoming_noteLast, Bool.or_eq_false_iff, Bool.and_eq_false_iff, beq_eq_false_iff_ne, ne_eq] at h2
  repeat' split
  all_goals repeat first | (with_reducible rfl) | rw [se_u_ne (by omega)]
def w_F_S_takeBytes_j74 (o j : Nat) : Bool := (o == 6 && (j == 8))
theorem fr_F_S_takeBytes_j74 {o j : Nat} (h : w_F_S_takeBytes_j74 o j = false) (gj74 : se_G) (v1_74 : Int32) : (F_S_takeBytes_j74 gj74 v1_74) o j = gj74 o j := by
  unfold F_S_takeBytes_j74
  have h2 := h
  simp only [w_F_S_takeBytes_j74, Bool.or_eq_false_iff, Bool.and_eq_false_iff, beq_eq_false_iff_ne, ne_eq] at h2
  repeat' split
  all_goals repeat first | (with_reducible rfl) | rw [se_u_ne (by omega)]
def w_F_S_takeBytes_k1 (o j : Nat) : Bool := w_F_S_takeBytes_j74 o j || w_F_S_peerLeaves o j
theorem fr_F_S_takeBytes_k1 {o j : Nat} (h : w_F_S_takeBytes_k1 o j = false) (g2 : se_G) (v1_53 : Int32) : (F_S_takeBytes_k1 g2 v1_53) o j = g2 o j := by
  unfold F_S_takeBytes_k1
  have h2 := h
  simp only [w_F_S_takeBytes_k1, Bool.or_eq_false_iff, Bool.and_eq_false_iff, beq_eq_false_iff_ne, ne_eq] at h2
  repeat' split
  all_goals repeat first | (with_reducible rfl) | rw [fr_F_S_takeBytes_j74 (by simp only [h2])] | rw [fr_F_S_peerLeaves (by simp only [h2])]
def w_F_S_takeBytes_j53 (o j : Nat) : Bool := w_F_S_takeBytes_k1 o j || w_F_S_Incoming_goOn o j
theorem fr_F_S_takeBytes_j53 {o j : Nat} (h : w_F_S_takeBytes_j53 o j = false) (gj53 : se_G) (v1_53 : Int32) : (F_S_takeBytes_j53 gj53 v1_53) o j = gj53 o j := by
  unfold F_S_takeBytes_j53
  have h2 := h
  simp only [w_F_S_takeBytes_j53, Bool.or_eq_false_iff, Bool.and_eq_false_iff, beq_eq_false_iff_ne, ne_eq] at h2
  repeat' split
  all_goals repeat first | (with_reducible rfl) | rw [fr_F_S_takeBytes_k1 (by simp only [h2])] | rw [fr_F_S_Incoming_goOn (by simp only [h2])]
def w_F_S_takeBytes_k2 (o j : Nat) : Bool := w_F_S_takeBytes_j53 o j || w_F_S_Incoming_noteLast o j
theorem fr_F_S_takeBytes_k2 {o j : Nat} (h : w_F_S_takeBytes_k2 o j = false) (g : se_G) (g1 : se_G) : (F_S_takeBytes_k2 g g1) o j = g1 o j := by
  unfold F_S_takeBytes_k2
  have h2 := h
  simp only [w_F_S_takeBytes_k2, Bool.or_eq_false_iff, Bool.and_eq_false_iff, beq_eq_false_iff_ne, ne_eq] at h2
  repeat' split
  all_goals repeat first | (with_reducible rfl) | rw [fr_F_S_takeBytes_j53 (by simp only [h2])] | rw [fr_F_S_Incoming_noteLast (by simp only [h2])]
def w_F_S_takeBytes (o j : Nat) : Bool := w_F_S_takeBytes_j74 o j || w_F_S_takeBytes_k2 o j || w_F_S_Incoming_store o j
theorem fr_F_S_takeBytes {o j : Nat} (h : w_F_S_takeBytes o j = false) (g : se_G) : (F_S_takeBytes g) o j = g o j := by
  unfold F_S_takeBytes
  have h2 := h
  simp only [w_F_S_takeBytes, Bool.or_eq_false_iff, Bool.and_eq_false_iff, beq_eq_false_iff_ne, ne_eq] at h2
  repeat' split
  all_goals repeat first | (with_reducible rfl) | rw [fr_F_S_takeBytes_j74 (by simp only [h2])] | rw [fr_F_S_takeBytes_k2 (by simp only [h2])] | rw [fr_F_S_Incoming_store (by simp only [h2])]
def w_F_S_leave (o j : Nat) : Bool := (o == 0 && (j == 9)) || w_F_S_halt o j
theorem fr_F_S_leave {o j : Nat} (h : w_F_S_leave o j = false) (g : se_G) : (F_S_leave g) o j = g o j := by
  unfold F_S_leave
  have h2 := h
  simp only [w_F_S_leave, Bool.or_eq_false_iff, Bool.and_eq_false_iff, beq_eq_false_iff_ne, ne_eq] at h2
  repeat' split
  all_goals repeat first | (with_reducible rfl) | rw [se_u_ne (by omega)] | rw [fr_F_S_halt (by simp only [h2])]
def w_F_S_Outgoing_thank (o j : Nat) : Bool := (o == 1 && (j == 1 || j == 2 || j == 3 || j == 5))
theorem fr_F_S_Outgoing_thank {o j : Nat} (h : w_F_S_Outgoing_thank o j = false) (g : se_G) (p1 : Int32) : (F_S_Outgoing_thank g p1) o j = g o j := by
  unfold F_S_Outgoing_thank
  have h2 := h
  simp only [w_F_S_Outgoing_thank, Bool.or_eq_false_iff, Bool.and_eq_false_iff, beq_eq_false_iff_ne, ne_eq] at h2
  repeat' split
  all_goals repeat first | (with_reducible rfl) | rw [se_u_ne (by omega)]
def w_F_S_Watch_learn_j70 (o j : Nat) : Bool := (o == 5 && (j == 4))
theorem fr_F_S_Watch_learn_j70 {o j : Nat} (h : w_F_S_Watch_learn_j70 o j = false) (gj70 : se_G) : (F_S_Watch_learn_j70 gj70) o j = gj70 o j := by
  unfold F_S_Watch_learn_j70
  have h2 := h
  simp only [w_F_S_Watch_learn_j70, Bool.or_eq_false_iff, Bool.and_eq_false_iff, beq_eq_false_iff_ne, ne_eq] at h2
  repeat' split
  all_goals repeat first | (with_reducible rfl) | rw [se_u_ne (by omega)]
def w_F_S_Watch_learn (o j : Nat) : Bool := (o == 5 && (j == 5 || j == 6 || j == 7)) || w_F_S_Watch_learn_j70 o j
theorem fr_F_S_Watch_learn {o j : Nat} (h : w_F_S_Watch_learn o j = false) (g : se_G) (p1 : Int32) : (F_S_Watch_learn g p1) o j = g o j := by
  unfold F_S_Watch_learn
  have h2 := h
  simp only [w_F_S_Watch_learn, Bool.or_eq_false_iff, Bool.and_eq_false_iff, beq_eq_false_iff_ne, ne_eq] at h2
  repeat' split
  all_goals repeat first | (with_reducible rfl) | rw [se_u_ne (by omega)] | rw [fr_F_S_Watch_learn_j70 (by simp only [h2])]
def w_F_S_Watch_endMeasure (o j : Nat) : Bool := (o == 5 && (j == 8)) || w_F_S_Watch_learn o j
theorem fr_F_S_Watch_endMeasure {o j : Nat} (h : w_F_S_Watch_endMeasure o j = false) (g : se_G) (p1 : Int32) : (F_S_Watch_endMeasure g p1) o j = g o j := by
  unfold F_S_Watch_endMeasure
  have h2 := h
  simp only [w_F_S_Watch_endMeasure, Bool.or_eq_false_iff, Bool.and_eq_false_iff, beq_eq_false_iff_ne, ne_eq] at h2
  repeat' split
  all_goals repeat first | (with_reducible rfl) | rw [se_u_ne (by omega)] | rw [fr_F_S_Watch_learn (by simp only [h2])]
def w_F_S_takeThanked_k1 (o j : Nat) : Bool := (o == 5 && (j == 1 || j == 3)) || (o == 6 && (j == 6)) || w_F_S_Watch_setAlarm o j
theorem fr_F_S_takeThanked_k1 {o j : Nat} (h : w_F_S_takeThanked_k1 o j = false) (g2 : se_G) : (F_S_takeThanked_k1 g2) o j = g2 o j := by
  unfold F_S_takeThanked_k1
  have h2 := h
  simp only [w_F_S_takeThanked_k1, Bool.or_eq_false_iff, Bool.and_eq_false_iff, beq_eq_false_iff_ne, ne_eq] at h2
  repeat' split
  all_goals repeat first | (with_reducible rfl) | rw [se_u_ne (by omega)] | rw [fr_F_S_Watch_setAlarm (by simp only [h2])]
def w_F_S_takeThanked_k2 (o j : Nat) : Bool := w_F_S_takeThanked_k1 o j || w_F_S_Watch_endMeasure o j
theorem fr_F_S_takeThanked_k2 {o j : Nat} (h : w_F_S_takeThanked_k2 o j = false) (g1 : se_G) : (F_S_takeThanked_k2 g1) o j = g1 o j := by
  unfold F_S_takeThanked_k2
  have h2 := h
  simp only [w_F_S_takeThanked_k2, Bool.or_eq_false_iff, Bool.and_eq_false_iff, beq_eq_false_iff_ne, ne_eq] at h2
  repeat' split
  all_goals repeat first | (with_reducible rfl) | rw [fr_F_S_takeThanked_k1 (by simp only [h2])] | rw [fr_F_S_Watch_endMeasure (by simp only [h2])]
def w_F_S_takeThanked (o j : Nat) : Bool := w_F_S_takeThanked_k2 o j || w_F_S_Outgoing_thank o j
theorem fr_F_S_takeThanked {o j : Nat} (h : w_F_S_takeThanked o j = false) (g : se_G) : (F_S_takeThanked g) o j = g o j := by
  unfold F_S_takeThanked
  have h2 := h
  simp only [w_F_S_takeThanked, Bool.or_eq_false_iff, Bool.and_eq_false_iff, beq_eq_false_iff_ne, ne_eq] at h2
  repeat' split
  all_goals repeat first | (with_reducible rfl) | rw [fr_F_S_takeThanked_k2 (by simp only [h2])] | rw [fr_F_S_Outgoing_thank (by simp only [h2])]
def w_F_S_answerWithReset (o j : Nat) : Bool := w_F_S_Due_resetIs o j
theorem fr_F_S_answerWithReset {o j : Nat} (h : w_F_S_answerWithReset o j = false) (g : se_G) : (F_S_answerWithReset g) o j = g o j := by
  unfold F_S_answerWithReset
  have h2 := h
  simp only [w_F_S_answerWithReset, Bool.or_eq_false_iff, Bool.and_eq_false_iff, beq_eq_false_iff_ne, ne_eq] at h2
  repeat' split
  all_goals repeat first | (with_reducible rfl) | rw [fr_F_S_Due_resetIs (by simp only [h2])]
def w_F_S_takeInStream_k1 (o j : Nat) : Bool := w_F_S_takeBytes o j
theorem fr_F_S_takeInStream_k1 {o j : Nat} (h : w_F_S_takeInStream_k1 o j = false) (g3 : se_G) : (F_S_takeInStream_k1 g3) o j = g3 o j := by
  unfold F_S_takeInStream_k1
  have h2 := h
  simp only [w_F_S_takeInStream_k1, Bool.or_eq_false_iff, Bool.and_eq_false_iff, beq_eq_false_iff_ne, ne_eq] at h2
  repeat' split
  all_goals repeat first | (with_reducible rfl) | rw [fr_F_S_takeBytes (by simp only [h2])]
def w_F_S_takeInStream_k2 (o j : Nat) : Bool := w_F_S_takeBytes o j || w_F_S_takeInStream_k1 o j || w_F_S_leave o j
theorem fr_F_S_takeInStream_k2 {o j : Nat} (h : w_F_S_takeInStream_k2 o j = false) (g1 : se_G) : (F_S_takeInStream_k2 g1) o j = g1 o j := by
  unfold F_S_takeInStream_k2
  have h2 := h
  simp only [w_F_S_takeInStream_k2, Bool.or_eq_false_iff, Bool.and_eq_false_iff, beq_eq_false_iff_ne, ne_eq] at h2
  repeat' split
  all_goals repeat first | (with_reducible rfl) | rw [fr_F_S_takeBytes (by simp only [h2])] | rw [fr_F_S_takeInStream_k1 (by simp only [h2])] | rw [fr_F_S_leave (by simp only [h2])]
def w_F_S_takeInStream_j113 (o j : Nat) : Bool := w_F_S_takeInStream_k2 o j || w_F_S_takeWindow o j
theorem fr_F_S_takeInStream_j113 {o j : Nat} (h : w_F_S_takeInStream_j113 o j = false) (gj113 : se_G) : (F_S_takeInStream_j113 gj113) o j = gj113 o j := by
  unfold F_S_takeInStream_j113
  have h2 := h
  simp only [w_F_S_takeInStream_j113, Bool.or_eq_false_iff, Bool.and_eq_false_iff, beq_eq_false_iff_ne, ne_eq] at h2
  repeat' split
  all_goals repeat first | (with_reducible rfl) | rw [fr_F_S_takeInStream_k2 (by simp only [h2])] | rw [fr_F_S_takeWindow (by simp only [h2])]
def w_F_S_takeInStream_j89 (o j : Nat) : Bool := w_F_S_takeInStream_j113 o j || w_F_S_takeThanked o j
theorem fr_F_S_takeInStream_j89 {o j : Nat} (h : w_F_S_takeInStream_j89 o j = false) (gj89 : se_G) : (F_S_takeInStream_j89 gj89) o j = gj89 o j := by
  unfold F_S_takeInStream_j89
  have h2 := h
  simp only [w_F_S_takeInStream_j89, Bool.or_eq_false_iff, Bool.and_eq_false_iff, beq_eq_false_iff_ne, ne_eq] at h2
  repeat' split
  all_goals repeat first | (with_reducible rfl) | rw [fr_F_S_takeInStream_j113 (by simp only [h2])] | rw [fr_F_S_takeThanked (by simp only [h2])]
def w_F_S_takeInStream (o j : Nat) : Bool := (o == 0 && (j == 9)) || (o == 6 && (j == 4 || j == 8)) || w_F_S_takeInStream_j89 o j || w_F_S_answerWithReset o j
theorem fr_F_S_takeInStream {o j : Nat} (h : w_F_S_takeInStream o j = false) (g : se_G) : (F_S_takeInStream g) o j = g o j := by
  unfold F_S_takeInStream
  have h2 := h
  simp only [w_F_S_takeInStream, Bool.or_eq_false_iff, Bool.and_eq_false_iff, beq_eq_false_iff_ne, ne_eq] at h2
  repeat' split
  all_goals repeat first | (with_reducible rfl) | rw [se_u_ne (by omega)] | rw [fr_F_S_takeInStream_j89 (by simp only [h2])] | rw [fr_F_S_answerWithReset (by simp only [h2])]
def w_F_S_takeReset_j58 (o j : Nat) : Bool := w_F_S_halt o j
theorem fr_F_S_takeReset_j58 {o j : Nat} (h : w_F_S_takeReset_j58 o j = false) (gj58 : se_G) : (F_S_takeReset_j58 gj58) o j = gj58 o j := by
  unfold F_S_takeReset_j58
  have h2 := h
  simp only [w_F_S_takeReset_j58, Bool.or_eq_false_iff, Bool.and_eq_false_iff, beq_eq_false_iff_ne, ne_eq] at h2
  repeat' split
  all_goals repeat first | (with_reducible rfl) | rw [fr_F_S_halt (by simp only [h2])]
def w_F_S_takeReset (o j : Nat) : Bool := (o == 6 && (j == 8)) || w_F_S_takeReset_j58 o j || w_F_S_startStream o j
theorem fr_F_S_takeReset {o j : Nat} (h : w_F_S_takeReset o j = false) (g : se_G) : (F_S_takeReset g) o j = g o j := by
  unfold F_S_takeReset
  have h2 := h
  simp only [w_F_S_takeReset, Bool.or_eq_false_iff, Bool.and_eq_false_iff, beq_eq_false_iff_ne, ne_eq] at h2
  repeat' split
  all_goals repeat first | (with_reducible rfl) | rw [se_u_ne (by omega)] | rw [fr_F_S_takeReset_j58 (by simp only [h2])] | rw [fr_F_S_startStream (by simp only [h2])]
def w_F_S_takeMisfit_j19 (o j : Nat) : Bool := w_F_S_beginQuiet o j
theorem fr_F_S_takeMisfit_j19 {o j : Nat} (h : w_F_S_takeMisfit_j19 o j = false) (gj19 : se_G) : (F_S_takeMisfit_j19 gj19) o j = gj19 o j := by
  unfold F_S_takeMisfit_j19
  have h2 := h
  simp only [w_F_S_takeMisfit_j19, Bool.or_eq_false_iff, Bool.and_eq_false_iff, beq_eq_false_iff_ne, ne_eq] at h2
  repeat' split
  all_goals repeat first | (with_reducible rfl) | rw [fr_F_S_beginQuiet (by simp only [h2])]
def w_F_S_takeMisfit (o j : Nat) : Bool := (o == 6 && (j == 8)) || w_F_S_takeMisfit_j19 o j
theorem fr_F_S_takeMisfit {o j : Nat} (h : w_F_S_takeMisfit o j = false) (g : se_G) : (F_S_takeMisfit g) o j = g o j := by
  unfold F_S_takeMisfit
  have h2 := h
  simp only [w_F_S_takeMisfit, Bool.or_eq_false_iff, Bool.and_eq_false_iff, beq_eq_false_iff_ne, ne_eq] at h2
  repeat' split
  all_goals repeat first | (with_reducible rfl) | rw [se_u_ne (by omega)] | rw [fr_F_S_takeMisfit_j19 (by simp only [h2])]
def w_F_S_Incoming_open (o j : Nat) : Bool := (o == 3 && (j == 1 || j == 2 || j == 4))
theorem fr_F_S_Incoming_open {o j : Nat} (h : w_F_S_Incoming_open o j = false) (g : se_G) (p1 : Int32) : (F_S_Incoming_open g p1) o j = g o j := by
  unfold F_S_Incoming_open
  have h2 := h
  simp only [w_F_S_Incoming_open, Bool.or_eq_false_iff, Bool.and_eq_false_iff, beq_eq_false_iff_ne, ne_eq] at h2
  repeat' split
  all_goals repeat first | (with_reducible rfl) | rw [se_u_ne (by omega)]
def w_F_S_takeOpen_k1 (o j : Nat) : Bool := (o == 1 && (j == 9)) || w_F_S_Outgoing_windowIs o j
theorem fr_F_S_takeOpen_k1 {o j : Nat} (h : w_F_S_takeOpen_k1 o j = false) (g1 : se_G) : (F_S_takeOpen_k1 g1) o j = g1 o j := by
  unfold F_S_takeOpen_k1
  have h2 := h
  simp only [w_F_S_takeOpen_k1, Bool.or_eq_false_iff, Bool.and_eq_false_iff, beq_eq_false_iff_ne, ne_eq] at h2
  repeat' split
  all_goals repeat first | (with_reducible rfl) | rw [se_u_ne (by omega)] | rw [fr_F_S_Outgoing_windowIs (by simp only [h2])]
def w_F_S_takeOpen (o j : Nat) : Bool := w_F_S_takeOpen_k1 o j || w_F_S_Incoming_open o j
theorem fr_F_S_takeOpen {o j : Nat} (h : w_F_S_takeOpen o j = false) (g : se_G) : (F_S_takeOpen g) o j = g o j := by
  unfold F_S_takeOpen
  have h2 := h
  simp only [w_F_S_takeOpen, Bool.or_eq_false_iff, Bool.and_eq_false_iff, beq_eq_false_iff_ne, ne_eq] at h2
  repeat' split
  all_goals repeat first | (with_reducible rfl) | rw [fr_F_S_takeOpen_k1 (by simp only [h2])] | rw [fr_F_S_Incoming_open (by simp only [h2])]
def w_F_S_takeWhenAsking_k1 (o j : Nat) : Bool := (o == 0 && (j == 9)) || (o == 6 && (j == 4 || j == 8)) || w_F_S_takeThanked o j
theorem fr_F_S_takeWhenAsking_k1 {o j : Nat} (h : w_F_S_takeWhenAsking_k1 o j = false) (v1_38 : Int32) (g1 : se_G) : (F_S_takeWhenAsking_k1 v1_38 g1) o j = g1 o j := by
  unfold F_S_takeWhenAsking_k1
  have h2 := h
  simp only [w_F_S_takeWhenAsking_k1, Bool.or_eq_false_iff, Bool.and_eq_false_iff, beq_eq_false_iff_ne, ne_eq] at h2
  repeat' split
  all_goals repeat first | (with_reducible rfl) | rw [se_u_ne (by omega)] | rw [fr_F_S_takeThanked (by simp only [h2])]
def w_F_S_takeWhenAsking_j38 (o j : Nat) : Bool := w_F_S_takeWhenAsking_k1 o j || w_F_S_takeOpen o j || w_F_S_halt o j
theorem fr_F_S_takeWhenAsking_j38 {o j : Nat} (h : w_F_S_takeWhenAsking_j38 o j = false) (gj38 : se_G) (v1_38 : Int32) : (F_S_takeWhenAsking_j38 gj38 v1_38) o j = gj38 o j := by
  unfold F_S_takeWhenAsking_j38
  have h2 := h
  simp only [w_F_S_takeWhenAsking_j38, Bool.or_eq_false_iff, Bool.and_eq_false_iff, beq_eq_false_iff_ne, ne_eq] at h2
  repeat' split
  all_goals repeat first | (with_reducible rfl) | rw [fr_F_S_takeWhenAsking_k1 (by simp only [h2])] | rw [fr_F_S_takeOpen (by simp only [h2])] | rw [fr_F_S_halt (by simp only [h2])]
def w_F_S_takeWhenAsking (o j : Nat) : Bool := w_F_S_takeWhenAsking_j38 o j || w_F_S_answerWithReset o j
theorem fr_F_S_takeWhenAsking {o j : Nat} (h : w_F_S_takeWhenAsking o j = false) (g : se_G) : (F_S_takeWhenAsking g) o j = g o j := by
  unfold F_S_takeWhenAsking
  have h2 := h
  simp only [w_F_S_takeWhenAsking, Bool.or_eq_false_iff, Bool.and_eq_false_iff, beq_eq_false_iff_ne, ne_eq] at h2
  repeat' split
  all_goals repeat first | (with_reducible rfl) | rw [fr_F_S_takeWhenAsking_j38 (by simp only [h2])] | rw [fr_F_S_answerWithReset (by simp only [h2])]
def w_F_S_takeWhenListening (o j : Nat) : Bool := (o == 0 && (j == 9)) || w_F_S_openIsDue o j || w_F_S_takeOpen o j || w_F_S_answerWithReset o j
theorem fr_F_S_takeWhenListening {o j : Nat} (h : w_F_S_takeWhenListening o j = false) (g : se_G) : (F_S_takeWhenListening g) o j = g o j := by
  unfold F_S_takeWhenListening
  have h2 := h
  simp only [w_F_S_takeWhenListening, Bool.or_eq_false_iff, Bool.and_eq_false_iff, beq_eq_false_iff_ne, ne_eq] at h2
  repeat' split
  all_goals repeat first | (with_reducible rfl) | rw [se_u_ne (by omega)] | rw [fr_F_S_openIsDue (by simp only [h2])] | rw [fr_F_S_takeOpen (by simp only [h2])] | rw [fr_F_S_answerWithReset (by simp only [h2])]
def w_F_S_takeSegment (o j : Nat) : Bool := (o == 6 && (j == 8)) || w_F_S_takeWhenListening o j || w_F_S_takeWhenAsking o j || w_F_S_takeMisfit o j || w_F_S_takeInStream o j || w_F_S_takeReset o j || w_F_S_answerWithReset o j
theorem fr_F_S_takeSegment {o j : Nat} (h : w_F_S_takeSegment o j = false) (g : se_G) : (F_S_takeSegment g) o j = g o j := by
  unfold F_S_takeSegment
  have h2 := h
  simp only [w_F_S_takeSegment, Bool.or_eq_false_iff, Bool.and_eq_false_iff, beq_eq_false_iff_ne, ne_eq] at h2
  repeat' split
  all_goals repeat first | (with_reducible rfl) | rw [se_u_ne (by omega)] | rw [fr_F_S_takeWhenListening (by simp only [h2])] | rw [fr_F_S_takeWhenAsking (by simp only [h2])] | rw [fr_F_S_takeMisfit (by simp only [h2])] | rw [fr_F_S_takeInStream (by simp only [h2])] | rw [fr_F_S_takeReset (by simp only [h2])] | rw [fr_F_S_answerWithReset (by simp only [h2])]
theorem st_F_S_arrive_k1 (g3 : se_G) : (F_S_arrive_k1 g3).2.2 = g3 := by
  unfold F_S_arrive_k1
  repeat' first | rfl | refine se_ite22 ?_ ?_
def w_F_S_arrive_k1 (_ _ : Nat) : Bool := false
theorem fr_F_S_arrive_k1 {o j : Nat} (_ : w_F_S_arrive_k1 o j = false) (g3 : se_G) : (F_S_arrive_k1 g3).2.2 o j = g3 o j := by rw [st_F_S_arrive_k1]
def w_F_S_arrive (o j : Nat) : Bool := (o == 7 && (j == 1)) || w_F_S_arrive_k1 o j || w_F_S_watchClosedWindow o j || w_F_S_takeSegment o j || w_F_S_Segment_headIs_7 o j
theorem fr_F_S_arrive {o j : Nat} (h : w_F_S_arrive o j = false) (g : se_G) (p1 : Int32) (p2 : Int32) (p3 : Int32) (p4 : Int32) (p5 : Int32) : (F_S_arrive g p1 p2 p3 p4 p5).2.2 o j = g o j := by
  unfold F_S_arrive
  have h2 := h
  simp only [w_F_S_arrive, Bool.or_eq_false_iff, Bool.and_eq_false_iff, beq_eq_false_iff_ne, ne_eq] at h2
  repeat' split
  all_goals repeat first | (with_reducible rfl) | rw [se_u_ne (by omega)] | rw [fr_F_S_arrive_k1 (by simp only [h2])] | rw [fr_F_S_watchClosedWindow (by simp only [h2])] | rw [fr_F_S_takeSegment (by simp only [h2])] | rw [fr_F_S_Segment_headIs_7 (by simp only [h2])] | dsimp only
theorem st_F_S_figure (g : se_G) (p1 : Int32) : (F_S_figure g p1).2.2 = g := by
  unfold F_S_figure
  repeat' first | rfl | refine se_ite22 ?_ ?_
def w_F_S_figure (_ _ : Nat) : Bool := false
theorem fr_F_S_figure {o j : Nat} (_ : w_F_S_figure o j = false) (g : se_G) (p1 : Int32) : (F_S_figure g p1).2.2 o j = g o j := by rw [st_F_S_figure]
