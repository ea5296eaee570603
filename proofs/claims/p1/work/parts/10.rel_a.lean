/-! written by program (wip/gen) -/
def rl (j : Nat) (g gm : se_G) : Prop := j = 0 → ∃ (fa : Nat → Int32) (q1 q2 : Int32), g = F_S_init fa q1 q2 ∧ gm = F_M_init q1 q2
theorem rl_next1 {j : Nat} {g gm : se_G} : rl (j + 1) g gm := fun h => absurd h (Nat.succ_ne_zero j)
theorem rl_got {j : Nat} {g gm : se_G} (hj : 6 * j + 8 ≤ 8) (h : rl j g gm) : ∃ (fa : Nat → Int32) (q1 q2 : Int32), g = F_S_init fa q1 q2 ∧ gm = F_M_init q1 q2 := h (by omega)
theorem rl_71 {j : Nat} {g gm : se_G} (hj : 6 * j + 8 ≤ 8) (h : rl j g gm) : (g 7 1).toInt ≤ 1460 := by
  obtain ⟨fa, q1, q2, rfl, rfl⟩ := rl_got hj h
  show (0 : Int32).toInt ≤ 1460
  decide
theorem rl_91 {j : Nat} {g gm : se_G} (hj : 6 * j + 8 ≤ 8) (h : rl j g gm) : (g 9 1).toInt ≤ 1460 := by
  obtain ⟨fa, q1, q2, rfl, rfl⟩ := rl_got hj h
  show (0 : Int32).toInt ≤ 1460
  decide
theorem rl_skip {j : Nat} {g gm : se_G} (_ : 6 * j + 8 ≤ 8) (_ : rl j g gm) : rl (j + 1) g gm := rl_next1
theorem rlm_write {j : Nat} {g gm : se_G} (hj : 6 * j + 8 ≤ 8) (h : rl j g gm) : 0 ≤ (gm 0 13).toInt := by
  obtain ⟨fa, q1, q2, rfl, rfl⟩ := rl_got hj h
  show 0 ≤ (0 : Int32).toInt
  decide
theorem rlm_feed {j : Nat} {g gm : se_G} (hj : 6 * j + 8 ≤ 8) (h : rl j g gm) : 0 ≤ (gm 0 45).toInt ∧ (gm 0 45).toInt ≤ 1460 := by
  obtain ⟨fa, q1, q2, rfl, rfl⟩ := rl_got hj h
  show 0 ≤ (0 : Int32).toInt ∧ (0 : Int32).toInt ≤ 1460
  decide
theorem rlm_byteAt {j : Nat} {g gm : se_G} (hj : 6 * j + 8 ≤ 8) (h : rl j g gm) : (gm 0 49).toInt ≤ 1460 := by
  obtain ⟨fa, q1, q2, rfl, rfl⟩ := rl_got hj h
  show (0 : Int32).toInt ≤ 1460
  decide
theorem rlm_arrive {j : Nat} {g gm : se_G} (hj : 6 * j + 8 ≤ 8) (h : rl j g gm) : mo_pa gm := by
  obtain ⟨fa, q1, q2, rfl, rfl⟩ := rl_got hj h
  show (0 ≤ (0 : Int32).toInt ∧ (0 : Int32).toInt ≤ 2048) ∧ 0 ≤ (0 : Int32).toInt ∧ (0 : Int32).toInt ≤ 2048 ∧ (0 : Int32).toInt ≤ 1460
  decide
theorem rl_big (q : Int32) : ((if q < 1 then 536 else if 1460 < q then 536 else q) : Int32) = ((if q < 1 then 536 else if q ≤ 1460 then q else 536) : Int32) := by
  by_cases h1 : q < 1
  · rw [if_pos h1, if_pos h1]
  · rw [if_neg h1, if_neg h1]
    by_cases h2 : q ≤ 1460
    · rw [if_pos h2, if_neg (by rw [Int32.lt_iff_toInt_lt]; rw [Int32.le_iff_toInt_le] at h2; omega)]
    · rw [if_neg h2, if_pos (by rw [Int32.lt_iff_toInt_lt]; rw [Int32.le_iff_toInt_le] at h2; omega)]
theorem rl_big2 (q : Int32) : (((if q < 1 then 536 else if q ≤ 1460 then q else 536) : Int32)).toInt ≤ 1460 := by
  by_cases h1 : q < 1
  · rw [if_pos h1]; decide
  · rw [if_neg h1]
    by_cases h2 : q ≤ 1460
    · rw [if_pos h2]; rw [Int32.le_iff_toInt_le] at h2; exact h2
    · rw [if_neg h2]; decide
theorem rlm_next {j : Nat} {g gm : se_G} (hj : 6 * j + 8 ≤ 8) (h : rl j g gm) : mo_nx gm := by
  obtain ⟨fa, q1, q2, rfl, rfl⟩ := rl_got hj h
  exact ⟨⟨rl_big2 q1, show 0 ≤ (0 : Int32).toInt by decide, show (0 : Int32).toInt ≤ 2048 by decide, Or.inl rfl⟩, Or.inl rfl⟩
theorem rl_begin {j : Nat} {g gm : se_G} (hj : 6 * j + 8 ≤ 8) (h : rl j g gm) (p1 : Int32) (p2 : Int32) : rl (j + 1) (F_S_begin g p1 p2).2.2 (F_M_begin gm p1 p2) ∧ F_M_thrown (F_M_begin gm p1 p2) = ((if (F_S_begin g p1 p2).1 = 0 then 0 else if (F_S_begin g p1 p2).1 = 2 then 1 else 2) : Int32) := by
  obtain ⟨fa, q1, q2, rfl, rfl⟩ := rl_got hj h
  refine ⟨rl_next1, ?_⟩
  have e1 : (F_S_begin (F_S_init fa q1 q2) p1 p2).1 = 0 := rfl
  rw [e1, if_pos rfl]
  show (F_M_begin_k1 p2 (F_M_clear (se_u (F_M_init q1 q2) 0 2 0) p1)) 0 2 = 0
  rw [fr_F_M_begin_k1 (o := 0) (j := 2) rfl, fr_F_M_clear (o := 0) (j := 2) rfl]
  rfl
theorem rl_write {j : Nat} {g gm : se_G} (hj : 6 * j + 8 ≤ 8) (h : rl j g gm) (p1 : Int64) (p3 : Int32) : rl (j + 1) (F_S_write g p1 p3).2.2 (F_M_write gm p1 p3).2 ∧ F_M_thrown (F_M_write gm p1 p3).2 = ((if (F_S_write g p1 p3).1 = 0 then 0 else if (F_S_write g p1 p3).1 = 1 then 1 else 2) : Int32) ∧ ((F_S_write g p1 p3).1 = 0 → (F_S_write g p1 p3).2.1 = (F_M_write gm p1 p3).1) := by
  obtain ⟨fa, q1, q2, rfl, rfl⟩ := rl_got hj h
  refine ⟨rl_next1, ?_⟩
  by_cases c1 : p3 < 1
  · have e1 : F_S_write (F_S_init fa q1 q2) p1 p3 = (1, 0, F_S_init fa q1 q2) := by rw [F_S_write, F_S_isHandful, if_pos c1, if_pos rfl]
    have e2 : F_M_write (F_M_init q1 q2) p1 p3 = (0, se_u (F_M_init q1 q2) 0 2 1) := by rw [F_M_write, if_pos c1]; rfl
    rw [e1, e2]
    exact ⟨rfl, fun z => absurd z (show ¬ (1 : Int32) = 0 by decide)⟩
  · by_cases c2 : p3 ≤ 8
    · have e1 : F_S_write (F_S_init fa q1 q2) p1 p3 = (2, 0, F_S_init fa q1 q2) := by
        rw [F_S_write, F_S_isHandful, if_neg c1, if_neg (show ¬ (8 : Int32) < p3 by rw [Int32.lt_iff_toInt_lt]; rw [Int32.le_iff_toInt_le] at c2; omega)]; rfl
      have e2 : F_M_write (F_M_init q1 q2) p1 p3 = (0, se_u (F_M_init q1 q2) 0 2 2) := by rw [F_M_write, if_neg c1, if_pos c2]; rfl
      rw [e1, e2]
      exact ⟨rfl, fun z => absurd z (show ¬ (2 : Int32) = 0 by decide)⟩
    · have e1 : F_S_write (F_S_init fa q1 q2) p1 p3 = (1, 0, F_S_init fa q1 q2) := by
        rw [F_S_write, F_S_isHandful, if_neg c1, if_pos (show (8 : Int32) < p3 by rw [Int32.lt_iff_toInt_lt]; rw [Int32.le_iff_toInt_le] at c2; omega)]; rfl
      have e2 : F_M_write (F_M_init q1 q2) p1 p3 = (0, se_u (F_M_init q1 q2) 0 2 1) := by rw [F_M_write, if_neg c1, if_neg c2]; rfl
      rw [e1, e2]
      exact ⟨rfl, fun z => absurd z (show ¬ (1 : Int32) = 0 by decide)⟩
theorem rl_read {j : Nat} {g gm : se_G} (hj : 6 * j + 8 ≤ 8) (h : rl j g gm) : rl (j + 1) (F_S_read g).2.2 (F_M_read gm).2 ∧ F_M_thrown (F_M_read gm).2 = ((if (F_S_read g).1 = 0 then 0 else if (F_S_read g).1 = 2 then 1 else 2) : Int32) ∧ ((F_S_read g).1 = 0 → (F_S_read g).2.1 = (F_M_read gm).1) := by
  obtain ⟨fa, q1, q2, rfl, rfl⟩ := rl_got hj h
  refine ⟨rl_next1, ?_⟩
  have e1 : F_S_read (F_S_init fa q1 q2) = (2, 0, F_S_init fa q1 q2) := rfl
  have e2 : F_M_read (F_M_init q1 q2) = (0, se_u (se_u (F_M_init q1 q2) 0 2 0) 0 2 1) := rfl
  rw [e1, e2]
  exact ⟨rfl, fun z => absurd z (show ¬ (2 : Int32) = 0 by decide)⟩
theorem rl_close {j : Nat} {g gm : se_G} (hj : 6 * j + 8 ≤ 8) (h : rl j g gm) : rl (j + 1) (F_S_close g).2.2 (F_M_close gm) ∧ F_M_thrown (F_M_close gm) = ((if (F_S_close g).1 = 0 then 0 else if (F_S_close g).1 = 2 then 1 else 2) : Int32) := by
  obtain ⟨fa, q1, q2, rfl, rfl⟩ := rl_got hj h
  refine ⟨rl_next1, ?_⟩
  have e1 : F_S_close (F_S_init fa q1 q2) = (2, 0, F_S_init fa q1 q2) := rfl
  have e2 : F_M_close (F_M_init q1 q2) = se_u (F_M_init q1 q2) 0 2 1 := rfl
  rw [e1, e2]
  rfl
theorem rl_abort {j : Nat} {g gm : se_G} (hj : 6 * j + 8 ≤ 8) (h : rl j g gm) : rl (j + 1) (F_S_abort g).2.2 (F_M_abort gm) ∧ F_M_thrown (F_M_abort gm) = ((if (F_S_abort g).1 = 0 then 0 else if (F_S_abort g).1 = 2 then 1 else 2) : Int32) := by
  obtain ⟨fa, q1, q2, rfl, rfl⟩ := rl_got hj h
  refine ⟨rl_next1, ?_⟩
  have e1 : F_S_abort (F_S_init fa q1 q2) = (2, 0, F_S_init fa q1 q2) := rfl
  have e2 : F_M_abort (F_M_init q1 q2) = se_u (F_M_init q1 q2) 0 2 1 := rfl
  rw [e1, e2]
  rfl
theorem rl_next {j : Nat} {g gm : se_G} (hj : 6 * j + 8 ≤ 8) (h : rl j g gm) : rl (j + 1) (F_S_next g).2 (F_M_next gm).2 ∧ (F_S_next g).1 = (F_M_next gm).1 := by
  obtain ⟨fa, q1, q2, rfl, rfl⟩ := rl_got hj h
  exact ⟨rl_next1, rfl⟩
theorem rl_segment {j : Nat} {g gm : se_G} (hj : 6 * j + 8 ≤ 8) (h : rl j g gm) (p1 : Int32) : rl (j + 1) (F_S_segment g p1).2.2 (F_M_segment gm p1).2 ∧ F_M_thrown (F_M_segment gm p1).2 = ((if (F_S_segment g p1).1 = 0 then 0 else if (F_S_segment g p1).1 = 1 then 1 else 2) : Int32) ∧ ((F_S_segment g p1).1 = 0 → (F_S_segment g p1).2.1 = (F_M_segment gm p1).1) := by
  obtain ⟨fa, q1, q2, rfl, rfl⟩ := rl_got hj h
  refine ⟨rl_next1, ?_⟩
  by_cases c1 : p1 < 0
  · rw [F_S_segment, if_pos c1, F_M_segment, if_pos c1]
    exact ⟨rfl, fun z => absurd z (show ¬ (1 : Int32) = 0 by decide)⟩
  · by_cases c2 : p1 ≤ 5
    · rw [F_S_segment, if_neg c1, if_pos c2, F_M_segment, if_neg c1, if_pos c2]
      exact ⟨rfl, fun z => absurd z (show ¬ (2 : Int32) = 0 by decide)⟩
    · rw [F_S_segment, if_neg c1, if_neg c2, F_M_segment, if_neg c1, if_neg c2]
      exact ⟨rfl, fun z => absurd z (show ¬ (1 : Int32) = 0 by decide)⟩
theorem rl_byteAt {j : Nat} {g gm : se_G} (hj : 6 * j + 8 ≤ 8) (h : rl j g gm) (p1 : Int32) : rl (j + 1) (F_S_byteAt g p1).2.2 (F_M_byteAt gm p1).2 ∧ F_M_thrown (F_M_byteAt gm p1).2 = ((if (F_S_byteAt g p1).1 = 0 then 0 else if (F_S_byteAt g p1).1 = 2 then 1 else 2) : Int32) ∧ ((F_S_byteAt g p1).1 = 0 → (F_S_byteAt g p1).2.1 = (F_M_byteAt gm p1).1) := by
  obtain ⟨fa, q1, q2, rfl, rfl⟩ := rl_got hj h
  refine ⟨rl_next1, ?_⟩
  have e1 : F_S_byteAt (F_S_init fa q1 q2) p1 = (2, 0, F_S_init fa q1 q2) := rfl
  have e2 : F_M_byteAt (F_M_init q1 q2) p1 = (0, se_u (F_M_init q1 q2) 0 2 1) := rfl
  rw [e1, e2]
  exact ⟨rfl, fun z => absurd z (show ¬ (2 : Int32) = 0 by decide)⟩
theorem rl_state {j : Nat} {g gm : se_G} (hj : 6 * j + 8 ≤ 8) (h : rl j g gm) : rl (j + 1) g (F_M_state gm).2 ∧ F_S_state g = (F_M_state gm).1 := by
  obtain ⟨fa, q1, q2, rfl, rfl⟩ := rl_got hj h
  have a : F_S_state (F_S_init fa q1 q2) = 0 := rfl
  have b : (F_M_state (F_M_init q1 q2)).1 = 0 := rfl
  exact ⟨rl_next1, a.trans b.symm⟩
theorem rl_arrive {j : Nat} {g gm : se_G} (hj : 6 * j + 8 ≤ 8) (h : rl j g gm) (p1 : Int32) (p2 : Int32) (p3 : Int32) (p4 : Int32) (p5 : Int32) : rl (j + 1) (F_S_arrive g p1 p2 p3 p4 p5).2.2 (F_M_arrive gm p1 p2 p3 p4 p5).2 ∧ F_M_thrown (F_M_arrive gm p1 p2 p3 p4 p5).2 = ((if (F_S_arrive g p1 p2 p3 p4 p5).1 = 0 then 0 else if (F_S_arrive g p1 p2 p3 p4 p5).1 = 1 then 1 else 2) : Int32) ∧ ((F_S_arrive g p1 p2 p3 p4 p5).1 = 0 → (F_S_arrive g p1 p2 p3 p4 p5).2.1 = (F_M_arrive gm p1 p2 p3 p4 p5).1) := by
  obtain ⟨fa, q1, q2, rfl, rfl⟩ := rl_got hj h
  refine ⟨rl_next1, ?_⟩
  have bad : ∀ {x : Int32 × se_G} {y : Int32 × Int32 × se_G}, x = (0, se_u (F_M_init q1 q2) 0 2 1) → y = (1, 0, F_S_init fa q1 q2) → F_M_thrown x.2 = ((if y.1 = 0 then 0 else if y.1 = 1 then 1 else 2) : Int32) ∧ (y.1 = 0 → y.2.1 = x.1) := by
    intro x y hx hy
    rw [hx, hy]
    exact ⟨rfl, fun z => absurd z (show ¬ (1 : Int32) = 0 by decide)⟩
  by_cases c1 : p1 < 0
  · exact bad (by rw [F_M_arrive, if_pos c1]; rfl) (by rw [F_S_arrive, if_pos c1])
  by_cases c2 : 15 < p1
  · exact bad (by rw [F_M_arrive, if_neg c1, if_pos c2]; rfl) (by rw [F_S_arrive, if_neg c1, if_pos c2])
  by_cases c3 : p4 < 0
  · exact bad (by rw [F_M_arrive, if_neg c1, if_neg c2, if_pos c3]; rfl) (by rw [F_S_arrive, if_neg c1, if_neg c2, F_S_isWidth, if_pos c3, if_pos rfl])
  by_cases c4 : 65535 < p4
  · exact bad (by rw [F_M_arrive, if_neg c1, if_neg c2, if_neg c3, if_pos c4]; rfl) (by rw [F_S_arrive, if_neg c1, if_neg c2, F_S_isWidth, if_neg c3, if_pos c4, if_pos rfl])
  have w4 : F_S_isWidth p4 = 1 := by rw [F_S_isWidth, if_neg c3, if_neg c4]
  by_cases c5 : p5 < 0
  · exact bad (by rw [F_M_arrive, if_neg c1, if_neg c2, if_neg c3, if_neg c4, if_pos c5]; rfl) (by rw [F_S_arrive, if_neg c1, if_neg c2, w4, if_neg (by decide), F_S_isWidth, if_pos c5, if_pos rfl])
  by_cases c6 : 65535 < p5
  · exact bad (by rw [F_M_arrive, if_neg c1, if_neg c2, if_neg c3, if_neg c4, if_neg c5, if_pos c6]; rfl) (by rw [F_S_arrive, if_neg c1, if_neg c2, w4, if_neg (by decide), F_S_isWidth, if_neg c5, if_pos c6, if_pos rfl])
  have w5 : F_S_isWidth p5 = 1 := by rw [F_S_isWidth, if_neg c5, if_neg c6]
  have e1 : F_S_arrive (F_S_init fa q1 q2) p1 p2 p3 p4 p5 = F_S_arrive_k1 (F_S_watchClosedWindow (se_u (F_S_answerWithReset (F_S_Segment_headIs_7 (F_S_init fa q1 q2) p1 p2 p3 p4 p5)) 7 1 0)) := by
    rw [F_S_arrive, if_neg c1, if_neg c2, w4, if_neg (by decide), w5, if_neg (by decide)]; rfl
  have e2 : F_M_arrive (F_M_init q1 q2) p1 p2 p3 p4 p5 = F_M_arrive_k1 (F_M_watch (se_u (F_M_resets (se_u (F_M_init q1 q2) 0 2 0) p1 p2 p3) 0 45 0)) := by
    rw [F_M_arrive, if_neg c1, if_neg c2, if_neg c3, if_neg c4, if_neg c5, if_neg c6]; rfl
  rw [e1, e2]
  have f1 : F_S_watchClosedWindow (se_u (F_S_answerWithReset (F_S_Segment_headIs_7 (F_S_init fa q1 q2) p1 p2 p3 p4 p5)) 7 1 0) 0 9 = 0 := by
    rw [fr_F_S_watchClosedWindow (o := 0) (j := 9) rfl, se_u_ne (by omega), fr_F_S_answerWithReset (o := 0) (j := 9) rfl]; rfl
  have f2 : ∀ (z : Nat), w_F_M_watch 0 z = false → w_F_M_resets 0 z = false → ¬ z = 45 → F_M_watch (se_u (F_M_resets (se_u (F_M_init q1 q2) 0 2 0) p1 p2 p3) 0 45 0) 0 z = se_u (F_M_init q1 q2) 0 2 0 0 z := by
    intro z h1 h2 h3
    rw [fr_F_M_watch h1, se_u_ne (by omega), fr_F_M_resets h2]
  refine ⟨?_, fun _ => ?_⟩
  · unfold F_S_arrive_k1 F_M_arrive_k1 F_M_thrown
    dsimp only
    rw [f2 2 rfl rfl (by decide), if_pos rfl]; rfl
  · unfold F_S_arrive_k1 F_M_arrive_k1
    dsimp only
    rw [f1, f2 4 rfl rfl (by decide)]; rfl
theorem rl_figure {j : Nat} {g gm : se_G} (hj : 6 * j + 8 ≤ 8) (h : rl j g gm) (p1 : Int32) : rl (j + 1) (F_S_figure g p1).2.2 (F_M_figure gm p1).2 ∧ F_M_thrown (F_M_figure gm p1).2 = ((if (F_S_figure g p1).1 = 0 then 0 else if (F_S_figure g p1).1 = 1 then 1 else 2) : Int32) ∧ ((F_S_figure g p1).1 = 0 → (F_S_figure g p1).2.1 = (F_M_figure gm p1).1) := by
  obtain ⟨fa, q1, q2, rfl, rfl⟩ := rl_got hj h
  refine ⟨rl_next1, ?_⟩
  have ok : ∀ {x : Int32 × se_G} {y : Int32 × Int32 × se_G} {v w : Int32} {G H : se_G}, y = (0, v, G) → x = (w, H) → H 0 2 = 0 → v = w → F_M_thrown x.2 = ((if y.1 = 0 then 0 else if y.1 = 1 then 1 else 2) : Int32) ∧ (y.1 = 0 → y.2.1 = x.1) := by
    intro x y v w G H hy hx h0 hv
    rw [hx, hy]
    exact ⟨h0, fun _ => hv⟩
  by_cases c0 : p1 = 0
  · subst c0; exact ok (v := 0) (w := 0) (G := F_S_init fa q1 q2) (H := se_u (F_M_init q1 q2) 0 2 0) rfl rfl rfl rfl
  by_cases c1 : p1 = 1
  · subst c1; exact ok (v := 0) (w := 0) (G := F_S_init fa q1 q2) (H := se_u (F_M_init q1 q2) 0 2 0) rfl rfl rfl rfl
  by_cases c2 : p1 = 2
  · subst c2; exact ok (v := 0) (w := 0) (G := F_S_init fa q1 q2) (H := se_u (F_M_init q1 q2) 0 2 0) rfl rfl rfl rfl
  by_cases c3 : p1 = 3
  · subst c3; exact ok (v := 0) (w := 0) (G := F_S_init fa q1 q2) (H := se_u (F_M_init q1 q2) 0 2 0) rfl rfl rfl rfl
  by_cases c4 : p1 = 4
  · subst c4; exact ok (v := 2048 - 0) (w := 2048 - 0) (G := F_S_init fa q1 q2) (H := se_u (F_M_init q1 q2) 0 2 0) rfl rfl rfl rfl
  by_cases c5 : p1 = 5
  · subst c5; exact ok (v := 60) (w := 60) (G := F_S_init fa q1 q2) (H := se_u (F_M_init q1 q2) 0 2 0) rfl rfl rfl rfl
  by_cases c6 : p1 = 6
  · subst c6; exact ok (v := 0) (w := 0) (G := F_S_init fa q1 q2) (H := se_u (F_M_init q1 q2) 0 2 0) rfl rfl rfl rfl
  by_cases c7 : p1 = 7
  · subst c7; exact ok (v := 0) (w := 0) (G := F_S_init fa q1 q2) (H := se_u (F_M_init q1 q2) 0 2 0) rfl rfl rfl rfl
  by_cases c8 : p1 = 8
  · subst c8; exact ok (v := 0) (w := 0) (G := F_S_init fa q1 q2) (H := se_u (F_M_init q1 q2) 0 2 0) rfl rfl rfl rfl
  by_cases c9 : p1 = 9
  · subst c9; exact ok (v := (if q1 < 1 then 536 else if 1460 < q1 then 536 else q1)) (w := (if q1 < 1 then 536 else if q1 ≤ 1460 then q1 else 536)) (G := F_S_init fa q1 q2) (H := se_u (F_M_init q1 q2) 0 2 0) rfl rfl rfl (rl_big q1)
  by_cases c10 : p1 = 10
  · subst c10; exact ok (v := 0) (w := 0) (G := F_S_init fa q1 q2) (H := se_u (F_M_init q1 q2) 0 2 0) rfl rfl rfl rfl
  by_cases c11 : p1 = 11
  · subst c11; exact ok (v := 0) (w := 0) (G := F_S_init fa q1 q2) (H := se_u (F_M_init q1 q2) 0 2 0) rfl rfl rfl rfl
  by_cases c12 : p1 = 12
  · subst c12; exact ok (v := 0) (w := 0) (G := F_S_init fa q1 q2) (H := se_u (F_M_init q1 q2) 0 2 0) rfl rfl rfl rfl
  have e1 : F_S_figure (F_S_init fa q1 q2) p1 = (1, 0, F_S_init fa q1 q2) := by
    rw [F_S_figure, if_neg c0, if_neg c1, if_neg c2, if_neg c3, if_neg c4, if_neg c5, if_neg c6, if_neg c7, if_neg c8, if_neg c9, if_neg c10, if_neg c11, if_neg c12]
  have e2 : F_M_figure (F_M_init q1 q2) p1 = (0, se_u (F_M_init q1 q2) 0 2 ((if p1 < 0 then 1 else ((if p1 ≤ 12 then 0 else 1) : Int32)) : Int32)) := by
    rw [F_M_figure, if_neg c0, if_neg c1, if_neg c2, if_neg c3, if_neg c4, if_neg c5, if_neg c6, if_neg c7, if_neg c8, if_neg c9, if_neg c10, if_neg c11, if_neg c12]
  rw [e1, e2]
  refine ⟨?_, fun z => absurd z (show ¬ (1 : Int32) = 0 by decide)⟩
  show ((if p1 < 0 then 1 else ((if p1 ≤ 12 then 0 else 1) : Int32)) : Int32) = 1
  by_cases d1 : p1 < 0
  · rw [if_pos d1]
  · rw [if_neg d1, if_neg]
    intro d2
    rw [Int32.le_iff_toInt_le, show (12 : Int32).toInt = 12 by decide] at d2
    have d3 := mo_nlt d1
    have e : ∀ (n : Nat), n < 2 ^ 31 → ¬ p1 = Int32.ofNat n → p1.toInt ≠ n := fun n hn hne he => hne (Int32.toInt_inj.mp (he.trans (nn_int hn).symm))
    have a0 := e 0 (by decide) c0
    have a1 := e 1 (by decide) c1
    have a2 := e 2 (by decide) c2
    have a3 := e 3 (by decide) c3
    have a4 := e 4 (by decide) c4
    have a5 := e 5 (by decide) c5
    have a6 := e 6 (by decide) c6
    have a7 := e 7 (by decide) c7
    have a8 := e 8 (by decide) c8
    have a9 := e 9 (by decide) c9
    have a10 := e 10 (by decide) c10
    have a11 := e 11 (by decide) c11
    have a12 := e 12 (by decide) c12
    omega

