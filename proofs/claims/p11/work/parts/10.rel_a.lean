/-! written by program (wip/gen) -/
abbrev rl (j : Nat) (g gm : se_G) : Prop := rk j g gm
theorem rl_big2 (q : Int32) : (((if q < 1 then 536 else if q ≤ 1460 then q else 536) : Int32)).toInt ≤ 1460 := by
  by_cases h1 : q < 1
  · rw [if_pos h1]; decide
  · rw [if_neg h1]
    by_cases h2 : q ≤ 1460
    · rw [if_pos h2]; rw [Int32.le_iff_toInt_le] at h2; exact h2
    · rw [if_neg h2]; decide
theorem rl_init0 (fa : Nat → Int32) (p1 p2 : Int32) : rk 0 (F_S_init fa p1 p2) (F_M_init p1 p2) := by
  have h7 : (F_S_init fa p1 p2) 7 1 = Int32.ofNat 0 := rfl
  have h9 : (F_S_init fa p1 p2) 9 1 = Int32.ofNat 0 := rfl
  have h5 : (F_S_init fa p1 p2) 5 0 = Int32.ofNat 0 := rfl
  have m3 : (F_M_init p1 p2) 0 3 = Int32.ofNat 0 := rfl
  have m45 : (F_M_init p1 p2) 0 45 = Int32.ofNat 0 := rfl
  have m13 : (F_M_init p1 p2) 0 13 = Int32.ofNat 0 := rfl
  have m20 : (F_M_init p1 p2) 0 20 = Int32.ofNat 0 := rfl
  have m49 : (F_M_init p1 p2) 0 49 = 0 := rfl
  have m9 : (F_M_init p1 p2) 0 9 = 0 := rfl
  have m10 : (F_M_init p1 p2) 0 10 = 0 := rfl
  have m14 : (F_M_init p1 p2) 0 14 = 0 := rfl
  have m4 : (F_M_init p1 p2) 0 4 = 0 := rfl
  refine ⟨⟨0, h7, by omega⟩, ⟨0, h9, by omega⟩, ⟨0, h5, m3, by omega⟩, h7.trans m45.symm, ⟨⟨0, m13, by omega⟩, rl_big2 p1, rl_big2 p1, ⟨0, m20, by omega⟩, ⟨0, m45, by omega⟩, by rw [m49]; decide⟩, Or.inr (Or.inr ⟨⟨0, 0, 0, ⟨m13, by omega⟩, ?_, ?_, by omega, by omega⟩, by rw [m4]; decide⟩)⟩
  · rw [m9, m14]; rfl
  · rw [m10, m14]; rfl

theorem rl_71 {j : Nat} {g gm : se_G} (hj : 6 * j + 8 ≤ 3074) (h : rl j g gm) : (g 7 1).toInt ≤ 1460 := rk_71 h
theorem rl_91 {j : Nat} {g gm : se_G} (hj : 6 * j + 8 ≤ 3074) (h : rl j g gm) : (g 9 1).toInt ≤ 1460 := rk_91 h
theorem rl_skip {j : Nat} {g gm : se_G} (hj : 6 * j + 8 ≤ 3074) (h : rl j g gm) : rl (j + 1) g gm := rk_skip h
theorem rl_init (p1 p2 : Int32) : rl 0 (F_S_init ((F_A_Arrays_fill (fun _ => fun _ => 0) (-1)) 0) p1 p2) (F_M_init p1 p2) := rl_init0 _ p1 p2
theorem rlm_write {j : Nat} {g gm : se_G} (hj : 6 * j + 8 ≤ 3074) (h : rl j g gm) : 0 ≤ (gm 0 13).toInt := rk_mwrite h
theorem rlm_feed {j : Nat} {g gm : se_G} (hj : 6 * j + 8 ≤ 3074) (h : rl j g gm) : 0 ≤ (gm 0 45).toInt ∧ (gm 0 45).toInt ≤ 1460 := rk_mfeed h
theorem rlm_arrive {j : Nat} {g gm : se_G} (hj : 6 * j + 8 ≤ 3074) (h : rl j g gm) : mo_pa gm := M_I_pa h.2.2.2.2
theorem rlm_next {j : Nat} {g gm : se_G} (hj : 6 * j + 8 ≤ 3074) (h : rl j g gm) : mo_nx gm := M_I_nx (by omega) h.2.2.2.2
theorem rlm_byteAt {j : Nat} {g gm : se_G} (hj : 6 * j + 8 ≤ 3074) (h : rl j g gm) : (gm 0 49).toInt ≤ 1460 := h.2.2.2.2.1.2.2.2.2.2
theorem rl_begin {j : Nat} {g gm : se_G} (hj : 6 * j + 8 ≤ 3074) (h : rl j g gm) (p1 : Int32) (p2 : Int32) : rl (j + 1) (F_S_begin g p1 p2).2.2 (F_M_begin gm p1 p2) ∧ True := ⟨rk_begin h p1 p2, trivial⟩
theorem rl_write {j : Nat} {g gm : se_G} (hj : 6 * j + 8 ≤ 3074) (h : rl j g gm) (p1 : Int64) (p3 : Int32) : rl (j + 1) (F_S_write g p1 p3).2.2 (F_M_write gm p1 p3).2 ∧ True := ⟨rk_write h p1 p3, trivial⟩
theorem rl_read {j : Nat} {g gm : se_G} (hj : 6 * j + 8 ≤ 3074) (h : rl j g gm)  : rl (j + 1) (F_S_read g ).2.2 (F_M_read gm ).2 ∧ True := ⟨rk_read h , trivial⟩
theorem rl_close {j : Nat} {g gm : se_G} (hj : 6 * j + 8 ≤ 3074) (h : rl j g gm)  : rl (j + 1) (F_S_close g ).2.2 (F_M_close gm ) ∧ True := ⟨rk_close h , trivial⟩
theorem rl_abort {j : Nat} {g gm : se_G} (hj : 6 * j + 8 ≤ 3074) (h : rl j g gm)  : rl (j + 1) (F_S_abort g ).2.2 (F_M_abort gm ) ∧ True := ⟨rk_abort h , trivial⟩
theorem rl_run {j : Nat} {g gm : se_G} (hj : 6 * j + 8 ≤ 3074) (h : rl j g gm) (p1 : Int32) : rl (j + 1) (F_S_run g p1).2.2 (F_M_run gm p1).2 ∧ True := ⟨(rk_run h p1).1, trivial⟩
theorem rl_next {j : Nat} {g gm : se_G} (hj : 6 * j + 8 ≤ 3074) (h : rl j g gm)  : rl (j + 1) (F_S_next g ).2 (F_M_next gm ).2 ∧ True := ⟨rk_next (by omega) h , trivial⟩
theorem rl_segment {j : Nat} {g gm : se_G} (hj : 6 * j + 8 ≤ 3074) (h : rl j g gm) (p1 : Int32) : rl (j + 1) (F_S_segment g p1).2.2 (F_M_segment gm p1).2 ∧ True := ⟨rk_segment h p1, trivial⟩
theorem rl_byteAt {j : Nat} {g gm : se_G} (hj : 6 * j + 8 ≤ 3074) (h : rl j g gm) (p1 : Int32) : rl (j + 1) (F_S_byteAt g p1).2.2 (F_M_byteAt gm p1).2 ∧ True := ⟨rk_byteAt h p1, trivial⟩
theorem rl_feed {j : Nat} {g gm : se_G} (hj : 6 * j + 8 ≤ 3074) (h : rl j g gm) (p1 : Int64) (p3 : Int32) : rl (j + 1) (F_S_feed g p1 p3).2.2 (F_M_feed gm p1 p3).2 ∧ F_M_thrown (F_M_feed gm p1 p3).2 = ((if (F_S_feed g p1 p3).1 = 0 then 0 else if (F_S_feed g p1 p3).1 = 1 then 1 else 2) : Int32) ∧ ((F_S_feed g p1 p3).1 = 0 → (F_S_feed g p1 p3).2.1 = (F_M_feed gm p1 p3).1) := rk_feed h p1 p3
theorem rl_arrive {j : Nat} {g gm : se_G} (hj : 6 * j + 8 ≤ 3074) (h : rl j g gm) (p1 : Int32) (p2 : Int32) (p3 : Int32) (p4 : Int32) (p5 : Int32) : rl (j + 1) (F_S_arrive g p1 p2 p3 p4 p5).2.2 (F_M_arrive gm p1 p2 p3 p4 p5).2 ∧ True := ⟨rk_arrive (by omega) h p1 p2 p3 p4 p5, trivial⟩
theorem rl_state {j : Nat} {g gm : se_G} (hj : 6 * j + 8 ≤ 3074) (h : rl j g gm)  : rl (j + 1) g (F_M_state gm ).2 ∧ True := ⟨rk_state h , trivial⟩
theorem rl_figure {j : Nat} {g gm : se_G} (hj : 6 * j + 8 ≤ 3074) (h : rl j g gm) (p1 : Int32) : rl (j + 1) (F_S_figure g p1).2.2 (F_M_figure gm p1).2 ∧ True := ⟨rk_figure h p1, trivial⟩
