/-! written by program (wip/gen) -/
def S_B (g : se_G) (o : Nat) : Prop := ∃ n, g o 1 = Int32.ofNat n ∧ n ≤ 1460
theorem S_B_same {g g' : se_G} {o : Nat} (h : S_B g o) (e : g' o 1 = g o 1) : S_B g' o := by obtain ⟨n, h1, h2⟩ := h; exact ⟨n, by rw [e, h1], h2⟩
theorem S_B_u {g : se_G} {o a b : Nat} {v : Int32} (h : S_B g o) (hn : ¬ o = a) : S_B (se_u g a b v) o := S_B_same h (se_u_ne (fun z => hn z.1))
theorem S_B_append {g : se_G} (h : S_B g 9) (v : Int32) : S_B (F_S_Segment_append_9 g v) 9 := by
  obtain ⟨n, h1, h2⟩ := id h
  unfold F_S_Segment_append_9
  split
  · exact h
  · split
    · exact h
    · rename_i c
      rw [h1, show (1460 : Int32) = Int32.ofNat 1460 from rfl, nn_le (by omega) (by omega)] at c
      exact ⟨n + 1, by rw [se_u_eq, h1, nn_succ], by omega⟩
theorem S_B_copy_loop : ∀ (n : Nat) (g : se_G) (a b c : Int32), S_B g 9 → S_B (F_S_Outgoing_copyTo_j8 n g a b c) 9 := by
  intro n
  induction n with
  | zero => intro g a b c h; exact h
  | succ n ih =>
    intro g a b c h
    rw [F_S_Outgoing_copyTo_j8]
    split
    · exact h
    · exact ih _ _ _ _ (S_B_append h _)
theorem S_B_copy (g : se_G) (a b : Int32) : S_B (F_S_Outgoing_copyTo g a b) 9 := by
  unfold F_S_Outgoing_copyTo
  exact S_B_copy_loop _ _ _ _ _ ⟨0, se_u_eq, by omega⟩
theorem S_B_make (g : se_G) (a b c d : Int32) : S_B (F_S_make g a b c d) 9 := by
  unfold F_S_make F_S_make_k2
  exact S_B_same (S_B_copy _ _ _) (fr_F_S_make_k1 rfl _)
theorem S_B_makeNew (g : se_G) (a b : Int32) : S_B (F_S_makeNew g a b) 9 := by
  unfold F_S_makeNew
  exact S_B_same (S_B_make _ _ _ _ _) (by rw [fr_F_S_makeNew_k1 rfl, fr_F_S_Outgoing_wasSent rfl])
theorem S_B_next (g : se_G) (h : S_B g 9) : S_B (F_S_next g).2 9 := by
  have hj : ∀ g, S_B g 9 → S_B (F_S_next_j89 g).2 9 := by
    intro g h
    unfold F_S_next_j89
    split
    · split
      · exact h
      · dsimp only; exact S_B_u (S_B_make _ _ _ _ _) (by omega)
    · dsimp only; refine S_B_u (g := F_S_makeProbe g) ?_ (by omega)
      unfold F_S_makeProbe
      exact S_B_makeNew _ _ _
  unfold F_S_next
  split
  · split
    · split
      · split
        · exact hj g h
        · split
          · exact hj g h
          · dsimp only; exact S_B_u (S_B_makeNew _ _ _) (by omega)
      · dsimp only; refine S_B_u (g := F_S_makeAgain g) ?_ (by omega)
        unfold F_S_makeAgain
        exact S_B_u (S_B_make _ _ _ _ _) (by omega)
    · dsimp only; refine S_B_u (g := F_S_makeOpen g) ?_ (by omega)
      unfold F_S_makeOpen
      exact S_B_same (S_B_make _ _ _ _ _) (fr_F_S_makeOpen_k1 rfl _)
  · dsimp only; refine S_B_u (g := F_S_makeReset g) ?_ (by omega)
    unfold F_S_makeReset F_S_makeReset_k1
    split
    · exact ⟨0, se_u_eq, by omega⟩
    · exact ⟨0, by rw [se_u_ne (by omega), se_u_eq]; rfl, by omega⟩
theorem S_handful {p : Int32} (h : ¬ F_S_isHandful p = 0) : ∃ n, p = Int32.ofNat n ∧ 1 ≤ n ∧ n ≤ 8 := by
  unfold F_S_isHandful at h
  by_cases h1 : p < 1
  · rw [if_pos h1] at h; exact absurd rfl h
  · rw [if_neg h1] at h
    by_cases h2 : 8 < p
    · rw [if_pos h2] at h; exact absurd rfl h
    · rw [Int32.lt_iff_toInt_lt, show (1 : Int32).toInt = 1 by decide] at h1
      rw [Int32.lt_iff_toInt_lt, show (8 : Int32).toInt = 8 by decide] at h2
      exact ⟨p.toInt.toNat, nn_of (by omega), by omega, by omega⟩
theorem S_B_feed {g : se_G} (h : S_B g 7) (v : Int64) (p : Int32) : S_B (F_S_feed g v p).2.2 7 := by
  obtain ⟨m, h1, h2⟩ := id h
  unfold F_S_feed
  split
  · exact h
  · rename_i c
    obtain ⟨n, rfl, h3, h4⟩ := S_handful c
    split
    · rename_i c2
      have h5 : m + n ≤ 1460 := by
        rw [h1, show (1460 : Int32) = Int32.ofNat 1460 from rfl, nn_sub h2, nn_le (by omega) (by omega)] at c2
        omega
      have hl := S_feed_loop v n (((Int32.ofNat n).toInt - ((0 : Int32)).toInt).toNat + 1) 0 m g (by rw [nn_int (by omega), show ((0 : Int32)).toInt = 0 by decide]; omega) (by omega) h5 h1
      rw [Nat.zero_add] at hl
      obtain ⟨g', e1, e2, -⟩ := hl
      rw [show (0 : Int32) = Int32.ofNat 0 from rfl] at *
      rw [e1]
      exact ⟨m + n, e2, h5⟩
    · exact h
theorem S_B_arrive {g : se_G} (h : S_B g 7) (a b c d e : Int32) : S_B (F_S_arrive g a b c d e).2.2 7 := by
  unfold F_S_arrive F_S_arrive_k1
  split
  · exact h
  · split
    · exact h
    · split
      · exact h
      · split
        · exact h
        · refine ⟨0, ?_, by omega⟩
          dsimp only; rw [fr_F_S_watchClosedWindow rfl, se_u_eq]
          rfl

