/-! written by program (wip/gen) -/
def S_tick (g : se_G) : se_G := F_S_takeEvents (se_u g 5 0 (g 5 0 + 1))
def S_tickN : Nat → se_G → se_G
  | 0, g => g
  | k + 1, g => S_tick (S_tickN k g)
theorem S_tickN_add (b : Nat) : ∀ (a : Nat) (g : se_G), S_tickN (a + b) g = S_tickN a (S_tickN b g) := by
  intro a
  induction a with
  | zero => intro g; rw [Nat.zero_add]; rfl
  | succ a ih => intro g; rw [show a + 1 + b = a + b + 1 by omega, S_tickN, ih]; rfl
def S_W (g : se_G) (t : Nat) : Prop := g 5 0 = Int32.ofNat t ∧ t ≤ 1000000 ∧ (∃ w, g 5 4 = Int32.ofNat w ∧ 1 ≤ w ∧ w ≤ 1200) ∧ (g 5 1 = 0 ∨ ∃ a, g 5 2 = Int32.ofNat a ∧ t < a ∧ a ≤ 1001200)
theorem S_halt_at (g : se_G) (p : Int32) : F_S_halt g p 0 9 = p := by
  unfold F_S_halt F_S_halt_k1
  split
  · rw [show ∀ g, F_S_beginQuiet g 0 9 = g 0 9 from fun g => fr_F_S_beginQuiet rfl g, fr_F_S_Due_dropStream rfl, se_u_ne (by omega), se_u_eq]
  · rw [se_u_ne (by omega), fr_F_S_Due_dropStream rfl, se_u_ne (by omega), se_u_eq]
theorem S_halt_alarm (g : se_G) (p : Int32) : F_S_halt g p 5 1 = 0 := by
  unfold F_S_halt F_S_halt_k1
  split
  · rw [show ∀ g, F_S_beginQuiet g 5 1 = g 5 1 from fun g => fr_F_S_beginQuiet rfl g, fr_F_S_Due_dropStream rfl, se_u_eq]
  · rw [se_u_ne (by omega), fr_F_S_Due_dropStream rfl, se_u_eq]
theorem S_halt_time (g : se_G) (v : Int32) : se_u (F_S_halt g 0) 5 0 v = F_S_halt (se_u g 5 0 v) 0 := by
  unfold F_S_halt F_S_halt_k1
  rw [if_neg (by decide), if_neg (by decide)]
  unfold F_S_Due_dropStream
  rw [se_u_comm (a := 6) (b := 8) (by omega), se_u_comm (a := 6) (b := 7) (by omega), se_u_comm (a := 6) (b := 6) (by omega), se_u_comm (a := 6) (b := 4) (by omega), se_u_comm (a := 5) (b := 1) (by omega), se_u_comm (a := 0) (b := 9) (by omega)]
theorem S_ev_off {g : se_G} (h : g 5 1 = 0) : F_S_takeEvents g = if g 0 9 = 10 ∧ ¬ g 5 0 < g 0 11 then F_S_halt g 0 else g := by
  have hj : ∀ g', g' 5 1 = 0 → F_S_takeEvents_j28 g' = g' := by
    intro g' h'; unfold F_S_takeEvents_j28; rw [if_pos h']
  unfold F_S_takeEvents
  by_cases h1 : g 0 9 = 10
  · rw [if_pos h1]
    by_cases h2 : g 5 0 < g 0 11
    · rw [if_pos h2, if_neg (fun z => z.2 h2), hj g h]
    · rw [if_neg h2, if_pos ⟨h1, h2⟩, hj _ (S_halt_alarm g 0)]
  · rw [if_neg h1, if_neg (fun z => h1 z.1), hj g h]
theorem S_ev_early {g : se_G} (h : g 5 1 = 0 ∨ g 5 0 < g 5 2) : F_S_takeEvents g = if g 0 9 = 10 ∧ ¬ g 5 0 < g 0 11 then F_S_halt g 0 else g := by
  rcases h with h | h
  · exact S_ev_off h
  · have hj : F_S_takeEvents_j28 g = g := by
      unfold F_S_takeEvents_j28
      split
      · rfl
      · first | rfl | rw [if_pos h]
    have hj2 : F_S_takeEvents_j28 (F_S_halt g 0) = F_S_halt g 0 := by
      unfold F_S_takeEvents_j28; rw [if_pos (S_halt_alarm g 0)]
    unfold F_S_takeEvents
    by_cases h1 : g 0 9 = 10
    · rw [if_pos h1]
      by_cases h2 : g 5 0 < g 0 11
      · rw [if_pos h2, if_neg (fun z => z.2 h2), hj]
      · rw [if_neg h2, if_pos ⟨h1, h2⟩, hj2]
    · rw [if_neg h1, if_neg (fun z => h1 z.1), hj]
theorem S_leap {g : se_G} {t : Nat} (ht : g 5 0 = Int32.ofNat t) : ∀ k, t + k + 1 ≤ 1000000 → (g 5 1 = 0 ∨ ∃ a, g 5 2 = Int32.ofNat a ∧ t + k + 1 ≤ a ∧ a ≤ 1001200) → S_tickN (k + 1) g = F_S_takeEvents (se_u g 5 0 (Int32.ofNat (t + (k + 1)))) := by
  intro k
  induction k with
  | zero => intro _ _; show F_S_takeEvents _ = _; rw [show S_tickN 0 g = g from rfl, ht, nn_succ]
  | succ k ih =>
    intro h1 h2
    rw [S_tickN, ih (by omega) (by rcases h2 with h | ⟨a, e1, e2, e3⟩; exact Or.inl h; exact Or.inr ⟨a, e1, by omega, e3⟩)]
    have q0 : ∀ v, se_u g 5 0 v 5 0 = v := fun v => se_u_eq
    have q1 : ∀ v, se_u g 5 0 v 5 1 = g 5 1 := fun v => se_u_ne (by omega)
    have q2 : ∀ v, se_u g 5 0 v 5 2 = g 5 2 := fun v => se_u_ne (by omega)
    have q9 : ∀ v, se_u g 5 0 v 0 9 = g 0 9 := fun v => se_u_ne (by omega)
    have q11 : ∀ v, se_u g 5 0 v 0 11 = g 0 11 := fun v => se_u_ne (by omega)
    have he : F_S_takeEvents (se_u g 5 0 (Int32.ofNat (t + (k + 1)))) = if g 0 9 = 10 ∧ ¬ Int32.ofNat (t + (k + 1)) < g 0 11 then F_S_halt (se_u g 5 0 (Int32.ofNat (t + (k + 1)))) 0 else se_u g 5 0 (Int32.ofNat (t + (k + 1))) := by
      rw [S_ev_early (g := se_u g 5 0 (Int32.ofNat (t + (k + 1)))) (by rw [q0, q1, q2]; rcases h2 with h | ⟨a, e1, e2, e3⟩; exact Or.inl h; exact Or.inr (by rw [e1, nn_lt (by omega) (by omega)]; omega)), q9, q0, q11]
    rw [he]
    by_cases hc : g 0 9 = 10 ∧ ¬ Int32.ofNat (t + (k + 1)) < g 0 11
    · rw [if_pos hc]
      unfold S_tick
      have hT : F_S_halt (se_u g 5 0 (Int32.ofNat (t + (k + 1)))) 0 5 0 = Int32.ofNat (t + (k + 1)) := by
        rw [fr_F_S_halt rfl, q0]
      rw [hT, nn_succ, S_halt_time, se_u_u]
      have hc2 : g 0 9 = 10 ∧ ¬ Int32.ofNat (t + (k + 1) + 1) < g 0 11 := by
        refine ⟨hc.1, fun z => hc.2 ?_⟩
        rw [Int32.lt_iff_toInt_lt, nn_int (by omega)] at z ⊢
        omega
      rw [S_ev_off (S_halt_alarm _ 0), if_neg (by rw [S_halt_at]; exact fun z => absurd z.1 (by decide))]
      show _ = F_S_takeEvents (se_u g 5 0 (Int32.ofNat (t + (k + 1) + 1)))
      unfold F_S_takeEvents
      rw [q9, q0, q11, if_pos hc2.1, if_neg hc2.2]
      unfold F_S_takeEvents_j28
      rw [if_pos (S_halt_alarm _ 0)]
    · rw [if_neg hc]
      unfold S_tick
      rw [q0, nn_succ, se_u_u]
      rfl
theorem S_halt_W {g : se_G} {t : Nat} {p : Int32} (h : S_W g t) : S_W (F_S_halt g p) t := by
  obtain ⟨h1, h2, ⟨w, h3, h4⟩, -⟩ := h
  exact ⟨by rw [fr_F_S_halt rfl, h1], h2, ⟨w, by rw [fr_F_S_halt rfl, h3], h4⟩, Or.inl (S_halt_alarm g p)⟩
theorem S_setAlarm_W {g : se_G} {t : Nat} (h1 : g 5 0 = Int32.ofNat t) (h2 : t ≤ 1000000) (h3 : ∃ w, g 5 4 = Int32.ofNat w ∧ 1 ≤ w ∧ w ≤ 1200) : S_W (F_S_Watch_setAlarm g) t := by
  obtain ⟨w, h3, h4, h5⟩ := h3
  refine ⟨by rw [fr_F_S_Watch_setAlarm rfl, h1], h2, ⟨w, by rw [fr_F_S_Watch_setAlarm rfl, h3], h4, h5⟩, Or.inr ⟨t + w, ?_, by omega, by omega⟩⟩
  unfold F_S_Watch_setAlarm
  rw [se_u_eq, h1, h3, Int32.ofNat_add]
theorem S_double {g : se_G} (h3 : ∃ w, g 5 4 = Int32.ofNat w ∧ 1 ≤ w ∧ w ≤ 1200) : ∃ w, F_S_Watch_doubleWait g 5 4 = Int32.ofNat w ∧ 1 ≤ w ∧ w ≤ 1200 := by
  obtain ⟨w, h3, h4, h5⟩ := h3
  unfold F_S_Watch_doubleWait
  rw [se_u_eq, h3]
  have e : (2 : Int32) * Int32.ofNat w = Int32.ofNat (2 * w) := (Int32.ofNat_mul 2 w).symm
  rw [e]
  split
  · exact ⟨1200, rfl, by omega, by omega⟩
  · rename_i c
    rw [show (1200 : Int32) = Int32.ofNat 1200 from rfl, nn_lt (by omega) (by omega)] at c
    exact ⟨2 * w, rfl, by omega, by omega⟩
theorem S_takeAlarm_W {g : se_G} {t : Nat} (h1 : g 5 0 = Int32.ofNat t) (h2 : t ≤ 1000000) (h3 : ∃ w, g 5 4 = Int32.ofNat w ∧ 1 ≤ w ∧ w ≤ 1200) : S_W (F_S_takeAlarm g) t := by
  have hk : ∀ g', g' 5 0 = g 5 0 → g' 5 4 = g 5 4 → S_W (F_S_Watch_setAlarm (F_S_Watch_doubleWait g')) t := by
    intro g' e0 e4
    exact S_setAlarm_W (by rw [fr_F_S_Watch_doubleWait rfl, e0, h1]) h2 (S_double (by rw [e4]; exact h3))
  unfold F_S_takeAlarm F_S_takeAlarm_j48
  split
  · split
    · exact hk _ (by rw [se_u_ne (by omega), se_u_ne (by omega)]) (by rw [se_u_ne (by omega), se_u_ne (by omega)])
    · split
      · exact hk _ (by rw [se_u_ne (by omega), se_u_ne (by omega)]) (by rw [se_u_ne (by omega), se_u_ne (by omega)])
      · split
        · exact hk _ (by rw [se_u_ne (by omega), se_u_ne (by omega)]) (by rw [se_u_ne (by omega), se_u_ne (by omega)])
        · exact hk _ (by rw [se_u_ne (by omega), se_u_ne (by omega)]) (by rw [se_u_ne (by omega), se_u_ne (by omega)])
  · obtain ⟨w, h3, h4⟩ := h3
    exact ⟨by rw [fr_F_S_halt rfl, se_u_ne (by omega), h1], h2, ⟨w, by rw [fr_F_S_halt rfl, se_u_ne (by omega), h3], h4⟩, Or.inl (S_halt_alarm _ _)⟩
theorem S_events_W {g : se_G} {t : Nat} (h1 : g 5 0 = Int32.ofNat t) (h2 : t ≤ 1000000) (h3 : ∃ w, g 5 4 = Int32.ofNat w ∧ 1 ≤ w ∧ w ≤ 1200) (h4 : g 5 1 = 0 ∨ ∃ a, g 5 2 = Int32.ofNat a ∧ a ≤ 1001200) : S_W (F_S_takeEvents g) t := by
  have hj : ∀ g', g' 5 0 = Int32.ofNat t → (∃ w, g' 5 4 = Int32.ofNat w ∧ 1 ≤ w ∧ w ≤ 1200) → (g' 5 1 = 0 ∨ ∃ a, g' 5 2 = Int32.ofNat a ∧ a ≤ 1001200) → S_W (F_S_takeEvents_j28 g') t := by
    intro g' e0 e4 e1
    unfold F_S_takeEvents_j28
    split
    · rename_i c; exact ⟨e0, h2, e4, Or.inl c⟩
    · split
      · rename_i c0 c
        rcases e1 with e1 | ⟨a, e1, e2⟩
        · exact absurd e1 c0
        · rw [e0, e1, nn_lt (by omega) (by omega)] at c
          exact ⟨e0, h2, e4, Or.inr ⟨a, e1, c, e2⟩⟩
      · exact S_takeAlarm_W e0 h2 e4
  unfold F_S_takeEvents
  split
  · split
    · exact hj g h1 h3 h4
    · obtain ⟨w, h3, h5⟩ := h3
      exact hj _ (by rw [fr_F_S_halt rfl, h1]) ⟨w, by rw [fr_F_S_halt rfl, h3], h5⟩ (Or.inl (S_halt_alarm g 0))
  · exact hj g h1 h3 h4
theorem S_tick_W {g : se_G} {t : Nat} (h : S_W g t) (ht : t + 1 ≤ 1000000) : S_W (S_tick g) (t + 1) := by
  obtain ⟨h1, h2, h3, h4⟩ := h
  unfold S_tick
  refine S_events_W (by rw [se_u_eq, h1, nn_succ]) ht ?_ ?_
  · obtain ⟨w, e1, e2⟩ := h3; exact ⟨w, by rw [se_u_ne (by omega), e1], e2⟩
  · rcases h4 with h4 | ⟨a, e1, e2, e3⟩
    · exact Or.inl (by rw [se_u_ne (by omega), h4])
    · exact Or.inr ⟨a, by rw [se_u_ne (by omega), e1], e3⟩
theorem S_tickN_W {g : se_G} {t : Nat} (h : S_W g t) : ∀ k, t + k ≤ 1000000 → S_W (S_tickN k g) (t + k) := by
  intro k
  induction k with
  | zero => intro _; exact h
  | succ k ih => intro hk; exact S_tick_W (ih (by omega)) (by omega)
theorem S_run_loop : ∀ (n k t : Nat) (g : se_G), k < n → S_W g t → t + k ≤ 1000000 → F_S_run_j48 n g (Int32.ofNat k) = (0, Int32.ofNat (t + k), S_tickN k g) := by
  intro n
  induction n with
  | zero => intro k t g h; omega
  | succ n ih =>
    intro k t g hn hW hk
    rw [F_S_run_j48]
    obtain ⟨h1, h2, h3, h4⟩ := id hW
    by_cases hk0 : k = 0
    · subst hk0
      rw [if_pos (show Int32.ofNat 0 ≤ 0 by decide), h1]; rfl
    · rw [if_neg (by rw [show (0 : Int32) = Int32.ofNat 0 from rfl, nn_le (by omega) (by omega)]; omega)]
      have hs : ∃ s, 1 ≤ s ∧ s ≤ k ∧ (g 5 1 = 0 ∨ ∃ a, g 5 2 = Int32.ofNat a ∧ t + s ≤ a ∧ a ≤ 1001200) ∧ ((if g 5 1 = 0 then Int32.ofNat k else if 1 < (if F_S_Watch_ticksToAlarm g < Int32.ofNat k then F_S_Watch_ticksToAlarm g else Int32.ofNat k) then (if F_S_Watch_ticksToAlarm g < Int32.ofNat k then F_S_Watch_ticksToAlarm g else Int32.ofNat k) else 1) : Int32) = Int32.ofNat s := by
        by_cases c : g 5 1 = 0
        · exact ⟨k, by omega, by omega, Or.inl c, by rw [if_pos c]⟩
        · rcases h4 with h4 | ⟨a, e1, e2, e3⟩
          · exact absurd h4 c
          · have ea : F_S_Watch_ticksToAlarm g = Int32.ofNat (a - t) := by
              unfold F_S_Watch_ticksToAlarm; rw [if_neg c, e1, h1, nn_sub (by omega)]
            rw [if_neg c, ea]
            by_cases c2 : a - t < k
            · rw [if_pos ((nn_lt (by omega) (by omega)).mpr c2)]
              by_cases c3 : 1 < a - t
              · rw [if_pos (by rw [show (1 : Int32) = Int32.ofNat 1 from rfl, nn_lt (by omega) (by omega)]; exact c3)]
                exact ⟨a - t, by omega, by omega, Or.inr ⟨a, e1, by omega, e3⟩, rfl⟩
              · rw [if_neg (by rw [show (1 : Int32) = Int32.ofNat 1 from rfl, nn_lt (by omega) (by omega)]; exact c3)]
                exact ⟨1, by omega, by omega, Or.inr ⟨a, e1, by omega, e3⟩, rfl⟩
            · rw [if_neg (c := Int32.ofNat (a - t) < Int32.ofNat k) (by rw [nn_lt (by omega) (by omega)]; exact c2)]
              by_cases c3 : 1 < k
              · rw [if_pos (by rw [show (1 : Int32) = Int32.ofNat 1 from rfl, nn_lt (by omega) (by omega)]; exact c3)]
                exact ⟨k, by omega, by omega, Or.inr ⟨a, e1, by omega, e3⟩, rfl⟩
              · rw [if_neg (by rw [show (1 : Int32) = Int32.ofNat 1 from rfl, nn_lt (by omega) (by omega)]; exact c3)]
                exact ⟨1, by omega, by omega, Or.inr ⟨a, e1, by omega, e3⟩, rfl⟩
      obtain ⟨s, s1, s2, s3, s4⟩ := hs
      rw [s4, h1, ← Int32.ofNat_add, nn_sub s2]
      have hl := S_leap h1 (s - 1) (by omega) (by rcases s3 with z | ⟨a, z1, z2, z3⟩; exact Or.inl z; exact Or.inr ⟨a, z1, by omega, z3⟩)
      rw [show s - 1 + 1 = s by omega] at hl
      rw [← hl, ih (k - s) (t + s) _ (by omega) (S_tickN_W hW s (by omega)) (by omega), ← S_tickN_add]
      rw [show t + s + (k - s) = t + k by omega, show k - s + s = k by omega]
theorem S_run_eq {g : se_G} {t : Nat} (hW : S_W g t) {k : Nat} (hk : t + k ≤ 1000000) : F_S_run_j48 ((Int32.ofNat k).toInt.toNat + 1) g (Int32.ofNat k) = (0, Int32.ofNat (t + k), S_tickN k g) :=
  S_run_loop _ k t g (by rw [nn_int (by omega)]; omega) hW hk

