/-! written by program (wip/gen) -/
def ib (g : se_G) (i : Nat) : Int32 := g 4 (ix (g 3 4 + Int32.ofNat i))
theorem ix_wrap (x : Int32) (n : Nat) : ix (x + Int32.ofNat (n + 2048)) = ix (x + Int32.ofNat n) := by
  rw [ix_addn, ix_addn]; omega
theorem S_takeByte_val (g : se_G) : (F_S_Incoming_takeByte g).1 = ib g 0 := by
  unfold F_S_Incoming_takeByte ib
  rw [ix_and, show Int32.ofNat 0 = 0 from rfl, Int32.add_zero]
theorem S_takeByte_ib (g : se_G) {i : Nat} (hi : i < 2048) : ib (F_S_Incoming_takeByte g).2 i = if i < 2047 then ib g (i + 1) else -1 := by
  unfold F_S_Incoming_takeByte ib
  dsimp only
  rw [se_u_ne (o := 3) (j := 4) (by omega), se_u_eq, se_u_ne (o := 4) (by omega), se_u_ne (o := 4) (by omega), se_u_row, ix_and]
  have e1 : g 3 4 + 1 + Int32.ofNat i = g 3 4 + Int32.ofNat (i + 1) := by
    rw [Int32.add_assoc, Int32.add_comm 1, nn_succ]
  rw [e1]
  by_cases h : i < 2047
  · have h2 : ¬ ix (g 3 4 + Int32.ofNat (i + 1)) = ix (g 3 4) := by
      intro z
      have := (ix_inj (x := g 3 4) (m := i + 1) (n := 0) (by omega) (by omega)).mp (by rw [z, show Int32.ofNat 0 = 0 from rfl, Int32.add_zero])
      omega
    rw [if_neg h2, if_pos h]
  · have h2 : i = 2047 := by omega
    subst h2
    rw [if_pos (by rw [ix_addn]; have := ix_lt (g 3 4); omega), if_neg (by omega)]
theorem nn_dist {x y : Int32} {a : Int} (h : (x - y).toInt = a) : x = y + Int32.ofInt a := by
  rw [← h, Int32.ofInt_toInt, Int32.add_comm, Int32.sub_add_cancel]
theorem nn_ofInt (n : Nat) : Int32.ofInt (n : Int) = Int32.ofNat n := by
  rw [← Int32.toInt_inj, Int32.toInt_ofInt, Int32.toInt_ofNat']
theorem nn_addI (a b : Int) : Int32.ofInt a + Int32.ofInt b = Int32.ofInt (a + b) := (Int32.ofInt_add a b).symm
theorem S_store_ib {g : se_G} {r n : Nat} {A : Int} (he : g 3 2 = g 3 4 + Int32.ofNat r) (hr : g 3 3 = Int32.ofNat r) (hr2 : r ≤ 2048) (hn : g 7 1 = Int32.ofNat n) (hn2 : n ≤ 1460) (hA : (g 7 3 - g 3 2).toInt = A) (h1 : -1463 ≤ A) (h2 : A ≤ 2048) {i : Nat} (hi : i < 2048) :
    ib (F_S_Incoming_store g) i = if ib g i = -1 ∧ r ≤ i ∧ A + r ≤ i ∧ (i : Int) < A + r + n then g 8 ((i : Int) - r - A).toNat &&& 255 else ib g i := by
  have hrn : F_S_Incoming_store g 3 4 = g 3 4 := fr_F_S_Incoming_store rfl g
  have hroom : F_S_Incoming_room g = Int32.ofNat (2048 - r) := by
    unfold F_S_Incoming_room
    rw [hr, show (2048 : Int32) = Int32.ofNat 2048 from rfl, nn_sub hr2]
  have hd : g 7 3 - g 3 2 = Int32.ofInt A := by rw [← hA, Int32.ofInt_toInt]
  have hnum : g 7 3 = g 3 4 + Int32.ofNat r + Int32.ofInt A := by rw [nn_dist hA, he]
  have hfrom : (if 0 < (-(g 7 3 - g 3 2)) then (-(g 7 3 - g 3 2)) else 0 : Int32) = Int32.ofNat (-A).toNat := by
    rw [hd]
    have hneg : (-(Int32.ofInt A)).toInt = -A := by
      rw [Int32.toInt_neg, Int32.toInt_ofInt, show Int32.size = 4294967296 from rfl, Int.bmod_def, Int.bmod_def]
      omega
    by_cases c : 0 < -A
    · rw [if_pos (by rw [Int32.lt_iff_toInt_lt, hneg]; exact c), ← Int32.toInt_inj, hneg, nn_int (by omega)]; omega
    · rw [if_neg (by rw [Int32.lt_iff_toInt_lt, hneg]; exact c), show (-A).toNat = 0 by omega]; rfl
  have htoI : (F_S_Incoming_room g - (g 7 3 - g 3 2)).toInt = 2048 - r - A := by
    rw [hroom, hd, Int32.toInt_sub, nn_int (by omega), Int32.toInt_ofInt, show Int32.size = 4294967296 from rfl, Int.bmod_def, Int.bmod_def]
    omega
  have hto : ∃ T : Int32, (if (F_S_Incoming_room g - (g 7 3 - g 3 2)) < g 7 1 then (F_S_Incoming_room g - (g 7 3 - g 3 2)) else g 7 1 : Int32) = T ∧ T.toInt = min (n : Int) (2048 - r - A) := by
    refine ⟨_, rfl, ?_⟩
    by_cases c : (2048 : Int) - r - A < n
    · rw [if_pos (by rw [Int32.lt_iff_toInt_lt, htoI, hn, nn_int (by omega)]; exact c), htoI]; omega
    · rw [if_neg (by rw [Int32.lt_iff_toInt_lt, htoI, hn, nn_int (by omega)]; exact c), hn, nn_int (by omega)]; omega
  obtain ⟨T, hT, hTi⟩ := hto
  unfold ib
  rw [hrn]
  unfold F_S_Incoming_store
  rw [hT, hfrom]
  have hcell : ∀ t : Nat, (i : Int) = A + r + t → ix (g 3 4 + Int32.ofNat i) = ix (g 7 3 + Int32.ofNat t) := by
    intro t ht
    rw [hnum, ← nn_ofInt i, ← nn_ofInt r, ← nn_ofInt t, Int32.add_assoc, Int32.add_assoc, nn_addI, nn_addI, ht, show A + (r : Int) + (t : Int) = (r : Int) + (A + t) by omega]
  by_cases hle : T.toInt ≤ ((-A).toNat : Int)
  · -- nothing to do
    have hz : F_S_Incoming_store_j35 ((T.toInt - (Int32.ofNat (-A).toNat).toInt).toNat + 1) g T (Int32.ofNat (-A).toNat) = g := by
      rw [F_S_Incoming_store_j35, if_pos (by rw [Int32.le_iff_toInt_le, nn_int (by omega)]; exact hle)]
    rw [hz, if_neg (by omega)]
  · have hk : T = Int32.ofNat ((-A).toNat + (T.toInt - ((-A).toNat : Int)).toNat) := by
      rw [← Int32.toInt_inj, nn_int (by omega)]; omega
    generalize hkk : (T.toInt - ((-A).toNat : Int)).toNat = k at hk
    have hl := S_store_loop k ((T.toInt - (Int32.ofNat (-A).toNat).toInt).toNat + 1) (-A).toNat g (by rw [nn_int (n := (-A).toNat) (by omega)]; omega) (by omega)
    rw [← hk] at hl
    obtain ⟨e1, e2⟩ := hl
    by_cases hin : r ≤ i ∧ A + r ≤ i ∧ (i : Int) < A + r + n
    · have hc := hcell ((i : Int) - r - A).toNat (by omega)
      rw [hc, e1 _ (by omega) (by omega)]
      by_cases hm : g 4 (ix (g 7 3 + Int32.ofNat ((i : Int) - r - A).toNat)) = -1
      · rw [if_pos hm, if_pos ⟨hm, hin⟩]
      · rw [if_neg hm, if_neg (fun z => hm z.1)]
    · rw [if_neg (fun z => hin z.2), e2 _ (fun t a b z => ?_)]
      have ht : ∃ i' : Nat, i' < 2048 ∧ (i' : Int) = A + r + t := ⟨(A + r + t).toNat, by omega, by omega⟩
      obtain ⟨i', h3, h4⟩ := ht
      have h5 : ix (g 3 4 + Int32.ofNat i') = ix (g 7 3 + Int32.ofNat t) := by
        rw [hnum, ← nn_ofInt i', ← nn_ofInt r, ← nn_ofInt t, Int32.add_assoc, Int32.add_assoc, nn_addI, nn_addI, h4, show A + (r : Int) + (t : Int) = (r : Int) + (A + t) by omega]
      rw [← h5] at z
      have h6 := (ix_inj hi h3).mp z
      omega
theorem S_goN_ib (g : se_G) (k i : Nat) : ib (S_goN g k) i = ib g i := by
  unfold ib S_goN
  rw [se_u_ne (by omega), se_u_ne (by omega), se_u_ne (by omega), se_u_ne (by omega)]
theorem S_stop_ib {g : se_G} {r k : Nat} (he : g 3 2 = g 3 4 + Int32.ofNat r) (hr : g 3 3 = Int32.ofNat r) (hk : r + k ≤ 2048) : S_stop (S_goN g k) ↔ r + k = 2048 ∨ (¬ g 3 5 = 0 ∧ g 3 2 + Int32.ofNat k = g 3 6) ∨ ib g (r + k) = -1 := by
  have q2 : S_goN g k 3 2 = g 3 2 + Int32.ofNat k := by unfold S_goN; rw [se_u_ne (by omega), se_u_eq]
  have q3 : S_goN g k 3 3 = Int32.ofNat (r + k) := by unfold S_goN; rw [se_u_eq, hr, Int32.ofNat_add]
  have q5 : S_goN g k 3 5 = g 3 5 := by unfold S_goN; rw [se_u_ne (by omega), se_u_ne (by omega)]
  have q6 : S_goN g k 3 6 = g 3 6 := by unfold S_goN; rw [se_u_ne (by omega), se_u_ne (by omega)]
  have q4 : ∀ c, S_goN g k 4 c = g 4 c := fun c => by unfold S_goN; rw [se_u_ne (by omega), se_u_ne (by omega)]
  unfold S_stop F_S_Incoming_isAtLast
  rw [q2, q3, q5, q6, q4, show (2048 : Int32) = Int32.ofNat 2048 from rfl, nn_le (by omega) (by omega)]
  have hcell : g 3 2 + Int32.ofNat k = g 3 4 + Int32.ofNat (r + k) := by rw [he, Int32.add_assoc, ← Int32.ofNat_add]
  have a1 : (¬ (if g 3 5 = 0 then (0 : Int32) else if g 3 2 + Int32.ofNat k = g 3 6 then 1 else 0) = 0) ↔ (¬ g 3 5 = 0 ∧ g 3 2 + Int32.ofNat k = g 3 6) := by
    by_cases c1 : g 3 5 = 0
    · rw [if_pos c1]; exact ⟨fun z => absurd rfl z, fun z => absurd c1 z.1⟩
    · rw [if_neg c1]
      by_cases c2 : g 3 2 + Int32.ofNat k = g 3 6
      · rw [if_pos c2]; exact ⟨fun _ => ⟨c1, c2⟩, fun _ => by decide⟩
      · rw [if_neg c2]; exact ⟨fun z => absurd rfl z, fun z => absurd z.2 c2⟩
  rw [a1]
  have a2 : g 4 (ix (g 3 2 + Int32.ofNat k)) = ib g (r + k) := by unfold ib; rw [hcell]
  rw [a2]
  constructor
  · rintro (z | z | z)
    · exact Or.inl (by omega)
    · exact Or.inr (Or.inl z)
    · exact Or.inr (Or.inr z)
  · rintro (z | z | z)
    · exact Or.inl (by omega)
    · exact Or.inr (Or.inl z)
    · exact Or.inr (Or.inr z)

