/-! written by program (wip/gen) -/
def ix (x : Int32) : Nat := x.toBitVec.toNat % 2048
theorem ix_and (x : Int32) : Int32.toNatClampNeg (x &&& 2047) = ix x := by
  have h1 : (x &&& 2047).toBitVec.toNat = x.toBitVec.toNat % 2048 := by
    rw [Int32.toBitVec_and, BitVec.toNat_and]
    exact Nat.and_two_pow_sub_one_eq_mod x.toBitVec.toNat 11
  have h2 : (x &&& 2047).toInt = ((x.toBitVec.toNat % 2048 : Nat) : Int) := by
    show (x &&& 2047).toBitVec.toInt = _
    rw [BitVec.toInt_eq_toNat_of_lt (by rw [h1]; omega), h1]
  show (x &&& 2047).toInt.toNat = _
  rw [h2]; rfl
theorem ix_lt (x : Int32) : ix x < 2048 := Nat.mod_lt _ (by decide)
theorem ix_add (x y : Int32) : ix (x + y) = (ix x + ix y) % 2048 := by
  unfold ix
  rw [Int32.toBitVec_add, BitVec.toNat_add]
  omega
theorem ix_ofNat (n : Nat) : ix (Int32.ofNat n) = n % 2048 := by
  unfold ix
  show (BitVec.ofNat 32 n).toNat % 2048 = _
  rw [BitVec.toNat_ofNat]
  omega
theorem ix_sub (x y : Int32) : ix (x - y) = (ix x + (2048 - ix y)) % 2048 := by
  have h := ix_add (x - y) y
  rw [Int32.sub_add_cancel] at h
  have h1 := ix_lt (x - y); have h2 := ix_lt y
  omega

