/-! THE LAW'S OWN NUMBERS. -/
def mMsk (v : Int32) : Nat := (v &&& 2147483647).toBitVec.toNat
theorem mMsk_lt (v : Int32) : mMsk v < 2 ^ 31 := by
  unfold mMsk
  rw [Int32.toBitVec_and, BitVec.toNat_and]
  exact Nat.lt_of_le_of_lt Nat.and_le_right (by decide)
theorem mMsk_eq (v : Int32) : v &&& nI 2147483647 = nI (mMsk v) := by
  have h : nI (mMsk v) = v &&& 2147483647 := by
    apply Int32.toBitVec_inj.mp
    show BitVec.ofNat 32 (mMsk v) = _
    unfold mMsk
    rw [BitVec.ofNat_toNat, BitVec.setWidth_eq]
  rw [h]
  rfl
def mBel (v : Int32) (n : Nat) : Nat := mMsk v % n
theorem mBel_lt {v : Int32} {n : Nat} (h : 0 < n) : mBel v n < n := Nat.mod_lt _ h
def mCell (xs : Nat → Int32) (len k : Nat) : Int32 := if k < len then xs k else nI (790386105 * (k + 3))
