/-! GROUPS OF HUTS, as bits of a number; the chart of what is so in truth. -/
theorem fa_and (a b : Nat) : nI a &&& nI b = nI (a &&& b) := by
  apply Int32.toBitVec_inj.1
  show BitVec.ofNat 32 a &&& BitVec.ofNat 32 b = BitVec.ofNat 32 (a &&& b)
  apply BitVec.eq_of_getLsbD_eq
  intro i hi
  simp [hi]
theorem fa_or (a b : Nat) : nI a ||| nI b = nI (a ||| b) := by
  apply Int32.toBitVec_inj.1
  show BitVec.ofNat 32 a ||| BitVec.ofNat 32 b = BitVec.ofNat 32 (a ||| b)
  apply BitVec.eq_of_getLsbD_eq
  intro i hi
  simp [hi]
theorem kn_shl1 : ∀ f, f < 10 → nI 1 <<< (nI f &&& 31) = nI (2 ^ f) := by decide
theorem kn_sc : ∀ i, i < 10 → ((nI i &&& 31).toBitVec.smod 32).toNat = i := by decide
theorem kn_shr {x i : Nat} (hx : x < 2 ^ 31) (hi : i < 10) : nI x >>> (nI i &&& 31) = nI (x / 2 ^ i) := pk_shrN hx _ i (kn_sc i hi)
theorem kn_bit (x : Nat) : nI x &&& nI 1 = nI (x % 2) := by rw [fa_and, Nat.and_one_is_mod]
theorem kn_zz : ∀ z : Nat, nI z * (nI z - nI 1) = nI (z * (z - 1))
  | 0 => by decide
  | z + 1 => by rw [pk_sub (Nat.le_add_left 1 z), pk_mul]
def mEnds (fs sn : Nat → Nat) (p : Nat) : Nat := 2 ^ fs p ||| 2 ^ sn p
theorem mTwo_lt {k : Nat} (h : k < 10) : 2 ^ k < 2 ^ 10 := Nat.pow_lt_pow_right (by decide) h
theorem mEnds_lt {fs sn : Nat → Nat} (hfs : ∀ j, fs j < 10) (hsn : ∀ j, sn j < 10) (p : Nat) : mEnds fs sn p < 2 ^ 10 := Nat.or_lt_two_pow (mTwo_lt (hfs p)) (mTwo_lt (hsn p))
def gStep (fs sn : Nat → Nat) (op : Nat → Bool) (x : Int32) (g p : Nat) : Nat := if op p = true ∧ ¬ nI p = x ∧ g &&& mEnds fs sn p ≠ 0 then g ||| mEnds fs sn p else g
def gPass (fs sn : Nat → Nat) (op : Nat → Bool) (x : Int32) (g : Nat) : Nat → Nat
  | 0 => g
  | p + 1 => gStep fs sn op x (gPass fs sn op x g p) p
def gIter (fs sn : Nat → Nat) (op : Nat → Bool) (x : Int32) (np g : Nat) : Nat → Nat
  | 0 => g
  | r + 1 => gPass fs sn op x (gIter fs sn op x np g r) np
theorem gIter_stop {fs sn : Nat → Nat} {op : Nat → Bool} {x : Int32} {np g r : Nat} (q : gPass fs sn op x (gIter fs sn op x np g r) np = gIter fs sn op x np g r) : ∀ j, gIter fs sn op x np g (r + j) = gIter fs sn op x np g r
  | 0 => rfl
  | j + 1 => by
    show gPass fs sn op x (gIter fs sn op x np g (r + j)) np = _
    rw [gIter_stop q j, q]
theorem gStep_lt {fs sn : Nat → Nat} {op : Nat → Bool} {x : Int32} {g p : Nat} (hfs : ∀ j, fs j < 10) (hsn : ∀ j, sn j < 10) (hg : g < 2 ^ 10) : gStep fs sn op x g p < 2 ^ 10 := by
  unfold gStep
  split
  · exact Nat.or_lt_two_pow hg (mEnds_lt hfs hsn p)
  · exact hg
theorem gPass_lt {fs sn : Nat → Nat} {op : Nat → Bool} {x : Int32} {g : Nat} (hfs : ∀ j, fs j < 10) (hsn : ∀ j, sn j < 10) (hg : g < 2 ^ 10) : ∀ p, gPass fs sn op x g p < 2 ^ 10
  | 0 => hg
  | p + 1 => gStep_lt hfs hsn (gPass_lt hfs hsn hg p)
theorem gIter_lt {fs sn : Nat → Nat} {op : Nat → Bool} {x : Int32} {np g : Nat} (hfs : ∀ j, fs j < 10) (hsn : ∀ j, sn j < 10) (hg : g < 2 ^ 10) : ∀ r, gIter fs sn op x np g r < 2 ^ 10
  | 0 => hg
  | r + 1 => gPass_lt hfs hsn (gIter_lt hfs hsn hg r) np
/-- how many huts are in a group -/
def mPop (g : Nat) : Nat := mCnt (fun i => g / 2 ^ i % 2 == 1) 10
def pbU (i : Int32) (k : Nat) : Int32 := (i.toUInt32 >>> ((nI k).toUInt32 &&& Int32.toUInt32 31)).toInt32
def pb1 (i : Int32) : Int32 := i - (pbU i 1 &&& nI 1431655765)
def pb2 (i : Int32) : Int32 := (i &&& nI 858993459) + (pbU i 2 &&& nI 858993459)
def pb3 (i : Int32) : Int32 := (i + pbU i 4) &&& nI 252645135
def pb4 (i : Int32) : Int32 := i + pbU i 8
def pb5 (i : Int32) : Int32 := i + pbU i 16
theorem mPop_ok : ∀ x, x < 2 ^ 10 → pb5 (pb4 (pb3 (pb2 (pb1 (nI x))))) &&& nI 63 = nI (mPop x) := by decide +kernel
def jAll (fs sn : Nat → Nat) (op : Nat → Bool) (x : Int32) (np : Nat) : Nat → Nat × Nat
  | 0 => (0, 0)
  | i + 1 => if (jAll fs sn op x np i).2 / 2 ^ i % 2 = 0 then ((jAll fs sn op x np i).1 + mPop (gIter fs sn op x np (2 ^ i) 10) * (mPop (gIter fs sn op x np (2 ^ i) 10) - 1), (jAll fs sn op x np i).2 ||| gIter fs sn op x np (2 ^ i) 10) else jAll fs sn op x np i
theorem jAll_t {fs sn : Nat → Nat} {op : Nat → Bool} {x : Int32} {np i : Nat} (h : (jAll fs sn op x np i).2 / 2 ^ i % 2 = 0) : jAll fs sn op x np (i + 1) = ((jAll fs sn op x np i).1 + mPop (gIter fs sn op x np (2 ^ i) 10) * (mPop (gIter fs sn op x np (2 ^ i) 10) - 1), (jAll fs sn op x np i).2 ||| gIter fs sn op x np (2 ^ i) 10) := if_pos h
theorem jAll_f {fs sn : Nat → Nat} {op : Nat → Bool} {x : Int32} {np i : Nat} (h : 0 < (jAll fs sn op x np i).2 / 2 ^ i % 2) : jAll fs sn op x np (i + 1) = jAll fs sn op x np i := if_neg (Nat.ne_of_gt h)
/-- the chart of the open passes -/
def mTrue1 (fs sn ln : Nat → Nat) (op : Nat → Bool) (c : mC) (p : Nat) : mC := if op p = true then mAdd (mAdd c (fs p) (sn p) (ln p)) (sn p) (fs p) (ln p) else c
def mTrue (fs sn ln : Nat → Nat) (op : Nat → Bool) (c : mC) : Nat → mC
  | 0 => c
  | p + 1 => mTrue1 fs sn ln op (mTrue fs sn ln op c p) p
theorem mTrue_eq {fs sn ln : Nat → Nat} {op : Nat → Bool} {c d : mC} (q : mCeq c d) : ∀ p, mCeq (mTrue fs sn ln op c p) (mTrue fs sn ln op d p)
  | 0 => q
  | p + 1 => by
    have ih := mTrue_eq (fs := fs) (sn := sn) (ln := ln) (op := op) q p
    show mCeq (mTrue1 fs sn ln op _ p) (mTrue1 fs sn ln op _ p)
    unfold mTrue1
    split
    · exact mAdd_eq (mAdd_eq ih _ _ _) _ _ _
    · exact ih
theorem mTrue_b {fs sn ln : Nat → Nat} {op : Nat → Bool} {c : mC} (q : mCb c) (hfs : ∀ j, fs j < 10) (hsn : ∀ j, sn j < 10) (hln : ∀ j, ln j < 100) : ∀ p, mCb (mTrue fs sn ln op c p)
  | 0 => q
  | p + 1 => by
    have ih := mTrue_b (op := op) q hfs hsn hln p
    show mCb (mTrue1 fs sn ln op _ p)
    unfold mTrue1
    split
    · exact mAdd_b (mAdd_b ih (hfs p) (hsn p) (hln p)) (hsn p) (hfs p) (hln p)
    · exact ih
theorem mTrue_le {fs sn ln : Nat → Nat} {op : Nat → Bool} {c : mC} (q : c.1 = 0) : ∀ p, (mTrue fs sn ln op c p).1 ≤ 2 * p
  | 0 => by show c.1 ≤ _; omega
  | p + 1 => by
    have ih := mTrue_le (fs := fs) (sn := sn) (ln := ln) (op := op) q p
    show (mTrue1 fs sn ln op _ p).1 ≤ _
    unfold mTrue1
    split
    · show _ + 1 + 1 ≤ _
      omega
    · omega
/-- the way in truth: its number -/
def mTruth (fs sn ln : Nat → Nat) (op : Nat → Bool) (np a : Nat) : Nat → Nat := mRow a (mTrue fs sn ln op mC0 np) (fun _ => 0)
theorem mRow_truth {fs sn ln : Nat → Nat} {op : Nat → Bool} {np a : Nat} {c : mC} {b : Nat → Nat} (q : c.1 = 0) (hb : mCb c) (hfs : ∀ j, fs j < 10) (hsn : ∀ j, sn j < 10) (hln : ∀ j, ln j < 100) : sAgree (mRow a (mTrue fs sn ln op c np) b) (mTruth fs sn ln op np a) :=
  sIter_agree (mTrue_eq ⟨q, fun i hi => by omega⟩ np) (mTrue_b hb hfs hsn hln np) (sInit_agree a _ _) 10
theorem mTruth_fine {fs sn ln : Nat → Nat} {op : Nat → Bool} {np a : Nat} (ha : a < 10) (hfs : ∀ j, fs j < 10) (hsn : ∀ j, sn j < 10) (hln : ∀ j, ln j < 100) : sFine (mTruth fs sn ln op np a) := mRow_fine (mTrue_b mC0_b hfs hsn hln np) ha
