/-! WHAT THE CALLS ANSWER, as functions of what is held. -/
def mSheetA (sv : Nat → mS) (mi : Nat) (o : Option Nat) (what : Nat) : Int32 := match o with
  | none => -1
  | some y => if what = 0 then nI (sv y).1 else if what = 1 then nI (mi - (sv y).2.1) else nI (mCnt (fun q => decide (0 < (sv y).2.2 q)) 20)
theorem mSheetA_n {sv : Nat → mS} {mi what : Nat} {o : Option Nat} (h : o = none) : -1 = mSheetA sv mi o what := by subst h; rfl
theorem mSheetA_s {sv : Nat → mS} {mi what y : Nat} {o : Option Nat} (h : o = some y) : mSheetA sv mi o what = if what = 0 then nI (sv y).1 else if what = 1 then nI (mi - (sv y).2.1) else nI (mCnt (fun q => decide (0 < (sv y).2.2 q)) 20) := by subst h; rfl
def mWayA (w what : Nat) : Int32 := if w = 1073741824 then -1 else if what = 0 then nI (w / 256) else if what = 1 then nI (w % 256 / 16) else nI (w % 16)
theorem mWayA_n {w what : Nat} (h : w = 1073741824) : -1 = mWayA w what := by unfold mWayA; rw [if_pos h]
theorem mWayA_s {w what : Nat} (h : w ≠ 1073741824) : mWayA w what = if what = 0 then nI (w / 256) else if what = 1 then nI (w % 256 / 16) else nI (w % 16) := if_neg h
def mTruthA (w : Nat) : Int32 := if w = 1073741824 then -1 else nI (w / 256)
def mAbout (fs sn ln : Nat → Nat) (op : Nat → Bool) (tk : Nat → Nat) (q what : Nat) : Int32 := if what = 0 then nI (fs q) else if what = 1 then nI (sn q) else if what = 2 then nI (ln q) else if what = 3 then bI (op q) else nI (tk q)
def mTold (ar : Nat → Nat) (hd : Nat → Option Nat) (ww : Nat → Nat) (wy : Nat → Nat → Nat) (st : Nat → Nat → Bool) (nh h what : Nat) : Int32 := if what = 0 then nI (ar h) else if what = 1 then nI (mHas hd h) else if what = 2 then nI (ww h) else if what = 3 then nI (mCnt (fun o => wy h o != 1073741824) nh) else nI (mCnt (fun o => (mPost wy st h o).isSome) nh)
def mPairs (wy : Nat → Nat → Nat) (st : Nat → Nat → Bool) (nh : Nat) : Nat := mSum (fun a => mCnt (fun b => a != b && (mPost wy st a b).isSome) nh) nh
def mCount (mi nh np : Nat) (op : Nat → Bool) (fs sn : Nat → Nat) (hd : Nat → Option Nat) (wy : Nat → Nat → Nat) (st : Nat → Nat → Bool) (what : Nat) : Int32 := if what = 0 then nI mi else if what = 1 then nI nh else if what = 2 then nI np else if what = 3 then nI (mCnt op np) else if what = 4 then nI (mSum (mHas hd) nh) else if what = 5 then nI (mPairs wy st nh) else nI (jAll fs sn op (-1) np nh).1
theorem mPairs_le (wy : Nat → Nat → Nat) (st : Nat → Nat → Bool) (nh : Nat) : mPairs wy st nh ≤ nh * nh := mSum_le (fun _ _ => mCnt_le _ _)
theorem mPop_le : ∀ x, x < 2 ^ 10 → mPop x ≤ 10 := by decide +kernel
theorem jAll_le {fs sn : Nat → Nat} {op : Nat → Bool} {x : Int32} {np : Nat} (hfs : ∀ j, fs j < 10) (hsn : ∀ j, sn j < 10) : ∀ i, i ≤ 10 → (jAll fs sn op x np i).1 ≤ i * 90
  | 0, _ => Nat.le_refl _
  | i + 1, hi => by
    have ih := jAll_le (op := op) (x := x) (np := np) hfs hsn i (by omega)
    have hp : mPop (gIter fs sn op x np (2 ^ i) 10) ≤ 10 := mPop_le _ (gIter_lt hfs hsn (mTwo_lt (by omega)) 10)
    have hq : mPop (gIter fs sn op x np (2 ^ i) 10) * (mPop (gIter fs sn op x np (2 ^ i) 10) - 1) ≤ 10 * 9 := Nat.mul_le_mul hp (by omega)
    unfold jAll
    split
    · dsimp only; omega
    · omega
