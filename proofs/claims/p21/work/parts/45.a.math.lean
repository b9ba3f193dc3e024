/-! THE POST BY HAND ANSWERS AS THE OBJECT. -/
section ZS
variable {ar fs sn ln : Nat → Nat} {op : Nat → Bool} {nn np mi : Nat} {SS : Nat → Option mS} {ww : Nat → Nat}
theorem zS_hsl (hV : vInv ar fs sn ln nn np mi SS ww) : ∀ j p, vLen (SS j) p < 100 := vLen_lt hV.2.2.1 hV.2.2.2.2.1
theorem zS_he (hV : vInv ar fs sn ln nn np mi SS ww) : ∀ p, p < np → fs p < nn ∧ sn p < nn := fun p hp => ⟨(hV.1.2.2.2.1 p hp).1, (hV.1.2.2.2.1 p hp).2.1⟩
theorem zS_tie (hV : vInv ar fs sn ln nn np mi SS ww) {h k : Nat} (hh : h < nn) (hk : k < nn) : (vWay SS fs sn np h k = 1073741824 → zFar (zStH SS fs sn h) fs sn np nn k h = 99999999) ∧ (vWay SS fs sn np h k ≠ 1073741824 → zFar (zStH SS fs sn h) fs sn np nn k h < 99999999 ∧ zFar (zStH SS fs sn h) fs sn np nn k h / 100 = vWay SS fs sn np h k / 256 ∧ zFar (zStH SS fs sn h) fs sn np nn k h % 100 = vWay SS fs sn np h k % 256 / 16) :=
  zFar_tie (zOk_H (zS_hsl hV) (zS_he hV)) hV.1.2.2.2.2.1 hh hk (vWay_best hV.1.1 hV.1.2.1 (zS_hsl hV) (zS_he hV) hV.1.2.2.2.2.1 hh (by have := hV.1.2.2.2.2.1; omega))
theorem zS_tieT (hV : vInv ar fs sn ln nn np mi SS ww) {h k : Nat} (hh : h < nn) (hk : k < nn) : (mTruth fs sn ln op np h k = 1073741824 → zFar (zStT ln op) fs sn np nn k h = 99999999) ∧ (mTruth fs sn ln op np h k ≠ 1073741824 → zFar (zStT ln op) fs sn np nn k h < 99999999 ∧ zFar (zStT ln op) fs sn np nn k h / 100 = mTruth fs sn ln op np h k / 256 ∧ zFar (zStT ln op) fs sn np nn k h % 100 = mTruth fs sn ln op np h k % 256 / 16) :=
  zFar_tie (zOk_T hV.1.2.2.1 (zS_he hV)) hV.1.2.2.2.2.1 hh hk (mTruth_best hV.1.1 hV.1.2.1 hV.1.2.2.1 (zS_he hV) hV.1.2.2.2.2.1 hh (by have := hV.1.2.2.2.2.1; omega))
theorem zS_fst (hV : vInv ar fs sn ln nn np mi SS ww) {h k : Nat} (hh : h < nn) (hk : k < nn) : zFst (zStH SS fs sn h) fs sn np nn h k = if vWay SS fs sn np h k = 1073741824 then none else some (vWay SS fs sn np h k % 16) :=
  zFst_tie (zOk_H (zS_hsl hV) (zS_he hV)) hV.1.2.2.2.2.1 hh hk (vWay_best hV.1.1 hV.1.2.1 (zS_hsl hV) (zS_he hV) hV.1.2.2.2.2.1 hh (by have := hV.1.2.2.2.2.1; omega))
theorem zS_way0 (hV : vInv ar fs sn ln nn np mi SS ww) {h k : Nat} (hh : h < nn) (hk : k < nn) : mWayA (vWay SS fs sn np h k) 0 = if zFar (zStH SS fs sn h) fs sn np nn k h < 99999999 then nI (zFar (zStH SS fs sn h) fs sn np nn k h / 100) else -1 := by
  obtain ⟨t1, t2⟩ := zS_tie hV hh hk
  by_cases q : vWay SS fs sn np h k = 1073741824
  · have := t1 q
    rw [← mWayA_n q, if_neg (by omega)]
  · obtain ⟨a, b, c⟩ := t2 q
    rw [mWayA_s q, if_pos rfl, if_pos a, b]
theorem zS_way1 (hV : vInv ar fs sn ln nn np mi SS ww) {h k : Nat} (hh : h < nn) (hk : k < nn) : mWayA (vWay SS fs sn np h k) 1 = if zFar (zStH SS fs sn h) fs sn np nn k h < 99999999 then nI (zFar (zStH SS fs sn h) fs sn np nn k h % 100) else -1 := by
  obtain ⟨t1, t2⟩ := zS_tie hV hh hk
  by_cases q : vWay SS fs sn np h k = 1073741824
  · have := t1 q
    rw [← mWayA_n q, if_neg (by omega)]
  · obtain ⟨a, b, c⟩ := t2 q
    rw [mWayA_s q, if_neg (by decide), if_pos rfl, if_pos a, c]
theorem zS_way2 (hV : vInv ar fs sn ln nn np mi SS ww) {h k : Nat} (hh : h < nn) (hk : k < nn) : mWayA (vWay SS fs sn np h k) 2 = mOI (zFst (zStH SS fs sn h) fs sn np nn h k) := by
  rw [zS_fst hV hh hk]
  by_cases q : vWay SS fs sn np h k = 1073741824
  · rw [← mWayA_n q, if_pos q]
    rfl
  · rw [mWayA_s q, if_neg (by decide), if_neg (by decide), if_neg q]
    rfl
theorem zS_truth (hV : vInv ar fs sn ln nn np mi SS ww) {h k : Nat} (hh : h < nn) (hk : k < nn) : mTruthA (mTruth fs sn ln op np h k) = if zFar (zStT ln op) fs sn np nn k h < 99999999 then nI (zFar (zStT ln op) fs sn np nn k h / 100) else -1 := by
  obtain ⟨t1, t2⟩ := zS_tieT (op := op) hV hh hk
  unfold mTruthA
  by_cases q : mTruth fs sn ln op np h k = 1073741824
  · have := t1 q
    rw [if_pos q, if_neg (by omega)]
  · obtain ⟨a, b, c⟩ := t2 q
    rw [if_neg q, if_pos a, b]
theorem zS_known (hV : vInv ar fs sn ln nn np mi SS ww) {h k : Nat} (hh : h < nn) (hk : k < nn) : (vWay SS fs sn np h k != 1073741824) = decide (zFar (zStH SS fs sn h) fs sn np nn k h < 99999999) := by
  obtain ⟨t1, t2⟩ := zS_tie hV hh hk
  by_cases q : vWay SS fs sn np h k = 1073741824
  · have := t1 q
    rw [decide_eq_false (by omega)]
    simp [q]
  · rw [decide_eq_true (t2 q).1]
    exact bne_iff_ne.mpr q
theorem zS_joined (hV : vInv ar fs sn ln nn np mi SS ww) {h k : Nat} (hh : h < nn) (hk : k < nn) : (mTruth fs sn ln op np h k != 1073741824) = decide (zFar (zStT ln op) fs sn np nn k h < 99999999) := by
  obtain ⟨t1, t2⟩ := zS_tieT (op := op) hV hh hk
  by_cases q : mTruth fs sn ln op np h k = 1073741824
  · have := t1 q
    rw [decide_eq_false (by omega)]
    simp [q]
  · rw [decide_eq_true (t2 q).1]
    exact bne_iff_ne.mpr q
theorem zS_post (hV : vInv ar fs sn ln nn np mi SS ww) {a b : Nat} (ha : a < nn) (hb : b < nn) : zLet (fun a b => zFst (zStH SS fs sn a) fs sn np nn a b) (mSt fs sn op np) b 21 0 a = mPost (fun i => vWay SS fs sn np i) (mSt fs sn op np) a b :=
  zLet_tie hb (fun a ha => zS_fst hV ha hb) (fun a ha q => zFst_lt (st := zStH SS fs sn a) ha (fun p k hp => by
    have := zS_he hV p hp
    unfold zEnd
    split <;> omega) ((zS_fst hV ha hb).trans (if_neg q))) 21 0 a ha
theorem mCnt_congr {P Q : Nat → Bool} : ∀ n, (∀ i, i < n → P i = Q i) → mCnt P n = mCnt Q n
  | 0, _ => rfl
  | n + 1, h => by
    rw [mCnt_succ, mCnt_succ, mCnt_congr n (fun i hi => h i (by omega)), h n (Nat.lt_succ_self n)]
theorem mSum_congr {P Q : Nat → Nat} : ∀ n, (∀ i, i < n → P i = Q i) → mSum P n = mSum Q n
  | 0, _ => rfl
  | n + 1, h => by
    rw [mSum_succ, mSum_succ, mSum_congr n (fun i hi => h i (by omega)), h n (Nat.lt_succ_self n)]
theorem zS_pairs (hV : vInv ar fs sn ln nn np mi SS ww) : mSum (fun a => mCnt (fun b => a != b && decide (zFar (zStT ln op) fs sn np nn b a < 99999999)) nn) nn = (jAll fs sn op (-1) np nn).1 := by
  rw [jAll_join hV.1]
  unfold vJoin
  exact mSum_congr nn (fun a ha => mCnt_congr nn (fun b hb => by rw [zS_joined hV ha hb]))
theorem zS_has (hV : vInv ar fs sn ln nn np mi SS ww) : mSum (vHas SS) nn = mSum (zHas SS nn) nn := mSum_congr nn (fun h hh => vHas_z hV (by have := hV.1.2.2.2.2.1; omega) hV.1.2.2.2.2.1)
/-- a sheet's three answers -/
theorem zS_sheet0 {o : Option mS} {len : Nat} {g : Nat → Nat} (h : zVal mi o len g) : vSheetA mi o 0 = if 0 < len then nI (g 0) else -1 := by
  by_cases q : 0 < len
  · obtain ⟨v, e1, e2, e3, e4⟩ := zVal_s h q
    rw [if_pos q, e3, e1]
    rfl
  · rw [if_neg q, zVal_n h (by omega)]
    rfl
theorem zS_sheet1 {o : Option mS} {len : Nat} {g : Nat → Nat} (h : zVal mi o len g) : vSheetA mi o 1 = if 0 < len then nI (g 1) else -1 := by
  by_cases q : 0 < len
  · obtain ⟨v, e1, e2, e3, e4⟩ := zVal_s h q
    rw [if_pos q, e4, e1]
    rfl
  · rw [if_neg q, zVal_n h (by omega)]
    rfl
theorem zS_sheet2 (hV : vInv ar fs sn ln nn np mi SS ww) {j len : Nat} {g : Nat → Nat} (h : zVal mi (SS j) len g) : vSheetA mi (SS j) 2 = if 0 < len then nI (mCnt (fun p => decide (0 < vLen (SS j) p)) np) else -1 := by
  by_cases q : 0 < len
  · obtain ⟨v, e1, e2, e3, e4⟩ := zVal_s h q
    have h0 : ∀ p, np ≤ p → vLen (SS j) p = 0 := fun p hp => hV.len0 hp j
    have h1 := mCnt_none (P := fun p => decide (0 < vLen (SS j) p)) (n := np) (20 - np) (fun i h1 _ => decide_eq_false (by rw [h0 i h1]; omega))
    rw [show np + (20 - np) = 20 by have := hV.1.2.2.2.2.2; omega] at h1
    rw [if_pos q, ← h1, e1]
    rfl
  · rw [if_neg q, zVal_n h (by omega)]
    rfl
end ZS
