/-! WHAT THE CLASS KEEPS, AS NUMBERS: sets of passes and huts counted, what a sheet would tell, steps between huts. -/
def mAny (P : Nat → Bool) : Nat → Bool
  | 0 => false
  | n + 1 => mAny P n || P n
def mCnt (P : Nat → Bool) : Nat → Nat
  | 0 => 0
  | n + 1 => mCnt P n + (if P n = true then 1 else 0)
theorem mAny_succ (P : Nat → Bool) (n : Nat) : mAny P (n + 1) = (mAny P n || P n) := rfl
theorem mCnt_succ (P : Nat → Bool) (n : Nat) : mCnt P (n + 1) = mCnt P n + (if P n = true then 1 else 0) := rfl
theorem mCnt_le (P : Nat → Bool) : ∀ n, mCnt P n ≤ n
  | 0 => Nat.le_refl 0
  | n + 1 => by
    have h := mCnt_le P n
    rw [mCnt_succ]
    split <;> omega
theorem mAny_iff {P : Nat → Bool} : ∀ {n : Nat}, mAny P n = true ↔ ∃ k, k < n ∧ P k = true
  | 0 => by simp [mAny]
  | n + 1 => by
    rw [mAny_succ, Bool.or_eq_true, mAny_iff]
    constructor
    · rintro (⟨k, hk, h⟩ | h)
      · exact ⟨k, by omega, h⟩
      · exact ⟨n, by omega, h⟩
    · rintro ⟨k, hk, h⟩
      rcases Nat.lt_or_ge k n with q | q
      · exact Or.inl ⟨k, q, h⟩
      · have e : k = n := by omega
        subst e
        exact Or.inr h
theorem mAny_no {P : Nat → Bool} {n : Nat} : mAny P n = false ↔ ∀ k, k < n → P k = false := by
  rw [← Bool.not_eq_true, mAny_iff]
  constructor
  · intro h k hk
    cases q : P k with
    | false => rfl
    | true => exact absurd ⟨k, hk, q⟩ h
  · rintro h ⟨k, hk, q⟩
    rw [h k hk] at q
    cases q
theorem mCnt_t {P : Nat → Bool} {n : Nat} (h : P n = true) : mCnt P (n + 1) = mCnt P n + 1 := by rw [mCnt_succ, if_pos h]
theorem mCnt_f {P : Nat → Bool} {n : Nat} (h : P n = false) : mCnt P (n + 1) = mCnt P n := by rw [mCnt_succ, h]; rfl
theorem mCnt_cong {P Q : Nat → Bool} : ∀ {n : Nat}, (∀ k, k < n → P k = Q k) → mCnt P n = mCnt Q n
  | 0, _ => rfl
  | n + 1, h => by rw [mCnt_succ, mCnt_succ, mCnt_cong (fun k hk => h k (by omega)), h n (by omega)]
/-- whether a hut takes in sheets of another -/
def mTakes (ar : Nat → Nat) (h o : Nat) : Bool := ar h == 0 || ar o == 0 || ar h == ar o
/-- the length that a sheet of the hut h written now tells for the pass p; 0 without -/
def mTells (fs sn ln : Nat → Nat) (op : Nat → Bool) (h p : Nat) : Nat := if (fs p = h ∨ sn p = h) ∧ op p = true then ln p else 0
/-- whether the pass p is open and joins the huts a and b -/
def mJoin (fs sn : Nat → Nat) (op : Nat → Bool) (a b p : Nat) : Bool := op p && (fs p == a && sn p == b || fs p == b && sn p == a)
theorem bI_one {b : Bool} (h : b = true) : nI 1 = bI b := by subst h; rfl
theorem bI_zero {b : Bool} (h : b = false) : nI 0 = bI b := by subst h; rfl
theorem nI_wth {w t h : Nat} (hw : h ≤ w) : nI w + (nI t - nI h) = nI (w + t - h) := by
  obtain ⟨d, rfl⟩ : ∃ d, w = d + h := ⟨w - h, by omega⟩
  rw [← nI_add d h, show d + h + t - h = d + t by omega, ← nI_add d t, Int32.add_assoc]
  congr 1
  rw [Int32.sub_eq_add_neg, Int32.add_comm (nI t), ← Int32.add_assoc, Int32.add_right_neg, Int32.zero_add]
/-! the search for ways: one number a way, 1073741824 for none -/
def sFill (b : Nat → Nat) (i : Nat) : Nat → Nat := fun j => if j < i then 1073741824 else b j
theorem sFill_0 (b : Nat → Nat) : sFill b 0 = b := by funext j; simp [sFill]
theorem sFill_succ (b : Nat → Nat) (i : Nat) : va_up (sFill b i) i 1073741824 = sFill b (i + 1) := by
  funext j
  by_cases h : j = i
  · subst h; simp [va_up, sFill]
  · by_cases h2 : j < i
    · simp [va_up, sFill, h, h2, Nat.lt_succ_of_lt h2]
    · simp [va_up, sFill, h, h2, show ¬ j < i + 1 by omega]
def sCand (h f t x w : Nat) : Nat := if f = h then w + (x * 256 + 16) + t - h else w + (x * 256 + 16)
def sStep (h : Nat) (fr to ln : Nat → Nat) (b : Nat → Nat) (i : Nat) : Nat → Nat :=
  if b (fr i) = 1073741824 then b else if sCand h (fr i) (to i) (ln i) (b (fr i)) < b (to i) then va_up b (to i) (sCand h (fr i) (to i) (ln i) (b (fr i))) else b
def sPass (h : Nat) (fr to ln : Nat → Nat) (b : Nat → Nat) : Nat → Nat → Nat
  | 0 => b
  | i + 1 => sStep h fr to ln (sPass h fr to ln b i) i
def sBet (h : Nat) (fr to ln : Nat → Nat) (b : Nat → Nat) (i : Nat) : Bool :=
  if b (fr i) = 1073741824 then false else decide (sCand h (fr i) (to i) (ln i) (b (fr i)) < b (to i))
def sAny (h : Nat) (fr to ln : Nat → Nat) (b : Nat → Nat) : Nat → Bool := mAny (fun i => sBet h fr to ln (sPass h fr to ln b i) i)
def sIter (h : Nat) (fr to ln : Nat → Nat) (k : Nat) (b : Nat → Nat) : Nat → Nat → Nat
  | 0 => b
  | r + 1 => sPass h fr to ln (sIter h fr to ln k b r) k
def sInit (h : Nat) (b : Nat → Nat) : Nat → Nat := va_up (sFill b 10) h h
theorem sStep_no {h : Nat} {fr to ln b : Nat → Nat} {i : Nat} (q : sBet h fr to ln b i = false) : sStep h fr to ln b i = b := by
  unfold sBet at q
  unfold sStep
  split
  · rfl
  · rename_i h1
    rw [if_neg h1] at q
    rw [if_neg (of_decide_eq_false q)]
theorem sPass_no {h : Nat} {fr to ln b : Nat → Nat} : ∀ {k : Nat}, sAny h fr to ln b k = false → sPass h fr to ln b k = b
  | 0, _ => rfl
  | k + 1, q => by
    unfold sAny at q
    rw [mAny_succ, Bool.or_eq_false_iff] at q
    have e := sPass_no (k := k) q.1
    show sStep h fr to ln (sPass h fr to ln b k) k = b
    rw [sStep_no q.2, e]
theorem sIter_stop {h : Nat} {fr to ln b : Nat → Nat} {k r : Nat} (q : sPass h fr to ln (sIter h fr to ln k b r) k = sIter h fr to ln k b r) : ∀ j, sIter h fr to ln k b (r + j) = sIter h fr to ln k b r
  | 0 => rfl
  | j + 1 => by
    show sPass h fr to ln (sIter h fr to ln k b (r + j)) k = _
    rw [sIter_stop q j, q]
theorem sStep_a {h : Nat} {fr to ln b : Nat → Nat} {i : Nat} (q : b (fr i) = 1073741824) : sStep h fr to ln b i = b ∧ sBet h fr to ln b i = false := by
  unfold sStep sBet
  exact ⟨if_pos q, if_pos q⟩
theorem sStep_b {h w : Nat} {fr to ln b : Nat → Nat} {i : Nat} (q : b (fr i) ≠ 1073741824) (hw : w = sCand h (fr i) (to i) (ln i) (b (fr i))) (c : b (to i) ≤ w) : sStep h fr to ln b i = b ∧ sBet h fr to ln b i = false := by
  subst hw
  unfold sStep sBet
  rw [if_neg q, if_neg q, if_neg (by omega)]
  exact ⟨rfl, decide_eq_false (by omega)⟩
theorem sStep_c {h w : Nat} {fr to ln b : Nat → Nat} {i : Nat} (q : b (fr i) ≠ 1073741824) (hw : w = sCand h (fr i) (to i) (ln i) (b (fr i))) (c : w < b (to i)) : sStep h fr to ln b i = va_up b (to i) w ∧ sBet h fr to ln b i = true := by
  subst hw
  unfold sStep sBet
  rw [if_neg q, if_neg q, if_pos c]
  exact ⟨rfl, decide_eq_true c⟩
theorem sUp_b {h k w : Nat} {g : Nat → Nat} (hg : ∀ j, j < 10 → h ≤ g j ∧ g j ≤ 1073741824) (h1 : h ≤ w) (h2 : w ≤ 1073741824) : ∀ j, j < 10 → h ≤ va_up g k w j ∧ va_up g k w j ≤ 1073741824 := by
  intro j hj
  unfold va_up
  split
  · exact ⟨h1, h2⟩
  · exact hg j hj
theorem sInit_b {h : Nat} (b : Nat → Nat) (hh : h < 10) : ∀ j, j < 10 → h ≤ sInit h b j ∧ sInit h b j ≤ 1073741824 := by
  intro j hj
  unfold sInit va_up sFill
  split
  · omega
  · omega
/-! what a sheet of the hut h tells of the first i passes -/
def mSheet (fs sn ln : Nat → Nat) (op : Nat → Bool) (h i : Nat) : Nat → Nat := fun p => if p < i then mTells fs sn ln op h p else 0
theorem mSheet_0 (fs sn ln : Nat → Nat) (op : Nat → Bool) (h : Nat) : mSheet fs sn ln op h 0 = fun _ => 0 := by funext p; simp [mSheet]
theorem mSheet_succ (fs sn ln : Nat → Nat) (op : Nat → Bool) (h i : Nat) : va_up (mSheet fs sn ln op h i) i (mTells fs sn ln op h i) = mSheet fs sn ln op h (i + 1) := by
  funext j
  by_cases h1 : j = i
  · subst h1; simp [va_up, mSheet]
  · by_cases h2 : j < i
    · simp [va_up, mSheet, h1, h2, Nat.lt_succ_of_lt h2]
    · simp [va_up, mSheet, h1, h2, show ¬ j < i + 1 by omega]
def mSame (len fs sn ln : Nat → Nat) (op : Nat → Bool) (h np : Nat) : Bool := !mAny (fun q => len q != mTells fs sn ln op h q) np
theorem mTells_lt {fs sn ln : Nat → Nat} {op : Nat → Bool} {h p : Nat} (hln : ∀ j, ln j < 100) : mTells fs sn ln op h p < 100 := by
  unfold mTells
  split
  · exact hln p
  · decide
