/-! SHEETS AMONG THE POOLED OBJECTS. A sheet is its number, the minute in which it was written, and what it tells. -/
abbrev mS : Type := Nat × Nat × (Nat → Nat)
def kSheet (G : kG) (L : List Nat) (f : Nat → va_E) (y : Nat) (v : mS) : Prop := y ∈ L ∧ ∃ ly, ly ∈ L ∧ f y = .inr (3, [.int (nI v.1), .int (nI v.2.1), .ref ly]) ∧ f ly = .inl (G.2 0, 20, .inl (kI v.2.2)) ∧ (∀ j, v.2.2 j < 100) ∧ v.1 < 2 ^ 31 ∧ v.2.1 < 2 ^ 31
/-- a row of a hundred places for sheets: what stands there is among the pooled -/
def kHeld (G : kG) (L : List Nat) (f : Nat → va_E) (sv : Nat → mS) (hd : Nat → Option Nat) : Prop := ∀ j y, hd j = some y → kSheet G L f y (sv y)
theorem kHeld.up {G : kG} {L : List Nat} {f : Nat → va_E} {sv : Nat → mS} {hd : Nat → Option Nat} (h : kHeld G L f sv hd) (k : Nat) {o : Option Nat} (ho : ∀ y, o = some y → kSheet G L f y (sv y)) : kHeld G L f sv (va_up hd k o) := by
  intro j y hy
  unfold va_up at hy
  split at hy
  · exact ho y hy
  · exact h j y hy
theorem kSheet.at {G : kG} {L : List Nat} {f : Nat → va_E} {y : Nat} {v : mS} (h : kSheet G L f y v) : y ∈ L ∧ ∃ vs, f y = .inr (3, vs) := ⟨h.1, h.2.elim fun _ q => ⟨_, q.2.1⟩⟩
def mSome (o : Option Nat) : Bool := match o with
  | none => false
  | some _ => true
theorem mSome_n {o : Option Nat} (h : o = none) : mSome o = false := by subst h; rfl
theorem mSome_s {o : Option Nat} {y : Nat} (h : o = some y) : mSome o = true := by subst h; rfl
def mSum (f : Nat → Nat) : Nat → Nat
  | 0 => 0
  | n + 1 => mSum f n + f n
theorem mSum_succ (f : Nat → Nat) (n : Nat) : mSum f (n + 1) = mSum f n + f n := rfl
theorem mSum_le {f : Nat → Nat} {c : Nat} : ∀ {n : Nat}, (∀ k, k < n → f k ≤ c) → mSum f n ≤ n * c
  | 0, _ => Nat.zero_le _
  | n + 1, h => by
    have h1 := mSum_le (n := n) (fun k hk => h k (by omega))
    have h2 := h n (by omega)
    rw [mSum_succ, Nat.succ_mul]
    omega
/-- how many sheets a hut has -/
def mHas (hd : Nat → Option Nat) (h : Nat) : Nat := mCnt (fun o => mSome (hd (h * 10 + o))) 10
theorem mHas_le (hd : Nat → Option Nat) (h : Nat) : mHas hd h ≤ 10 := mCnt_le _ 10
/-- the places from which the first i of a hut's were taken away -/
def mBurn (hd : Nat → Option Nat) (h i : Nat) : Nat → Option Nat := fun j => if h * 10 ≤ j ∧ j < h * 10 + i then none else hd j
theorem mBurn_0 (hd : Nat → Option Nat) (h : Nat) : mBurn hd h 0 = hd := by funext j; unfold mBurn; rw [if_neg (by omega)]
theorem mBurn_succ (hd : Nat → Option Nat) (h i : Nat) : va_up (mBurn hd h i) (h * 10 + i) none = mBurn hd h (i + 1) := by
  funext j
  unfold va_up mBurn
  by_cases q : j = h * 10 + i
  · rw [if_pos q, if_pos (by omega)]
  · rw [if_neg q]
    by_cases q2 : h * 10 ≤ j ∧ j < h * 10 + i
    · rw [if_pos q2, if_pos (by omega)]
    · rw [if_neg q2, if_neg (by omega)]
/-- the first i places of one row, the rest of another -/
def mCopy {α : Type} (a b : Nat → α) (i : Nat) : Nat → α := fun j => if j < i then a j else b j
theorem mCopy_0 {α : Type} (a b : Nat → α) : mCopy a b 0 = b := by funext j; simp [mCopy]
theorem mCopy_succ {α : Type} (a b : Nat → α) (i : Nat) : va_up (mCopy a b i) i (a i) = mCopy a b (i + 1) := by
  funext j
  unfold va_up mCopy
  by_cases q : j = i
  · subst q; simp
  · by_cases q2 : j < i
    · simp [q, q2, Nat.lt_succ_of_lt q2]
    · simp [q, q2, show ¬ j < i + 1 by omega]
/-- no ways are kept any more of the first i huts -/
def mForget (wf : Nat → Bool) (i : Nat) : Nat → Bool := mCopy (fun _ => false) wf i
theorem mForget_0 (wf : Nat → Bool) : mForget wf 0 = wf := mCopy_0 _ _
theorem mForget_succ (wf : Nat → Bool) (i : Nat) : va_up (mForget wf i) i false = mForget wf (i + 1) := mCopy_succ (fun _ => false) wf i
def mNumAt (sv : Nat → mS) (o : Option Nat) : Nat := match o with
  | none => 0
  | some y => (sv y).1
/-- whether the sheet y is newer than what stands at a place -/
def mNewer (sv : Nat → mS) (y : Nat) (o : Option Nat) : Bool := match o with
  | none => true
  | some z => decide ((sv z).1 < (sv y).1)
/-- what comes over one pass from a hut to another: of each hut below i -/
def mCarry1 (ar : Nat → Nat) (sv : Nat → mS) (hd cd : Nat → Option Nat) (fr to i : Nat) : Nat → Option Nat :=
  match hd (fr * 10 + i) with
  | none => cd
  | some y => if i ≠ to ∧ mTakes ar to i = true ∧ mNewer sv y (cd (to * 10 + i)) = true then va_up cd (to * 10 + i) (some y) else cd
def mCarry (ar : Nat → Nat) (sv : Nat → mS) (hd cd : Nat → Option Nat) (fr to : Nat) : Nat → Nat → Option Nat
  | 0 => cd
  | i + 1 => mCarry1 ar sv hd (mCarry ar sv hd cd fr to i) fr to i
theorem mCarry1_n {ar : Nat → Nat} {sv : Nat → mS} {hd cd : Nat → Option Nat} {fr to i : Nat} (h : hd (fr * 10 + i) = none) : mCarry1 ar sv hd cd fr to i = cd := by unfold mCarry1; rw [h]
theorem mCarry1_s {ar : Nat → Nat} {sv : Nat → mS} {hd cd : Nat → Option Nat} {fr to i y : Nat} (h : hd (fr * 10 + i) = some y) : mCarry1 ar sv hd cd fr to i = if i ≠ to ∧ mTakes ar to i = true ∧ mNewer sv y (cd (to * 10 + i)) = true then va_up cd (to * 10 + i) (some y) else cd := by unfold mCarry1; rw [h]
theorem mCarry1_held {G : kG} {L : List Nat} {f : Nat → va_E} {ar : Nat → Nat} {sv : Nat → mS} {hd cd : Nat → Option Nat} {fr to i : Nat} (h1 : kHeld G L f sv hd) (h2 : kHeld G L f sv cd) : kHeld G L f sv (mCarry1 ar sv hd cd fr to i) := by
  cases q : hd (fr * 10 + i) with
  | none => rw [mCarry1_n q]; exact h2
  | some y =>
    rw [mCarry1_s q]
    split
    · exact h2.up _ (fun z hz => by cases hz; exact h1 _ _ q)
    · exact h2
theorem mCarry_held {G : kG} {L : List Nat} {f : Nat → va_E} {ar : Nat → Nat} {sv : Nat → mS} {hd cd : Nat → Option Nat} {fr to : Nat} (h1 : kHeld G L f sv hd) (h2 : kHeld G L f sv cd) : ∀ i, kHeld G L f sv (mCarry ar sv hd cd fr to i)
  | 0 => h2
  | i + 1 => mCarry1_held h1 (mCarry_held h1 h2 i)
def mLen (sv : Nat → mS) (o : Option Nat) (p : Nat) : Nat := match o with
  | none => 0
  | some y => (sv y).2.2 p
def mAge (sv : Nat → mS) (mi : Nat) (o : Option Nat) : Nat := match o with
  | none => 0
  | some y => mi - (sv y).2.1
def mOld (sv : Nat → mS) (mi : Nat) (o : Option Nat) : Bool := match o with
  | none => false
  | some y => decide (30 < mi - (sv y).2.1)
/-- whether a hut must write a new sheet of its own -/
def mMust (sv : Nat → mS) (mi : Nat) (fs sn ln : Nat → Nat) (op : Nat → Bool) (h np : Nat) (o : Option Nat) : Bool := match o with
  | none => true
  | some y => decide (20 ≤ mi - (sv y).2.1) || !(mSame (sv y).2.2 fs sn ln op h np)
/-- whether a hut takes a pass for open -/
def mTOpen (sv : Nat → mS) (hd : Nat → Option Nat) (fs sn : Nat → Nat) (h p : Nat) : Bool := decide (0 < mLen sv (hd (h * 10 + fs p)) p) && decide (0 < mLen sv (hd (h * 10 + sn p)) p)
theorem mLen_n {sv : Nat → mS} {o : Option Nat} {p : Nat} (h : o = none) : mLen sv o p = 0 := by subst h; rfl
theorem mLen_s {sv : Nat → mS} {o : Option Nat} {p y : Nat} (h : o = some y) : mLen sv o p = (sv y).2.2 p := by subst h; rfl
/-- what is thrown away of the first i places -/
def mThrow (sv : Nat → mS) (mi : Nat) (hd : Nat → Option Nat) (i : Nat) : Nat → Option Nat := fun j => if j < i ∧ mOld sv mi (hd j) = true then none else hd j
theorem mThrow_0 (sv : Nat → mS) (mi : Nat) (hd : Nat → Option Nat) : mThrow sv mi hd 0 = hd := by funext j; unfold mThrow; rw [if_neg (by omega)]
theorem mThrow_at {sv : Nat → mS} {mi : Nat} {hd : Nat → Option Nat} {i : Nat} : mThrow sv mi hd i i = hd i := by unfold mThrow; rw [if_neg (by omega)]
theorem mThrow_no {sv : Nat → mS} {mi : Nat} {hd : Nat → Option Nat} {i : Nat} (h : mOld sv mi (hd i) = false) : mThrow sv mi hd i = mThrow sv mi hd (i + 1) := by
  funext j
  unfold mThrow
  by_cases q : j = i
  · subst q; rw [if_neg (by simp [h]), if_neg (by simp [h])]
  · by_cases q2 : j < i ∧ mOld sv mi (hd j) = true
    · rw [if_pos q2, if_pos ⟨by omega, q2.2⟩]
    · rw [if_neg q2, if_neg (fun z => q2 ⟨by omega, z.2⟩)]
theorem mThrow_yes {sv : Nat → mS} {mi : Nat} {hd : Nat → Option Nat} {i : Nat} (h : mOld sv mi (hd i) = true) : va_up (mThrow sv mi hd i) i none = mThrow sv mi hd (i + 1) := by
  funext j
  unfold mThrow va_up
  by_cases q : j = i
  · subst q; rw [if_pos rfl, if_pos ⟨by omega, h⟩]
  · rw [if_neg q]
    dsimp only
    by_cases q2 : j < i ∧ mOld sv mi (hd j) = true
    · rw [if_pos q2, if_pos ⟨by omega, q2.2⟩]
    · rw [if_neg q2, if_neg (fun z => q2 ⟨by omega, z.2⟩)]
theorem mCopy_held {G : kG} {L : List Nat} {f : Nat → va_E} {sv : Nat → mS} {a b : Nat → Option Nat} (h1 : kHeld G L f sv a) (h2 : kHeld G L f sv b) (i : Nat) : kHeld G L f sv (mCopy a b i) := by
  intro j y hy
  unfold mCopy at hy
  split at hy
  · exact h1 j y hy
  · exact h2 j y hy
/-- the passes, one after another, carry both ways -/
def mCarryP (ar fs sn : Nat → Nat) (op : Nat → Bool) (nh : Nat) (sv : Nat → mS) (hd cd : Nat → Option Nat) : Nat → Nat → Option Nat
  | 0 => cd
  | q + 1 => if op q = true then mCarry ar sv hd (mCarry ar sv hd (mCarryP ar fs sn op nh sv hd cd q) (fs q) (sn q) nh) (sn q) (fs q) nh else mCarryP ar fs sn op nh sv hd cd q
theorem mCarryP_held {G : kG} {L : List Nat} {f : Nat → va_E} {ar fs sn : Nat → Nat} {op : Nat → Bool} {nh : Nat} {sv : Nat → mS} {hd cd : Nat → Option Nat} (h1 : kHeld G L f sv hd) (h2 : kHeld G L f sv cd) : ∀ q, kHeld G L f sv (mCarryP ar fs sn op nh sv hd cd q)
  | 0 => h2
  | q + 1 => by
    unfold mCarryP
    split
    · exact mCarry_held h1 (mCarry_held h1 (mCarryP_held h1 h2 q) _) _
    · exact mCarryP_held h1 h2 q
