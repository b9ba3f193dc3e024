/-! WHAT THE LAW ASKS, OF VALUES ALONE. -/
theorem lI_m1 {n : Nat} (h : n < 2 ^ 31) : ¬ nI n < -1 := by
  rw [Int32.lt_iff_toInt_lt, nI_toInt h]
  have : (-1 : Int32).toInt = -1 := by decide
  omega
theorem lI_ml {n : Nat} (h : n < 2 ^ 31) : ¬ nI n ≤ -1 := by
  rw [Int32.le_iff_toInt_le, nI_toInt h]
  have : (-1 : Int32).toInt = -1 := by decide
  omega
theorem lI_n0 {n : Nat} (h : n < 2 ^ 31) : ¬ nI n < 0 := by
  rw [Int32.lt_iff_toInt_lt, nI_toInt h]
  have : (0 : Int32).toInt = 0 := by decide
  omega
theorem lI_le {n k : Nat} (h : n ≤ k) (hk : k < 2 ^ 31) : nI n ≤ nI k := by
  rw [Int32.le_iff_toInt_le, nI_toInt (Nat.lt_of_le_of_lt h hk), nI_toInt hk]
  omega
/-! walks -/
theorem lSelf {E : Nat → Nat → Nat → Prop} {N a v : Nat} (hN : N ≤ 10) (h : gBest E N a a v) : v ≠ 1073741824 ∧ v / 256 = 0 ∧ v % 256 / 16 = 0 ∧ v % 16 = a := by
  have hv : v ≠ 1073741824 := by
    have := gBest_lt hN h ⟨[], rfl⟩
    omega
  obtain ⟨w, b1, b2, b3, b4, b5, b6, b7, b8, b9⟩ := gBest_read hN h hv
  cases w with
  | nil => exact ⟨hv, b6, b7, b8⟩
  | cons q w =>
    exfalso
    rcases gW_last b1 with ⟨e1, -⟩ | ⟨w2, m, x, e1, -, -⟩
    · cases e1
    · rw [List.nodup_cons] at b2
      refine b2.1 ?_
      rw [e1]
      simp [gV]
theorem lMin {E : Nat → Nat → Nat → Prop} {N a b v : Nat} (hN : N ≤ 10) (hE : ∀ a b x, E a b x → a < N ∧ b < N) (ha : a < N) (h : gBest E N a b v) {w2 : List (Nat × Nat)} (h2 : gW E a w2 b) : v ≠ 1073741824 ∧ v / 256 ≤ gL w2 := by
  have hv : v ≠ 1073741824 := by
    have := gBest_lt hN h ⟨w2, h2⟩
    omega
  refine ⟨hv, ?_⟩
  obtain ⟨w, b1, b2, b3, b4, b5, b6, b7, b8, b9⟩ := gBest_read hN h hv
  obtain ⟨w3, k1, k2, k3, k4, k5⟩ := gW_simple w2.length w2 a b (Nat.le_refl _) h2
  have k6 := gW_len hE ha k1 k2
  have k7 := gF_lt hE ha k1
  have h9 := b9 w3 k1
  unfold gC at h9
  omega
theorem lStep {E : Nat → Nat → Nat → Prop} {N a b v : Nat} (hN : N ≤ 10) (hx : ∀ a b x, E a b x → 0 < x) (hab : a ≠ b) (h : gBest E N a b v) (hv : v ≠ 1073741824) : 1 ≤ v % 256 / 16 ∧ v % 256 / 16 < N ∧ v % 256 / 16 ≤ v / 256 ∧ v % 16 ≠ a ∧ v % 16 < N ∧ (v % 256 / 16 = 1 → v % 16 = b) ∧ v / 256 < 1000 ∧ (∃ x, E a (v % 16) x) ∧ ∃ m x, E m b x := by
  obtain ⟨w, b1, b2, b3, b4, b5, b6, b7, b8, b9⟩ := gBest_read hN h hv
  rw [b6, b7, b8]
  have hg := gL_ge hx b1
  have hl : ∃ m x, E m b x := by
    rcases gW_last b1 with ⟨e1, e2⟩ | ⟨w2, m, x, e1, e2, e3⟩
    · exact absurd e2 hab
    · exact ⟨m, x, e3⟩
  cases w with
  | nil => exact absurd b1 hab
  | cons q w =>
    have e1 : (q :: w).length = w.length + 1 := rfl
    have e2 : gF a (q :: w) = q.1 := rfl
    have e3 : a ≠ q.1 := by
      have e : (a :: q.1 :: gV w).Nodup := b2
      rw [List.nodup_cons] at e
      exact fun z => e.1 (z ▸ List.mem_cons_self)
    refine ⟨by omega, by omega, hg, by rw [e2]; exact fun z => e3 z.symm, b5, fun z => ?_, by omega, ⟨q.2, b1.1⟩, hl⟩
    have e4 : w = [] := List.length_eq_zero_iff.mp (by omega)
    subst e4
    exact b1.2
theorem mLet_lt {wy : Nat → Nat → Nat} {st : Nat → Nat → Bool} {to : Nat} : ∀ {n k a v : Nat}, mLet wy st to n k a = some v → v < k + n
  | 0, _, _, _, h => by cases h
  | n + 1, k, a, v, h => by
    by_cases e : a = to
    · rw [mLet_at e] at h
      cases h
      omega
    · unfold mLet at h
      rw [if_neg e] at h
      split at h
      · cases h
      · have := mLet_lt h
        omega
theorem vFst_some {P : Nat → Bool} : ∀ {n m k : Nat}, vFst P n m = some k → m ≤ k ∧ k < m + n ∧ P k = true
  | 0, _, _, h => by cases h
  | n + 1, m, k, h => by
    cases q : P m with
    | true =>
      rw [vFst_t q] at h
      cases h
      exact ⟨Nat.le_refl _, by omega, q⟩
    | false =>
      rw [vFst_f q] at h
      have := vFst_some h
      exact ⟨by omega, by omega, this.2.2⟩
theorem vFst_no {P : Nat → Bool} : ∀ {n m : Nat}, vFst P n m = none → ∀ k, m ≤ k → k < m + n → P k = false
  | 0, _, _, k, h1, h2 => by omega
  | n + 1, m, h, k, h1, h2 => by
    cases q : P m with
    | true =>
      rw [vFst_t q] at h
      cases h
    | false =>
      rw [vFst_f q] at h
      by_cases e : k = m
      · rw [e]; exact q
      · exact vFst_no h k (by omega) (by omega)
theorem mCnt_mono {P Q : Nat → Bool} : ∀ n, (∀ i, i < n → P i = true → Q i = true) → mCnt P n ≤ mCnt Q n
  | 0, _ => Nat.le_refl _
  | n + 1, h => by
    have h1 := mCnt_mono n (fun i hi => h i (by omega))
    have h2 := h n (Nat.lt_succ_self n)
    rw [mCnt_succ, mCnt_succ]
    cases e : P n with
    | false =>
      rw [if_neg (by decide)]
      omega
    | true =>
      rw [if_pos rfl, if_pos (h2 e)]
      omega
theorem mSum_mono {f g : Nat → Nat} : ∀ n, (∀ i, i < n → f i ≤ g i) → mSum f n ≤ mSum g n
  | 0, _ => Nat.le_refl _
  | n + 1, h => by
    have h1 := mSum_mono n (fun i hi => h i (by omega))
    have h2 := h n (Nat.lt_succ_self n)
    rw [mSum_succ, mSum_succ]
    omega
theorem mCnt_zero {P : Nat → Bool} : ∀ n, (∀ i, i < n → P i = false) → mCnt P n = 0
  | 0, _ => rfl
  | n + 1, h => by rw [mCnt_f (h n (Nat.lt_succ_self n)), mCnt_zero n (fun i hi => h i (by omega))]
theorem mCnt_pos {P : Nat → Bool} {i : Nat} (hp : P i = true) : ∀ n, i < n → 0 < mCnt P n
  | 0, h => by omega
  | n + 1, h => by
    rw [mCnt_succ]
    by_cases e : i = n
    · rw [← e, if_pos hp]
      omega
    · have := mCnt_pos hp n (by omega)
      omega
theorem lAnd1 {P : Nat → Bool} {h : Nat} (hp : P h = false) : bI (!mAny P h) &&& nI 1 = bI (!mAny P (h + 1)) := by
  rw [mAny_succ, hp, Bool.or_false]
  cases mAny P h <;> rfl
theorem lAnd0 {P : Nat → Bool} {h : Nat} (hp : P h = true) : bI (!mAny P h) &&& nI 0 = bI (!mAny P (h + 1)) := by
  rw [mAny_succ, hp, Bool.or_true]
  cases mAny P h <;> rfl
theorem lW_n {w : Nat} (hw : w / 256 < 2 ^ 31) (h : mWayA w 0 < 0) : w = 1073741824 := by
  by_cases q : w = 1073741824
  · exact q
  · rw [mWayA_s q, if_pos rfl] at h
    exact absurd h (lI_n0 hw)
theorem lW_s {w : Nat} (h : ¬ mWayA w 0 < 0) : w ≠ 1073741824 := fun q => by
  rw [← mWayA_n q] at h
  exact h (by decide)
theorem lT_n {w : Nat} (hw : w / 256 < 2 ^ 31) (h : mTruthA w < 0) : w = 1073741824 := by
  by_cases q : w = 1073741824
  · exact q
  · unfold mTruthA at h
    rw [if_neg q] at h
    exact absurd h (lI_n0 hw)
theorem lT_s {w : Nat} (h : ¬ mTruthA w < 0) : w ≠ 1073741824 ∧ mTruthA w = nI (w / 256) := by
  by_cases q : w = 1073741824
  · exfalso
    unfold mTruthA at h
    rw [if_pos q] at h
    exact h (by decide)
  · exact ⟨q, by unfold mTruthA; rw [if_neg q]⟩
theorem lT_u {w : Nat} (h : w = 1073741824) : mTruthA w = -1 := by
  unfold mTruthA
  rw [if_pos h]
section LW
variable {ar fs sn ln : Nat → Nat} {op : Nat → Bool} {nn np mi : Nat} {SS : Nat → Option mS} {ww : Nat → Nat}
theorem lS_s (hV : vInv ar fs sn ln nn np mi SS ww) {a b : Nat} {v : mS} (ha : a < nn) (hb : b < nn) (h : SS (a * 10 + b) = some v) : 0 < v.1 ∧ v.1 ≤ ww b ∧ mi - v.2.1 ≤ 30 ∧ (a = b → v.1 = ww a ∧ mi - v.2.1 ≤ 20) ∧ (a ≠ b → ar a ≠ 0 → ar b ≠ 0 → ar a = ar b) ∧ ww b ≤ mi ∧ ww a ≤ mi := by
  have hn := hV.1.2.2.2.2.1
  obtain ⟨a1, a2, a3, a4, a5, a6, a7, a8, a9, a10⟩ := hV.2.2.1 a b v (by omega) (by omega) h
  refine ⟨a3, a4, by omega, fun e => ?_, fun q q1 q2 => ?_, hV.2.2.2.2.2.2 b, hV.2.2.2.2.2.2 a⟩
  · have := a10 e
    exact ⟨by rw [e]; exact this.1, by omega⟩
  · rcases a9 with e | e
    · exact absurd e q
    · unfold mTakes at e
      simp only [Bool.or_eq_true, beq_iff_eq] at e
      omega
theorem lEdge {h x y z : Nat} (hE : gEH SS fs sn np h x y z) : 0 < z ∧ (∃ v, SS (h * 10 + x) = some v) ∧ ∃ v, SS (h * 10 + y) = some v := by
  obtain ⟨p, side, hp, hs, e1, e2, e3, e4⟩ := hE
  have some_of : ∀ {o : Option mS}, 0 < vLen o p → ∃ v, o = some v := fun {o} q => by
    cases o with
    | none => exact absurd q (Nat.not_lt_zero _)
    | some v => exact ⟨v, rfl⟩
  cases q : vTOpen SS fs sn h p with
  | false =>
    rw [zStH_f q] at e4
    omega
  | true =>
    rw [zStH_t q] at e3
    unfold vTOpen at q
    rw [Bool.and_eq_true, decide_eq_true_iff, decide_eq_true_iff] at q
    have hz : zEnd fs sn p side = x := e1
    rw [hz] at e3
    have e5 : z = vLen (SS (h * 10 + x)) p := by omega
    have hxy : (x = fs p ∧ y = sn p) ∨ (x = sn p ∧ y = fs p) := by
      rcases (show side = 0 ∨ side = 1 by omega) with e | e
      · subst e
        exact Or.inl ⟨e1.symm, e2.symm⟩
      · subst e
        exact Or.inr ⟨e1.symm, e2.symm⟩
    rcases hxy with ⟨c1, c2⟩ | ⟨c1, c2⟩
    · rw [c1, c2]
      rw [c1] at e5
      exact ⟨by omega, some_of q.1, some_of q.2⟩
    · rw [c1, c2]
      rw [c1] at e5
      exact ⟨by omega, some_of q.2, some_of q.1⟩
theorem lBestH (hV : vInv ar fs sn ln nn np mi SS ww) {h k : Nat} (hh : h < nn) (hk : k < nn) : gBest (gEH SS fs sn np h) nn h k (vWay SS fs sn np h k) :=
  vWay_best hV.1.1 hV.1.2.1 (zS_hsl hV) (zS_he hV) hV.1.2.2.2.2.1 hh (by have := hV.1.2.2.2.2.1; omega)
theorem lBestT (hV : vInv ar fs sn ln nn np mi SS ww) {h k : Nat} (hh : h < nn) (hk : k < nn) : gBest (gET fs sn ln op np) nn h k (mTruth fs sn ln op np h k) :=
  mTruth_best hV.1.1 hV.1.2.1 hV.1.2.2.1 (zS_he hV) hV.1.2.2.2.2.1 hh (by have := hV.1.2.2.2.2.1; omega)
theorem lLtT (hV : vInv ar fs sn ln nn np mi SS ww) : ∀ a b x, gET fs sn ln op np a b x → a < nn ∧ b < nn := zE_lt (zOk_T hV.1.2.2.1 (zS_he hV))
theorem lPosT (hV : vInv ar fs sn ln nn np mi SS ww) : ∀ a b x, gET fs sn ln op np a b x → 0 < x := fun a b x h => by
  obtain ⟨p, hp, -, h1, -⟩ := (gET_iff hV.1.2.2.1).mp h
  have := (hV.1.2.2.2.1 p hp).2.2.2
  omega
theorem lSmall {E : Nat → Nat → Nat → Prop} {N a b v : Nat} (hN : N ≤ 10) (h : gBest E N a b v) : v / 256 < 2 ^ 31 := by
  by_cases q : v = 1073741824
  · omega
  · obtain ⟨w, b1, b2, b3, b4, b5, b6, b7, b8, b9⟩ := gBest_read hN h q
    omega
theorem lKnown (hV : vInv ar fs sn ln nn np mi SS ww) {a b : Nat} (ha : a < nn) (hb : b < nn) (hab : a ≠ b) (hW : vWay SS fs sn np a b ≠ 1073741824) :
    ∃ d q f v1 v2 v3, mWayA (vWay SS fs sn np a b) 0 = nI d ∧ mWayA (vWay SS fs sn np a b) 1 = nI q ∧ mWayA (vWay SS fs sn np a b) 2 = nI f ∧ 1 ≤ q ∧ q < nn ∧ q ≤ d ∧ f ≠ a ∧ f < nn ∧ (q = 1 → f = b) ∧ d < 1000 ∧ SS (a * 10 + a) = some v1 ∧ SS (a * 10 + b) = some v2 ∧ SS (a * 10 + f) = some v3 ∧ v1.1 ≤ mi ∧ v2.1 ≤ mi ∧ v3.1 ≤ mi := by
  obtain ⟨h1, h2, h3, h4, h5, h6, h7, ⟨x, h8⟩, m, y, h9⟩ := lStep hV.1.2.2.2.2.1 (fun _ _ _ z => (lEdge z).1) hab (lBestH hV ha hb) hW
  obtain ⟨-, ⟨v1, s1⟩, v3, s3⟩ := lEdge h8
  obtain ⟨-, -, v2, s2⟩ := lEdge h9
  have g1 := lS_s hV ha ha s1
  have g2 := lS_s hV ha hb s2
  have g3 := lS_s hV ha h5 s3
  exact ⟨_, _, _, v1, v2, v3, by rw [mWayA_s hW, if_pos rfl], by rw [mWayA_s hW, if_neg (by decide), if_pos rfl], by rw [mWayA_s hW, if_neg (by decide), if_neg (by decide)], h1, h2, h3, h4, h5, h6, h7, s1, s2, s3, by omega, by omega, by omega⟩
theorem lTself (hV : vInv ar fs sn ln nn np mi SS ww) {a : Nat} (ha : a < nn) : mTruth fs sn ln op np a a ≠ 1073741824 ∧ mTruthA (mTruth fs sn ln op np a a) = nI 0 := by
  obtain ⟨h1, h2, -, -⟩ := lSelf hV.1.2.2.2.2.1 (lBestT (op := op) hV ha ha)
  refine ⟨h1, ?_⟩
  unfold mTruthA
  rw [if_neg h1, h2]
theorem lPself {a : Nat} : mOI (mPost (fun i => vWay SS fs sn np i) (mSt fs sn op np) a a) = nI 0 := by
  rw [mPost_self]
  rfl
theorem lWself (hV : vInv ar fs sn ln nn np mi SS ww) {a : Nat} (ha : a < nn) : vWay SS fs sn np a a ≠ 1073741824 ∧ mWayA (vWay SS fs sn np a a) 0 = nI 0 ∧ mWayA (vWay SS fs sn np a a) 1 = nI 0 ∧ mWayA (vWay SS fs sn np a a) 2 = nI a := by
  obtain ⟨h1, h2, h3, h4⟩ := lSelf hV.1.2.2.2.2.1 (lBestH hV ha ha)
  exact ⟨h1, by rw [mWayA_s h1, if_pos rfl, h2], by rw [mWayA_s h1, if_neg (by decide), if_pos rfl, h3], by rw [mWayA_s h1, if_neg (by decide), if_neg (by decide), h4]⟩
theorem lPost (hV : vInv ar fs sn ln nn np mi SS ww) {a b k : Nat} (hab : a ≠ b) (h : mPost (fun i => vWay SS fs sn np i) (mSt fs sn op np) a b = some k) : vWay SS fs sn np a b ≠ 1073741824 ∧ 1 ≤ k ∧ k ≤ 20 ∧ ∃ w, gW (gET fs sn ln op np) a w b := by
  obtain ⟨h1, h2⟩ := mLet_walk hV.1.2.2.1 h
  have h3 := mLet_ge h
  have h4 := mLet_lt h
  refine ⟨h2 hab, ?_, by omega, h1⟩
  rcases Nat.lt_or_ge 0 k with z | z
  · exact z
  · exact absurd (h3.2 (by omega)) hab
theorem lTru (hV : vInv ar fs sn ln nn np mi SS ww) {a b : Nat} (ha : a < nn) (hb : b < nn) (hab : a ≠ b) (hT : mTruth fs sn ln op np a b ≠ 1073741824) : ∃ t, mTruthA (mTruth fs sn ln op np a b) = nI t ∧ 0 < t ∧ t < 1000 := by
  obtain ⟨h1, h2, h3, h4, h5, h6, h7, -, -⟩ := lStep hV.1.2.2.2.2.1 (lPosT (op := op) hV) hab (lBestT hV ha hb) hT
  exact ⟨_, by unfold mTruthA; rw [if_neg hT], by omega, h7⟩
/-- the four kinds of pairs -/
theorem lPair (hV : vInv ar fs sn ln nn np mi SS ww) {a b : Nat} (ha : a < nn) (hb : b < nn) :
    (a = b ∧ mWayA (vWay SS fs sn np a b) 0 = nI 0 ∧ mWayA (vWay SS fs sn np a b) 1 = nI 0 ∧ mWayA (vWay SS fs sn np a b) 2 = nI a ∧ mOI (mPost (fun i => vWay SS fs sn np i) (mSt fs sn op np) a b) = nI 0 ∧ mTruthA (mTruth fs sn ln op np a b) = nI 0) ∨
    (a ≠ b ∧ mWayA (vWay SS fs sn np a b) 0 = -1 ∧ mWayA (vWay SS fs sn np a b) 1 = -1 ∧ mWayA (vWay SS fs sn np a b) 2 = -1 ∧ mOI (mPost (fun i => vWay SS fs sn np i) (mSt fs sn op np) a b) = -1) ∨
    (a ≠ b ∧ vWay SS fs sn np a b ≠ 1073741824 ∧ mOI (mPost (fun i => vWay SS fs sn np i) (mSt fs sn op np) a b) = -1) ∨
    (a ≠ b ∧ vWay SS fs sn np a b ≠ 1073741824 ∧ ∃ k t, mOI (mPost (fun i => vWay SS fs sn np i) (mSt fs sn op np) a b) = nI k ∧ mTruthA (mTruth fs sn ln op np a b) = nI t ∧ 1 ≤ k ∧ k ≤ 20 ∧ 0 < t ∧ t < 1000) := by
  by_cases hab : a = b
  · subst hab
    obtain ⟨-, w1, w2, w3⟩ := lWself hV ha
    exact Or.inl ⟨rfl, w1, w2, w3, lPself, (lTself hV ha).2⟩
  · right
    cases q : mPost (fun i => vWay SS fs sn np i) (mSt fs sn op np) a b with
    | none =>
      by_cases hW : vWay SS fs sn np a b = 1073741824
      · exact Or.inl ⟨hab, (mWayA_n hW).symm, (mWayA_n hW).symm, (mWayA_n hW).symm, rfl⟩
      · exact Or.inr (Or.inl ⟨hab, hW, rfl⟩)
    | some k =>
      obtain ⟨p1, p2, p3, w, p4⟩ := lPost (op := op) hV hab q
      obtain ⟨t, t1, t2, t3⟩ := lTru hV ha hb hab (lMin hV.1.2.2.2.2.1 (lLtT hV) ha (lBestT (op := op) hV ha hb) p4).1
      exact Or.inr (Or.inr ⟨hab, p1, k, t, rfl, t1, p2, p3, t2, t3⟩)
theorem lSym (hV : vInv ar fs sn ln nn np mi SS ww) {a b : Nat} (ha : a < nn) (hb : b < nn) : mTruthA (mTruth fs sn ln op np b a) = mTruthA (mTruth fs sn ln op np a b) := by
  have hN := hV.1.2.2.2.2.1
  have go : ∀ {x y : Nat}, x < nn → y < nn → mTruth fs sn ln op np x y ≠ 1073741824 → mTruth fs sn ln op np y x ≠ 1073741824 ∧ mTruth fs sn ln op np y x / 256 ≤ mTruth fs sn ln op np x y / 256 := fun {x y} hx hy hT => by
    obtain ⟨w, b1, b2, b3, b4, b5, b6, b7, b8, b9⟩ := gBest_read hN (lBestT (op := op) hV hx hy) hT
    obtain ⟨w2, e1, e2, e3⟩ := gW_rev b1
    have := lMin hN (lLtT hV) hy (lBestT (op := op) hV hy hx) e1
    exact ⟨this.1, by omega⟩
  by_cases q : mTruth fs sn ln op np a b = 1073741824
  · have q2 : mTruth fs sn ln op np b a = 1073741824 := by
      by_cases z : mTruth fs sn ln op np b a = 1073741824
      · exact z
      · exact absurd q (go hb ha z).1
    rw [lT_u q, lT_u q2]
  · have h1 := go ha hb q
    have h2 := go hb ha h1.1
    unfold mTruthA
    rw [if_neg q, if_neg h1.1]
    congr 1
    omega
theorem lT0 (hV : vInv ar fs sn ln nn np mi SS ww) {a b : Nat} (ha : a < nn) (hb : b < nn) : mTruthA (mTruth fs sn ln op np a b) = 0 ↔ a = b := by
  constructor
  · intro h
    by_cases hab : a = b
    · exact hab
    · exfalso
      by_cases q : mTruth fs sn ln op np a b = 1073741824
      · rw [lT_u q] at h
        exact absurd h (by decide)
      · obtain ⟨t, t1, t2, t3⟩ := lTru hV ha hb hab q
        rw [t1] at h
        exact nI_ne0 t2 (by omega) h
  · intro e
    subst e
    exact (lTself hV ha).2
theorem lTri (hV : vInv ar fs sn ln nn np mi SS ww) {a b k : Nat} (ha : a < nn) (hb : b < nn) (hk : k < nn) (h1 : mTruth fs sn ln op np a k ≠ 1073741824) (h2 : mTruth fs sn ln op np k b ≠ 1073741824) :
    mTruth fs sn ln op np a b ≠ 1073741824 ∧ mTruthA (mTruth fs sn ln op np a b) ≤ nI (mTruth fs sn ln op np a k / 256 + mTruth fs sn ln op np k b / 256) := by
  have hN := hV.1.2.2.2.2.1
  obtain ⟨w, b1, b2, b3, b4, b5, b6, b7, b8, b9⟩ := gBest_read hN (lBestT (op := op) hV ha hk) h1
  obtain ⟨z, d1, d2, d3, d4, d5, d6, d7, d8, d9⟩ := gBest_read hN (lBestT (op := op) hV hk hb) h2
  obtain ⟨q1, q2⟩ := lMin hN (lLtT hV) ha (lBestT (op := op) hV ha hb) (gW_trans b1 d1)
  rw [gL_app] at q2
  refine ⟨q1, ?_⟩
  unfold mTruthA
  rw [if_neg q1]
  exact lI_le (by omega) (by omega)
theorem lTri1 (hV : vInv ar fs sn ln nn np mi SS ww) {a b k : Nat} (ha : a < nn) (hb : b < nn) (hk : k < nn) (h1 : mTruth fs sn ln op np a k ≠ 1073741824) (h2 : mTruth fs sn ln op np k b ≠ 1073741824) : ¬ mTruthA (mTruth fs sn ln op np a b) < 0 := by
  obtain ⟨q1, -⟩ := lTri (op := op) hV ha hb hk h1 h2
  unfold mTruthA
  rw [if_neg q1]
  exact lI_n0 (lSmall hV.1.2.2.2.2.1 (lBestT (op := op) hV ha hb))
/-- where all ways are known as in truth -/
theorem lQw {a b : Nat} (h : vWay SS fs sn np a b = mTruth fs sn ln op np a b) : mWayA (vWay SS fs sn np a b) 0 = mTruthA (mTruth fs sn ln op np a b) := by
  rw [h]
  unfold mTruthA
  by_cases q : mTruth fs sn ln op np a b = 1073741824
  · rw [← mWayA_n q, if_pos q]
  · rw [mWayA_s q, if_pos rfl, if_neg q]
theorem lQ (hV : vInv ar fs sn ln nn np mi SS ww) {a b : Nat} (ha : a < nn) (hb : b < nn) (h : ∀ x y, x < nn → y < nn → vWay SS fs sn np x y = mTruth fs sn ln op np x y) :
    (∃ q t, mOI (mPost (fun i => vWay SS fs sn np i) (mSt fs sn op np) a b) = nI q ∧ mTruthA (mTruth fs sn ln op np a b) = nI t ∧ mWayA (vWay SS fs sn np a b) 1 = nI q ∧ q < 2 ^ 31 ∧ t < 2 ^ 31) ∨
    (mOI (mPost (fun i => vWay SS fs sn np i) (mSt fs sn op np) a b) = -1 ∧ mTruthA (mTruth fs sn ln op np a b) = -1 ∧ mWayA (vWay SS fs sn np a b) 1 = -1) := by
  rw [qPost (wy := fun i => vWay SS fs sn np i) hV.1 ha hb (fun x hx => h x b hx hb), h a b ha hb]
  by_cases q : mTruth fs sn ln op np a b = 1073741824
  · exact Or.inr ⟨by rw [if_pos q]; rfl, lT_u q, (mWayA_n q).symm⟩
  · exact Or.inl ⟨_, _, by rw [if_neg q]; rfl, by unfold mTruthA; rw [if_neg q], by rw [mWayA_s q, if_neg (by decide), if_pos rfl], by omega, lSmall hV.1.2.2.2.2.1 (lBestT (op := op) hV ha hb)⟩
/-! counts -/
theorem lCW (hV : vInv ar fs sn ln nn np mi SS ww) {a : Nat} (ha : a < nn) : mCnt (fun k => (mPost (fun i => vWay SS fs sn np i) (mSt fs sn op np) a k).isSome) nn ≤ mCnt (fun k => vWay SS fs sn np a k != 1073741824) nn := mCnt_mono nn (fun k hk h => by
  refine bne_iff_ne.mpr ?_
  by_cases e : a = k
  · subst e
    exact (lWself hV ha).1
  · cases q : mPost (fun i => vWay SS fs sn np i) (mSt fs sn op np) a k with
    | none =>
      rw [q] at h
      cases h
    | some z => exact (lPost (op := op) hV e q).1)
theorem lLP (hV : vInv ar fs sn ln nn np mi SS ww) : mSum (fun a => mCnt (fun b => a != b && (mPost (fun i => vWay SS fs sn np i) (mSt fs sn op np) a b).isSome) nn) nn ≤ mSum (fun a => mCnt (fun b => a != b && (mTruth fs sn ln op np a b != 1073741824)) nn) nn := mSum_mono nn (fun a ha => mCnt_mono nn (fun b hb h => by
  rw [Bool.and_eq_true] at h ⊢
  refine ⟨h.1, ?_⟩
  cases q : mPost (fun i => vWay SS fs sn np i) (mSt fs sn op np) a b with
  | none =>
    rw [q] at h
    cases h.2
  | some z =>
    obtain ⟨-, -, -, hw⟩ := lPost (op := op) hV (bne_iff_ne.mp h.1) q
    exact (mTruth_cn hV.1 ha (by have := hV.1.2.2.2.2.1; omega)).mpr hw))
theorem lJoin (hV : vInv ar fs sn ln nn np mi SS ww) : (jAll fs sn op (-1) np nn).1 = mSum (fun a => mCnt (fun b => a != b && (mTruth fs sn ln op np a b != 1073741824)) nn) nn := jAll_join hV.1
theorem lAll {P : Nat → Bool} {n : Nat} (h : (!mAny P n) = true) : ∀ j, j < n → P j = false := mAny_no.mp (by simpa using h)
theorem lTenP (hV : vInv ar fs sn ln nn np mi SS ww) (hA : ∀ j, j < nn → ar j = 0) : vPairs (vMins ar fs sn ln op nn np mi (SS, ww, 0) 10).1 fs sn op nn np = (jAll fs sn op (-1) np nn).1 := by
  rw [lJoin hV]
  refine mSum_congr nn (fun a ha => mCnt_congr nn (fun b hb => ?_))
  rw [qPost (wy := fun h => vWay (vMins ar fs sn ln op nn np mi (SS, ww, 0) 10).1 fs sn np h) hV.1 ha hb (fun x hx => qTen hV hA hx (by have := hV.1.2.2.2.2.1; omega))]
  by_cases q : mTruth fs sn ln op np a b = 1073741824
  · rw [if_pos q, q]
    rfl
  · rw [if_neg q, bne_iff_ne.mpr q]
    rfl
theorem lSet_n (hV : vInv ar fs sn ln nn np mi SS ww) (h : vSettles ar fs sn ln op nn np mi SS ww = none) : vPairs SS fs sn op nn np ≠ (jAll fs sn op (-1) np nn).1 ∧ ¬ ∀ j, j < nn → ar j = 0 := by
  by_cases q : vPairs SS fs sn op nn np = (jAll fs sn op (-1) np nn).1
  · rw [vSettles_0 q] at h
    cases h
  · refine ⟨q, fun hA => ?_⟩
    rw [vSettles_1 q] at h
    have := vFst_no h 10 (by decide) (by decide)
    rw [decide_eq_false_iff_not] at this
    exact this (lTenP hV hA)
theorem lSet_s {g : Nat} (h : vSettles ar fs sn ln op nn np mi SS ww = some g) : g ≤ 40 ∧ (g = 0 → vPairs SS fs sn op nn np = (jAll fs sn op (-1) np nn).1) ∧ (0 < g → vPairs SS fs sn op nn np ≠ (jAll fs sn op (-1) np nn).1 ∧ vPairs (vMins ar fs sn ln op nn np mi (SS, ww, 0) g).1 fs sn op nn np = (jAll fs sn op (-1) np nn).1) := by
  by_cases q : vPairs SS fs sn op nn np = (jAll fs sn op (-1) np nn).1
  · rw [vSettles_0 q] at h
    cases h
    exact ⟨by decide, fun _ => q, fun z => absurd z (Nat.lt_irrefl _)⟩
  · rw [vSettles_1 q] at h
    obtain ⟨h1, h2, h3⟩ := vFst_some h
    exact ⟨by omega, fun z => by omega, fun _ => ⟨q, of_decide_eq_true h3⟩⟩
theorem lTen (hV : vInv ar fs sn ln nn np mi SS ww) (hA : ∀ j, j < nn → ar j = 0) : ∀ x y, x < nn → y < nn → vWay (vMins ar fs sn ln op nn np mi (SS, ww, 0) 10).1 fs sn np x y = mTruth fs sn ln op np x y := fun x y hx hy => qTen hV hA hx (by have := hV.1.2.2.2.2.1; omega)
end LW
/-! the script: a row of int whose class the tables needn't name -/
theorem va_Xm {b len : Nat} {xs : Nat → Int32} {s U : State} {H H1 : Heap} (hvm : s.vm.Alike U.vm) (he : H1[b]? = H[b]?) (h : va_X b len xs s H) : va_X b len xs U H1 := by
  obtain ⟨scr, h1, h2, h3, h4, h5⟩ := h
  exact ⟨scr, he.trans h1, State.isArrayOf_alike hvm h2, h3, h4, h5⟩
theorem va_Xlt {b len : Nat} {xs : Nat → Int32} {s : State} {H : Heap} (h : va_X b len xs s H) : b < H.size := by
  obtain ⟨scr, h1, -⟩ := h
  exact (Array.getElem?_eq_some_iff.mp h1).1
def cPreX (b len : Nat) (xs : Nat → Int32) (av : List Value) : Array Value → State → Prop := fun v U => v = av.toArray ∧ va_X b len xs U U.heap
theorem cX_S {b len : Nat} {xs : Nat → Int32} {s : State} {A : Nat → Prop} {H : Heap} {locs : List Loc} {As : List Value} (hX : va_X b len xs s s.heap) (hbA : ¬ A b) (hS : va_S A s.heap H locs) : PreS s H (cPreX b len xs As) As :=
  ⟨fun a U g mk q => ⟨q.1, va_Xm (Vm.Alike.refl U.vm) rfl q.2⟩, fun U hU hW => ⟨rfl, va_Xm hW.alike (by rw [hU]; exact hS.2.1 b (va_Xlt hX) hbA) hX⟩⟩
def kPreX (G : kG) (b len : Nat) (xs : Nat → Int32) (ws : va_W) (sz : Nat) (av : List Value) : Array Value → State → Prop := fun v U => kPreZ G ws sz av v U ∧ va_X b len xs U U.heap ∧ ¬ va_A ws sz b
theorem kPreX_S {G : kG} {b len : Nat} {xs : Nat → Int32} {s : State} {H : Heap} {ws : va_W} {As : List Value} {A : Nat → Prop} (hK : kK G s) (hP : va_P G.1 vwCl ws H) (hD : va_D A ws) (hZ : kZ s) (hX : va_X b len xs s H) (hb : ¬ va_A ws H.size b) : PreS s H (kPreX G b len xs ws H.size As) As :=
  ⟨fun a U g mk q => ⟨kPreZ_blind a U g mk q.1, va_Xm (Vm.Alike.refl U.vm) rfl q.2.1, q.2.2⟩, fun U hU hW => ⟨(kPreZ_S hK hP hD hZ).2 U hU hW, va_Xm hW.alike (by rw [hU]) hX, hb⟩⟩
section LX
variable {ar fs sn ln : Nat → Nat} {op : Nat → Bool} {nn np mi : Nat} {SS : Nat → Option mS} {ww : Nat → Nat}
theorem lSet (hV : vInv ar fs sn ln nn np mi SS ww) :
    (mOI (vSettles ar fs sn ln op nn np mi SS ww) = -1 ∧ mSum (fun a => mCnt (fun b => a != b && (mPost (fun i => vWay SS fs sn np i) (mSt fs sn op np) a b).isSome) nn) nn ≠ mSum (fun a => mCnt (fun b => a != b && (mTruth fs sn ln op np a b != 1073741824)) nn) nn ∧ ¬ ∀ j, j < nn → ar j = 0) ∨
    (mOI (vSettles ar fs sn ln op nn np mi SS ww) = nI 0 ∧ mSum (fun a => mCnt (fun b => a != b && (mPost (fun i => vWay SS fs sn np i) (mSt fs sn op np) a b).isSome) nn) nn = mSum (fun a => mCnt (fun b => a != b && (mTruth fs sn ln op np a b != 1073741824)) nn) nn) ∨
    (∃ g, mOI (vSettles ar fs sn ln op nn np mi SS ww) = nI g ∧ 0 < g ∧ g ≤ 40 ∧ mSum (fun a => mCnt (fun b => a != b && (mPost (fun i => vWay SS fs sn np i) (mSt fs sn op np) a b).isSome) nn) nn ≠ mSum (fun a => mCnt (fun b => a != b && (mTruth fs sn ln op np a b != 1073741824)) nn) nn ∧ vPairs (vMins ar fs sn ln op nn np mi (SS, ww, 0) g).1 fs sn op nn np = mSum (fun a => mCnt (fun b => a != b && (mTruth fs sn ln op np a b != 1073741824)) nn) nn) := by
  have hj := lJoin (op := op) hV
  cases q : vSettles ar fs sn ln op nn np mi SS ww with
  | none =>
    have h := lSet_n hV q
    rw [hj] at h
    exact Or.inl ⟨rfl, h.1, h.2⟩
  | some g =>
    have h := lSet_s q
    rw [hj] at h
    by_cases z : g = 0
    · exact Or.inr (Or.inl ⟨by rw [z]; rfl, h.2.1 z⟩)
    · exact Or.inr (Or.inr ⟨g, rfl, by omega, h.1, h.2.2 (by omega)⟩)
theorem lNoA {x9 : Bool} (hx : x9 = (!mAny (fun j => decide (0 < ar j)) nn)) (h : x9 = true) : ∀ j, j < nn → ar j = 0 := fun j hj => by
  rw [hx] at h
  have := of_decide_eq_false (lAll h j hj)
  omega
theorem lPairsLe (hn : nn ≤ 7) (P : Nat → Nat → Bool) : mSum (fun a => mCnt (P a) nn) nn ≤ 49 := by
  have h := mSum_le9 (f := fun a => mCnt (P a) nn) (c := 7) nn (fun i _ => Nat.le_trans (mCnt_le _ nn) hn)
  omega
end LX
