/-! JOINED PAIRS: counted by groups, they are the pairs with a way in truth. -/
theorem mBit_eq (g i : Nat) : (g / 2 ^ i % 2 == 1) = g.testBit i := by
  rw [Bool.eq_iff_iff, beq_iff_eq, Nat.testBit_eq_decide_div_mod_eq, decide_eq_true_iff]
theorem mEnds_bit {fs sn : Nat → Nat} {p i : Nat} : (mEnds fs sn p).testBit i = true ↔ fs p = i ∨ sn p = i := by
  unfold mEnds
  rw [Nat.testBit_or, Nat.testBit_two_pow, Nat.testBit_two_pow, Bool.or_eq_true, decide_eq_true_iff, decide_eq_true_iff]
theorem mAnd_ne {g d : Nat} : g &&& d ≠ 0 ↔ ∃ i, g.testBit i = true ∧ d.testBit i = true := by
  constructor
  · intro h
    obtain ⟨i, hi⟩ := Nat.exists_testBit_of_ne_zero h
    rw [Nat.testBit_and, Bool.and_eq_true] at hi
    exact ⟨i, hi⟩
  · rintro ⟨i, h1, h2⟩ h
    have h3 : (g &&& d).testBit i = true := by rw [Nat.testBit_and, h1, h2]; rfl
    rw [h, Nat.zero_testBit] at h3
    cases h3
theorem gStep_bit {fs sn : Nat → Nat} {op : Nat → Bool} {x : Int32} {g p b : Nat} (h : g.testBit b = true) : (gStep fs sn op x g p).testBit b = true := by
  unfold gStep
  split
  · rw [Nat.testBit_or, h]; rfl
  · exact h
theorem gPass_bit {fs sn : Nat → Nat} {op : Nat → Bool} {x : Int32} {g b : Nat} (h : g.testBit b = true) : ∀ p, (gPass fs sn op x g p).testBit b = true
  | 0 => h
  | p + 1 => gStep_bit (gPass_bit h p)
theorem gIter_bit {fs sn : Nat → Nat} {op : Nat → Bool} {x : Int32} {np g b : Nat} (h : g.testBit b = true) : ∀ k, (gIter fs sn op x np g k).testBit b = true
  | 0 => h
  | k + 1 => gPass_bit (gIter_bit h k) np
theorem gPass_rel {fs sn : Nat → Nat} {op : Nat → Bool} {x : Int32} {g a b p : Nat} (hop : op p = true) (hx : ¬ nI p = x) (he : (fs p = a ∧ sn p = b) ∨ (sn p = a ∧ fs p = b)) (h : g.testBit a = true) : ∀ n, p < n → (gPass fs sn op x g n).testBit b = true
  | 0, hn => absurd hn (Nat.not_lt_zero _)
  | n + 1, hn => by
    rcases Nat.lt_succ_iff_lt_or_eq.mp hn with q | q
    · exact gStep_bit (gPass_rel hop hx he h n q)
    · subst q
      show (gStep fs sn op x (gPass fs sn op x g p) p).testBit b = true
      have h1 : (gPass fs sn op x g p).testBit a = true := gPass_bit h p
      have h2 : (mEnds fs sn p).testBit a = true := mEnds_bit.mpr (by rcases he with z | z; exact Or.inl z.1; exact Or.inr z.1)
      have h3 : (mEnds fs sn p).testBit b = true := mEnds_bit.mpr (by rcases he with z | z; exact Or.inr z.2; exact Or.inl z.2)
      unfold gStep
      rw [if_pos ⟨hop, hx, mAnd_ne.mpr ⟨a, h1, h2⟩⟩, Nat.testBit_or, h3, Bool.or_true]
theorem gStep_cn {fs sn ln : Nat → Nat} {op : Nat → Bool} {x : Int32} {np g p i : Nat} (hln : ∀ j, ln j < 100) (hp : p < np) (h : ∀ b, g.testBit b = true → ∃ w, gW (gET fs sn ln op np) i w b) : ∀ b, (gStep fs sn op x g p).testBit b = true → ∃ w, gW (gET fs sn ln op np) i w b := by
  intro b hb
  unfold gStep at hb
  split at hb
  · rename_i c
    rw [Nat.testBit_or, Bool.or_eq_true] at hb
    rcases hb with hb | hb
    · exact h b hb
    · obtain ⟨d, d1, d2⟩ := mAnd_ne.mp c.2.2
      obtain ⟨w, hw⟩ := h d d1
      rw [mEnds_bit] at hb d2
      by_cases e : d = b
      · subst e
        exact ⟨w, hw⟩
      · refine ⟨w ++ [(b, ln p)], gW_snoc hw ((gET_iff hln).mpr ⟨p, hp, c.1, rfl, ?_⟩)⟩
        rcases d2 with z | z <;> rcases hb with y | y
        · exact absurd (z.symm.trans y) e
        · exact Or.inl ⟨z, y⟩
        · exact Or.inr ⟨z, y⟩
        · exact absurd (z.symm.trans y) e
  · exact h b hb
theorem gPass_cn {fs sn ln : Nat → Nat} {op : Nat → Bool} {x : Int32} {np g i : Nat} (hln : ∀ j, ln j < 100) (h : ∀ b, g.testBit b = true → ∃ w, gW (gET fs sn ln op np) i w b) : ∀ p, p ≤ np → ∀ b, (gPass fs sn op x g p).testBit b = true → ∃ w, gW (gET fs sn ln op np) i w b
  | 0, _ => h
  | p + 1, hp => gStep_cn hln (by omega) (gPass_cn hln h p (by omega))
theorem gIter_cn {fs sn ln : Nat → Nat} {op : Nat → Bool} {x : Int32} {np g i : Nat} (hln : ∀ j, ln j < 100) (h : ∀ b, g.testBit b = true → ∃ w, gW (gET fs sn ln op np) i w b) : ∀ k, ∀ b, (gIter fs sn op x np g k).testBit b = true → ∃ w, gW (gET fs sn ln op np) i w b
  | 0 => h
  | k + 1 => gPass_cn hln (gIter_cn hln h k) np (Nat.le_refl _)
theorem gIter_all {fs sn ln : Nat → Nat} {op : Nat → Bool} {x : Int32} {np i : Nat} (hln : ∀ j, ln j < 100) (hx : ∀ p, p < np → ¬ nI p = x) : ∀ (k : Nat) (w : List (Nat × Nat)) (b : Nat), gW (gET fs sn ln op np) i w b → w.length ≤ k → (gIter fs sn op x np (2 ^ i) k).testBit b = true
  | 0, w, b, hw, hl => by
    have hz : w = [] := List.length_eq_zero_iff.mp (by omega)
    subst hz
    have hw : i = b := hw
    subst hw
    exact Nat.testBit_two_pow_self
  | k + 1, w, b, hw, hl => by
    rcases gW_last hw with ⟨h1, h2⟩ | ⟨w2, m, y, h1, h2, h3⟩
    · subst h2
      exact gIter_bit Nat.testBit_two_pow_self (k + 1)
    · subst h1
      have ih := gIter_all hln hx k w2 m h2 (by simp at hl; omega)
      obtain ⟨p, hp, hop, -, he⟩ := (gET_iff hln).mp h3
      exact gPass_rel hop (hx p hp) he ih np hp
theorem gGrp {fs sn ln : Nat → Nat} {op : Nat → Bool} {x : Int32} {nh np i b : Nat} (hl : iLand fs sn ln nh np) (hx : ∀ p, p < np → ¬ nI p = x) (hi : i < nh) : (gIter fs sn op x np (2 ^ i) 10).testBit b = true ↔ ∃ w, gW (gET fs sn ln op np) i w b := by
  obtain ⟨hfs, hsn, hln, he, hnh, hnp⟩ := hl
  constructor
  · exact gIter_cn hln (fun b hb => by
      rw [Nat.testBit_two_pow, decide_eq_true_iff] at hb
      exact ⟨[], hb⟩) 10 b
  · rintro ⟨w, hw⟩
    obtain ⟨w2, k1, k2, -⟩ := gW_simple w.length w i b (Nat.le_refl _) hw
    have k6 := gW_len (zE_lt (zOk_T hln (fun p hp => ⟨(he p hp).1, (he p hp).2.1⟩))) hi k1 k2
    exact gIter_all hln hx 10 w2 b k1 (by omega)
theorem mSum_cong {f g : Nat → Nat} : ∀ {n : Nat}, (∀ k, k < n → f k = g k) → mSum f n = mSum g n
  | 0, _ => rfl
  | n + 1, h => by rw [mSum_succ, mSum_succ, mSum_cong (fun k hk => h k (by omega)), h n (by omega)]
theorem mSum_add (f g : Nat → Nat) : ∀ n, mSum (fun k => f k + g k) n = mSum f n + mSum g n
  | 0 => rfl
  | n + 1 => by rw [mSum_succ, mSum_succ, mSum_succ, mSum_add f g n]; omega
theorem mSum_if (P : Nat → Bool) (d : Nat) : ∀ n, mSum (fun k => if P k = true then d else 0) n = mCnt P n * d
  | 0 => by show 0 = 0 * d; rw [Nat.zero_mul]
  | n + 1 => by
    rw [mSum_succ, mCnt_succ, mSum_if P d n, Nat.add_mul]
    congr 1
    split
    · rw [Nat.one_mul]
    · rw [Nat.zero_mul]
theorem mSum_tail {f : Nat → Nat} {k : Nat} (h : ∀ j, k ≤ j → f j = 0) : ∀ n, k ≤ n → mSum f n = mSum f k
  | 0, hn => by rw [show k = 0 by omega]
  | n + 1, hn => by
    rcases Nat.lt_or_ge n k with q | q
    · rw [show k = n + 1 by omega]
    · rw [mSum_succ, mSum_tail h n q, h n q]; omega
theorem mCnt_tail {P : Nat → Bool} {k : Nat} (h : ∀ j, k ≤ j → P j = false) : ∀ n, k ≤ n → mCnt P n = mCnt P k
  | 0, hn => by rw [show k = 0 by omega]
  | n + 1, hn => by
    rcases Nat.lt_or_ge n k with q | q
    · rw [show k = n + 1 by omega]
    · rw [mCnt_f (h n q), mCnt_tail h n q]
theorem mCnt_one {P : Nat → Bool} {a : Nat} (ha : P a = true) : ∀ n, mCnt P n = mCnt (fun b => a != b && P b) n + (if a < n then 1 else 0)
  | 0 => rfl
  | n + 1 => by
    have ih := mCnt_one ha n
    rw [mCnt_succ, mCnt_succ, ih]
    by_cases e : a = n
    · subst e
      rw [ha]
      simp
    · have h1 : (a != n && P n) = P n := by
        have : (a != n) = true := bne_iff_ne.mpr e
        rw [this]; rfl
      rw [h1]
      split <;> split <;> split <;> omega
/-- counted by groups -/
theorem jAll_ok {fs sn ln : Nat → Nat} {op : Nat → Bool} {x : Int32} {nh np : Nat} (hl : iLand fs sn ln nh np) (hx : ∀ p, p < np → ¬ nI p = x) {C : Nat → Nat → Bool} (hC : ∀ a b, a < nh → b < 10 → (C a b = true ↔ ∃ w, gW (gET fs sn ln op np) a w b)) : ∀ i, i ≤ nh →
    (jAll fs sn op x np i).1 = mSum (fun b => if (jAll fs sn op x np i).2.testBit b = true then mCnt (C b) 10 - 1 else 0) 10 ∧ ∀ b, (jAll fs sn op x np i).2.testBit b = true ↔ ∃ a, a < i ∧ ∃ w, gW (gET fs sn ln op np) a w b
  | 0, _ => by
    refine ⟨?_, fun b => ?_⟩
    · show 0 = mSum (fun b => if (0 : Nat).testBit b = true then mCnt (C b) 10 - 1 else 0) 10
      have h1 : ∀ n, mSum (fun b => if (0 : Nat).testBit b = true then mCnt (C b) 10 - 1 else 0) n = 0 := by
        intro n
        induction n with
        | zero => rfl
        | succ n ih => rw [mSum_succ, ih, Nat.zero_testBit]; rfl
      exact (h1 10).symm
    · show (0 : Nat).testBit b = true ↔ _
      rw [Nat.zero_testBit]
      exact ⟨fun z => (by cases z), fun ⟨a, ha, _⟩ => absurd ha (Nat.not_lt_zero _)⟩
  | i + 1, hi => by
    obtain ⟨i1, i2⟩ := jAll_ok hl hx hC i (by omega)
    obtain ⟨hfs, hsn, hln, he, hnh, hnp⟩ := id hl
    have hin : i < nh := by omega
    have hE : ∀ a b y, gET fs sn ln op np a b y → a < nh ∧ b < nh := zE_lt (zOk_T hln (fun p hp => ⟨(he p hp).1, (he p hp).2.1⟩))
    have hg := fun b => gGrp (b := b) (op := op) hl hx hin
    by_cases q : (jAll fs sn op x np i).2 / 2 ^ i % 2 = 0
    · have hq : (jAll fs sn op x np i).2.testBit i = false := by
        rw [Nat.testBit_eq_decide_div_mod_eq, q]; rfl
      rw [jAll_t q]
      dsimp only
      generalize gIter fs sn op x np (2 ^ i) 10 = g at hg ⊢
      generalize jAll fs sn op x np i = z at i1 i2 hq ⊢
      have hcnt : ∀ b, b < 10 → g.testBit b = true → mCnt (C b) 10 = mPop g := by
        intro b hb hgb
        obtain ⟨w, hw⟩ := (hg b).mp hgb
        have hbn : b < nh := by
          rcases gW_last hw with ⟨-, e⟩ | ⟨w2, m, y, -, -, e⟩
          · omega
          · exact (hE _ _ _ e).2
        unfold mPop
        refine mCnt_cong (fun k hk => ?_)
        rw [mBit_eq, Bool.eq_iff_iff, hC b k hbn hk, hg k]
        constructor
        · rintro ⟨w2, hw2⟩
          exact ⟨w ++ w2, gW_trans hw hw2⟩
        · rintro ⟨w2, hw2⟩
          obtain ⟨w3, hw3, -⟩ := gW_rev hw
          exact ⟨w3 ++ w2, gW_trans hw3 hw2⟩
      have hdis : ∀ b, g.testBit b = true → z.2.testBit b = false := by
        intro b hgb
        cases e : z.2.testBit b with
        | false => rfl
        | true =>
          exfalso
          obtain ⟨a, ha, w, hw⟩ := (i2 b).mp e
          obtain ⟨w2, hw2⟩ := (hg b).mp hgb
          obtain ⟨w3, hw3, -⟩ := gW_rev hw2
          have := (i2 i).mpr ⟨a, ha, w ++ w3, gW_trans hw hw3⟩
          rw [hq] at this
          cases this
      refine ⟨?_, fun b => ?_⟩
      · have h1 : mSum (fun b => if (z.2 ||| g).testBit b = true then mCnt (C b) 10 - 1 else 0) 10 = mSum (fun b => (if z.2.testBit b = true then mCnt (C b) 10 - 1 else 0) + (if g.testBit b = true then mPop g - 1 else 0)) 10 := by
          refine mSum_cong (fun b hb => ?_)
          rw [Nat.testBit_or]
          cases e : g.testBit b with
          | true => rw [hdis b e, hcnt b hb e]; simp
          | false => simp
        rw [h1, mSum_add, ← i1, mSum_if]
        have h2 : mCnt (fun b => g.testBit b) 10 = mPop g := by
          unfold mPop
          exact mCnt_cong (fun k hk => (mBit_eq g k).symm)
        rw [h2]
      · rw [Nat.testBit_or, Bool.or_eq_true, i2 b, hg b]
        constructor
        · rintro (⟨a, ha, hw⟩ | hw)
          · exact ⟨a, by omega, hw⟩
          · exact ⟨i, Nat.lt_succ_self _, hw⟩
        · rintro ⟨a, ha, hw⟩
          rcases Nat.lt_succ_iff_lt_or_eq.mp ha with y | y
          · exact Or.inl ⟨a, y, hw⟩
          · subst y; exact Or.inr hw
    · have hq : (jAll fs sn op x np i).2.testBit i = true := by
        rw [Nat.testBit_eq_decide_div_mod_eq, decide_eq_true_iff]; omega
      rw [jAll_f (by omega)]
      refine ⟨i1, fun b => ?_⟩
      rw [i2 b]
      constructor
      · rintro ⟨a, ha, hw⟩
        exact ⟨a, by omega, hw⟩
      · rintro ⟨a, ha, w, hw⟩
        rcases Nat.lt_succ_iff_lt_or_eq.mp ha with y | y
        · exact ⟨a, y, w, hw⟩
        · subst y
          obtain ⟨d, hd, w2, hw2⟩ := (i2 a).mp hq
          exact ⟨d, hd, w2 ++ w, gW_trans hw2 hw⟩
def vJoin (fs sn ln : Nat → Nat) (op : Nat → Bool) (nh np : Nat) : Nat := mSum (fun a => mCnt (fun b => a != b && (mTruth fs sn ln op np a b != 1073741824)) nh) nh
theorem mTruth_cn {fs sn ln : Nat → Nat} {op : Nat → Bool} {nh np a b : Nat} (hl : iLand fs sn ln nh np) (ha : a < nh) (hb : b < 10) : (mTruth fs sn ln op np a b != 1073741824) = true ↔ ∃ w, gW (gET fs sn ln op np) a w b := by
  obtain ⟨hfs, hsn, hln, he, hnh, hnp⟩ := hl
  have hB := mTruth_best (op := op) hfs hsn hln (fun p hp => ⟨(he p hp).1, (he p hp).2.1⟩) hnh ha hb
  rw [bne_iff_ne]
  constructor
  · intro h
    obtain ⟨w, b1, -⟩ := gBest_read hnh hB h
    exact ⟨w, b1⟩
  · intro h
    have := gBest_lt hnh hB h
    omega
theorem jAll_join {fs sn ln : Nat → Nat} {op : Nat → Bool} {nh np : Nat} (hl : iLand fs sn ln nh np) : (jAll fs sn op (-1) np nh).1 = vJoin fs sn ln op nh np := by
  obtain ⟨hfs, hsn, hln, he, hnh, hnp⟩ := id hl
  have hx : ∀ p, p < np → ¬ nI p = (-1 : Int32) := by
    intro p hp z
    have h1 : nI p < 0 := by rw [z]; decide
    exact nI_pos (by omega) h1
  have hE : ∀ a b y, gET fs sn ln op np a b y → a < nh ∧ b < nh := zE_lt (zOk_T hln (fun p hp => ⟨(he p hp).1, (he p hp).2.1⟩))
  have hC := fun a b ha hb => mTruth_cn (op := op) (a := a) (b := b) hl ha hb
  obtain ⟨h1, h2⟩ := jAll_ok (op := op) hl hx (C := fun a b => mTruth fs sn ln op np a b != 1073741824) hC nh (Nat.le_refl _)
  have h3 : ∀ b, (jAll fs sn op (-1) np nh).2.testBit b = true ↔ b < nh := by
    intro b
    rw [h2 b]
    constructor
    · rintro ⟨a, ha, w, hw⟩
      rcases gW_last hw with ⟨-, e⟩ | ⟨w2, m, y, -, -, e⟩
      · omega
      · exact (hE _ _ _ e).2
    · intro hb
      exact ⟨b, hb, [], rfl⟩
  rw [h1]
  unfold vJoin
  rw [mSum_tail (k := nh) (fun j hj => if_neg (fun z => by have := (h3 j).mp z; omega)) 10 hnh]
  refine mSum_cong (fun a ha => ?_)
  rw [if_pos ((h3 a).mpr ha)]
  have ha10 : a < 10 := by omega
  have h4 : (fun b => mTruth fs sn ln op np a b != 1073741824) a = true := (hC a a ha ha10).mpr ⟨[], rfl⟩
  have h5 : mCnt (fun b => mTruth fs sn ln op np a b != 1073741824) 10 = mCnt (fun b => a != b && (mTruth fs sn ln op np a b != 1073741824)) 10 + (if a < 10 then 1 else 0) := mCnt_one (P := fun b => mTruth fs sn ln op np a b != 1073741824) (a := a) h4 10
  rw [if_pos ha10] at h5
  rw [h5, Nat.add_sub_cancel]
  have h6 : ∀ b, nh ≤ b → b < 10 → (a != b && (mTruth fs sn ln op np a b != 1073741824)) = false := by
    intro b hb hb10
    cases e : (mTruth fs sn ln op np a b != 1073741824) with
    | false => rw [Bool.and_false]
    | true =>
      exfalso
      obtain ⟨w, hw⟩ := (hC a b ha hb10).mp e
      rcases gW_last hw with ⟨-, z⟩ | ⟨w2, m, y, -, -, z⟩
      · omega
      · have := (hE _ _ _ z).2
        omega
  have h7 : mCnt (fun b => a != b && (mTruth fs sn ln op np a b != 1073741824)) 10 = mCnt (fun b => decide (b < nh) && (a != b && (mTruth fs sn ln op np a b != 1073741824))) 10 := by
    refine mCnt_cong (fun b hb => ?_)
    by_cases z : b < nh
    · rw [decide_eq_true z]; rfl
    · rw [h6 b (by omega) hb, Bool.and_false]
  rw [h7, mCnt_tail (k := nh) (fun j hj => by rw [decide_eq_false (by omega)]; rfl) 10 hnh]
  refine mCnt_cong (fun b hb => ?_)
  rw [decide_eq_true hb]
  rfl
