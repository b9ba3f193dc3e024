/-! LETTERS, and what ten quiet minutes do where all huts are in the area 0. -/
theorem mSt_iff {fs sn : Nat → Nat} {op : Nat → Bool} {np a b : Nat} : mSt fs sn op np a b = true ↔ ∃ p, p < np ∧ op p = true ∧ ((fs p = a ∧ sn p = b) ∨ (sn p = a ∧ fs p = b)) := by
  unfold mSt
  rw [mAny_iff]
  constructor
  · rintro ⟨p, hp, h⟩
    unfold mJoin at h
    simp only [Bool.and_eq_true, Bool.or_eq_true, beq_iff_eq] at h
    refine ⟨p, hp, h.1, ?_⟩
    rcases h.2 with z | z
    · exact Or.inl z
    · exact Or.inr ⟨z.2, z.1⟩
  · rintro ⟨p, hp, h1, h2⟩
    refine ⟨p, hp, ?_⟩
    unfold mJoin
    simp only [Bool.and_eq_true, Bool.or_eq_true, beq_iff_eq]
    refine ⟨h1, ?_⟩
    rcases h2 with z | z
    · exact Or.inl z
    · exact Or.inr ⟨z.2, z.1⟩
theorem mSt_E {fs sn ln : Nat → Nat} {op : Nat → Bool} {np a b : Nat} (hln : ∀ j, ln j < 100) : mSt fs sn op np a b = true ↔ ∃ x, gET fs sn ln op np a b x := by
  rw [mSt_iff]
  constructor
  · rintro ⟨p, hp, h1, h2⟩
    exact ⟨ln p, (gET_iff hln).mpr ⟨p, hp, h1, rfl, h2⟩⟩
  · rintro ⟨x, hx⟩
    obtain ⟨p, hp, h1, -, h2⟩ := (gET_iff hln).mp hx
    exact ⟨p, hp, h1, h2⟩
theorem mLet_ge {wy : Nat → Nat → Nat} {st : Nat → Nat → Bool} {to : Nat} : ∀ {n k a v : Nat}, mLet wy st to n k a = some v → k ≤ v ∧ (v = k → a = to)
  | 0, _, _, _, h => by cases h
  | n + 1, k, a, v, h => by
    by_cases e : a = to
    · rw [mLet_at e] at h
      cases h
      exact ⟨Nat.le_refl _, fun _ => e⟩
    · unfold mLet at h
      rw [if_neg e] at h
      split at h
      · cases h
      · have := (mLet_ge h).1
        exact ⟨by omega, fun z => by omega⟩
/-- a letter that comes goes over open passes, along a way that its hut knows -/
theorem mLet_walk {fs sn ln : Nat → Nat} {op : Nat → Bool} {np : Nat} (hln : ∀ j, ln j < 100) {wy : Nat → Nat → Nat} {to : Nat} : ∀ {n k a v : Nat}, mLet wy (mSt fs sn op np) to n k a = some v → (∃ w, gW (gET fs sn ln op np) a w to) ∧ (a ≠ to → wy a to ≠ 1073741824)
  | 0, _, _, _, h => by cases h
  | n + 1, k, a, v, h => by
    by_cases e : a = to
    · exact ⟨⟨[], e⟩, fun z => absurd e z⟩
    · unfold mLet at h
      rw [if_neg e] at h
      split at h
      · cases h
      · rename_i c
        have c1 : wy a to ≠ 1073741824 := fun z => c (Or.inl z)
        have c2 : mSt fs sn op np a (wy a to % 16) = true := by
          cases q : mSt fs sn op np a (wy a to % 16) with
          | true => rfl
          | false => exact absurd (Or.inr q) c
        obtain ⟨x, hx⟩ := (mSt_E hln).mp c2
        obtain ⟨⟨w, hw⟩, -⟩ := mLet_walk hln h
        exact ⟨⟨(wy a to % 16, x) :: w, hx, hw⟩, fun _ => c1⟩
/-- where all huts that are joined know the ways in truth, a letter goes over just the passes of the way -/
theorem mLet_true {fs sn ln : Nat → Nat} {op : Nat → Bool} {np n9 : Nat} (hln : ∀ j, ln j < 100) (hn : n9 ≤ 10) {wy : Nat → Nat → Nat} {to : Nat} (hwy : ∀ a, a < n9 → (∃ w, gW (gET fs sn ln op np) a w to) → gBest (gET fs sn ln op np) n9 a to (wy a to)) (he : ∀ p, p < np → fs p < n9 ∧ sn p < n9) : ∀ (K n k a : Nat), a < n9 → (∃ w, gW (gET fs sn ln op np) a w to) → wy a to % 256 / 16 = K → K < n → mLet wy (mSt fs sn op np) to n k a = some (k + K) := by
  have hE : ∀ a b x, gET fs sn ln op np a b x → a < n9 ∧ b < n9 := zE_lt (zOk_T hln he)
  intro K
  induction K with
  | zero =>
    intro n k a ha hc hK hKn
    obtain ⟨n, rfl⟩ : ∃ m, n = m + 1 := ⟨n - 1, by omega⟩
    have hb := hwy a ha hc
    obtain ⟨w, b1, b2, b3, b4, b5, b6, b7, b8, b9⟩ := gBest_read hn hb (by have := gBest_lt hn hb hc; omega)
    have hz : w = [] := List.length_eq_zero_iff.mp (by omega)
    subst hz
    rw [mLet_at b1]
    rfl
  | succ K ih =>
    intro n k a ha hc hK hKn
    obtain ⟨n, rfl⟩ : ∃ m, n = m + 1 := ⟨n - 1, by omega⟩
    have hb := hwy a ha hc
    have hlt := gBest_lt hn hb hc
    obtain ⟨w, b1, b2, b3, b4, b5, b6, b7, b8, b9⟩ := gBest_read hn hb (by omega)
    cases w with
    | nil => simp only [List.length_nil] at b7; omega
    | cons q w =>
      have hq : q.1 < n9 := (hE _ _ _ b1.1).2
      have hcq : ∃ w, gW (gET fs sn ln op np) q.1 w to := ⟨w, b1.2⟩
      have hbq := hwy q.1 hq hcq
      obtain ⟨w2, d1, d2, d3, d4, d5, d6, d7, d8, d9⟩ := gBest_read hn hbq (by have := gBest_lt hn hbq hcq; omega)
      have hf2 : gF q.1 w < n9 := gF_lt hE hq b1.2
      have h1 := d9 w b1.2
      have h2 : (q.2 + gL w) * 256 + (w.length + 1) * 16 + q.1 ≤ (q.2 + gL w2) * 256 + (w2.length + 1) * 16 + q.1 := b9 ((q.1, q.2) :: w2) ⟨b1.1, d1⟩
      have hlen : w2.length = w.length := by
        unfold gC at h1
        simp only [List.length_cons] at b3
        omega
      have hne : a ≠ to := fun z => by
        have h3 := b9 [] z
        simp only [gC, gL, gF, List.length_cons, List.length_nil] at h3
        omega
      have hfst : wy a to % 16 = q.1 := b8
      have hst : mSt fs sn op np a (wy a to % 16) = true := by rw [hfst]; exact (mSt_E hln).mpr ⟨q.2, b1.1⟩
      rw [mLet_go hne (by omega) hst, hfst, ih n (k + 1) q.1 hq hcq (by rw [d7, hlen]; simp only [List.length_cons] at b7; omega) (by omega)]
      congr 1
      omega
theorem mSame_iff {len fs sn ln : Nat → Nat} {op : Nat → Bool} {h np : Nat} : mSame len fs sn ln op h np = true ↔ ∀ p, p < np → len p = mTells fs sn ln op h p := by
  unfold mSame
  rw [Bool.not_eq_true', mAny_no]
  constructor
  · intro z p hp
    have := z p hp
    simpa using this
  · intro z p hp
    rw [z p hp]
    simp
theorem mSame_sheet {fs sn ln : Nat → Nat} {op : Nat → Bool} {h np : Nat} : mSame (mSheet fs sn ln op h np) fs sn ln op h np = true := mSame_iff.mpr (fun p hp => by unfold mSheet; rw [if_pos hp])
/-- newer sheets than so many are true ones -/
def qTru (fs sn ln : Nat → Nat) (op : Nat → Bool) (np : Nat) (T : Nat → Nat) (S : Nat → Option mS) : Prop := ∀ a b v, a < 10 → b < 10 → S (a * 10 + b) = some v → T b ≤ v.1 → mSame v.2.2 fs sn ln op b np = true
/-- a hut has new sheets of all huts from which it is d steps away -/
def qHas (fs sn ln : Nat → Nat) (op : Nat → Bool) (nh np mi d : Nat) (T : Nat → Nat) (S : Nat → Option mS) : Prop := ∀ a b w, a < nh → b < nh → gW (gET fs sn ln op np) b w a → w.length ≤ d → ∃ v, S (a * 10 + b) = some v ∧ T b ≤ v.1 ∧ mi ≤ v.2.1 + 20 + w.length
theorem vB_ge {ar fs sn : Nat → Nat} {op : Nat → Bool} {W : Nat → Option mS} {a b c p : Nat} {vc : mS} (hab : b ≠ a) (hta : mTakes ar a b = true) (hop : op p = true) (hc : (fs p = a ∧ sn p = c) ∨ (sn p = a ∧ fs p = c ∧ fs p ≠ sn p)) (hW : W (c * 10 + b) = some vc) : ∀ n, p < n → ∃ v, vB ar fs sn op W a b n = some v ∧ vc.1 ≤ v.1
  | 0, hn => absurd hn (Nat.not_lt_zero _)
  | n + 1, hn => by
    have step : ∀ fr (o : Option mS), (∃ v, o = some v ∧ vc.1 ≤ v.1) → ∃ v, vB1 ar W a b fr o = some v ∧ vc.1 ≤ v.1 := by
      rintro fr o ⟨v, rfl, hv⟩
      unfold vB1
      cases W (fr * 10 + b) with
      | none => exact ⟨v, rfl, hv⟩
      | some y =>
        dsimp only
        split
        · rename_i z
          have : v.1 < y.1 := of_decide_eq_true z.2.2
          exact ⟨y, rfl, by omega⟩
        · exact ⟨v, rfl, hv⟩
    rcases Nat.lt_succ_iff_lt_or_eq.mp hn with q | q
    · have ih := vB_ge hab hta hop hc hW n q
      unfold vB
      split
      · exact step _ _ ih
      · exact ih
    · subst q
      unfold vB
      have e : (if fs p = a then sn p else fs p) = c := by
        rcases hc with z | z
        · rw [if_pos z.1, z.2]
        · rw [if_neg (fun y => z.2.2 (y.trans z.1.symm)), z.2.1]
      have hj : fs p = a ∨ sn p = a := by
        rcases hc with z | z
        · exact Or.inl z.1
        · exact Or.inr z.1
      rw [if_pos ⟨hop, hj⟩, e]
      unfold vB1
      rw [hW]
      dsimp only
      cases q : vB ar fs sn op W a b p with
      | none => rw [if_pos ⟨hab, hta, rfl⟩]; exact ⟨vc, rfl, Nat.le_refl _⟩
      | some y =>
        by_cases z : y.1 < vc.1
        · rw [if_pos ⟨hab, hta, decide_eq_true z⟩]
          exact ⟨vc, rfl, Nat.le_refl _⟩
        · rw [if_neg (fun x => z (of_decide_eq_true x.2.2))]
          exact ⟨y, rfl, by omega⟩
/-- behind the writing all own sheets are there, true, and 19 minutes old at most -/
theorem qOwn {ar fs sn ln : Nat → Nat} {op : Nat → Bool} {nh np mi : Nat} {S : Nat → Option mS} {w : Nat → Nat} (hI : vInv ar fs sn ln nh np mi S w) {b : Nat} (hb : b < nh) : ∃ v, (vWrite mi fs sn ln op np (S, w, 0) nh).1 (b * 10 + b) = some v ∧ v.1 = (vWrite mi fs sn ln op np (S, w, 0) nh).2.1 b ∧ mi ≤ v.2.1 + 19 ∧ mSame v.2.2 fs sn ln op b np = true := by
  obtain ⟨hz1, -⟩ := iS_write (op := op) hI
  obtain ⟨⟨hfs, hsn, hln, he, hnh, hnp⟩, -⟩ := id hI
  have hb10 : b < 10 := by omega
  obtain ⟨k1, k2⟩ := vWrite_at (mi := mi) (fs := fs) (sn := sn) (ln := ln) (op := op) (np := np) (st := (S, w, 0)) nh hnh
  have h1 := k1 b b hb10
  dsimp only at h1
  cases q : vMst mi fs sn ln op np S b with
  | true =>
    rw [if_pos ⟨rfl, hb, q⟩] at h1
    obtain ⟨-, -, -, -, -, -, -, -, -, a10⟩ := hz1 b b _ hb10 hb10 h1
    exact ⟨_, h1, (a10 rfl).1, (a10 rfl).2, mSame_sheet⟩
  | false =>
    rw [if_neg (fun z => by rw [q] at z; exact Bool.noConfusion z.2.2)] at h1
    cases e : S (b * 10 + b) with
    | none =>
      exfalso
      unfold vMst at q
      rw [e] at q
      cases q
    | some v =>
      rw [e] at h1
      obtain ⟨-, -, -, -, -, -, -, -, -, a10⟩ := hz1 b b _ hb10 hb10 h1
      exact ⟨v, h1, (a10 rfl).1, (a10 rfl).2, (vMst_own q e).2⟩
/-- a quiet minute: new sheets come one step further -/
theorem qMin {ar fs sn ln : Nat → Nat} {op : Nat → Bool} {nh np mi d k : Nat} {S : Nat → Option mS} {w T : Nat → Nat} (hI : vInv ar fs sn ln nh np mi S w) (hA : ∀ j, j < nh → ar j = 0) (hd : d ≤ 9) (hT : ∀ b, b < nh → T b ≤ (vWrite mi fs sn ln op np (S, w, 0) nh).2.1 b) (hW : qTru fs sn ln op np T (vWrite mi fs sn ln op np (S, w, 0) nh).1) (hH : qHas fs sn ln op nh np mi d T (vWrite mi fs sn ln op np (S, w, 0) nh).1) :
    qTru fs sn ln op np T (vMin ar fs sn ln op nh np mi (S, w, k)).1 ∧ qHas fs sn ln op nh np (mi + 1) (d + 1) T (vMin ar fs sn ln op nh np mi (S, w, k)).1 := by
  rw [vMin_cnt.1]
  obtain ⟨hz1, hz2⟩ := iS_write (op := op) hI
  obtain ⟨hl, -⟩ := id hI
  obtain ⟨hfs, hsn, hln, he, hnh, hnp⟩ := id hl
  refine ⟨fun a b v ha hb hv ht => ?_, fun a b z ha hb hz hzl => ?_⟩
  · obtain ⟨-, x, x1, x2, -⟩ := vMin_src hl ha hb hv
    exact hW x b v x1 hb x2 ht
  · have ha10 : a < 10 := by omega
    have hb10 : b < 10 := by omega
    have hat := vMin_at (ar := ar) (fs := fs) (sn := sn) (ln := ln) (op := op) (nh := nh) (np := np) (mi := mi) (st := (S, w, 0)) ha10 hb10 hnh (fun p hp => (he p hp).2.2.1)
    rw [if_pos hb] at hat
    dsimp only at hat
    have fin : ∀ v, vB ar fs sn op (vWrite mi fs sn ln op np (S, w, 0) nh).1 a b np = some v → T b ≤ v.1 → mi + 1 ≤ v.2.1 + 20 + z.length → ∃ v, (vMin ar fs sn ln op nh np mi (S, w, 0)).1 (a * 10 + b) = some v ∧ T b ≤ v.1 ∧ mi + 1 ≤ v.2.1 + 20 + z.length := by
      intro v h1 h2 h3
      rw [h1] at hat
      rw [if_neg (fun y => by
        have y : decide (30 < mi + 1 - v.2.1) = true := y
        have := of_decide_eq_true y
        omega)] at hat
      exact ⟨v, hat, h2, h3⟩
    by_cases hab : b = a
    · subst hab
      obtain ⟨v, h1, h2, h3, -⟩ := qOwn (op := op) hI hb
      have h4 : vB ar fs sn op (vWrite mi fs sn ln op np (S, w, 0) nh).1 b b np = some v := by
        obtain ⟨x, x1, x2, x3⟩ := vB_src (ar := ar) (op := op) (S := (vWrite mi fs sn ln op np (S, w, 0) nh).1) (k := b) (nh := nh) (np := np) hb10 hfs hsn (fun p hp => ⟨(he p hp).1, (he p hp).2.1⟩) np (Nat.le_refl _)
        rcases x3 with x3 | x3
        · rw [x2, x3]; exact h1
        · exact absurd rfl x3.1
      exact fin v h4 (by rw [h2]; exact hT b hb) (by omega)
    · rcases gW_last hz with ⟨e1, e2⟩ | ⟨z2, c, x, e1, e2, e3⟩
      · exact absurd e2 hab
      · subst e1
        have hc : c < nh := (zE_lt (zOk_T hln (fun p hp => ⟨(he p hp).1, (he p hp).2.1⟩)) _ _ _ e3).1
        have hl2 : z2.length ≤ d := by simp at hzl; omega
        obtain ⟨vc, c1, c2, c3⟩ := hH c b z2 hc hb e2 hl2
        obtain ⟨p, hp, hop, -, hends⟩ := (gET_iff hln).mp e3
        have hta : mTakes ar a b = true := by unfold mTakes; rw [hA a ha]; rfl
        obtain ⟨v, v1, v2⟩ := vB_ge (fs := fs) (sn := sn) hab hta hop (a := a) (c := c) (by
          rcases hends with q | q
          · exact Or.inr ⟨q.2, q.1, (he p hp).2.2.1⟩
          · exact Or.inl ⟨q.2, q.1⟩) c1 np hp
        obtain ⟨y, y1, y2, -⟩ := vB_src (ar := ar) (op := op) (S := (vWrite mi fs sn ln op np (S, w, 0) nh).1) (k := b) (nh := nh) (np := np) ha10 hfs hsn (fun p hp => ⟨(he p hp).1, (he p hp).2.1⟩) np (Nat.le_refl _)
        rw [v1] at y2
        have h5 := (hz2 c y b vc v (by omega) y1 hb10 c1 y2.symm v2).1
        refine fin v v1 (Nat.le_trans c2 v2) ?_
        simp only [List.length_append, List.length_cons, List.length_nil]
        omega
theorem qWrite {ar fs sn ln : Nat → Nat} {op : Nat → Bool} {nh np mi d : Nat} {S : Nat → Option mS} {w T : Nat → Nat} (hI : vInv ar fs sn ln nh np mi S w) (hT : ∀ b, b < nh → T b ≤ w b) (hW : qTru fs sn ln op np T S) (hH : qHas fs sn ln op nh np mi d T S) :
    (∀ b, b < nh → T b ≤ (vWrite mi fs sn ln op np (S, w, 0) nh).2.1 b) ∧ qTru fs sn ln op np T (vWrite mi fs sn ln op np (S, w, 0) nh).1 ∧ qHas fs sn ln op nh np mi d T (vWrite mi fs sn ln op np (S, w, 0) nh).1 := by
  obtain ⟨⟨hfs, hsn, hln, he, hnh, hnp⟩, -⟩ := id hI
  obtain ⟨k1, k2⟩ := vWrite_at (mi := mi) (fs := fs) (sn := sn) (ln := ln) (op := op) (np := np) (st := (S, w, 0)) nh hnh
  dsimp only at k1 k2
  have hle : ∀ k, w k ≤ (vWrite mi fs sn ln op np (S, w, 0) nh).2.1 k := fun k => by
    rw [k2 k]
    split
    · exact Nat.le_succ _
    · exact Nat.le_refl _
  have hT2 : ∀ b, b < nh → T b ≤ (vWrite mi fs sn ln op np (S, w, 0) nh).2.1 b := fun b hb => Nat.le_trans (hT b hb) (hle b)
  refine ⟨hT2, fun a b v ha hb hv ht => ?_, fun a b z ha hb hz hzl => ?_⟩
  · rw [k1 a b hb] at hv
    split at hv
    · rename_i c
      cases hv
      rw [c.1]
      exact mSame_sheet
    · exact hW a b v ha hb hv ht
  · by_cases hab : a = b
    · subst hab
      obtain ⟨v, h1, h2, h3, -⟩ := qOwn (op := op) hI ha
      exact ⟨v, h1, by rw [h2]; exact hT2 a ha, by omega⟩
    · rw [k1 a b (by omega), if_neg (fun c => hab c.1)]
      exact hH a b z ha hb hz hzl
/-- the first quiet minute -/
theorem qFirst {ar fs sn ln : Nat → Nat} {op : Nat → Bool} {nh np mi : Nat} {S : Nat → Option mS} {w : Nat → Nat} (hI : vInv ar fs sn ln nh np mi S w) :
    qTru fs sn ln op np (vWrite mi fs sn ln op np (S, w, 0) nh).2.1 (vWrite mi fs sn ln op np (S, w, 0) nh).1 ∧ qHas fs sn ln op nh np mi 0 (vWrite mi fs sn ln op np (S, w, 0) nh).2.1 (vWrite mi fs sn ln op np (S, w, 0) nh).1 := by
  obtain ⟨hz1, hz2⟩ := iS_write (op := op) hI
  obtain ⟨⟨hfs, hsn, hln, he, hnh, hnp⟩, -⟩ := id hI
  refine ⟨fun a b v ha hb hv ht => ?_, fun a b z ha hb hz hzl => ?_⟩
  · obtain ⟨a1, a2, a3, a4, -⟩ := hz1 a b v ha hb hv
    obtain ⟨v2, h1, h2, -, h3⟩ := qOwn (op := op) hI a2
    have h4 := (hz2 a b b v v2 ha hb hb hv h1 (by omega)).2 (by omega)
    rw [h4]
    exact h3
  · have hz0 : z = [] := List.length_eq_zero_iff.mp (by omega)
    subst hz0
    have hz : b = a := hz
    subst hz
    obtain ⟨v, h1, h2, h3, -⟩ := qOwn (op := op) hI hb
    exact ⟨v, h1, Nat.le_of_eq h2.symm, by simp only [List.length_nil]; omega⟩
/-- ten quiet minutes -/
theorem qMins {ar fs sn ln : Nat → Nat} {op : Nat → Bool} {nh np mi k : Nat} {S : Nat → Option mS} {w : Nat → Nat} (hI : vInv ar fs sn ln nh np mi S w) (hA : ∀ j, j < nh → ar j = 0) : ∀ g, g ≤ 9 → (∀ b, b < nh → (vWrite mi fs sn ln op np (S, w, 0) nh).2.1 b ≤ (vMins ar fs sn ln op nh np mi (S, w, k) (g + 1)).2.1 b) ∧ qTru fs sn ln op np (vWrite mi fs sn ln op np (S, w, 0) nh).2.1 (vMins ar fs sn ln op nh np mi (S, w, k) (g + 1)).1 ∧ qHas fs sn ln op nh np (mi + g + 1) (g + 1) (vWrite mi fs sn ln op np (S, w, 0) nh).2.1 (vMins ar fs sn ln op nh np mi (S, w, k) (g + 1)).1
  | 0, _ => by
    obtain ⟨h1, h2⟩ := qFirst (op := op) hI
    obtain ⟨h3, h4⟩ := qMin (k := k) hI hA (by decide) (fun b hb => Nat.le_refl _) h1 h2
    refine ⟨fun b hb => ?_, h3, h4⟩
    show _ ≤ (vMin ar fs sn ln op nh np (mi + 0) (S, w, k)).2.1 b
    rw [vMin_cnt.2]
    exact Nat.le_refl _
  | g + 1, hg => by
    obtain ⟨h1, h2, h3⟩ := qMins (op := op) (k := k) hI hA g (by omega)
    have hI2 := vInv_mins (op := op) (k := k) hI (g + 1)
    show (∀ b, b < nh → _ ≤ (vMin ar fs sn ln op nh np (mi + (g + 1)) (vMins ar fs sn ln op nh np mi (S, w, k) (g + 1))).2.1 b) ∧ qTru fs sn ln op np _ (vMin ar fs sn ln op nh np (mi + (g + 1)) (vMins ar fs sn ln op nh np mi (S, w, k) (g + 1))).1 ∧ qHas fs sn ln op nh np (mi + (g + 1) + 1) (g + 1 + 1) _ (vMin ar fs sn ln op nh np (mi + (g + 1)) (vMins ar fs sn ln op nh np mi (S, w, k) (g + 1))).1
    generalize (vWrite mi fs sn ln op np (S, w, 0) nh).2.1 = T at h1 h2 h3 ⊢
    generalize vMins ar fs sn ln op nh np mi (S, w, k) (g + 1) = z at h1 h2 h3 hI2 ⊢
    obtain ⟨z1, z2, z3⟩ := z
    obtain ⟨h4, h5, h6⟩ := qWrite hI2 h1 h2 h3
    obtain ⟨h7, h8⟩ := qMin (k := z3) hI2 hA (by omega) h4 h5 h6
    refine ⟨fun b hb => ?_, h7, h8⟩
    rw [vMin_cnt.2]
    exact h4 b hb
/-- steps that stay among the huts of C are alike -/
theorem gW_on {E E2 : Nat → Nat → Nat → Prop} {C : Nat → Prop} (h1 : ∀ a b x, C a → (E a b x ↔ E2 a b x)) (h2 : ∀ a b x, C a → E2 a b x → C b) : ∀ {w : List (Nat × Nat)} {a b : Nat}, C a → (gW E a w b ↔ gW E2 a w b)
  | [], a, b, _ => Iff.rfl
  | q :: w, a, b, hc => by
    rw [gW_cons, gW_cons, h1 a q.1 q.2 hc]
    constructor
    · rintro ⟨h3, h4⟩
      exact ⟨h3, (gW_on h1 h2 (h2 _ _ _ hc h3)).mp h4⟩
    · rintro ⟨h3, h4⟩
      exact ⟨h3, (gW_on h1 h2 (h2 _ _ _ hc h3)).mpr h4⟩
/-- where a hut has true sheets of all huts that are joined with it, the ways that it knows are those in truth -/
theorem qWay {fs sn ln : Nat → Nat} {op : Nat → Bool} {nh np a j : Nat} {S : Nat → Option mS} (hl : iLand fs sn ln nh np) (hsl : ∀ j p, vLen (S j) p < 100) (ha : a < nh) (hj : j < 10) (hT : ∀ b w, b < nh → gW (gET fs sn ln op np) a w b → ∃ v, S (a * 10 + b) = some v ∧ mSame v.2.2 fs sn ln op b np = true) : vWay S fs sn np a j = mTruth fs sn ln op np a j := by
  obtain ⟨hfs, hsn, hln, he, hnh, hnp⟩ := hl
  have he2 : ∀ p, p < np → fs p < nh ∧ sn p < nh := fun p hp => ⟨(he p hp).1, (he p hp).2.1⟩
  have hE := zE_lt (zOk_T (op := op) hln he2)
  have tell : ∀ b, b < nh → (∃ w, gW (gET fs sn ln op np) a w b) → ∀ p, p < np → vLen (S (a * 10 + b)) p = mTells fs sn ln op b p := by
    rintro b hb ⟨w, hw⟩ p hp
    obtain ⟨v, h1, h2⟩ := hT b w hb hw
    rw [h1]
    exact mSame_iff.mp h2 p hp
  refine gBest_uniq (vWay_best hfs hsn hsl he2 hnh ha hj) (mTruth_best (op := op) hfs hsn hln he2 hnh ha hj) (fun w => gW_on (C := fun b => b < nh ∧ ∃ w, gW (gET fs sn ln op np) a w b) (fun b d x hb => ?_) (fun b d x hb h3 => ⟨(hE _ _ _ h3).2, ?_⟩) ⟨ha, [], rfl⟩)
  · obtain ⟨hbn, hbw⟩ := hb
    constructor
    · rintro ⟨p, side, hp, hs, e1, e2, e3, e4⟩
      refine ⟨p, side, hp, hs, e1, e2, ?_⟩
      cases q : vTOpen S fs sn a p with
      | false => rw [zStH_f q] at e4; omega
      | true =>
        rw [zStH_t q, e1] at e3
        have h1 := tell b hbn hbw p hp
        have h2 : 0 < vLen (S (a * 10 + b)) p := by
          unfold vTOpen at q
          rw [Bool.and_eq_true] at q
          rw [← e1]
          unfold zEnd
          split
          · exact of_decide_eq_true q.1
          · exact of_decide_eq_true q.2
        unfold mTells at h1
        split at h1
        · rename_i c
          have := hln p
          unfold zStT
          rw [if_pos c.2]
          omega
        · omega
    · intro h3
      obtain ⟨p, side, hp, hs, e1, e2, e3, e4⟩ := id h3
      have hd : d < nh := (hE _ _ _ h3).2
      obtain ⟨w1, hw1⟩ := hbw
      have hop : op p = true := by
        cases q : op p with
        | true => rfl
        | false =>
          unfold zStT at e4
          rw [q] at e4
          simp at e4
      have t1 := tell b hbn ⟨w1, hw1⟩ p hp
      have t2 := tell d hd ⟨w1 ++ [(d, x)], gW_snoc hw1 h3⟩ p hp
      have hlp := (he p hp).2.2.2
      have m1 : ∀ s, s < 2 → mTells fs sn ln op (zEnd fs sn p s) p = ln p := by
        intro s hs2
        unfold mTells
        rw [if_pos]
        refine ⟨?_, hop⟩
        unfold zEnd
        split
        · exact Or.inl rfl
        · exact Or.inr rfl
      rw [← e1, m1 side hs] at t1
      rw [← e2, m1 (1 - side) (by omega)] at t2
      have hv : vTOpen S fs sn a p = true := by
        unfold vTOpen
        rw [Bool.and_eq_true]
        have z0 : zEnd fs sn p 0 = fs p := rfl
        have z1 : zEnd fs sn p 1 = sn p := rfl
        rcases (show side = 0 ∨ side = 1 by omega) with e | e
        · subst e
          rw [z0] at t1
          have t2 : vLen (S (a * 10 + sn p)) p = ln p := t2
          exact ⟨decide_eq_true (by omega), decide_eq_true (by omega)⟩
        · subst e
          rw [z1] at t1
          have t2 : vLen (S (a * 10 + fs p)) p = ln p := t2
          exact ⟨decide_eq_true (by omega), decide_eq_true (by omega)⟩
      refine ⟨p, side, hp, hs, e1, e2, ?_⟩
      rw [zStH_t hv, t1]
      unfold zStT at e3 e4
      rw [if_pos hop] at e3 e4
      exact ⟨by omega, by omega⟩
  · obtain ⟨hbn, w1, hw1⟩ := hb
    exact ⟨w1 ++ [(d, x)], gW_snoc hw1 h3⟩
theorem vLen_lt {ar : Nat → Nat} {nh np mi e9 o9 : Nat} {S : Nat → Option mS} {w : Nat → Nat} (hS : iS ar nh np mi e9 o9 S w) (hv : v100 S) : ∀ j p, vLen (S j) p < 100 := by
  intro j p
  by_cases hj : j < 100
  · cases q : S j with
    | none => show 0 < 100; decide
    | some v =>
      have e : j = j / 10 * 10 + j % 10 := by omega
      rw [e] at q
      exact (hS (j / 10) (j % 10) v (by omega) (by omega) q).2.2.2.2.2.2.1 p
  · rw [hv j (by omega)]
    show 0 < 100
    decide
/-- behind ten quiet minutes -/
theorem qTen {ar fs sn ln : Nat → Nat} {op : Nat → Bool} {nh np mi k a j : Nat} {S : Nat → Option mS} {w : Nat → Nat} (hI : vInv ar fs sn ln nh np mi S w) (hA : ∀ j, j < nh → ar j = 0) (ha : a < nh) (hj : j < 10) : vWay (vMins ar fs sn ln op nh np mi (S, w, k) 10).1 fs sn np a j = mTruth fs sn ln op np a j := by
  obtain ⟨h1, h2, h3⟩ := qMins (op := op) (k := k) hI hA 9 (by decide)
  have hI2 := vInv_mins (op := op) (k := k) hI 10
  obtain ⟨hl, -, hS, -, hv, -, -⟩ := hI2
  obtain ⟨hfs, hsn, hln, he, hnh, hnp⟩ := id hl
  have he2 : ∀ p, p < np → fs p < nh ∧ sn p < nh := fun p hp => ⟨(he p hp).1, (he p hp).2.1⟩
  refine qWay hl (vLen_lt hS hv) ha hj (fun b z hb hz => ?_)
  obtain ⟨z2, e1, e2, e3⟩ := gW_rev hz
  obtain ⟨z3, k1, k2, k3, k4, k5⟩ := gW_simple z2.length z2 b a (Nat.le_refl _) e1
  have k6 := gW_len (zE_lt (zOk_T hln he2)) hb k1 k2
  obtain ⟨v, v1, v2, -⟩ := h3 a b z3 ha hb k1 (by omega)
  exact ⟨v, v1, h2 a b v (by omega) (by omega) v1 v2⟩
/-- .. and letters come wherever there is a way in truth, over just the passes of the way -/
theorem qPost {fs sn ln : Nat → Nat} {op : Nat → Bool} {nh np a b : Nat} {wy : Nat → Nat → Nat} (hl : iLand fs sn ln nh np) (ha : a < nh) (hb : b < nh) (hw : ∀ a, a < nh → wy a b = mTruth fs sn ln op np a b) :
    mPost wy (mSt fs sn op np) a b = if mTruth fs sn ln op np a b = 1073741824 then none else some (mTruth fs sn ln op np a b % 256 / 16) := by
  obtain ⟨hfs, hsn, hln, he, hnh, hnp⟩ := hl
  have he2 : ∀ p, p < np → fs p < nh ∧ sn p < nh := fun p hp => ⟨(he p hp).1, (he p hp).2.1⟩
  have hB : ∀ a, a < nh → gBest (gET fs sn ln op np) nh a b (mTruth fs sn ln op np a b) := fun a ha => mTruth_best hfs hsn hln he2 hnh ha (by omega)
  split
  · rename_i c
    cases q : mPost wy (mSt fs sn op np) a b with
    | none => rfl
    | some v =>
      exfalso
      obtain ⟨⟨z, hz⟩, -⟩ := mLet_walk hln q
      have := gBest_lt hnh (hB a ha) ⟨z, hz⟩
      omega
  · rename_i c
    have hc : ∃ z, gW (gET fs sn ln op np) a z b := by
      obtain ⟨z, b1, -⟩ := gBest_read hnh (hB a ha) c
      exact ⟨z, b1⟩
    have hlen : mTruth fs sn ln op np a b % 256 / 16 < 21 := by
      obtain ⟨z, b1, b2, b3, b4, b5, b6, b7, -⟩ := gBest_read hnh (hB a ha) c
      omega
    have h1 := mLet_true hln hnh (wy := wy) (to := b) (fun a ha _ => by rw [hw a ha]; exact hB a ha) he2 (mTruth fs sn ln op np a b % 256 / 16) 21 0 a ha hc (by rw [hw a ha]) hlen
    rw [Nat.zero_add] at h1
    exact h1
