/-! THE STEPS that a hut takes for open, and those in truth, as the charts have them. -/
theorem gE_add {c : mC} {x y z a b w : Nat} : gE (mAdd c x y z) a b w ↔ gE c a b w ∨ (a = x ∧ b = y ∧ w = z) := by
  constructor
  · rintro ⟨i, hi, e1, e2, e3⟩
    have hi : i < c.1 + 1 := hi
    have e1 : va_up c.2.1 c.1 x i = a := e1
    have e2 : va_up c.2.2.1 c.1 y i = b := e2
    have e3 : va_up c.2.2.2 c.1 z i = w := e3
    by_cases q : i = c.1
    · subst q
      rw [va_up_self] at e1 e2 e3
      exact Or.inr ⟨e1.symm, e2.symm, e3.symm⟩
    · rw [va_up_ne _ _ q] at e1 e2 e3
      exact Or.inl ⟨i, by omega, e1, e2, e3⟩
  · rintro (⟨i, hi, e1, e2, e3⟩ | ⟨e1, e2, e3⟩)
    · have q : i ≠ c.1 := by omega
      refine ⟨i, Nat.lt_succ_of_lt hi, ?_, ?_, ?_⟩
      · show va_up c.2.1 c.1 x i = a
        rw [va_up_ne _ _ q]; exact e1
      · show va_up c.2.2.1 c.1 y i = b
        rw [va_up_ne _ _ q]; exact e2
      · show va_up c.2.2.2 c.1 z i = w
        rw [va_up_ne _ _ q]; exact e3
    · refine ⟨c.1, Nat.lt_succ_self _, ?_, ?_, ?_⟩
      · show va_up c.2.1 c.1 x c.1 = a
        rw [va_up_self]; exact e1.symm
      · show va_up c.2.2.1 c.1 y c.1 = b
        rw [va_up_self]; exact e2.symm
      · show va_up c.2.2.2 c.1 z c.1 = w
        rw [va_up_self]; exact e3.symm
theorem gE_C0 {a b w : Nat} : ¬ gE mC0 a b w := fun ⟨i, hi, _⟩ => absurd hi (Nat.not_lt_zero _)
theorem zE_succ {st : Nat → Nat → Nat} {fs sn : Nat → Nat} {np a b x : Nat} : zE st fs sn (np + 1) a b x ↔ zE st fs sn np a b x ∨ (a = fs np ∧ b = sn np ∧ st np 0 = 100 * x + 1 ∧ st np 0 < 99999999) ∨ (a = sn np ∧ b = fs np ∧ st np 1 = 100 * x + 1 ∧ st np 1 < 99999999) := by
  constructor
  · rintro ⟨p, side, hp, hs, e1, e2, e3, e4⟩
    rcases Nat.lt_succ_iff_lt_or_eq.mp hp with q | q
    · exact Or.inl ⟨p, side, q, hs, e1, e2, e3, e4⟩
    · subst q
      right
      rcases (show side = 0 ∨ side = 1 by omega) with e | e
      · subst e
        exact Or.inl ⟨e1.symm, e2.symm, e3, e4⟩
      · subst e
        exact Or.inr ⟨e1.symm, e2.symm, e3, e4⟩
  · rintro (⟨p, side, hp, hs, e1, e2, e3, e4⟩ | ⟨e1, e2, e3, e4⟩ | ⟨e1, e2, e3, e4⟩)
    · exact ⟨p, side, by omega, hs, e1, e2, e3, e4⟩
    · exact ⟨np, 0, Nat.lt_succ_self _, by decide, e1.symm, e2.symm, e3, e4⟩
    · exact ⟨np, 1, Nat.lt_succ_self _, by decide, e1.symm, e2.symm, e3, e4⟩
theorem zE_0 {st : Nat → Nat → Nat} {fs sn : Nat → Nat} {a b x : Nat} : ¬ zE st fs sn 0 a b x := fun ⟨p, side, hp, _⟩ => absurd hp (Nat.not_lt_zero _)
theorem zStH_t {S : Nat → Option mS} {fs sn : Nat → Nat} {h p side : Nat} (q : vTOpen S fs sn h p = true) : zStH S fs sn h p side = 100 * vLen (S (h * 10 + zEnd fs sn p side)) p + 1 := if_pos q
theorem zStH_f {S : Nat → Option mS} {fs sn : Nat → Nat} {h p side : Nat} (q : vTOpen S fs sn h p = false) : zStH S fs sn h p side = 99999999 := if_neg (by rw [q]; decide)
theorem gE_draw {S : Nat → Option mS} {fs sn : Nat → Nat} {h : Nat} (hsl : ∀ j p, vLen (S j) p < 100) : ∀ (np a b x : Nat), gE (vDraw S fs sn h mC0 np) a b x ↔ zE (zStH S fs sn h) fs sn np a b x
  | 0, a, b, x => ⟨fun z => absurd z gE_C0, fun z => absurd z zE_0⟩
  | np + 1, a, b, x => by
    rw [zE_succ, ← gE_draw hsl np a b x]
    show gE (vDraw1 S fs sn h (vDraw S fs sn h mC0 np) np) a b x ↔ _
    unfold vDraw1
    have l1 := hsl (h * 10 + fs np) np
    have l2 := hsl (h * 10 + sn np) np
    cases q : vTOpen S fs sn h np with
    | true =>
      rw [if_pos rfl, gE_add, gE_add, zStH_t q, zStH_t q, or_assoc]
      have z0 : zEnd fs sn np 0 = fs np := rfl
      have z1 : zEnd fs sn np 1 = sn np := rfl
      rw [z0, z1]
      constructor
      · rintro (z | ⟨e1, e2, e3⟩ | ⟨e1, e2, e3⟩)
        · exact Or.inl z
        · exact Or.inr (Or.inl ⟨e1, e2, by omega, by omega⟩)
        · exact Or.inr (Or.inr ⟨e1, e2, by omega, by omega⟩)
      · rintro (z | ⟨e1, e2, e3, e4⟩ | ⟨e1, e2, e3, e4⟩)
        · exact Or.inl z
        · exact Or.inr (Or.inl ⟨e1, e2, by omega⟩)
        · exact Or.inr (Or.inr ⟨e1, e2, by omega⟩)
    | false =>
      rw [if_neg (by decide), zStH_f q, zStH_f q]
      constructor
      · exact fun z => Or.inl z
      · rintro (z | ⟨e1, e2, e3, e4⟩ | ⟨e1, e2, e3, e4⟩)
        · exact z
        · omega
        · omega
theorem gE_true {fs sn ln : Nat → Nat} {op : Nat → Bool} (hln : ∀ j, ln j < 100) : ∀ (np a b x : Nat), gE (mTrue fs sn ln op mC0 np) a b x ↔ zE (zStT ln op) fs sn np a b x
  | 0, a, b, x => ⟨fun z => absurd z gE_C0, fun z => absurd z zE_0⟩
  | np + 1, a, b, x => by
    rw [zE_succ, ← gE_true hln np a b x]
    show gE (mTrue1 fs sn ln op (mTrue fs sn ln op mC0 np) np) a b x ↔ _
    unfold mTrue1 zStT
    have l1 := hln np
    cases q : op np with
    | true =>
      rw [if_pos rfl, gE_add, gE_add, or_assoc]
      simp only [if_true]
      constructor
      · rintro (z | ⟨e1, e2, e3⟩ | ⟨e1, e2, e3⟩)
        · exact Or.inl z
        · exact Or.inr (Or.inl ⟨e1, e2, by omega, by omega⟩)
        · exact Or.inr (Or.inr ⟨e1, e2, by omega, by omega⟩)
      · rintro (z | ⟨e1, e2, e3, e4⟩ | ⟨e1, e2, e3, e4⟩)
        · exact Or.inl z
        · exact Or.inr (Or.inl ⟨e1, e2, by omega⟩)
        · exact Or.inr (Or.inr ⟨e1, e2, by omega⟩)
    | false =>
      rw [if_neg (by decide)]
      simp only [Bool.false_eq_true, if_false]
      constructor
      · exact fun z => Or.inl z
      · rintro (z | ⟨e1, e2, e3, e4⟩ | ⟨e1, e2, e3, e4⟩)
        · exact z
        · omega
        · omega
theorem vDraw_b {S : Nat → Option mS} {fs sn : Nat → Nat} {h : Nat} (hfs : ∀ j, fs j < 10) (hsn : ∀ j, sn j < 10) (hsl : ∀ j p, vLen (S j) p < 100) : ∀ p, mCb (vDraw S fs sn h mC0 p)
  | 0 => mC0_b
  | p + 1 => by
    have ih := vDraw_b (h := h) hfs hsn hsl p
    show mCb (vDraw1 S fs sn h _ p)
    unfold vDraw1
    split
    · exact mAdd_b (mAdd_b ih (hfs p) (hsn p) (hsl _ p)) (hsn p) (hfs p) (hsl _ p)
    · exact ih
theorem zOk_H {S : Nat → Option mS} {fs sn : Nat → Nat} {np n h : Nat} (hsl : ∀ j p, vLen (S j) p < 100) (he : ∀ p, p < np → fs p < n ∧ sn p < n) : zOk (zStH S fs sn h) fs sn np n := by
  refine ⟨fun p side hp hs => ?_, fun p side hp => ?_⟩
  · cases q : vTOpen S fs sn h p with
    | true => exact Or.inr ⟨_, hsl _ p, zStH_t q⟩
    | false => exact Or.inl (zStH_f q)
  · unfold zEnd
    split
    · exact (he p hp).1
    · exact (he p hp).2
theorem zOk_T {fs sn ln : Nat → Nat} {op : Nat → Bool} {np n : Nat} (hln : ∀ j, ln j < 100) (he : ∀ p, p < np → fs p < n ∧ sn p < n) : zOk (zStT ln op) fs sn np n := by
  refine ⟨fun p side hp hs => ?_, fun p side hp => ?_⟩
  · unfold zStT
    split
    · exact Or.inr ⟨_, hln p, rfl⟩
    · exact Or.inl rfl
  · unfold zEnd
    split
    · exact (he p hp).1
    · exact (he p hp).2
abbrev gEH (S : Nat → Option mS) (fs sn : Nat → Nat) (np h : Nat) : Nat → Nat → Nat → Prop := zE (zStH S fs sn h) fs sn np
abbrev gET (fs sn ln : Nat → Nat) (op : Nat → Bool) (np : Nat) : Nat → Nat → Nat → Prop := zE (zStT ln op) fs sn np
theorem gBest_iff {E E2 : Nat → Nat → Nat → Prop} {N h j v : Nat} (he : ∀ a b x, E a b x ↔ E2 a b x) (h1 : gBest E N h j v) : gBest E2 N h j v := by
  rcases h1 with ⟨a1, a2⟩ | ⟨w, a1, a2, a3, a4, a5, a6, a7⟩
  · exact Or.inl ⟨a1, fun w hw => a2 w ((gW_iff he).mpr hw)⟩
  · exact Or.inr ⟨w, (gW_iff he).mp a1, a2, a3, a4, a5, a6, fun w2 hw2 => a7 w2 ((gW_iff he).mpr hw2)⟩
/-- the way that a hut knows is the best over the passes that it takes for open -/
theorem vWay_best {S : Nat → Option mS} {fs sn : Nat → Nat} {np n h j : Nat} (hfs : ∀ j, fs j < 10) (hsn : ∀ j, sn j < 10) (hsl : ∀ j p, vLen (S j) p < 100) (he : ∀ p, p < np → fs p < n ∧ sn p < n) (hn : n ≤ 10) (hh : h < n) (hj : j < 10) : gBest (gEH S fs sn np h) n h j (vWay S fs sn np h j) := by
  have hE := gE_draw (h := h) (fs := fs) (sn := sn) hsl np
  exact gBest_iff hE (gRow_best (vDraw_b hfs hsn hsl np) hn hh (fun a b x z => zE_lt (zOk_H hsl he) a b x ((hE a b x).mp z)) _ hj)
theorem mTruth_best {fs sn ln : Nat → Nat} {op : Nat → Bool} {np n a j : Nat} (hfs : ∀ j, fs j < 10) (hsn : ∀ j, sn j < 10) (hln : ∀ j, ln j < 100) (he : ∀ p, p < np → fs p < n ∧ sn p < n) (hn : n ≤ 10) (ha : a < n) (hj : j < 10) : gBest (gET fs sn ln op np) n a j (mTruth fs sn ln op np a j) := by
  have hE := gE_true (fs := fs) (sn := sn) (op := op) hln np
  exact gBest_iff hE (gRow_best (mTrue_b mC0_b hfs hsn hln np) hn ha (fun a b x z => zE_lt (zOk_T hln he) a b x ((hE a b x).mp z)) _ hj)
/-- steps in truth go to and fro -/
theorem gET_sym {fs sn ln : Nat → Nat} {op : Nat → Bool} {np a b x : Nat} (h : gET fs sn ln op np a b x) : gET fs sn ln op np b a x := by
  obtain ⟨p, side, hp, hs, e1, e2, e3, e4⟩ := h
  refine ⟨p, 1 - side, hp, by omega, e2, ?_, e3, e4⟩
  rw [← e1]
  congr 1
  omega
theorem gET_iff {fs sn ln : Nat → Nat} {op : Nat → Bool} {np a b x : Nat} (hln : ∀ j, ln j < 100) : gET fs sn ln op np a b x ↔ ∃ p, p < np ∧ op p = true ∧ x = ln p ∧ ((fs p = a ∧ sn p = b) ∨ (sn p = a ∧ fs p = b)) := by
  constructor
  · rintro ⟨p, side, hp, hs, e1, e2, e3, e4⟩
    unfold zStT at e3 e4
    split at e3
    · rename_i q
      refine ⟨p, hp, q, by omega, ?_⟩
      rcases (show side = 0 ∨ side = 1 by omega) with e | e
      · subst e; exact Or.inl ⟨e1, e2⟩
      · subst e; exact Or.inr ⟨e1, e2⟩
    · rename_i q
      rw [if_neg q] at e4
      omega
  · rintro ⟨p, hp, q, hx, h⟩
    have h1 : zStT ln op p 0 = 100 * x + 1 := by unfold zStT; rw [if_pos q, hx]
    have h2 : zStT ln op p 1 = 100 * x + 1 := by unfold zStT; rw [if_pos q, hx]
    have h3 := hln p
    rcases h with ⟨e1, e2⟩ | ⟨e1, e2⟩
    · exact ⟨p, 0, hp, by decide, e1, e2, h1, by omega⟩
    · exact ⟨p, 1, hp, by decide, e1, e2, h2, by omega⟩
/-- a walk in truth backwards -/
theorem gW_rev {fs sn ln : Nat → Nat} {op : Nat → Bool} {np : Nat} : ∀ {w : List (Nat × Nat)} {a b : Nat}, gW (gET fs sn ln op np) a w b → ∃ w2, gW (gET fs sn ln op np) b w2 a ∧ gL w2 = gL w ∧ w2.length = w.length
  | [], a, b, h => ⟨[], Eq.symm h, rfl, rfl⟩
  | q :: w, a, b, h => by
    obtain ⟨w2, h1, h2, h3⟩ := gW_rev h.2
    refine ⟨w2 ++ [(a, q.2)], gW_snoc h1 (gET_sym h.1), ?_, ?_⟩
    · rw [gL_app, h2]
      simp only [gL]
      omega
    · simp [h3]
