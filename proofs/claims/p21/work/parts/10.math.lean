/-! THE WAYS THAT A HUT KNOWS: the chart that its sheets draw, the search over it, and what is kept of it. -/
abbrev mC : Type := Nat × (Nat → Nat) × (Nat → Nat) × (Nat → Nat)
def mAdd (c : mC) (x y z : Nat) : mC := (c.1 + 1, va_up c.2.1 c.1 x, va_up c.2.2.1 c.1 y, va_up c.2.2.2 c.1 z)
def mDraw1 (sv : Nat → mS) (hd : Nat → Option Nat) (fs sn : Nat → Nat) (h : Nat) (c : mC) (p : Nat) : mC :=
  if mTOpen sv hd fs sn h p = true then mAdd (mAdd c (fs p) (sn p) (mLen sv (hd (h * 10 + fs p)) p)) (sn p) (fs p) (mLen sv (hd (h * 10 + sn p)) p) else c
def mDraw (sv : Nat → mS) (hd : Nat → Option Nat) (fs sn : Nat → Nat) (h : Nat) (c : mC) : Nat → mC
  | 0 => c
  | p + 1 => mDraw1 sv hd fs sn h (mDraw sv hd fs sn h c p) p
/-- two charts tell the same steps -/
def mCeq (c d : mC) : Prop := c.1 = d.1 ∧ ∀ i, i < c.1 → c.2.1 i = d.2.1 i ∧ c.2.2.1 i = d.2.2.1 i ∧ c.2.2.2 i = d.2.2.2 i
def mCb (c : mC) : Prop := (∀ j, c.2.1 j < 10) ∧ (∀ j, c.2.2.1 j < 10) ∧ ∀ j, c.2.2.2 j < 100
theorem mAdd_eq {c d : mC} (h : mCeq c d) (x y z : Nat) : mCeq (mAdd c x y z) (mAdd d x y z) := by
  obtain ⟨h1, h2⟩ := h
  refine ⟨by show c.1 + 1 = d.1 + 1; rw [h1], fun i hi => ?_⟩
  have hi : i < c.1 + 1 := hi
  by_cases q : i = c.1
  · have q2 : i = d.1 := by rw [q, h1]
    refine ⟨?_, ?_, ?_⟩
    · show va_up c.2.1 c.1 x i = va_up d.2.1 d.1 x i
      simp only [va_up, if_pos q, if_pos q2]
    · show va_up c.2.2.1 c.1 y i = va_up d.2.2.1 d.1 y i
      simp only [va_up, if_pos q, if_pos q2]
    · show va_up c.2.2.2 c.1 z i = va_up d.2.2.2 d.1 z i
      simp only [va_up, if_pos q, if_pos q2]
  · have q2 : ¬ i = d.1 := by rw [← h1]; exact q
    obtain ⟨e1, e2, e3⟩ := h2 i (by omega)
    refine ⟨?_, ?_, ?_⟩
    · show va_up c.2.1 c.1 x i = va_up d.2.1 d.1 x i
      simp only [va_up, if_neg q, if_neg q2, e1]
    · show va_up c.2.2.1 c.1 y i = va_up d.2.2.1 d.1 y i
      simp only [va_up, if_neg q, if_neg q2, e2]
    · show va_up c.2.2.2 c.1 z i = va_up d.2.2.2 d.1 z i
      simp only [va_up, if_neg q, if_neg q2, e3]
theorem mUp_lt {f : Nat → Nat} {k x n : Nat} (h : ∀ j, f j < n) (hx : x < n) : ∀ j, va_up f k x j < n := by
  intro j
  unfold va_up
  split
  · exact hx
  · exact h j
theorem mAdd_b {c : mC} (h : mCb c) {x y z : Nat} (hx : x < 10) (hy : y < 10) (hz : z < 100) : mCb (mAdd c x y z) := ⟨mUp_lt h.1 hx, mUp_lt h.2.1 hy, mUp_lt h.2.2 hz⟩
theorem mDraw_eq {sv : Nat → mS} {hd : Nat → Option Nat} {fs sn : Nat → Nat} {h : Nat} {c d : mC} (q : mCeq c d) : ∀ p, mCeq (mDraw sv hd fs sn h c p) (mDraw sv hd fs sn h d p)
  | 0 => q
  | p + 1 => by
    have ih := mDraw_eq (sv := sv) (hd := hd) (fs := fs) (sn := sn) (h := h) q p
    show mCeq (mDraw1 sv hd fs sn h _ p) (mDraw1 sv hd fs sn h _ p)
    unfold mDraw1
    split
    · exact mAdd_eq (mAdd_eq ih _ _ _) _ _ _
    · exact ih
theorem mDraw_b {sv : Nat → mS} {hd : Nat → Option Nat} {fs sn : Nat → Nat} {h : Nat} {c : mC} (q : mCb c) (hfs : ∀ j, fs j < 10) (hsn : ∀ j, sn j < 10) (hsl : ∀ j p, mLen sv (hd j) p < 100) : ∀ p, mCb (mDraw sv hd fs sn h c p)
  | 0 => q
  | p + 1 => by
    have ih := mDraw_b (h := h) q hfs hsn hsl p
    show mCb (mDraw1 sv hd fs sn h _ p)
    unfold mDraw1
    split
    · exact mAdd_b (mAdd_b ih (hfs p) (hsn p) (hsl _ p)) (hsn p) (hfs p) (hsl _ p)
    · exact ih
theorem mDraw_le {sv : Nat → mS} {hd : Nat → Option Nat} {fs sn : Nat → Nat} {h : Nat} {c : mC} (q : c.1 = 0) : ∀ p, (mDraw sv hd fs sn h c p).1 ≤ 2 * p
  | 0 => by show c.1 ≤ _; omega
  | p + 1 => by
    have ih := mDraw_le (sv := sv) (hd := hd) (fs := fs) (sn := sn) (h := h) q p
    show (mDraw1 sv hd fs sn h _ p).1 ≤ _
    unfold mDraw1
    split
    · show _ + 1 + 1 ≤ _
      omega
    · omega
theorem mLen_lt {G : kG} {L : List Nat} {f : Nat → va_E} {sv : Nat → mS} {hd : Nat → Option Nat} (h : kHeld G L f sv hd) : ∀ j p, mLen sv (hd j) p < 100 := by
  intro j p
  cases q : hd j with
  | none => show 0 < 100; decide
  | some y =>
    obtain ⟨-, -, -, -, -, h1, -⟩ := h j y q
    exact h1 p
/-! the search hangs on what the chart tells alone -/
def sAgree (a b : Nat → Nat) : Prop := ∀ j, j < 10 → a j = b j
theorem sStep_agree {h : Nat} {c d : mC} {a b : Nat → Nat} {i : Nat} (q : mCeq c d) (hb : mCb c) (hi : i < c.1) (e : sAgree a b) : sAgree (sStep h c.2.1 c.2.2.1 c.2.2.2 a i) (sStep h d.2.1 d.2.2.1 d.2.2.2 b i) := by
  obtain ⟨e1, e2, e3⟩ := q.2 i hi
  have f1 := e _ (hb.1 i)
  have f2 := e _ (hb.2.1 i)
  intro j hj
  unfold sStep
  rw [← e1, ← e2, ← e3, ← f1, ← f2]
  split
  · exact e j hj
  · split
    · unfold va_up
      split
      · rfl
      · exact e j hj
    · exact e j hj
theorem sPass_agree {h : Nat} {c d : mC} {a b : Nat → Nat} (q : mCeq c d) (hb : mCb c) (e : sAgree a b) : ∀ i, i ≤ c.1 → sAgree (sPass h c.2.1 c.2.2.1 c.2.2.2 a i) (sPass h d.2.1 d.2.2.1 d.2.2.2 b i)
  | 0, _ => e
  | i + 1, hi => sStep_agree q hb (by omega) (sPass_agree q hb e i (by omega))
theorem sIter_agree {h : Nat} {c d : mC} {a b : Nat → Nat} (q : mCeq c d) (hb : mCb c) (e : sAgree a b) : ∀ r, sAgree (sIter h c.2.1 c.2.2.1 c.2.2.2 c.1 a r) (sIter h d.2.1 d.2.2.1 d.2.2.2 d.1 b r)
  | 0 => e
  | r + 1 => by
    have ih := sIter_agree (h := h) q hb e r
    show sAgree (sPass h c.2.1 c.2.2.1 c.2.2.2 _ c.1) (sPass h d.2.1 d.2.2.1 d.2.2.2 _ d.1)
    rw [← q.1]
    rw [← q.1] at ih
    exact sPass_agree q hb ih c.1 (Nat.le_refl _)
theorem sInit_agree (h : Nat) (a b : Nat → Nat) : sAgree (sInit h a) (sInit h b) := by
  intro j hj
  unfold sInit va_up sFill
  split
  · rfl
  · first | rfl | rw [if_pos hj, if_pos hj]
/-! what each number of a search is: none, or one whose last part is a hut -/
def sFine (b : Nat → Nat) : Prop := ∀ j, j < 10 → b j ≤ 1073741824 ∧ (b j = 1073741824 ∨ b j % 16 < 10)
theorem sCand_mod {h f t x w : Nat} (hh : h < 10) (ht : t < 10) (hw : f = h → h = w) (hf : w % 16 < 10) : sCand h f t x w % 16 < 10 := by
  unfold sCand
  split
  · rename_i q
    have := hw q
    subst this
    omega
  · omega
theorem sStep_h {h : Nat} {c : mC} {b : Nat → Nat} {i : Nat} (hb : mCb c) (hh : h < 10) (e : b h = h) (hbn : ∀ j, j < 10 → h ≤ b j) : sStep h c.2.1 c.2.2.1 c.2.2.2 b i h = h := by
  unfold sStep
  split
  · exact e
  · split
    · rename_i q1 q2
      unfold va_up
      split
      · rename_i q3
        exfalso
        rw [← q3, e] at q2
        have := hbn _ (hb.1 i)
        unfold sCand at q2
        split at q2
        · rename_i q4
          rw [q4, e] at q2
          omega
        · omega
      · exact e
    · exact e
theorem sStep_fine {h : Nat} {c : mC} {b : Nat → Nat} {i : Nat} (hb : mCb c) (hh : h < 10) (e : b h = h) (hbn : ∀ j, j < 10 → h ≤ b j) (hf : sFine b) : sFine (sStep h c.2.1 c.2.2.1 c.2.2.2 b i) ∧ ∀ j, j < 10 → h ≤ sStep h c.2.1 c.2.2.1 c.2.2.2 b i j := by
  have k1 := hf _ (hb.1 i)
  have k2 := hf _ (hb.2.1 i)
  have k3 := hbn _ (hb.1 i)
  unfold sStep
  split
  · exact ⟨hf, hbn⟩
  · rename_i q1
    split
    · rename_i q2
      have m1 : sCand h (c.2.1 i) (c.2.2.1 i) (c.2.2.2 i) (b (c.2.1 i)) % 16 < 10 := sCand_mod hh (hb.2.1 i) (fun z => by rw [z, e]) (k1.2.resolve_left q1)
      refine ⟨fun j hj => ?_, fun j hj => ?_⟩
      · unfold va_up
        split
        · exact ⟨by omega, Or.inr m1⟩
        · exact hf j hj
      · unfold va_up
        split
        · unfold sCand
          split
          · omega
          · omega
        · exact hbn j hj
    · exact ⟨hf, hbn⟩
theorem sPass_fine {h : Nat} {c : mC} {b : Nat → Nat} (hb : mCb c) (hh : h < 10) (e : b h = h) (hbn : ∀ j, j < 10 → h ≤ b j) (hf : sFine b) : ∀ i, sFine (sPass h c.2.1 c.2.2.1 c.2.2.2 b i) ∧ (∀ j, j < 10 → h ≤ sPass h c.2.1 c.2.2.1 c.2.2.2 b i j) ∧ sPass h c.2.1 c.2.2.1 c.2.2.2 b i h = h
  | 0 => ⟨hf, hbn, e⟩
  | i + 1 => by
    obtain ⟨i1, i2, i3⟩ := sPass_fine hb hh e hbn hf i
    have := sStep_fine (i := i) hb hh i3 i2 i1
    exact ⟨this.1, this.2, sStep_h hb hh i3 i2⟩
theorem sIter_fine {h : Nat} {c : mC} {b : Nat → Nat} (hb : mCb c) (hh : h < 10) (e : b h = h) (hbn : ∀ j, j < 10 → h ≤ b j) (hf : sFine b) : ∀ r, sFine (sIter h c.2.1 c.2.2.1 c.2.2.2 c.1 b r) ∧ (∀ j, j < 10 → h ≤ sIter h c.2.1 c.2.2.1 c.2.2.2 c.1 b r j) ∧ sIter h c.2.1 c.2.2.1 c.2.2.2 c.1 b r h = h
  | 0 => ⟨hf, hbn, e⟩
  | r + 1 => by
    obtain ⟨i1, i2, i3⟩ := sIter_fine hb hh e hbn hf r
    exact sPass_fine hb hh i3 i2 i1 c.1
theorem sInit_fine {h : Nat} (hh : h < 10) (b : Nat → Nat) : sFine (sInit h b) ∧ (∀ j, j < 10 → h ≤ sInit h b j) ∧ sInit h b h = h := by
  refine ⟨fun j hj => ?_, fun j hj => (sInit_b b hh j hj).1, by simp [sInit, va_up]⟩
  refine ⟨(sInit_b b hh j hj).2, ?_⟩
  unfold sInit va_up sFill
  split
  · right; omega
  · left; first | rfl | rw [if_pos hj]
/-- the ways that a hut knows by its sheets: a number each -/
def mC0 : mC := (0, fun _ => 0, fun _ => 0, fun _ => 0)
theorem mC0_b : mCb mC0 := ⟨fun _ => Nat.zero_lt_succ _, fun _ => Nat.zero_lt_succ _, fun _ => Nat.zero_lt_succ _⟩
def mRow (h : Nat) (c : mC) (b : Nat → Nat) : Nat → Nat := sIter h c.2.1 c.2.2.1 c.2.2.2 c.1 (sInit h b) 10
def mWay (sv : Nat → mS) (hd : Nat → Option Nat) (fs sn : Nat → Nat) (np h : Nat) : Nat → Nat := mRow h (mDraw sv hd fs sn h mC0 np) (fun _ => 0)
theorem mRow_way {sv : Nat → mS} {hd : Nat → Option Nat} {fs sn : Nat → Nat} {np h : Nat} {c : mC} {b : Nat → Nat} (q : c.1 = 0) (hb : mCb c) (hfs : ∀ j, fs j < 10) (hsn : ∀ j, sn j < 10) (hsl : ∀ j p, mLen sv (hd j) p < 100) : sAgree (mRow h (mDraw sv hd fs sn h c np) b) (mWay sv hd fs sn np h) :=
  sIter_agree (mDraw_eq ⟨q, fun i hi => by omega⟩ np) (mDraw_b hb hfs hsn hsl np) (sInit_agree h _ _) 10
theorem mRow_fine {h : Nat} {c : mC} {b : Nat → Nat} (hb : mCb c) (hh : h < 10) : sFine (mRow h c b) := by
  obtain ⟨i1, i2, i3⟩ := sInit_fine hh b
  exact (sIter_fine hb hh i3 i2 i1 10).1
theorem mWay_fine {sv : Nat → mS} {hd : Nat → Option Nat} {fs sn : Nat → Nat} {np h : Nat} (hh : h < 10) (hfs : ∀ j, fs j < 10) (hsn : ∀ j, sn j < 10) (hsl : ∀ j p, mLen sv (hd j) p < 100) : sFine (mWay sv hd fs sn np h) := mRow_fine (mDraw_b mC0_b hfs hsn hsl np) hh
/-! what is kept of the ways: the chart, which huts' ways stand, the pool (their rows in it), the rows -/
abbrev kC : Type := Nat × (Nat → Nat) × (Nat → Nat) × (Nat → Nat) × (Nat → Bool) × (Nat → va_E) × (Nat → Nat → Nat)
def kRows (G : kG) (L : List Nat) (r : Nat → Nat) (f : Nat → va_E) (W : Nat → Nat → Nat) : Prop := (∀ i, i < 10 → r i ∈ L ∧ f (r i) = .inl (G.2 0, 10, .inl (kI (W i)))) ∧ ∀ i j, i < 10 → j < 10 → r i = r j → i = j
def kOk (G : kG) (L : List Nat) (r : Nat → Nat) (wy : Nat → Nat → Nat) (cs : kC) : Prop := kRows G L r cs.2.2.2.2.2.1 cs.2.2.2.2.2.2 ∧ mCb (cs.1, cs.2.1, cs.2.2.1, cs.2.2.2.1) ∧ ∀ i, i < 10 → cs.2.2.2.2.1 i = true → sAgree (cs.2.2.2.2.2.2 i) (wy i)
/-- the pool is the same but for the rows of r -/
def kKeep (r : Nat → Nat) (f f' : Nat → va_E) : Prop := ∀ y, (∀ i, i < 10 → y ≠ r i) → f' y = f y
theorem kKeep.rfl {r : Nat → Nat} {f : Nat → va_E} : kKeep r f f := fun _ _ => Eq.refl _
theorem kKeep.trans {r : Nat → Nat} {f g k : Nat → va_E} (h1 : kKeep r f g) (h2 : kKeep r g k) : kKeep r f k := fun y hy => (h2 y hy).trans (h1 y hy)
theorem kRows.no {G : kG} {L : List Nat} {r : Nat → Nat} {f : Nat → va_E} {W : Nat → Nat → Nat} (h : kRows G L r f W) {y : Nat} (hy : ∀ g, f y ≠ .inl (G.2 0, 10, g)) : ∀ i, i < 10 → y ≠ r i := fun i hi e => hy _ (by rw [e]; exact (h.1 i hi).2)
theorem kSheet.keep {G : kG} {L : List Nat} {r : Nat → Nat} {f f' : Nat → va_E} {W : Nat → Nat → Nat} {y : Nat} {v : mS} (hr : kRows G L r f W) (hk : kKeep r f f') (h : kSheet G L f y v) : kSheet G L f' y v := by
  obtain ⟨h1, ly, h2, h3, h4, h5⟩ := h
  refine ⟨h1, ly, h2, ?_, ?_, h5⟩
  · rw [hk y (hr.no (fun g q => by rw [h3] at q; cases q))]; exact h3
  · rw [hk ly (hr.no (fun g q => by rw [h4] at q; cases q))]; exact h4
theorem kHeld.keep {G : kG} {L : List Nat} {r : Nat → Nat} {f f' : Nat → va_E} {W : Nat → Nat → Nat} {sv : Nat → mS} {hd : Nat → Option Nat} (hr : kRows G L r f W) (hk : kKeep r f f') (h : kHeld G L f sv hd) : kHeld G L f' sv hd := fun j y q => (h j y q).keep hr hk
theorem kRows.up {G : kG} {L : List Nat} {r : Nat → Nat} {f : Nat → va_E} {W : Nat → Nat → Nat} (hr : kRows G L r f W) {h : Nat} (hh : h < 10) (w : Nat → Nat) : kRows G L r (va_up f (r h) (.inl (G.2 0, 10, .inl (kI w)))) (va_up W h w) := by
  refine ⟨fun i hi => ⟨(hr.1 i hi).1, ?_⟩, hr.2⟩
  unfold va_up
  by_cases q : i = h
  · subst q; rw [if_pos rfl, if_pos rfl]
  · rw [if_neg q, if_neg (fun z => q (hr.2 i h hi hh z))]; exact (hr.1 i hi).2
theorem kKeep.up {r : Nat → Nat} {f : Nat → va_E} {h : Nat} (hh : h < 10) (e : va_E) : kKeep r f (va_up f (r h) e) := fun y hy => by unfold va_up; rw [if_neg (hy h hh)]
/-- the letter's way: steps done, from the hut where it is -/
def mLet (wy : Nat → Nat → Nat) (st : Nat → Nat → Bool) (to : Nat) : Nat → Nat → Nat → Option Nat
  | 0, _, _ => none
  | n + 1, k, at_ => if at_ = to then some k else if wy at_ to = 1073741824 ∨ st at_ (wy at_ to % 16) = false then none else mLet wy st to n (k + 1) (wy at_ to % 16)
def mOI (o : Option Nat) : Int32 := match o with
  | none => -1
  | some k => nI k
def mPost (wy : Nat → Nat → Nat) (st : Nat → Nat → Bool) (a b : Nat) : Option Nat := mLet wy st b 21 0 a
def kRw (r : Nat → Nat) : Nat → Option Nat := fun i => if i < 10 then some (r i) else none
theorem kRw_at {r : Nat → Nat} {h : Nat} (hh : h < 10) : va_rf (kRw r h) = .ref (r h) := by unfold kRw; rw [if_pos hh]; rfl
theorem kOk.find {G : kG} {L : List Nat} {r : Nat → Nat} {wy : Nat → Nat → Nat} {cs : kC} {sv : Nat → mS} {hd : Nat → Option Nat} {fs sn : Nat → Nat} {np h : Nat} (hok : kOk G L r wy cs) (hwy : ∀ i, wy i = mWay sv hd fs sn np i) (hh : h < 10) (hfs : ∀ j, fs j < 10) (hsn : ∀ j, sn j < 10) (hsl : ∀ j p, mLen sv (hd j) p < 100) {ch : mC} (hch : ch = mDraw sv hd fs sn h (0, cs.2.1, cs.2.2.1, cs.2.2.2.1) np) :
    kOk G L r wy (ch.1, ch.2.1, ch.2.2.1, ch.2.2.2, va_up cs.2.2.2.2.1 h true, va_up cs.2.2.2.2.2.1 (r h) (.inl (G.2 0, 10, .inl (kI (sIter h ch.2.1 ch.2.2.1 ch.2.2.2 ch.1 (sInit h (cs.2.2.2.2.2.2 h)) 10)))), va_up cs.2.2.2.2.2.2 h (mRow h ch (cs.2.2.2.2.2.2 h))) := by
  have hb0 : mCb (0, cs.2.1, cs.2.2.1, cs.2.2.2.1) := hok.2.1
  refine ⟨hok.1.up hh _, ?_, ?_⟩
  · show mCb ch
    rw [hch]
    exact mDraw_b hb0 hfs hsn hsl np
  · intro i hi hw
    have hw : va_up cs.2.2.2.2.1 h true i = true := hw
    show sAgree (va_up cs.2.2.2.2.2.2 h (mRow h ch (cs.2.2.2.2.2.2 h)) i) (wy i)
    by_cases q : i = h
    · subst q
      rw [va_up_self, hwy, hch]
      exact mRow_way rfl hb0 hfs hsn hsl
    · rw [va_up_ne _ _ q]
      rw [va_up_ne _ _ q] at hw
      exact hok.2.2 i hi hw
theorem mOI_lt {o : Option Nat} (h : ∀ k, o = some k → k < 2 ^ 31) : mOI o < 0 ↔ o = none := by
  cases o with
  | none => exact ⟨fun _ => rfl, fun _ => by decide⟩
  | some k => exact ⟨fun q => absurd q (nI_pos (h k rfl)), fun q => by cases q⟩
theorem mLet_le {wy : Nat → Nat → Nat} {st : Nat → Nat → Bool} {to : Nat} : ∀ {n k a v : Nat}, mLet wy st to n k a = some v → v < k + n
  | 0, _, _, _, h => by cases h
  | n + 1, k, a, v, h => by
    unfold mLet at h
    split at h
    · cases h; omega
    · split at h
      · cases h
      · have := mLet_le h
        omega
theorem mPost_lt {wy : Nat → Nat → Nat} {st : Nat → Nat → Bool} {a b k : Nat} (h : mPost wy st a b = some k) : k < 2 ^ 31 := by
  have := mLet_le h
  omega
theorem mPost_n {wy : Nat → Nat → Nat} {st : Nat → Nat → Bool} {a b : Nat} (h : mOI (mPost wy st a b) < 0) : (mPost wy st a b).isSome = false := by
  rw [(mOI_lt (fun _ => mPost_lt)).mp h]
  rfl
theorem mPost_s {wy : Nat → Nat → Nat} {st : Nat → Nat → Bool} {a b : Nat} (h : ¬ mOI (mPost wy st a b) < 0) : (mPost wy st a b).isSome = true := by
  cases q : mPost wy st a b with
  | none => rw [q] at h; exact absurd ((mOI_lt (fun _ z => by cases z)).mpr rfl) h
  | some k => rfl
def mSt (fs sn : Nat → Nat) (op : Nat → Bool) (np : Nat) : Nat → Nat → Bool := fun a b => mAny (mJoin fs sn op a b) np
theorem mLet_at {wy : Nat → Nat → Nat} {st : Nat → Nat → Bool} {to n k a : Nat} (h : a = to) : mLet wy st to (n + 1) k a = some k := by unfold mLet; rw [if_pos h]
theorem mLet_no {wy : Nat → Nat → Nat} {st : Nat → Nat → Bool} {to n k a : Nat} (h : a ≠ to) (q : wy a to = 1073741824 ∨ st a (wy a to % 16) = false) : mLet wy st to (n + 1) k a = none := by unfold mLet; rw [if_neg h, if_pos q]
theorem mLet_go {wy : Nat → Nat → Nat} {st : Nat → Nat → Bool} {to n k a : Nat} (h : a ≠ to) (q1 : wy a to ≠ 1073741824) (q2 : st a (wy a to % 16) = true) : mLet wy st to (n + 1) k a = mLet wy st to n (k + 1) (wy a to % 16) := by
  show (if a = to then _ else _) = _
  rw [if_neg h, if_neg (fun z => z.elim q1 (fun z => by rw [q2] at z; cases z))]
