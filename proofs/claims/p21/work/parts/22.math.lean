/-! BOTH NOTES IN ONE POOL: it grows, the rows of ways change, sheets stay. -/
def kGro (r r2 : Nat → Nat) (L : List Nat) (f : Nat → va_E) (sv : Nat → mS) (L' : List Nat) (f' : Nat → va_E) (sv' : Nat → mS) : Prop := ∀ y, y ∈ L → y ∈ L' ∧ sv' y = sv y ∧ ((∀ i, i < 10 → y ≠ r i) → (∀ i, i < 10 → y ≠ r2 i) → f' y = f y)
theorem kGro.rfl {r r2 : Nat → Nat} {L : List Nat} {f : Nat → va_E} {sv : Nat → mS} : kGro r r2 L f sv L f sv := fun _ h => ⟨h, Eq.refl _, fun _ _ => Eq.refl _⟩
theorem kGro.trans {r r2 : Nat → Nat} {L L1 L2 : List Nat} {f f1 f2 : Nat → va_E} {sv sv1 sv2 : Nat → mS} (h1 : kGro r r2 L f sv L1 f1 sv1) (h2 : kGro r r2 L1 f1 sv1 L2 f2 sv2) : kGro r r2 L f sv L2 f2 sv2 := fun y hy => by
  obtain ⟨a1, a2, a3⟩ := h1 y hy
  obtain ⟨b1, b2, b3⟩ := h2 y a1
  exact ⟨b1, b2.trans a2, fun q1 q2 => (b3 q1 q2).trans (a3 q1 q2)⟩
theorem kGro.ext {r r2 : Nat → Nat} {L L' : List Nat} {f f' : Nat → va_E} {sv sv' : Nat → mS} (h : kExt L f sv L' f' sv') : kGro r r2 L f sv L' f' sv' := fun y hy => ⟨(h y hy).1, (h y hy).2.2, fun _ _ => (h y hy).2.1⟩
theorem kGro.keep1 {r r2 : Nat → Nat} {L : List Nat} {f f' : Nat → va_E} {sv : Nat → mS} (h : kKeep r f f') : kGro r r2 L f sv L f' sv := fun y hy => ⟨hy, Eq.refl _, fun q _ => h y q⟩
theorem kGro.keep2 {r r2 : Nat → Nat} {L : List Nat} {f f' : Nat → va_E} {sv : Nat → mS} (h : kKeep r2 f f') : kGro r r2 L f sv L f' sv := fun y hy => ⟨hy, Eq.refl _, fun _ q => h y q⟩
theorem kSheet.gro {G : kG} {r r2 : Nat → Nat} {L L' : List Nat} {f f' : Nat → va_E} {sv sv' : Nat → mS} {W W2 : Nat → Nat → Nat} {y : Nat} {v : mS} (hr : kRows G L r f W) (hr2 : kRows G L r2 f W2) (hg : kGro r r2 L f sv L' f' sv') (h : kSheet G L f y v) : kSheet G L' f' y v := by
  obtain ⟨h1, ly, h2, h3, h4, h5⟩ := h
  have n3 : ∀ g, f y ≠ .inl (G.2 0, 10, g) := fun g q => by rw [h3] at q; cases q
  have n4 : ∀ g, f ly ≠ .inl (G.2 0, 10, g) := fun g q => by rw [h4] at q; cases q
  exact ⟨(hg y h1).1, ly, (hg ly h2).1, ((hg y h1).2.2 (hr.no n3) (hr2.no n3)).trans h3, ((hg ly h2).2.2 (hr.no n4) (hr2.no n4)).trans h4, h5⟩
theorem kHeld.gro {G : kG} {r r2 : Nat → Nat} {L L' : List Nat} {f f' : Nat → va_E} {sv sv' : Nat → mS} {W W2 : Nat → Nat → Nat} {hd : Nat → Option Nat} (hr : kRows G L r f W) (hr2 : kRows G L r2 f W2) (hg : kGro r r2 L f sv L' f' sv') (h : kHeld G L f sv hd) : kHeld G L' f' sv' hd := fun j y q => by
  have h1 := h j y q
  rw [(hg y h1.1).2.1]
  exact h1.gro hr hr2 hg
theorem shv_gro {G : kG} {r r2 : Nat → Nat} {L L' : List Nat} {f f' : Nat → va_E} {sv sv' : Nat → mS} {hd : Nat → Option Nat} (hg : kGro r r2 L f sv L' f' sv') (h : kHeld G L f sv hd) : shv sv' hd = shv sv hd := by
  funext j
  unfold shv
  cases q : hd j with
  | none => rfl
  | some y => exact congrArg some (hg y (h j y q).1).2.1
theorem kRows.ext {G : kG} {r : Nat → Nat} {L L' : List Nat} {f f' : Nat → va_E} {sv sv' : Nat → mS} {W : Nat → Nat → Nat} (hx : kExt L f sv L' f' sv') (h : kRows G L r f W) : kRows G L' r f' W :=
  ⟨fun i hi => ⟨(hx _ (h.1 i hi).1).1, (hx _ (h.1 i hi).1).2.1.trans (h.1 i hi).2⟩, h.2⟩
theorem kRows.other {G : kG} {r r2 : Nat → Nat} {L : List Nat} {f f' : Nat → va_E} {W : Nat → Nat → Nat} (hk : kKeep r f f') (hd : ∀ i j : Nat, i < 10 → j < 10 → r i ≠ r2 j) (h : kRows G L r2 f W) : kRows G L r2 f' W :=
  ⟨fun i hi => ⟨(h.1 i hi).1, (hk _ (fun j hj e => hd j i hj hi e.symm)).trans (h.1 i hi).2⟩, h.2⟩
theorem mForget_10 (wf : Nat → Bool) {i : Nat} (hi : i < 10) : mForget wf 10 i = false := by unfold mForget mCopy; rw [if_pos hi]
/-- ways that are forgotten stand right, whatever they were -/
theorem kOk_forgot {G : kG} {L : List Nat} {r : Nat → Nat} {wy : Nat → Nat → Nat} {k : Nat} {fr to le : Nat → Nat} {wf : Nat → Bool} {f : Nat → va_E} {W : Nat → Nat → Nat} (hr : kRows G L r f W) (hm : mCb (k, fr, to, le)) : kOk G L r wy (k, fr, to, le, mForget wf 10, f, W) :=
  ⟨hr, hm, fun i hi h => by have h : mForget wf 10 i = true := h; rw [mForget_10 wf hi] at h; cases h⟩
/-! the ways in values -/
def vLen (o : Option mS) (p : Nat) : Nat := match o with
  | none => 0
  | some v => v.2.2 p
theorem mLen_v {sv : Nat → mS} {o : Option Nat} {p : Nat} : mLen sv o p = vLen (o.map sv) p := by cases o <;> rfl
def vTOpen (S : Nat → Option mS) (fs sn : Nat → Nat) (h p : Nat) : Bool := decide (0 < vLen (S (h * 10 + fs p)) p) && decide (0 < vLen (S (h * 10 + sn p)) p)
theorem mTOpen_v {sv : Nat → mS} {hd : Nat → Option Nat} {fs sn : Nat → Nat} {h p : Nat} : mTOpen sv hd fs sn h p = vTOpen (shv sv hd) fs sn h p := by unfold mTOpen vTOpen; rw [mLen_v, mLen_v]; rfl
def vDraw1 (S : Nat → Option mS) (fs sn : Nat → Nat) (h : Nat) (c : mC) (p : Nat) : mC :=
  if vTOpen S fs sn h p = true then mAdd (mAdd c (fs p) (sn p) (vLen (S (h * 10 + fs p)) p)) (sn p) (fs p) (vLen (S (h * 10 + sn p)) p) else c
def vDraw (S : Nat → Option mS) (fs sn : Nat → Nat) (h : Nat) (c : mC) : Nat → mC
  | 0 => c
  | p + 1 => vDraw1 S fs sn h (vDraw S fs sn h c p) p
theorem mDraw_v {sv : Nat → mS} {hd : Nat → Option Nat} {fs sn : Nat → Nat} {h : Nat} {c : mC} : ∀ p, mDraw sv hd fs sn h c p = vDraw (shv sv hd) fs sn h c p
  | 0 => rfl
  | p + 1 => by
    show mDraw1 sv hd fs sn h (mDraw sv hd fs sn h c p) p = vDraw1 (shv sv hd) fs sn h (vDraw (shv sv hd) fs sn h c p) p
    rw [mDraw_v p]
    unfold mDraw1 vDraw1
    rw [mTOpen_v, mLen_v, mLen_v]
    rfl
def vWay (S : Nat → Option mS) (fs sn : Nat → Nat) (np h : Nat) : Nat → Nat := mRow h (vDraw S fs sn h mC0 np) (fun _ => 0)
theorem mWay_v {sv : Nat → mS} {hd : Nat → Option Nat} {fs sn : Nat → Nat} {np h : Nat} : mWay sv hd fs sn np h = vWay (shv sv hd) fs sn np h := by unfold mWay vWay; rw [mDraw_v]
/-- the first of n numbers from m on that is so -/
def vFst (P : Nat → Bool) : Nat → Nat → Option Nat
  | 0, _ => none
  | n + 1, m => if P m = true then some m else vFst P n (m + 1)
/-- pairs between which letters come, by what is held -/
def vPairs (S : Nat → Option mS) (fs sn : Nat → Nat) (op : Nat → Bool) (nh np : Nat) : Nat := mPairs (fun h => vWay S fs sn np h) (mSt fs sn op np) nh
theorem mPairs_v {sv : Nat → mS} {hd : Nat → Option Nat} {fs sn : Nat → Nat} {op : Nat → Bool} {nh np : Nat} {wy : Nat → Nat → Nat} (h : ∀ i, wy i = mWay sv hd fs sn np i) : mPairs wy (mSt fs sn op np) nh = vPairs (shv sv hd) fs sn op nh np := by
  unfold vPairs
  congr 1
  funext i
  rw [h i, mWay_v]
def vSettles (ar fs sn ln : Nat → Nat) (op : Nat → Bool) (nh np mi : Nat) (S : Nat → Option mS) (w : Nat → Nat) : Option Nat :=
  if vPairs S fs sn op nh np = (jAll fs sn op (-1) np nh).1 then some 0 else vFst (fun m => decide (vPairs (vMins ar fs sn ln op nh np mi (S, w, 0) m).1 fs sn op nh np = (jAll fs sn op (-1) np nh).1)) 40 1
/-! rows that hold nothing behind their ends -/
def wz (w : Nat → Nat) : Prop := ∀ j, 10 ≤ j → w j = 0
theorem mCopy_wz {a b : Nat → Nat} (ha : wz a) (hb : wz b) : mCopy a b 10 = a := by
  funext j
  unfold mCopy
  split
  · rfl
  · rename_i q
    rw [ha j (by omega), hb j (by omega)]
theorem v100_hd {sv : Nat → mS} {hd : Nat → Option Nat} (h : v100 (shv sv hd)) : v100 hd := fun j hj => by
  have := h j hj
  unfold shv at this
  cases q : hd j with
  | none => rfl
  | some y => rw [q] at this; cases this
theorem mCopy_hd {sv : Nat → mS} {a b : Nat → Option Nat} (ha : v100 (shv sv a)) (hb : v100 (shv sv b)) : mCopy a b 100 = a := mCopy_100 (v100_hd ha) (v100_hd hb)
theorem wz.write {mi : Nat} {fs sn ln : Nat → Nat} {op : Nat → Bool} {np : Nat} {st : vST} (h : wz st.2.1) : ∀ i, i ≤ 10 → wz (vWrite mi fs sn ln op np st i).2.1
  | 0, _ => h
  | i + 1, hi => by
    have ih := wz.write (mi := mi) (fs := fs) (sn := sn) (ln := ln) (op := op) (np := np) h i (by omega)
    show wz (vWrite1 mi fs sn ln op np i _).2.1
    unfold vWrite1
    split
    · intro j hj
      show va_up _ i _ j = 0
      rw [va_up_ne _ _ (show j ≠ i by omega)]
      exact ih j hj
    · exact ih
theorem wz.mins {ar fs sn ln : Nat → Nat} {op : Nat → Bool} {nh np mi : Nat} {st : vST} (h : wz st.2.1) (hnh : nh ≤ 10) : ∀ g, wz (vMins ar fs sn ln op nh np mi st g).2.1
  | 0 => h
  | g + 1 => wz.write (wz.mins h hnh g) nh hnh
theorem vMins_w {ar fs sn ln : Nat → Nat} {op : Nat → Bool} {nh np mi : Nat} {st : vST} : ∀ g j, (vMins ar fs sn ln op nh np mi st g).2.1 j ≤ st.2.1 j + g
  | 0, _ => Nat.le_refl _
  | g + 1, j => by
    have h1 := vMins_w (ar := ar) (fs := fs) (sn := sn) (ln := ln) (op := op) (nh := nh) (np := np) (mi := mi) (st := st) g j
    have h2 : (vMins ar fs sn ln op nh np mi st (g + 1)).2.1 j ≤ (vMins ar fs sn ln op nh np mi st g).2.1 j + 1 := (vWrite_w nh j).1
    omega
/-- one more minute, counted from none -/
theorem vMins_one {ar fs sn ln : Nat → Nat} {op : Nat → Bool} {nh np mi j : Nat} {S0 S : Nat → Option mS} {w0 w : Nat → Nat} (h1 : S = (vMins ar fs sn ln op nh np mi (S0, w0, 0) j).1) (h2 : w = (vMins ar fs sn ln op nh np mi (S0, w0, 0) j).2.1) :
    (vMins ar fs sn ln op nh np (mi + j) (S, w, 0) 1).1 = (vMins ar fs sn ln op nh np mi (S0, w0, 0) (j + 1)).1 ∧ (vMins ar fs sn ln op nh np (mi + j) (S, w, 0) 1).2.1 = (vMins ar fs sn ln op nh np mi (S0, w0, 0) (j + 1)).2.1 := by
  show (vMin ar fs sn ln op nh np (mi + j) (S, w, 0)).1 = (vMin ar fs sn ln op nh np (mi + j) (vMins ar fs sn ln op nh np mi (S0, w0, 0) j)).1 ∧ (vMin ar fs sn ln op nh np (mi + j) (S, w, 0)).2.1 = (vMin ar fs sn ln op nh np (mi + j) (vMins ar fs sn ln op nh np mi (S0, w0, 0) j)).2.1
  generalize hz : vMins ar fs sn ln op nh np mi (S0, w0, 0) j = z at h1 h2 ⊢
  obtain ⟨z1, z2, z3⟩ := z
  subst h1
  subst h2
  exact ⟨vMin_cnt.1.symm, vMin_cnt.2.symm⟩
def kSetF (cs : kC) (F : Nat → va_E) : kC := (cs.1, cs.2.1, cs.2.2.1, cs.2.2.2.1, cs.2.2.2.2.1, F, cs.2.2.2.2.2.2)
theorem kOk.ext {G : kG} {L L' : List Nat} {r : Nat → Nat} {wy : Nat → Nat → Nat} {cs : kC} {F F' : Nat → va_E} {sv sv' : Nat → mS} (hx : kExt L F sv L' F' sv') (h : kOk G L r wy (kSetF cs F)) : kOk G L' r wy (kSetF cs F') := ⟨h.1.ext hx, h.2⟩
theorem kOk.other {G : kG} {L : List Nat} {r r2 : Nat → Nat} {wy : Nat → Nat → Nat} {cs : kC} {F F' : Nat → va_E} (hk : kKeep r2 F F') (hd : ∀ i j : Nat, i < 10 → j < 10 → r i ≠ r2 j) (h : kOk G L r wy (kSetF cs F)) : kOk G L r wy (kSetF cs F') := ⟨h.1.other hk (fun i j hi hj e => hd j i hj hi e.symm), h.2⟩
theorem kOk.self {G : kG} {L : List Nat} {r : Nat → Nat} {wy : Nat → Nat → Nat} {cs : kC} (h : kOk G L r wy cs) : kOk G L r wy (kSetF cs cs.2.2.2.2.2.1) := h
theorem vFst_t {P : Nat → Bool} {n m : Nat} (h : P m = true) : vFst P (n + 1) m = some m := if_pos h
theorem vFst_f {P : Nat → Bool} {n m : Nat} (h : P m = false) : vFst P (n + 1) m = vFst P n (m + 1) := if_neg (by rw [h]; decide)
theorem vSettles_0 {ar fs sn ln : Nat → Nat} {op : Nat → Bool} {nh np mi : Nat} {S : Nat → Option mS} {w : Nat → Nat} (h : vPairs S fs sn op nh np = (jAll fs sn op (-1) np nh).1) : vSettles ar fs sn ln op nh np mi S w = some 0 := if_pos h
theorem vSettles_1 {ar fs sn ln : Nat → Nat} {op : Nat → Bool} {nh np mi : Nat} {S : Nat → Option mS} {w : Nat → Nat} (h : vPairs S fs sn op nh np ≠ (jAll fs sn op (-1) np nh).1) : vSettles ar fs sn ln op nh np mi S w = vFst (fun m => decide (vPairs (vMins ar fs sn ln op nh np mi (S, w, 0) m).1 fs sn op nh np = (jAll fs sn op (-1) np nh).1)) 40 1 := if_neg h
/-! what is advised so far: none, and none was open, or an open pass -/
def aInv (op : Nat → Bool) (i : Nat) (o : Option Nat) : Prop := (o = none ∧ ∀ q, q < i → op q = false) ∨ ∃ q, o = some q ∧ q < i ∧ op q = true
theorem aInv.no {op : Nat → Bool} {i : Nat} {o : Option Nat} (h : aInv op i o) (hop : op i = false) : aInv op (i + 1) o := by
  rcases h with ⟨h1, h2⟩ | ⟨q, h1, h2, h3⟩
  · refine Or.inl ⟨h1, fun q hq => ?_⟩
    rcases Nat.lt_succ_iff_lt_or_eq.mp hq with z | z
    · exact h2 q z
    · rw [z]; exact hop
  · exact Or.inr ⟨q, h1, by omega, h3⟩
theorem aInv.keep {op : Nat → Bool} {i : Nat} {o : Option Nat} (h : aInv op i o) (hne : o ≠ none) : aInv op (i + 1) o := by
  rcases h with ⟨h1, h2⟩ | ⟨q, h1, h2, h3⟩
  · exact absurd h1 hne
  · exact Or.inr ⟨q, h1, by omega, h3⟩
theorem aInv.fin {op : Nat → Bool} {i np : Nat} {o : Option Nat} (h : aInv op i o) (e : i = np) : (mOI o = -1 ∧ ∀ q, q < np → op q = false) ∨ ∃ q, q < np ∧ op q = true ∧ mOI o = nI q := by
  subst e
  rcases h with ⟨h1, h2⟩ | ⟨q, h1, h2, h3⟩
  · exact Or.inl ⟨by rw [h1]; rfl, h2⟩
  · exact Or.inr ⟨q, h2, h3, by rw [h1]; rfl⟩
