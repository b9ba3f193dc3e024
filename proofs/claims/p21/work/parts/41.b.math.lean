/-! WHAT THE WHOLE OBJECT HOLDS. -/
def kFull (G : kG) (hM nn np mi : Nat) (fs sn ln : Nat → Nat) (op : Nat → Bool) (ar ww : Nat → Nat) (hL a0 a1 a2 a3 a4 hN hC f0 f1 f2 b0 b1 b2 b3 b4 hO hC2 g0 g1 g2 d0 d1 d2 d3 d4 hT t0 t1 t2 b9 mo : Nat) (rr r2 wo : Nat → Nat) (hd cd h2 c2 : Nat → Option Nat) (cs cl : kC) (ct : mC) (tw : Nat → Nat) : va_W := [(hM, .inr (4, [.ref hL, .ref hN, .ref hO, .ref hT, .ref b9])),
  (hL, .inr (1, [.ref a0, .ref a1, .ref a2, .ref a3, .ref a4, .int (nI nn), .int (nI np)])), (a0, .inl (G.2 0, 10, .inl (kI ar))), (a1, .inl (G.2 0, 20, .inl (kI fs))), (a2, .inl (G.2 0, 20, .inl (kI sn))), (a3, .inl (G.2 0, 20, .inl (kI ln))), (a4, .inl (G.2 1, 20, .inl (kB op))),
  (hN, .inr (2, [.ref hL, .ref hC, .ref b0, .ref b1, .ref b2, .ref b3, .ref b4, .int (nI mi)])), (hC, .inr (0, [.ref f0, .ref f1, .ref f2, .int (nI cs.1)])), (f0, .inl (G.2 0, 40, .inl (kI cs.2.1))), (f1, .inl (G.2 0, 40, .inl (kI cs.2.2.1))), (f2, .inl (G.2 0, 40, .inl (kI cs.2.2.2.1))),
  (b0, .inl (G.2 0, 10, .inl (kI ww))), (b1, .inl (G.2 3, 10, .inr (.inr (.inr (.inr (kRw rr)))))), (b2, .inl (G.2 1, 10, .inl (kB cs.2.2.2.2.1))), (b3, .inl (G.2 2, 100, .inr (.inr (.inr (.inr hd))))), (b4, .inl (G.2 2, 100, .inr (.inr (.inr (.inr cd))))),
  (hO, .inr (2, [.ref hL, .ref hC2, .ref d0, .ref d1, .ref d2, .ref d3, .ref d4, .int (nI mo)])), (hC2, .inr (0, [.ref g0, .ref g1, .ref g2, .int (nI cl.1)])), (g0, .inl (G.2 0, 40, .inl (kI cl.2.1))), (g1, .inl (G.2 0, 40, .inl (kI cl.2.2.1))), (g2, .inl (G.2 0, 40, .inl (kI cl.2.2.2.1))),
  (d0, .inl (G.2 0, 10, .inl (kI wo))), (d1, .inl (G.2 3, 10, .inr (.inr (.inr (.inr (kRw r2)))))), (d2, .inl (G.2 1, 10, .inl (kB cl.2.2.2.2.1))), (d3, .inl (G.2 2, 100, .inr (.inr (.inr (.inr h2))))), (d4, .inl (G.2 2, 100, .inr (.inr (.inr (.inr c2))))),
  (hT, .inr (0, [.ref t0, .ref t1, .ref t2, .int (nI ct.1)])), (t0, .inl (G.2 0, 40, .inl (kI ct.2.1))), (t1, .inl (G.2 0, 40, .inl (kI ct.2.2.1))), (t2, .inl (G.2 0, 40, .inl (kI ct.2.2.2))), (b9, .inl (G.2 0, 10, .inl (kI tw)))]
def kInv (G : kG) (np : Nat) (fs sn : Nat → Nat) (SS : Nat → Option mS) (rr r2 wo : Nat → Nat) (L : List Nat) (sv : Nat → mS) (hd cd h2 c2 : Nat → Option Nat) (cs cl : kC) (ct : mC) : Prop :=
  kOk G L rr (fun i => vWay SS fs sn np i) cs ∧ kHeld G L cs.2.2.2.2.2.1 sv hd ∧ kHeld G L cs.2.2.2.2.2.1 sv cd ∧ shv sv hd = SS ∧ v100 (shv sv cd) ∧ kRows G L r2 cs.2.2.2.2.2.1 cl.2.2.2.2.2.2 ∧ (∀ i j : Nat, i < 10 → j < 10 → rr i ≠ r2 j) ∧ mCb (cl.1, cl.2.1, cl.2.2.1, cl.2.2.2.1) ∧ kHeld G L cs.2.2.2.2.2.1 sv h2 ∧ kHeld G L cs.2.2.2.2.2.1 sv c2 ∧ v100 (shv sv h2) ∧ v100 (shv sv c2) ∧ wz wo ∧ mCb ct
def kObj (G : kG) (hM nn np mi : Nat) (fs sn ln : Nat → Nat) (op : Nat → Bool) (SS : Nat → Option mS) (ar ww : Nat → Nat) (M : List Nat) (f : Nat → va_E) : Prop :=
  ∃ (hL a0 a1 a2 a3 a4 hN hC f0 f1 f2 b0 b1 b2 b3 b4 hO hC2 g0 g1 g2 d0 d1 d2 d3 d4 hT t0 t1 t2 b9 mo : Nat) (rr r2 wo : Nat → Nat) (L : List Nat) (sv : Nat → mS) (hd cd h2 c2 : Nat → Option Nat) (cs cl : kC) (ct : mC) (tw : Nat → Nat), va_D (fun a => a ∈ M) (kFull G hM nn np mi fs sn ln op ar ww hL a0 a1 a2 a3 a4 hN hC f0 f1 f2 b0 b1 b2 b3 b4 hO hC2 g0 g1 g2 d0 d1 d2 d3 d4 hT t0 t1 t2 b9 mo rr r2 wo hd cd h2 c2 cs cl ct tw ++ va_pl L cs.2.2.2.2.2.1) ∧ (∀ c ∈ kFull G hM nn np mi fs sn ln op ar ww hL a0 a1 a2 a3 a4 hN hC f0 f1 f2 b0 b1 b2 b3 b4 hO hC2 g0 g1 g2 d0 d1 d2 d3 d4 hT t0 t1 t2 b9 mo rr r2 wo hd cd h2 c2 cs cl ct tw ++ va_pl L cs.2.2.2.2.2.1, f c.1 = c.2) ∧ kInv G np fs sn SS rr r2 wo L sv hd cd h2 c2 cs cl ct
theorem kObj.congr {G : kG} {hM nn np mi : Nat} {fs sn ln : Nat → Nat} {op : Nat → Bool} {SS : Nat → Option mS} {ar ww : Nat → Nat} {M : List Nat} {f f' : Nat → va_E} (h : kObj G hM nn np mi fs sn ln op SS ar ww M f) (hf : ∀ a ∈ M, f' a = f a) : kObj G hM nn np mi fs sn ln op SS ar ww M f' := by
  obtain ⟨hL, a0, a1, a2, a3, a4, hN, hC, f0, f1, f2, b0, b1, b2, b3, b4, hO, hC2, g0, g1, g2, d0, d1, d2, d3, d4, hT, t0, t1, t2, b9, mo, rr, r2, wo, L, sv, hd, cd, h2, c2, cs, cl, ct, tw, i1, i2, i3⟩ := h
  refine ⟨hL, a0, a1, a2, a3, a4, hN, hC, f0, f1, f2, b0, b1, b2, b3, b4, hO, hC2, g0, g1, g2, d0, d1, d2, d3, d4, hT, t0, t1, t2, b9, mo, rr, r2, wo, L, sv, hd, cd, h2, c2, cs, cl, ct, tw, i1, fun c hc => ?_, i3⟩
  obtain ⟨k, hk⟩ := List.getElem?_of_mem hc
  rw [hf c.1 (i1.2 k c hk)]
  exact i2 c hc
theorem kObj.recv {G : kG} {hM nn np mi : Nat} {fs sn ln : Nat → Nat} {op : Nat → Bool} {SS : Nat → Option mS} {ar ww : Nat → Nat} {M : List Nat} {f : Nat → va_E} (h : kObj G hM nn np mi fs sn ln op SS ar ww M f) : hM ∈ M ∧ ∃ vs, f hM = .inr (4, vs) := by
  obtain ⟨hL, a0, a1, a2, a3, a4, hN, hC, f0, f1, f2, b0, b1, b2, b3, b4, hO, hC2, g0, g1, g2, d0, d1, d2, d3, d4, hT, t0, t1, t2, b9, mo, rr, r2, wo, L, sv, hd, cd, h2, c2, cs, cl, ct, tw, i1, i2, i3⟩ := h
  exact ⟨i1.2 0 _ rfl, _, i2 _ (List.mem_append_left _ List.mem_cons_self)⟩
theorem kO_c {M : List Nat} {f : Nat → va_E} {X cx pl : va_W} (isC : List Nat) (hC : isC.map (fun i => X[i]?) = cx.map some) (hD : va_D (fun a => a ∈ M) (X ++ pl)) (hf : ∀ c ∈ X ++ pl, f c.1 = c.2) : ∀ c ∈ cx ++ pl, c.1 ∈ M ∧ f c.1 = c.2 := fun c hc => by
  obtain ⟨k, hk⟩ := List.getElem?_of_mem hc
  have h := va_part isC hC k c hk
  exact ⟨hD.2 _ c h, hf c (List.mem_of_getElem? h)⟩
theorem kO_c0 {M : List Nat} {f : Nat → va_E} {X cx pl : va_W} (isC : List Nat) (hC : isC.map (fun i => X[i]?) = cx.map some) (hD : va_D (fun a => a ∈ M) (X ++ pl)) (hf : ∀ c ∈ X ++ pl, f c.1 = c.2) : ∀ c ∈ cx, c.1 ∈ M ∧ f c.1 = c.2 := fun c hc => kO_c isC hC hD hf c (List.mem_append_left _ hc)
/-- as ko_new, of a call that had no pool -/
theorem ko_new0 {M M1 : List Nat} {f f1 : Nat → va_E} {X cx wr X2 pl rx : va_W} (isC isR ks : List Nat) (hC : isC.map (fun i => X[i]?) = cx.map some) (hR : isR.map (fun i => X[i]?) = wr.map some) (hk : ks.map (fun i => (wr ++ rx)[i]?) = X2.map some) (hnk : va_nd ks = true) (hnR : va_nd isR = true) (hdis : ∀ i ∈ isR, i ∉ isC)
    (hD : va_D (fun a => a ∈ M) (X ++ pl)) (hf : ∀ c ∈ X ++ pl, f c.1 = c.2) (hD1 : va_D (fun _ => True) rx) (hin : ∀ c ∈ rx, c.1 ∈ M1 ∧ f1 c.1 = c.2) (hout : ∀ a, a ∈ M → (∀ c ∈ cx, c.1 ≠ a) → a ∈ M1 ∧ f1 a = f a ∧ ∀ c ∈ rx, c.1 ≠ a) :
    va_D (fun a => a ∈ M1) (X2 ++ pl) ∧ ∀ c ∈ X2 ++ pl, f1 c.1 = c.2 := by
  have hXin : ∀ (k : Nat) (q : Nat × va_E), X[k]? = some q → (X ++ pl)[k]? = some q := fun k q h => by
    rw [List.getElem?_append_left (List.getElem?_eq_some_iff.mp h).1]; exact h
  have hpin : ∀ (k : Nat) (q : Nat × va_E), pl[k]? = some q → (X ++ pl)[X.length + k]? = some q := fun k q h => by
    rw [List.getElem?_append_right (by omega), show X.length + k - X.length = k by omega]; exact h
  have hX2 := ko_new (pl := []) (plc := []) (pl1 := []) isC isR ks hC hR hk hnk hnR hdis (by rw [List.append_nil]; exact ⟨fun i j p q h1 h2 e => hD.1 i j p q (hXin i p h1) (hXin j q h2) e, fun k q h => hD.2 k q (hXin k q h)⟩) (fun c hc => hf c (by rw [List.append_nil] at hc; exact List.mem_append_left _ hc)) (fun _ h => h) (by rw [List.append_nil]; exact hD1) (by rw [List.append_nil]; exact hin) (by rw [List.append_nil, List.append_nil]; exact hout)
  rw [List.append_nil] at hX2
  have hp : ∀ (k : Nat) (q : Nat × va_E), pl[k]? = some q → q.1 ∈ M1 ∧ f1 q.1 = q.2 ∧ (∀ c ∈ rx, c.1 ≠ q.1) ∧ ∀ c ∈ X, c.1 ≠ q.1 := fun k q hq => by
    have h1 := hpin k q hq
    have hX : ∀ c ∈ X, c.1 ≠ q.1 := fun c hc e => by
      obtain ⟨j, hj⟩ := List.getElem?_of_mem hc
      have := hD.1 _ _ c q (hXin j c hj) h1 e
      have := (List.getElem?_eq_some_iff.mp hj).1
      omega
    have h2 := hout q.1 (hD.2 _ q h1) (fun c hc => by
      obtain ⟨k2, hk2⟩ := List.getElem?_of_mem hc
      obtain ⟨i, h5, h6⟩ := va_in_of isC hC hk2
      exact hX c (List.mem_of_getElem? h6))
    exact ⟨h2.1, h2.2.1.trans (hf q (List.mem_of_getElem? h1)), h2.2.2, hX⟩
  refine ⟨va_D.app hX2.1 ⟨fun i j p q h1 h2 e => ?_, fun k q h => (hp k q h).1⟩ (fun i j p q hi hj e => ?_), fun c hc => ?_⟩
  · have := hD.1 _ _ p q (hpin i p h1) (hpin j q h2) e
    omega
  · obtain ⟨i2, h5, h6⟩ := va_in_of ks hk hi
    rcases List.mem_append.mp (List.mem_of_getElem? h6) with h | h
    · obtain ⟨k2, hk2⟩ := List.getElem?_of_mem h
      obtain ⟨i3, h7, h8⟩ := va_in_of isR hR hk2
      exact (hp j q hj).2.2.2 p (List.mem_of_getElem? h8) e
    · exact (hp j q hj).2.2.1 p h e
  · rcases List.mem_append.mp hc with h | h
    · exact hX2.2 c h
    · obtain ⟨k, hk2⟩ := List.getElem?_of_mem h
      exact (hp k c hk2).2.1
/-! the answers, of what is held -/
def vSheetA (mi : Nat) (o : Option mS) (what : Nat) : Int32 := match o with
  | none => -1
  | some v => if what = 0 then nI v.1 else if what = 1 then nI (mi - v.2.1) else nI (mCnt (fun q => decide (0 < v.2.2 q)) 20)
theorem mSheetA_v {sv : Nat → mS} {mi what i : Nat} {hd : Nat → Option Nat} : mSheetA sv mi (hd i) what = vSheetA mi (shv sv hd i) what := by
  unfold mSheetA vSheetA shv
  cases hd i <;> rfl
def vHas (S : Nat → Option mS) (h : Nat) : Nat := mCnt (fun o => (S (h * 10 + o)).isSome) 10
theorem mHas_v {sv : Nat → mS} {hd : Nat → Option Nat} {h : Nat} : mHas hd h = vHas (shv sv hd) h := by
  unfold mHas vHas shv
  congr 1
  funext o
  cases hd (h * 10 + o) <;> rfl
def vAge (mi : Nat) (o : Option mS) : Nat := match o with
  | none => 0
  | some v => mi - v.2.1
theorem mAge_v {sv : Nat → mS} {mi i : Nat} {hd : Nat → Option Nat} : mAge sv mi (hd i) = vAge mi (shv sv hd i) := by
  unfold mAge vAge shv
  cases hd i <;> rfl
def vTold (ar : Nat → Nat) (S : Nat → Option mS) (ww : Nat → Nat) (wy : Nat → Nat → Nat) (st : Nat → Nat → Bool) (nh h what : Nat) : Int32 := if what = 0 then nI (ar h) else if what = 1 then nI (vHas S h) else if what = 2 then nI (ww h) else if what = 3 then nI (mCnt (fun o => wy h o != 1073741824) nh) else nI (mCnt (fun o => (mPost wy st h o).isSome) nh)
theorem mTold_v {ar : Nat → Nat} {sv : Nat → mS} {hd : Nat → Option Nat} {ww : Nat → Nat} {wy : Nat → Nat → Nat} {st : Nat → Nat → Bool} {nh h what : Nat} : mTold ar hd ww wy st nh h what = vTold ar (shv sv hd) ww wy st nh h what := by
  unfold mTold vTold
  rw [mHas_v (sv := sv)]
def vCount (mi nh np : Nat) (op : Nat → Bool) (fs sn : Nat → Nat) (S : Nat → Option mS) (wy : Nat → Nat → Nat) (st : Nat → Nat → Bool) (what : Nat) : Int32 := if what = 0 then nI mi else if what = 1 then nI nh else if what = 2 then nI np else if what = 3 then nI (mCnt op np) else if what = 4 then nI (mSum (vHas S) nh) else if what = 5 then nI (mPairs wy st nh) else nI (jAll fs sn op (-1) np nh).1
theorem mCount_v {mi nh np : Nat} {op : Nat → Bool} {fs sn : Nat → Nat} {sv : Nat → mS} {hd : Nat → Option Nat} {wy : Nat → Nat → Nat} {st : Nat → Nat → Bool} {what : Nat} : mCount mi nh np op fs sn hd wy st what = vCount mi nh np op fs sn (shv sv hd) wy st what := by
  unfold mCount vCount
  rw [show mHas hd = vHas (shv sv hd) from funext fun h => mHas_v]
def vBurn (S : Nat → Option mS) (h : Nat) : Nat → Option mS := fun j => if h * 10 ≤ j ∧ j < h * 10 + 10 then none else S j
theorem mBurn_v {sv : Nat → mS} {hd : Nat → Option Nat} {h : Nat} : shv sv (mBurn hd h 10) = vBurn (shv sv hd) h := by
  funext j
  unfold shv mBurn vBurn
  split <;> rfl
theorem mBurn_held {G : kG} {L : List Nat} {f : Nat → va_E} {sv : Nat → mS} {hd : Nat → Option Nat} {h i : Nat} (hh : kHeld G L f sv hd) : kHeld G L f sv (mBurn hd h i) := fun j y q => by
  unfold mBurn at q
  split at q
  · cases q
  · exact hh j y q
def vDig (mi nh np : Nat) (fs sn ln : Nat → Nat) (op : Nat → Bool) (S : Nat → Option mS) (ar ww : Nat → Nat) : Int64 :=
  dG (fun h => dG (fun o d => dF (fun k => mWayA (vWay S fs sn np h o) k) 3 (dF (fun k => vSheetA mi (S (h * 10 + o)) k) 3 d)) nh) nh (dG (fun q => dF (fun k => mAbout fs sn ln op (fun p => mCnt (fun h => vTOpen S fs sn h p) nh) q k) 5) np (dG (fun h => dF (fun k => vTold ar S ww (fun i => vWay S fs sn np i) (mSt fs sn op np) nh h k) 5) nh (dF (fun k => vCount mi nh np op fs sn S (fun i => vWay S fs sn np i) (mSt fs sn op np) k) 7 1627)))
/-! a new pass leaves the ways as they are, for nothing is told of it -/
theorem vDraw_pass {S : Nat → Option mS} {fs sn : Nat → Nat} {np h x y : Nat} {c : mC} : ∀ k, k ≤ np → vDraw S (va_up fs np x) (va_up sn np y) h c k = vDraw S fs sn h c k
  | 0, _ => rfl
  | k + 1, hk => by
    show vDraw1 S _ _ h (vDraw S _ _ h c k) k = vDraw1 S fs sn h (vDraw S fs sn h c k) k
    rw [vDraw_pass k (by omega)]
    unfold vDraw1 vTOpen
    rw [va_up_ne _ _ (show k ≠ np by omega), va_up_ne _ _ (show k ≠ np by omega)]
theorem vWay_pass {S : Nat → Option mS} {fs sn : Nat → Nat} {np h x y : Nat} (hz : ∀ j, vLen (S j) np = 0) : vWay S (va_up fs np x) (va_up sn np y) (np + 1) h = vWay S fs sn np h := by
  unfold vWay
  show mRow h (vDraw1 S _ _ h (vDraw S _ _ h mC0 np) np) _ = _
  rw [vDraw_pass np (Nat.le_refl _)]
  unfold vDraw1 vTOpen
  rw [hz, hz, if_neg (by decide)]
theorem vInv.len0 {ar fs sn ln : Nat → Nat} {nh np mi : Nat} {S : Nat → Option mS} {w : Nat → Nat} (h : vInv ar fs sn ln nh np mi S w) {p : Nat} (hp : np ≤ p) : ∀ j, vLen (S j) p = 0 := fun j => by
  cases e : S j with
  | none => rfl
  | some v =>
    have hj : j < 100 := by
      rcases Nat.lt_or_ge j 100 with z | z
      · exact z
      · have := h.2.2.2.2.1 j z
        rw [e] at this
        cases this
    have h1 := h.2.2.1 (j / 10) (j % 10) v (by omega) (by omega) (by rw [show j / 10 * 10 + j % 10 = j by omega]; exact e)
    exact h1.2.2.2.2.2.2.2.1 p hp
theorem vInv.ok {ar fs sn ln : Nat → Nat} {nh np mi : Nat} {S : Nat → Option mS} {w : Nat → Nat} (h : vInv ar fs sn ln nh np mi S w) : vOkS mi S := fun j v e => by
  have hj : j < 100 := by
    rcases Nat.lt_or_ge j 100 with z | z
    · exact z
    · have := h.2.2.2.2.1 j z
      rw [e] at this
      cases this
  have h1 := h.2.2.1 (j / 10) (j % 10) v (by omega) (by omega) (by rw [show j / 10 * 10 + j % 10 = j by omega]; exact e)
  exact h1.2.2.2.2.1
theorem kInv.way {G : kG} {np : Nat} {fs sn : Nat → Nat} {SS : Nat → Option mS} {rr r2 wo : Nat → Nat} {L : List Nat} {sv : Nat → mS} {hd cd h2 c2 : Nat → Option Nat} {cs cl u : kC} {ct : mC} (h : kInv G np fs sn SS rr r2 wo L sv hd cd h2 c2 cs cl ct) (q1 : kOk G L rr (fun i => vWay SS fs sn np i) u) (q2 : kKeep rr cs.2.2.2.2.2.1 u.2.2.2.2.2.1) : kInv G np fs sn SS rr r2 wo L sv hd cd h2 c2 u cl ct := by
  obtain ⟨i1, i2, i3, i4, i5, i6, i7, i8, i9, i10, i11, i12, i13, i14⟩ := h
  exact ⟨q1, i2.keep i1.1 q2, i3.keep i1.1 q2, i4, i5, i6.other q2 i7, i7, i8, i9.keep i1.1 q2, i10.keep i1.1 q2, i11, i12, i13, i14⟩
