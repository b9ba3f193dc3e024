/-! A MINUTE, place by place. -/
def vB1 (ar : Nat → Nat) (S : Nat → Option mS) (h k fr : Nat) (o : Option mS) : Option mS := match S (fr * 10 + k) with
  | none => o
  | some v => if k ≠ h ∧ mTakes ar h k = true ∧ vNewer v o = true then some v else o
def vB (ar fs sn : Nat → Nat) (op : Nat → Bool) (S : Nat → Option mS) (h k : Nat) : Nat → Option mS
  | 0 => S (h * 10 + k)
  | q + 1 => if op q = true ∧ (fs q = h ∨ sn q = h) then vB1 ar S h k (if fs q = h then sn q else fs q) (vB ar fs sn op S h k q) else vB ar fs sn op S h k q
theorem vCarry_at {ar : Nat → Nat} {S C : Nat → Option mS} {fr to h k : Nat} (hk : k < 10) : ∀ i, i ≤ 10 → vCarry ar S C fr to i (h * 10 + k) = if h = to ∧ k < i then vB1 ar S h k fr (C (h * 10 + k)) else C (h * 10 + k)
  | 0, _ => by rw [if_neg (by omega)]; rfl
  | i + 1, hi => by
    have ih := vCarry_at (ar := ar) (S := S) (C := C) (fr := fr) (to := to) (h := h) hk i (by omega)
    show vCarry1 ar S (vCarry ar S C fr to i) fr to i (h * 10 + k) = _
    generalize vCarry ar S C fr to i = C2 at ih ⊢
    by_cases q : h = to ∧ k = i
    · obtain ⟨q1, q2⟩ := q
      subst q1
      subst q2
      rw [if_neg (by omega)] at ih
      rw [if_pos ⟨rfl, Nat.lt_succ_self _⟩]
      unfold vCarry1 vB1
      rw [ih]
      cases S (fr * 10 + k) with
      | none => exact ih
      | some v =>
        dsimp only
        split
        · rw [va_up_self]
        · exact ih
    · have hne : h * 10 + k ≠ to * 10 + i := by omega
      have e : vCarry1 ar S C2 fr to i (h * 10 + k) = C2 (h * 10 + k) := by
        unfold vCarry1
        cases S (fr * 10 + i) with
        | none => rfl
        | some v =>
          dsimp only
          split
          · rw [va_up_ne _ _ hne]
          · rfl
      rw [e, ih]
      by_cases c : h = to ∧ k < i
      · rw [if_pos c, if_pos ⟨c.1, by omega⟩]
      · rw [if_neg c, if_neg (by omega)]
theorem vCarryP_at {ar fs sn : Nat → Nat} {op : Nat → Bool} {nh np : Nat} {S : Nat → Option mS} {h k : Nat} (hk : k < 10) (hnh : nh ≤ 10) (hne : ∀ p, p < np → fs p ≠ sn p) : ∀ q, q ≤ np → vCarryP ar fs sn op nh S S q (h * 10 + k) = if k < nh then vB ar fs sn op S h k q else S (h * 10 + k)
  | 0, _ => by
    show S (h * 10 + k) = if k < nh then S (h * 10 + k) else S (h * 10 + k)
    rw [ite_self]
  | q + 1, hq => by
    have ih := vCarryP_at (ar := ar) (op := op) (S := S) (h := h) hk hnh hne q (by omega)
    have hn := hne q (by omega)
    unfold vCarryP vB
    cases ho : op q with
    | false =>
      have e9 : ¬ (false = true ∧ (fs q = h ∨ sn q = h)) := fun z => Bool.noConfusion z.1
      rw [if_neg (by decide), if_neg e9, ih]
    | true =>
      rw [if_pos rfl, vCarry_at hk nh hnh, vCarry_at hk nh hnh, ih]
      by_cases c : k < nh
      · rw [if_pos c, if_pos c]
        by_cases c1 : h = fs q
        · subst c1
          rw [if_pos ⟨rfl, c⟩, if_neg (fun z => hn z.1), if_pos ⟨rfl, Or.inl rfl⟩, if_pos rfl]
        · rw [if_neg (fun z => c1 z.1)]
          by_cases c2 : h = sn q
          · subst c2
            rw [if_pos ⟨rfl, c⟩, if_pos ⟨rfl, Or.inr rfl⟩, if_neg hn]
          · rw [if_neg (fun z => c2 z.1), if_neg (fun z => z.2.elim (fun y => c1 y.symm) (fun y => c2 y.symm))]
      · rw [if_neg c, if_neg c, if_neg (fun z => c z.2), if_neg (fun z => c z.2)]
theorem vB_src {ar fs sn : Nat → Nat} {op : Nat → Bool} {S : Nat → Option mS} {h k nh np : Nat} (hh : h < 10) (hfs : ∀ j, fs j < 10) (hsn : ∀ j, sn j < 10) (he : ∀ p, p < np → fs p < nh ∧ sn p < nh) : ∀ q, q ≤ np → ∃ x, x < 10 ∧ vB ar fs sn op S h k q = S (x * 10 + k) ∧ (x = h ∨ (k ≠ h ∧ mTakes ar h k = true ∧ h < nh))
  | 0, _ => ⟨h, hh, rfl, Or.inl rfl⟩
  | q + 1, hq => by
    obtain ⟨x, h1, h2, h3⟩ := vB_src (ar := ar) (op := op) (S := S) (k := k) hh hfs hsn he q (by omega)
    unfold vB
    split
    · rename_i c
      unfold vB1
      cases e : S ((if fs q = h then sn q else fs q) * 10 + k) with
      | none => exact ⟨x, h1, h2, h3⟩
      | some v =>
        dsimp only
        split
        · rename_i c2
          refine ⟨if fs q = h then sn q else fs q, ?_, e.symm, Or.inr ⟨c2.1, c2.2.1, ?_⟩⟩
          · split
            · exact hsn q
            · exact hfs q
          · have := he q (by omega)
            rcases c.2 with z | z
            · rw [← z]; exact this.1
            · rw [← z]; exact this.2
        · exact ⟨x, h1, h2, h3⟩
    · exact ⟨x, h1, h2, h3⟩
def vMst (mi : Nat) (fs sn ln : Nat → Nat) (op : Nat → Bool) (np : Nat) (S : Nat → Option mS) (h : Nat) : Bool := vMust mi fs sn ln op h np (S (h * 10 + h))
theorem vWrite_at {mi : Nat} {fs sn ln : Nat → Nat} {op : Nat → Bool} {np : Nat} {st : vST} : ∀ i, i ≤ 10 → (∀ h k, k < 10 → (vWrite mi fs sn ln op np st i).1 (h * 10 + k) = if h = k ∧ h < i ∧ vMst mi fs sn ln op np st.1 h = true then some (st.2.1 h + 1, mi, mSheet fs sn ln op h np) else st.1 (h * 10 + k)) ∧ ∀ h, (vWrite mi fs sn ln op np st i).2.1 h = if h < i ∧ vMst mi fs sn ln op np st.1 h = true then st.2.1 h + 1 else st.2.1 h
  | 0, _ => ⟨fun h k hk => by rw [if_neg (by omega)]; rfl, fun h => by rw [if_neg (by omega)]; rfl⟩
  | i + 1, hi => by
    obtain ⟨i1, i2⟩ := vWrite_at (mi := mi) (fs := fs) (sn := sn) (ln := ln) (op := op) (np := np) (st := st) i (by omega)
    have hown : (vWrite mi fs sn ln op np st i).1 (i * 10 + i) = st.1 (i * 10 + i) := by rw [i1 i i (by omega), if_neg (by omega)]
    have hw : (vWrite mi fs sn ln op np st i).2.1 i = st.2.1 i := by rw [i2 i, if_neg (by omega)]
    show (∀ h k, k < 10 → (vWrite1 mi fs sn ln op np i (vWrite mi fs sn ln op np st i)).1 (h * 10 + k) = _) ∧ ∀ h, (vWrite1 mi fs sn ln op np i (vWrite mi fs sn ln op np st i)).2.1 h = _
    generalize vWrite mi fs sn ln op np st i = z at i1 i2 hown hw ⊢
    cases c : vMst mi fs sn ln op np st.1 i with
    | true =>
      have c2 : vMust mi fs sn ln op i np (z.1 (i * 10 + i)) = true := by rw [hown]; exact c
      rw [vWrite1_t c2, hw]
      refine ⟨fun h k hk => ?_, fun h => ?_⟩
      · dsimp only
        by_cases q : h = i ∧ k = i
        · obtain ⟨q1, q2⟩ := q
          subst q1
          subst q2
          rw [va_up_self, if_pos ⟨rfl, Nat.lt_succ_self _, c⟩]
        · rw [va_up_ne _ _ (show h * 10 + k ≠ i * 10 + i by omega), i1 h k hk]
          by_cases d : h = k ∧ h < i ∧ vMst mi fs sn ln op np st.1 h = true
          · rw [if_pos d, if_pos ⟨d.1, by omega, d.2.2⟩]
          · rw [if_neg d, if_neg (fun y => d ⟨y.1, by omega, y.2.2⟩)]
      · dsimp only
        by_cases q : h = i
        · subst q
          rw [va_up_self, if_pos ⟨Nat.lt_succ_self _, c⟩]
        · rw [va_up_ne _ _ q, i2 h]
          by_cases d : h < i ∧ vMst mi fs sn ln op np st.1 h = true
          · rw [if_pos d, if_pos ⟨by omega, d.2⟩]
          · rw [if_neg d, if_neg (fun y => d ⟨by omega, y.2⟩)]
    | false =>
      have c2 : vMust mi fs sn ln op i np (z.1 (i * 10 + i)) = false := by rw [hown]; exact c
      rw [vWrite1_f c2]
      refine ⟨fun h k hk => ?_, fun h => ?_⟩
      · rw [i1 h k hk]
        by_cases d : h = k ∧ h < i ∧ vMst mi fs sn ln op np st.1 h = true
        · rw [if_pos d, if_pos ⟨d.1, by omega, d.2.2⟩]
        · rw [if_neg d, if_neg (fun y => d ⟨y.1, by
            rcases Nat.lt_succ_iff_lt_or_eq.mp y.2.1 with w | w
            · exact w
            · exfalso; rw [w, c] at y; exact Bool.noConfusion y.2.2, y.2.2⟩)]
      · rw [i2 h]
        by_cases d : h < i ∧ vMst mi fs sn ln op np st.1 h = true
        · rw [if_pos d, if_pos ⟨by omega, d.2⟩]
        · rw [if_neg d, if_neg (fun y => d ⟨by
            rcases Nat.lt_succ_iff_lt_or_eq.mp y.1 with w | w
            · exact w
            · exfalso; rw [w, c] at y; exact Bool.noConfusion y.2, y.2⟩)]
/-! WHAT HOLDS OF A POST, whatever is done -/
def iLand (fs sn ln : Nat → Nat) (nh np : Nat) : Prop := (∀ j, fs j < 10) ∧ (∀ j, sn j < 10) ∧ (∀ j, ln j < 100) ∧ (∀ p, p < np → fs p < nh ∧ sn p < nh ∧ fs p ≠ sn p ∧ 0 < ln p) ∧ nh ≤ 10 ∧ np ≤ 20
/-- of each sheet, e the greatest age, o that of a hut's own -/
def iS (ar : Nat → Nat) (nh np mi e9 o9 : Nat) (S : Nat → Option mS) (w : Nat → Nat) : Prop := ∀ h k v, h < 10 → k < 10 → S (h * 10 + k) = some v → h < nh ∧ k < nh ∧ 0 < v.1 ∧ v.1 ≤ w k ∧ v.2.1 ≤ mi ∧ mi ≤ v.2.1 + e9 ∧ (∀ p, v.2.2 p < 100) ∧ (∀ p, np ≤ p → v.2.2 p = 0) ∧ (h = k ∨ mTakes ar h k = true) ∧ (h = k → v.1 = w k ∧ mi ≤ v.2.1 + o9)
def iU (S : Nat → Option mS) : Prop := ∀ h1 h2 k v1 v2, h1 < 10 → h2 < 10 → k < 10 → S (h1 * 10 + k) = some v1 → S (h2 * 10 + k) = some v2 → v1.1 ≤ v2.1 → v1.2.1 ≤ v2.2.1 ∧ (v1.1 = v2.1 → v1 = v2)
def vInv (ar fs sn ln : Nat → Nat) (nh np mi : Nat) (S : Nat → Option mS) (w : Nat → Nat) : Prop := iLand fs sn ln nh np ∧ (∀ j, ar j < 4) ∧ iS ar nh np mi 30 20 S w ∧ iU S ∧ v100 S ∧ wz w ∧ ∀ k, w k ≤ mi
theorem mSheet_np {fs sn ln : Nat → Nat} {op : Nat → Bool} {h np p : Nat} (hp : np ≤ p) : mSheet fs sn ln op h np p = 0 := by unfold mSheet; rw [if_neg (by omega)]
theorem vMst_own {mi : Nat} {fs sn ln : Nat → Nat} {op : Nat → Bool} {np h : Nat} {S : Nat → Option mS} {v : mS} (h1 : vMst mi fs sn ln op np S h = false) (h2 : S (h * 10 + h) = some v) : mi - v.2.1 < 20 ∧ mSame v.2.2 fs sn ln op h np = true := by
  unfold vMst at h1
  rw [h2] at h1
  unfold vMust at h1
  dsimp only at h1
  rw [Bool.or_eq_false_iff] at h1
  have h3 := of_decide_eq_false h1.1
  refine ⟨by omega, ?_⟩
  cases q : mSame v.2.2 fs sn ln op h np with
  | true => rfl
  | false => rw [q] at h1; exact Bool.noConfusion h1.2
/-- behind the writing -/
theorem iS_write {ar fs sn ln : Nat → Nat} {op : Nat → Bool} {nh np mi : Nat} {S : Nat → Option mS} {w : Nat → Nat} (hI : vInv ar fs sn ln nh np mi S w) : iS ar nh np mi 30 19 (vWrite mi fs sn ln op np (S, w, 0) nh).1 (vWrite mi fs sn ln op np (S, w, 0) nh).2.1 ∧ iU (vWrite mi fs sn ln op np (S, w, 0) nh).1 := by
  obtain ⟨⟨hfs, hsn, hln, he, hnh, hnp⟩, har, hS, hU, hv, hw, hwm⟩ := hI
  obtain ⟨k1, k2⟩ := vWrite_at (mi := mi) (fs := fs) (sn := sn) (ln := ln) (op := op) (np := np) (st := (S, w, 0)) nh hnh
  dsimp only at k1 k2
  generalize vWrite mi fs sn ln op np (S, w, 0) nh = z at k1 k2 ⊢
  have hle : ∀ k, w k ≤ z.2.1 k := fun k => by
    rw [k2 k]
    split
    · exact Nat.le_succ _
    · exact Nat.le_refl _
  refine ⟨fun h k v hh hk hs => ?_, fun h1 h2 k v1 v2 hh1 hh2 hk hs1 hs2 hle1 => ?_⟩
  · rw [k1 h k hk] at hs
    split at hs
    · rename_i c
      cases hs
      obtain ⟨c1, c2, c3⟩ := c
      subst c1
      refine ⟨c2, c2, Nat.succ_pos _, ?_, Nat.le_refl _, by dsimp only; omega, fun p => mSheet_lt hln p, fun p hp => mSheet_np hp, Or.inl rfl, fun _ => ⟨?_, by dsimp only; omega⟩⟩
      · rw [k2 h, if_pos ⟨c2, c3⟩]
        exact Nat.le_refl _
      · rw [k2 h, if_pos ⟨c2, c3⟩]
    · rename_i c
      obtain ⟨a1, a2, a3, a4, a5, a6, a7, a8, a9, a10⟩ := hS h k v hh hk hs
      refine ⟨a1, a2, a3, Nat.le_trans a4 (hle k), a5, a6, a7, a8, a9, fun e => ?_⟩
      subst e
      have hm : vMst mi fs sn ln op np S h = false := by
        cases q : vMst mi fs sn ln op np S h with
        | false => rfl
        | true => exact absurd ⟨rfl, a1, q⟩ c
      have := vMst_own hm hs
      refine ⟨?_, by omega⟩
      rw [k2 h, if_neg (fun y => by rw [hm] at y; exact Bool.noConfusion y.2)]
      exact (a10 rfl).1
  · rw [k1 h1 k hk] at hs1
    rw [k1 h2 k hk] at hs2
    split at hs1
    · rename_i c1
      split at hs2
      · rename_i c2
        have e1 := Option.some.inj hs1
        have e2 := Option.some.inj hs2
        obtain ⟨c3, c4, c5⟩ := c1
        obtain ⟨d3, d4, d5⟩ := c2
        subst c3
        subst d3
        exact ⟨by rw [← e1, ← e2]; exact Nat.le_refl _, fun _ => e1.symm.trans e2⟩
      · cases hs1
        obtain ⟨a1, a2, a3, a4, -⟩ := hS h2 k v2 hh2 hk hs2
        obtain ⟨c3, c4, c5⟩ := c1
        subst c3
        dsimp only at hle1
        omega
    · split at hs2
      · rename_i c2
        cases hs2
        obtain ⟨a1, a2, a3, a4, a5, -⟩ := hS h1 k v1 hh1 hk hs1
        obtain ⟨c3, c4, c5⟩ := c2
        subst c3
        refine ⟨a5, fun e => ?_⟩
        dsimp only at e
        omega
      · exact hU h1 h2 k v1 v2 hh1 hh2 hk hs1 hs2 hle1
theorem vThrow_at {mi : Nat} {S : Nat → Option mS} {j : Nat} (hj : j < 100) : vThrow mi S 100 j = if vOld mi (S j) = true then none else S j := by
  unfold vThrow
  by_cases q : vOld mi (S j) = true
  · rw [if_pos ⟨hj, q⟩, if_pos q]
  · rw [if_neg (fun z => q z.2), if_neg q]
theorem vMin_at {ar fs sn ln : Nat → Nat} {op : Nat → Bool} {nh np mi : Nat} {st : vST} {h k : Nat} (hh : h < 10) (hk : k < 10) (hnh : nh ≤ 10) (hne : ∀ p, p < np → fs p ≠ sn p) : (vMin ar fs sn ln op nh np mi st).1 (h * 10 + k) = (fun o => if vOld (mi + 1) o = true then none else o) (if k < nh then vB ar fs sn op (vWrite mi fs sn ln op np st nh).1 h k np else (vWrite mi fs sn ln op np st nh).1 (h * 10 + k)) := by
  unfold vMin
  dsimp only
  rw [vThrow_at (by omega), vCarryP_at hk hnh hne np (Nat.le_refl _)]
theorem vMin_src {ar fs sn ln : Nat → Nat} {op : Nat → Bool} {nh np mi : Nat} {st : vST} {h k : Nat} {v : mS} (hl : iLand fs sn ln nh np) (hh : h < 10) (hk : k < 10) (hv : (vMin ar fs sn ln op nh np mi st).1 (h * 10 + k) = some v) : mi + 1 ≤ v.2.1 + 30 ∧ ∃ x, x < 10 ∧ (vWrite mi fs sn ln op np st nh).1 (x * 10 + k) = some v ∧ (x = h ∨ (k ≠ h ∧ mTakes ar h k = true ∧ h < nh)) := by
  obtain ⟨hfs, hsn, hln, he, hnh, hnp⟩ := hl
  rw [vMin_at hh hk hnh (fun p hp => (he p hp).2.2.1)] at hv
  dsimp only at hv
  have h1 : ∃ x, x < 10 ∧ (if k < nh then vB ar fs sn op (vWrite mi fs sn ln op np st nh).1 h k np else (vWrite mi fs sn ln op np st nh).1 (h * 10 + k)) = (vWrite mi fs sn ln op np st nh).1 (x * 10 + k) ∧ (x = h ∨ (k ≠ h ∧ mTakes ar h k = true ∧ h < nh)) := by
    split
    · exact vB_src hh hfs hsn (fun p hp => ⟨(he p hp).1, (he p hp).2.1⟩) np (Nat.le_refl _)
    · exact ⟨h, hh, rfl, Or.inl rfl⟩
  obtain ⟨x, x1, x2, x3⟩ := h1
  rw [x2] at hv
  split at hv
  · cases hv
  · rename_i c
    rw [hv] at c
    have h2 : ¬ 30 < mi + 1 - v.2.1 := fun z => c (decide_eq_true z)
    exact ⟨by omega, x, x1, hv, x3⟩
theorem vInv_min {ar fs sn ln : Nat → Nat} {op : Nat → Bool} {nh np mi k : Nat} {S : Nat → Option mS} {w : Nat → Nat} (hI : vInv ar fs sn ln nh np mi S w) : vInv ar fs sn ln nh np (mi + 1) (vMin ar fs sn ln op nh np mi (S, w, k)).1 (vMin ar fs sn ln op nh np mi (S, w, k)).2.1 := by
  rw [vMin_cnt.1, vMin_cnt.2]
  obtain ⟨hz1, hz2⟩ := iS_write (op := op) hI
  obtain ⟨hl, har, hS, hU, hv, hw, hwm⟩ := id hI
  obtain ⟨hfs, hsn, hln, he, hnh, hnp⟩ := id hl
  have hw2 : (vMin ar fs sn ln op nh np mi (S, w, 0)).2.1 = (vWrite mi fs sn ln op np (S, w, 0) nh).2.1 := rfl
  refine ⟨hl, har, fun h k v hh hk hs => ?_, fun h1 h2 k v1 v2 hh1 hh2 hk hs1 hs2 hle => ?_, v100.min hv hfs hsn hnh, ?_, fun k => ?_⟩
  · obtain ⟨h1, x, x1, x2, x3⟩ := vMin_src hl hh hk hs
    obtain ⟨a1, a2, a3, a4, a5, a6, a7, a8, a9, a10⟩ := hz1 x k v x1 hk x2
    rw [hw2]
    rcases x3 with x3 | ⟨x3, x4, x5⟩
    · subst x3
      exact ⟨a1, a2, a3, a4, by omega, h1, a7, a8, a9, fun e => ⟨(a10 e).1, by have := (a10 e).2; omega⟩⟩
    · exact ⟨x5, a2, a3, a4, by omega, h1, a7, a8, Or.inr x4, fun e => absurd e.symm x3⟩
  · obtain ⟨-, x, x1, x2, -⟩ := vMin_src hl hh1 hk hs1
    obtain ⟨-, y, y1, y2, -⟩ := vMin_src hl hh2 hk hs2
    exact hz2 x y k v1 v2 x1 y1 hk x2 y2 hle
  · rw [hw2]
    exact wz.write hw nh hnh
  · rw [hw2]
    have := (vWrite_w (mi := mi) (fs := fs) (sn := sn) (ln := ln) (op := op) (np := np) (st := (S, w, 0)) nh k).1
    have := hwm k
    dsimp only at *
    omega
theorem vInv_mins {ar fs sn ln : Nat → Nat} {op : Nat → Bool} {nh np mi k : Nat} {S : Nat → Option mS} {w : Nat → Nat} (hI : vInv ar fs sn ln nh np mi S w) : ∀ g, vInv ar fs sn ln nh np (mi + g) (vMins ar fs sn ln op nh np mi (S, w, k) g).1 (vMins ar fs sn ln op nh np mi (S, w, k) g).2.1
  | 0 => hI
  | g + 1 => by
    have ih := vInv_mins (op := op) (k := k) hI g
    show vInv ar fs sn ln nh np (mi + g + 1) (vMin ar fs sn ln op nh np (mi + g) (vMins ar fs sn ln op nh np mi (S, w, k) g)).1 (vMin ar fs sn ln op nh np (mi + g) (vMins ar fs sn ln op nh np mi (S, w, k) g)).2.1
    generalize vMins ar fs sn ln op nh np mi (S, w, k) g = z at ih ⊢
    obtain ⟨z1, z2, z3⟩ := z
    exact vInv_min ih
