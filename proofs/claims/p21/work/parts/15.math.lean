/-! WHAT A MINUTE DOES, in values: a place holds nothing or a sheet as it was written. -/
theorem kp_push2 {A : Nat → Prop} {D : va_G} {cl : List vw_C} {X : va_W} {L : List Nat} {f : Nat → va_E} {a b : Nat} {e1 e2 : va_E} {H : Heap} (hP : va_P D cl ((X ++ [(a, e1), (b, e2)]) ++ va_pl L f) H) (hD : va_D A ((X ++ [(a, e1), (b, e2)]) ++ va_pl L f)) :
    va_P D cl (X ++ va_pl (L ++ [a, b]) (va_up (va_up f a e1) b e2)) H ∧ va_D A (X ++ va_pl (L ++ [a, b]) (va_up (va_up f a e1) b e2)) ∧ a ∉ L ∧ b ∉ L ∧ a ≠ b := by
  have hP1 := va_P.swap hP
  have hD1 := va_D.swap hD
  have e0 : (X ++ va_pl L f) ++ [(a, e1), (b, e2)] = ((X ++ va_pl L f) ++ [(a, e1)]) ++ [(b, e2)] := by simp
  rw [e0] at hP1 hD1
  have hDa : va_D A ((X ++ va_pl L f) ++ [(a, e1)]) := hD1.by (fun k => k) (fun k q hk => by rw [List.getElem?_append_left (List.getElem?_eq_some_iff.mp hk).1]; exact hk) (fun i j _ _ h => h)
  have ha : a ∉ L := va_pl_fresh2 hDa
  have e1' : ((X ++ va_pl L f) ++ [(a, e1)]) = X ++ va_pl (L ++ [a]) (va_up f a e1) := by rw [List.append_assoc, va_pl_push ha]
  rw [e1'] at hP1 hD1
  have hb : b ∉ L ++ [a] := va_pl_fresh2 hD1
  rw [List.append_assoc, va_pl_push hb, List.append_assoc] at hP1 hD1
  exact ⟨hP1, hD1, ha, fun h => hb (List.mem_append_left _ h), fun h => hb (by rw [h]; exact List.mem_append_right _ List.mem_cons_self)⟩
/-- the pool and the sheets have grown: what was there is as it was -/
def kExt (L : List Nat) (f : Nat → va_E) (sv : Nat → mS) (L' : List Nat) (f' : Nat → va_E) (sv' : Nat → mS) : Prop := ∀ y, y ∈ L → y ∈ L' ∧ f' y = f y ∧ sv' y = sv y
theorem kExt.rfl {L : List Nat} {f : Nat → va_E} {sv : Nat → mS} : kExt L f sv L f sv := fun _ h => ⟨h, Eq.refl _, Eq.refl _⟩
theorem kExt.trans {L L1 L2 : List Nat} {f f1 f2 : Nat → va_E} {sv sv1 sv2 : Nat → mS} (h1 : kExt L f sv L1 f1 sv1) (h2 : kExt L1 f1 sv1 L2 f2 sv2) : kExt L f sv L2 f2 sv2 := fun y hy => by
  obtain ⟨a1, a2, a3⟩ := h1 y hy
  obtain ⟨b1, b2, b3⟩ := h2 y a1
  exact ⟨b1, b2.trans a2, b3.trans a3⟩
theorem kSheet.ext {G : kG} {L L' : List Nat} {f f' : Nat → va_E} {sv sv' : Nat → mS} {y : Nat} {v : mS} (h : kSheet G L f y v) (hx : kExt L f sv L' f' sv') : kSheet G L' f' y v := by
  obtain ⟨h1, ly, h2, h3, h4, h5⟩ := h
  exact ⟨(hx y h1).1, ly, (hx ly h2).1, (hx y h1).2.1.trans h3, (hx ly h2).2.1.trans h4, h5⟩
theorem kHeld.ext {G : kG} {L L' : List Nat} {f f' : Nat → va_E} {sv sv' : Nat → mS} {hd : Nat → Option Nat} (h : kHeld G L f sv hd) (hx : kExt L f sv L' f' sv') : kHeld G L' f' sv' hd := fun j y q => by
  have h1 := h j y q
  rw [(hx y h1.1).2.2]
  exact h1.ext hx
def shv (sv : Nat → mS) (hd : Nat → Option Nat) : Nat → Option mS := fun j => (hd j).map sv
theorem shv_ext {G : kG} {L L' : List Nat} {f f' : Nat → va_E} {sv sv' : Nat → mS} {hd : Nat → Option Nat} (h : kHeld G L f sv hd) (hx : kExt L f sv L' f' sv') : shv sv' hd = shv sv hd := by
  funext j
  unfold shv
  cases q : hd j with
  | none => rfl
  | some y => exact congrArg some (hx y (h j y q).1).2.2
def vMust (mi : Nat) (fs sn ln : Nat → Nat) (op : Nat → Bool) (h np : Nat) (o : Option mS) : Bool := match o with
  | none => true
  | some v => decide (20 ≤ mi - v.2.1) || !(mSame v.2.2 fs sn ln op h np)
theorem mMust_v {sv : Nat → mS} {mi : Nat} {fs sn ln : Nat → Nat} {op : Nat → Bool} {h np : Nat} {o : Option Nat} : mMust sv mi fs sn ln op h np o = vMust mi fs sn ln op h np (o.map sv) := by cases o <;> rfl
abbrev vST : Type := (Nat → Option mS) × (Nat → Nat) × Nat
def vWrite1 (mi : Nat) (fs sn ln : Nat → Nat) (op : Nat → Bool) (np i : Nat) (st : vST) : vST :=
  if vMust mi fs sn ln op i np (st.1 (i * 10 + i)) = true then (va_up st.1 (i * 10 + i) (some (st.2.1 i + 1, mi, mSheet fs sn ln op i np)), va_up st.2.1 i (st.2.1 i + 1), st.2.2 + 1) else st
def vWrite (mi : Nat) (fs sn ln : Nat → Nat) (op : Nat → Bool) (np : Nat) (st : vST) : Nat → vST
  | 0 => st
  | i + 1 => vWrite1 mi fs sn ln op np i (vWrite mi fs sn ln op np st i)
theorem vWrite1_t {mi : Nat} {fs sn ln : Nat → Nat} {op : Nat → Bool} {np i : Nat} {st : vST} (h : vMust mi fs sn ln op i np (st.1 (i * 10 + i)) = true) : vWrite1 mi fs sn ln op np i st = (va_up st.1 (i * 10 + i) (some (st.2.1 i + 1, mi, mSheet fs sn ln op i np)), va_up st.2.1 i (st.2.1 i + 1), st.2.2 + 1) := if_pos h
theorem vWrite1_f {mi : Nat} {fs sn ln : Nat → Nat} {op : Nat → Bool} {np i : Nat} {st : vST} (h : vMust mi fs sn ln op i np (st.1 (i * 10 + i)) = false) : vWrite1 mi fs sn ln op np i st = st := if_neg (by rw [h]; decide)
/-- a new sheet joins the pool and is put into a place -/
theorem kExt.push {L : List Nat} {f : Nat → va_E} {sv : Nat → mS} {y ly : Nat} {e1 e2 : va_E} {v : mS} (h1 : y ∉ L) (h2 : ly ∉ L) : kExt L f sv (L ++ [y, ly]) (va_up (va_up f y e1) ly e2) (va_up sv y v) := fun z hz => by
  have n1 : z ≠ y := fun q => h1 (q ▸ hz)
  have n2 : z ≠ ly := fun q => h2 (q ▸ hz)
  refine ⟨List.mem_append_left _ hz, ?_, ?_⟩
  · rw [va_up_ne _ _ n2, va_up_ne _ _ n1]
  · rw [va_up_ne _ _ n1]
theorem kHeld.push {G : kG} {L : List Nat} {f : Nat → va_E} {sv : Nat → mS} {hd : Nat → Option Nat} {y ly k num wr : Nat} {len : Nat → Nat} (h : kHeld G L f sv hd) (h1 : y ∉ L) (h2 : ly ∉ L) (h3 : y ≠ ly) (hn : num < 2 ^ 31) (hw : wr < 2 ^ 31) (hl : ∀ j, len j < 100) :
    kHeld G (L ++ [y, ly]) (va_up (va_up f y (.inr (3, [.int (nI num), .int (nI wr), .ref ly]))) ly (.inl (G.2 0, 20, .inl (kI len)))) (va_up sv y (num, wr, len)) (va_up hd k (some y)) := by
  intro j z hz
  by_cases q : j = k
  · subst q
    rw [va_up_self] at hz
    cases hz
    rw [va_up_self]
    refine ⟨List.mem_append_right _ List.mem_cons_self, ly, List.mem_append_right _ (List.mem_cons_of_mem _ List.mem_cons_self), ?_, va_up_self _ _ _, hl, hn, hw⟩
    rw [va_up_ne _ _ h3, va_up_self]
  · rw [va_up_ne _ _ q] at hz
    exact (h.ext (kExt.push h1 h2)) j z hz
theorem shv_push {G : kG} {L : List Nat} {f : Nat → va_E} {sv : Nat → mS} {hd : Nat → Option Nat} {y k : Nat} {v : mS} (h : kHeld G L f sv hd) (h1 : y ∉ L) : shv (va_up sv y v) (va_up hd k (some y)) = va_up (shv sv hd) k (some v) := by
  funext j
  unfold shv
  by_cases q : j = k
  · subst q
    rw [va_up_self, va_up_self]
    show some (va_up sv y v y) = some v
    rw [va_up_self]
  · rw [va_up_ne _ _ q, va_up_ne _ _ q]
    cases z : hd j with
    | none => rfl
    | some x =>
      show some (va_up sv y v x) = some (sv x)
      rw [va_up_ne _ _ (show x ≠ y from fun w => h1 (by rw [← w]; exact (h j x z).1))]
def vNum (o : Option mS) : Nat := match o with
  | none => 0
  | some v => v.1
def vNewer (v : mS) (o : Option mS) : Bool := match o with
  | none => true
  | some z => decide (z.1 < v.1)
def vCarry1 (ar : Nat → Nat) (S C : Nat → Option mS) (fr to i : Nat) : Nat → Option mS :=
  match S (fr * 10 + i) with
  | none => C
  | some v => if i ≠ to ∧ mTakes ar to i = true ∧ vNewer v (C (to * 10 + i)) = true then va_up C (to * 10 + i) (some v) else C
def vCarry (ar : Nat → Nat) (S C : Nat → Option mS) (fr to : Nat) : Nat → Nat → Option mS
  | 0 => C
  | i + 1 => vCarry1 ar S (vCarry ar S C fr to i) fr to i
theorem shv_up (sv : Nat → mS) (hd : Nat → Option Nat) (k : Nat) (o : Option Nat) : shv sv (va_up hd k o) = va_up (shv sv hd) k (o.map sv) := by
  funext j
  unfold shv va_up
  by_cases q : j = k
  · rw [if_pos q, if_pos q]
  · rw [if_neg q, if_neg q]
theorem mNewer_v {sv : Nat → mS} {y : Nat} {o : Option Nat} : mNewer sv y o = vNewer (sv y) (o.map sv) := by cases o <;> rfl
theorem shv_carry1 {ar : Nat → Nat} {sv : Nat → mS} {hd cd : Nat → Option Nat} {fr to i : Nat} : shv sv (mCarry1 ar sv hd cd fr to i) = vCarry1 ar (shv sv hd) (shv sv cd) fr to i := by
  unfold mCarry1 vCarry1
  show _ = match (hd (fr * 10 + i)).map sv with | none => _ | some v => _
  cases q : hd (fr * 10 + i) with
  | none => rfl
  | some y =>
    dsimp only [Option.map]
    rw [mNewer_v]
    show _ = if i ≠ to ∧ mTakes ar to i = true ∧ vNewer (sv y) ((cd (to * 10 + i)).map sv) = true then _ else _
    split
    · rw [shv_up]; rfl
    · rfl
theorem shv_carry {ar : Nat → Nat} {sv : Nat → mS} {hd cd : Nat → Option Nat} {fr to : Nat} : ∀ i, shv sv (mCarry ar sv hd cd fr to i) = vCarry ar (shv sv hd) (shv sv cd) fr to i
  | 0 => rfl
  | i + 1 => by
    show shv sv (mCarry1 ar sv hd (mCarry ar sv hd cd fr to i) fr to i) = vCarry1 ar (shv sv hd) (vCarry ar (shv sv hd) (shv sv cd) fr to i) fr to i
    rw [shv_carry1, shv_carry i]
def vCarryP (ar fs sn : Nat → Nat) (op : Nat → Bool) (nh : Nat) (S C : Nat → Option mS) : Nat → Nat → Option mS
  | 0 => C
  | q + 1 => if op q = true then vCarry ar S (vCarry ar S (vCarryP ar fs sn op nh S C q) (fs q) (sn q) nh) (sn q) (fs q) nh else vCarryP ar fs sn op nh S C q
theorem shv_carryP {ar fs sn : Nat → Nat} {op : Nat → Bool} {nh : Nat} {sv : Nat → mS} {hd cd : Nat → Option Nat} : ∀ q, shv sv (mCarryP ar fs sn op nh sv hd cd q) = vCarryP ar fs sn op nh (shv sv hd) (shv sv cd) q
  | 0 => rfl
  | q + 1 => by
    unfold mCarryP vCarryP
    split
    · rw [shv_carry, shv_carry, shv_carryP q]
    · exact shv_carryP q
theorem shv_copy {sv : Nat → mS} {a b : Nat → Option Nat} {i : Nat} : shv sv (mCopy a b i) = mCopy (shv sv a) (shv sv b) i := by
  funext j
  unfold shv mCopy
  split <;> rfl
def vOld (mi : Nat) (o : Option mS) : Bool := match o with
  | none => false
  | some v => decide (30 < mi - v.2.1)
def vThrow (mi : Nat) (S : Nat → Option mS) (i : Nat) : Nat → Option mS := fun j => if j < i ∧ vOld mi (S j) = true then none else S j
theorem mOld_v {sv : Nat → mS} {mi : Nat} {o : Option Nat} : mOld sv mi o = vOld mi (o.map sv) := by cases o <;> rfl
theorem shv_throw {sv : Nat → mS} {mi : Nat} {hd : Nat → Option Nat} {i : Nat} : shv sv (mThrow sv mi hd i) = vThrow mi (shv sv hd) i := by
  funext j
  unfold shv mThrow vThrow
  rw [mOld_v]
  split <;> rfl
theorem mThrow_held {G : kG} {L : List Nat} {f : Nat → va_E} {sv : Nat → mS} {mi i : Nat} {hd : Nat → Option Nat} (h : kHeld G L f sv hd) : kHeld G L f sv (mThrow sv mi hd i) := fun j y q => by
  unfold mThrow at q
  split at q
  · cases q
  · exact h j y q
/-- one minute: what is held, how many were written by each and in all -/
def vMin (ar fs sn ln : Nat → Nat) (op : Nat → Bool) (nh np mi : Nat) (st : vST) : vST :=
  let w := vWrite mi fs sn ln op np st nh
  (vThrow (mi + 1) (vCarryP ar fs sn op nh w.1 w.1 np) 100, w.2.1, w.2.2)
def vMins (ar fs sn ln : Nat → Nat) (op : Nat → Bool) (nh np mi : Nat) (st : vST) : Nat → vST
  | 0 => st
  | g + 1 => vMin ar fs sn ln op nh np (mi + g) (vMins ar fs sn ln op nh np mi st g)
/-- nothing stands at places 100 and up -/
def v100 {α : Type} (S : Nat → Option α) : Prop := ∀ j, 100 ≤ j → S j = none
theorem v100.up {α : Type} {S : Nat → Option α} (h : v100 S) {k : Nat} (hk : k < 100) (o : Option α) : v100 (va_up S k o) := fun j hj => by
  rw [va_up_ne _ _ (show j ≠ k by omega)]
  exact h j hj
theorem mCopy_100 {α : Type} {a b : Nat → Option α} (ha : v100 a) (hb : v100 b) : mCopy a b 100 = a := by
  funext j
  unfold mCopy
  split
  · rfl
  · rename_i q
    rw [ha j (by omega), hb j (by omega)]
theorem v100.carry1 {ar : Nat → Nat} {S C : Nat → Option mS} {fr to i : Nat} (h : v100 C) (ht : to < 10) (hi : i < 10) : v100 (vCarry1 ar S C fr to i) := by
  unfold vCarry1
  split
  · exact h
  · split
    · exact h.up (by omega) _
    · exact h
theorem v100.carry {ar : Nat → Nat} {S C : Nat → Option mS} {fr to : Nat} (h : v100 C) (ht : to < 10) : ∀ i, i ≤ 10 → v100 (vCarry ar S C fr to i)
  | 0, _ => h
  | i + 1, hi => v100.carry1 (v100.carry h ht i (by omega)) ht (by omega)
theorem v100.carryP {ar fs sn : Nat → Nat} {op : Nat → Bool} {nh : Nat} {S C : Nat → Option mS} (h : v100 C) (hfs : ∀ j, fs j < 10) (hsn : ∀ j, sn j < 10) (hnh : nh ≤ 10) : ∀ q, v100 (vCarryP ar fs sn op nh S C q)
  | 0 => h
  | q + 1 => by
    unfold vCarryP
    split
    · exact v100.carry (v100.carry (v100.carryP h hfs hsn hnh q) (hsn q) nh hnh) (hfs q) nh hnh
    · exact v100.carryP h hfs hsn hnh q
theorem v100.throw {mi : Nat} {S : Nat → Option mS} (h : v100 S) (i : Nat) : v100 (vThrow mi S i) := fun j hj => by
  unfold vThrow
  split
  · rfl
  · exact h j hj
theorem v100.write {mi : Nat} {fs sn ln : Nat → Nat} {op : Nat → Bool} {np : Nat} {st : vST} (h : v100 st.1) : ∀ i, i ≤ 10 → v100 (vWrite mi fs sn ln op np st i).1
  | 0, _ => h
  | i + 1, hi => by
    have ih := v100.write (mi := mi) (fs := fs) (sn := sn) (ln := ln) (op := op) (np := np) h i (by omega)
    show v100 (vWrite1 mi fs sn ln op np i _).1
    unfold vWrite1
    split
    · exact ih.up (by omega) _
    · exact ih
theorem v100.min {ar fs sn ln : Nat → Nat} {op : Nat → Bool} {nh np mi : Nat} {st : vST} (h : v100 st.1) (hfs : ∀ j, fs j < 10) (hsn : ∀ j, sn j < 10) (hnh : nh ≤ 10) : v100 (vMin ar fs sn ln op nh np mi st).1 :=
  v100.throw (v100.carryP (v100.write h nh hnh) hfs hsn hnh np) 100
/-- all sheets of a row were written by the minute mi, with numbers up to that of their hut -/
def vOkS (mi : Nat) (S : Nat → Option mS) : Prop := ∀ j v, S j = some v → v.2.1 ≤ mi
theorem shv_some {sv : Nat → mS} {hd : Nat → Option Nat} {j y : Nat} (h : hd j = some y) : shv sv hd j = some (sv y) := by unfold shv; rw [h]; rfl
theorem vOkS.at {mi : Nat} {sv : Nat → mS} {hd : Nat → Option Nat} (h : vOkS mi (shv sv hd)) : ∀ j y, hd j = some y → (sv y).2.1 ≤ mi := fun _ _ q => h _ _ (shv_some q)
theorem vOkS.up {mi : Nat} {S : Nat → Option mS} (h : vOkS mi S) {k : Nat} {o : Option mS} (ho : ∀ v, o = some v → v.2.1 ≤ mi) : vOkS mi (va_up S k o) := by
  intro j v q
  unfold va_up at q
  split at q
  · exact ho v q
  · exact h j v q
theorem vOkS.mono {mi mj : Nat} {S : Nat → Option mS} (h : vOkS mi S) (hm : mi ≤ mj) : vOkS mj S := fun j v q => Nat.le_trans (h j v q) hm
theorem vOkS.copy {mi : Nat} {a b : Nat → Option mS} (h1 : vOkS mi a) (h2 : vOkS mi b) (i : Nat) : vOkS mi (mCopy a b i) := by
  intro j v q
  unfold mCopy at q
  split at q
  · exact h1 j v q
  · exact h2 j v q
theorem vOkS.carry1 {mi : Nat} {ar : Nat → Nat} {S C : Nat → Option mS} {fr to i : Nat} (h1 : vOkS mi S) (h2 : vOkS mi C) : vOkS mi (vCarry1 ar S C fr to i) := by
  unfold vCarry1
  cases q : S (fr * 10 + i) with
  | none => exact h2
  | some v =>
    dsimp only
    split
    · exact h2.up (fun z hz => by cases hz; exact h1 _ _ q)
    · exact h2
theorem vOkS.carry {mi : Nat} {ar : Nat → Nat} {S C : Nat → Option mS} {fr to : Nat} (h1 : vOkS mi S) (h2 : vOkS mi C) : ∀ i, vOkS mi (vCarry ar S C fr to i)
  | 0 => h2
  | i + 1 => vOkS.carry1 h1 (vOkS.carry h1 h2 i)
theorem vOkS.carryP {mi : Nat} {ar fs sn : Nat → Nat} {op : Nat → Bool} {nh : Nat} {S C : Nat → Option mS} (h1 : vOkS mi S) (h2 : vOkS mi C) : ∀ q, vOkS mi (vCarryP ar fs sn op nh S C q)
  | 0 => h2
  | q + 1 => by
    unfold vCarryP
    split
    · exact vOkS.carry h1 (vOkS.carry h1 (vOkS.carryP h1 h2 q) _) _
    · exact vOkS.carryP h1 h2 q
theorem vOkS.throw {mi mj : Nat} {S : Nat → Option mS} (h : vOkS mi S) (i : Nat) : vOkS mi (vThrow mj S i) := by
  intro j v q
  unfold vThrow at q
  split at q
  · cases q
  · exact h j v q
theorem vOkS.write {mi : Nat} {fs sn ln : Nat → Nat} {op : Nat → Bool} {np : Nat} {st : vST} (h : vOkS mi st.1) : ∀ i, vOkS mi (vWrite mi fs sn ln op np st i).1
  | 0 => h
  | i + 1 => by
    have ih := vOkS.write (fs := fs) (sn := sn) (ln := ln) (op := op) (np := np) h i
    show vOkS mi (vWrite1 mi fs sn ln op np i _).1
    unfold vWrite1
    split
    · exact ih.up (fun z hz => by cases hz; exact Nat.le_refl _)
    · exact ih
theorem vWrite_w {mi : Nat} {fs sn ln : Nat → Nat} {op : Nat → Bool} {np : Nat} {st : vST} : ∀ i h, (vWrite mi fs sn ln op np st i).2.1 h ≤ st.2.1 h + 1 ∧ (i ≤ h → (vWrite mi fs sn ln op np st i).2.1 h = st.2.1 h)
  | 0, h => ⟨Nat.le_succ _, fun _ => rfl⟩
  | i + 1, h => by
    obtain ⟨h1, h2⟩ := vWrite_w (mi := mi) (fs := fs) (sn := sn) (ln := ln) (op := op) (np := np) (st := st) i h
    show (vWrite1 mi fs sn ln op np i _).2.1 h ≤ _ ∧ (_ → (vWrite1 mi fs sn ln op np i _).2.1 h = _)
    unfold vWrite1
    split
    · dsimp only
      by_cases q : h = i
      · subst q
        rw [va_up_self, h2 (Nat.le_refl _)]
        exact ⟨Nat.le_refl _, fun z => by omega⟩
      · rw [va_up_ne _ _ q]
        exact ⟨h1, fun z => h2 (by omega)⟩
    · exact ⟨h1, fun z => h2 (by omega)⟩
theorem mSheet_lt {fs sn ln : Nat → Nat} {op : Nat → Bool} {h n : Nat} (hln : ∀ j, ln j < 100) : ∀ j, mSheet fs sn ln op h n j < 100 := fun j => by
  unfold mSheet
  split
  · exact mTells_lt hln
  · decide
theorem vWrite_cnt {mi : Nat} {fs sn ln : Nat → Nat} {op : Nat → Bool} {np k : Nat} {S : Nat → Option mS} {w : Nat → Nat} : ∀ i, vWrite mi fs sn ln op np (S, w, k) i = ((vWrite mi fs sn ln op np (S, w, 0) i).1, (vWrite mi fs sn ln op np (S, w, 0) i).2.1, k + (vWrite mi fs sn ln op np (S, w, 0) i).2.2)
  | 0 => rfl
  | i + 1 => by
    show vWrite1 mi fs sn ln op np i (vWrite mi fs sn ln op np (S, w, k) i) = ((vWrite1 mi fs sn ln op np i (vWrite mi fs sn ln op np (S, w, 0) i)).1, (vWrite1 mi fs sn ln op np i (vWrite mi fs sn ln op np (S, w, 0) i)).2.1, k + (vWrite1 mi fs sn ln op np i (vWrite mi fs sn ln op np (S, w, 0) i)).2.2)
    rw [vWrite_cnt i]
    generalize vWrite mi fs sn ln op np (S, w, 0) i = z
    unfold vWrite1
    dsimp only
    split
    · rfl
    · rfl
theorem vMin_eq {ar fs sn ln : Nat → Nat} {op : Nat → Bool} {nh np mi k k3 : Nat} {S S3 : Nat → Option mS} {w w3 : Nat → Nat} (h : (S3, w3, k3) = vWrite mi fs sn ln op np (S, w, 0) nh) : vMin ar fs sn ln op nh np mi (S, w, k) = (vThrow (mi + 1) (vCarryP ar fs sn op nh S3 S3 np) 100, w3, k + k3) := by
  unfold vMin
  dsimp only
  rw [vWrite_cnt, ← h]
theorem vMin_cnt {ar fs sn ln : Nat → Nat} {op : Nat → Bool} {nh np mi k : Nat} {S : Nat → Option mS} {w : Nat → Nat} : (vMin ar fs sn ln op nh np mi (S, w, k)).1 = (vMin ar fs sn ln op nh np mi (S, w, 0)).1 ∧ (vMin ar fs sn ln op nh np mi (S, w, k)).2.1 = (vMin ar fs sn ln op nh np mi (S, w, 0)).2.1 := by
  unfold vMin
  dsimp only
  rw [vWrite_cnt]
  exact ⟨rfl, rfl⟩
