/-! WHAT THE POST BY HAND KEEPS: rows of numbers. -/
def zP (fs sn ln : Nat → Nat) (op : Nat → Bool) (p : Nat) : Nat → Nat := fun j => if j = 0 then fs p else if j = 1 then sn p else if j = 2 then ln p else if j = 3 then (if op p = true then 1 else 0) else 0
theorem zP_end {fs sn ln : Nat → Nat} {op : Nat → Bool} {p side : Nat} (h : side < 2) : zP fs sn ln op p side = zEnd fs sn p side := by
  rcases (show side = 0 ∨ side = 1 by omega) with e | e
  · subst e; rfl
  · subst e; rfl
theorem zP_3 {fs sn ln : Nat → Nat} {op : Nat → Bool} {p : Nat} : kI (zP fs sn ln op p) 3 = bI (op p) := by
  unfold kI zP
  cases op p <;> rfl
def zTl (len : Nat) (g : Nat → Nat) (p : Nat) : Nat := if p + 2 < len then g (p + 2) else 0
theorem zTl_t {len p : Nat} {g : Nat → Nat} (h : p + 2 < len) : zTl len g p = g (p + 2) := if_pos h
theorem zTl_f {len p : Nat} {g : Nat → Nat} (h : len ≤ p + 2) : zTl len g p = 0 := if_neg (by omega)
def zVal (mi : Nat) (o : Option mS) (len : Nat) (g : Nat → Nat) : Prop := match o with
  | none => len = 0
  | some v => 2 ≤ len ∧ len ≤ 22 ∧ g 0 = v.1 ∧ g 1 = mi - v.2.1 ∧ v.1 < 2 ^ 31 ∧ v.2.1 ≤ mi ∧ (∀ p, p + 2 < len → g (p + 2) = v.2.2 p) ∧ (∀ p, len ≤ p + 2 → v.2.2 p = 0) ∧ ∀ p, v.2.2 p < 100
theorem zVal_n {mi len : Nat} {o : Option mS} {g : Nat → Nat} (h : zVal mi o len g) (hl : len = 0) : o = none := by
  cases o with
  | none => rfl
  | some v => have := h.1; omega
theorem zVal_s {mi len : Nat} {o : Option mS} {g : Nat → Nat} (h : zVal mi o len g) (hl : 0 < len) : ∃ v, o = some v ∧ 2 ≤ len ∧ g 0 = v.1 ∧ g 1 = mi - v.2.1 := by
  cases o with
  | none => have h : len = 0 := h; omega
  | some v => exact ⟨v, rfl, h.1, h.2.2.1, h.2.2.2.1⟩
theorem zVal_len {mi len : Nat} {o : Option mS} {g : Nat → Nat} (h : zVal mi o len g) : len ≤ 22 := by
  cases o with
  | none => have h : len = 0 := h; omega
  | some v => exact h.2.1
theorem zVal_told {mi len p : Nat} {o : Option mS} {g : Nat → Nat} (h : zVal mi o len g) : zTl len g p = vLen o p := by
  cases o with
  | none =>
    have h : len = 0 := h
    rw [zTl_f (by omega)]
    rfl
  | some v =>
    obtain ⟨h1, h2, h3, h4, h5, h6, h7, h8, h9⟩ := h
    by_cases q : p + 2 < len
    · rw [zTl_t q, h7 p q]; rfl
    · rw [zTl_f (by omega)]; exact (h8 p (by omega)).symm
theorem zVal_lt {mi p : Nat} {o : Option mS} {len : Nat} {g : Nat → Nat} (h : zVal mi o len g) : vLen o p < 100 := by
  cases o with
  | none => show 0 < 100; decide
  | some v => exact h.2.2.2.2.2.2.2.2 p
theorem zVal_0 {mi len : Nat} {o : Option mS} {g : Nat → Nat} (hm : mi < 2 ^ 31) (h : zVal mi o len g) (hl : 0 < len) : g 0 < 2 ^ 31 ∧ g 1 < 2 ^ 31 := by
  cases o with
  | none => have h : len = 0 := h; omega
  | some v =>
    obtain ⟨h1, h2, h3, h4, h5, h6, h7⟩ := h
    exact ⟨by omega, by omega⟩
def zRow (G : kG) (L : List Nat) (f : Nat → va_E) (y mi : Nat) (o : Option mS) : Prop := y ∈ L ∧ ∃ (len : Nat) (g : Nat → Nat), f y = .inl (G.2 0, len, .inl (kI g)) ∧ zVal mi o len g
def zTrue (SS : Nat → Option mS) (fs sn ln : Nat → Nat) (op : Nat → Bool) (h np : Nat) : Bool := !mAny (fun p => vLen (SS (h * 10 + h)) p != mTells fs sn ln op h p) np
theorem zStH_le {SS : Nat → Option mS} {fs sn : Nat → Nat} {h p sd : Nat} (hsl : ∀ k, vLen (SS (h * 10 + zEnd fs sn p k)) p < 100) : zStH SS fs sn h p sd ≤ 99999999 := by
  unfold zStH
  split
  · have := hsl sd; omega
  · exact Nat.le_refl _
theorem zStT_le {ln : Nat → Nat} {op : Nat → Bool} {p sd : Nat} (hln : ∀ j, ln j < 100) : zStT ln op p sd ≤ 99999999 := by
  unfold zStT
  split
  · have := hln p; omega
  · exact Nat.le_refl _
/-- the first k of the two sides -/
def zSd (st : Nat → Nat → Nat) (fs sn b : Nat → Nat) (p : Nat) : Nat → Nat → Nat
  | 0 => b
  | k + 1 => zHalf st fs sn (zSd st fs sn b p k) p k
def zFil (to : Nat) (i : Nat) : Nat → Nat := fun k => if k < i then (if k = to then 0 else 99999999) else 0
theorem zFil_0 (to : Nat) : zFil to 0 = fun _ => 0 := by funext k; unfold zFil; rw [if_neg (by omega)]
theorem zFil_up {to i x : Nat} (h : x = if i = to then 0 else 99999999) : va_up (zFil to i) i x = zFil to (i + 1) := by
  funext k
  unfold va_up zFil
  by_cases q : k = i
  · subst q; rw [if_pos rfl, if_pos (by omega), h]
  · rw [if_neg q]
    by_cases q2 : k < i
    · rw [if_pos q2, if_pos (show k < i + 1 by omega)]
    · rw [if_neg q2, if_neg (show ¬ k < i + 1 by omega)]
theorem zClamp_0 (b : Nat → Nat) : zClamp b 0 = b := by funext k; unfold zClamp; rw [if_neg (by omega)]
theorem zClamp_at (b : Nat → Nat) (i : Nat) : zClamp b i i = b i := by unfold zClamp; rw [if_neg (by omega)]
theorem zClamp_up (b : Nat → Nat) (i : Nat) : va_up (zClamp b i) i (min (b i) 99999999) = zClamp b (i + 1) := by
  funext k
  unfold va_up zClamp
  by_cases q : k = i
  · subst q; rw [if_pos rfl, if_pos (by omega)]
  · rw [if_neg q]
    by_cases q2 : k < i
    · rw [if_pos q2, if_pos (show k < i + 1 by omega)]
    · rw [if_neg q2, if_neg (show ¬ k < i + 1 by omega)]
theorem zHalf_b {st : Nat → Nat → Nat} {fs sn b : Nat → Nat} {p sd n : Nat} (h : ∀ j, j < n → b j ≤ 99999999) : ∀ j, j < n → zHalf st fs sn b p sd j ≤ 99999999 := by
  intro j hj
  exact Nat.le_trans zHalf_le (h j hj)
/-- how many sheets a hut has -/
def zHas (SS : Nat → Option mS) (n h : Nat) : Nat := mCnt (fun k => (SS (h * 10 + k)).isSome) n
theorem zBst1_t {st : Nat → Nat → Nat} {fs sn far : Nat → Nat} {h p sd : Nat} {o : Option Nat} (h1 : zEnd fs sn p sd = h) (h2 : st p sd + far (zEnd fs sn p (1 - sd)) = far h) (h3 : ∀ b, o = some b → zEnd fs sn p (1 - sd) < b) : zBst1 st fs sn far h o p sd = some (zEnd fs sn p (1 - sd)) := if_pos ⟨h1, h2, h3⟩
theorem zBst1_a {st : Nat → Nat → Nat} {fs sn far : Nat → Nat} {h p sd : Nat} {o : Option Nat} (h1 : ¬ zEnd fs sn p sd = h) : zBst1 st fs sn far h o p sd = o := if_neg (fun z => h1 z.1)
theorem zBst1_b {st : Nat → Nat → Nat} {fs sn far : Nat → Nat} {h p sd : Nat} {o : Option Nat} (h1 : ¬ st p sd + far (zEnd fs sn p (1 - sd)) = far h) : zBst1 st fs sn far h o p sd = o := if_neg (fun z => h1 z.2.1)
theorem zBst1_c {st : Nat → Nat → Nat} {fs sn far : Nat → Nat} {h p sd b : Nat} {o : Option Nat} (h1 : o = some b) (h2 : b ≤ zEnd fs sn p (1 - sd)) : zBst1 st fs sn far h o p sd = o := if_neg (fun z => by have := z.2.2 b h1; omega)
/-- the first k sides of a pass, for the best next hut -/
def zBs (st : Nat → Nat → Nat) (fs sn far : Nat → Nat) (h p : Nat) (o : Option Nat) : Nat → Option Nat
  | 0 => o
  | k + 1 => zBst1 st fs sn far h (zBs st fs sn far h p o k) p k
theorem mOI_some {o : Option Nat} (h : ¬ mOI o < 0) (hb : ∀ b, o = some b → b < 2 ^ 31) : ∃ b, o = some b ∧ mOI o = nI b := by
  cases o with
  | none => exact absurd (by decide) h
  | some b => exact ⟨b, rfl, rfl⟩
theorem mOI_none {o : Option Nat} (h : mOI o < 0) (hb : ∀ b, o = some b → b < 2 ^ 31) : o = none := by
  cases o with
  | none => rfl
  | some b => exact absurd h (nI_pos (hb b rfl))
theorem zBs_lt {st : Nat → Nat → Nat} {fs sn far : Nat → Nat} {h p n : Nat} {o : Option Nat} (he : ∀ k, zEnd fs sn p k < n) (ho : ∀ b, o = some b → b < n) : ∀ k b, zBs st fs sn far h p o k = some b → b < n
  | 0, b, q => ho b q
  | k + 1, b, q => by
    have ih := zBs_lt (st := st) (far := far) (h := h) he ho k
    have q : zBst1 st fs sn far h (zBs st fs sn far h p o k) p k = some b := q
    unfold zBst1 at q
    split at q
    · cases q; exact he _
    · exact ih b q
theorem mOI_le {o : Option Nat} {b x : Nat} (h : o = some b) (hb : b < 2 ^ 31) (hx : x < 2 ^ 31) : (mOI o ≤ nI x ↔ b ≤ x) := by
  subst h
  constructor
  · intro q
    rcases Nat.lt_or_ge x b with z | z
    · exact absurd q (nI_ge z hb)
    · exact z
  · intro q
    exact nI_le q hx
theorem zLet_at {nx : Nat → Nat → Option Nat} {st : Nat → Nat → Bool} {to n k a : Nat} (h : a = to) : zLet nx st to (n + 1) k a = some k := by unfold zLet; rw [if_pos h]
theorem zLet_n {nx : Nat → Nat → Option Nat} {st : Nat → Nat → Bool} {to n k a : Nat} (h : a ≠ to) (h1 : nx a to = none) : zLet nx st to (n + 1) k a = none := by unfold zLet; rw [if_neg h, h1]
theorem zLet_f {nx : Nat → Nat → Option Nat} {st : Nat → Nat → Bool} {to n k a y : Nat} (h : a ≠ to) (h1 : nx a to = some y) (h2 : st a y = false) : zLet nx st to (n + 1) k a = none := by unfold zLet; rw [if_neg h, h1]; dsimp only; rw [h2]; rfl
theorem zLet_t {nx : Nat → Nat → Option Nat} {st : Nat → Nat → Bool} {to n k a y : Nat} (h : a ≠ to) (h1 : nx a to = some y) (h2 : st a y = true) : zLet nx st to (n + 1) k a = zLet nx st to n (k + 1) y := by
  show (if a = to then _ else _) = _
  rw [if_neg h, h1]; dsimp only; rw [if_pos h2]
theorem kB_or (a b : Bool) : bI a ||| bI b = bI (a || b) := by cases a <;> cases b <;> rfl
theorem zBst_lt {st : Nat → Nat → Nat} {fs sn far : Nat → Nat} {h n : Nat} : ∀ np, (∀ p k, p < np → zEnd fs sn p k < n) → ∀ b, zBst st fs sn far h np = some b → b < n
  | 0, _, b, q => by cases q
  | np + 1, he, b, q => zBs_lt (st := st) (far := far) (h := h) (o := zBst st fs sn far h np) (fun k => he np k (Nat.lt_succ_self _)) (zBst_lt np (fun p k hp => he p k (by omega))) 2 b q
theorem zFst_lt {st : Nat → Nat → Nat} {fs sn : Nat → Nat} {np n h to b : Nat} (hh : h < n) (he : ∀ p k, p < np → zEnd fs sn p k < n) (q : zFst st fs sn np n h to = some b) : b < n := by
  unfold zFst at q
  split at q
  · cases q; exact hh
  · split at q
    · cases q
    · exact zBst_lt np he b q
section KB1
variable {p : Program} {l : Launch} {e : Env} {R : Room} {s : State} {m : MethodId} {args : Array Value} {below : List Frame} {meth : Method} {c : Code} {H : Heap} {locs : List Loc} {cells slots : Nat} {Q : State → Prop}
variable {cc : ByteArray} {pc : Nat} {ls : Array Slot} {rest : List Value}
/-- a truth value against 1 -/
theorem kb_ne1 (hexec : p.tables.exec = Jvm.exec) (hb : c.code = cc) {x : Bool} {off : Int} {tgt : Nat} (hdg : decode cc pc = .ok (.if_icmp .ne off, 3)) (ht : (pc : Int) + off = (tgt : Int)) (kt : x = false → W p l e R s m args below meth c H locs cells slots Q (F0 m tgt ls rest)) (kf : x = true → W p l e R s m args below meth c H locs cells slots Q (F0 m (pc + 3) ls rest)) : W p l e R s m args below meth c H locs cells slots Q (F0 m pc ls (.int (nI 1) :: .int (bI x) :: rest)) :=
  lv_icmp_ne hexec hb hdg ht (fun h => kt (by cases x with
    | false => rfl
    | true => exact absurd rfl h)) (fun h => kf (by cases x with
    | false => exact absurd h (by decide)
    | true => rfl))
end KB1
