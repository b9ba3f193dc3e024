/-! THE POST BY HAND: ways from all huts to one, the next hut, letters; as numbers. -/
def zEnd (fs sn : Nat → Nat) (p side : Nat) : Nat := if side = 0 then fs p else sn p
def zHalf (st : Nat → Nat → Nat) (fs sn b : Nat → Nat) (p side : Nat) : Nat → Nat := va_up b (zEnd fs sn p side) (min (b (zEnd fs sn p side)) (st p side + b (zEnd fs sn p (1 - side))))
def zRnd (st : Nat → Nat → Nat) (fs sn b : Nat → Nat) : Nat → Nat → Nat
  | 0 => b
  | p + 1 => zHalf st fs sn (zHalf st fs sn (zRnd st fs sn b p) p 0) p 1
def zItr (st : Nat → Nat → Nat) (fs sn : Nat → Nat) (np : Nat) (b : Nat → Nat) : Nat → Nat → Nat
  | 0 => b
  | k + 1 => zRnd st fs sn (zItr st fs sn np b k) np
def zIni (n to : Nat) : Nat → Nat := fun k => if k < n then (if k = to then 0 else 99999999) else 0
def zClamp (b : Nat → Nat) (i : Nat) : Nat → Nat := fun k => if k < i then min (b k) 99999999 else b k
def zFar (st : Nat → Nat → Nat) (fs sn : Nat → Nat) (np n to : Nat) : Nat → Nat := zClamp (zItr st fs sn np (zIni n to) n) n
def zBst1 (st : Nat → Nat → Nat) (fs sn far : Nat → Nat) (h : Nat) (o : Option Nat) (p side : Nat) : Option Nat :=
  if zEnd fs sn p side = h ∧ st p side + far (zEnd fs sn p (1 - side)) = far h ∧ (∀ b, o = some b → zEnd fs sn p (1 - side) < b) then some (zEnd fs sn p (1 - side)) else o
def zBst (st : Nat → Nat → Nat) (fs sn far : Nat → Nat) (h : Nat) : Nat → Option Nat
  | 0 => none
  | p + 1 => zBst1 st fs sn far h (zBst1 st fs sn far h (zBst st fs sn far h p) p 0) p 1
def zFst (st : Nat → Nat → Nat) (fs sn : Nat → Nat) (np n h to : Nat) : Option Nat := if h = to then some h else if 99999999 ≤ zFar st fs sn np n to h then none else zBst st fs sn (zFar st fs sn np n to) h np
/-- the cost of a half pass: as a hut knows it, or in truth -/
def zStH (S : Nat → Option mS) (fs sn : Nat → Nat) (h p side : Nat) : Nat := if vTOpen S fs sn h p = true then 100 * vLen (S (h * 10 + zEnd fs sn p side)) p + 1 else 99999999
def zStT (ln : Nat → Nat) (op : Nat → Bool) (p _side : Nat) : Nat := if op p = true then 100 * ln p + 1 else 99999999
/-- a letter by hand -/
def zLet (nx : Nat → Nat → Option Nat) (st : Nat → Nat → Bool) (to : Nat) : Nat → Nat → Nat → Option Nat
  | 0, _, _ => none
  | n + 1, k, at_ => if at_ = to then some k else match nx at_ to with
    | none => none
    | some y => if st at_ y = true then zLet nx st to n (k + 1) y else none
/-! what these say of walks -/
def zE (st : Nat → Nat → Nat) (fs sn : Nat → Nat) (np a b x : Nat) : Prop := ∃ p side, p < np ∧ side < 2 ∧ zEnd fs sn p side = a ∧ zEnd fs sn p (1 - side) = b ∧ st p side = 100 * x + 1 ∧ st p side < 99999999
def zOk (st : Nat → Nat → Nat) (fs sn : Nat → Nat) (np n : Nat) : Prop := (∀ p side, p < np → side < 2 → st p side = 99999999 ∨ ∃ x, x < 100 ∧ st p side = 100 * x + 1) ∧ ∀ p side, p < np → zEnd fs sn p side < n
def zG (w : List (Nat × Nat)) : Nat := 100 * gL w + w.length
def zSnd (st : Nat → Nat → Nat) (fs sn : Nat → Nat) (np n to : Nat) (b : Nat → Nat) : Prop := ∀ k, k < n → 99999999 ≤ b k ∨ ∃ w, gW (zE st fs sn np) k w to ∧ b k = zG w
theorem zHalf_snd {st : Nat → Nat → Nat} {fs sn : Nat → Nat} {np n to : Nat} {b : Nat → Nat} {p side : Nat} (ho : zOk st fs sn np n) (hp : p < np) (hs : side < 2) (h : zSnd st fs sn np n to b) : zSnd st fs sn np n to (zHalf st fs sn b p side) := by
  intro k hk
  unfold zHalf va_up
  split
  · rename_i q
    subst q
    by_cases q2 : b (zEnd fs sn p side) ≤ st p side + b (zEnd fs sn p (1 - side))
    · rw [Nat.min_eq_left q2]
      exact h _ hk
    · rw [Nat.min_eq_right (by omega)]
      rcases ho.1 p side hp hs with h1 | ⟨x, hx, h1⟩
      · left; omega
      · rcases h _ (ho.2 p (1 - side) hp) with h2 | ⟨w, hw, ew⟩
        · left; omega
        · right
          refine ⟨(zEnd fs sn p (1 - side), x) :: w, ⟨⟨p, side, hp, hs, rfl, rfl, h1, by omega⟩, hw⟩, ?_⟩
          rw [h1, ew]
          simp only [zG, gL, List.length_cons]
          omega
  · exact h k hk
theorem zRnd_snd {st : Nat → Nat → Nat} {fs sn : Nat → Nat} {np n to : Nat} {b : Nat → Nat} (ho : zOk st fs sn np n) (h : zSnd st fs sn np n to b) : ∀ p, p ≤ np → zSnd st fs sn np n to (zRnd st fs sn b p)
  | 0, _ => h
  | p + 1, hp => zHalf_snd ho (by omega) (by decide) (zHalf_snd ho (by omega) (by decide) (zRnd_snd ho h p (by omega)))
theorem zItr_snd {st : Nat → Nat → Nat} {fs sn : Nat → Nat} {np n to : Nat} {b : Nat → Nat} (ho : zOk st fs sn np n) (h : zSnd st fs sn np n to b) : ∀ k, zSnd st fs sn np n to (zItr st fs sn np b k)
  | 0 => h
  | k + 1 => zRnd_snd ho (zItr_snd ho h k) np (Nat.le_refl _)
theorem zIni_snd {st : Nat → Nat → Nat} {fs sn : Nat → Nat} {np n to : Nat} : zSnd st fs sn np n to (zIni n to) := by
  intro k hk
  unfold zIni
  rw [if_pos hk]
  by_cases q : k = to
  · rw [if_pos q]
    exact Or.inr ⟨[], q, rfl⟩
  · rw [if_neg q]
    exact Or.inl (Nat.le_refl _)
theorem zHalf_le {st : Nat → Nat → Nat} {fs sn b : Nat → Nat} {p side j : Nat} : zHalf st fs sn b p side j ≤ b j := by
  unfold zHalf va_up
  split
  · rename_i q
    rw [q]
    exact Nat.min_le_left _ _
  · exact Nat.le_refl _
theorem zRnd_le {st : Nat → Nat → Nat} {fs sn b : Nat → Nat} {j : Nat} : ∀ p, zRnd st fs sn b p j ≤ b j
  | 0 => Nat.le_refl _
  | p + 1 => Nat.le_trans zHalf_le (Nat.le_trans zHalf_le (zRnd_le p))
theorem zHalf_rel {st : Nat → Nat → Nat} {fs sn b c : Nat → Nat} {p side : Nat} (h : ∀ j, b j ≤ c j) : zHalf st fs sn b p side (zEnd fs sn p side) ≤ st p side + c (zEnd fs sn p (1 - side)) := by
  unfold zHalf va_up
  rw [if_pos rfl]
  exact Nat.le_trans (Nat.min_le_right _ _) (Nat.add_le_add_left (h _) _)
theorem zRnd_rel {st : Nat → Nat → Nat} {fs sn b : Nat → Nat} {p side : Nat} (hs : side < 2) : ∀ k, p < k → zRnd st fs sn b k (zEnd fs sn p side) ≤ st p side + b (zEnd fs sn p (1 - side))
  | 0, hk => absurd hk (Nat.not_lt_zero _)
  | k + 1, hk => by
    rcases Nat.lt_succ_iff_lt_or_eq.mp hk with q | q
    · exact Nat.le_trans zHalf_le (Nat.le_trans zHalf_le (zRnd_rel hs k q))
    · subst q
      rcases (show side = 0 ∨ side = 1 by omega) with e | e
      · subst e
        exact Nat.le_trans zHalf_le (zHalf_rel (fun j => zRnd_le p))
      · subst e
        exact zHalf_rel (fun j => Nat.le_trans zHalf_le (zRnd_le p))
theorem zItr_cmp {st : Nat → Nat → Nat} {fs sn : Nat → Nat} {np to : Nat} {b : Nat → Nat} (hb : b to = 0) : ∀ (k : Nat) (w : List (Nat × Nat)) (j : Nat), gW (zE st fs sn np) j w to → w.length ≤ k → zItr st fs sn np b k j ≤ zG w
  | 0, w, j, hw, hl => by
    have hz : w = [] := List.length_eq_zero_iff.mp (by omega)
    subst hz
    have hw : j = to := hw
    subst hw
    show b j ≤ _
    omega
  | k + 1, [], j, hw, hl => by
    have hw : j = to := hw
    subst hw
    have h1 : zRnd st fs sn (zItr st fs sn np b k) np j ≤ zItr st fs sn np b k j := zRnd_le np
    have h2 := zItr_cmp (st := st) (fs := fs) (sn := sn) (np := np) hb k [] j rfl (Nat.zero_le _)
    exact Nat.le_trans h1 h2
  | k + 1, q :: w, j, hw, hl => by
    have ih := zItr_cmp hb k w q.1 hw.2 (Nat.le_of_succ_le_succ hl)
    obtain ⟨p, side, hp, hs, e1, e2, e3, -⟩ := hw.1
    have h1 := zRnd_rel (st := st) (fs := fs) (sn := sn) (b := zItr st fs sn np b k) (p := p) hs np hp
    rw [e1, e2, e3] at h1
    show zRnd st fs sn (zItr st fs sn np b k) np j ≤ _
    refine Nat.le_trans h1 ?_
    simp only [zG, gL, List.length_cons] at ih ⊢
    omega
theorem zE_lt {st : Nat → Nat → Nat} {fs sn : Nat → Nat} {np n : Nat} (ho : zOk st fs sn np n) : ∀ a b x, zE st fs sn np a b x → a < n ∧ b < n := fun a b x h => by
  obtain ⟨p, side, hp, hs, e1, e2, -⟩ := h
  rw [← e1, ← e2]
  exact ⟨ho.2 p side hp, ho.2 p (1 - side) hp⟩
theorem zE_x {st : Nat → Nat → Nat} {fs sn : Nat → Nat} {np n : Nat} (ho : zOk st fs sn np n) : ∀ a b x, zE st fs sn np a b x → x < 100 := fun a b x h => by
  obtain ⟨p, side, hp, hs, -, -, e3, e4⟩ := h
  rcases ho.1 p side hp hs with h1 | ⟨y, hy, h1⟩
  · omega
  · omega
/-- from a hut k to one: the least of 100 times the length and the passes, or 99999999 -/
theorem zFar_best {st : Nat → Nat → Nat} {fs sn : Nat → Nat} {np n to : Nat} (ho : zOk st fs sn np n) (hn : n ≤ 10) (hto : to < n) {k : Nat} (hk : k < n) :
    (zFar st fs sn np n to k = 99999999 ∧ ∀ w, ¬ gW (zE st fs sn np) k w to) ∨ ∃ w, gW (zE st fs sn np) k w to ∧ (k :: gV w).Nodup ∧ w.length + 1 ≤ n ∧ gL w ≤ 99 * w.length ∧ zFar st fs sn np n to k = zG w ∧ ∀ w2, gW (zE st fs sn np) k w2 to → zG w ≤ zG w2 := by
  have hE := zE_lt ho
  have hx := zE_x ho
  have hini : zIni n to to = 0 := by unfold zIni; rw [if_pos hto, if_pos rfl]
  have hfar : zFar st fs sn np n to k = min (zItr st fs sn np (zIni n to) n k) 99999999 := by unfold zFar zClamp; rw [if_pos hk]
  have key : ∀ w, gW (zE st fs sn np) k w to → ∃ w2, gW (zE st fs sn np) k w2 to ∧ (k :: gV w2).Nodup ∧ zItr st fs sn np (zIni n to) n k ≤ zG w2 ∧ w2.length + 1 ≤ n ∧ gL w2 ≤ 99 * w2.length ∧ (w2 = w ∨ zG w2 < zG w) := by
    intro w hw
    obtain ⟨w2, k1, k2, k3, k4, k5⟩ := gW_simple w.length w k to (Nat.le_refl _) hw
    have k6 := gW_len hE hk k1 k2
    refine ⟨w2, k1, k2, zItr_cmp hini n w2 k k1 (by omega), k6, gL_le hx k1, ?_⟩
    rcases k5 with k5 | k5
    · exact Or.inl k5
    · right
      unfold zG
      omega
  rcases zItr_snd ho (zIni_snd (to := to)) n k hk with h1 | ⟨w, hw, ew⟩
  · left
    refine ⟨by rw [hfar]; omega, fun w hw => ?_⟩
    obtain ⟨w2, k1, k2, k3, k4, k5, -⟩ := key w hw
    unfold zG at k3
    omega
  · right
    obtain ⟨w2, k1, k2, k3, k4, k5, k6⟩ := key w hw
    rcases k6 with k6 | k6
    · subst k6
      refine ⟨w2, hw, k2, k4, k5, by rw [hfar, ew]; unfold zG; omega, fun w3 hw3 => ?_⟩
      obtain ⟨w4, l1, l2, l3, -, -, l4⟩ := key w3 hw3
      rcases l4 with l4 | l4
      · subst l4; omega
      · omega
    · omega
/-- class and hand know the same way -/
theorem zFar_tie {st : Nat → Nat → Nat} {fs sn : Nat → Nat} {np n h to v : Nat} (ho : zOk st fs sn np n) (hn : n ≤ 10) (hh : h < n) (hto : to < n) (hv : gBest (zE st fs sn np) n h to v) :
    (v = 1073741824 → zFar st fs sn np n to h = 99999999) ∧ (v ≠ 1073741824 → zFar st fs sn np n to h < 99999999 ∧ zFar st fs sn np n to h / 100 = v / 256 ∧ zFar st fs sn np n to h % 100 = v % 256 / 16) := by
  refine ⟨fun e => ?_, fun e => ?_⟩
  · rcases hv with ⟨-, h2⟩ | ⟨w, a1, a2, a3, a4, a5, a6, a7⟩
    · rcases zFar_best ho hn hto hh with ⟨h3, -⟩ | ⟨w, h3, -⟩
      · exact h3
      · exact absurd h3 (h2 w)
    · unfold gC at a6
      omega
  · obtain ⟨w, b1, b2, b3, b4, b5, b6, b7, b8, b9⟩ := gBest_read hn hv e
    rcases zFar_best ho hn hto hh with ⟨-, h3⟩ | ⟨w2, c1, c2, c3, c4, c5, c6⟩
    · exact absurd b1 (h3 w)
    · have h1 := b9 w2 c1
      have h2 := c6 w b1
      have h3 := gF_lt (zE_lt ho) hh c1
      rw [c5, b6, b7]
      unfold gC at h1
      unfold zG at h2 ⊢
      omega
theorem zBst_ok {st : Nat → Nat → Nat} {fs sn far : Nat → Nat} {h f N9 : Nat} (hmin : ∀ p side, p < N9 → side < 2 → zEnd fs sn p side = h → st p side + far (zEnd fs sn p (1 - side)) = far h → f ≤ zEnd fs sn p (1 - side)) : ∀ np, np ≤ N9 → (∀ b, zBst st fs sn far h np = some b → f ≤ b) ∧ ((∃ p side, p < np ∧ side < 2 ∧ zEnd fs sn p side = h ∧ st p side + far f = far h ∧ zEnd fs sn p (1 - side) = f) → zBst st fs sn far h np = some f)
  | 0, _ => ⟨fun b q => (by cases q), fun ⟨p, side, q, _⟩ => absurd q (Nat.not_lt_zero _)⟩
  | np + 1, hnp => by
    obtain ⟨i1, i2⟩ := zBst_ok hmin np (by omega)
    have one : ∀ (o : Option Nat) (side : Nat), side < 2 → (∀ b, o = some b → f ≤ b) → (∀ b, zBst1 st fs sn far h o np side = some b → f ≤ b) ∧ (o = some f → zBst1 st fs sn far h o np side = some f) ∧ (zEnd fs sn np side = h → st np side + far f = far h → zEnd fs sn np (1 - side) = f → zBst1 st fs sn far h o np side = some f) := by
      intro o side hs ho
      unfold zBst1
      refine ⟨fun b q => ?_, fun q => ?_, fun q1 q2 q3 => ?_⟩
      · split at q
        · rename_i c
          cases q
          exact hmin np side (by omega) hs c.1 c.2.1
        · exact ho b q
      · rw [if_neg]
        · exact q
        · rintro ⟨c1, c2, c3⟩
          have := c3 f q
          have := hmin np side (by omega) hs c1 c2
          omega
      · by_cases c : ∀ b, o = some b → zEnd fs sn np (1 - side) < b
        · rw [if_pos ⟨q1, by rw [q3]; exact q2, c⟩, q3]
        · rw [if_neg (fun z => c z.2.2)]
          cases o with
          | none => exact absurd (fun b q => by cases q) c
          | some b =>
            have h1 := ho b rfl
            have h2 : ¬ f < b := fun z => c (fun b2 q => by cases q; rw [q3]; exact z)
            have : b = f := by omega
            rw [this]
    obtain ⟨a1, a2, a3⟩ := one (zBst st fs sn far h np) 0 (by decide) i1
    obtain ⟨b1, b2, b3⟩ := one (zBst1 st fs sn far h (zBst st fs sn far h np) np 0) 1 (by decide) a1
    refine ⟨b1, fun ⟨p, side, q1, q2, q3, q4, q5⟩ => ?_⟩
    show zBst1 st fs sn far h (zBst1 st fs sn far h (zBst st fs sn far h np) np 0) np 1 = some f
    rcases Nat.lt_succ_iff_lt_or_eq.mp q1 with z | z
    · exact b2 (a2 (i2 ⟨p, side, z, q2, q3, q4, q5⟩))
    · subst z
      rcases (show side = 0 ∨ side = 1 by omega) with e | e
      · subst e
        exact b2 (a3 q3 q4 q5)
      · subst e
        exact b3 q3 q4 q5
/-- the next hut by hand is the class's first step -/
theorem zFst_tie {st : Nat → Nat → Nat} {fs sn : Nat → Nat} {np n h to v : Nat} (ho : zOk st fs sn np n) (hn : n ≤ 10) (hh : h < n) (hto : to < n) (hv : gBest (zE st fs sn np) n h to v) :
    zFst st fs sn np n h to = if v = 1073741824 then none else some (v % 16) := by
  obtain ⟨t1, t2⟩ := zFar_tie ho hn hh hto hv
  by_cases e : v = 1073741824
  · rw [if_pos e]
    unfold zFst
    rw [if_neg, if_pos (by rw [t1 e]; exact Nat.le_refl _)]
    intro z
    rcases hv with ⟨-, h2⟩ | ⟨w, a1, a2, a3, a4, a5, a6, a7⟩
    · exact h2 [] z
    · unfold gC at a6
      omega
  · rw [if_neg e]
    obtain ⟨w, b1, b2, b3, b4, b5, b6, b7, b8, b9⟩ := gBest_read hn hv e
    by_cases z : h = to
    · unfold zFst
      rw [if_pos z]
      subst z
      have h1 := b9 [] rfl
      have h2 : w = [] := by
        cases w with
        | nil => rfl
        | cons q w =>
          exfalso
          simp only [gC, gL, gF, List.length_cons, List.length_nil] at h1
          omega
      subst h2
      rw [b8]
      rfl
    · obtain ⟨t3, t4, t5⟩ := t2 e
      unfold zFst
      rw [if_neg z, if_neg (by omega)]
      cases w with
      | nil => exact absurd b1 z
      | cons q w =>
        have hq : q.1 < n := (zE_lt ho _ _ _ b1.1).2
        have hfar : zFar st fs sn np n to h = zG (q :: w) := by
          unfold zG
          omega
        have hmin : ∀ p side, p < np → side < 2 → zEnd fs sn p side = h → st p side + zFar st fs sn np n to (zEnd fs sn p (1 - side)) = zFar st fs sn np n to h → q.1 ≤ zEnd fs sn p (1 - side) := by
          intro p side hp hs e1 e2
          have hnx := ho.2 p (1 - side) hp
          rcases ho.1 p side hp hs with h1 | ⟨x, hx, h1⟩
          · omega
          · rcases zFar_best ho hn hto hnx with ⟨h3, -⟩ | ⟨w2, c1, c2, c3, c4, c5, c6⟩
            · omega
            · have hw3 : gW (zE st fs sn np) h ((zEnd fs sn p (1 - side), x) :: w2) to := ⟨⟨p, side, hp, hs, e1, rfl, h1, by omega⟩, c1⟩
              have h4 := b9 _ hw3
              rw [c5, hfar, h1] at e2
              simp only [zG, gL, List.length_cons] at e2
              simp only [gC, gL, gF, List.length_cons] at h4
              simp only [List.length_cons] at b3
              omega
        have hcand : ∃ p side, p < np ∧ side < 2 ∧ zEnd fs sn p side = h ∧ st p side + zFar st fs sn np n to q.1 = zFar st fs sn np n to h ∧ zEnd fs sn p (1 - side) = q.1 := by
          obtain ⟨p, side, hp, hs, e1, e2, e3, e4⟩ := b1.1
          refine ⟨p, side, hp, hs, e1, ?_, e2⟩
          rcases zFar_best ho hn hto hq with ⟨-, h3⟩ | ⟨w2, c1, c2, c3, c4, c5, c6⟩
          · exact absurd b1.2 (h3 w)
          · have h1 := c6 w b1.2
            rcases zFar_best ho hn hto hh with ⟨-, h3⟩ | ⟨w3, d1, d2, d3, d4, d5, d6⟩
            · exact absurd b1 (h3 _)
            · have h2 := d6 ((q.1, q.2) :: w2) ⟨b1.1, c1⟩
              rw [← d5, hfar] at h2
              rw [c5, hfar, e3]
              simp only [zG, gL, List.length_cons] at h1 h2 ⊢
              omega
        rw [(zBst_ok hmin np (Nat.le_refl _)).2 hcand, b8]
        rfl
/-- letters by hand are the class's -/
theorem zLet_tie {nx : Nat → Nat → Option Nat} {wy : Nat → Nat → Nat} {st : Nat → Nat → Bool} {to n9 : Nat} (hto : to < n9) (hx : ∀ a, a < n9 → nx a to = if wy a to = 1073741824 then none else some (wy a to % 16)) (hl : ∀ a, a < n9 → wy a to ≠ 1073741824 → wy a to % 16 < n9) : ∀ n k a, a < n9 → zLet nx st to n k a = mLet wy st to n k a
  | 0, k, a, ha => rfl
  | n + 1, k, a, ha => by
    unfold zLet mLet
    rw [hx a ha]
    by_cases e : a = to
    · rw [if_pos e, if_pos e]
    · rw [if_neg e, if_neg e]
      by_cases q : wy a to = 1073741824
      · rw [if_pos q, if_pos (Or.inl q)]
      · rw [if_neg q]
        dsimp only
        by_cases q2 : st a (wy a to % 16) = true
        · rw [if_pos q2, if_neg (by rw [q2]; simp [q]), zLet_tie hto hx hl n (k + 1) _ (hl a ha q)]
        · rw [if_neg q2, if_pos (Or.inr (by simpa using q2))]
