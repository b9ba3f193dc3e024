/-! WALKS: a list of steps, each with the hut where it leads and its length; the least of them. -/
def gW (E : Nat → Nat → Nat → Prop) : Nat → List (Nat × Nat) → Nat → Prop
  | a, [], b => a = b
  | a, q :: w, b => E a q.1 q.2 ∧ gW E q.1 w b
def gL : List (Nat × Nat) → Nat
  | [] => 0
  | q :: w => q.2 + gL w
def gF (a : Nat) : List (Nat × Nat) → Nat
  | [] => a
  | q :: _ => q.1
/-- the class's number of a walk: its length, its passes, its first step -/
def gC (a : Nat) (w : List (Nat × Nat)) : Nat := gL w * 256 + w.length * 16 + gF a w
def gV (w : List (Nat × Nat)) : List Nat := w.map Prod.fst
theorem gW_nil {E : Nat → Nat → Nat → Prop} {a b : Nat} : gW E a [] b ↔ a = b := Iff.rfl
theorem gW_cons {E : Nat → Nat → Nat → Prop} {a b : Nat} {q : Nat × Nat} {w : List (Nat × Nat)} : gW E a (q :: w) b ↔ E a q.1 q.2 ∧ gW E q.1 w b := Iff.rfl
theorem gW_snoc {E : Nat → Nat → Nat → Prop} {v x : Nat} : ∀ {w : List (Nat × Nat)} {a b : Nat}, gW E a w b → E b v x → gW E a (w ++ [(v, x)]) v
  | [], a, b, h, he => by
    have h : a = b := h
    subst h
    exact ⟨he, rfl⟩
  | q :: w, a, b, h, he => ⟨h.1, gW_snoc h.2 he⟩
theorem gW_trans {E : Nat → Nat → Nat → Prop} {w2 : List (Nat × Nat)} {d : Nat} : ∀ {w : List (Nat × Nat)} {a b : Nat}, gW E a w b → gW E b w2 d → gW E a (w ++ w2) d
  | [], a, b, h, he => by
    have h : a = b := h
    subst h
    exact he
  | q :: w, a, b, h, he => ⟨h.1, gW_trans h.2 he⟩
theorem gL_app (w w2 : List (Nat × Nat)) : gL (w ++ w2) = gL w + gL w2 := by
  induction w with
  | nil => simp [gL]
  | cons q w ih => simp only [List.cons_append, gL, ih]; omega
theorem gF_app {a : Nat} {w w2 : List (Nat × Nat)} (h : w ≠ []) : gF a (w ++ w2) = gF a w := by
  cases w with
  | nil => exact absurd rfl h
  | cons q w => rfl
theorem gW_last {E : Nat → Nat → Nat → Prop} : ∀ {w : List (Nat × Nat)} {a b : Nat}, gW E a w b → (w = [] ∧ a = b) ∨ ∃ (w2 : List (Nat × Nat)) (m x : Nat), w = w2 ++ [(b, x)] ∧ gW E a w2 m ∧ E m b x
  | [], a, b, h => Or.inl ⟨rfl, h⟩
  | q :: w, a, b, h => by
    obtain ⟨q1, q2⟩ := q
    rcases gW_last h.2 with ⟨h1, h2⟩ | ⟨w2, m, x, h1, h2, h3⟩
    · subst h1
      have h2 : q1 = b := h2
      subst h2
      exact Or.inr ⟨[], a, q2, rfl, rfl, h.1⟩
    · subst h1
      exact Or.inr ⟨(q1, q2) :: w2, m, x, rfl, ⟨h.1, h2⟩, h3⟩
theorem gW_cut {E : Nat → Nat → Nat → Prop} {d : Nat} : ∀ {w : List (Nat × Nat)} {a b : Nat}, gW E a w b → d ∈ gV w → ∃ w2, gW E d w2 b ∧ w2.length < w.length ∧ gL w2 ≤ gL w ∧ ∀ z, z ∈ gV w2 → z ∈ gV w
  | [], a, b, h, hd => by simp [gV] at hd
  | q :: w, a, b, h, hd => by
    have hd : d ∈ q.1 :: gV w := hd
    rcases List.mem_cons.mp hd with h1 | h1
    · subst h1
      exact ⟨w, h.2, Nat.lt_succ_self _, Nat.le_add_left _ _, fun z hz => List.mem_cons_of_mem _ hz⟩
    · obtain ⟨w2, h2, h3, h4, h5⟩ := gW_cut h.2 h1
      exact ⟨w2, h2, Nat.lt_succ_of_lt h3, Nat.le_trans h4 (Nat.le_add_left _ _), fun z hz => List.mem_cons_of_mem _ (h5 z hz)⟩
/-- no hut twice -/
theorem gW_simple {E : Nat → Nat → Nat → Prop} : ∀ (n : Nat) (w : List (Nat × Nat)) (a b : Nat), w.length ≤ n → gW E a w b → ∃ w2, gW E a w2 b ∧ (a :: gV w2).Nodup ∧ gL w2 ≤ gL w ∧ (∀ z, z ∈ gV w2 → z ∈ gV w) ∧ (w2 = w ∨ w2.length < w.length)
  | 0, [], a, b, _, h => ⟨[], h, by simp [gV], Nat.le_refl _, fun z hz => hz, Or.inl rfl⟩
  | 0, q :: w, a, b, hn, h => absurd hn (by simp)
  | n + 1, [], a, b, _, h => ⟨[], h, by simp [gV], Nat.le_refl _, fun z hz => hz, Or.inl rfl⟩
  | n + 1, q :: w, a, b, hn, h => by
    have hn2 : w.length ≤ n := Nat.le_of_succ_le_succ hn
    by_cases ha : a ∈ gV (q :: w)
    · obtain ⟨w3, h1, h2, h3, h4⟩ := gW_cut h ha
      obtain ⟨w2, k1, k2, k3, k4, k5⟩ := gW_simple n w3 a b (by simp at h2; omega) h1
      refine ⟨w2, k1, k2, Nat.le_trans k3 h3, fun z hz => h4 z (k4 z hz), Or.inr ?_⟩
      rcases k5 with k5 | k5
      · rw [k5]; exact h2
      · omega
    · obtain ⟨w2, k1, k2, k3, k4, k5⟩ := gW_simple n w q.1 b hn2 h.2
      have hs : ∀ z, z ∈ q.1 :: gV w2 → z ∈ q.1 :: gV w := fun z hz => by
        rcases List.mem_cons.mp hz with h1 | h1
        · exact List.mem_cons.mpr (Or.inl h1)
        · exact List.mem_cons_of_mem _ (k4 z h1)
      refine ⟨q :: w2, ⟨h.1, k1⟩, List.nodup_cons.mpr ⟨fun z => ha (hs a z), k2⟩, Nat.add_le_add_left k3 _, fun z hz => hs z hz, ?_⟩
      rcases k5 with k5 | k5
      · left; rw [k5]
      · right; simp; exact k5
theorem gN_le : ∀ (n : Nat) (l : List Nat), l.Nodup → (∀ z, z ∈ l → z < n) → l.length ≤ n
  | 0, [], _, _ => Nat.le_refl _
  | 0, z :: l, _, h => absurd (h z List.mem_cons_self) (Nat.not_lt_zero _)
  | n + 1, l, hd, h => by
    by_cases hm : n ∈ l
    · have h1 := gN_le n (l.erase n) (hd.erase n) (fun z hz => by
        have h2 := (List.Nodup.mem_erase_iff hd).mp hz
        have h3 := h z h2.2
        have h4 := h2.1
        omega)
      rw [List.length_erase_of_mem hm] at h1
      omega
    · have h1 := gN_le n l hd (fun z hz => by
        have h3 := h z hz
        have h4 : z ≠ n := fun e => hm (e ▸ hz)
        omega)
      omega
theorem gV_lt {E : Nat → Nat → Nat → Prop} {N : Nat} (hE : ∀ a b x, E a b x → a < N ∧ b < N) : ∀ {w : List (Nat × Nat)} {a b : Nat}, gW E a w b → ∀ z, z ∈ gV w → z < N
  | [], a, b, h, z, hz => by simp [gV] at hz
  | q :: w, a, b, h, z, hz => by
    have hz : z ∈ q.1 :: gV w := hz
    rcases List.mem_cons.mp hz with h1 | h1
    · rw [h1]; exact (hE _ _ _ h.1).2
    · exact gV_lt hE h.2 z h1
theorem gW_len {E : Nat → Nat → Nat → Prop} {N : Nat} (hE : ∀ a b x, E a b x → a < N ∧ b < N) {w : List (Nat × Nat)} {a b : Nat} (ha : a < N) (h : gW E a w b) (hd : (a :: gV w).Nodup) : w.length + 1 ≤ N := by
  have h1 := gN_le N (a :: gV w) hd (fun z hz => by
    rcases List.mem_cons.mp hz with h1 | h1
    · rw [h1]; exact ha
    · exact gV_lt hE h z h1)
  simpa [gV] using h1
theorem gL_le {E : Nat → Nat → Nat → Prop} (hx : ∀ a b x, E a b x → x < 100) : ∀ {w : List (Nat × Nat)} {a b : Nat}, gW E a w b → gL w ≤ 99 * w.length
  | [], a, b, h => Nat.le_refl _
  | q :: w, a, b, h => by
    have h1 := gL_le hx h.2
    have h2 := hx _ _ _ h.1
    show q.2 + gL w ≤ 99 * (w.length + 1)
    omega
theorem gL_ge {E : Nat → Nat → Nat → Prop} (hx : ∀ a b x, E a b x → 0 < x) : ∀ {w : List (Nat × Nat)} {a b : Nat}, gW E a w b → w.length ≤ gL w
  | [], a, b, h => Nat.le_refl _
  | q :: w, a, b, h => by
    have h1 := gL_ge hx h.2
    have h2 := hx _ _ _ h.1
    show w.length + 1 ≤ q.2 + gL w
    omega
theorem gF_lt {E : Nat → Nat → Nat → Prop} {N : Nat} (hE : ∀ a b x, E a b x → a < N ∧ b < N) {w : List (Nat × Nat)} {a b : Nat} (ha : a < N) (h : gW E a w b) : gF a w < N := by
  cases w with
  | nil => exact ha
  | cons q w => exact (hE _ _ _ h.1).2
theorem gW_iff {E E2 : Nat → Nat → Nat → Prop} (h : ∀ a b x, E a b x ↔ E2 a b x) : ∀ {w : List (Nat × Nat)} {a b : Nat}, gW E a w b ↔ gW E2 a w b
  | [], a, b => Iff.rfl
  | q :: w, a, b => by rw [gW_cons, gW_cons, h, gW_iff h]
/-! the class's search -/
def gE (c : mC) (a b x : Nat) : Prop := ∃ i, i < c.1 ∧ c.2.1 i = a ∧ c.2.2.1 i = b ∧ c.2.2.2 i = x
def gSnd (c : mC) (h : Nat) (b : Nat → Nat) : Prop := ∀ j, j < 10 → b j = 1073741824 ∨ ∃ w, gW (gE c) h w j ∧ b j = gC h w
theorem gStep_snd {h : Nat} {c : mC} {b : Nat → Nat} {i : Nat} (hb : mCb c) (hi : i < c.1) (e : b h = h) (hs : gSnd c h b) : gSnd c h (sStep h c.2.1 c.2.2.1 c.2.2.2 b i) := by
  intro j hj
  unfold sStep
  split
  · exact hs j hj
  · rename_i q1
    split
    · unfold va_up
      split
      · rename_i q3
        right
        subst q3
        obtain ⟨w, hw, ew⟩ := (hs _ (hb.1 i)).resolve_left q1
        have he : gE c (c.2.1 i) (c.2.2.1 i) (c.2.2.2 i) := ⟨i, hi, rfl, rfl, rfl⟩
        unfold sCand
        split
        · rename_i q4
          refine ⟨[(c.2.2.1 i, c.2.2.2 i)], ⟨by rw [← q4]; exact he, rfl⟩, ?_⟩
          rw [q4, e]
          simp only [gC, gL, gF, List.length_cons, List.length_nil]
          omega
        · rename_i q4
          refine ⟨w ++ [(c.2.2.1 i, c.2.2.2 i)], gW_snoc hw he, ?_⟩
          have hne : w ≠ [] := fun z => by
            rw [z] at hw
            exact q4 (Eq.symm hw)
          rw [ew]
          simp only [gC, gL_app, gF_app hne, gL, List.length_append, List.length_cons, List.length_nil]
          omega
      · exact hs j hj
    · exact hs j hj
def gFin (h : Nat) (b : Nat → Nat) : Prop := sFine b ∧ (∀ j, j < 10 → h ≤ b j) ∧ b h = h
theorem gPass_snd {h : Nat} {c : mC} {b : Nat → Nat} (hb : mCb c) (hh : h < 10) (hf : gFin h b) (hs : gSnd c h b) : ∀ i, i ≤ c.1 → gSnd c h (sPass h c.2.1 c.2.2.1 c.2.2.2 b i)
  | 0, _ => hs
  | i + 1, hi => gStep_snd hb (by omega) (sPass_fine hb hh hf.2.2 hf.2.1 hf.1 i).2.2 (gPass_snd hb hh hf hs i (by omega))
theorem gPass_fin {h : Nat} {c : mC} {b : Nat → Nat} (hb : mCb c) (hh : h < 10) (hf : gFin h b) (i : Nat) : gFin h (sPass h c.2.1 c.2.2.1 c.2.2.2 b i) := sPass_fine hb hh hf.2.2 hf.2.1 hf.1 i
theorem gIter_fin {h : Nat} {c : mC} {b : Nat → Nat} (hb : mCb c) (hh : h < 10) (hf : gFin h b) (i : Nat) : gFin h (sIter h c.2.1 c.2.2.1 c.2.2.2 c.1 b i) := sIter_fine hb hh hf.2.2 hf.2.1 hf.1 i
theorem gIter_snd {h : Nat} {c : mC} {b : Nat → Nat} (hb : mCb c) (hh : h < 10) (hf : gFin h b) (hs : gSnd c h b) : ∀ i, gSnd c h (sIter h c.2.1 c.2.2.1 c.2.2.2 c.1 b i)
  | 0 => hs
  | i + 1 => gPass_snd hb hh (gIter_fin hb hh hf i) (gIter_snd hb hh hf hs i) c.1 (Nat.le_refl _)
theorem gInit_snd {h : Nat} (c : mC) (b : Nat → Nat) : gSnd c h (sInit h b) := by
  intro j hj
  unfold sInit va_up
  split
  · rename_i q
    subst q
    exact Or.inr ⟨[], rfl, by simp [gC, gL, gF]⟩
  · left
    unfold sFill
    rw [if_pos hj]
theorem gStep_le {h : Nat} {fr to ln b : Nat → Nat} {i j : Nat} : sStep h fr to ln b i j ≤ b j := by
  unfold sStep
  split
  · exact Nat.le_refl _
  · split
    · rename_i q
      unfold va_up
      split
      · rename_i q2
        rw [q2]
        exact Nat.le_of_lt q
      · exact Nat.le_refl _
    · exact Nat.le_refl _
theorem gPass_le {h : Nat} {fr to ln b : Nat → Nat} {j : Nat} : ∀ i, sPass h fr to ln b i j ≤ b j
  | 0 => Nat.le_refl _
  | i + 1 => Nat.le_trans gStep_le (gPass_le i)
theorem gCand_mono {h f t x w w2 : Nat} (q : w ≤ w2) : sCand h f t x w ≤ sCand h f t x w2 := by
  unfold sCand
  split
  · omega
  · omega
theorem gPass_relax {h : Nat} {fr to ln b : Nat → Nat} {i : Nat} (hn : b (fr i) < 1073741824) : ∀ k, i < k → sPass h fr to ln b k (to i) ≤ sCand h (fr i) (to i) (ln i) (b (fr i))
  | 0, hk => absurd hk (Nat.not_lt_zero _)
  | k + 1, hk => by
    rcases Nat.lt_succ_iff_lt_or_eq.mp hk with q | q
    · exact Nat.le_trans gStep_le (gPass_relax hn k q)
    · subst q
      show sStep h fr to ln (sPass h fr to ln b i) i (to i) ≤ _
      have h1 : sPass h fr to ln b i (fr i) ≤ b (fr i) := gPass_le i
      have h2 := gCand_mono (h := h) (f := fr i) (t := to i) (x := ln i) h1
      unfold sStep
      rw [if_neg (by omega)]
      split
      · unfold va_up
        rw [if_pos rfl]
        exact h2
      · omega
theorem gIter_cmp {h : Nat} {c : mC} {b : Nat → Nat} (hb : mCb c) (hh : h < 10) (hf : gFin h b) : ∀ k, k ≤ 1000 → ∀ (w : List (Nat × Nat)) (j : Nat), gW (gE c) h w j → w.length ≤ k → sIter h c.2.1 c.2.2.1 c.2.2.2 c.1 b k j ≤ gC h w
  | 0, _, w, j, hw, hl => by
    have hz : w = [] := List.length_eq_zero_iff.mp (by omega)
    subst hz
    have hw : h = j := hw
    subst hw
    have h1 := hf.2.2
    simp only [gC, gL, gF, List.length_nil]
    show b h ≤ _
    omega
  | k + 1, hk, w, j, hw, hl => by
    have hf2 := gIter_fin hb hh hf k
    have ih := gIter_cmp hb hh hf k (by omega)
    rcases gW_last hw with ⟨h1, h2⟩ | ⟨w2, m, x, h1, h2, h3⟩
    · subst h1
      subst h2
      have h1 := (gIter_fin hb hh hf (k + 1)).2.2
      rw [h1]
      simp [gC, gL, gF]
    · subst h1
      have hl2 : w2.length ≤ k := by simp at hl; omega
      have h4 := ih w2 m h2 hl2
      have h5 : gL w2 ≤ 99 * w2.length := gL_le (E := gE c) (fun a b x hx => by obtain ⟨i, -, -, -, hi⟩ := hx; rw [← hi]; exact hb.2.2 i) h2
      have h6 : gF h w2 < 10 := gF_lt (E := gE c) (N := 10) (fun a b x hx => by obtain ⟨i, -, h1, h2, -⟩ := hx; rw [← h1, ← h2]; exact ⟨hb.1 i, hb.2.1 i⟩) hh h2
      obtain ⟨i, hi, e1, e2, e3⟩ := h3
      have h7 : gC h w2 < 1073741824 := by unfold gC; omega
      have h8 := gPass_relax (h := h) (fr := c.2.1) (to := c.2.2.1) (ln := c.2.2.2) (b := sIter h c.2.1 c.2.2.1 c.2.2.2 c.1 b k) (i := i) (by rw [e1]; omega) c.1 hi
      rw [e1, e2, e3] at h8
      refine Nat.le_trans h8 ?_
      have hj : j < 10 := by rw [← e2]; exact hb.2.1 i
      unfold sCand
      split
      · rename_i q
        subst q
        rw [hf2.2.2]
        simp only [gC, gL_app, gL, List.length_append, List.length_cons, List.length_nil]
        cases w2 with
        | nil => simp only [List.nil_append, gF, gL, List.length_nil]; omega
        | cons q w2 => simp only [List.length_cons]; omega
      · rename_i q
        have hne : w2 ≠ [] := fun z => by
          rw [z] at h2
          exact q (Eq.symm h2)
        simp only [gC, gL_app, gF_app hne, gL, List.length_append, List.length_cons, List.length_nil]
        unfold gC at h4
        omega
/-- the number of the best walk from h to j: least length, then fewest passes, then the smallest first step -/
def gBest (E : Nat → Nat → Nat → Prop) (N h j v : Nat) : Prop := (v = 1073741824 ∧ ∀ w, ¬ gW E h w j) ∨ ∃ w, gW E h w j ∧ (h :: gV w).Nodup ∧ w.length + 1 ≤ N ∧ gL w ≤ 99 * w.length ∧ gF h w < N ∧ v = gC h w ∧ ∀ w2, gW E h w2 j → gC h w ≤ gC h w2
theorem gRow_best {c : mC} {h N : Nat} (hb : mCb c) (hN : N ≤ 10) (hh : h < N) (hE : ∀ a b x, gE c a b x → a < N ∧ b < N) (b0 : Nat → Nat) {j : Nat} (hj : j < 10) : gBest (gE c) N h j (mRow h c b0 j) := by
  have hh10 : h < 10 := by omega
  have hf : gFin h (sInit h b0) := sInit_fine hh10 b0
  have hx : ∀ a b x, gE c a b x → x < 100 := fun a b x hx => by obtain ⟨i, -, -, -, hi⟩ := hx; rw [← hi]; exact hb.2.2 i
  have key : ∀ w, gW (gE c) h w j → ∃ w2, gW (gE c) h w2 j ∧ (h :: gV w2).Nodup ∧ mRow h c b0 j ≤ gC h w2 ∧ (w2 = w ∨ gC h w2 < gC h w) := by
    intro w hw
    obtain ⟨w2, k1, k2, k3, k4, k5⟩ := gW_simple w.length w h j (Nat.le_refl _) hw
    have k6 := gW_len hE hh k1 k2
    refine ⟨w2, k1, k2, gIter_cmp hb hh10 hf 10 (by decide) w2 j k1 (by omega), ?_⟩
    rcases k5 with k5 | k5
    · exact Or.inl k5
    · right
      have h1 := gF_lt hE hh k1
      have h2 := gF_lt hE hh hw
      unfold gC
      omega
  rcases gIter_snd hb hh10 hf (gInit_snd c b0) 10 j hj with h1 | ⟨w, hw, ew⟩
  · left
    refine ⟨h1, fun w hw => ?_⟩
    obtain ⟨w2, k1, k2, k3, -⟩ := key w hw
    have k6 := gW_len hE hh k1 k2
    have k7 := gL_le hx k1
    have k8 := gF_lt hE hh k1
    have h1 : mRow h c b0 j = 1073741824 := h1
    unfold gC at k3
    omega
  · right
    have ew : mRow h c b0 j = gC h w := ew
    obtain ⟨w2, k1, k2, k3, k4⟩ := key w hw
    rcases k4 with k4 | k4
    · subst k4
      refine ⟨w2, hw, k2, gW_len hE hh hw k2, gL_le hx hw, gF_lt hE hh hw, ew, fun w3 hw3 => ?_⟩
      obtain ⟨w4, l1, l2, l3, l4⟩ := key w3 hw3
      rcases l4 with l4 | l4
      · subst l4; omega
      · omega
    · omega
theorem gBest_uniq {E E2 : Nat → Nat → Nat → Prop} {N h j v v2 : Nat} (h1 : gBest E N h j v) (h2 : gBest E2 N h j v2) (he : ∀ w, gW E h w j ↔ gW E2 h w j) : v = v2 := by
  rcases h1 with ⟨a1, a2⟩ | ⟨w, a1, a2, a3, a4, a5, a6, a7⟩ <;> rcases h2 with ⟨b1, b2⟩ | ⟨w2, b1, b2, b3, b4, b5, b6, b7⟩
  · omega
  · exact absurd ((he w2).mpr b1) (a2 w2)
  · exact absurd ((he w).mp a1) (b2 w)
  · have h3 := a7 w2 ((he w2).mpr b1)
    have h4 := b7 w ((he w).mp a1)
    omega
/-- what is read off the number -/
theorem gBest_read {E : Nat → Nat → Nat → Prop} {N h j v : Nat} (hN : N ≤ 10) (h1 : gBest E N h j v) (hv : v ≠ 1073741824) : ∃ w, gW E h w j ∧ (h :: gV w).Nodup ∧ w.length + 1 ≤ N ∧ gL w ≤ 99 * w.length ∧ gF h w < N ∧ v / 256 = gL w ∧ v % 256 / 16 = w.length ∧ v % 16 = gF h w ∧ ∀ w2, gW E h w2 j → gC h w ≤ gC h w2 := by
  rcases h1 with ⟨a1, -⟩ | ⟨w, a1, a2, a3, a4, a5, a6, a7⟩
  · exact absurd a1 hv
  · refine ⟨w, a1, a2, a3, a4, a5, ?_, ?_, ?_, a7⟩ <;> (unfold gC at a6; omega)
theorem gBest_lt {E : Nat → Nat → Nat → Prop} {N h j v : Nat} (hN : N ≤ 10) (h1 : gBest E N h j v) (hw : ∃ w, gW E h w j) : v < 1073741824 := by
  rcases h1 with ⟨a1, a2⟩ | ⟨w, a1, a2, a3, a4, a5, a6, a7⟩
  · obtain ⟨w, hw⟩ := hw
    exact absurd hw (a2 w)
  · unfold gC at a6
    omega
