/-! ROWS THAT GROW: a hut more, a pass more. -/
theorem kRn_push {n : Nat} {r : Nat → Nat} : va_up (kRn n r) n (some (r n)) = kRn (n + 1) r := by
  funext j
  unfold va_up kRn
  by_cases q : j = n
  · subst q; simp
  · by_cases q2 : j < n
    · simp [q, q2, Nat.lt_succ_of_lt q2]
    · simp [q, q2, show ¬ j < n + 1 by omega]
theorem kRn_add {n y : Nat} {r : Nat → Nat} : va_up (kRn n r) n (some y) = kRn (n + 1) (va_up r n y) := by
  funext j
  unfold va_up kRn
  by_cases q : j = n
  · subst q; simp
  · by_cases q2 : j < n
    · simp [q, q2, Nat.lt_succ_of_lt q2]
    · simp [q, q2, show ¬ j < n + 1 by omega]
theorem kRn_0 (r : Nat → Nat) : kRn 0 r = fun _ => none := by funext j; simp [kRn]
def zMix (rr r2 : Nat → Nat → Nat) (n h k i : Nat) : Nat → Nat := fun j => if (i < h ∨ (i = h ∧ j < k)) ∧ j < n then rr i j else r2 i j
theorem zMix_0 (rr r2 : Nat → Nat → Nat) (n i : Nat) : zMix rr r2 n 0 0 i = r2 i := by funext j; unfold zMix; rw [if_neg (by omega)]
theorem zMix_n (rr r2 : Nat → Nat → Nat) (n h i : Nat) : zMix rr r2 n h n i = zMix rr r2 n (h + 1) 0 i := by
  funext j
  unfold zMix
  by_cases q : (i < h ∨ (i = h ∧ j < n)) ∧ j < n
  · rw [if_pos q, if_pos (by omega)]
  · rw [if_neg q, if_neg (by omega)]
theorem zMix_s {rr r2 : Nat → Nat → Nat} {n h k : Nat} (hk : k < n) : va_up (zMix rr r2 n h k h) k (rr h k) = zMix rr r2 n h (k + 1) h := by
  funext j
  unfold va_up zMix
  by_cases e : j = k
  · subst e; rw [if_pos rfl, if_pos (by omega)]
  · rw [if_neg e]
    by_cases q : (h < h ∨ (h = h ∧ j < k)) ∧ j < n
    · rw [if_pos q, if_pos (show (h < h ∨ (h = h ∧ j < k + 1)) ∧ j < n by omega)]
    · rw [if_neg q, if_neg (show ¬ ((h < h ∨ (h = h ∧ j < k + 1)) ∧ j < n) by omega)]
theorem zMix_o {rr r2 : Nat → Nat → Nat} {n h k i : Nat} (hi : i ≠ h) : zMix rr r2 n h (k + 1) i = zMix rr r2 n h k i := by
  funext j
  unfold zMix
  by_cases q : (i < h ∨ (i = h ∧ j < k)) ∧ j < n
  · rw [if_pos q, if_pos (by omega)]
  · rw [if_neg q, if_neg (by omega)]
theorem zRow.ext {G : kG} {L L' : List Nat} {f f' : Nat → va_E} {y mi : Nat} {o : Option mS} (h : zRow G L f y mi o) (hx : ∀ y, y ∈ L → y ∈ L' ∧ f' y = f y) : zRow G L' f' y mi o := by
  obtain ⟨h1, len, g, h2, h3⟩ := h
  exact ⟨(hx y h1).1, len, g, (hx y h1).2.trans h2, h3⟩
theorem zP_new {fs sn ln : Nat → Nat} {op : Nat → Bool} {np a b x : Nat} : va_up (va_up (va_up (va_up (fun _ => 0) 0 a) 1 b) 2 x) 3 1 = zP (va_up fs np a) (va_up sn np b) (va_up ln np x) (va_up op np true) np := by
  funext j
  unfold zP
  rw [va_up_self, va_up_self, va_up_self, va_up_self, if_pos rfl]
  unfold va_up
  by_cases q3 : j = 3
  · subst q3; rfl
  · by_cases q2 : j = 2
    · subst q2; rfl
    · by_cases q1 : j = 1
      · subst q1; rfl
      · by_cases q0 : j = 0
        · subst q0; rfl
        · simp [q0, q1, q2, q3]
/-- one more row in the row of rows: what was there is as it was -/
theorem zP_ne {fs sn ln : Nat → Nat} {op : Nat → Bool} {np a b x i : Nat} (h : i ≠ np) : zP (va_up fs np a) (va_up sn np b) (va_up ln np x) (va_up op np true) i = zP fs sn ln op i := by
  unfold zP
  rw [va_up_ne _ _ h, va_up_ne _ _ h, va_up_ne _ _ h, va_up_ne _ _ h]
theorem zMix_elim {P : Nat → Prop} {rr r2 : Nat → Nat → Nat} {n h k i j : Nat} (h1 : ((i < h ∨ (i = h ∧ j < k)) ∧ j < n) → P (rr i j)) (h2 : ¬ ((i < h ∨ (i = h ∧ j < k)) ∧ j < n) → P (r2 i j)) : P (zMix rr r2 n h k i j) := by
  unfold zMix
  by_cases q : (i < h ∨ (i = h ∧ j < k)) ∧ j < n
  · rw [if_pos q]; exact h1 q
  · rw [if_neg q]; exact h2 q
