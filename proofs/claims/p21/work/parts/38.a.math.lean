/-! MORE OF THE POST BY HAND. -/
theorem zFar_le {st : Nat → Nat → Nat} {fs sn : Nat → Nat} {np n to k : Nat} (hk : k < n) : zFar st fs sn np n to k ≤ 99999999 := by
  unfold zFar zClamp
  rw [if_pos hk]
  exact Nat.min_le_right _ _
theorem zBst1_lt {st : Nat → Nat → Nat} {fs sn far : Nat → Nat} {h p sd n : Nat} {o : Option Nat} (he : zEnd fs sn p (1 - sd) < n) (ho : ∀ b, o = some b → b < n) : ∀ b, zBst1 st fs sn far h o p sd = some b → b < n := by
  intro b q
  unfold zBst1 at q
  split at q
  · cases q; exact he
  · exact ho b q
theorem zBs_s (st : Nat → Nat → Nat) (fs sn far : Nat → Nat) (h p : Nat) (o : Option Nat) (k : Nat) : zBs st fs sn far h p o (k + 1) = zBst1 st fs sn far h (zBs st fs sn far h p o k) p k := rfl
theorem zBst_s (st : Nat → Nat → Nat) (fs sn far : Nat → Nat) (h p : Nat) : zBst st fs sn far h (p + 1) = zBs st fs sn far h p (zBst st fs sn far h p) 2 := rfl
def zLong (g : Nat → Nat) (n v : Nat) : Nat → Nat := fun j => if j < n then g j else if j = n then v else 0
theorem zLong_ok (g : Nat → Nat) (n v : Nat) : va_up (mCopy g (fun _ => 0) n) n v = zLong g n v := by
  funext j
  unfold va_up mCopy zLong
  by_cases q : j = n
  · subst q; simp
  · simp [q]
theorem zNx_none {st : Nat → Nat → Nat} {fs sn : Nat → Nat} {np n h to : Nat} (hne : h ≠ to) (hf : 99999999 ≤ zFar st fs sn np n to h) : zFst st fs sn np n h to = none := by unfold zFst; rw [if_neg hne, if_pos hf]
theorem zNx_some {st : Nat → Nat → Nat} {fs sn : Nat → Nat} {np n h to : Nat} (hne : h ≠ to) (hf : zFar st fs sn np n to h < 99999999) : zFst st fs sn np n h to = zBst st fs sn (zFar st fs sn np n to) h np := by unfold zFst; rw [if_neg hne, if_neg (by omega)]
theorem zNx_self {st : Nat → Nat → Nat} {fs sn : Nat → Nat} {np n h to : Nat} (he : h = to) : zFst st fs sn np n h to = some h := by unfold zFst; rw [if_pos he]
