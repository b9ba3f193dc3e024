/-! SUMS OVER ALL HUTS, AND ROWS OF ANSWERS. -/
theorem mSum_cat {F : Nat → Nat} {n : Nat} : ∀ k, mSum F (n + k) = mSum F n + mSum (fun b => F (n + b)) k
  | 0 => rfl
  | k + 1 => by
    rw [show n + (k + 1) = (n + k) + 1 by omega, mSum_succ, mSum_succ, mSum_cat k]
    omega
theorem mSum_ten {F : Nat → Nat} : ∀ n, mSum F (n * 10) = mSum (fun a => mSum (fun b => F (a * 10 + b)) 10) n
  | 0 => rfl
  | n + 1 => by
    show mSum F ((n + 1) * 10) = mSum (fun a => mSum (fun b => F (a * 10 + b)) 10) n + mSum (fun b => F (n * 10 + b)) 10
    rw [show (n + 1) * 10 = n * 10 + 10 by omega, mSum_cat, mSum_ten n]
theorem mSum_zero {F : Nat → Nat} : ∀ k, (∀ i, i < k → F i = 0) → mSum F k = 0
  | 0, _ => rfl
  | k + 1, h => by
    rw [mSum_succ, mSum_zero k (fun i hi => h i (by omega)), h k (Nat.lt_succ_self k)]
theorem mSum_none {F : Nat → Nat} {n : Nat} (k : Nat) (h : ∀ i, n ≤ i → i < n + k → F i = 0) : mSum F (n + k) = mSum F n := by
  rw [mSum_cat, mSum_zero k (fun i hi => h (n + i) (by omega) (by omega))]
  rfl
theorem mCnt_ex {P : Nat → Bool} {h : Nat} (hp : P h = true) : ∀ n, mCnt P n = mCnt (fun b => h != b && P b) n + (if h < n then 1 else 0)
  | 0 => by
    rw [if_neg (by omega)]
    rfl
  | n + 1 => by
    rw [mCnt_succ, mCnt_succ, mCnt_ex hp n]
    by_cases q : h = n
    · subst q
      rw [if_neg (by omega), if_pos (by omega), hp]
      simp
    · have e : (h != n && P n) = P n := by
        rw [bne_iff_ne.mpr q]
        rfl
      have e2 : (if h < n then 1 else 0) = (if h < n + 1 then 1 else 0) := by split <;> split <;> omega
      rw [e, ← e2]
      omega
section ZT
variable {ar fs sn ln : Nat → Nat} {op : Nat → Bool} {nn np mi : Nat} {SS : Nat → Option mS} {ww : Nat → Nat}
theorem zS_ages (hV : vInv ar fs sn ln nn np mi SS ww) : mSum (fun j => vAge mi (SS j)) 100 = mSum (fun a => mSum (fun b => vAge mi (SS (a * 10 + b))) nn) nn := by
  have hn := hV.1.2.2.2.2.1
  have h0 : ∀ a b, a < 10 → b < 10 → nn ≤ a ∨ nn ≤ b → vAge mi (SS (a * 10 + b)) = 0 := fun a b ha hb q => by
    rw [hV.none a b ha hb q]
    rfl
  have k10 : ∀ F : Nat → Nat, (∀ i, nn ≤ i → i < 10 → F i = 0) → mSum F 10 = mSum F nn := fun F hF => by
    have q := mSum_none (F := F) (n := nn) (10 - nn) (fun i h1 h2 => hF i h1 (by omega))
    rw [show nn + (10 - nn) = 10 by omega] at q
    exact q
  rw [show 100 = 10 * 10 from rfl, mSum_ten, k10 _ (fun a h1 h2 => mSum_zero 10 (fun b hb => h0 a b h2 hb (Or.inl h1)))]
  exact mSum_congr nn (fun a ha => k10 _ (fun b h1 h2 => h0 a b (by omega) h2 (Or.inr h1)))
theorem zS_age {o : Option mS} {len : Nat} {g : Nat → Nat} (h : zVal mi o len g) : vAge mi o = if 0 < len then g 1 else 0 := by
  by_cases q : 0 < len
  · obtain ⟨v, e1, e2, e3, e4⟩ := zVal_s h q
    rw [if_pos q, e4, e1]
    rfl
  · rw [if_neg q, zVal_n h (by omega)]
    rfl
theorem mPost_self {wy : Nat → Nat → Nat} {st : Nat → Nat → Bool} {a : Nat} : mPost wy st a a = some 0 := by
  unfold mPost mLet
  rw [if_pos rfl]
theorem zS_come {wy : Nat → Nat → Nat} {st : Nat → Nat → Bool} {h : Nat} (hh : h < nn) : mCnt (fun k => (mPost wy st h k).isSome) nn = mCnt (fun b => h != b && (mPost wy st h b).isSome) nn + 1 := by
  rw [mCnt_ex (P := fun k => (mPost wy st h k).isSome) (h := h) (by show (mPost wy st h h).isSome = true; rw [mPost_self]; rfl) nn, if_pos hh]
theorem zS_about {tk : Nat → Nat} {q what : Nat} (h : what < 4) : mAbout fs sn ln op tk q what = kI (zP fs sn ln op q) what := by
  rcases (show what = 0 ∨ what = 1 ∨ what = 2 ∨ what = 3 by omega) with e | e | e | e
  · subst e; rfl
  · subst e; rfl
  · subst e; rfl
  · subst e
    rw [zP_3]
    rfl
theorem zS_told {wy : Nat → Nat → Nat} {st : Nat → Nat → Bool} {h what a1 a2 a3 a4 a5 : Nat} (h1 : a1 = ar h) (h2 : a2 = vHas SS h) (h3 : a3 = ww h) (h4 : a4 = mCnt (fun o => wy h o != 1073741824) nn) (h5 : a5 = mCnt (fun o => (mPost wy st h o).isSome) nn) (hw : what < 5) : vTold ar SS ww wy st nn h what = kI (va_up (va_up (va_up (va_up (va_up (fun _ => 0) 0 a1) 1 a2) 2 a3) 3 a4) 4 a5) what := by
  subst h1
  subst h2
  subst h3
  subst h4
  subst h5
  rcases (show what = 0 ∨ what = 1 ∨ what = 2 ∨ what = 3 ∨ what = 4 by omega) with e | e | e | e | e <;> (subst e; rfl)
theorem zS_count {wy : Nat → Nat → Nat} {st : Nat → Nat → Bool} {what a3 a4 a5 a6 : Nat} (h3 : a3 = mCnt op np) (h4 : a4 = mSum (vHas SS) nn) (h5 : a5 = mPairs wy st nn) (h6 : a6 = (jAll fs sn op (-1) np nn).1) (hw : what < 7) : vCount mi nn np op fs sn SS wy st what = kI (va_up (va_up (va_up (va_up (va_up (va_up (va_up (fun _ => 0) 0 mi) 1 nn) 2 np) 3 a3) 4 a4) 5 a5) 6 a6) what := by
  subst h3
  subst h4
  subst h5
  subst h6
  rcases (show what = 0 ∨ what = 1 ∨ what = 2 ∨ what = 3 ∨ what = 4 ∨ what = 5 ∨ what = 6 by omega) with e | e | e | e | e | e | e <;> (subst e; rfl)
end ZT
theorem mSum_le9 {f : Nat → Nat} {c : Nat} : ∀ n, (∀ i, i < n → f i ≤ c) → mSum f n ≤ n * c
  | 0, _ => Nat.zero_le _
  | n + 1, h => by
    have h1 := mSum_le9 n (fun i hi => h i (by omega))
    have h2 := h n (Nat.lt_succ_self n)
    rw [mSum_succ, Nat.succ_mul]
    omega
theorem zHas_sum {SS : Nat → Option mS} {nn : Nat} (hn : nn ≤ 10) : mSum (zHas SS nn) nn ≤ 100 := by
  have h1 := mSum_le9 (f := zHas SS nn) (c := 10) nn (fun i _ => Nat.le_trans (mCnt_le _ nn) hn)
  omega
