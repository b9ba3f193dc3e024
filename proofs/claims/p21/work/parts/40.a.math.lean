/-! A MINUTE OF THE POST BY HAND: writing, carrying, throwing away. -/
def zRo (G : kG) (n : Nat) (L : List Nat) (f : Nat → va_E) (ro : Nat → Nat) (rr : Nat → Nat → Nat) : Prop := ∀ i, i < n → ro i ∈ L ∧ f (ro i) = .inl (G.2 3, n, .inr (.inr (.inr (.inr (kRn n (rr i))))))
theorem zE_ne {f : Nat → va_E} {a b : Nat} {G : kG} {n m : Nat} {g : Nat → Option Nat} {h : Nat → Int32} (h1 : f a = .inl (G.2 3, n, .inr (.inr (.inr (.inr g))))) (h2 : f b = .inl (G.2 0, m, .inl h)) : b ≠ a := fun z => by
  rw [z, h1] at h2
  have z2 := congrArg (fun p : Nat × Nat × _ => p.2.2) (Sum.inl.inj h2)
  cases z2
theorem zRow.ne {G : kG} {L : List Nat} {f : Nat → va_E} {a y mi n : Nat} {g : Nat → Option Nat} {o : Option mS} (h : zRow G L f y mi o) (h1 : f a = .inl (G.2 3, n, .inr (.inr (.inr (.inr g))))) : y ≠ a := by
  obtain ⟨-, len, g, h2, -⟩ := h
  exact zE_ne h1 h2
theorem zRow.to {G : kG} {L L' : List Nat} {f f' : Nat → va_E} {y mi : Nat} {o : Option mS} (h : zRow G L f y mi o) (h1 : y ∈ L') (h2 : f' y = f y) : zRow G L' f' y mi o := by
  obtain ⟨-, len, g, h3, h4⟩ := h
  exact ⟨h1, len, g, h2.trans h3, h4⟩
/-- the row of a newly written sheet, as far as it is filled -/
def zNew (v : Nat) (fs sn ln : Nat → Nat) (op : Nat → Bool) (h j : Nat) : Nat → Nat := fun i => if i = 0 then v else if 2 ≤ i ∧ i < j + 2 then mTells fs sn ln op h (i - 2) else 0
theorem zNew_0 {v : Nat} {fs sn ln : Nat → Nat} {op : Nat → Bool} {h : Nat} : va_up (fun _ => 0) 0 v = zNew v fs sn ln op h 0 := by
  funext i
  unfold va_up zNew
  by_cases q : i = 0
  · rw [if_pos q, if_pos q]
  · rw [if_neg q, if_neg q, if_neg (by omega)]
theorem zNew_s {v : Nat} {fs sn ln : Nat → Nat} {op : Nat → Bool} {h j : Nat} : va_up (zNew v fs sn ln op h j) (j + 2) (mTells fs sn ln op h j) = zNew v fs sn ln op h (j + 1) := by
  funext i
  unfold va_up zNew
  by_cases q : i = j + 2
  · subst q
    rw [if_pos rfl, if_neg (by omega), if_pos (by omega), show j + 2 - 2 = j by omega]
  · rw [if_neg q]
    by_cases q0 : i = 0
    · rw [if_pos q0, if_pos q0]
    · rw [if_neg q0, if_neg q0]
      by_cases q2 : 2 ≤ i ∧ i < j + 2
      · rw [if_pos q2, if_pos (by omega)]
      · rw [if_neg q2, if_neg (by omega)]
theorem zNew_val {v mi np h : Nat} {fs sn ln : Nat → Nat} {op : Nat → Bool} (hv : v < 2 ^ 31) (hln : ∀ j, ln j < 100) (hnp : np ≤ 20) : zVal mi (some (v, mi, mSheet fs sn ln op h np)) (np + 2) (zNew v fs sn ln op h np) := by
  refine ⟨by omega, by omega, rfl, ?_, hv, Nat.le_refl _, fun p hp => ?_, fun p hp => ?_, fun p => mSheet_lt hln p⟩
  · show (if 1 = 0 then _ else _) = mi - mi
    rw [if_neg (by omega), if_neg (by omega)]
    omega
  · show (if p + 2 = 0 then _ else _) = (if p < np then _ else _)
    rw [if_neg (by omega), if_pos (by omega), if_pos (by omega), show p + 2 - 2 = p by omega]
  · exact mSheet_np (by omega)
/-- phase 1: what holds of the rows -/
def zI1 (G : kG) (nn np mi : Nat) (L : List Nat) (f : Nat → va_E) (ro rp : Nat → Nat) (fs sn ln : Nat → Nat) (op : Nat → Bool) (L1 : List Nat) (F1 : Nat → va_E) (rr1 : Nat → Nat → Nat) (S1 : Nat → Option mS) : Prop :=
  (∀ i, i < nn → ro i ∈ L1 ∧ F1 (ro i) = .inl (G.2 3, nn, .inr (.inr (.inr (.inr (kRn nn (rr1 i))))))) ∧ (∀ i j, i < nn → j < nn → zRow G L1 F1 (rr1 i j) mi (S1 (i * 10 + j))) ∧ (∀ i, i < np → rp i ∈ L1 ∧ F1 (rp i) = .inl (G.2 0, 4, .inl (kI (zP fs sn ln op i)))) ∧ ∀ y, y ∈ L → y ∈ L1 ∧ ((∀ i, i < nn → y ≠ ro i) → F1 y = f y)
theorem zI1_step {G : kG} {nn np mi h y len : Nat} {g : Nat → Nat} {L L1 : List Nat} {f F1 : Nat → va_E} {ro rp fs sn ln : Nat → Nat} {op : Nat → Bool} {rr1 : Nat → Nat → Nat} {S1 : Nat → Option mS} {v : mS} (hI : zI1 G nn np mi L f ro rp fs sn ln op L1 F1 rr1 S1) (hh : h < nn) (hnn : nn ≤ 10) (hinj : ∀ i j, i < nn → j < nn → ro i = ro j → i = j) (hy : y ∉ L1) (hv : zVal mi (some v) len g) :
    zI1 G nn np mi L f ro rp fs sn ln op (L1 ++ [y]) (va_up (va_up F1 y (.inl (G.2 0, len, .inl (kI g)))) (ro h) (.inl (G.2 3, nn, .inr (.inr (.inr (.inr (kRn nn (va_up (rr1 h) h y)))))))) (va_up rr1 h (va_up (rr1 h) h y)) (va_up S1 (h * 10 + h) (some v)) := by
  obtain ⟨h1, h2, h3, h4⟩ := hI
  have hny : ∀ x, x ∈ L1 → x ≠ y := fun x hx z => hy (z ▸ hx)
  have keep : ∀ x, x ∈ L1 → x ≠ ro h → va_up (va_up F1 y (.inl (G.2 0, len, .inl (kI g)))) (ro h) (.inl (G.2 3, nn, .inr (.inr (.inr (.inr (kRn nn (va_up (rr1 h) h y))))))) x = F1 x := fun x hx hq => by rw [va_up_ne _ _ hq, va_up_ne _ _ (hny x hx)]
  refine ⟨fun i hi => ⟨List.mem_append_left _ (h1 i hi).1, ?_⟩, fun i j hi hj => ?_, fun i hi => ⟨List.mem_append_left _ (h3 i hi).1, ?_⟩, fun x hx => ⟨List.mem_append_left _ (h4 x hx).1, fun hq => ?_⟩⟩
  · by_cases q : i = h
    · subst q
      rw [va_up_self, va_up_self]
    · have hq : ro i ≠ ro h := fun z => q (hinj i h hi hh z)
      rw [keep _ (h1 i hi).1 hq, va_up_ne _ _ q]
      exact (h1 i hi).2
  · by_cases q : i = h ∧ j = h
    · obtain ⟨q1, q2⟩ := q
      subst q1
      subst q2
      rw [va_up_self, va_up_self, va_up_self]
      refine ⟨List.mem_append_right _ List.mem_cons_self, len, g, ?_, hv⟩
      rw [va_up_ne _ _ (fun z => hny _ (h1 _ hh).1 z.symm), va_up_self]
    · have e : va_up rr1 h (va_up (rr1 h) h y) i j = rr1 i j := by
        by_cases q1 : i = h
        · subst q1
          rw [va_up_self, va_up_ne _ _ (fun z => q ⟨rfl, z⟩)]
        · rw [va_up_ne _ _ q1]
      rw [e, va_up_ne _ _ (show i * 10 + j ≠ h * 10 + h by omega)]
      have hr := h2 i j hi hj
      exact hr.to (List.mem_append_left _ hr.1) (keep _ hr.1 (hr.ne (h1 h hh).2))
  · rw [keep _ (h3 i hi).1 (zE_ne (h1 h hh).2 (h3 i hi).2)]
    exact (h3 i hi).2
  · rw [keep _ (h4 x hx).1 (hq h hh)]
    exact (h4 x hx).2 hq
/-- phase 2: the new rows, as far as they are filled -/
def zPart (ct : Nat → Nat → Nat) (n a k i : Nat) : Nat → Option Nat := fun j => if (i < a ∨ (i = a ∧ j < k)) ∧ j < n then some (ct i j) else none
theorem zPart_0 {ct : Nat → Nat → Nat} {n i : Nat} : zPart ct n 0 0 i = fun _ => none := by funext j; unfold zPart; rw [if_neg (by omega)]
theorem zPart_n {ct : Nat → Nat → Nat} {n a i : Nat} : zPart ct n a n i = zPart ct n (a + 1) 0 i := by
  funext j
  unfold zPart
  by_cases q : (i < a ∨ (i = a ∧ j < n)) ∧ j < n
  · rw [if_pos q, if_pos (by omega)]
  · rw [if_neg q, if_neg (by omega)]
theorem zPart_all {ct : Nat → Nat → Nat} {n i : Nat} (hi : i < n) : zPart ct n n 0 i = kRn n (ct i) := by
  funext j
  unfold zPart kRn
  by_cases q : j < n
  · rw [if_pos (by omega), if_pos q]
  · rw [if_neg (by omega), if_neg q]
theorem zPart_s {ct : Nat → Nat → Nat} {n a k y : Nat} (hk : k < n) : va_up (zPart ct n a k a) k (some y) = zPart (va_up ct a (va_up (ct a) k y)) n a (k + 1) a := by
  funext j
  unfold zPart
  rw [va_up_self]
  by_cases q : j = k
  · subst q
    rw [va_up_self, va_up_self, if_pos (by omega)]
  · rw [va_up_ne _ _ q, va_up_ne _ _ q]
    by_cases q2 : (a < a ∨ (a = a ∧ j < k)) ∧ j < n
    · rw [if_pos q2, if_pos (by omega)]
    · rw [if_neg q2, if_neg (by omega)]
theorem zPart_o {ct : Nat → Nat → Nat} {n a k y i : Nat} (hi : i ≠ a) : zPart (va_up ct a (va_up (ct a) k y)) n a (k + 1) i = zPart ct n a k i := by
  funext j
  unfold zPart
  rw [va_up_ne _ _ hi]
  by_cases q2 : (i < a ∨ (i = a ∧ j < k)) ∧ j < n
  · rw [if_pos q2, if_pos (by omega)]
  · rw [if_neg q2, if_neg (by omega)]
def zI2 (G : kG) (nn mi : Nat) (L1 : List Nat) (F1 : Nat → va_E) (rz : Nat → Nat) (B : Nat → Nat → Option mS) (a k : Nat) (L2 : List Nat) (F2 : Nat → va_E) (ct : Nat → Nat → Nat) : Prop :=
  (∀ y, y ∈ L1 → y ∈ L2 ∧ F2 y = F1 y) ∧ (∀ i, i < nn → rz i ∈ L2 ∧ F2 (rz i) = .inl (G.2 3, nn, .inr (.inr (.inr (.inr (zPart ct nn a k i)))))) ∧ (∀ i j, i < nn → j < nn → (i < a ∨ (i = a ∧ j < k)) → ct i j ∉ L1 ∧ zRow G L2 F2 (ct i j) mi (B i j)) ∧ ∀ i j i' j', i < nn → j < nn → i' < nn → j' < nn → (i < a ∨ (i = a ∧ j < k)) → (i' < a ∨ (i' = a ∧ j' < k)) → ct i j = ct i' j' → i = i' ∧ j = j'
theorem zI2_0 {G : kG} {nn mi : Nat} {L1 : List Nat} {F1 : Nat → va_E} {rz : Nat → Nat} {B : Nat → Nat → Option mS} {ct : Nat → Nat → Nat} (h : ∀ i, i < nn → rz i ∉ L1) : zI2 G nn mi L1 F1 rz B 0 0 (L1 ++ (List.range nn).map rz) (vr_up F1 ((List.range nn).map rz) (.inl (G.2 3, nn, .inr (.inr (.inr (.inr (fun _ => none))))))) ct := by
  refine ⟨fun y hy => ⟨List.mem_append_left _ hy, vr_up_ne (fun z => ?_)⟩, fun i hi => ?_, fun i j _ _ q => absurd q (by omega), fun i j i' j' _ _ _ _ q => absurd q (by omega)⟩
  · obtain ⟨i, h1, h2⟩ := List.mem_map.mp z
    exact h i (List.mem_range.mp h1) (h2 ▸ hy)
  · have hm : rz i ∈ (List.range nn).map rz := List.mem_map.mpr ⟨i, List.mem_range.mpr hi, rfl⟩
    refine ⟨List.mem_append_right _ hm, ?_⟩
    rw [vr_up_in hm, zPart_0]
theorem zI2_n {G : kG} {nn mi a : Nat} {L1 L2 : List Nat} {F1 F2 : Nat → va_E} {rz : Nat → Nat} {B : Nat → Nat → Option mS} {ct : Nat → Nat → Nat} (h : zI2 G nn mi L1 F1 rz B a nn L2 F2 ct) : zI2 G nn mi L1 F1 rz B (a + 1) 0 L2 F2 ct := by
  obtain ⟨h1, h2, h3, h4⟩ := h
  refine ⟨h1, fun i hi => ⟨(h2 i hi).1, ?_⟩, fun i j hi hj q => h3 i j hi hj (by omega), fun i j i' j' hi hj hi' hj' q q' => h4 i j i' j' hi hj hi' hj' (by omega) (by omega)⟩
  rw [← zPart_n]
  exact (h2 i hi).2
theorem zI2_step {G : kG} {nn mi a k y len : Nat} {g : Nat → Nat} {L1 L2 : List Nat} {F1 F2 : Nat → va_E} {rz : Nat → Nat} {B : Nat → Nat → Option mS} {ct : Nat → Nat → Nat} (hI : zI2 G nn mi L1 F1 rz B a k L2 F2 ct) (ha : a < nn) (hk : k < nn) (hinj : ∀ i j, i < nn → j < nn → rz i = rz j → i = j) (hrz : ∀ i, i < nn → rz i ∉ L1) (hy : y ∉ L2) (hv : zVal mi (B a k) len g) :
    zI2 G nn mi L1 F1 rz B a (k + 1) (L2 ++ [y]) (va_up (va_up F2 y (.inl (G.2 0, len, .inl (kI g)))) (rz a) (.inl (G.2 3, nn, .inr (.inr (.inr (.inr (zPart (va_up ct a (va_up (ct a) k y)) nn a (k + 1) a))))))) (va_up ct a (va_up (ct a) k y)) := by
  obtain ⟨h1, h2, h3, h4⟩ := hI
  have hny : ∀ x, x ∈ L2 → x ≠ y := fun x hx z => hy (z ▸ hx)
  have e1 : va_up ct a (va_up (ct a) k y) a k = y := by rw [va_up_self, va_up_self]
  have e2 : ∀ i j, ¬ (i = a ∧ j = k) → va_up ct a (va_up (ct a) k y) i j = ct i j := fun i j q => by
    by_cases q1 : i = a
    · subst q1
      rw [va_up_self, va_up_ne _ _ (fun z => q ⟨rfl, z⟩)]
    · rw [va_up_ne _ _ q1]
  have keep : ∀ x, x ∈ L2 → x ≠ rz a → va_up (va_up F2 y (.inl (G.2 0, len, .inl (kI g)))) (rz a) (.inl (G.2 3, nn, .inr (.inr (.inr (.inr (zPart (va_up ct a (va_up (ct a) k y)) nn a (k + 1) a)))))) x = F2 x := fun x hx hq => by rw [va_up_ne _ _ hq, va_up_ne _ _ (hny x hx)]
  refine ⟨fun x hx => ⟨List.mem_append_left _ (h1 x hx).1, ?_⟩, fun i hi => ⟨List.mem_append_left _ (h2 i hi).1, ?_⟩, fun i j hi hj q => ?_, fun i j i' j' hi hj hi' hj' q q' he => ?_⟩
  · rw [keep x (h1 x hx).1 (fun z => hrz a ha (z ▸ hx))]
    exact (h1 x hx).2
  · by_cases q : i = a
    · subst q
      exact va_up_self _ _ _
    · have hq : rz i ≠ rz a := fun z => q (hinj i a hi ha z)
      rw [keep _ (h2 i hi).1 hq, zPart_o q]
      exact (h2 i hi).2
  · by_cases q1 : i = a ∧ j = k
    · rw [q1.1, q1.2, e1]
      refine ⟨fun z => hy (h1 y z).1, List.mem_append_right _ List.mem_cons_self, len, g, ?_, hv⟩
      rw [va_up_ne _ _ (fun z => hny _ (h2 a ha).1 z.symm), va_up_self]
    · rw [e2 i j q1]
      obtain ⟨w1, w2⟩ := h3 i j hi hj (by omega)
      exact ⟨w1, w2.to (List.mem_append_left _ w2.1) (keep _ w2.1 (w2.ne (h2 a ha).2))⟩
  · have hm : ∀ i j, i < nn → j < nn → (i < a ∨ (i = a ∧ j < k + 1)) → ¬ (i = a ∧ j = k) → ct i j ≠ y := fun i j hi hj q q1 => hny _ (h3 i j hi hj (by omega)).2.1
    by_cases c1 : i = a ∧ j = k
    · by_cases c2 : i' = a ∧ j' = k
      · omega
      · exfalso
        rw [c1.1, c1.2, e1, e2 i' j' c2] at he
        exact hm i' j' hi' hj' q' c2 he.symm
    · by_cases c2 : i' = a ∧ j' = k
      · exfalso
        rw [c2.1, c2.2, e1, e2 i j c1] at he
        exact hm i j hi hj q c1 he
      · rw [e2 i j c1, e2 i' j' c2] at he
        exact h4 i j i' j' hi hj hi' hj' (by omega) (by omega) he
/-- phase 3: older by a minute, or thrown away -/
def zOut (mi : Nat) (o : Option mS) : Option mS := if vOld (mi + 1) o = true then none else o
def zI3 (G : kG) (nn mi : Nat) (L1 : List Nat) (F1 : Nat → va_E) (rz : Nat → Nat) (B : Nat → Nat → Option mS) (a k : Nat) (L2 : List Nat) (F2 : Nat → va_E) (ct : Nat → Nat → Nat) : Prop :=
  (∀ y, y ∈ L1 → y ∈ L2 ∧ F2 y = F1 y) ∧ (∀ i, i < nn → rz i ∈ L2 ∧ F2 (rz i) = .inl (G.2 3, nn, .inr (.inr (.inr (.inr (kRn nn (ct i))))))) ∧ (∀ i j, i < nn → j < nn → ct i j ∉ L1 ∧ ((i < a ∨ (i = a ∧ j < k)) → zRow G L2 F2 (ct i j) (mi + 1) (zOut mi (B i j))) ∧ (¬ (i < a ∨ (i = a ∧ j < k)) → zRow G L2 F2 (ct i j) mi (B i j))) ∧ ∀ i j i' j', i < nn → j < nn → i' < nn → j' < nn → ct i j = ct i' j' → i = i' ∧ j = j'
theorem zI3_0 {G : kG} {nn mi : Nat} {L1 L2 : List Nat} {F1 F2 : Nat → va_E} {rz : Nat → Nat} {B : Nat → Nat → Option mS} {ct : Nat → Nat → Nat} (h : zI2 G nn mi L1 F1 rz B nn 0 L2 F2 ct) : zI3 G nn mi L1 F1 rz B 0 0 L2 F2 ct := by
  obtain ⟨h1, h2, h3, h4⟩ := h
  refine ⟨h1, fun i hi => ⟨(h2 i hi).1, ?_⟩, fun i j hi hj => ⟨(h3 i j hi hj (Or.inl hi)).1, fun q => absurd q (by omega), fun _ => (h3 i j hi hj (Or.inl hi)).2⟩, fun i j i' j' hi hj hi' hj' he => h4 i j i' j' hi hj hi' hj' (Or.inl hi) (Or.inl hi') he⟩
  rw [← zPart_all hi]
  exact (h2 i hi).2
theorem zI3_n {G : kG} {nn mi a : Nat} {L1 L2 : List Nat} {F1 F2 : Nat → va_E} {rz : Nat → Nat} {B : Nat → Nat → Option mS} {ct : Nat → Nat → Nat} (h : zI3 G nn mi L1 F1 rz B a nn L2 F2 ct) : zI3 G nn mi L1 F1 rz B (a + 1) 0 L2 F2 ct := by
  obtain ⟨h1, h2, h3, h4⟩ := h
  exact ⟨h1, h2, fun i j hi hj => ⟨(h3 i j hi hj).1, fun q => (h3 i j hi hj).2.1 (by omega), fun q => (h3 i j hi hj).2.2 (by omega)⟩, h4⟩
/-- the place's row becomes y2 (itself, or a new one), and all else stands -/
theorem zI3_step {G : kG} {nn mi a k : Nat} {L1 L2 L3 : List Nat} {F1 F2 F3 : Nat → va_E} {rz : Nat → Nat} {B : Nat → Nat → Option mS} {ct ct2 : Nat → Nat → Nat} (hI : zI3 G nn mi L1 F1 rz B a k L2 F2 ct) (hk : k < nn)
    (hL : ∀ y, y ∈ L2 → y ∈ L3) (hF : ∀ y, y ∈ L2 → y ≠ ct a k → (∀ i, i < nn → y ≠ rz i) → F3 y = F2 y) (hrz : ∀ i, i < nn → rz i ∉ L1) (hR : ∀ i, i < nn → F3 (rz i) = .inl (G.2 3, nn, .inr (.inr (.inr (.inr (kRn nn (ct2 i)))))))
    (hc : ∀ i j, ¬ (i = a ∧ j = k) → ct2 i j = ct i j) (hn : ct2 a k = ct a k ∨ ct2 a k ∉ L2) (hz : zRow G L3 F3 (ct2 a k) (mi + 1) (zOut mi (B a k))) (ha : a < nn) : zI3 G nn mi L1 F1 rz B a (k + 1) L3 F3 ct2 := by
  obtain ⟨h1, h2, h3, h4⟩ := hI
  have hct : ∀ i j, i < nn → j < nn → ct i j ∈ L2 ∧ ∀ x, x < nn → ct i j ≠ rz x := fun i j hi hj => by
    by_cases q : i < a ∨ (i = a ∧ j < k)
    · have z := (h3 i j hi hj).2.1 q
      exact ⟨z.1, fun x hx => z.ne (h2 x hx).2⟩
    · have z := (h3 i j hi hj).2.2 q
      exact ⟨z.1, fun x hx => z.ne (h2 x hx).2⟩
  have hne : ∀ i j, i < nn → j < nn → ¬ (i = a ∧ j = k) → F3 (ct i j) = F2 (ct i j) := fun i j hi hj q => hF _ (hct i j hi hj).1 (fun z => q (h4 i j a k hi hj ha hk z)) (hct i j hi hj).2
  refine ⟨fun y hy => ⟨hL y (h1 y hy).1, (hF y (h1 y hy).1 (fun z => (h3 a k ha hk).1 (z ▸ hy)) (fun i hi z => hrz i hi (z ▸ hy))).trans (h1 y hy).2⟩, fun i hi => ⟨hL _ (h2 i hi).1, hR i hi⟩, fun i j hi hj => ?_, fun i j i' j' hi hj hi' hj' he => ?_⟩
  · by_cases q : i = a ∧ j = k
    · obtain ⟨q1, q2⟩ := q
      subst q1
      subst q2
      refine ⟨fun z => ?_, fun _ => hz, fun w => absurd w (by omega)⟩
      rcases hn with w | w
      · exact (h3 i j hi hj).1 (w ▸ z)
      · exact w (h1 _ z).1
    · rw [hc i j q]
      refine ⟨(h3 i j hi hj).1, fun w => ?_, fun w => ?_⟩
      · have z := (h3 i j hi hj).2.1 (by omega)
        exact z.to (hL _ z.1) (hne i j hi hj q)
      · have z := (h3 i j hi hj).2.2 (by omega)
        exact z.to (hL _ z.1) (hne i j hi hj q)
  · have hm : ∀ i j, i < nn → j < nn → ¬ (i = a ∧ j = k) → ct i j ≠ ct2 a k := fun i j hi hj q z => by
      rcases hn with w | w
      · exact q (h4 i j a k hi hj ha hk (z.trans w))
      · exact w (z ▸ (hct i j hi hj).1)
    by_cases c1 : i = a ∧ j = k
    · by_cases c2 : i' = a ∧ j' = k
      · omega
      · exfalso
        rw [c1.1, c1.2, hc i' j' c2] at he
        exact hm i' j' hi' hj' c2 he.symm
    · by_cases c2 : i' = a ∧ j' = k
      · exfalso
        rw [c2.1, c2.2, hc i j c1] at he
        exact hm i j hi hj c1 he
      · rw [hc i j c1, hc i' j' c2] at he
        exact h4 i j i' j' hi hj hi' hj' he
theorem zOut_n {mi : Nat} : zOut mi none = none := by unfold zOut; split <;> rfl
theorem zOut_y {mi : Nat} {v : mS} (h : mi + 1 - v.2.1 ≤ 30) : zOut mi (some v) = some v := by
  unfold zOut vOld
  dsimp only
  rw [if_neg (by rw [decide_eq_true_iff]; omega)]
theorem zOut_o {mi : Nat} {v : mS} (h : 30 < mi + 1 - v.2.1) : zOut mi (some v) = none := by
  unfold zOut vOld
  dsimp only
  rw [if_pos (by rw [decide_eq_true_iff]; omega)]
theorem zVal_age {mi len : Nat} {v : mS} {g : Nat → Nat} (h : zVal mi (some v) len g) : zVal (mi + 1) (some v) len (va_up g 1 (g 1 + 1)) := by
  obtain ⟨h1, h2, h3, h4, h5, h6, h7, h8, h9⟩ := h
  refine ⟨h1, h2, ?_, ?_, h5, by omega, fun p hp => ?_, h8, h9⟩
  · rw [va_up_ne _ _ (by decide)]; exact h3
  · rw [va_up_self, h4]; omega
  · rw [va_up_ne _ _ (by omega)]; exact h7 p hp
/-! the best row of a place, pass by pass -/
section ZB
variable {ar fs sn : Nat → Nat} {op : Nat → Bool} {S : Nat → Option mS} {a k i : Nat}
theorem vB_x1 (h : op i = false) : vB ar fs sn op S a k (i + 1) = vB ar fs sn op S a k i := by
  show (if op i = true ∧ _ then _ else _) = _
  rw [if_neg (fun z => by rw [h] at z; exact Bool.noConfusion z.1)]
theorem vB_x2 (h1 : fs i ≠ a) (h2 : sn i ≠ a) : vB ar fs sn op S a k (i + 1) = vB ar fs sn op S a k i := by
  show (if op i = true ∧ (fs i = a ∨ sn i = a) then _ else _) = _
  rw [if_neg (fun z => z.2.elim h1 h2)]
theorem vB_x3 (h : ¬ (k ≠ a ∧ mTakes ar a k = true)) : vB ar fs sn op S a k (i + 1) = vB ar fs sn op S a k i := by
  show (if op i = true ∧ (fs i = a ∨ sn i = a) then vB1 _ _ _ _ _ _ else _) = _
  split
  · unfold vB1
    split
    · rfl
    · exact if_neg (fun z => h ⟨z.1, z.2.1⟩)
  · rfl
theorem vB_x4 (h : S ((if fs i = a then sn i else fs i) * 10 + k) = none) : vB ar fs sn op S a k (i + 1) = vB ar fs sn op S a k i := by
  show (if op i = true ∧ (fs i = a ∨ sn i = a) then vB1 _ _ _ _ _ _ else _) = _
  split
  · unfold vB1
    rw [h]
  · rfl
theorem vB_x5 {v z : mS} (h : S ((if fs i = a then sn i else fs i) * 10 + k) = some v) (h2 : vB ar fs sn op S a k i = some z) (h3 : v.1 ≤ z.1) : vB ar fs sn op S a k (i + 1) = vB ar fs sn op S a k i := by
  show (if op i = true ∧ (fs i = a ∨ sn i = a) then vB1 _ _ _ _ _ _ else _) = _
  split
  · unfold vB1
    rw [h, h2]
    dsimp only
    exact if_neg (fun w => by
      have := of_decide_eq_true w.2.2
      omega)
  · rfl
theorem vB_t {v : mS} (ho : op i = true) (he : fs i = a ∨ sn i = a) (hk : k ≠ a) (ht : mTakes ar a k = true) (h : S ((if fs i = a then sn i else fs i) * 10 + k) = some v) (h3 : ∀ z, vB ar fs sn op S a k i = some z → z.1 < v.1) : vB ar fs sn op S a k (i + 1) = S ((if fs i = a then sn i else fs i) * 10 + k) := by
  show (if op i = true ∧ (fs i = a ∨ sn i = a) then vB1 _ _ _ _ _ _ else _) = _
  rw [if_pos ⟨ho, he⟩]
  unfold vB1
  rw [h]
  dsimp only
  rw [if_pos]
  refine ⟨hk, ht, ?_⟩
  cases e : vB ar fs sn op S a k i with
  | none => rfl
  | some z => exact decide_eq_true (h3 z e)
end ZB
theorem mTakes_1 {ar : Nat → Nat} {a k : Nat} (h : ar a = 0) : mTakes ar a k = true := by unfold mTakes; rw [h]; rfl
theorem mTakes_2 {ar : Nat → Nat} {a k : Nat} (h : ar k = 0) : mTakes ar a k = true := by unfold mTakes; rw [h]; simp
theorem mTakes_3 {ar : Nat → Nat} {a k : Nat} (h : ar a = ar k) : mTakes ar a k = true := by unfold mTakes; rw [h]; simp
theorem mTakes_0 {ar : Nat → Nat} {a k : Nat} (h1 : ar a ≠ 0) (h2 : ar k ≠ 0) (h3 : ar a ≠ ar k) : mTakes ar a k = false := by unfold mTakes; simp [h1, h2, h3]
/-- equal numbers, equal minutes -/
theorem vB_same {ar fs sn ln : Nat → Nat} {op : Nat → Bool} {nh np mi a k i f9 : Nat} {S : Nat → Option mS} {w : Nat → Nat} {v z : mS} (hI : vInv ar fs sn ln nh np mi S w) (ha : a < 10) (hk : k < 10) (hf : f9 < 10) (hi : i ≤ np) (h1 : (vWrite mi fs sn ln op np (S, w, 0) nh).1 (f9 * 10 + k) = some v) (h2 : vB ar fs sn op (vWrite mi fs sn ln op np (S, w, 0) nh).1 a k i = some z) (he : v.1 = z.1) : v = z := by
  obtain ⟨hfs, hsn, hln, hen, hnh, hnp⟩ := hI.1
  obtain ⟨x, x1, x2, -⟩ := vB_src (ar := ar) (op := op) (S := (vWrite mi fs sn ln op np (S, w, 0) nh).1) (k := k) ha hfs hsn (fun p hp => ⟨(hen p hp).1, (hen p hp).2.1⟩) i hi
  rw [x2] at h2
  exact ((iS_write (op := op) hI).2 f9 x k v z hf x1 hk h1 h2 (Nat.le_of_eq he)).2 he
theorem vMst_kept {mi len : Nat} {fs sn ln : Nat → Nat} {op : Nat → Bool} {np h : Nat} {S : Nat → Option mS} {g : Nat → Nat} (hv : zVal mi (S (h * 10 + h)) len g) (hl : 0 < len) (ha : g 1 < 20) (ht : zTrue S fs sn ln op h np = true) : vMst mi fs sn ln op np S h = false := by
  obtain ⟨v, e1, e2, e3, e4⟩ := zVal_s hv hl
  unfold vMst
  rw [e1]
  unfold zTrue at ht
  rw [e1] at ht
  show (decide (20 ≤ mi - v.2.1) || !(mSame v.2.2 fs sn ln op h np)) = false
  rw [decide_eq_false (by omega)]
  have ht : mSame v.2.2 fs sn ln op h np = true := ht
  rw [ht]
  rfl
theorem vMst_n {mi len : Nat} {fs sn ln : Nat → Nat} {op : Nat → Bool} {np h : Nat} {S : Nat → Option mS} {g : Nat → Nat} (hv : zVal mi (S (h * 10 + h)) len g) (hl : len = 0) : vMst mi fs sn ln op np S h = true := by
  unfold vMst
  rw [zVal_n hv hl]
  rfl
theorem vMst_o {mi len : Nat} {fs sn ln : Nat → Nat} {op : Nat → Bool} {np h : Nat} {S : Nat → Option mS} {g : Nat → Nat} (hv : zVal mi (S (h * 10 + h)) len g) (hl : 0 < len) (ha : 20 ≤ g 1) : vMst mi fs sn ln op np S h = true := by
  obtain ⟨v, e1, e2, e3, e4⟩ := zVal_s hv hl
  unfold vMst
  rw [e1]
  show (decide (20 ≤ mi - v.2.1) || !(mSame v.2.2 fs sn ln op h np)) = true
  rw [decide_eq_true (by omega)]
  rfl
theorem vMst_f {mi len : Nat} {fs sn ln : Nat → Nat} {op : Nat → Bool} {np h : Nat} {S : Nat → Option mS} {g : Nat → Nat} (hv : zVal mi (S (h * 10 + h)) len g) (hl : 0 < len) (ht : zTrue S fs sn ln op h np = false) : vMst mi fs sn ln op np S h = true := by
  obtain ⟨v, e1, e2, e3, e4⟩ := zVal_s hv hl
  unfold vMst
  rw [e1]
  unfold zTrue at ht
  rw [e1] at ht
  have ht : mSame v.2.2 fs sn ln op h np = false := ht
  show (decide (20 ≤ mi - v.2.1) || !(mSame v.2.2 fs sn ln op h np)) = true
  rw [ht, Bool.or_comm]
  rfl
theorem vWrite_k {mi : Nat} {fs sn ln : Nat → Nat} {op : Nat → Bool} {np h many : Nat} {S S1 : Nat → Option mS} {w w1 : Nat → Nat} (hst : (S1, w1, many) = vWrite mi fs sn ln op np (S, w, 0) h) (hm : vMst mi fs sn ln op np S1 h = false) : (S1, w1, many) = vWrite mi fs sn ln op np (S, w, 0) (h + 1) := by
  show _ = vWrite1 mi fs sn ln op np h (vWrite mi fs sn ln op np (S, w, 0) h)
  rw [← hst]
  exact (vWrite1_f (st := (S1, w1, many)) hm).symm
theorem vWrite_w1 {mi : Nat} {fs sn ln : Nat → Nat} {op : Nat → Bool} {np h many : Nat} {S S1 : Nat → Option mS} {w w1 : Nat → Nat} (hst : (S1, w1, many) = vWrite mi fs sn ln op np (S, w, 0) h) (hm : vMst mi fs sn ln op np S1 h = true) : (va_up S1 (h * 10 + h) (some (w1 h + 1, mi, mSheet fs sn ln op h np)), va_up w1 h (w1 h + 1), many + 1) = vWrite mi fs sn ln op np (S, w, 0) (h + 1) := by
  show _ = vWrite1 mi fs sn ln op np h (vWrite mi fs sn ln op np (S, w, 0) h)
  rw [← hst]
  exact (vWrite1_t (st := (S1, w1, many)) hm).symm
theorem vWrite_wle {mi : Nat} {fs sn ln : Nat → Nat} {op : Nat → Bool} {np h many : Nat} {S S1 : Nat → Option mS} {w w1 : Nat → Nat} (hst : (S1, w1, many) = vWrite mi fs sn ln op np (S, w, 0) h) (hh : h ≤ 10) (hw : ∀ k, w k ≤ mi) : w1 h ≤ mi := by
  have e := (vWrite_at (mi := mi) (fs := fs) (sn := sn) (ln := ln) (op := op) (np := np) (st := (S, w, 0)) h hh).2 h
  rw [← hst, if_neg (by omega)] at e
  dsimp only at e
  rw [e]
  exact hw h
/-- the end: what the new rows hold is what a minute makes of the old -/
theorem zI3_end {G : kG} {nn np mi k9 : Nat} {ar fs sn ln : Nat → Nat} {op : Nat → Bool} {S S1 : Nat → Option mS} {w w1 : Nat → Nat} {L1 L2 : List Nat} {F1 F2 : Nat → va_E} {rz : Nat → Nat} {ct : Nat → Nat → Nat} (hst : (S1, w1, k9) = vWrite mi fs sn ln op np (S, w, 0) nn) (hnn : nn ≤ 10) (hne : ∀ p, p < np → fs p ≠ sn p) (h : zI3 G nn mi L1 F1 rz (fun i j => vB ar fs sn op S1 i j np) nn 0 L2 F2 ct) : ∀ i j, i < nn → j < nn → zRow G L2 F2 (ct i j) (mi + 1) ((vMin ar fs sn ln op nn np mi (S, w, 0)).1 (i * 10 + j)) := fun i j hi hj => by
  have z := (h.2.2.1 i j hi hj).2.1 (Or.inl hi)
  rw [vMin_at (by omega) (by omega) hnn hne, if_pos hj, ← hst]
  exact z
section Z3
variable {G : kG} {nn mi a k : Nat} {L1 L2 : List Nat} {F1 F2 : Nat → va_E} {rz : Nat → Nat} {B : Nat → Nat → Option mS} {ct : Nat → Nat → Nat}
theorem zI3_none {len : Nat} {g : Nat → Nat} (hI : zI3 G nn mi L1 F1 rz B a k L2 F2 ct) (ha : a < nn) (hk : k < nn) (hrz : ∀ i, i < nn → rz i ∉ L1) (hm : ct a k ∈ L2) (hf : F2 (ct a k) = .inl (G.2 0, len, .inl (kI g))) (hv : zVal mi (B a k) len g) (hl : len = 0) : zI3 G nn mi L1 F1 rz B a (k + 1) L2 F2 ct :=
  zI3_step hI hk (fun _ h => h) (fun _ _ _ _ => rfl) hrz (fun i hi => (hI.2.1 i hi).2) (fun _ _ _ => rfl) (Or.inl rfl) (by
    rw [zVal_n hv hl, zOut_n]
    exact ⟨hm, len, g, hf, hl⟩) ha
theorem zI3_age {len : Nat} {g : Nat → Nat} {v : mS} (hI : zI3 G nn mi L1 F1 rz B a k L2 F2 ct) (ha : a < nn) (hk : k < nn) (hrz : ∀ i, i < nn → rz i ∉ L1) (hm : ct a k ∈ L2) (hv : zVal mi (B a k) len g) (hb : B a k = some v) (hl : mi + 1 - v.2.1 ≤ 30) : zI3 G nn mi L1 F1 rz B a (k + 1) L2 (va_up F2 (ct a k) (.inl (G.2 0, len, .inl (kI (va_up g 1 (g 1 + 1)))))) ct :=
  zI3_step hI hk (fun _ h => h) (fun _ _ h _ => va_up_ne _ _ h) hrz (fun i hi => by
    have hz := (hI.2.2.1 a k ha hk).2.2 (by omega)
    have hq : rz i ≠ ct a k := fun z => hz.ne (hI.2.1 i hi).2 z.symm
    rw [va_up_ne _ _ hq]
    exact (hI.2.1 i hi).2) (fun _ _ _ => rfl) (Or.inl rfl) (by
    rw [hb] at hv ⊢
    rw [zOut_y hl]
    exact ⟨hm, len, _, va_up_self _ _ _, zVal_age hv⟩) ha
theorem zI3_throw {y : Nat} {e1 : va_E} (hI : zI3 G nn mi L1 F1 rz B a k L2 F2 ct) (ha : a < nn) (hk : k < nn) (hinj : ∀ i j, i < nn → j < nn → rz i = rz j → i = j) (hrz : ∀ i, i < nn → rz i ∉ L1) (hy : y ∉ L2) (hz : zOut mi (B a k) = none) :
    zI3 G nn mi L1 F1 rz B a (k + 1) (L2 ++ [y]) (va_up (va_up (va_up F2 (ct a k) e1) y (.inl (G.2 0, 0, .inl (kI (fun _ => 0))))) (rz a) (.inl (G.2 3, nn, .inr (.inr (.inr (.inr (kRn nn (va_up (ct a) k y)))))))) (va_up ct a (va_up (ct a) k y)) := by
  have h0 := (hI.2.2.1 a k ha hk).2.2 (by omega)
  have hny : ∀ x, x ∈ L2 → x ≠ y := fun x hx z => hy (z ▸ hx)
  have e9 : va_up ct a (va_up (ct a) k y) a k = y := by rw [va_up_self, va_up_self]
  refine zI3_step hI hk (fun _ h => List.mem_append_left _ h) (fun x hx h1 h2 => ?_) hrz (fun i hi => ?_) (fun i j q => ?_) (Or.inr ?_) ?_ ha
  · rw [va_up_ne _ _ (h2 a ha), va_up_ne _ _ (hny x hx), va_up_ne _ _ h1]
  · by_cases q : i = a
    · subst q
      rw [va_up_self, va_up_self]
    · have q1 : rz i ≠ rz a := fun z => q (hinj i a hi ha z)
      have q2 : rz i ≠ ct a k := fun z => h0.ne (hI.2.1 i hi).2 z.symm
      rw [va_up_ne _ _ q1, va_up_ne _ _ (hny _ (hI.2.1 i hi).1), va_up_ne _ _ q2, va_up_ne _ _ q]
      exact (hI.2.1 i hi).2
  · by_cases q1 : i = a
    · subst q1
      rw [va_up_self, va_up_ne _ _ (fun z => q ⟨rfl, z⟩)]
    · rw [va_up_ne _ _ q1]
  · rw [e9]; exact hy
  · rw [e9, hz]
    refine ⟨List.mem_append_right _ List.mem_cons_self, 0, fun _ => 0, ?_, rfl⟩
    rw [va_up_ne _ _ (fun z => hny _ (hI.2.1 a ha).1 z.symm), va_up_self]
end Z3
