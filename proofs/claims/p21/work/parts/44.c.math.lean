/-! BOTH POSTS SIDE BY SIDE. -/
theorem kO_V {G : kG} {hM nn np mi : Nat} {fs sn ln : Nat → Nat} {op : Nat → Bool} {SS : Nat → Option mS} {ar ww : Nat → Nat} {M L : List Nat} {f : Nat → va_E} {s : State} {H : Heap} {As : List Value} {A : Nat → Prop} (hob : kObj G hM nn np mi fs sn ln op SS ar ww M f) (hML : ∀ a ∈ M, a ∈ L) (hK : kK G s) (hP : va_P G.1 vwCl (([] : va_W) ++ va_pl L f) H) (hD : va_D A (([] : va_W) ++ va_pl L f)) :
    PreV s H RX4 hM (kPreM G (([] : va_W) ++ va_pl L f) H.size (.ref hM :: As)) As := by
  obtain ⟨hm, vs, he⟩ := hob.recv
  obtain ⟨k, hk⟩ := va_pl_get (X := []) (f := f) (hML _ hm)
  rw [he] at hk
  exact kPreM_V hK hP hD (RX4, TX4, 5) k rfl hk
theorem kO_VR {G : kG} {hM nn np mi : Nat} {fs sn ln : Nat → Nat} {op : Nat → Bool} {SS : Nat → Option mS} {ar ww : Nat → Nat} {M L : List Nat} {f : Nat → va_E} {s : State} {H : Heap} {As : List Value} (hob : kObj G hM nn np mi fs sn ln op SS ar ww M f) (hML : ∀ a ∈ M, a ∈ L) (hK : kK G s) (hP : va_P G.1 vwCl (([] : va_W) ++ va_pl L f) H) :
    PreV s H RX4 hM (kPre G (([] : va_W) ++ va_pl L f) (.ref hM :: As)) As := by
  obtain ⟨hm, vs, he⟩ := hob.recv
  obtain ⟨k, hk⟩ := va_pl_get (X := []) (f := f) (hML _ hm)
  rw [he] at hk
  exact kPre_V hK hP (RX4, TX4, 5) k rfl hk
/-- the rows of the post by hand: they stand, and are none of the object's -/
def kSim (G : kG) (nn np mi : Nat) (M L : List Nat) (f : Nat → va_E) (ro : Nat → Nat) (rr : Nat → Nat → Nat) (rp : Nat → Nat) (fs sn ln : Nat → Nat) (op : Nat → Bool) (SS : Nat → Option mS) : Prop :=
  (∀ i, i < nn → ro i ∈ L ∧ f (ro i) = .inl (G.2 3, nn, .inr (.inr (.inr (.inr (kRn nn (rr i))))))) ∧ (∀ i j, i < nn → j < nn → zRow G L f (rr i j) mi (SS (i * 10 + j))) ∧ (∀ i, i < np → rp i ∈ L ∧ f (rp i) = .inl (G.2 0, 4, .inl (kI (zP fs sn ln op i)))) ∧ (∀ i, i < nn → ro i ∉ M) ∧ (∀ i j, i < nn → j < nn → rr i j ∉ M) ∧ (∀ i, i < np → rp i ∉ M) ∧ (∀ i j, i < nn → j < nn → ro i = ro j → i = j) ∧ (∀ i j, i < np → j < np → rp i = rp j → i = j) ∧ ∀ i j q, i < nn → j < nn → q < np → rr i j ≠ rp q
theorem kSim.fr {G : kG} {nn np mi : Nat} {M L : List Nat} {f : Nat → va_E} {ro : Nat → Nat} {rr : Nat → Nat → Nat} {rp : Nat → Nat} {fs sn ln : Nat → Nat} {op : Nat → Bool} {SS : Nat → Option mS} {u : kU} (h : kSim G nn np mi M L f ro rr rp fs sn ln op SS) (hf : kFr L M f u) : kSim G nn np mi u.1 u.2.1 u.2.2 ro rr rp fs sn ln op SS := by
  obtain ⟨h1, h2, h3, h4, h5, h6, h7, h8, h9⟩ := h
  obtain ⟨-, hq⟩ := hf
  refine ⟨fun i hi => ?_, fun i j hi hj => ?_, fun i hi => ?_, fun i hi => (hq _ (h1 i hi).1 (h4 i hi)).2.2, fun i j hi hj => (hq _ (h2 i j hi hj).1 (h5 i j hi hj)).2.2, fun i hi => (hq _ (h3 i hi).1 (h6 i hi)).2.2, h7, h8, h9⟩
  · have z := hq _ (h1 i hi).1 (h4 i hi)
    exact ⟨z.1, z.2.1.trans (h1 i hi).2⟩
  · have z := hq _ (h2 i j hi hj).1 (h5 i j hi hj)
    exact (h2 i j hi hj).to z.1 z.2.1
  · have z := hq _ (h3 i hi).1 (h6 i hi)
    exact ⟨z.1, z.2.1.trans (h3 i hi).2⟩
def kTwo (G : kG) (hM nn np mi : Nat) (M L : List Nat) (f : Nat → va_E) (ro : Nat → Nat) (rr : Nat → Nat → Nat) (rp : Nat → Nat) (fs sn ln : Nat → Nat) (op : Nat → Bool) (SS : Nat → Option mS) (ar ww : Nat → Nat) : Prop :=
  kObj G hM nn np mi fs sn ln op SS ar ww M f ∧ (∀ a ∈ M, a ∈ L) ∧ kSim G nn np mi M L f ro rr rp fs sn ln op SS ∧ vInv ar fs sn ln nn np mi SS ww ∧ nn ≤ 7 ∧ ∀ j, nn ≤ j → ww j = 0
/-! what is done keeps what holds of a post -/
section VI
variable {ar fs sn ln : Nat → Nat} {nh np mi : Nat} {S : Nat → Option mS} {w : Nat → Nat}
theorem vInv.none (h : vInv ar fs sn ln nh np mi S w) : ∀ i j, i < 10 → j < 10 → nh ≤ i ∨ nh ≤ j → S (i * 10 + j) = none := fun i j hi hj q => by
  cases e : S (i * 10 + j) with
  | none => rfl
  | some v =>
    have := h.2.2.1 i j v hi hj e
    omega
theorem vInv.hut (h : vInv ar fs sn ln nh np mi S w) {x : Nat} (hx : x ≤ 3) (hn : nh < 10) : vInv (va_up ar nh x) fs sn ln (nh + 1) np mi S w := by
  obtain ⟨⟨h1, h2, h3, h4, h5, h6⟩, h7, h8, h9, h10, h11, h12⟩ := h
  refine ⟨⟨h1, h2, h3, fun p hp => ⟨Nat.lt_succ_of_lt (h4 p hp).1, Nat.lt_succ_of_lt (h4 p hp).2.1, (h4 p hp).2.2⟩, by omega, h6⟩, fun j => ?_, fun a k v ha hk hs => ?_, h9, h10, h11, h12⟩
  · unfold va_up
    split
    · omega
    · exact h7 j
  · obtain ⟨a1, a2, a3, a4, a5, a6, a7, a8, a9, a10⟩ := h8 a k v ha hk hs
    refine ⟨Nat.lt_succ_of_lt a1, Nat.lt_succ_of_lt a2, a3, a4, a5, a6, a7, a8, a9.imp_right (fun z => ?_), a10⟩
    unfold mTakes at z ⊢
    rw [va_up_ne _ _ (show a ≠ nh by omega), va_up_ne _ _ (show k ≠ nh by omega)]
    exact z
theorem vInv.pass (h : vInv ar fs sn ln nh np mi S w) {x y z : Nat} (hx : x < nh) (hy : y < nh) (hxy : x ≠ y) (hz1 : 1 ≤ z) (hz2 : z ≤ 99) (hn : np < 20) : vInv ar (va_up fs np x) (va_up sn np y) (va_up ln np z) nh (np + 1) mi S w := by
  obtain ⟨⟨h1, h2, h3, h4, h5, h6⟩, h7, h8, h9, h10, h11, h12⟩ := h
  refine ⟨⟨fun j => ?_, fun j => ?_, fun j => ?_, fun p hp => ?_, h5, by omega⟩, h7, fun a k v ha hk hs => ?_, h9, h10, h11, h12⟩
  · unfold va_up
    split
    · omega
    · exact h1 j
  · unfold va_up
    split
    · omega
    · exact h2 j
  · unfold va_up
    split
    · omega
    · exact h3 j
  · by_cases q : p = np
    · subst q
      rw [va_up_self, va_up_self, va_up_self]
      omega
    · rw [va_up_ne _ _ q, va_up_ne _ _ q, va_up_ne _ _ q]
      exact h4 p (by omega)
  · obtain ⟨a1, a2, a3, a4, a5, a6, a7, a8, a9, a10⟩ := h8 a k v ha hk hs
    exact ⟨a1, a2, a3, a4, a5, a6, a7, fun p hp => a8 p (by omega), a9, a10⟩
theorem vInv.length (h : vInv ar fs sn ln nh np mi S w) {q x : Nat} (hz1 : 1 ≤ x) (hz2 : x ≤ 99) : vInv ar fs sn (va_up ln q x) nh np mi S w := by
  obtain ⟨⟨h1, h2, h3, h4, h5, h6⟩, h7, h8, h9, h10, h11, h12⟩ := h
  refine ⟨⟨h1, h2, fun j => ?_, fun p hp => ⟨(h4 p hp).1, (h4 p hp).2.1, (h4 p hp).2.2.1, ?_⟩, h5, h6⟩, h7, h8, h9, h10, h11, h12⟩
  · unfold va_up
    split
    · omega
    · exact h3 j
  · unfold va_up
    split
    · omega
    · exact (h4 p hp).2.2.2
theorem vBurn_some {h j : Nat} {v : mS} (q : vBurn S h j = some v) : S j = some v := by
  unfold vBurn at q
  split at q
  · cases q
  · exact q
theorem vInv.burn (h : vInv ar fs sn ln nh np mi S w) {x : Nat} : vInv ar fs sn ln nh np mi (vBurn S x) w := by
  obtain ⟨h1, h7, h8, h9, h10, h11, h12⟩ := h
  refine ⟨h1, h7, fun a k v ha hk hs => h8 a k v ha hk (vBurn_some hs), fun a1 a2 k v1 v2 q1 q2 q3 q4 q5 q6 => h9 a1 a2 k v1 v2 q1 q2 q3 (vBurn_some q4) (vBurn_some q5) q6, fun j hj => ?_, h11, h12⟩
  unfold vBurn
  split
  · rfl
  · exact h10 j hj
theorem vInv.go (h : vInv ar fs sn ln nh np mi S w) {op : Nat → Bool} {g : Nat} : vInv ar fs sn ln nh np (mi + g) (vMins ar fs sn ln op nh np mi (S, w, 0) g).1 (vMins ar fs sn ln op nh np mi (S, w, 0) g).2.1 := vInv_mins h g
end VI
/-! what is done to the rows -/
section KS
variable {G : kG} {nn np mi : Nat} {M L L' : List Nat} {f f' : Nat → va_E} {ro ro' : Nat → Nat} {rr rr' : Nat → Nat → Nat} {rp : Nat → Nat} {fs sn ln : Nat → Nat} {op : Nat → Bool} {SS : Nat → Option mS}
theorem kSim.hut (h : kSim G nn np mi M L f ro rr rp fs sn ln op SS) (hML : ∀ a ∈ M, a ∈ L) (q1 : ∀ y, y ∈ L → y ∈ L' ∧ f' y = f y) (q2 : ∀ i, i < nn + 1 → ro' i ∈ L' ∧ f' (ro' i) = .inl (G.2 3, nn + 1, .inr (.inr (.inr (.inr (kRn (nn + 1) (rr' i))))))) (q3 : ∀ i j, i < nn + 1 → j < nn + 1 → zRow G L' f' (rr' i j) mi (SS (i * 10 + j))) (q4 : ∀ i j, i < nn + 1 → j < nn + 1 → ro' i = ro' j → i = j) (q5 : ∀ i, i < nn + 1 → ro' i ∉ L) (q6 : ∀ i j, i < nn + 1 → j < nn + 1 → (∃ a b, a < nn ∧ b < nn ∧ rr' i j = rr a b) ∨ rr' i j ∉ L) : kSim G (nn + 1) np mi M L' f' ro' rr' rp fs sn ln op SS := by
  obtain ⟨h1, h2, h3, h4, h5, h6, h7, h8, h9⟩ := h
  refine ⟨q2, q3, fun i hi => ⟨(q1 _ (h3 i hi).1).1, (q1 _ (h3 i hi).1).2.trans (h3 i hi).2⟩, fun i hi z => q5 i hi (hML _ z), fun i j hi hj z => ?_, h6, q4, h8, fun i j q hi hj hq z => ?_⟩
  · rcases q6 i j hi hj with ⟨a, b, ha, hb, e⟩ | q
    · exact h5 a b ha hb (e ▸ z)
    · exact q (hML _ z)
  · rcases q6 i j hi hj with ⟨a, b, ha, hb, e⟩ | w
    · exact h9 a b q ha hb hq (e.symm.trans z)
    · exact w (z ▸ (h3 q hq).1)
theorem kSim.pass {yz a b x : Nat} (h : kSim G nn np mi M L f ro rr rp fs sn ln op SS) (hML : ∀ a ∈ M, a ∈ L) (q1 : ∀ y, y ∈ L → y ∈ L' ∧ f' y = f y) (q2 : yz ∉ L) (q3 : yz ∈ L') (q4 : f' yz = .inl (G.2 0, 4, .inl (kI (zP (va_up fs np a) (va_up sn np b) (va_up ln np x) (va_up op np true) np)))) : kSim G nn (np + 1) mi M L' f' ro rr (va_up rp np yz) (va_up fs np a) (va_up sn np b) (va_up ln np x) (va_up op np true) SS := by
  obtain ⟨h1, h2, h3, h4, h5, h6, h7, h8, h9⟩ := h
  refine ⟨fun i hi => ⟨(q1 _ (h1 i hi).1).1, (q1 _ (h1 i hi).1).2.trans (h1 i hi).2⟩, fun i j hi hj => (h2 i j hi hj).ext q1, fun i hi => ?_, h4, h5, fun i hi => ?_, h7, fun i j hi hj e => ?_, fun i j q hi hj hq z => ?_⟩
  · by_cases q : i = np
    · subst q
      rw [va_up_self]
      exact ⟨q3, q4⟩
    · rw [va_up_ne _ _ q, zP_ne q]
      have := h3 i (by omega)
      exact ⟨(q1 _ this.1).1, (q1 _ this.1).2.trans this.2⟩
  · by_cases q : i = np
    · subst q
      rw [va_up_self]
      exact fun z => q2 (hML _ z)
    · rw [va_up_ne _ _ q]
      exact h6 i (by omega)
  · by_cases q : i = np
    · by_cases q9 : j = np
      · omega
      · exfalso
        rw [q, va_up_self, va_up_ne _ _ q9] at e
        exact q2 (e ▸ (h3 j (by omega)).1)
    · by_cases q9 : j = np
      · exfalso
        rw [q9, va_up_self, va_up_ne _ _ q] at e
        exact q2 (e ▸ (h3 i (by omega)).1)
      · rw [va_up_ne _ _ q, va_up_ne _ _ q9] at e
        exact h8 i j (by omega) (by omega) e
  · by_cases e : q = np
    · rw [e, va_up_self] at z
      exact q2 (z ▸ (h2 i j hi hj).1)
    · rw [va_up_ne _ _ e] at z
      exact h9 i j q hi hj (by omega) z
/-- one pass's row is written anew -/
theorem kSim.row {q : Nat} {fs2 sn2 ln2 : Nat → Nat} {op2 : Nat → Bool} (h : kSim G nn np mi M L f ro rr rp fs sn ln op SS) (hq : q < np) {g : Nat → Int32} (hg : g = kI (zP fs2 sn2 ln2 op2 q)) (ho : ∀ i, i ≠ q → zP fs2 sn2 ln2 op2 i = zP fs sn ln op i) : kSim G nn np mi M L (va_up f (rp q) (.inl (G.2 0, 4, .inl g))) ro rr rp fs2 sn2 ln2 op2 SS := by
  obtain ⟨h1, h2, h3, h4, h5, h6, h7, h8, h9⟩ := h
  refine ⟨fun i hi => ⟨(h1 i hi).1, ?_⟩, fun i j hi hj => (h2 i j hi hj).to (h2 i j hi hj).1 (va_up_ne _ _ (h9 i j q hi hj hq)), fun i hi => ⟨(h3 i hi).1, ?_⟩, h4, h5, h6, h7, h8, h9⟩
  · have hne : ro i ≠ rp q := fun z => zE_ne (h1 i hi).2 (h3 q hq).2 z.symm
    rw [va_up_ne _ _ hne]
    exact (h1 i hi).2
  · by_cases e : i = q
    · subst e
      rw [va_up_self, hg]
    · have hne : rp i ≠ rp q := fun z => e (h8 i q hi hq z)
      rw [va_up_ne _ _ hne, ho i e]
      exact (h3 i hi).2
theorem kSim.set {a k y len : Nat} {g : Nat → Nat} {S2 : Nat → Option mS} (h : kSim G nn np mi M L f ro rr rp fs sn ln op SS) (hML : ∀ a ∈ M, a ∈ L) (ha : a < nn) (hk : k < nn) (hnn : nn ≤ 10) (hy : y ∉ L) (hv : zVal mi (S2 (a * 10 + k)) len g) (hS : ∀ i j, i < 10 → j < 10 → ¬ (i = a ∧ j = k) → S2 (i * 10 + j) = SS (i * 10 + j)) :
    kSim G nn np mi M (L ++ [y]) (va_up (va_up f y (.inl (G.2 0, len, .inl (kI g)))) (ro a) (.inl (G.2 3, nn, .inr (.inr (.inr (.inr (kRn nn (va_up (rr a) k y)))))))) ro (va_up rr a (va_up (rr a) k y)) rp fs sn ln op S2 ∧ ∀ b ∈ M, va_up (va_up f y (.inl (G.2 0, len, .inl (kI g)))) (ro a) (.inl (G.2 3, nn, .inr (.inr (.inr (.inr (kRn nn (va_up (rr a) k y))))))) b = f b := by
  obtain ⟨h1, h2, h3, h4, h5, h6, h7, h8, h9⟩ := h
  have hny : ∀ x, x ∈ L → x ≠ y := fun x hx z => hy (z ▸ hx)
  have keep : ∀ x, x ∈ L → x ≠ ro a → va_up (va_up f y (.inl (G.2 0, len, .inl (kI g)))) (ro a) (.inl (G.2 3, nn, .inr (.inr (.inr (.inr (kRn nn (va_up (rr a) k y))))))) x = f x := fun x hx hq => by rw [va_up_ne _ _ hq, va_up_ne _ _ (hny x hx)]
  have e1 : va_up rr a (va_up (rr a) k y) a k = y := by rw [va_up_self, va_up_self]
  have e2 : ∀ i j, ¬ (i = a ∧ j = k) → va_up rr a (va_up (rr a) k y) i j = rr i j := fun i j q => by
    by_cases q1 : i = a
    · subst q1
      rw [va_up_self, va_up_ne _ _ (fun z => q ⟨rfl, z⟩)]
    · rw [va_up_ne _ _ q1]
  refine ⟨⟨fun i hi => ⟨List.mem_append_left _ (h1 i hi).1, ?_⟩, fun i j hi hj => ?_, fun i hi => ⟨List.mem_append_left _ (h3 i hi).1, ?_⟩, h4, fun i j hi hj => ?_, h6, h7, h8, fun i j q hi hj hq => ?_⟩, fun b hb => keep b (hML b hb) (fun z => h4 a ha (z ▸ hb))⟩
  · by_cases q : i = a
    · subst q
      rw [va_up_self, va_up_self]
    · have hq : ro i ≠ ro a := fun z => q (h7 i a hi ha z)
      rw [keep _ (h1 i hi).1 hq, va_up_ne _ _ q]
      exact (h1 i hi).2
  · by_cases q : i = a ∧ j = k
    · rw [q.1, q.2, e1]
      refine ⟨List.mem_append_right _ List.mem_cons_self, len, g, ?_, hv⟩
      rw [va_up_ne _ _ (fun z => hny _ (h1 a ha).1 z.symm), va_up_self]
    · rw [e2 i j q, hS i j (by omega) (by omega) q]
      have hr := h2 i j hi hj
      exact hr.to (List.mem_append_left _ hr.1) (keep _ hr.1 (hr.ne (h1 a ha).2))
  · rw [keep _ (h3 i hi).1 (zE_ne (h1 a ha).2 (h3 i hi).2)]
    exact (h3 i hi).2
  · by_cases q : i = a ∧ j = k
    · rw [q.1, q.2, e1]
      exact fun z => hy (hML _ z)
    · rw [e2 i j q]
      exact h5 i j hi hj
  · by_cases e : i = a ∧ j = k
    · rw [e.1, e.2, e1]
      exact fun z => hy (z ▸ (h3 q hq).1)
    · rw [e2 i j e]
      exact h9 i j q hi hj hq
theorem kSim.go {S2 : Nat → Option mS} {mj : Nat} (h : kSim G nn np mi M L f ro rr rp fs sn ln op SS) (hML : ∀ a ∈ M, a ∈ L) (q1 : ∀ y, y ∈ L → y ∈ L' ∧ ((∀ i, i < nn → y ≠ ro i) → f' y = f y)) (q2 : ∀ i, i < nn → ro' i ∈ L' ∧ f' (ro' i) = .inl (G.2 3, nn, .inr (.inr (.inr (.inr (kRn nn (rr' i))))))) (q3 : ∀ i j, i < nn → j < nn → zRow G L' f' (rr' i j) mj (S2 (i * 10 + j))) (q4 : ∀ i j, i < nn → j < nn → ro' i = ro' j → i = j) (q5 : ∀ i, i < nn → ro' i ∉ L) (q6 : ∀ i j, i < nn → j < nn → rr' i j ∉ L) : kSim G nn np mj M L' f' ro' rr' rp fs sn ln op S2 ∧ ∀ a ∈ M, f' a = f a := by
  obtain ⟨h1, h2, h3, h4, h5, h6, h7, h8, h9⟩ := h
  refine ⟨⟨q2, q3, fun i hi => ?_, fun i hi z => q5 i hi (hML _ z), fun i j hi hj z => q6 i j hi hj (hML _ z), h6, q4, h8, fun i j q hi hj hq z => q6 i j hi hj (z ▸ (h3 q hq).1)⟩, fun a ha => (q1 a (hML a ha)).2 (fun i hi e => h4 i hi (e ▸ ha))⟩
  have z := q1 _ (h3 i hi).1
  exact ⟨z.1, (z.2 (fun j hj e => zE_ne (h1 j hj).2 (h3 i hi).2 e)).trans (h3 i hi).2⟩
end KS
/-! small things of the acts -/
theorem kw_fn {D : va_G} {cl : List vw_C} {A : Nat → Prop} {ws : va_W} {H : Heap} (hP : va_P D cl ws H) (hD : va_D A ws) (q0 : Nat) {a n : Nat} {cA : ClassId} {g : Nat → Int32} (g' : Nat → Int32) (he : ws[q0]? = some (a, .inl (cA, n, .inl g))) (hg : ∀ j, j < n → g j = g' j) : va_P D cl (ws.set q0 (a, .inl (cA, n, .inl g'))) H ∧ va_D A (ws.set q0 (a, .inl (cA, n, .inl g'))) := by
  refine ⟨hP.set hD he ?_ (fun _ _ => rfl), hD.set he⟩
  have h0 : H[a]? = some (vp_cell cA (n, .inl g)) := hP q0 _ he
  show H[a]? = some (vp_cell cA (n, .inl g'))
  rw [h0, vp_cell_i, vp_cell_i]
  unfold arrV
  congr 2
  congr 1
  funext j
  exact congrArg Value.int (hg j.val j.isLt)
theorem mNext {h k n : Nat} (hh : h < n) (hk : k < n - 1) : (h + 1 + k) % n < n ∧ h ≠ (h + 1 + k) % n := by
  rcases Nat.lt_or_ge (h + 1 + k) n with q | q
  · rw [Nat.mod_eq_of_lt q]
    omega
  · rw [Nat.mod_eq_sub_mod q, Nat.mod_eq_of_lt (by omega)]
    omega
theorem zP_len {fs sn ln : Nat → Nat} {op : Nat → Bool} {q x : Nat} : va_up (zP fs sn ln op q) 2 x = zP fs sn (va_up ln q x) op q := by
  funext j
  unfold zP va_up
  by_cases h : j = 2
  · subst h
    simp
  · simp [h]
theorem zP_len_ne {fs sn ln : Nat → Nat} {op : Nat → Bool} {q x i : Nat} (h : i ≠ q) : zP fs sn (va_up ln q x) op i = zP fs sn ln op i := by
  unfold zP
  rw [va_up_ne _ _ h]
theorem zP_opn {fs sn ln : Nat → Nat} {op : Nat → Bool} {q : Nat} {x : Bool} : va_up (zP fs sn ln op q) 3 (if x = true then 1 else 0) = zP fs sn ln (va_up op q x) q := by
  funext j
  unfold zP
  rw [va_up_self]
  unfold va_up
  by_cases h : j = 3
  · subst h
    simp
  · simp [h]
theorem zP_opn_ne {fs sn ln : Nat → Nat} {op : Nat → Bool} {q i : Nat} {x : Bool} (h : i ≠ q) : zP fs sn ln (va_up op q x) i = zP fs sn ln op i := by
  unfold zP
  rw [va_up_ne _ _ h]
def zBu (S : Nat → Option mS) (h k : Nat) : Nat → Option mS := fun j => if h * 10 ≤ j ∧ j < h * 10 + k then none else S j
theorem zBu_0 {S : Nat → Option mS} {h : Nat} : zBu S h 0 = S := by
  funext j
  unfold zBu
  rw [if_neg (by omega)]
theorem zBu_at {S : Nat → Option mS} {h k : Nat} : zBu S h (k + 1) (h * 10 + k) = none := by
  unfold zBu
  rw [if_pos (by omega)]
theorem zBu_ne {S : Nat → Option mS} {h k : Nat} (hk : k < 10) : ∀ i j, i < 10 → j < 10 → ¬ (i = h ∧ j = k) → zBu S h (k + 1) (i * 10 + j) = zBu S h k (i * 10 + j) := fun i j hi hj q => by
  unfold zBu
  by_cases c : h * 10 ≤ i * 10 + j ∧ i * 10 + j < h * 10 + k
  · rw [if_pos c, if_pos (by omega)]
  · rw [if_neg c, if_neg (by omega)]
section VZ
variable {ar fs sn ln : Nat → Nat} {nh np mi : Nat} {S : Nat → Option mS} {w : Nat → Nat}
theorem zBu_n (hV : vInv ar fs sn ln nh np mi S w) {h : Nat} (hh : h < nh) (hn : nh ≤ 10) : zBu S h nh = vBurn S h := by
  funext j
  unfold zBu vBurn
  by_cases c : h * 10 ≤ j ∧ j < h * 10 + nh
  · rw [if_pos c, if_pos (by omega)]
  · rw [if_neg c]
    by_cases d : h * 10 ≤ j ∧ j < h * 10 + 10
    · rw [if_pos d]
      have := hV.none h (j - h * 10) (by omega) (by omega) (by omega)
      rw [show h * 10 + (j - h * 10) = j by omega] at this
      exact this
    · rw [if_neg d]
theorem mCnt_none {P : Nat → Bool} {n : Nat} : ∀ k, (∀ i, n ≤ i → i < n + k → P i = false) → mCnt P (n + k) = mCnt P n
  | 0, _ => rfl
  | k + 1, h => by
    rw [show n + (k + 1) = (n + k) + 1 by omega, mCnt_f (h (n + k) (by omega) (by omega))]
    exact mCnt_none k (fun i h1 h2 => h i h1 (by omega))
theorem vHas_z (hV : vInv ar fs sn ln nh np mi S w) {h : Nat} (hh : h < 10) (hn : nh ≤ 10) : vHas S h = zHas S nh h := by
  unfold vHas zHas
  have := mCnt_none (P := fun o => (S (h * 10 + o)).isSome) (n := nh) (10 - nh) (fun i h1 h2 => by
    show (S (h * 10 + i)).isSome = false
    rw [hV.none h i hh (by omega) (Or.inr h1)]
    rfl)
  rw [show nh + (10 - nh) = 10 by omega] at this
  exact this
theorem vMin_w0 {op : Nat → Bool} {st : vST} (hn : nh ≤ 10) (h : ∀ j, nh ≤ j → st.2.1 j = 0) : ∀ j, nh ≤ j → (vMin ar fs sn ln op nh np mi st).2.1 j = 0 := fun j hj => by
  show (vWrite mi fs sn ln op np st nh).2.1 j = 0
  rw [(vWrite_at (mi := mi) (fs := fs) (sn := sn) (ln := ln) (op := op) (np := np) (st := st) nh hn).2 j, if_neg (by omega)]
  exact h j hj
theorem vMins_w0 {op : Nat → Bool} {st : vST} (hn : nh ≤ 10) (h : ∀ j, nh ≤ j → st.2.1 j = 0) : ∀ g j, nh ≤ j → (vMins ar fs sn ln op nh np mi st g).2.1 j = 0
  | 0, j, hj => h j hj
  | g + 1, j, hj => vMin_w0 (mi := mi + g) hn (vMins_w0 hn h g) j hj
theorem vMins_s {op : Nat → Bool} {g : Nat} : vMins ar fs sn ln op nh np mi (S, w, 0) (g + 1) = ((vMin ar fs sn ln op nh np (mi + g) ((vMins ar fs sn ln op nh np mi (S, w, 0) g).1, (vMins ar fs sn ln op nh np mi (S, w, 0) g).2.1, 0)).1, (vMin ar fs sn ln op nh np (mi + g) ((vMins ar fs sn ln op nh np mi (S, w, 0) g).1, (vMins ar fs sn ln op nh np mi (S, w, 0) g).2.1, 0)).2.1, (vMins ar fs sn ln op nh np mi (S, w, 0) g).2.2 + (vMin ar fs sn ln op nh np (mi + g) ((vMins ar fs sn ln op nh np mi (S, w, 0) g).1, (vMins ar fs sn ln op nh np mi (S, w, 0) g).2.1, 0)).2.2) := by
  show vMin ar fs sn ln op nh np (mi + g) (vMins ar fs sn ln op nh np mi (S, w, 0) g) = _
  generalize vMins ar fs sn ln op nh np mi (S, w, 0) g = z
  obtain ⟨z1, z2, z3⟩ := z
  dsimp only
  have e1 := vMin_cnt (ar := ar) (fs := fs) (sn := sn) (ln := ln) (op := op) (nh := nh) (np := np) (mi := mi + g) (k := z3) (S := z1) (w := z2)
  have e2 : ∀ x k : Nat, (vMin ar fs sn ln op nh np (mi + g) (z1, z2, k)).2.2 = k + (vMin ar fs sn ln op nh np (mi + g) (z1, z2, 0)).2.2 := fun _ k => by
    have q1 := vMin_eq (ar := ar) (nh := nh) (k := k) (fs := fs) (sn := sn) (ln := ln) (op := op) (np := np) (mi := mi + g) (S := z1) (w := z2) (S3 := (vWrite (mi + g) fs sn ln op np (z1, z2, 0) nh).1) (w3 := (vWrite (mi + g) fs sn ln op np (z1, z2, 0) nh).2.1) (k3 := (vWrite (mi + g) fs sn ln op np (z1, z2, 0) nh).2.2) rfl
    rw [q1]
    rfl
  refine Prod.ext e1.1 (Prod.ext e1.2 ?_)
  exact e2 0 z3
end VZ
theorem kb_tabOut {p : Program} {l : Launch} {e : Env} {R : Room} {s : State} {m : MethodId} {args : Array Value} {below : List Frame} {meth : Method} {c : Code} {H : Heap} {locs : List Loc} {cells slots : Nat} {Q : State → Prop} {cc : ByteArray} {pc : Nat} {ls : Array Slot} {rest : List Value} (hexec : p.tables.exec = Jvm.exec) (hb : c.code = cc) {dflt : Int} {hi : Nat} {offs : Array Int} {len x tgt : Nat} (hdg : decode cc pc = .ok (.tableswitch dflt 0 (hi : Int) offs, len)) (h : hi < x) (hx : x < 2 ^ 31) (ht : (pc : Int) + dflt = (tgt : Int))
    (k : W p l e R s m args below meth c H locs cells slots Q (F0 m tgt ls rest)) : W p l e R s m args below meth c H locs cells slots Q (F0 m pc ls (.int (nI x) :: rest)) :=
  lv_tableOut hexec hb hdg (Or.inr (by rw [nI_toInt hx]; omega)) ht k
