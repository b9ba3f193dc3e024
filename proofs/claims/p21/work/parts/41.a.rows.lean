/-! AN OBJECT'S CONTRACT OVER A POOL THAT HOLDS MORE. -/
section KO
variable {l : Launch} {G : kG} {y : MethodName} {ws : List Cond} {rm : Room} {sz mc ms : Nat} {av : List Value}
theorem ko_mem {L : List Nat} {f : Nat → va_E} {c : Nat × va_E} (h1 : c.1 ∈ L) (h2 : f c.1 = c.2) : ∃ k : Nat, (([] : va_W) ++ va_pl L f)[k]? = some c := by
  obtain ⟨k, hk⟩ := va_pl_get (X := []) (f := f) h1
  refine ⟨k, hk.trans ?_⟩
  rw [h2]
/-- the addresses of a world, apart -/
theorem ko_nd {A : Nat → Prop} : ∀ {ws : va_W}, va_D A ws → (ws.map Prod.fst).Nodup
  | [], _ => List.nodup_nil
  | c :: ws, h => by
    rw [List.map_cons, List.nodup_cons]
    refine ⟨fun z => ?_, ko_nd ⟨fun i j p q h1 h2 e => Nat.succ.inj (h.1 (i + 1) (j + 1) p q h1 h2 e), fun k q h1 => h.2 (k + 1) q h1⟩⟩
    obtain ⟨q, h1, h2⟩ := List.mem_map.mp z
    obtain ⟨k, hk⟩ := List.getElem?_of_mem h1
    exact Nat.noConfusion (h.1 0 (k + 1) c q rfl hk h2.symm)
theorem ko_D {A : Nat → Prop} : ∀ {ws : va_W}, (ws.map Prod.fst).Nodup → (∀ c ∈ ws, A c.1) → va_D A ws
  | [], _, _ => ⟨fun i j p q h _ _ => (by cases h), fun k q h => (by cases h)⟩
  | c :: ws, h, ha => by
    rw [List.map_cons, List.nodup_cons] at h
    have ih := ko_D h.2 (fun c hc => ha c (List.mem_cons_of_mem _ hc))
    have hne : ∀ (k : Nat) (q : Nat × va_E), ws[k]? = some q → c.1 ≠ q.1 := fun k q hk z => h.1 (z ▸ List.mem_map.mpr ⟨q, List.mem_of_getElem? hk, rfl⟩)
    refine ⟨fun i j p q h1 h2 e => ?_, fun k q hk => ha q (List.mem_of_getElem? hk)⟩
    cases i with
    | zero =>
      cases j with
      | zero => rfl
      | succ j =>
        cases h1
        exact absurd e (hne j q h2)
    | succ i =>
      cases j with
      | zero =>
        cases h2
        exact absurd e.symm (hne i p h1)
      | succ j => exact congrArg Nat.succ (ih.1 i j p q h1 h2 e)
theorem ko_pl (L : List Nat) (f : Nat → va_E) : ((va_pl L f).map Prod.fst) = L := by
  unfold va_pl
  rw [List.map_map]
  exact List.map_id' L
/-- the value that stands at an address of a world, else as before -/
def ko_f (f : Nat → va_E) (W : va_W) : Nat → va_E := fun a => match W.find? (fun c => c.1 == a) with
  | some c => c.2
  | none => f a
theorem ko_f_in {A : Nat → Prop} {f : Nat → va_E} {W : va_W} (h : va_D A W) {c : Nat × va_E} (hc : c ∈ W) : ko_f f W c.1 = c.2 := by
  unfold ko_f
  cases e : W.find? (fun d => d.1 == c.1) with
  | none => exact absurd (List.find?_eq_none.mp e c hc) (by simp)
  | some d =>
    have h1 := List.mem_of_find?_eq_some e
    have h2 : d.1 = c.1 := by simpa using List.find?_some e
    obtain ⟨i, hi⟩ := List.getElem?_of_mem h1
    obtain ⟨j, hj⟩ := List.getElem?_of_mem hc
    have := h.1 i j d c hi hj h2
    subst this
    rw [hi] at hj
    cases hj
    rfl
theorem ko_f_out {f : Nat → va_E} {W : va_W} {a : Nat} (h : ∀ c ∈ W, c.1 ≠ a) : ko_f f W a = f a := by
  unfold ko_f
  rw [List.find?_eq_none.mpr (fun c hc => by simpa using h c hc)]
/-- what a call over the world Wc makes of a pool -/
def ko_L (L : List Nat) (Wc W1 : va_W) : List Nat := L.filter (fun a => !((Wc.map Prod.fst).contains a)) ++ W1.map Prod.fst
theorem ko_L_in {L : List Nat} {Wc W1 : va_W} {c : Nat × va_E} (h : c ∈ W1) : c.1 ∈ ko_L L Wc W1 := List.mem_append_right _ (List.mem_map.mpr ⟨c, h, rfl⟩)
theorem ko_L_out {L : List Nat} {Wc W1 : va_W} {a : Nat} (h : a ∈ L) (h2 : ∀ c ∈ Wc, c.1 ≠ a) : a ∈ ko_L L Wc W1 := by
  refine List.mem_append_left _ (List.mem_filter.mpr ⟨h, ?_⟩)
  simp only [Bool.not_eq_true', List.contains_eq_mem, decide_eq_false_iff_not, List.mem_map, not_exists, not_and]
  exact fun c hc e => h2 c hc e
theorem ko_L_of {L : List Nat} {Wc W1 : va_W} {a : Nat} (h : a ∈ ko_L L Wc W1) : (a ∈ L ∧ ∀ c ∈ Wc, c.1 ≠ a) ∨ ∃ c ∈ W1, c.1 = a := by
  rcases List.mem_append.mp h with h | h
  · obtain ⟨h1, h2⟩ := List.mem_filter.mp h
    refine Or.inl ⟨h1, fun c hc e => ?_⟩
    simp only [Bool.not_eq_true', List.contains_eq_mem, decide_eq_false_iff_not, List.mem_map, not_exists, not_and] at h2
    exact h2 c hc e
  · obtain ⟨c, h1, h2⟩ := List.mem_map.mp h
    exact Or.inr ⟨c, h1, h2⟩
/-- the pool behind a call, and that its cells stand -/
theorem ko_join {L M : List Nat} {f : Nat → va_E} {Wc W1 : va_W} {st t : State} (hP : va_P G.1 vwCl (([] : va_W) ++ va_pl L f) st.heap) (hD : va_D (fun _ => True) (([] : va_W) ++ va_pl L f)) (hc : ∀ c ∈ Wc, c.1 ∈ M ∧ f c.1 = c.2) (hML : ∀ a ∈ M, a ∈ L) (hF : va_F (va_A Wc st.heap.size) st t) (hP1 : va_P G.1 vwCl W1 t.heap) (hD1 : va_D (va_A Wc st.heap.size) W1) :
    va_P G.1 vwCl (([] : va_W) ++ va_pl (ko_L L Wc W1) (ko_f f W1)) t.heap ∧ va_D (va_A (([] : va_W) ++ va_pl L f) st.heap.size) (([] : va_W) ++ va_pl (ko_L L Wc W1) (ko_f f W1)) ∧ (∀ a, va_A Wc st.heap.size a → va_A (([] : va_W) ++ va_pl L f) st.heap.size a) ∧ (∀ a, a ∈ L → (∀ c ∈ Wc, c.1 ≠ a) → ∀ c ∈ W1, c.1 ≠ a) := by
  have hA : ∀ a, va_A Wc st.heap.size a → va_A (([] : va_W) ++ va_pl L f) st.heap.size a := fun a h => by
    rcases h with ⟨k, e, h⟩ | h
    · have h1 := hc _ (List.mem_of_getElem? h)
      obtain ⟨k2, h2⟩ := ko_mem (c := (a, e)) (hML _ h1.1) h1.2
      exact Or.inl ⟨k2, e, h2⟩
    · exact Or.inr h
  have hlt : ∀ a, a ∈ L → a < st.heap.size := fun a ha => by
    obtain ⟨k, hk⟩ := va_pl_get (X := []) (f := f) ha
    exact (hP k _ hk).lt
  have hnA : ∀ a, a ∈ L → (∀ c ∈ Wc, c.1 ≠ a) → ¬ va_A Wc st.heap.size a := fun a ha h z => by
    rcases z with ⟨k, e, z⟩ | z
    · exact h _ (List.mem_of_getElem? z) rfl
    · exact absurd (hlt a ha) (by omega)
  have hout : ∀ a, a ∈ L → (∀ c ∈ Wc, c.1 ≠ a) → ∀ c ∈ W1, c.1 ≠ a := fun a ha h c hc1 e => by
    obtain ⟨k, hk⟩ := List.getElem?_of_mem hc1
    exact hnA a ha h (e ▸ hD1.2 k c hk)
  refine ⟨fun k q hk => ?_, ko_D ?_ (fun c hc1 => ?_), hA, hout⟩
  · obtain ⟨a, ha, e⟩ := List.mem_map.mp (List.mem_of_getElem? hk)
    subst e
    rcases ko_L_of ha with ⟨h1, h2⟩ | ⟨c, h1, h2⟩
    · rw [ko_f_out (hout a h1 h2)]
      obtain ⟨k2, hk2⟩ := va_pl_get (X := []) (f := f) h1
      have h3 : va_P G.1 vwCl [(a, f a)] st.heap := fun j q hj => by
        have : j = 0 := by
          have := (List.getElem?_eq_some_iff.mp hj).1
          simp at this
          exact this
        subst this
        cases hj
        exact hP k2 _ hk2
      refine (h3.kept (H1 := t.heap) (fun j q hj => ?_)) 0 _ rfl
      have : j = 0 := by
        have := (List.getElem?_eq_some_iff.mp hj).1
        simp at this
        exact this
      subst this
      cases hj
      exact hF.2 a (hlt a h1) (hnA a h1 h2)
    · obtain ⟨j, hj⟩ := List.getElem?_of_mem h1
      rw [← h2, ko_f_in hD1 h1]
      exact hP1 j _ hj
  · show ((va_pl _ _).map Prod.fst).Nodup
    rw [ko_pl]
    have n1 : L.Nodup := by
      have := ko_nd (ws := va_pl L f) hD
      rwa [ko_pl] at this
    refine List.nodup_append.mpr ⟨n1.filter _, ko_nd hD1, fun a ha b hb e => ?_⟩
    subst e
    obtain ⟨h1, h2⟩ := List.mem_filter.mp ha
    obtain ⟨c, h3, h4⟩ := List.mem_map.mp hb
    refine hout a h1 (fun c hc e => ?_) c h3 h4
    simp only [Bool.not_eq_true', List.contains_eq_mem, decide_eq_false_iff_not, List.mem_map, not_exists, not_and] at h2
    exact h2 c hc e
  · obtain ⟨a, ha, e⟩ := List.mem_map.mp hc1
    subst e
    rcases ko_L_of ha with ⟨h1, h2⟩ | ⟨c, h1, h2⟩
    · obtain ⟨k2, hk2⟩ := va_pl_get (X := []) (f := f) h1
      exact Or.inl ⟨k2, _, hk2⟩
    · obtain ⟨j, hj⟩ := List.getElem?_of_mem h1
      exact hA a (h2 ▸ hD1.2 j c hj)
theorem ko_pre {L M : List Nat} {f : Nat → va_E} {Wc : va_W} {H : Heap} (hP : va_P G.1 vwCl (([] : va_W) ++ va_pl L f) H) (hc : ∀ c ∈ Wc, c.1 ∈ M ∧ f c.1 = c.2) (hML : ∀ a ∈ M, a ∈ L) : va_P G.1 vwCl Wc H := fun k q hk => by
  have h1 := hc _ (List.mem_of_getElem? hk)
  obtain ⟨k2, h2⟩ := ko_mem (c := q) (hML _ h1.1) h1.2
  exact hP k2 q h2
/-- a reader -/
theorem ko_R {Q : Array Value → State → Outcome → State → Prop} {Wc : va_W} (h : Met l y ws rm (kPre G Wc av) Q 0 0 (fun _ => False)) {L M : List Nat} {f : Nat → va_E} (hc : ∀ c ∈ Wc, c.1 ∈ M ∧ f c.1 = c.2) (hML : ∀ a ∈ M, a ∈ L) : Met l y ws rm (kPre G (([] : va_W) ++ va_pl L f) av) Q 0 0 (fun _ => False) :=
  MetFree.mono h (fun a s hp => ⟨hp.1, ko_pre hp.2.1 hc hML, hp.2.2⟩) (fun _ _ _ _ _ h => h) (fun _ _ _ _ _ h => h)
abbrev kU : Type := List Nat × List Nat × (Nat → va_E)
/-- the frame: what is not the object's stands -/
def kFr (L M : List Nat) (f : Nat → va_E) (u : kU) : Prop := (∀ a ∈ u.1, a ∈ u.2.1) ∧ ∀ a, a ∈ L → a ∉ M → a ∈ u.2.1 ∧ u.2.2 a = f a ∧ a ∉ u.1
section One
variable {S : Type} {Wc : va_W} {wo : S → va_W} {L M : List Nat} {f : Nat → va_E} {K : List Nat → (Nat → va_E) → Prop}
/-- what must be shown of a call: what was not touched stands, what comes back stands -/
def kGo (Wc W1 : va_W) (M : List Nat) (f : Nat → va_E) (an : Prop) (K : List Nat → (Nat → va_E) → Prop) : Prop := va_D (fun _ => True) W1 → ∀ (M1 : List Nat) (f1 : Nat → va_E), (∀ c ∈ W1, c.1 ∈ M1 ∧ f1 c.1 = c.2) → (∀ a, a ∈ M → (∀ c ∈ Wc, c.1 ≠ a) → a ∈ M1 ∧ f1 a = f a ∧ ∀ c ∈ W1, c.1 ≠ a) → an ∧ K M1 f1
theorem ko_end {an : Prop} {W1 : va_W} {st t : State} (hP : va_P G.1 vwCl (([] : va_W) ++ va_pl L f) st.heap) (hD : va_D (fun _ => True) (([] : va_W) ++ va_pl L f)) (hc : ∀ c ∈ Wc, c.1 ∈ M ∧ f c.1 = c.2) (hML : ∀ a ∈ M, a ∈ L) (hF : va_F (va_A Wc st.heap.size) st t) (hP1 : va_P G.1 vwCl W1 t.heap) (hD1 : va_D (va_A Wc st.heap.size) W1) (hg : kGo Wc W1 M f an K) :
    ∃ u : kU, an ∧ (K u.1 u.2.2 ∧ kFr L M f u) ∧ kA G (va_A (([] : va_W) ++ va_pl L f) st.heap.size) (([] : va_W) ++ va_pl u.2.1 u.2.2) t := by
  obtain ⟨h1, h2, h3, h4⟩ := ko_join hP hD hc hML hF hP1 hD1
  obtain ⟨g1, g2⟩ := hg (hD1.weaken (fun _ _ _ _ => trivial)) (ko_L M Wc W1) (ko_f f W1) (fun c hc1 => ⟨ko_L_in hc1, ko_f_in hD1 hc1⟩) (fun a ha hq => ⟨ko_L_out ha hq, ko_f_out (h4 a (hML a ha) hq), h4 a (hML a ha) hq⟩)
  refine ⟨(ko_L M Wc W1, ko_L L Wc W1, ko_f f W1), g1, ⟨g2, fun a ha => ?_, fun a ha hn => ?_⟩, h1, h2⟩
  · rcases ko_L_of ha with ⟨q1, q2⟩ | ⟨c, q1, q2⟩
    · exact ko_L_out (hML a q1) q2
    · exact q2 ▸ ko_L_in q1
  · have hq : ∀ c ∈ Wc, c.1 ≠ a := fun c hc1 e => hn (e ▸ (hc c hc1).1)
    have hq2 := h4 a ha hq
    refine ⟨ko_L_out ha hq, ko_f_out hq2, fun z => ?_⟩
    rcases ko_L_of z with ⟨q1, -⟩ | ⟨c, q1, q2⟩
    · exact hn q1
    · exact hq2 c q1 q2
theorem ko_i {post : Int32 → S → Prop} {an : Int32 → Prop} (h : Met l y ws rm (kPreM G Wc sz av) (va_Qi post (fun u t => kA G (va_A Wc sz) (wo u) t) (va_A Wc sz)) mc ms (va_A Wc sz)) (hc : ∀ c ∈ Wc, c.1 ∈ M ∧ f c.1 = c.2) (hd : va_D (fun _ => True) Wc) (hML : ∀ a ∈ M, a ∈ L) (hg : ∀ r u, post r u → kGo Wc (wo u) M f (an r) K) :
    Met l y ws rm (kPreM G (([] : va_W) ++ va_pl L f) sz av) (va_Qi (fun r (u : kU) => an r ∧ K u.1 u.2.2 ∧ kFr L M f u) (fun u t => kA G (va_A (([] : va_W) ++ va_pl L f) sz) (([] : va_W) ++ va_pl u.2.1 u.2.2) t) (va_A (([] : va_W) ++ va_pl L f) sz)) mc ms (va_A (([] : va_W) ++ va_pl L f) sz) := by
  refine MetFree.mono h (fun a s hp => ⟨hp.1, hp.2.1, ko_pre hp.2.2.1 hc hML, hp.2.2.2.1, hd⟩) (fun _ _ _ _ _ h => h) (fun a s o t hp hq => ?_)
  obtain ⟨⟨⟨r, u, e1, e2, e3, e4⟩, hF⟩, L9, hfr, hL9⟩ := hq
  obtain ⟨-, hsz, hP, -, hD⟩ := hp
  subst hsz
  obtain ⟨u2, g1, g2, g3⟩ := ko_end hP hD hc hML hF e3 e4 (hg r u e2)
  have hA := (ko_join hP hD hc hML hF e3 e4).2.2.1
  exact ⟨⟨⟨r, u2, e1, ⟨g1, g2⟩, g3⟩, hF.1, fun q h1 h2 => hF.2 q h1 (fun z => h2 (hA q z))⟩, L9, hfr, fun q hq => hA _ (hL9 q hq)⟩
theorem ko_l {post : Int64 → S → Prop} {an : Int64 → Prop} (h : Met l y ws rm (kPreM G Wc sz av) (va_Ql post (fun u t => kA G (va_A Wc sz) (wo u) t) (va_A Wc sz)) mc ms (va_A Wc sz)) (hc : ∀ c ∈ Wc, c.1 ∈ M ∧ f c.1 = c.2) (hd : va_D (fun _ => True) Wc) (hML : ∀ a ∈ M, a ∈ L) (hg : ∀ r u, post r u → kGo Wc (wo u) M f (an r) K) :
    Met l y ws rm (kPreM G (([] : va_W) ++ va_pl L f) sz av) (va_Ql (fun r (u : kU) => an r ∧ K u.1 u.2.2 ∧ kFr L M f u) (fun u t => kA G (va_A (([] : va_W) ++ va_pl L f) sz) (([] : va_W) ++ va_pl u.2.1 u.2.2) t) (va_A (([] : va_W) ++ va_pl L f) sz)) mc ms (va_A (([] : va_W) ++ va_pl L f) sz) := by
  refine MetFree.mono h (fun a s hp => ⟨hp.1, hp.2.1, ko_pre hp.2.2.1 hc hML, hp.2.2.2.1, hd⟩) (fun _ _ _ _ _ h => h) (fun a s o t hp hq => ?_)
  obtain ⟨⟨⟨r, u, e1, e2, e3, e4⟩, hF⟩, L9, hfr, hL9⟩ := hq
  obtain ⟨-, hsz, hP, -, hD⟩ := hp
  subst hsz
  obtain ⟨u2, g1, g2, g3⟩ := ko_end hP hD hc hML hF e3 e4 (hg r u e2)
  have hA := (ko_join hP hD hc hML hF e3 e4).2.2.1
  exact ⟨⟨⟨r, u2, e1, ⟨g1, g2⟩, g3⟩, hF.1, fun q h1 h2 => hF.2 q h1 (fun z => h2 (hA q z))⟩, L9, hfr, fun q hq => hA _ (hL9 q hq)⟩
theorem ko_d {post : UInt64 → S → Prop} {an : UInt64 → Prop} (h : Met l y ws rm (kPreM G Wc sz av) (va_Qd post (fun u t => kA G (va_A Wc sz) (wo u) t) (va_A Wc sz)) mc ms (va_A Wc sz)) (hc : ∀ c ∈ Wc, c.1 ∈ M ∧ f c.1 = c.2) (hd : va_D (fun _ => True) Wc) (hML : ∀ a ∈ M, a ∈ L) (hg : ∀ r u, post r u → kGo Wc (wo u) M f (an r) K) :
    Met l y ws rm (kPreM G (([] : va_W) ++ va_pl L f) sz av) (va_Qd (fun r (u : kU) => an r ∧ K u.1 u.2.2 ∧ kFr L M f u) (fun u t => kA G (va_A (([] : va_W) ++ va_pl L f) sz) (([] : va_W) ++ va_pl u.2.1 u.2.2) t) (va_A (([] : va_W) ++ va_pl L f) sz)) mc ms (va_A (([] : va_W) ++ va_pl L f) sz) := by
  refine MetFree.mono h (fun a s hp => ⟨hp.1, hp.2.1, ko_pre hp.2.2.1 hc hML, hp.2.2.2.1, hd⟩) (fun _ _ _ _ _ h => h) (fun a s o t hp hq => ?_)
  obtain ⟨⟨⟨r, u, e1, e2, e3, e4⟩, hF⟩, L9, hfr, hL9⟩ := hq
  obtain ⟨-, hsz, hP, -, hD⟩ := hp
  subst hsz
  obtain ⟨u2, g1, g2, g3⟩ := ko_end hP hD hc hML hF e3 e4 (hg r u e2)
  have hA := (ko_join hP hD hc hML hF e3 e4).2.2.1
  exact ⟨⟨⟨r, u2, e1, ⟨g1, g2⟩, g3⟩, hF.1, fun q h1 h2 => hF.2 q h1 (fun z => h2 (hA q z))⟩, L9, hfr, fun q hq => hA _ (hL9 q hq)⟩
end One
/-- the object's whole world behind a call that touched a part of it: X its explicit cells, cx those of the call, X2 the new ones, taken by places from what was not touched (wr) and what came back (rx) -/
theorem ko_new {M M1 : List Nat} {f f1 : Nat → va_E} {X cx wr X2 pl plc rx pl1 : va_W} (isC isR ks : List Nat) (hC : isC.map (fun i => X[i]?) = cx.map some) (hR : isR.map (fun i => X[i]?) = wr.map some) (hk : ks.map (fun i => (wr ++ rx)[i]?) = X2.map some) (hnk : va_nd ks = true) (hnR : va_nd isR = true) (hdis : ∀ i ∈ isR, i ∉ isC)
    (hD : va_D (fun a => a ∈ M) (X ++ pl)) (hf : ∀ c ∈ X ++ pl, f c.1 = c.2) (hsub : ∀ c ∈ plc, c ∈ pl) (hD1 : va_D (fun _ => True) (rx ++ pl1)) (hin : ∀ c ∈ rx ++ pl1, c.1 ∈ M1 ∧ f1 c.1 = c.2) (hout : ∀ a, a ∈ M → (∀ c ∈ cx ++ plc, c.1 ≠ a) → a ∈ M1 ∧ f1 a = f a ∧ ∀ c ∈ rx ++ pl1, c.1 ≠ a) :
    va_D (fun a => a ∈ M1) (X2 ++ pl1) ∧ ∀ c ∈ X2 ++ pl1, f1 c.1 = c.2 := by
  have hXin : ∀ (k : Nat) (q : Nat × va_E), X[k]? = some q → (X ++ pl)[k]? = some q := fun k q h => by
    rw [List.getElem?_append_left (List.getElem?_eq_some_iff.mp h).1]; exact h
  have hwr : ∀ (k : Nat) (q : Nat × va_E), wr[k]? = some q → q.1 ∈ M ∧ f q.1 = q.2 ∧ ∀ c ∈ cx ++ plc, c.1 ≠ q.1 := fun k q hq => by
    obtain ⟨i, h1, h2⟩ := va_in_of isR hR hq
    have h3 := hXin i q h2
    refine ⟨hD.2 i q h3, hf q (List.mem_of_getElem? h3), fun c hc e => ?_⟩
    rcases List.mem_append.mp hc with hc | hc
    · obtain ⟨k2, hk2⟩ := List.getElem?_of_mem hc
      obtain ⟨j, h5, h6⟩ := va_in_of isC hC hk2
      have := hD.1 j i c q (hXin j c h6) h3 e
      subst this
      exact hdis j (List.mem_of_getElem? h1) (List.mem_of_getElem? h5)
    · obtain ⟨k2, hk2⟩ := List.getElem?_of_mem (hsub c hc)
      have h7 : (X ++ pl)[X.length + k2]? = some c := by
        rw [List.getElem?_append_right (by omega)]
        rw [show X.length + k2 - X.length = k2 by omega]
        exact hk2
      have := hD.1 _ _ c q h7 h3 e
      have := (List.getElem?_eq_some_iff.mp h2).1
      omega
  have hall : ∀ c ∈ (wr ++ rx) ++ pl1, c.1 ∈ M1 ∧ f1 c.1 = c.2 := fun c hc => by
    rw [List.append_assoc] at hc
    rcases List.mem_append.mp hc with hc | hc
    · obtain ⟨k, hk⟩ := List.getElem?_of_mem hc
      obtain ⟨h1, h2, h3⟩ := hwr k c hk
      have h4 := hout c.1 h1 h3
      exact ⟨h4.1, h4.2.1.trans h2⟩
    · exact hin c hc
  have hDa : va_D (fun a => a ∈ M1) ((wr ++ rx) ++ pl1) := by
    rw [List.append_assoc]
    refine va_D.app ?_ (hD1.weaken (fun k q hq _ => (hin q (List.mem_of_getElem? hq)).1)) (fun i j p q hi hj e => ?_)
    · refine ⟨fun i j p q hi hj e => ?_, fun k q hq => (hout q.1 (hwr k q hq).1 (hwr k q hq).2.2).1⟩
      obtain ⟨i2, h1, h2⟩ := va_in_of isR hR hi
      obtain ⟨j2, h3, h4⟩ := va_in_of isR hR hj
      have := hD.1 i2 j2 p q (hXin _ _ h2) (hXin _ _ h4) e
      subst this
      exact va_nd_inj isR hnR i j i2 h1 h3
    · obtain ⟨h1, h2, h3⟩ := hwr i p hi
      exact (hout p.1 h1 h3).2.2 q (List.mem_of_getElem? hj) e.symm
  refine ⟨hDa.part (cx := X2) ks hnk hk, fun c hc => ?_⟩
  obtain ⟨k, hk2⟩ := List.getElem?_of_mem hc
  exact (hall c (List.mem_of_getElem? (va_part ks hk k c hk2))).2
end KO
