/-! THE CLAIM OUT OF ONE WALK OF THE LAW'S BODY. Your part is whole_start (and what it stands on); all else here is the same for every law, but numbers. -/
def R_law : String := "PassNotesLaw"
def lw_P (b : Addr) (xs : List Int32) (args : Array Value) (s : State) : Prop := args = #[.ref b] ∧ s.IntsAt b xs ∧ xs.length ≤ 260 ∧ (Jvm.Cond.and given_1 narrow_1).before args s = true
/-- what a walk over the start with the record d0 says of its end, said of the start itself -/
theorem lw_closed {s t : State} {o : Outcome} {d0 : Drawn} {L : List Loc} {k n : Nat} (hd0 : s.drawn.sameBut d0 lw_cs) (hv : ∃ v, o = .returned v) (hW : (s.setDrawn d0).WarmedH t.vm) (hs : (s.setDrawn d0).sameButNew ({ t with vm := s.vm } : State) L k n) : State.butDraws s t lw_cs (fun t1 => Framed s o t1 L k n) := by
  have h2 : t.drawn = d0 := congrArg State.drawn hs.1
  refine ⟨⟨hv, hW, State.sameButNew.setDrawn hs s.drawn⟩, ?_, by decide⟩
  rw [h2]
  exact hd0
def lw_Q (_ : Array Value) (s : State) (o : Outcome) (t : State) : Prop := o = .returned (some (.int 1)) ∧ State.butDraws s t lw_cs (fun t1 => Framed s o t1 [] 600130 7301080)
def lw_Z (below : List Frame) (a : Array Value) (s : State) : State → Prop := fun t => ∃ o, t.status = .running ∧ Ended t below o ∧ lw_Q a s o t
/-- the law's own end, with 1 on the stack, nothing written that was there before, its room as the claim has it; d0: the record of draws at this point (at the entry s.drawn: begin with 'refine W.base ?_' and 'have hd0 := Drawn.sameBut.refl s.drawn lw_cs') -/
theorem lw_ret {p : Program} {l : Launch} {e : Env} {s : State} {m : MethodId} {below : List Frame} {meth : Method} {c : Code} {b : Nat} {d0 : Drawn} (hd0 : s.drawn.sameBut d0 lw_cs) (hx : p.tables.exec = Jvm.exec) (hb : c.code = code) (hr : meth.sig.returnType = ret) (hlocks : meth.locks = false) {pc : Nat} {H : Heap} {ls : Array Slot} (hdg : decode code pc = .ok (.ireturn, 1)) : W p l e room_1 (s.setDrawn d0) m #[Value.ref b] below meth c H [] 600130 7301080 (lw_Z below #[Value.ref b] s) (F0 m pc ls [.int 1]) := by
  intro T hT X
  obtain ⟨fs, hret, hrun, hended, hW, hframe⟩ := X.leave (v := some (.int 1)) (hlocks := hlocks) (fun h => by rw [hr] at h; cases h)
  have hmeth' : T.vm.method? m = some meth := X.method'
  refine ⟨T.setFrames fs, ?_, .returned (some (.int 1)), hrun, hended, rfl, lw_closed hd0 ⟨_, rfl⟩ hW hframe⟩
  jvm_step X.here [X.here.top, hx, hb, hdg, hmeth', hr, ret, narrow_b1]
  (try refine ⟨rfl, ?_⟩); (try refine ⟨rfl, ?_⟩)
  first | (intro acts; rw [hret _ acts rfl rfl rfl]) | rw [hret _ _ rfl rfl rfl]
  exact Steps.refl _
/-- what holds at the law's entry: the machine, the code, the tables' words (any of lw_tbl by 'hts w (by decide +kernel)'), the script of L ints xs at the cell b, what the Statement gives of the start (any of its parts by flat_of_before) -/
def lw_At (p : Program) (s : State) (m : MethodId) (meth : Method) (c : Code) (b L : Nat) (xs : Nat → Int32) : Prop :=
  p.tables.exec = Jvm.exec ∧ c.code = code ∧ meth.sig.returnType = ret ∧ c.maxLocals = 25 ∧ s.vm.findClass R_law = some m.cls ∧ (∀ w ∈ lw_tbl, w.before #[Value.ref b] s = true) ∧ va_X b L xs s s.heap ∧ b < s.heap.size ∧ meth.locks = false ∧ (Jvm.Cond.and given_1 narrow_1).before #[Value.ref b] s = true
/-! THE LAW'S OWN WALK: what stands throughout, where it goes on, calls of the object. -/
def lCtx (p : Program) (l : Launch) (s : State) (m : MethodId) (meth : Method) (c : Code) (A : Nat → Prop) (G : kG) (b len : Nat) (xs : Nat → Int32) : Prop :=
  p.tables.exec = Jvm.exec ∧ c.code = cL_law ∧ meth.sig.returnType = ret ∧ c.maxLocals = 25 ∧ s.vm.findClass RL = some m.cls ∧ (∀ w ∈ lw_tbl, w.before #[Value.ref b] s = true) ∧ va_X b len xs s s.heap ∧ meth.locks = false ∧ va_K G.1 vwCl (kT G) s ∧ kZ s ∧ (∀ q, s.heap.size ≤ q → A q) ∧ (∀ q, A q → s.heap.size ≤ q) ∧ ¬ A b ∧ len ≤ 260
/-- at the row pc, with these locals, the law goes on to its end, whatever heap holds both posts -/
def lGo (p : Program) (l : Launch) (e : Env) (s : State) (m : MethodId) (below : List Frame) (meth : Method) (c : Code) (A : Nat → Prop) (G : kG) (b hM zs za zw zq zp nn np mi : Nat) (ro : Nat → Nat) (rr : Nat → Nat → Nat) (rp fs sn ln : Nat → Nat) (op : Nat → Bool) (SS : Nat → Option mS) (ar ww : Nat → Nat) (k n pc : Nat) (lv : List (Nat × Value)) : Prop :=
  ∀ (M L : List Nat) (f : Nat → va_E), kObj G hM nn np mi fs sn ln op SS ar ww M f → (∀ a ∈ M, a ∈ L) → kSim G nn np mi M L f ro rr rp fs sn ln op SS → ∀ (H : Heap) (locs : List Loc), va_P G.1 vwCl ([(zs, .inr (5, [.int (nI mi), .ref za, .ref zw, .ref zq, .ref zp])), (za, .inl (G.2 0, nn, .inl (kI ar))), (zq, .inl (G.2 4, nn, .inr (.inr (.inr (.inr (kRn nn ro)))))), (zp, .inl (G.2 3, np, .inr (.inr (.inr (.inr (kRn np rp)))))), (zw, .inl (G.2 0, nn, .inl (kI ww)))] ++ va_pl L f) H → va_D A ([(zs, .inr (5, [.int (nI mi), .ref za, .ref zw, .ref zq, .ref zp])), (za, .inl (G.2 0, nn, .inl (kI ar))), (zq, .inl (G.2 4, nn, .inr (.inr (.inr (.inr (kRn nn ro)))))), (zp, .inl (G.2 3, np, .inr (.inr (.inr (.inr (kRn np rp)))))), (zw, .inl (G.2 0, nn, .inl (kI ww)))] ++ va_pl L f) → va_S A s.heap H locs → ∀ ls : Array Slot, lv_has ls 25 lv → W p l e room_1 s m #[Value.ref b] below meth c H locs k n (lw_Z below #[Value.ref b] s) (F0 m pc ls [])
section LO
variable {p : Program} {l : Launch} {e : Env} {R : Room} {s : State} {m : MethodId} {args : Array Value} {below : List Frame} {meth : Method} {c : Code} {H : Heap} {locs : List Loc} {cells slots : Nat} {Q : State → Prop}
variable {pc : Nat} {ls : Array Slot} {rest st0 : List Value} {a : Array Value} {A : Nat → Prop} {mc ms : Nat} {G : kG} {L M : List Nat} {f : Nat → va_E} {x0 x1 x2 x3 x4 : Nat × va_E}
variable {hM nn np mi : Nat} {fs sn ln : Nat → Nat} {op : Nat → Bool} {SS : Nat → Option mS} {ar ww : Nat → Nat}
/-- a call of the object that answers an int -/
theorem lo_i {v : Int32} (hr : va_Run p l e R s m args below meth c H locs cells slots mc ms (F0 m pc ls st0) rest (va_Qi (fun (r : Int32) (u : List Nat × List Nat × (Nat → va_E)) => r = v ∧ kObj G hM nn np mi fs sn ln op SS ar ww u.1 u.2.2 ∧ kFr L M f (u.1, u.2.1, u.2.2)) (fun (u : List Nat × List Nat × (Nat → va_E)) t => kA G (va_A ([] ++ va_pl L f) H.size) ([] ++ va_pl u.2.1 u.2.2) t) (va_A ([] ++ va_pl L f) H.size) a) (va_A ([] ++ va_pl L f) H.size))
    (hP : va_P G.1 vwCl ([x0, x1, x2, x3, x4] ++ va_pl L f) H) (hD : va_D A ([x0, x1, x2, x3, x4] ++ va_pl L f)) (hS : va_S A s.heap H locs) (hA : ∀ q, s.heap.size ≤ q → A q)
    (kk : ∀ (M' L' : List Nat) (f' : Nat → va_E) (H1 : Heap) (locs1 : List Loc), kObj G hM nn np mi fs sn ln op SS ar ww M' f' → kFr L M f (M', L', f') → va_P G.1 vwCl ([x0, x1, x2, x3, x4] ++ va_pl L' f') H1 → va_D A ([x0, x1, x2, x3, x4] ++ va_pl L' f') → va_S A s.heap H1 locs1 → W p l e R s m args below meth c H1 locs1 (cells + mc) (slots + ms) Q (F0 m (pc + 3) ls (.int v :: rest))) : W p l e R s m args below meth c H locs cells slots Q (F0 m pc ls st0) := by
  have hFc : ∀ zq9 : Nat, va_A ([] ++ va_pl L f) _ zq9 → A zq9 := va_freeP (cx := []) hD hS hA [] rfl
  refine va_calli hr hS (fun q _ h => hFc q h) hFc (fun r u t H1 locs ht hvm hw hB hz1 hk1 hS => ?_)
  obtain ⟨M', L', f'⟩ := u
  obtain ⟨hP1, hD1⟩ := hB
  rw [ht] at hP1
  obtain ⟨hw1, hw2, hw3⟩ := hw
  subst hw1
  obtain ⟨hP, hD⟩ := va_joinP (cx := []) (wr := [x0, x1, x2, x3, x4]) (rx := []) hP hD [] [0, 1, 2, 3, 4] rfl rfl (by decide) (by decide) hk1 hFc hP1 hD1
  exact kk M' L' f' H1 locs hw2 hw3 hP hD hS
theorem lo_l {v : Int64} (hr : va_Run p l e R s m args below meth c H locs cells slots mc ms (F0 m pc ls st0) rest (va_Ql (fun (r : Int64) (u : List Nat × List Nat × (Nat → va_E)) => r = v ∧ kObj G hM nn np mi fs sn ln op SS ar ww u.1 u.2.2 ∧ kFr L M f (u.1, u.2.1, u.2.2)) (fun (u : List Nat × List Nat × (Nat → va_E)) t => kA G (va_A ([] ++ va_pl L f) H.size) ([] ++ va_pl u.2.1 u.2.2) t) (va_A ([] ++ va_pl L f) H.size) a) (va_A ([] ++ va_pl L f) H.size))
    (hP : va_P G.1 vwCl ([x0, x1, x2, x3, x4] ++ va_pl L f) H) (hD : va_D A ([x0, x1, x2, x3, x4] ++ va_pl L f)) (hS : va_S A s.heap H locs) (hA : ∀ q, s.heap.size ≤ q → A q)
    (kk : ∀ (M' L' : List Nat) (f' : Nat → va_E) (H1 : Heap) (locs1 : List Loc), kObj G hM nn np mi fs sn ln op SS ar ww M' f' → kFr L M f (M', L', f') → va_P G.1 vwCl ([x0, x1, x2, x3, x4] ++ va_pl L' f') H1 → va_D A ([x0, x1, x2, x3, x4] ++ va_pl L' f') → va_S A s.heap H1 locs1 → W p l e R s m args below meth c H1 locs1 (cells + mc) (slots + ms) Q (F0 m (pc + 3) ls (.long v :: rest))) : W p l e R s m args below meth c H locs cells slots Q (F0 m pc ls st0) := by
  have hFc : ∀ zq9 : Nat, va_A ([] ++ va_pl L f) _ zq9 → A zq9 := va_freeP (cx := []) hD hS hA [] rfl
  refine va_calll hr hS (fun q _ h => hFc q h) hFc (fun r u t H1 locs ht hvm hw hB hz1 hk1 hS => ?_)
  obtain ⟨M', L', f'⟩ := u
  obtain ⟨hP1, hD1⟩ := hB
  rw [ht] at hP1
  obtain ⟨hw1, hw2, hw3⟩ := hw
  subst hw1
  obtain ⟨hP, hD⟩ := va_joinP (cx := []) (wr := [x0, x1, x2, x3, x4]) (rx := []) hP hD [] [0, 1, 2, 3, 4] rfl rfl (by decide) (by decide) hk1 hFc hP1 hD1
  exact kk M' L' f' H1 locs hw2 hw3 hP hD hS
end LO
theorem lLcmp (x : Int64) : lg_cmp x x = 0 := by
  unfold lg_cmp
  rw [if_neg (by simp), if_pos rfl]
