/-! ROWS OF REFERENCES TO ARRAYS: read, stored, made; new cells that join the pool; clones; least of two. -/
def kRn (n : Nat) (r : Nat → Nat) : Nat → Option Nat := fun i => if i < n then some (r i) else none
theorem kRn_at {n : Nat} {r : Nat → Nat} {i : Nat} (h : i < n) : va_rf (kRn n r i) = .ref (r i) := by unfold kRn; rw [if_pos h]; rfl
theorem kRn_up {n : Nat} {r : Nat → Nat} {i y : Nat} (h : i < n) : va_up (kRn n r) i (some y) = kRn n (va_up r i y) := by
  funext j
  unfold va_up kRn
  by_cases q : j = i
  · subst q; simp [h]
  · simp [q]
theorem kp_min (x y : Nat) (hx : x < 2 ^ 31) (hy : y < 2 ^ 31) : (if nI y < nI x then nI y else nI x) = nI (min x y) := by
  by_cases h : x ≤ y
  · rw [if_neg (nI_nlt h hy), Nat.min_eq_left h]
  · rw [if_pos (nI_lt (by omega) hx), Nat.min_eq_right (by omega)]
theorem kp_push1 {A : Nat → Prop} {D : va_G} {cl : List vw_C} {X : va_W} {L : List Nat} {f : Nat → va_E} {y : Nat} {e1 : va_E} {H : Heap} (hP : va_P D cl ((X ++ [(y, e1)]) ++ va_pl L f) H) (hD : va_D A ((X ++ [(y, e1)]) ++ va_pl L f)) :
    va_P D cl (X ++ va_pl (L ++ [y]) (va_up f y e1)) H ∧ va_D A (X ++ va_pl (L ++ [y]) (va_up f y e1)) ∧ y ∉ L := by
  have hP1 := va_P.swap hP
  have hD1 := va_D.swap hD
  have ha : y ∉ L := va_pl_fresh2 hD1
  rw [List.append_assoc, va_pl_push ha] at hP1 hD1
  exact ⟨hP1, hD1, ha⟩
section KA
variable {p : Program} {l : Launch} {e : Env} {R : Room} {s : State} {m : MethodId} {args : Array Value} {below : List Frame} {meth : Method} {c : Code} {H : Heap} {locs : List Loc} {cells slots : Nat} {Q : State → Prop}
variable {cc : ByteArray} {pc : Nat} {ls : Array Slot} {rest : List Value} {G : kG} {A : Nat → Prop} {a : Nat} {ws X : va_W} {H0 : Heap} {L : List Nat} {f : Nat → va_E}
/-- a row out of a pooled row of rows -/
theorem kp_aldA (hexec : p.tables.exec = Jvm.exec) (hb : c.code = cc) (hK : va_K G.1 vwCl (kT G) s) (hP : va_P G.1 vwCl (X ++ va_pl L f) H) (t0 : Nat) {cA : ClassId} {t : FieldType} {n : Nat} {g : Nat → Option Nat} (hL : a ∈ L) (hf : f a = .inl (cA, n, .inr (.inr (.inr (.inr g))))) (ht : (kT G)[t0]? = some (cA, .array t)) {k : Nat} (hk : k < n) (hn : n < 2 ^ 31) {v : Value} (hv : va_rf (g k) = v) (hdg : decode cc pc = .ok (.aaload, 1)) (kk : W p l e R s m args below meth c H locs cells slots Q (F0 m (pc + 1) ls (v :: rest))) : W p l e R s m args below meth c H locs cells slots Q (F0 m pc ls (.int (nI k) :: .ref a :: rest)) := by
  obtain ⟨k2, hk2⟩ := va_pl_get (X := X) (f := f) hL
  rw [hf] at hk2
  exact kr_aldA hexec hb hK hP k2 t0 hk2 ht hk hn hv hdg kk
theorem kp_alenA (hexec : p.tables.exec = Jvm.exec) (hb : c.code = cc) (hK : va_K G.1 vwCl (kT G) s) (hP : va_P G.1 vwCl (X ++ va_pl L f) H) {n : Nat} {g : Nat → Option Nat} (hL : a ∈ L) (hf : f a = .inl (G.2 3, n, .inr (.inr (.inr (.inr g))))) (hdg : decode cc pc = .ok (.arraylength, 1)) (kk : W p l e R s m args below meth c H locs cells slots Q (F0 m (pc + 1) ls (.int (nI n) :: rest))) : W p l e R s m args below meth c H locs cells slots Q (F0 m pc ls (.ref a :: rest)) := by
  obtain ⟨k2, hk2⟩ := va_pl_get (X := X) (f := f) hL
  rw [hf] at hk2
  exact va_alen hexec hb hK hP k2 3 hk2 rfl rfl hdg kk
/-- a row of numbers into a row of rows -/
theorem kr_astR (hexec : p.tables.exec = Jvm.exec) (hb : c.code = cc) (hK : va_K G.1 vwCl (kT G) s) (hO : va_AOA .int s) (hP : va_P G.1 vwCl ws H) (hD : va_D A ws) (hS : va_S A H0 H locs) (q0 qk : Nat) {n v : Nat} {x : vp_A} {g g' : Nat → Option Nat} (ha : ws[q0]? = some (a, .inl (G.2 3, n, .inr (.inr (.inr (.inr g)))))) (hv : ws[qk]? = some (v, .inl (G.2 0, x))) {k : Nat} (hk : k < n) (hn : n < 2 ^ 31) (hg : va_up g k (some v) = g') (hdg : decode cc pc = .ok (.aastore, 1))
    (kk : ∀ (H1 : Heap) (locs1 : List Loc), va_P G.1 vwCl (ws.set q0 (a, .inl (G.2 3, n, .inr (.inr (.inr (.inr g')))))) H1 → va_D A (ws.set q0 (a, .inl (G.2 3, n, .inr (.inr (.inr (.inr g')))))) → va_S A H0 H1 locs1 → W p l e R s m args below meth c H1 locs1 cells slots Q (F0 m (pc + 1) ls rest)) : W p l e R s m args below meth c H locs cells slots Q (F0 m pc ls (.ref v :: .int (nI k) :: .ref a :: rest)) := by
  subst hg
  have hO2 : (Cond.arrayOver (.array .int)).before args s = true := va_AOA.use hO
  obtain ⟨comp, cA, kA, hcomp, hkA, hkindA, hnameA⟩ := Cond.arrayOver_specA hO2
  have e3 : s.vm.findClass ("[" ++ (FieldType.array .int).toString) = some (G.2 3) := (hK.2 3 (G.2 3, .array .int) rfl).2
  have e1 : cA = G.2 3 := Option.some.inj (hnameA.symm.trans e3)
  have e0 : s.vm.findClass ("[" ++ FieldType.int.toString) = some (G.2 0) := (hK.2 0 (G.2 0, .int) rfl).2
  have e2 : comp = G.2 0 := Option.some.inj (hcomp.symm.trans e0)
  subst e1
  subst e2
  obtain ⟨kC, hkC, -⟩ := Vm.findClass_spec hcomp
  have hc0 : (vp_cell (G.2 0) x).cls = G.2 0 := by obtain ⟨n, f | f | f | f | f⟩ := x <;> rfl
  have hv0 : (vp_cell (G.2 0) x).vm = .none := by obtain ⟨n, f | f | f | f | f⟩ := x <;> rfl
  refine W.aast hexec hb (hP q0 _ ha) (fun q h => by cases h) (fun h => by cases h) hkA hkindA rfl hkC ⟨nI_pos (Nat.lt_trans hk hn), by show _ < (arrV _ _ _).slots.size; rw [arrV_size, nI_clamp (Nat.lt_trans hk hn)]; exact hk⟩ (hP qk _ hv) (fun q h => by rw [hv0] at h; cases h) (by rw [hc0]; exact hkC) (by rw [hc0]; exact va_asg s.vm (G.2 0)) rfl rfl hdg fun H1 e z oq => ?_
  refine kk H1 _ (hP.set hD ha ?_ oq) (hD.set ha) (hS.put z oq (hD.2 q0 _ ha))
  show H1[a]? = some (vp_cell _ _)
  rw [e, nI_clamp (Nat.lt_trans hk hn)]
  rw [vp_cell_q, vp_cell_q, arrV_store]
  congr 2
  funext q
  by_cases hq : q = k
  · subst hq
    simp [updV, va_up, va_rf]
  · simp [updV, va_up, hq]
/-- .. both among the pooled -/
theorem kp_astR (hexec : p.tables.exec = Jvm.exec) (hb : c.code = cc) (hK : va_K G.1 vwCl (kT G) s) (hO : va_AOA .int s) (hP : va_P G.1 vwCl (X ++ va_pl L f) H) (hD : va_D A (X ++ va_pl L f)) (hS : va_S A H0 H locs) {n v : Nat} {x : vp_A} {g g' : Nat → Option Nat} (haL : a ∈ L) (haf : f a = .inl (G.2 3, n, .inr (.inr (.inr (.inr g))))) (hvL : v ∈ L) (hvf : f v = .inl (G.2 0, x)) {k : Nat} (hk : k < n) (hn : n < 2 ^ 31) (hg : va_up g k (some v) = g') (hdg : decode cc pc = .ok (.aastore, 1))
    (kk : ∀ (H1 : Heap) (locs1 : List Loc), va_P G.1 vwCl (X ++ va_pl L (va_up f a (.inl (G.2 3, n, .inr (.inr (.inr (.inr g'))))))) H1 → va_D A (X ++ va_pl L (va_up f a (.inl (G.2 3, n, .inr (.inr (.inr (.inr g'))))))) → va_S A H0 H1 locs1 → W p l e R s m args below meth c H1 locs1 cells slots Q (F0 m (pc + 1) ls rest)) : W p l e R s m args below meth c H locs cells slots Q (F0 m pc ls (.ref v :: .int (nI k) :: .ref a :: rest)) := by
  obtain ⟨k1, hk1⟩ := va_pl_get (X := X) (f := f) haL
  obtain ⟨k2, hk2⟩ := va_pl_get (X := X) (f := f) hvL
  have hset := va_pl_set (e := .inl (G.2 3, n, .inr (.inr (.inr (.inr g'))))) hD haL hk1
  rw [haf] at hk1
  rw [hvf] at hk2
  refine kr_astR hexec hb hK hO hP hD hS k1 k2 hk1 hk2 hk hn hg hdg (fun H1 locs1 h1 h2 h3 => kk H1 locs1 ?_ ?_ h3)
  · rw [← hset]; exact h1
  · rw [← hset]; exact h2
/-- .. into a row that stands apart -/
theorem kp_astX (hexec : p.tables.exec = Jvm.exec) (hb : c.code = cc) (hK : va_K G.1 vwCl (kT G) s) (hO : va_AOA .int s) (hP : va_P G.1 vwCl (X ++ va_pl L f) H) (hD : va_D A (X ++ va_pl L f)) (hS : va_S A H0 H locs) (q0 : Nat) {n v : Nat} {x : vp_A} {g g' : Nat → Option Nat} (ha : (X ++ va_pl L f)[q0]? = some (a, .inl (G.2 3, n, .inr (.inr (.inr (.inr g)))))) (hvL : v ∈ L) (hvf : f v = .inl (G.2 0, x)) {k : Nat} (hk : k < n) (hn : n < 2 ^ 31) (hg : va_up g k (some v) = g') (hdg : decode cc pc = .ok (.aastore, 1))
    (kk : ∀ (H1 : Heap) (locs1 : List Loc), va_P G.1 vwCl ((X ++ va_pl L f).set q0 (a, .inl (G.2 3, n, .inr (.inr (.inr (.inr g')))))) H1 → va_D A ((X ++ va_pl L f).set q0 (a, .inl (G.2 3, n, .inr (.inr (.inr (.inr g')))))) → va_S A H0 H1 locs1 → W p l e R s m args below meth c H1 locs1 cells slots Q (F0 m (pc + 1) ls rest)) : W p l e R s m args below meth c H locs cells slots Q (F0 m pc ls (.ref v :: .int (nI k) :: .ref a :: rest)) := by
  obtain ⟨k2, hk2⟩ := va_pl_get (X := X) (f := f) hvL
  rw [hvf] at hk2
  exact kr_astR hexec hb hK hO hP hD hS q0 k2 ha hk2 hk hn hg hdg kk
/-- a number into a pooled row of numbers -/
theorem kp_isto (hexec : p.tables.exec = Jvm.exec) (hb : c.code = cc) (hK : va_K G.1 vwCl (kT G) s) {n : Nat} {g g' : Nat → Int32} (hP : va_P G.1 vwCl (X ++ va_pl L f) H) (hD : va_D A (X ++ va_pl L f)) (hS : va_S A H0 H locs) (hL : a ∈ L) (hf : f a = .inl (G.2 0, n, .inl g)) {k : Nat} (hk : k < n) (hn : n < 2 ^ 31) {x : Int32} (hg : upd g k x = g') (hdg : decode cc pc = .ok (.iastore, 1)) (kk : ∀ (H1 : Heap) (locs1 : List Loc), va_P G.1 vwCl (X ++ va_pl L (va_up f a (.inl (G.2 0, n, .inl g')))) H1 → va_D A (X ++ va_pl L (va_up f a (.inl (G.2 0, n, .inl g')))) → va_S A H0 H1 locs1 → W p l e R s m args below meth c H1 locs1 cells slots Q (F0 m (pc + 1) ls rest)) : W p l e R s m args below meth c H locs cells slots Q (F0 m pc ls (.int x :: .int (nI k) :: .ref a :: rest)) := by
  obtain ⟨k2, hk2⟩ := va_pl_get (X := X) (f := f) hL
  have hset := va_pl_set (e := .inl (G.2 0, n, .inl g')) hD hL hk2
  rw [hf] at hk2
  refine kr_iast hexec hb hK hP hD hS k2 0 hk2 rfl hk hn hg hdg (fun H1 locs1 h1 h2 h3 => kk H1 locs1 ?_ ?_ h3)
  · rw [← hset]; exact h1
  · rw [← hset]; exact h2
/-- a new row of rows -/
theorem kn_newA (t0 : Nat) {t : FieldType} {cA : ClassId} (hexec : p.tables.exec = Jvm.exec) (hb : c.code = cc) {own : String} {index : Nat} (hown : s.vm.findClass own = some m.cls) (hclink : (Cond.classLink own index (FieldType.array t).toString).before args s = true) (hover : va_AOA t s) (ht : (kT G)[t0]? = some (cA, .array t)) (hK : va_K G.1 vwCl (kT G) s) (hP : va_P G.1 vwCl ws H) (hD : va_D A ws) (hS : va_S A H0 H locs) (hA : ∀ q, H0.size ≤ q → A q) {n : Nat} (hn : n ≤ 1000) (hcells : cells + 1 ≤ R.cells) (hslots : slots + n ≤ R.slots) (hdg : decode cc pc = .ok (.anewarray index, 3))
    (kk : ∀ (q : Nat) (H1 : Heap), va_P G.1 vwCl (ws ++ [(q, .inl (cA, n, .inr (.inr (.inr (.inr (fun _ => none))))))]) H1 → va_D A (ws ++ [(q, .inl (cA, n, .inr (.inr (.inr (.inr (fun _ => none))))))]) → va_S A H0 H1 locs → W p l e R s m args below meth c H1 locs (cells + 1) (slots + n) Q (F0 m (pc + 3) ls (.ref q :: rest))) : W p l e R s m args below meth c H locs cells slots Q (F0 m pc ls (.int (nI n) :: rest)) := by
  intro T hT X
  have hcl : (nI n).toNatClampNeg = n := nI_clamp (by omega)
  obtain ⟨vm₁, cA2, kA, comp, -, f1, f2, f3, f4, X', step⟩ := X.anewarrayArrK hexec hown hclink (va_AOA.use hover) (g := F0 m pc ls (.int (nI n) :: rest)) rfl (by rw [hb]; exact hdg) rfl (nI_pos (by omega)) (by rw [hcl]; omega) hcells (by rw [hcl]; exact hslots)
  have e3 : s.vm.findClass ("[" ++ (FieldType.array t).toString) = some cA := (hK.2 t0 (cA, .array t) ht).2
  have e1 : cA2 = cA := Option.some.inj (f1.symm.trans e3)
  subst e1
  rw [hcl] at X' step
  generalize hH1 : H.push ({ cls := cA2, slots := Array.replicate n .null, vm := .none } : Cell) = H1
  have hh : ((T.setVm vm₁).pushCell { cls := cA2, slots := Array.replicate n .null, vm := .none }).heap = H1 := by rw [← hH1, ← hT]; rfl
  have z1 : H1.size = H.size + 1 := by rw [← hH1, Array.size_push]
  have e1 : H1[H.size]? = some (arrV cA2 n (fun _ => .null)) := by rw [← hH1, Array.getElem?_push_size, ← arrV_new]
  have o1 : ∀ q : Nat, q < H.size → H1[q]? = H[q]? := fun q hq => by rw [← hH1, Array.getElem?_push, if_neg (Nat.ne_of_lt hq)]
  have hk : ∀ (k : Nat) (x : Nat × va_E), ws[k]? = some x → H1[x.1]? = H[x.1]? := fun k x hx => o1 x.1 ((hP k x hx).lt)
  obtain ⟨t9, b1, b2⟩ := kk H.size H1 ((hP.kept hk).app (fun k x hx => by
    have hz : k < 1 := (List.getElem?_eq_some_iff.mp hx).1
    rw [show k = 0 by omega] at hx
    cases hx
    show H1[H.size]? = some (vp_cell _ _)
    rw [vp_cell_q]
    exact e1)) (hD.push hP rfl (hA _ hS.1)) ⟨Nat.le_trans hS.1 (by omega), fun x h1 h2 => (o1 x (Nat.lt_of_lt_of_le h1 hS.1)).trans (hS.2.1 x h1 h2), hS.2.2⟩ _ hh X'
  refine ⟨t9, step t9 ?_, b2⟩
  rw [hT]
  exact b1
/-- a copy of a pooled row of numbers -/
theorem kp_clone (hexec : p.tables.exec = Jvm.exec) (hb : c.code = cc) (hml : c.maxLocals = ls.size) {own : String} {index : Nat} (hown : s.vm.findClass own = some m.cls)
    (hlink : (Cond.methodLink own index ⟨"[I", "clone", "()Ljava/lang/Object;"⟩).before args s = true) (hsame : (Cond.sameMethod "[I" "java/lang/Object" "clone" "()Ljava/lang/Object;").before args s = true)
    (hnat : (Cond.native ⟨"java/lang/Object", "clone", "()Ljava/lang/Object;"⟩).before args s = true) (hinst : (Cond.instanceMethod ⟨"java/lang/Object", "clone", "()Ljava/lang/Object;"⟩).before args s = true)
    (hsel : (Cond.selects "[I" ⟨"[I", "clone", "()Ljava/lang/Object;"⟩ ⟨"java/lang/Object", "clone", "()Ljava/lang/Object;"⟩).before args s = true) (hcl : va_Nw (.castable "[I" "java/lang/Cloneable") s)
    (hK : va_K G.1 vwCl (kT G) s) (hP : va_P G.1 vwCl (X ++ va_pl L f) H) (hD : va_D A (X ++ va_pl L f)) (hS : va_S A H0 H locs) (hA : ∀ q, H0.size ≤ q → A q) {n : Nat} {g : Nat → Int32} (hL : a ∈ L) (hf : f a = .inl (G.2 0, n, .inl g))
    (hframes : 1 ≤ R.frames) (hlocals : (rest.map fun v => v.category).sum + 14 ≤ R.locals) (hcells : cells + 1 ≤ R.cells) (hslots : slots + n ≤ R.slots) (hdg : decode cc pc = .ok (.invokevirtual index, 3))
    (kk : ∀ (q : Nat) (H1 : Heap), va_P G.1 vwCl ((X ++ va_pl L f) ++ [(q, .inl (G.2 0, n, .inl g))]) H1 → va_D A ((X ++ va_pl L f) ++ [(q, .inl (G.2 0, n, .inl g))]) → va_S A H0 H1 locs →
      W p l e R s m args below meth c H1 locs (cells + 1) (slots + n) Q (F0 m (pc + 3) ls (.ref q :: rest))) : W p l e R s m args below meth c H locs cells slots Q (F0 m pc ls (.ref a :: rest)) := by
  obtain ⟨k2, hk2⟩ := va_pl_get (X := X) (f := f) hL
  rw [hf] at hk2
  have e0 : s.vm.findClass "[I" = some (G.2 0) := (hK.2 0 (G.2 0, .int) rfl).2
  refine va_clone (x := (n, .inl g)) hexec hb hml hown hlink hsame hnat hinst hsel hcl hK hP hD hS hA k2 0 hk2 rfl e0 ?_ hframes hlocals hcells hslots hdg (fun q H1 _ h1 h2 h3 => kk q H1 h1 h2 h3)
  intro i v hv
  exact va_fit (cA := G.2 0) (n := n) (F := fun j => .int (g j)) (fun _ _ => rfl) i v hv
theorem kp_castI (hexec : p.tables.exec = Jvm.exec) (hb : c.code = cc) {own : String} {index : Nat} (hown : s.vm.findClass own = some m.cls) (hlink : (Cond.classLink own index "[I").before args s = true) (hK : va_K G.1 vwCl (kT G) s) (hP : va_P G.1 vwCl ws H) (q0 : Nat) {x : vp_A} (ha : ws[q0]? = some (a, .inl (G.2 0, x))) (hdg : decode cc pc = .ok (.checkcast index, 3))
    (k : W p l e R s m args below meth c H locs cells slots Q (F0 m (pc + 3) ls (.ref a :: rest))) : W p l e R s m args below meth c H locs cells slots Q (F0 m pc ls (.ref a :: rest)) :=
  va_castA hexec hb hown hlink hP q0 ha (show s.vm.findClass "[I" = some (G.2 0) from (hK.2 0 (G.2 0, .int) rfl).2) hdg k
theorem kp_arrC (hK : va_K G.1 vwCl (kT G) s) : (Cond.arrayClass (.array .int)).before args s = true := by
  have e3 : s.vm.findClass ("[" ++ (FieldType.array .int).toString) = some (G.2 3) := (hK.2 3 (G.2 3, .array .int) rfl).2
  obtain ⟨-, kA, hkA, comp, hkind⟩ := (hK.2 3 (G.2 3, .array .int) rfl).1 0 (fun _ => .null)
  have hkA : s.vm.classes[G.2 3]? = some kA := hkA
  have hk2 : (s.vm.findClass ("[" ++ (FieldType.array .int).toString)).bind (s.vm.classes[·]?) = some kA := by rw [e3]; exact hkA
  simp [Cond.before, Cond.holds, Cond.value, hk2, hkind]
/-- new int[n][n'][]: the rows hold nothing -/
theorem kn_mna2 (hexec : p.tables.exec = Jvm.exec) (hb : c.code = cc) {own : String} {index : Nat} (hown : s.vm.findClass own = some m.cls) (hclink : (Cond.classLink own index "[[[I").before args s = true) (hover : va_AOA (.array .int) s) (hK : va_K G.1 vwCl (kT G) s) (hP : va_P G.1 vwCl (X ++ va_pl L f) H) (hD : va_D A (X ++ va_pl L f)) (hS : va_S A H0 H locs) (hA : ∀ q, H0.size ≤ q → A q) {n k : Nat} (hn : n ≤ 1000) (hk : k ≤ 1000) (hcells : cells + (1 + n) ≤ R.cells) (hslots : slots + (n + n * k) ≤ R.slots) (hdg : decode cc pc = .ok (.multianewarray index 2, 4))
    (kk : ∀ (q : Nat) (r : Nat → Nat) (H1 : Heap), (∀ i j : Nat, i < n → j < n → r i = r j → i = j) → (∀ i : Nat, i < n → r i ∉ L) → va_P G.1 vwCl ((X ++ [(q, .inl (G.2 4, n, .inr (.inr (.inr (.inr (kRn n r))))))]) ++ va_pl (L ++ (List.range n).map r) (vr_up f ((List.range n).map r) (.inl (G.2 3, k, .inr (.inr (.inr (.inr (fun _ => none)))))))) H1 → va_D A ((X ++ [(q, .inl (G.2 4, n, .inr (.inr (.inr (.inr (kRn n r))))))]) ++ va_pl (L ++ (List.range n).map r) (vr_up f ((List.range n).map r) (.inl (G.2 3, k, .inr (.inr (.inr (.inr (fun _ => none)))))))) → va_S A H0 H1 locs →
      W p l e R s m args below meth c H1 locs (cells + 1 + n) (slots + n + n * k) Q (F0 m (pc + 4) ls (.ref q :: rest))) : W p l e R s m args below meth c H locs cells slots Q (F0 m pc ls (.int (nI k) :: .int (nI n) :: rest)) := by
  have e0 : s.vm.findClass ("[" ++ (FieldType.array .int).toString) = some (G.2 3) := (hK.2 3 (G.2 3, .array .int) rfl).2
  refine va_mna (ty := .array .int) (cy := G.2 3) (N' := n) (K' := k) (z := (k, .inr (.inr (.inr (.inr (fun _ => none)))))) hexec hb hown hclink hover (kp_arrC hK) e0 hK hP hD hS hA (nI_pos (by omega)) (nI_pos (by omega)) (nI_clamp (by omega)) (nI_clamp (by omega)) (by omega) (by show k * 4 ≤ _; omega) (by omega) rfl rfl hcells hslots (fun c => ?_) hdg (fun q r cA H1 h1 h2 hK1 hP1 hD1 hS1 => ?_)
  · rw [vp_cell_q]
    exact arrV_new _ _ _
  have e3 : s.vm.findClass ("[" ++ (FieldType.array (.array .int)).toString) = some (G.2 4) := (hK.2 4 (G.2 4, .array (.array .int)) rfl).2
  have e1 : s.vm.findClass ("[" ++ (FieldType.array (.array .int)).toString) = some cA := (hK1.2 5 (cA, .array (.array .int)) rfl).2
  have e2 : cA = G.2 4 := Option.some.inj (e1.symm.trans e3)
  subst e2
  exact kk q r H1 h1 h2 hP1 hD1 hS1
end KA
section KMR
variable {p : Program} {l : Launch} {e : Env} {R : Room} {s : State} {m : MethodId} {args : Array Value} {below : List Frame} {meth : Method} {c : Code} {H : Heap} {locs : List Loc} {cells slots : Nat} {G : kG} {A : Nat → Prop} {cc : ByteArray} {pc : Nat} {ls : Array Slot} {S : Type}
/-- a writer's end with a new cell -/
theorem km_nret {post : S → Prop} {wo : S → Nat → va_W} {v : Nat} {rt : FieldType} (u : S) (hexec : p.tables.exec = Jvm.exec) (hb : c.code = cc) (hr : meth.sig.returnType = some rt) (hrt : (∃ n, rt = .object n) ∨ ∃ t, rt = .array t) (hlocks : meth.locks = false) (hS : va_S A s.heap H locs) (hP : va_P G.1 vwCl (wo u v) H) (hD : va_D A (wo u v)) (hp : post u) (hdg : decode cc pc = .ok (.areturn, 1)) : W p l e R s m args below meth c H locs cells slots (MQ below (va_Qr post (fun u a t => kA G A (wo u a) t) A) args s cells slots A) (F0 m pc ls [.ref v]) :=
  W.aret hexec hb hr hrt (Or.inr ⟨v, rfl⟩) (fun t ht _ => ⟨⟨u, v, rfl, hp, by rw [ht]; exact hP, hD⟩, hS.F ht⟩) hS.2.2 hdg hlocks
end KMR
