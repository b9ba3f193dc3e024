/-! WORDS BESIDE THE LISTS: the constructors of nest mates, arrays of references. -/
def kZ (U : State) : Prop := va_Nw (.methodLinkNest RX2 11 yX0_init RX4) U ∧ va_Nw (.methodLinkNest RX4 9 yX1_init RX4) U ∧ va_Nw (.methodLinkNest RX4 30 yX0_init RX4) U ∧ va_AO RX3 U ∧ va_AOA .int U ∧ va_AOA (.array .int) U ∧ va_Nw (.castable "[I" "java/lang/Cloneable") U ∧ va_Nw (.methodLinkNest RL 64 yX5_init RL) U
theorem va_AOA.moved {t : FieldType} {u U : State} (hvm : u.vm.Alike U.vm) (h : va_AOA t u) : va_AOA t U := Jvm.Stand.arrayOver_alikeB hvm h
theorem kZ.warm {s U : State} (hW : s.WarmedH U.vm) (h : kZ s) : kZ U := by
  obtain ⟨h1, h2, h3, h4, h5, h6, h7, h8⟩ := h
  exact ⟨h1.warmM hW, h2.warmM hW, h3.warmM hW, h4.moved hW.alike, h5.moved hW.alike, h6.moved hW.alike, h7.warmC hW, h8.warmM hW⟩
theorem kZ.same {u U : State} (h : u.vm = U.vm) (q : kZ u) : kZ U := by
  obtain ⟨h1, h2, h3, h4, h5, h6, h7, h8⟩ := q
  have ha : u.vm.Alike U.vm := by rw [h]; exact Vm.Alike.refl _
  exact ⟨h1.same rfl h, h2.same rfl h, h3.same rfl h, h4.moved ha, h5.moved ha, h6.moved ha, h7.same rfl h, h8.same rfl h⟩
def kPreZ (G : kG) (ws : va_W) (sz : Nat) (av : List Value) : Array Value → State → Prop := fun v U => v = av.toArray ∧ U.heap.size = sz ∧ va_P G.1 vwCl ws U.heap ∧ kK G U ∧ va_D (fun _ => True) ws ∧ kZ U
theorem kPreZ_blind {G : kG} {ws : va_W} {sz : Nat} {av : List Value} : FrameBlind (kPreZ G ws sz av) := fun a U g mk q => ⟨q.1, q.2.1, q.2.2.1, va_K.moved (u := U) (U := U.calling g mk a) (Vm.Alike.refl U.vm) q.2.2.2.1, q.2.2.2.2.1, q.2.2.2.2.2.same rfl⟩
theorem kPreZ_V {G : kG} {s : State} {H : Heap} {ws : va_W} {As : List Value} {b : Nat} {A : Nat → Prop} (hK : kK G s) (hP : va_P G.1 vwCl ws H) (hD : va_D A ws) (hZ : kZ s) (r : vw_C) (q0 : Nat) {ci : Nat} {fs : List Value} (hc : vwCl[ci]? = some r) (he : ws[q0]? = some (b, .inr (ci, fs))) : PreV s H r.1 b (kPreZ G ws H.size (.ref b :: As)) As :=
  ⟨kPreZ_blind, va_recv hK hP hc he, fun U hU hW => ⟨rfl, by rw [hU], by rw [hU]; exact hP, va_K.moved hW.alike hK, hD.weaken (fun _ _ _ _ => trivial), hZ.warm hW⟩⟩
theorem kPreZ_S {G : kG} {s : State} {H : Heap} {ws : va_W} {As : List Value} {A : Nat → Prop} (hK : kK G s) (hP : va_P G.1 vwCl ws H) (hD : va_D A ws) (hZ : kZ s) : PreS s H (kPreZ G ws H.size As) As :=
  ⟨kPreZ_blind, fun U hU hW => ⟨rfl, by rw [hU], by rw [hU]; exact hP, va_K.moved hW.alike hK, hD.weaken (fun _ _ _ _ => trivial), hZ.warm hW⟩⟩
section KZR
variable {p : Program} {l : Launch} {e : Env} {R : Room} {s : State} {m : MethodId} {args : Array Value} {below : List Frame} {meth : Method} {c : Code} {H : Heap} {locs : List Loc} {cells slots : Nat} {Q : State → Prop}
variable {cc : ByteArray} {pc : Nat} {ls : Array Slot} {rest : List Value} {G : kG} {A : Nat → Prop} {a : Nat} {ws X : va_W} {H0 : Heap} {L : List Nat} {f : Nat → va_E}
theorem kn_mna (hexec : p.tables.exec = Jvm.exec) (hb : c.code = cc) {own : String} {index : Nat} (hown : s.vm.findClass own = some m.cls) (hclink : (Cond.classLink own index "[[I").before args s = true) (hover : va_AOA .int s) (harr : (Cond.arrayClass .int).before args s = true) (hK : va_K G.1 vwCl (kT G) s) (hP : va_P G.1 vwCl (X ++ va_pl L f) H) (hD : va_D A (X ++ va_pl L f)) (hS : va_S A H0 H locs) (hA : ∀ q, H0.size ≤ q → A q) {n k : Nat} (hn : n ≤ 1000) (hk : k ≤ 1000) (hcells : cells + (1 + n) ≤ R.cells) (hslots : slots + (n + n * k) ≤ R.slots) (hdg : decode cc pc = .ok (.multianewarray index 2, 4))
    (kk : ∀ (q : Nat) (r : Nat → Nat) (H1 : Heap), (∀ i j : Nat, i < n → j < n → r i = r j → i = j) → (∀ i : Nat, i < n → r i ∉ L) → va_P G.1 vwCl ((X ++ [(q, .inl (G.2 3, n, .inr (.inr (.inr (.inr (fun i => if i < n then some (r i) else none))))))]) ++ va_pl (L ++ (List.range n).map r) (vr_up f ((List.range n).map r) (.inl (G.2 0, k, .inl (kI (fun _ => 0)))))) H1 → va_D A ((X ++ [(q, .inl (G.2 3, n, .inr (.inr (.inr (.inr (fun i => if i < n then some (r i) else none))))))]) ++ va_pl (L ++ (List.range n).map r) (vr_up f ((List.range n).map r) (.inl (G.2 0, k, .inl (kI (fun _ => 0)))))) → va_S A H0 H1 locs →
      W p l e R s m args below meth c H1 locs (cells + 1 + n) (slots + n + n * k) Q (F0 m (pc + 4) ls (.ref q :: rest))) : W p l e R s m args below meth c H locs cells slots Q (F0 m pc ls (.int (nI k) :: .int (nI n) :: rest)) := by
  have e0 : s.vm.findClass ("[" ++ FieldType.int.toString) = some (G.2 0) := (hK.2 0 (G.2 0, .int) rfl).2
  refine va_mna (ty := .int) (cy := G.2 0) (N' := n) (K' := k) (z := (k, .inl (kI (fun _ => 0)))) hexec hb hown hclink hover harr e0 hK hP hD hS hA (nI_pos (by omega)) (nI_pos (by omega)) (nI_clamp (by omega)) (nI_clamp (by omega)) (by omega) (by show k * 4 ≤ _; omega) (by omega) rfl rfl hcells hslots (fun c => ?_) hdg (fun q r cA H1 h1 h2 hK1 hP1 hD1 hS1 => ?_)
  · first | rfl | exact arrV_new _ _ _
  have e3 : s.vm.findClass ("[" ++ (FieldType.array .int).toString) = some (G.2 3) := (hK.2 3 (G.2 3, .array .int) rfl).2
  have e1 : s.vm.findClass ("[" ++ (FieldType.array .int).toString) = some cA := (hK1.2 5 (cA, .array .int) rfl).2
  have e2 : cA = G.2 3 := Option.some.inj (e1.symm.trans e3)
  subst e2
  exact kk q r H1 h1 h2 hP1 hD1 hS1
theorem kn_newq (hexec : p.tables.exec = Jvm.exec) (hb : c.code = cc) {own : String} {index : Nat} (hown : s.vm.findClass own = some m.cls) (hclink : (Cond.classLink own index RX3).before args s = true) (hover : va_AO RX3 s) (hK : va_K G.1 vwCl (kT G) s) (hP : va_P G.1 vwCl ws H) (hD : va_D A ws) (hS : va_S A H0 H locs) (hA : ∀ q, H0.size ≤ q → A q) {n : Nat} (hn : n ≤ 1000) (hcells : cells + 1 ≤ R.cells) (hslots : slots + n ≤ R.slots) (hdg : decode cc pc = .ok (.anewarray index, 3))
    (kk : ∀ (q : Nat) (H1 : Heap), va_P G.1 vwCl (ws ++ [(q, .inl (G.2 2, n, .inr (.inr (.inr (.inr (fun _ => none))))))]) H1 → va_D A (ws ++ [(q, .inl (G.2 2, n, .inr (.inr (.inr (.inr (fun _ => none))))))]) → va_S A H0 H1 locs → W p l e R s m args below meth c H1 locs (cells + 1) (slots + n) Q (F0 m (pc + 3) ls (.ref q :: rest))) : W p l e R s m args below meth c H locs cells slots Q (F0 m pc ls (.int (nI n) :: rest)) := by
  refine va_newq hexec hb hown hclink hover hK hP hD hS hA (nI_pos (by omega)) (nI_clamp (by omega)) (by omega) hcells hslots hdg (fun q cA H1 hK1 hP1 hD1 hS1 => ?_)
  obtain ⟨_, _, _, _, _, e3⟩ := (hK.2 2 (G.2 2, .object RX3) rfl).2
  obtain ⟨_, _, _, _, _, e1⟩ := (hK1.2 5 (cA, .object RX3) rfl).2
  have e2 : cA = G.2 2 := Option.some.inj (e1.symm.trans e3)
  subst e2
  exact kk q H1 hP1 hD1 hS1
end KZR
/-- rows that have just been made -/
theorem kRows_new {G : kG} {L : List Nat} {f : Nat → va_E} {r : Nat → Nat} (h1 : ∀ i j : Nat, i < 10 → j < 10 → r i = r j → i = j) (h2 : ∀ i : Nat, i < 10 → r i ∉ L) : kRows G (L ++ (List.range 10).map r) r (vr_up f ((List.range 10).map r) (.inl (G.2 0, 10, .inl (kI (fun _ => 0))))) (fun _ _ => 0) ∧ (∀ y, y ∈ L → y ∈ L ++ (List.range 10).map r ∧ vr_up f ((List.range 10).map r) (.inl (G.2 0, 10, .inl (kI (fun _ => 0)))) y = f y) := by
  have hm : ∀ i, i < 10 → r i ∈ (List.range 10).map r := fun i hi => List.mem_map.mpr ⟨i, List.mem_range.mpr hi, rfl⟩
  refine ⟨⟨fun i hi => ⟨List.mem_append_right _ (hm i hi), vr_up_in (hm i hi)⟩, fun i j hi hj => h1 i j hi hj⟩, fun y hy => ⟨List.mem_append_left _ hy, vr_up_ne (fun z => ?_)⟩⟩
  obtain ⟨i, hi, e⟩ := List.mem_map.mp z
  exact h2 i (List.mem_range.mp hi) (by rw [e]; exact hy)
