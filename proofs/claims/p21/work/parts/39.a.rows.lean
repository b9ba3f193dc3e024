/-! new int[n][n][0]: a row of three dimensions, out of the machine. -/
def mfC (c : ClassId) (N h0 d : Nat) : Nat → Cell
  | 0 => { cls := c, slots := Array.replicate N .null, vm := .none }
  | i + 1 => (mfC c N h0 d i).setSlot i (.ref (h0 + 1 + i * d))
def mfS (s : State) (c comp ci : ClassId) (N M K : Nat) (dv : Value) : Nat → State
  | 0 => s.pushCell (mfC c N s.heap.size (1 + M) 0)
  | i + 1 => (Jvm.Free.Multi.fill (mfS s c comp ci N M K dv i) comp ci M K dv M).setCell s.heap.size (mfC c N s.heap.size (1 + M) (i + 1))
theorem mfC_facts (c : ClassId) (N h0 d : Nat) : ∀ i, (mfC c N h0 d i).cls = c ∧ (mfC c N h0 d i).vm = .none ∧ (mfC c N h0 d i).slots.size = N
  | 0 => ⟨rfl, rfl, by simp [mfC]⟩
  | i + 1 => by
    obtain ⟨a, b, d2⟩ := mfC_facts c N h0 d i
    exact ⟨by simp [mfC, Cell.setSlot, a], by simp [mfC, Cell.setSlot, b], by simp [mfC, Cell.setSlot, d2]⟩
theorem mfS_facts (s : State) (c comp ci : ClassId) (N M K : Nat) (dv : Value) : ∀ i, (mfS s c comp ci N M K dv i).heap.size = s.heap.size + 1 + i * (1 + M) ∧ (mfS s c comp ci N M K dv i).heap[s.heap.size]? = some (mfC c N s.heap.size (1 + M) i) ∧ (mfS s c comp ci N M K dv i).vm = s.vm ∧ (mfS s c comp ci N M K dv i).slotsUsed = s.slotsUsed + N + i * (M + M * K)
  | 0 => ⟨by simp [mfS], by simp [mfS], rfl, by simp [mfS, mfC]⟩
  | i + 1 => by
    obtain ⟨a, b, d, u9⟩ := mfS_facts s c comp ci N M K dv i
    obtain ⟨f1, -, f3, f4⟩ := Jvm.Free.Multi.fill_facts (mfS s c comp ci N M K dv i) comp ci M K dv M
    have hlt : s.heap.size < (mfS s c comp ci N M K dv i).heap.size := by omega
    have hb' : (Jvm.Free.Multi.fill (mfS s c comp ci N M K dv i) comp ci M K dv M).heap[s.heap.size]? = some (mfC c N s.heap.size (1 + M) i) := by
      rw [Jvm.Free.Multi.fill_old _ _ _ _ _ _ hlt]
      exact b
    refine ⟨?_, State.heap_setCell_self hb', ?_, ?_⟩
    · have e : ((Jvm.Free.Multi.fill (mfS s c comp ci N M K dv i) comp ci M K dv M).setCell s.heap.size (mfC c N s.heap.size (1 + M) (i + 1))).heap.size = (Jvm.Free.Multi.fill (mfS s c comp ci N M K dv i) comp ci M K dv M).heap.size := by simp [State.setCell]
      show ((Jvm.Free.Multi.fill (mfS s c comp ci N M K dv i) comp ci M K dv M).setCell s.heap.size (mfC c N s.heap.size (1 + M) (i + 1))).heap.size = _
      rw [e, f1, a, Nat.succ_mul]
      omega
    · show ((Jvm.Free.Multi.fill (mfS s c comp ci N M K dv i) comp ci M K dv M).setCell s.heap.size (mfC c N s.heap.size (1 + M) (i + 1))).vm = _
      rw [← d, ← f3]
      rfl
    · show ((Jvm.Free.Multi.fill (mfS s c comp ci N M K dv i) comp ci M K dv M).setCell s.heap.size (mfC c N s.heap.size (1 + M) (i + 1))).slotsUsed = _
      have e : ((Jvm.Free.Multi.fill (mfS s c comp ci N M K dv i) comp ci M K dv M).setCell s.heap.size (mfC c N s.heap.size (1 + M) (i + 1))).slotsUsed = (Jvm.Free.Multi.fill (mfS s c comp ci N M K dv i) comp ci M K dv M).slotsUsed := rfl
      rw [e, f4, u9, Nat.succ_mul]
      omega
theorem mfS_setTop (s : State) (f : JFrame) (c comp ci : ClassId) (N M K : Nat) (dv : Value) : ∀ i, mfS (s.setTop f) c comp ci N M K dv i = (mfS s c comp ci N M K dv i).setTop f
  | 0 => rfl
  | i + 1 => by simp only [mfS, mfS_setTop s f c comp ci N M K dv i, Jvm.Free.Multi.fill_setTop, State.heap_setTop, State.pushCell_setTop, State.setCell_setTop]
theorem mfS_old (s : State) (c comp ci : ClassId) (N M K : Nat) (dv : Value) {a : Addr} (ha : a < s.heap.size) : ∀ i, (mfS s c comp ci N M K dv i).heap[a]? = s.heap[a]?
  | 0 => State.heap_pushCell_of_lt _ _ ha
  | i + 1 => by
    have f1 := (mfS_facts s c comp ci N M K dv i).1
    show ((Jvm.Free.Multi.fill (mfS s c comp ci N M K dv i) comp ci M K dv M).setCell s.heap.size _).heap[a]? = _
    rw [State.heap_setCell_other (Nat.ne_of_gt ha), Jvm.Free.Multi.fill_old _ _ _ _ _ _ (show a < (mfS s c comp ci N M K dv i).heap.size from Nat.lt_of_lt_of_le ha (by rw [f1]; omega))]
    exact mfS_old s c comp ci N M K dv ha i
theorem mfS_row (s : State) (c comp ci : ClassId) (N M K : Nat) (dv : Value) : ∀ i j, j < i → (mfS s c comp ci N M K dv i).heap[s.heap.size + 1 + j * (1 + M)]? = some (Jvm.Free.Multi.outerC comp M (s.heap.size + 1 + j * (1 + M)) M) ∧ ∀ q, q < M → (mfS s c comp ci N M K dv i).heap[s.heap.size + 1 + j * (1 + M) + 1 + q]? = some (Jvm.Free.Multi.innerC ci K dv)
  | 0, _, h => absurd h (Nat.not_lt_zero _)
  | i + 1, j, h => by
    have f1 := (mfS_facts s c comp ci N M K dv i).1
    obtain ⟨g1, g2, -, -⟩ := Jvm.Free.Multi.fill_facts (mfS s c comp ci N M K dv i) comp ci M K dv M
    show ((Jvm.Free.Multi.fill (mfS s c comp ci N M K dv i) comp ci M K dv M).setCell s.heap.size _).heap[_]? = _ ∧ ∀ q, q < M → ((Jvm.Free.Multi.fill (mfS s c comp ci N M K dv i) comp ci M K dv M).setCell s.heap.size _).heap[_]? = _
    rcases Nat.lt_or_ge j i with hj | hj
    · obtain ⟨i1, i2⟩ := mfS_row s c comp ci N M K dv i j hj
      have hm : j * (1 + M) + (1 + M) ≤ i * (1 + M) := by
        have := Nat.mul_le_mul_right (1 + M) (show j + 1 ≤ i from hj)
        rw [Nat.succ_mul] at this
        exact this
      refine ⟨?_, fun q hq => ?_⟩
      · rw [State.heap_setCell_other (show s.heap.size ≠ s.heap.size + 1 + j * (1 + M) by omega), Jvm.Free.Multi.fill_old _ _ _ _ _ _ (show s.heap.size + 1 + j * (1 + M) < (mfS s c comp ci N M K dv i).heap.size by rw [f1]; omega)]
        exact i1
      · rw [State.heap_setCell_other (show s.heap.size ≠ s.heap.size + 1 + j * (1 + M) + 1 + q by omega), Jvm.Free.Multi.fill_old _ _ _ _ _ _ (show s.heap.size + 1 + j * (1 + M) + 1 + q < (mfS s c comp ci N M K dv i).heap.size by rw [f1]; omega)]
        exact i2 q hq
    · have e : j = i := by omega
      subst e
      refine ⟨?_, fun q hq => ?_⟩
      · rw [State.heap_setCell_other (show s.heap.size ≠ s.heap.size + 1 + j * (1 + M) by omega), ← f1]
        exact g2
      · rw [State.heap_setCell_other (show s.heap.size ≠ s.heap.size + 1 + j * (1 + M) + 1 + q by omega), ← f1]
        exact Jvm.Free.Multi.fill_inner _ _ _ _ _ _ M q hq
theorem mfC_slot (c : ClassId) (N h0 d : Nat) : ∀ i : Nat, mfC c N h0 d i = arrV c N (fun j => va_rf (if j < i then some (h0 + 1 + j * d) else none))
  | 0 => by
    show ({ cls := c, slots := Array.replicate N .null, vm := .none } : Cell) = _
    rw [arrV_new]
    refine congrArg (arrV c N) (funext fun j => ?_)
    simp [va_rf]
  | i + 1 => by
    show (mfC c N h0 d i).setSlot i (.ref (h0 + 1 + i * d)) = _
    rw [mfC_slot c N h0 d i, arrV_store]
    refine congrArg (arrV c N) (funext fun j => ?_)
    by_cases e : j = i
    · subst e
      simp [updV, va_rf]
    · by_cases h : j < i
      · simp [updV, e, h, Nat.lt_succ_of_lt h]
      · simp [updV, e, h, show ¬ j < i + 1 by omega]
section MF3
variable {E : CtlPost} {e : Env} {d : Bool} {acts : List Action} {s : State}
set_option maxHeartbeats 1000000 in
theorem wp_make3 {c comp ci cc : ClassId} {k k1 k2 : Class} {t0 t1 type : FieldType} {n m q : Int32} (hk : s.vm.classes[c]? = some k) (hkind : k.kind = .array comp t0) (href : t0.isReference = true)
    (hk1 : s.vm.classes[comp]? = some k1) (hkind1 : k1.kind = .array ci t1) (href1 : t1.isReference = true) (hk2 : s.vm.classes[ci]? = some k2) (hkind2 : k2.kind = .array cc type) (hn : ¬ n < 0) (hm : ¬ m < 0) (hq0 : ¬ q < 0)
    (hl1 : ¬ n.toNatClampNeg > e.platform.arrayLengthLimit) (hh1 : ¬ n.toNatClampNeg * componentBytes t0 > e.platform.maxHeapBytes)
    (hl2 : ¬ m.toNatClampNeg > e.platform.arrayLengthLimit) (hh2 : ¬ m.toNatClampNeg * componentBytes t1 > e.platform.maxHeapBytes)
    (hl3 : ¬ q.toNatClampNeg > e.platform.arrayLengthLimit) (hh3 : ¬ q.toNatClampNeg * componentBytes type > e.platform.maxHeapBytes)
    (hdf : fits type (defaultValue type) = true) (hdd : (defaultValue type).isDefault = true)
    (hc : s.heap.size + 1 + n.toNatClampNeg * (1 + m.toNatClampNeg) ≤ e.platform.maxCells) (hs : s.slotsUsed + n.toNatClampNeg + n.toNatClampNeg * (m.toNatClampNeg + m.toNatClampNeg * q.toNatClampNeg) ≤ e.platform.maxSlots)
    {Q : Addr → Pre} (hq : ∀ d' acts', Q s.heap.size d' acts' (mfS s c comp ci n.toNatClampNeg m.toNatClampNeg q.toNatClampNeg (defaultValue type) n.toNatClampNeg)) :
    wp (multianewarray.make c [n, m, q]) Q E e d acts s := by
  have hfind : ([m, q].find? (· < 0)) = none := by simp [hm, hq0]
  rw [multianewarray.make]
  simp only [wp_bind', W.ite, hn, if_false, wp_pure', W.theClass, hk, hkind, Option.some.injEq, exists_eq_left']
  refine Jvm.Free.Multi.wp_newArray hk hkind hl1 hh1 (Jvm.Free.Multi.refFits href _ (Or.inl rfl)) rfl (by have := Nat.zero_le (n.toNatClampNeg * (1 + m.toNatClampNeg)); omega) (by have := Nat.zero_le (n.toNatClampNeg * (m.toNatClampNeg + m.toNatClampNeg * q.toNatClampNeg)); omega) ?_
  simp only [hfind]
  rw [ite_self, wp_bind', Std.Legacy.Range.forIn_eq_forIn_range']
  have hsz : ([:n.toNatClampNeg] : Std.Legacy.Range).size = n.toNatClampNeg := by simp [Std.Legacy.Range.size]
  rw [hsz]
  show wp (forIn (List.range' 0 n.toNatClampNeg 1) PUnit.unit _) _ E e d acts _
  refine wp_forIn_inv (fun rest s' => ∃ i, i ≤ n.toNatClampNeg ∧ rest = List.range' i (n.toNatClampNeg - i) ∧ s' = mfS s c comp ci n.toNatClampNeg m.toNatClampNeg q.toNatClampNeg (defaultValue type) i) _ _ ⟨0, Nat.zero_le _, rfl, rfl⟩ ?_ ?_
  · rintro x rest s' d' acts' Q' ⟨i, hi, hl, rfl⟩ hnext
    have hlt : i < n.toNatClampNeg := by
      rcases Nat.lt_or_ge i n.toNatClampNeg with h | h
      · exact h
      · rw [show n.toNatClampNeg - i = 0 from by omega] at hl; simp at hl
    obtain ⟨rfl, hrest⟩ : x = i ∧ rest = List.range' (i + 1) (n.toNatClampNeg - (i + 1)) := by
      rw [show n.toNatClampNeg - i = (n.toNatClampNeg - (i + 1)) + 1 from by omega, List.range'_succ] at hl
      exact ⟨(List.cons.inj hl).1, (List.cons.inj hl).2⟩
    obtain ⟨f1, f2, f3, f4⟩ := mfS_facts s c comp ci n.toNatClampNeg m.toNatClampNeg q.toNatClampNeg (defaultValue type) x
    obtain ⟨o1, o2, o3⟩ := mfC_facts c n.toNatClampNeg s.heap.size (1 + m.toNatClampNeg) x
    have hmul : x * (1 + m.toNatClampNeg) + (1 + m.toNatClampNeg) ≤ n.toNatClampNeg * (1 + m.toNatClampNeg) := by
      have := Nat.mul_le_mul_right (1 + m.toNatClampNeg) (show x + 1 ≤ n.toNatClampNeg from hlt)
      rw [Nat.succ_mul] at this; exact this
    have hmul2 : x * (m.toNatClampNeg + m.toNatClampNeg * q.toNatClampNeg) + (m.toNatClampNeg + m.toNatClampNeg * q.toNatClampNeg) ≤ n.toNatClampNeg * (m.toNatClampNeg + m.toNatClampNeg * q.toNatClampNeg) := by
      have := Nat.mul_le_mul_right (m.toNatClampNeg + m.toNatClampNeg * q.toNatClampNeg) (show x + 1 ≤ n.toNatClampNeg from hlt)
      rw [Nat.succ_mul] at this; exact this
    simp only [wp_bind']
    refine Jvm.Free.Multi.wp_make2 (by rw [f3]; exact hk1) hkind1 href1 (by rw [f3]; exact hk2) hkind2 hm hq0 hl2 hh2 hl3 hh3 hdf hdd (by rw [f1]; omega) (by rw [f4]; omega) (fun d2 acts2 => ?_)
    have hlt0 : s.heap.size < (mfS s c comp ci n.toNatClampNeg m.toNatClampNeg q.toNatClampNeg (defaultValue type) x).heap.size := by rw [f1]; omega
    simp only [wp_bind', W.writeLoc, wp_pure']
    obtain ⟨g1, -, g3, -⟩ := Jvm.Free.Multi.fill_facts (mfS s c comp ci n.toNatClampNeg m.toNatClampNeg q.toNatClampNeg (defaultValue type) x) comp ci m.toNatClampNeg q.toNatClampNeg (defaultValue type) m.toNatClampNeg
    refine ⟨mfC c n.toNatClampNeg s.heap.size (1 + m.toNatClampNeg) x, by rw [Jvm.Free.Multi.fill_old _ _ _ _ _ _ hlt0]; exact f2, by rw [o2]; simp, by rw [o3]; exact hlt, ?_, hnext _ _ _ ⟨x + 1, hlt, hrest, ?_⟩⟩
    · rw [o1, o2]
      simp [State.fitsSlot, State.slotType?, g3, f3, hk, hkind, Jvm.Free.Multi.refFits href _ (Or.inr ⟨_, rfl⟩)]
    · rw [f1]; rfl
  · rintro s' d' acts' ⟨i, hi, hl, rfl⟩
    have hiN : i = n.toNatClampNeg := by
      rcases Nat.lt_or_ge i n.toNatClampNeg with h | h
      · rw [show n.toNatClampNeg - i = (n.toNatClampNeg - (i + 1)) + 1 from by omega, List.range'_succ] at hl; cases hl
      · omega
    subst hiN
    simp only [wp_pure']
    exact hq _ _
end MF3
section MF4
variable {p : Program} {l : Launch} {e : Env} {R : Room} {s : State} {m : MethodId} {args : Array Value} {below : List Frame} {meth : Method} {c : Code} {T : State} {locs : List Loc} {cells slots : Nat}
theorem mfS_stand (X : Stand p l e R s m args below meth c T locs cells slots) (cA comp ci : ClassId) (N M K : Nat) (dv : Value) : ∀ i, Stand p l e R s m args below meth c (mfS T cA comp ci N M K dv i) locs (cells + 1 + i * (1 + M)) (slots + N + i * (M + M * K))
  | 0 => by
    have h := X.pushed (mfC cA N T.heap.size (1 + M) 0)
    rw [(mfC_facts cA N T.heap.size (1 + M) 0).2.2] at h
    simpa [mfS] using h
  | i + 1 => by
    have Xi := mfS_stand X cA comp ci N M K dv i
    obtain ⟨f1, f2, f3, f4⟩ := mfS_facts T cA comp ci N M K dv i
    have hlt0 : T.heap.size < (mfS T cA comp ci N M K dv i).heap.size := by rw [f1]; omega
    have Xf := Xi.filled comp ci M K dv M
    have Xg := Xf.dropFresh (fun x hx => by
      obtain ⟨j, -, rfl⟩ := List.mem_map.mp hx
      exact Xi.heapGrown)
    have hcell : (Jvm.Free.Multi.fill (mfS T cA comp ci N M K dv i) comp ci M K dv M).heap[T.heap.size]? = some (mfC cA N T.heap.size (1 + M) i) := by rw [Jvm.Free.Multi.fill_old _ _ _ _ _ _ hlt0]; exact f2
    have h := (Xg.stored hcell i (.ref (T.heap.size + 1 + i * (1 + M)))).dropFresh (fun x hx => by
      rw [List.mem_singleton.mp hx]
      exact X.heapGrown)
    have e1 : cells + 1 + (i + 1) * (1 + M) = cells + 1 + i * (1 + M) + 1 + M := by rw [Nat.succ_mul]; omega
    have e2 : slots + N + (i + 1) * (M + M * K) = slots + N + i * (M + M * K) + M + M * K := by rw [Nat.succ_mul]; omega
    rw [e1, e2]
    exact h
end MF4
def vr_mix (f : Nat → va_E) (w : List Nat) (g : Nat → va_E) : Nat → va_E := fun a => if a ∈ w then g a else f a
theorem va_pl_app {L w : List Nat} {f g : Nat → va_E} (h : ∀ a, a ∈ w → a ∉ L) : va_pl L f ++ va_pl w g = va_pl (L ++ w) (vr_mix f w g) := by
  unfold va_pl
  rw [List.map_append]
  congr 1
  · apply List.map_congr_left
    intro a ha
    unfold vr_mix
    rw [if_neg (fun q => h a q ha)]
  · apply List.map_congr_left
    intro a ha
    unfold vr_mix
    rw [if_pos ha]
/-- what the new rows hold: j-th address behind the outer one -/
def mfE (G : kG) (n h0 : Nat) (a : Nat) : va_E := if (a - h0 - 1) % (1 + n) = 0 then .inl (G.2 3, n, .inr (.inr (.inr (.inr (kRn n (fun j => a + 1 + j)))))) else .inl (G.2 0, 0, .inl (kI (fun _ => 0)))
section MF5
variable {p : Program} {l : Launch} {e : Env} {R : Room} {s : State} {m : MethodId} {args : Array Value} {below : List Frame} {meth : Method} {c : Code} {H : Heap} {locs : List Loc} {cells slots : Nat} {Q : State → Prop}
variable {cc : ByteArray} {pc : Nat} {ls : Array Slot} {rest : List Value} {G : kG} {A : Nat → Prop} {X : va_W} {H0 : Heap} {L : List Nat} {f : Nat → va_E}
set_option maxHeartbeats 1000000 in
theorem kn_mna3 (hexec : p.tables.exec = Jvm.exec) (hb : c.code = cc) {own : String} {index : Nat} (hown : s.vm.findClass own = some m.cls) (hclink : (Cond.classLink own index "[[[I").before args s = true) (hO1 : va_AOA .int s) (hO2 : va_AOA (.array .int) s) (harr : (Cond.arrayClass .int).before args s = true) (hK : va_K G.1 vwCl (kT G) s) (hP : va_P G.1 vwCl (X ++ va_pl L f) H) (hD : va_D A (X ++ va_pl L f)) (hS : va_S A H0 H locs) (hA : ∀ q, H0.size ≤ q → A q) {n : Nat} (hn : n ≤ 1000) (hcells : cells + (1 + n * (1 + n)) ≤ R.cells) (hslots : slots + (n + n * n) ≤ R.slots) (hdg : decode cc pc = .ok (.multianewarray index 3, 4))
    (kk : ∀ (q : Nat) (r : Nat → Nat) (r2 : Nat → Nat → Nat) (L' : List Nat) (f' : Nat → va_E) (H1 : Heap), (∀ y, y ∈ L → y ∈ L' ∧ f' y = f y) → (∀ i, i < n → r i ∈ L' ∧ r i ∉ L ∧ f' (r i) = .inl (G.2 3, n, .inr (.inr (.inr (.inr (kRn n (r2 i))))))) → (∀ i j, i < n → j < n → r2 i j ∈ L' ∧ r2 i j ∉ L ∧ f' (r2 i j) = .inl (G.2 0, 0, .inl (kI (fun _ => 0)))) → (∀ i j, i < n → j < n → r i = r j → i = j) →
      va_P G.1 vwCl ((X ++ [(q, .inl (G.2 4, n, .inr (.inr (.inr (.inr (kRn n r))))))]) ++ va_pl L' f') H1 → va_D A ((X ++ [(q, .inl (G.2 4, n, .inr (.inr (.inr (.inr (kRn n r))))))]) ++ va_pl L' f') → va_S A H0 H1 locs →
      W p l e R s m args below meth c H1 locs (cells + (1 + n * (1 + n))) (slots + (n + n * n)) Q (F0 m (pc + 4) ls (.ref q :: rest))) : W p l e R s m args below meth c H locs cells slots Q (F0 m pc ls (.int (nI 0) :: .int (nI n) :: .int (nI n) :: rest)) := by
  intro T hT Xs
  subst hT
  have hcl : (nI n).toNatClampNeg = n := nI_clamp (by omega)
  have hc0 : (nI 0).toNatClampNeg = 0 := nI_clamp (by omega)
  have hn0 : ¬ nI n < 0 := nI_pos (by omega)
  have hz0 : ¬ nI 0 < 0 := nI_pos (by omega)
  have hpl : e.platform.magicAccessors = ({} : Platform).magicAccessors := by rw [Xs.admits.platform]
  have hO1' : (Cond.arrayOver (.array .int)).before args s = true := va_AOA.use hO1
  have hO2' : (Cond.arrayOver (.array (.array .int))).before args s = true := va_AOA.use hO2
  obtain ⟨comp, cA, kA, hcomp, hkA, hkindA, hnameA⟩ := Cond.arrayOver_specA hO2'
  obtain ⟨ci, cB, kB, hci, hkB, hkindB, hnameB⟩ := Cond.arrayOver_specA hO1'
  obtain ⟨cI, kI9, cc9, hcI, hkI, hkindI⟩ := Cond.arrayClass_spec harr
  have e4 : s.vm.findClass ("[" ++ (FieldType.array (.array .int)).toString) = some (G.2 4) := (hK.2 4 (G.2 4, .array (.array .int)) rfl).2
  have e3 : s.vm.findClass ("[" ++ (FieldType.array .int).toString) = some (G.2 3) := (hK.2 3 (G.2 3, .array .int) rfl).2
  have e0 : s.vm.findClass ("[" ++ FieldType.int.toString) = some (G.2 0) := (hK.2 0 (G.2 0, .int) rfl).2
  have q1 : cA = G.2 4 := Option.some.inj (hnameA.symm.trans e4)
  have q2 : cB = G.2 3 := Option.some.inj (hnameB.symm.trans e3)
  have q3 : comp = G.2 3 := Option.some.inj (hcomp.symm.trans e3)
  have q4 : ci = G.2 0 := Option.some.inj (hci.symm.trans e0)
  have q5 : cI = G.2 0 := Option.some.inj (hcI.symm.trans e0)
  subst q1
  subst q2
  subst q4
  rw [q3] at hkindA
  rw [q5] at hkI
  obtain ⟨c0, hfc0, hcl0⟩ := Cond.classLink_spec hown hclink e.platform hpl
  cases e4.symm.trans hfc0
  obtain ⟨hg₁, hwarm₁, hready₁⟩ := State.classEntry (e := e) Xs.warmed hcl0
  generalize T.vm.noted (F0 m pc ls (.int (nI 0) :: .int (nI n) :: .int (nI n) :: rest)).method.cls index (.cls (G.2 4)) = vm₁ at hg₁ hwarm₁ hready₁
  have hal : s.vm.Alike vm₁ := hwarm₁.alike
  obtain ⟨kA₁, hkA₁, heA⟩ := hal.2.2 _ _ hkA
  obtain ⟨kB₁, hkB₁, heB⟩ := hal.2.2 _ _ hkB
  obtain ⟨kI₁, hkI₁, heI⟩ := hal.2.2 _ _ hkI
  have hkindA₁ : kA₁.kind = .array (G.2 3) (.array (.array .int)) := by rw [heA]; exact hkindA
  have hkindB₁ : kB₁.kind = .array (G.2 0) (.array .int) := by rw [heB]; exact hkindB
  have hkindI₁ : kI₁.kind = .array cc9 .int := by rw [heI]; exact hkindI
  have X₁ := Xs.noted hwarm₁
  have hm0 : n * (n + n * 0) = n * n := by rw [Nat.mul_zero, Nat.add_zero]
  have XF := mfS_stand X₁ (G.2 4) (G.2 3) (G.2 0) n n 0 (defaultValue .int) n
  rw [hm0] at XF
  obtain ⟨hr1, hr2⟩ := Xs.roomAbove hcells hslots
  obtain ⟨f1, f2, f3, f4⟩ := mfS_facts (T.setVm vm₁) (G.2 4) (G.2 3) (G.2 0) n n 0 (defaultValue .int) n
  have fold := fun (a : Addr) (ha : a < T.heap.size) => mfS_old (T.setVm vm₁) (G.2 4) (G.2 3) (G.2 0) n n 0 (defaultValue .int) (a := a) ha n
  have frow := mfS_row (T.setVm vm₁) (G.2 4) (G.2 3) (G.2 0) n n 0 (defaultValue .int) n
  have hTh : (T.setVm vm₁).heap = T.heap := rfl
  rw [hTh] at f1 f2 frow
  have fold : ∀ a : Addr, a < T.heap.size → (mfS (T.setVm vm₁) (G.2 4) (G.2 3) (G.2 0) n n 0 (defaultValue .int) n).heap[a]? = T.heap[a]? := fold
  have hstep : ∀ target, Steps p.tables e below ((mfS (T.setVm vm₁) (G.2 4) (G.2 3) (G.2 0) n n 0 (defaultValue .int) n).setTop (F0 m (pc + 4) ls (.ref T.heap.size :: rest))) target → Steps p.tables e below (T.setTop (F0 m pc ls (.int (nI 0) :: .int (nI n) :: .int (nI n) :: rest))) target := by
    intro target hrest
    have hl1 : ¬ (nI n).toNatClampNeg > e.platform.arrayLengthLimit := by rw [Launch.admits_arrayLengthLimit Xs.admits, hcl]; omega
    have hh1 : ¬ (nI n).toNatClampNeg * componentBytes (.array (.array .int)) > e.platform.maxHeapBytes := by
      rw [Launch.admits_maxHeapBytes Xs.admits, hcl]; show ¬ n * 4 > 536870912; omega
    have hh2 : ¬ (nI n).toNatClampNeg * componentBytes (.array .int) > e.platform.maxHeapBytes := by
      rw [Launch.admits_maxHeapBytes Xs.admits, hcl]; show ¬ n * 4 > 536870912; omega
    have hl3 : ¬ (nI 0).toNatClampNeg > e.platform.arrayLengthLimit := by rw [Launch.admits_arrayLengthLimit Xs.admits, hc0]; omega
    have hh3 : ¬ (nI 0).toNatClampNeg * componentBytes .int > e.platform.maxHeapBytes := by rw [Launch.admits_maxHeapBytes Xs.admits, hc0]; omega
    jvm_step Xs.here [hexec, hb, hdg]
    simp only [multianewarray.sem, wp_bind', W.resolveClassAt_links (State.method?_setTop (F0 m pc ls (.int (nI 0) :: .int (nI n) :: .int (nI n) :: rest)) Xs.here.top) hg₁]
    rw [W.popN, if_neg (by decide)]
    refine ⟨F0 m pc ls (.int (nI 0) :: .int (nI n) :: .int (nI n) :: rest), State.topJava?_setTop' (s := T.setVm vm₁) _ Xs.here.top, [.int (nI n), .int (nI n), .int (nI 0)], rest, rfl, rfl, ?_⟩
    simp only [List.mapM_cons, List.mapM_nil, wp_bind', wp_pure']
    refine wp_make3 (k := kA₁) (k1 := kB₁) (k2 := kI₁) (comp := G.2 3) (ci := G.2 0) (cc := cc9) (t0 := .array (.array .int)) (t1 := .array .int) (type := .int) hkA₁ hkindA₁ rfl hkB₁ hkindB₁ rfl hkI₁ hkindI₁ hn0 hn0 hz0 hl1 hh1 hl1 hh2 hl3 hh3 rfl rfl (by show T.heap.size + 1 + _ ≤ _; rw [hcl]; omega) (by show T.slotsUsed + _ + _ ≤ _; rw [hcl, hc0, hm0]; omega) (fun d' acts' => ?_)
    rw [hcl, hc0]
    have eS : ((T.setTop (F0 m pc ls (.int (nI 0) :: .int (nI n) :: .int (nI n) :: rest))).setVm vm₁).setTop (F0 m pc ls rest) = (T.setVm vm₁).setTop (F0 m pc ls rest) := by
      show ((T.setVm vm₁).setTop _).setTop _ = _
      rw [State.setTop_setTop]
    rw [eS, mfS_setTop]
    simp only [wp_bind', W.mark, W.pushRef, State.topJava?_setTop' _ XF.here.top, Option.some.injEq, exists_eq_left', State.setTop_setTop, State.heap_setTop]
    intro acts
    simp [jvm, XF.here.top]
    exact hrest
  generalize hF : mfS (T.setVm vm₁) (G.2 4) (G.2 3) (G.2 0) n n 0 (defaultValue .int) n = F at XF f1 f2 fold frow hstep
  rw [mfC_slot] at f2
  have hlt : ∀ a, a ∈ L → a < T.heap.size := fun a ha => va_pl_lt hP ha
  -- the addresses behind the outer one
  let w : List Nat := (List.range (n * (1 + n))).map (fun j => T.heap.size + 1 + j)
  have hw : ∀ a, a ∈ w ↔ T.heap.size + 1 ≤ a ∧ a < T.heap.size + 1 + n * (1 + n) := fun a => by
    constructor
    · intro h
      obtain ⟨j, hj, rfl⟩ := List.mem_map.mp h
      have := List.mem_range.mp hj
      omega
    · rintro ⟨h1, h2⟩
      exact List.mem_map.mpr ⟨a - (T.heap.size + 1), List.mem_range.mpr (by omega), by omega⟩
  have hwL : ∀ a, a ∈ w → a ∉ L := fun a h1 h2 => by
    have := (hw a).mp h1
    have := hlt a h2
    omega
  have hcell : ∀ a, a ∈ w → F.heap[a]? = some (vp_cell (match mfE G n T.heap.size a with | .inl x => x.1 | .inr _ => G.2 0) (match mfE G n T.heap.size a with | .inl x => x.2 | .inr _ => (0, .inl (fun _ => 0)))) := by
    intro a ha
    obtain ⟨h1, h2⟩ := (hw a).mp ha
    obtain ⟨b, rfl⟩ : ∃ b, a = T.heap.size + 1 + b := ⟨a - (T.heap.size + 1), by omega⟩
    have hb9 : b < n * (1 + n) := by omega
    have hj : b / (1 + n) < n := Nat.div_lt_of_lt_mul (by rw [Nat.mul_comm]; exact hb9)
    have hdm : (1 + n) * (b / (1 + n)) + b % (1 + n) = b := Nat.div_add_mod b (1 + n)
    have hmod : b % (1 + n) < 1 + n := Nat.mod_lt _ (by omega)
    obtain ⟨r1, r2⟩ := frow (b / (1 + n)) hj
    rw [Nat.mul_comm (b / (1 + n)) (1 + n)] at r1 r2
    have hsub : T.heap.size + 1 + b - T.heap.size - 1 = b := by omega
    unfold mfE
    rw [hsub]
    by_cases hz : b % (1 + n) = 0
    · rw [if_pos hz]
      dsimp only
      rw [show T.heap.size + 1 + b = T.heap.size + 1 + (1 + n) * (b / (1 + n)) by omega, r1, vr_outer, vp_cell_q]
      congr 2
    · rw [if_neg hz]
      dsimp only
      have h3 := r2 (b % (1 + n) - 1) (by omega)
      rw [show T.heap.size + 1 + (1 + n) * (b / (1 + n)) + 1 + (b % (1 + n) - 1) = T.heap.size + 1 + b by omega] at h3
      rw [h3]
      exact congrArg some (arrV_new _ _ _)
  have hold : va_P G.1 vwCl (X ++ va_pl L f) F.heap := hP.kept (fun k9 x hx => fold x.1 ((hP k9 x hx).lt))
  have hP1 : va_P G.1 vwCl ((X ++ va_pl L f) ++ [(T.heap.size, .inl (G.2 4, n, .inr (.inr (.inr (.inr (kRn n (fun i => T.heap.size + 1 + i * (1 + n))))))))]) F.heap := hold.app (fun k9 x hx => by
    have h0 : k9 < 1 := (List.getElem?_eq_some_iff.mp hx).1
    rw [show k9 = 0 by omega] at hx
    cases hx
    show F.heap[_]? = some (vp_cell _ _)
    rw [vp_cell_q]
    exact f2)
  have hP2 : va_P G.1 vwCl (((X ++ va_pl L f) ++ [(T.heap.size, .inl (G.2 4, n, .inr (.inr (.inr (.inr (kRn n (fun i => T.heap.size + 1 + i * (1 + n))))))))]) ++ va_pl w (mfE G n T.heap.size)) F.heap := hP1.app (fun k9 x hx => by
    obtain ⟨a, ha, rfl⟩ := List.mem_map.mp (List.mem_of_getElem? hx)
    have h3 := hcell a ha
    show va_at G.1 vwCl (a, mfE G n T.heap.size a) F.heap
    unfold mfE at h3 ⊢
    split
    · rename_i hz
      simp only [hz, if_true] at h3
      exact h3
    · rename_i hz
      simp only [hz, if_false] at h3
      exact h3)
  have hD1 := hD.push (e := .inl (G.2 4, n, .inr (.inr (.inr (.inr (kRn n (fun i => T.heap.size + 1 + i * (1 + n)))))))) hP rfl (hA _ hS.1)
  have hD2 : va_D A (((X ++ va_pl L f) ++ [(T.heap.size, .inl (G.2 4, n, .inr (.inr (.inr (.inr (kRn n (fun i => T.heap.size + 1 + i * (1 + n))))))))]) ++ va_pl w (mfE G n T.heap.size)) := by
    refine va_D.app hD1 ⟨fun i j x y hx hy hxy => ?_, fun k9 x hx => ?_⟩ (fun i j x y hx hy hxy => ?_)
    · have get : ∀ (k9 : Nat) (x : Nat × va_E), (va_pl w (mfE G n T.heap.size))[k9]? = some x → x.1 = T.heap.size + 1 + k9 := fun k9 x hx => by
        unfold va_pl at hx
        rw [List.getElem?_map] at hx
        have hx : (((List.range (n * (1 + n))).map (fun j => T.heap.size + 1 + j))[k9]?).map (fun a => (a, mfE G n T.heap.size a)) = some x := hx
        rw [List.getElem?_map] at hx
        by_cases h9 : k9 < n * (1 + n)
        · rw [List.getElem?_range h9] at hx
          cases hx
          rfl
        · rw [List.getElem?_eq_none (by rw [List.length_range]; omega)] at hx
          cases hx
      have := get i x hx
      have := get j y hy
      omega
    · obtain ⟨a, ha, rfl⟩ := List.mem_map.mp (List.mem_of_getElem? hx)
      exact hA a (Nat.le_trans hS.1 (by have := (hw a).mp ha; omega))
    · obtain ⟨a, ha, rfl⟩ := List.mem_map.mp (List.mem_of_getElem? hy)
      have h1 := (hw a).mp ha
      have hxy : x.1 = a := hxy
      rcases List.mem_append.mp (List.mem_of_getElem? hx) with h | h
      · obtain ⟨i2, hi2⟩ := List.getElem?_of_mem h
        have := (hP i2 x hi2).lt
        omega
      · rw [List.mem_singleton.mp h] at hxy
        have hxy : T.heap.size = a := hxy
        omega
  have hP3 := vr_lay hP2
  have hD3 := vr_layD hD2
  rw [va_pl_app hwL] at hP3 hD3
  have hmix : ∀ a, a ∈ w → vr_mix f w (mfE G n T.heap.size) a = mfE G n T.heap.size a := fun a ha => if_pos ha
  have hr : ∀ i, i < n → T.heap.size + 1 + i * (1 + n) ∈ w := fun i hi => (hw _).mpr ⟨by omega, by
    have := Nat.mul_le_mul_right (1 + n) (show i + 1 ≤ n from hi)
    rw [Nat.succ_mul] at this
    omega⟩
  have hr2 : ∀ i j, i < n → j < n → T.heap.size + 1 + i * (1 + n) + 1 + j ∈ w := fun i j hi hj => (hw _).mpr ⟨by omega, by
    have := Nat.mul_le_mul_right (1 + n) (show i + 1 ≤ n from hi)
    rw [Nat.succ_mul] at this
    omega⟩
  have hz1 : F.heap.size = T.heap.size + 1 + n * (1 + n) := f1
  obtain ⟨t9, b1, b2⟩ := kk T.heap.size (fun i => T.heap.size + 1 + i * (1 + n)) (fun i j => T.heap.size + 1 + i * (1 + n) + 1 + j) (L ++ w) (vr_mix f w (mfE G n T.heap.size)) F.heap
    (fun y hy => ⟨List.mem_append_left _ hy, if_neg (fun z => hwL y z hy)⟩)
    (fun i hi => ⟨List.mem_append_right _ (hr i hi), hwL _ (hr i hi), by
      rw [hmix _ (hr i hi)]
      unfold mfE
      rw [show T.heap.size + 1 + i * (1 + n) - T.heap.size - 1 = i * (1 + n) by omega, Nat.mul_mod_left, if_pos rfl]⟩)
    (fun i j hi hj => ⟨List.mem_append_right _ (hr2 i j hi hj), hwL _ (hr2 i j hi hj), by
      rw [hmix _ (hr2 i j hi hj)]
      unfold mfE
      rw [show T.heap.size + 1 + i * (1 + n) + 1 + j - T.heap.size - 1 = (1 + j) + i * (1 + n) by omega, Nat.add_mul_mod_self_right, Nat.mod_eq_of_lt (by omega), if_neg (by omega)]⟩)
    (fun i j hi hj hij => by
      have h1 : i * (1 + n) = j * (1 + n) := by omega
      exact Nat.eq_of_mul_eq_mul_right (by omega) h1)
    hP3 hD3 ⟨Nat.le_trans hS.1 (by rw [hz1]; omega), fun x h1 h2 => (fold x (Nat.lt_of_lt_of_le h1 hS.1)).trans (hS.2.1 x h1 h2), hS.2.2⟩ F rfl (by
      have e1 : cells + (1 + n * (1 + n)) = cells + 1 + n * (1 + n) := by omega
      have e2 : slots + (n + n * n) = slots + n + n * n := by omega
      rw [e1, e2]
      exact XF)
  exact ⟨t9, hstep t9 b1, b2⟩
end MF5
