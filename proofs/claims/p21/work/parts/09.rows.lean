section KL
variable {p : Program} {l : Launch} {e : Env} {R : Room} {s : State} {m : MethodId} {args : Array Value} {below : List Frame} {meth : Method} {c : Code} {H : Heap} {locs : List Loc} {cells slots : Nat} {Q : State → Prop}
variable {cc : ByteArray} {pc : Nat} {ls : Array Slot} {rest : List Value} {G : kG} {A : Nat → Prop} {a : Nat} {ws X : va_W} {H0 : Heap} {L : List Nat} {f : Nat → va_E}
theorem kp_self {α : Type} (f : Nat → α) (k : Nat) : va_up f k (f k) = f := by
  funext j
  unfold va_up
  split
  · rename_i h; rw [h]
  · rfl
/-- an int out of a pooled row of which the contents are known -/
theorem kp_ialf (hexec : p.tables.exec = Jvm.exec) (hb : c.code = cc) (hK : va_K G.1 vwCl (kT G) s) (hP : va_P G.1 vwCl (X ++ va_pl L f) H) {n : Nat} {g : Nat → Int32} (hL : a ∈ L) (hf : f a = .inl (G.2 0, n, .inl g)) {k : Nat} (hk : k < n) (hn : n < 2 ^ 31) {v : Int32} (hv : g k = v) (hdg : decode cc pc = .ok (.iaload, 1)) (kk : W p l e R s m args below meth c H locs cells slots Q (F0 m (pc + 1) ls (.int v :: rest))) : W p l e R s m args below meth c H locs cells slots Q (F0 m pc ls (.int (nI k) :: .ref a :: rest)) := by
  obtain ⟨k2, hk2⟩ := va_pl_get (X := X) (f := f) hL
  rw [hf] at hk2
  exact kr_iald hexec hb hK hP k2 0 hk2 rfl hk hn hv hdg kk
theorem kp_alenf (hexec : p.tables.exec = Jvm.exec) (hb : c.code = cc) (hK : va_K G.1 vwCl (kT G) s) (hP : va_P G.1 vwCl (X ++ va_pl L f) H) {n : Nat} {g : Nat → Int32} (hL : a ∈ L) (hf : f a = .inl (G.2 0, n, .inl g)) (hdg : decode cc pc = .ok (.arraylength, 1)) (kk : W p l e R s m args below meth c H locs cells slots Q (F0 m (pc + 1) ls (.int (nI n) :: rest))) : W p l e R s m args below meth c H locs cells slots Q (F0 m pc ls (.ref a :: rest)) := by
  obtain ⟨k2, hk2⟩ := va_pl_get (X := X) (f := f) hL
  rw [hf] at hk2
  exact va_alen hexec hb hK hP k2 0 hk2 rfl rfl hdg kk
/-- a pooled row that changes: its cell stands out in the pool's function -/
theorem kp_iast (hexec : p.tables.exec = Jvm.exec) (hb : c.code = cc) (hK : va_K G.1 vwCl (kT G) s) {n : Nat} {g g' : Nat → Int32} (hP : va_P G.1 vwCl (X ++ va_pl L (va_up f a (.inl (G.2 0, n, .inl g)))) H) (hD : va_D A (X ++ va_pl L (va_up f a (.inl (G.2 0, n, .inl g))))) (hS : va_S A H0 H locs) (hL : a ∈ L) {k : Nat} (hk : k < n) (hn : n < 2 ^ 31) {x : Int32} (hg : upd g k x = g') (hdg : decode cc pc = .ok (.iastore, 1)) (kk : ∀ (H1 : Heap) (locs1 : List Loc), va_P G.1 vwCl (X ++ va_pl L (va_up f a (.inl (G.2 0, n, .inl g')))) H1 → va_D A (X ++ va_pl L (va_up f a (.inl (G.2 0, n, .inl g')))) → va_S A H0 H1 locs1 → W p l e R s m args below meth c H1 locs1 cells slots Q (F0 m (pc + 1) ls rest)) : W p l e R s m args below meth c H locs cells slots Q (F0 m pc ls (.int x :: .int (nI k) :: .ref a :: rest)) := by
  obtain ⟨k2, hk2⟩ := va_pl_get (X := X) (f := va_up f a (.inl (G.2 0, n, .inl g))) hL
  have hset := va_pl_set (e := .inl (G.2 0, n, .inl g')) hD hL hk2
  rw [bx_uu] at hset
  rw [va_up_self] at hk2
  refine kr_iast hexec hb hK hP hD hS k2 0 hk2 rfl hk hn hg hdg (fun H1 locs1 h1 h2 h3 => kk H1 locs1 ?_ ?_ h3)
  · rw [← hset]; exact h1
  · rw [← hset]; exact h2
/-- a row out of a row of rows -/
theorem kr_aldA (hexec : p.tables.exec = Jvm.exec) (hb : c.code = cc) {D : va_G} {cl : List vw_C} {tys : List (ClassId × FieldType)} (hK : va_K D cl tys s) (hP : va_P D cl ws H) (q0 t0 : Nat) {cA : ClassId} {t : FieldType} {n : Nat} {g : Nat → Option Nat} (ha : ws[q0]? = some (a, .inl (cA, n, .inr (.inr (.inr (.inr g)))))) (ht : tys[t0]? = some (cA, .array t)) {k : Nat} (hk : k < n) (hn : n < 2 ^ 31) {v : Value} (hv : va_rf (g k) = v) (hdg : decode cc pc = .ok (.aaload, 1)) (kk : W p l e R s m args below meth c H locs cells slots Q (F0 m (pc + 1) ls (v :: rest))) : W p l e R s m args below meth c H locs cells slots Q (F0 m pc ls (.int (nI k) :: .ref a :: rest)) := by
  have hin := vp_in_nI hk hn
  subst hv
  refine W.aald (v := va_rf (g k)) (ty := .array t) hexec hb (hP q0 _ ha) ((hK.2 t0 _ ht).1 n (fun j => va_rf (g j))) rfl (fun q => by cases q) (by show ¬ (nI k < 0 ∨ (arrV _ _ _).slots.size ≤ _); rw [arrV_size]; exact hin) ?_ rfl rfl hdg kk
  show (arrV _ _ _).slots[_]? = _
  rw [nI_clamp (Nat.lt_trans hk hn)]
  rw [arrV_read _ _ hk]
end KL
