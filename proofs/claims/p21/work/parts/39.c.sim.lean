theorem kX5_init_0 : Cond.instanceMethod objectInit ∈ wsX5_init := by decide +kernel
theorem kX5_init_1 : Cond.code objectInit ⟨#[0xb1]⟩ 1 none ∈ wsX5_init := by decide +kernel
theorem kX5_init_2 : Cond.methodLink RX5 3 objectInit ∈ wsX5_init := by decide +kernel
theorem kX5_init_3 : Cond.arrayClass .int ∈ wsX5_init := by decide +kernel
theorem kX5_init_4 : Cond.fieldLink RX5 9 "PassNotesLaw$Sim" "areas" "[I" ∈ wsX5_init := by decide +kernel
theorem kX5_init_5 : ∀ w ∈ wsX50, w ∈ wsX5_init := by decide +kernel
theorem kX5_init_6 : Cond.fieldLink RX5 15 "PassNotesLaw$Sim" "wrote" "[I" ∈ wsX5_init := by decide +kernel
theorem kX5_init_7 : Cond.classLink RX5 18 "[[I" ∈ wsX5_init := by decide +kernel
theorem kX5_init_8 : Cond.fieldLink RX5 20 "PassNotesLaw$Sim" "sheets" "[[[I" ∈ wsX5_init := by decide +kernel
theorem kX5_init_9 : Cond.classLink RX5 24 "[I" ∈ wsX5_init := by decide +kernel
theorem kX5_init_10 : Cond.fieldLink RX5 25 "PassNotesLaw$Sim" "passes" "[[I" ∈ wsX5_init := by decide +kernel
set_option maxHeartbeats 4000000 in
set_option maxRecDepth 100000 in
theorem c_X5_init (l : Launch) (G : kG) (sz : Nat) (zs : Nat)  : Met l yX5_init wsX5_init ({ frames := 1, cells := 4, slots := 0, locals := 12 }) (kPreZ G [(zs, .inr (5, [.int 0, .null, .null, .null, .null]))] sz [.ref zs]) (va_Qv (fun (u : Nat × Nat × Nat × Nat) => True) (fun (u : Nat × Nat × Nat × Nat) t => kA G (va_A [(zs, .inr (5, [.int 0, .null, .null, .null, .null]))] sz) [(zs, .inr (5, [.int (nI 0), .ref u.1, .ref u.2.1, .ref u.2.2.1, .ref u.2.2.2])), (u.1, .inl (G.2 0, 0, .inl (kI (fun _ => 0)))), (u.2.1, .inl (G.2 0, 0, .inl (kI (fun _ => 0)))), (u.2.2.1, .inl (G.2 4, 0, .inr (.inr (.inr (.inr (fun _ => none)))))), (u.2.2.2, .inl (G.2 3, 0, .inr (.inr (.inr (.inr (fun _ => none))))))] t) (va_A [(zs, .inr (5, [.int 0, .null, .null, .null, .null]))] sz)) 4 0 (va_A [(zs, .inr (5, [.int 0, .null, .null, .null, .null]))] sz) := by
  refine Met.ofW (cc := cX5_init) (maxL := 1) (ret := none) (by decide) rfl ?_
  intro p e s m args below meth c s₁ B hml hv
  obtain ⟨rfl, hsz, hP, hK, hD0, hZ⟩ := hv
  have hx := B.exec
  have hb := B.bytes
  have hr := B.returns
  have hts := atoms_spec (ws := wsX5_init) B.pre
  have hown : s.vm.findClass RX5 = some m.cls := findClass_of_methodNamed B.named
  have hlocks := B.notSynchronized
  have hK : va_K G.1 vwCl (kT G) s := hK
  have hin : meth.name = "<init>" := (name_of_methodNamed B.named B.method).1
  subst hsz
  have hD := hD0.self (sz := s.heap.size)
  generalize hAe : va_A [(zs, .inr (5, [.int 0, .null, .null, .null, .null]))] s.heap.size = A at hD ⊢
  have hA : ∀ q : Nat, s.heap.size ≤ q → A q := fun q h => by rw [← hAe]; exact Or.inr h
  have hS : va_S A s.heap s.heap [] := va_S.rf
  have hP : va_P G.1 vwCl [(zs, .inr (5, [.int 0, .null, .null, .null, .null]))] s.heap := hP
  have hl := lv_entry ([.ref zs]) (n := 1) (Nat.le_of_ble_eq_true rfl)
  rw [lg_entry_eq]
  generalize (lg_sl ([.ref zs]) ++ List.replicate (1 - (lg_sl ([.ref zs])).length) Slot.unset).toArray = ls at hl ⊢
  have hl : lv_has ls 1 [(0, .ref zs)] := hl
  refine lv_aload_n hx hb dX5_init_0 rfl (lv_at hl 0 rfl) ?_
  refine W.objInit hx hb hown (hts _ kX5_init_2) (hts _ kX5_init_0) (hts _ kX5_init_1) rfl (by rw [hml]; exact hl.1) rfl dX5_init_1 (Nat.le_of_ble_eq_true rfl) (Nat.le_of_ble_eq_true rfl) ?_
  refine W.eq (g2 := F0 m 4 ls []) rfl ?_
  refine lv_aload_n hx hb dX5_init_4 rfl (lv_at hl 0 rfl) ?_
  refine lv_iconst (v := (nI 0)) hx hb dX5_init_5 (by decide) ?_
  refine kn_newi hx hb (hts _ kX5_init_3) hK hP hD hS hA (by decide) (Nat.le_of_ble_eq_true rfl) (Nat.le_of_ble_eq_true rfl) dX5_init_6 (fun q_1 H hP hD hS => ?_)
  have hP : va_P G.1 vwCl [(zs, .inr (5, [.int 0, .null, .null, .null, .null])), (q_1, .inl (G.2 0, 0, .inl (kI (fun _ => 0))))] H := hP
  have hD : va_D A [(zs, .inr (5, [.int 0, .null, .null, .null, .null])), (q_1, .inl (G.2 0, 0, .inl (kI (fun _ => 0))))] := hD
  refine W.widen (k := 1) (n := 0) (Nat.le_refl _) (Nat.le_refl _) ?_
  refine va_put (D := G.1) (ci := 5) (v := .ref q_1) (ty := (tyX5 1)) (C := RX5) (T := TX5) (N := 5) hx hb hts kX5_init_5 tyX5 tyX5_ok nmX5 hown hK hP hD hS 0 rfl rfl 1 (by decide) (hts _ kX5_init_4) (fun _ h9 => h9) rfl (by decide +kernel) rfl rfl (Nat.le_of_ble_eq_true rfl) dX5_init_8 (fun H locs hP hD hS => ?_)
  have hP : va_P G.1 vwCl [(zs, .inr (5, [.int 0, .ref q_1, .null, .null, .null])), (q_1, .inl (G.2 0, 0, .inl (kI (fun _ => 0))))] H := hP
  have hD : va_D A [(zs, .inr (5, [.int 0, .ref q_1, .null, .null, .null])), (q_1, .inl (G.2 0, 0, .inl (kI (fun _ => 0))))] := hD
  refine lv_aload_n hx hb dX5_init_11 rfl (lv_at hl 0 rfl) ?_
  refine lv_iconst (v := (nI 0)) hx hb dX5_init_12 (by decide) ?_
  refine kn_newi hx hb (hts _ kX5_init_3) hK hP hD hS hA (by decide) (Nat.le_of_ble_eq_true rfl) (Nat.le_of_ble_eq_true rfl) dX5_init_13 (fun q_2 H hP hD hS => ?_)
  have hP : va_P G.1 vwCl [(zs, .inr (5, [.int 0, .ref q_1, .null, .null, .null])), (q_1, .inl (G.2 0, 0, .inl (kI (fun _ => 0)))), (q_2, .inl (G.2 0, 0, .inl (kI (fun _ => 0))))] H := hP
  have hD : va_D A [(zs, .inr (5, [.int 0, .ref q_1, .null, .null, .null])), (q_1, .inl (G.2 0, 0, .inl (kI (fun _ => 0)))), (q_2, .inl (G.2 0, 0, .inl (kI (fun _ => 0))))] := hD
  refine W.widen (k := 2) (n := 0) (Nat.le_refl _) (Nat.le_refl _) ?_
  refine va_put (D := G.1) (ci := 5) (v := .ref q_2) (ty := (tyX5 2)) (C := RX5) (T := TX5) (N := 5) hx hb hts kX5_init_5 tyX5 tyX5_ok nmX5 hown hK hP hD hS 0 rfl rfl 2 (by decide) (hts _ kX5_init_6) (fun _ h9 => h9) rfl (by decide +kernel) rfl rfl (Nat.le_of_ble_eq_true rfl) dX5_init_15 (fun H locs hP hD hS => ?_)
  have hP : va_P G.1 vwCl [(zs, .inr (5, [.int 0, .ref q_1, .ref q_2, .null, .null])), (q_1, .inl (G.2 0, 0, .inl (kI (fun _ => 0)))), (q_2, .inl (G.2 0, 0, .inl (kI (fun _ => 0))))] H := hP
  have hD : va_D A [(zs, .inr (5, [.int 0, .ref q_1, .ref q_2, .null, .null])), (q_1, .inl (G.2 0, 0, .inl (kI (fun _ => 0)))), (q_2, .inl (G.2 0, 0, .inl (kI (fun _ => 0))))] := hD
  refine lv_aload_n hx hb dX5_init_18 rfl (lv_at hl 0 rfl) ?_
  refine lv_iconst (v := (nI 0)) hx hb dX5_init_19 (by decide) ?_
  refine kn_newA 4 (t := (.array .int)) hx hb hown (hts _ kX5_init_7) hZ.2.2.2.2.2.1 rfl hK hP hD hS hA (by decide) (Nat.le_of_ble_eq_true rfl) (Nat.le_of_ble_eq_true rfl) dX5_init_20 (fun q_3 H hP hD hS => ?_)
  have hP : va_P G.1 vwCl [(zs, .inr (5, [.int 0, .ref q_1, .ref q_2, .null, .null])), (q_1, .inl (G.2 0, 0, .inl (kI (fun _ => 0)))), (q_2, .inl (G.2 0, 0, .inl (kI (fun _ => 0)))), (q_3, .inl (G.2 4, 0, .inr (.inr (.inr (.inr (fun _ => none))))))] H := hP
  have hD : va_D A [(zs, .inr (5, [.int 0, .ref q_1, .ref q_2, .null, .null])), (q_1, .inl (G.2 0, 0, .inl (kI (fun _ => 0)))), (q_2, .inl (G.2 0, 0, .inl (kI (fun _ => 0)))), (q_3, .inl (G.2 4, 0, .inr (.inr (.inr (.inr (fun _ => none))))))] := hD
  refine W.widen (k := 3) (n := 0) (Nat.le_refl _) (Nat.le_refl _) ?_
  refine va_put (D := G.1) (ci := 5) (v := .ref q_3) (ty := (tyX5 3)) (C := RX5) (T := TX5) (N := 5) hx hb hts kX5_init_5 tyX5 tyX5_ok nmX5 hown hK hP hD hS 0 rfl rfl 3 (by decide) (hts _ kX5_init_8) (fun _ h9 => h9) rfl (by decide +kernel) rfl rfl (Nat.le_of_ble_eq_true rfl) dX5_init_23 (fun H locs hP hD hS => ?_)
  have hP : va_P G.1 vwCl [(zs, .inr (5, [.int 0, .ref q_1, .ref q_2, .ref q_3, .null])), (q_1, .inl (G.2 0, 0, .inl (kI (fun _ => 0)))), (q_2, .inl (G.2 0, 0, .inl (kI (fun _ => 0)))), (q_3, .inl (G.2 4, 0, .inr (.inr (.inr (.inr (fun _ => none))))))] H := hP
  have hD : va_D A [(zs, .inr (5, [.int 0, .ref q_1, .ref q_2, .ref q_3, .null])), (q_1, .inl (G.2 0, 0, .inl (kI (fun _ => 0)))), (q_2, .inl (G.2 0, 0, .inl (kI (fun _ => 0)))), (q_3, .inl (G.2 4, 0, .inr (.inr (.inr (.inr (fun _ => none))))))] := hD
  refine lv_aload_n hx hb dX5_init_26 rfl (lv_at hl 0 rfl) ?_
  refine lv_iconst (v := (nI 0)) hx hb dX5_init_27 (by decide) ?_
  refine kn_newA 3 (t := .int) hx hb hown (hts _ kX5_init_9) hZ.2.2.2.2.1 rfl hK hP hD hS hA (by decide) (Nat.le_of_ble_eq_true rfl) (Nat.le_of_ble_eq_true rfl) dX5_init_28 (fun q_4 H hP hD hS => ?_)
  have hP : va_P G.1 vwCl [(zs, .inr (5, [.int 0, .ref q_1, .ref q_2, .ref q_3, .null])), (q_1, .inl (G.2 0, 0, .inl (kI (fun _ => 0)))), (q_2, .inl (G.2 0, 0, .inl (kI (fun _ => 0)))), (q_3, .inl (G.2 4, 0, .inr (.inr (.inr (.inr (fun _ => none)))))), (q_4, .inl (G.2 3, 0, .inr (.inr (.inr (.inr (fun _ => none))))))] H := hP
  have hD : va_D A [(zs, .inr (5, [.int 0, .ref q_1, .ref q_2, .ref q_3, .null])), (q_1, .inl (G.2 0, 0, .inl (kI (fun _ => 0)))), (q_2, .inl (G.2 0, 0, .inl (kI (fun _ => 0)))), (q_3, .inl (G.2 4, 0, .inr (.inr (.inr (.inr (fun _ => none)))))), (q_4, .inl (G.2 3, 0, .inr (.inr (.inr (.inr (fun _ => none))))))] := hD
  refine W.widen (k := 4) (n := 0) (Nat.le_refl _) (Nat.le_refl _) ?_
  refine va_put (D := G.1) (ci := 5) (v := .ref q_4) (ty := (tyX5 4)) (C := RX5) (T := TX5) (N := 5) hx hb hts kX5_init_5 tyX5 tyX5_ok nmX5 hown hK hP hD hS 0 rfl rfl 4 (by decide) (hts _ kX5_init_10) (fun _ h9 => h9) rfl (by decide +kernel) rfl rfl (Nat.le_of_ble_eq_true rfl) dX5_init_31 (fun H locs hP hD hS => ?_)
  have hP : va_P G.1 vwCl [(zs, .inr (5, [.int 0, .ref q_1, .ref q_2, .ref q_3, .ref q_4])), (q_1, .inl (G.2 0, 0, .inl (kI (fun _ => 0)))), (q_2, .inl (G.2 0, 0, .inl (kI (fun _ => 0)))), (q_3, .inl (G.2 4, 0, .inr (.inr (.inr (.inr (fun _ => none)))))), (q_4, .inl (G.2 3, 0, .inr (.inr (.inr (.inr (fun _ => none))))))] H := hP
  have hD : va_D A [(zs, .inr (5, [.int 0, .ref q_1, .ref q_2, .ref q_3, .ref q_4])), (q_1, .inl (G.2 0, 0, .inl (kI (fun _ => 0)))), (q_2, .inl (G.2 0, 0, .inl (kI (fun _ => 0)))), (q_3, .inl (G.2 4, 0, .inr (.inr (.inr (.inr (fun _ => none)))))), (q_4, .inl (G.2 3, 0, .inr (.inr (.inr (.inr (fun _ => none))))))] := hD
  have hP9 := hP.sub (ws' := [(zs, .inr (5, [.int (nI 0), .ref q_1, .ref q_2, .ref q_3, .ref q_4])), (q_1, .inl (G.2 0, 0, .inl (kI (fun _ => 0)))), (q_2, .inl (G.2 0, 0, .inl (kI (fun _ => 0)))), (q_3, .inl (G.2 4, 0, .inr (.inr (.inr (.inr (fun _ => none)))))), (q_4, .inl (G.2 3, 0, .inr (.inr (.inr (.inr (fun _ => none))))))]) [0, 1, 2, 3, 4] rfl
  have hD9 := hD.sub (ws' := [(zs, .inr (5, [.int (nI 0), .ref q_1, .ref q_2, .ref q_3, .ref q_4])), (q_1, .inl (G.2 0, 0, .inl (kI (fun _ => 0)))), (q_2, .inl (G.2 0, 0, .inl (kI (fun _ => 0)))), (q_3, .inl (G.2 4, 0, .inr (.inr (.inr (.inr (fun _ => none)))))), (q_4, .inl (G.2 3, 0, .inr (.inr (.inr (.inr (fun _ => none))))))]) [0, 1, 2, 3, 4] (by decide) rfl
  exact km_vret (post := fun (u : Nat × Nat × Nat × Nat) => True) (wo := fun (u : Nat × Nat × Nat × Nat) => [(zs, .inr (5, [.int (nI 0), .ref u.1, .ref u.2.1, .ref u.2.2.1, .ref u.2.2.2])), (u.1, .inl (G.2 0, 0, .inl (kI (fun _ => 0)))), (u.2.1, .inl (G.2 0, 0, .inl (kI (fun _ => 0)))), (u.2.2.1, .inl (G.2 4, 0, .inr (.inr (.inr (.inr (fun _ => none)))))), (u.2.2.2, .inl (G.2 3, 0, .inr (.inr (.inr (.inr (fun _ => none))))))]) (q_1, q_2, q_3, q_4) hx hb hr hlocks hS hP9 hD9 (trivial) dX5_init_34

theorem kX5_longer_0 : Cond.arrayClass .int ∈ wsX5_longer := by decide +kernel
set_option maxHeartbeats 4000000 in
set_option maxRecDepth 100000 in
theorem c_X5_longer (l : Launch) (G : kG) (sz : Nat) (x nn : Nat) (g : Nat → Nat) (v : Nat) (hn9 : nn ≤ 9) : Met l yX5_longer wsX5_longer ({ frames := 0, cells := 1, slots := 10, locals := 0 }) (kPreM G [(x, .inl (G.2 0, nn, .inl (kI g)))] sz [.ref x, .int (nI v)]) (va_Qr (fun (u : Unit) => True) (fun (u : Unit) (ra : Nat) t => kA G (va_A [(x, .inl (G.2 0, nn, .inl (kI g)))] sz) [(x, .inl (G.2 0, nn, .inl (kI g))), (ra, .inl (G.2 0, (nn + 1), .inl (kI (zLong g nn v))))] t) (va_A [(x, .inl (G.2 0, nn, .inl (kI g)))] sz)) 1 10 (va_A [(x, .inl (G.2 0, nn, .inl (kI g)))] sz) := by
  refine Met.ofW (cc := cX5_longer) (maxL := 4) (ret := (some (.array .int))) (by decide) rfl ?_
  intro p e s m args below meth c s₁ B hml hv
  obtain ⟨rfl, hsz, hP, hK, hD0⟩ := hv
  have hx := B.exec
  have hb := B.bytes
  have hr := B.returns
  have hts := atoms_spec (ws := wsX5_longer) B.pre
  have hown : s.vm.findClass RX5 = some m.cls := findClass_of_methodNamed B.named
  have hlocks := B.notSynchronized
  have hK : va_K G.1 vwCl (kT G) s := hK
  subst hsz
  have hD := hD0.self (sz := s.heap.size)
  generalize hAe : va_A [(x, .inl (G.2 0, nn, .inl (kI g)))] s.heap.size = A at hD ⊢
  have hA : ∀ q : Nat, s.heap.size ≤ q → A q := fun q h => by rw [← hAe]; exact Or.inr h
  have hS : va_S A s.heap s.heap [] := va_S.rf
  have hP : va_P G.1 vwCl [(x, .inl (G.2 0, nn, .inl (kI g)))] s.heap := hP
  have hl := lv_entry ([.ref x, .int (nI v)]) (n := 4) (Nat.le_of_ble_eq_true rfl)
  rw [lg_entry_eq]
  generalize (lg_sl ([.ref x, .int (nI v)]) ++ List.replicate (4 - (lg_sl ([.ref x, .int (nI v)])).length) Slot.unset).toArray = ls at hl ⊢
  have hl : lv_has ls 4 [(0, .ref x), (1, .int (nI v))] := hl
  refine lv_aload_n hx hb dX5_longer_0 rfl (lv_at hl 0 rfl) ?_
  refine va_alen (v := nI nn) hx hb hK hP 0 0 rfl rfl rfl dX5_longer_1 ?_
  refine lv_iconst (v := (nI 1)) hx hb dX5_longer_2 (by decide) ?_
  refine lv_iadd hx hb dX5_longer_3 ?_
  refine kr_top (y := nI (nn + 1)) (nI_add nn 1) ?_
  refine kn_newi hx hb (hts _ kX5_longer_0) hK hP hD hS hA (by omega) (Nat.le_of_ble_eq_true rfl) (show 0 + (nn + 1) ≤ 10 from by omega) dX5_longer_4 (fun q_1 H hP hD hS => ?_)
  have hP : va_P G.1 vwCl [(x, .inl (G.2 0, nn, .inl (kI g))), (q_1, .inl (G.2 0, nn + 1, .inl (kI (fun _ => 0))))] H := hP
  have hD : va_D A [(x, .inl (G.2 0, nn, .inl (kI g))), (q_1, .inl (G.2 0, nn + 1, .inl (kI (fun _ => 0))))] := hD
  refine W.widen (k := 1) (n := 0 + (nn + 1)) (Nat.le_refl _) (Nat.le_refl _) ?_
  refine lv_astore_n (lv' := [(2, .ref q_1), (0, .ref x), (1, .int (nI v))]) hx hb dX5_longer_6 rfl hl (by decide) rfl (fun ls hl => ?_)
  refine lv_iconst (v := (nI 0)) hx hb dX5_longer_7 (by decide) ?_
  refine lv_istore_n (lv' := [(3, .int (nI 0)), (2, .ref q_1), (0, .ref x), (1, .int (nI v))]) hx hb dX5_longer_8 rfl hl (by decide) rfl (fun ls hl => ?_)
  have hc_9 : ∀ (n : Nat) (i : Nat) (g2 : Nat → Nat), nn - i < n → i ≤ nn → g2 = mCopy g (fun _ => 0) i → ∀ (H : Heap) (locs : List Loc), va_P G.1 vwCl [(x, .inl (G.2 0, nn, .inl (kI g))), (q_1, .inl (G.2 0, (nn + 1), .inl (kI g2)))] H → va_D A [(x, .inl (G.2 0, nn, .inl (kI g))), (q_1, .inl (G.2 0, (nn + 1), .inl (kI g2)))] → va_S A s.heap H locs → ∀ (ls : Array Slot), lv_has ls 4 [(3, .int (nI i)), (2, .ref q_1), (0, .ref x), (1, .int (nI v))] → W p l e (headSpec wsX5_longer ({ frames := 0, cells := 1, slots := 10, locals := 0 })).room s m [.ref x, .int (nI v)].toArray below meth c H locs 1 (0 + (nn + 1)) (MQ below (va_Qr (fun (u : Unit) => True) (fun (u : Unit) (ra : Nat) t => kA G A [(x, .inl (G.2 0, nn, .inl (kI g))), (ra, .inl (G.2 0, (nn + 1), .inl (kI (zLong g nn v))))] t) A) [.ref x, .int (nI v)].toArray s 1 10 A) (F0 m 9 ls []) := by
    intro n
    induction n with
    | zero =>
      intro i g2 hmz; exact absurd hmz (Nat.not_lt_zero _)
    | succ n ih9 =>
      intro i g2 hmz hi hg H locs hP hD hS ls hl
      refine lv_iload_n hx hb dX5_longer_9 rfl (lv_at hl 0 rfl) ?_
      refine lv_aload_n hx hb dX5_longer_10 rfl (lv_at hl 2 rfl) ?_
      refine va_alen (v := nI nn) hx hb hK hP 0 0 rfl rfl rfl dX5_longer_11 ?_
      refine kb_ge (tgt := 27) hx hb dX5_longer_12 (by decide) (by omega) (by omega) (fun c_2 => ?_) (fun c_2 => ?_)
      · refine lv_aload_n hx hb dX5_longer_27 rfl (lv_at hl 1 rfl) ?_
        refine lv_aload_n hx hb dX5_longer_28 rfl (lv_at hl 2 rfl) ?_
        refine va_alen (v := nI nn) hx hb hK hP 0 0 rfl rfl rfl dX5_longer_29 ?_
        refine lv_iload_n hx hb dX5_longer_30 rfl (lv_at hl 3 rfl) ?_
        refine kr_iast (k := nn) (g := (kI (va_up g2 nn v))) hx hb hK hP hD hS 1 0 rfl rfl (by omega) (by omega) (kI_up g2 nn v) dX5_longer_31 (fun H locs hP hD hS => ?_)
        have hP : va_P G.1 vwCl [(x, .inl (G.2 0, nn, .inl (kI g))), (q_1, .inl (G.2 0, (nn + 1), .inl (kI (va_up g2 nn v))))] H := hP
        have hD : va_D A [(x, .inl (G.2 0, nn, .inl (kI g))), (q_1, .inl (G.2 0, (nn + 1), .inl (kI (va_up g2 nn v))))] := hD
        refine lv_aload_n hx hb dX5_longer_32 rfl (lv_at hl 1 rfl) ?_
        obtain rfl : nn = i := by omega
        subst hg
        rw [zLong_ok] at hP hD
        have hP9 := hP.sub (ws' := [(x, .inl (G.2 0, nn, .inl (kI g))), (q_1, .inl (G.2 0, (nn + 1), .inl (kI (zLong g nn v))))]) [0, 1] rfl
        have hD9 := hD.sub (ws' := [(x, .inl (G.2 0, nn, .inl (kI g))), (q_1, .inl (G.2 0, (nn + 1), .inl (kI (zLong g nn v))))]) [0, 1] (by decide) rfl
        refine W.widen (k := 1) (n := 10) (Nat.le_of_ble_eq_true rfl) (by omega) ?_
        exact km_nret (post := fun (u : Unit) => True) (wo := fun (u : Unit) (ra : Nat) => [(x, .inl (G.2 0, nn, .inl (kI g))), (ra, .inl (G.2 0, (nn + 1), .inl (kI (zLong g nn v))))]) () hx hb hr (Or.inr ⟨_, rfl⟩) hlocks hS hP9 hD9 (trivial) dX5_longer_33
      · refine lv_aload_n hx hb dX5_longer_15 rfl (lv_at hl 1 rfl) ?_
        refine lv_iload_n hx hb dX5_longer_16 rfl (lv_at hl 0 rfl) ?_
        refine lv_aload_n hx hb dX5_longer_17 rfl (lv_at hl 2 rfl) ?_
        refine lv_iload_n hx hb dX5_longer_18 rfl (lv_at hl 0 rfl) ?_
        refine kr_iald (k := i) (v := (nI (g i))) hx hb hK hP 0 0 rfl rfl (by omega) (by omega) rfl dX5_longer_19 ?_
        refine kr_iast (k := i) (g := (kI (va_up g2 i (g i)))) hx hb hK hP hD hS 1 0 rfl rfl (by omega) (by omega) (kI_up g2 i (g i)) dX5_longer_20 (fun H locs hP hD hS => ?_)
        have hP : va_P G.1 vwCl [(x, .inl (G.2 0, nn, .inl (kI g))), (q_1, .inl (G.2 0, (nn + 1), .inl (kI (va_up g2 i (g i)))))] H := hP
        have hD : va_D A [(x, .inl (G.2 0, nn, .inl (kI g))), (q_1, .inl (G.2 0, (nn + 1), .inl (kI (va_up g2 i (g i)))))] := hD
        refine lv_iinc (k := 0) (v := (nI (i + 1))) (lv' := [(3, .int (nI (i + 1))), (2, .ref q_1), (0, .ref x), (1, .int (nI v))]) hx hb dX5_longer_21 hl rfl (kn_inc i) (by decide) rfl (fun ls hl => ?_)
        refine lv_goto (tgt := 9) hx hb dX5_longer_24 (by decide) ?_
        exact ih9 (i + 1) (va_up g2 i (g i)) (by omega) (by omega) (by rw [hg]; exact mCopy_succ g (fun _ => 0) i) _ _ hP hD hS _ (lv_sub hl [0, 1, 2, 3] rfl)
  exact hc_9 (_ + 1) 0 (fun _ => 0) (Nat.lt_succ_self _) (by omega) (by exact (mCopy_0 _ _).symm) _ _ hP hD hS _ (lv_sub hl [0, 1, 2, 3] rfl)
