theorem kX1_huts_0 : Cond.fieldLink RX1 28 "PassNotes$Land" "huts" "I" ∈ wsX1_huts := by decide +kernel
theorem kX1_huts_1 : ∀ w ∈ wsX10, w ∈ wsX1_huts := by decide +kernel
set_option maxHeartbeats 4000000 in
set_option maxRecDepth 100000 in
theorem c_X1_huts (l : Launch) (G : kG) (hL a0 a1 a2 a3 a4 : Nat) (nh np : Nat)  : Met l yX1_huts wsX1_huts ({ frames := 0, cells := 0, slots := 0, locals := 0 }) (kPre G [(hL, .inr (1, [.ref a0, .ref a1, .ref a2, .ref a3, .ref a4, .int (nI nh), .int (nI np)]))] [.ref hL]) (vp_Si (fun r : Int32 => r = (nI nh))) 0 0 (fun _ => False) := by
  refine Met.ofW (cc := cX1_huts) (maxL := 1) (ret := (some .int)) (by decide) rfl ?_
  intro p e s m args below meth c s₁ B hml hv
  obtain ⟨rfl, hP, hK⟩ := hv
  have hx := B.exec
  have hb := B.bytes
  have hr := B.returns
  have hts := atoms_spec (ws := wsX1_huts) B.pre
  have hown : s.vm.findClass RX1 = some m.cls := findClass_of_methodNamed B.named
  have hlocks := B.notSynchronized
  have hK : va_K G.1 vwCl (kT G) s := hK
  have hP : va_P G.1 vwCl [(hL, .inr (1, [.ref a0, .ref a1, .ref a2, .ref a3, .ref a4, .int (nI nh), .int (nI np)]))] s.heap := hP
  have hl := lv_entry ([.ref hL]) (n := 1) (Nat.le_of_ble_eq_true rfl)
  rw [lg_entry_eq]
  generalize (lg_sl ([.ref hL]) ++ List.replicate (1 - (lg_sl ([.ref hL])).length) Slot.unset).toArray = ls at hl ⊢
  have hl : lv_has ls 1 [(0, .ref hL)] := hl
  refine lv_aload_n hx hb dX1_huts_0 rfl (lv_at hl 0 rfl) ?_
  refine va_get (D := G.1) (ci := 1) (v := .int (nI nh)) (C := RX1) (T := TX1) (N := 7) hx hb hts kX1_huts_1 hown hK hP 0 rfl rfl 5 (by decide) (hts _ kX1_huts_0) (fun _ h9 => h9) rfl dX1_huts_1 ?_
  exact kr_iret hx hb hr hlocks (rfl) dX1_huts_4

theorem kX1_passes_0 : Cond.fieldLink RX1 32 "PassNotes$Land" "passes" "I" ∈ wsX1_passes := by decide +kernel
theorem kX1_passes_1 : ∀ w ∈ wsX10, w ∈ wsX1_passes := by decide +kernel
set_option maxHeartbeats 4000000 in
set_option maxRecDepth 100000 in
theorem c_X1_passes (l : Launch) (G : kG) (hL a0 a1 a2 a3 a4 : Nat) (nh np : Nat)  : Met l yX1_passes wsX1_passes ({ frames := 0, cells := 0, slots := 0, locals := 0 }) (kPre G [(hL, .inr (1, [.ref a0, .ref a1, .ref a2, .ref a3, .ref a4, .int (nI nh), .int (nI np)]))] [.ref hL]) (vp_Si (fun r : Int32 => r = (nI np))) 0 0 (fun _ => False) := by
  refine Met.ofW (cc := cX1_passes) (maxL := 1) (ret := (some .int)) (by decide) rfl ?_
  intro p e s m args below meth c s₁ B hml hv
  obtain ⟨rfl, hP, hK⟩ := hv
  have hx := B.exec
  have hb := B.bytes
  have hr := B.returns
  have hts := atoms_spec (ws := wsX1_passes) B.pre
  have hown : s.vm.findClass RX1 = some m.cls := findClass_of_methodNamed B.named
  have hlocks := B.notSynchronized
  have hK : va_K G.1 vwCl (kT G) s := hK
  have hP : va_P G.1 vwCl [(hL, .inr (1, [.ref a0, .ref a1, .ref a2, .ref a3, .ref a4, .int (nI nh), .int (nI np)]))] s.heap := hP
  have hl := lv_entry ([.ref hL]) (n := 1) (Nat.le_of_ble_eq_true rfl)
  rw [lg_entry_eq]
  generalize (lg_sl ([.ref hL]) ++ List.replicate (1 - (lg_sl ([.ref hL])).length) Slot.unset).toArray = ls at hl ⊢
  have hl : lv_has ls 1 [(0, .ref hL)] := hl
  refine lv_aload_n hx hb dX1_passes_0 rfl (lv_at hl 0 rfl) ?_
  refine va_get (D := G.1) (ci := 1) (v := .int (nI np)) (C := RX1) (T := TX1) (N := 7) hx hb hts kX1_passes_1 hown hK hP 0 rfl rfl 6 (by decide) (hts _ kX1_passes_0) (fun _ h9 => h9) rfl dX1_passes_1 ?_
  exact kr_iret hx hb hr hlocks (rfl) dX1_passes_4

theorem kX1_area_0 : Cond.fieldLink RX1 9 "PassNotes$Land" "areas" "[I" ∈ wsX1_area := by decide +kernel
theorem kX1_area_1 : ∀ w ∈ wsX10, w ∈ wsX1_area := by decide +kernel
set_option maxHeartbeats 4000000 in
set_option maxRecDepth 100000 in
theorem c_X1_area (l : Launch) (G : kG) (hL a0 a1 a2 a3 a4 : Nat) (nh np : Nat) (ar : Nat → Nat) (q : Nat) (hq : q < 10) : Met l yX1_area wsX1_area ({ frames := 0, cells := 0, slots := 0, locals := 0 }) (kPre G [(hL, .inr (1, [.ref a0, .ref a1, .ref a2, .ref a3, .ref a4, .int (nI nh), .int (nI np)])), (a0, .inl (G.2 0, 10, .inl (kI ar)))] [.ref hL, .int (nI q)]) (vp_Si (fun r : Int32 => r = (nI (ar q)))) 0 0 (fun _ => False) := by
  refine Met.ofW (cc := cX1_area) (maxL := 2) (ret := (some .int)) (by decide) rfl ?_
  intro p e s m args below meth c s₁ B hml hv
  obtain ⟨rfl, hP, hK⟩ := hv
  have hx := B.exec
  have hb := B.bytes
  have hr := B.returns
  have hts := atoms_spec (ws := wsX1_area) B.pre
  have hown : s.vm.findClass RX1 = some m.cls := findClass_of_methodNamed B.named
  have hlocks := B.notSynchronized
  have hK : va_K G.1 vwCl (kT G) s := hK
  have hP : va_P G.1 vwCl [(hL, .inr (1, [.ref a0, .ref a1, .ref a2, .ref a3, .ref a4, .int (nI nh), .int (nI np)])), (a0, .inl (G.2 0, 10, .inl (kI ar)))] s.heap := hP
  have hl := lv_entry ([.ref hL, .int (nI q)]) (n := 2) (Nat.le_of_ble_eq_true rfl)
  rw [lg_entry_eq]
  generalize (lg_sl ([.ref hL, .int (nI q)]) ++ List.replicate (2 - (lg_sl ([.ref hL, .int (nI q)])).length) Slot.unset).toArray = ls at hl ⊢
  have hl : lv_has ls 2 [(0, .ref hL), (1, .int (nI q))] := hl
  refine lv_aload_n hx hb dX1_area_0 rfl (lv_at hl 0 rfl) ?_
  refine va_get (D := G.1) (ci := 1) (v := .ref a0) (C := RX1) (T := TX1) (N := 7) hx hb hts kX1_area_1 hown hK hP 0 rfl rfl 0 (by decide) (hts _ kX1_area_0) (fun _ h9 => h9) rfl dX1_area_1 ?_
  refine lv_iload_n hx hb dX1_area_4 rfl (lv_at hl 1 rfl) ?_
  refine kr_iald (k := q) (v := (nI (ar q))) hx hb hK hP 1 0 rfl rfl (by omega) (by decide) rfl dX1_area_5 ?_
  exact kr_iret hx hb hr hlocks (rfl) dX1_area_6

theorem kX1_first_0 : Cond.fieldLink RX1 15 "PassNotes$Land" "firsts" "[I" ∈ wsX1_first := by decide +kernel
theorem kX1_first_1 : ∀ w ∈ wsX10, w ∈ wsX1_first := by decide +kernel
set_option maxHeartbeats 4000000 in
set_option maxRecDepth 100000 in
theorem c_X1_first (l : Launch) (G : kG) (hL a0 a1 a2 a3 a4 : Nat) (nh np : Nat) (fs : Nat → Nat) (q : Nat) (hq : q < 20) : Met l yX1_first wsX1_first ({ frames := 0, cells := 0, slots := 0, locals := 0 }) (kPre G [(hL, .inr (1, [.ref a0, .ref a1, .ref a2, .ref a3, .ref a4, .int (nI nh), .int (nI np)])), (a1, .inl (G.2 0, 20, .inl (kI fs)))] [.ref hL, .int (nI q)]) (vp_Si (fun r : Int32 => r = (nI (fs q)))) 0 0 (fun _ => False) := by
  refine Met.ofW (cc := cX1_first) (maxL := 2) (ret := (some .int)) (by decide) rfl ?_
  intro p e s m args below meth c s₁ B hml hv
  obtain ⟨rfl, hP, hK⟩ := hv
  have hx := B.exec
  have hb := B.bytes
  have hr := B.returns
  have hts := atoms_spec (ws := wsX1_first) B.pre
  have hown : s.vm.findClass RX1 = some m.cls := findClass_of_methodNamed B.named
  have hlocks := B.notSynchronized
  have hK : va_K G.1 vwCl (kT G) s := hK
  have hP : va_P G.1 vwCl [(hL, .inr (1, [.ref a0, .ref a1, .ref a2, .ref a3, .ref a4, .int (nI nh), .int (nI np)])), (a1, .inl (G.2 0, 20, .inl (kI fs)))] s.heap := hP
  have hl := lv_entry ([.ref hL, .int (nI q)]) (n := 2) (Nat.le_of_ble_eq_true rfl)
  rw [lg_entry_eq]
  generalize (lg_sl ([.ref hL, .int (nI q)]) ++ List.replicate (2 - (lg_sl ([.ref hL, .int (nI q)])).length) Slot.unset).toArray = ls at hl ⊢
  have hl : lv_has ls 2 [(0, .ref hL), (1, .int (nI q))] := hl
  refine lv_aload_n hx hb dX1_first_0 rfl (lv_at hl 0 rfl) ?_
  refine va_get (D := G.1) (ci := 1) (v := .ref a1) (C := RX1) (T := TX1) (N := 7) hx hb hts kX1_first_1 hown hK hP 0 rfl rfl 1 (by decide) (hts _ kX1_first_0) (fun _ h9 => h9) rfl dX1_first_1 ?_
  refine lv_iload_n hx hb dX1_first_4 rfl (lv_at hl 1 rfl) ?_
  refine kr_iald (k := q) (v := (nI (fs q))) hx hb hK hP 1 0 rfl rfl (by omega) (by decide) rfl dX1_first_5 ?_
  exact kr_iret hx hb hr hlocks (rfl) dX1_first_6

theorem kX1_second_0 : Cond.fieldLink RX1 18 "PassNotes$Land" "seconds" "[I" ∈ wsX1_second := by decide +kernel
theorem kX1_second_1 : ∀ w ∈ wsX10, w ∈ wsX1_second := by decide +kernel
set_option maxHeartbeats 4000000 in
set_option maxRecDepth 100000 in
theorem c_X1_second (l : Launch) (G : kG) (hL a0 a1 a2 a3 a4 : Nat) (nh np : Nat) (sn : Nat → Nat) (q : Nat) (hq : q < 20) : Met l yX1_second wsX1_second ({ frames := 0, cells := 0, slots := 0, locals := 0 }) (kPre G [(hL, .inr (1, [.ref a0, .ref a1, .ref a2, .ref a3, .ref a4, .int (nI nh), .int (nI np)])), (a2, .inl (G.2 0, 20, .inl (kI sn)))] [.ref hL, .int (nI q)]) (vp_Si (fun r : Int32 => r = (nI (sn q)))) 0 0 (fun _ => False) := by
  refine Met.ofW (cc := cX1_second) (maxL := 2) (ret := (some .int)) (by decide) rfl ?_
  intro p e s m args below meth c s₁ B hml hv
  obtain ⟨rfl, hP, hK⟩ := hv
  have hx := B.exec
  have hb := B.bytes
  have hr := B.returns
  have hts := atoms_spec (ws := wsX1_second) B.pre
  have hown : s.vm.findClass RX1 = some m.cls := findClass_of_methodNamed B.named
  have hlocks := B.notSynchronized
  have hK : va_K G.1 vwCl (kT G) s := hK
  have hP : va_P G.1 vwCl [(hL, .inr (1, [.ref a0, .ref a1, .ref a2, .ref a3, .ref a4, .int (nI nh), .int (nI np)])), (a2, .inl (G.2 0, 20, .inl (kI sn)))] s.heap := hP
  have hl := lv_entry ([.ref hL, .int (nI q)]) (n := 2) (Nat.le_of_ble_eq_true rfl)
  rw [lg_entry_eq]
  generalize (lg_sl ([.ref hL, .int (nI q)]) ++ List.replicate (2 - (lg_sl ([.ref hL, .int (nI q)])).length) Slot.unset).toArray = ls at hl ⊢
  have hl : lv_has ls 2 [(0, .ref hL), (1, .int (nI q))] := hl
  refine lv_aload_n hx hb dX1_second_0 rfl (lv_at hl 0 rfl) ?_
  refine va_get (D := G.1) (ci := 1) (v := .ref a2) (C := RX1) (T := TX1) (N := 7) hx hb hts kX1_second_1 hown hK hP 0 rfl rfl 2 (by decide) (hts _ kX1_second_0) (fun _ h9 => h9) rfl dX1_second_1 ?_
  refine lv_iload_n hx hb dX1_second_4 rfl (lv_at hl 1 rfl) ?_
  refine kr_iald (k := q) (v := (nI (sn q))) hx hb hK hP 1 0 rfl rfl (by omega) (by decide) rfl dX1_second_5 ?_
  exact kr_iret hx hb hr hlocks (rfl) dX1_second_6

theorem kX1_length_0 : Cond.fieldLink RX1 21 "PassNotes$Land" "lengths" "[I" ∈ wsX1_length := by decide +kernel
theorem kX1_length_1 : ∀ w ∈ wsX10, w ∈ wsX1_length := by decide +kernel
set_option maxHeartbeats 4000000 in
set_option maxRecDepth 100000 in
theorem c_X1_length (l : Launch) (G : kG) (hL a0 a1 a2 a3 a4 : Nat) (nh np : Nat) (ln : Nat → Nat) (q : Nat) (hq : q < 20) : Met l yX1_length wsX1_length ({ frames := 0, cells := 0, slots := 0, locals := 0 }) (kPre G [(hL, .inr (1, [.ref a0, .ref a1, .ref a2, .ref a3, .ref a4, .int (nI nh), .int (nI np)])), (a3, .inl (G.2 0, 20, .inl (kI ln)))] [.ref hL, .int (nI q)]) (vp_Si (fun r : Int32 => r = (nI (ln q)))) 0 0 (fun _ => False) := by
  refine Met.ofW (cc := cX1_length) (maxL := 2) (ret := (some .int)) (by decide) rfl ?_
  intro p e s m args below meth c s₁ B hml hv
  obtain ⟨rfl, hP, hK⟩ := hv
  have hx := B.exec
  have hb := B.bytes
  have hr := B.returns
  have hts := atoms_spec (ws := wsX1_length) B.pre
  have hown : s.vm.findClass RX1 = some m.cls := findClass_of_methodNamed B.named
  have hlocks := B.notSynchronized
  have hK : va_K G.1 vwCl (kT G) s := hK
  have hP : va_P G.1 vwCl [(hL, .inr (1, [.ref a0, .ref a1, .ref a2, .ref a3, .ref a4, .int (nI nh), .int (nI np)])), (a3, .inl (G.2 0, 20, .inl (kI ln)))] s.heap := hP
  have hl := lv_entry ([.ref hL, .int (nI q)]) (n := 2) (Nat.le_of_ble_eq_true rfl)
  rw [lg_entry_eq]
  generalize (lg_sl ([.ref hL, .int (nI q)]) ++ List.replicate (2 - (lg_sl ([.ref hL, .int (nI q)])).length) Slot.unset).toArray = ls at hl ⊢
  have hl : lv_has ls 2 [(0, .ref hL), (1, .int (nI q))] := hl
  refine lv_aload_n hx hb dX1_length_0 rfl (lv_at hl 0 rfl) ?_
  refine va_get (D := G.1) (ci := 1) (v := .ref a3) (C := RX1) (T := TX1) (N := 7) hx hb hts kX1_length_1 hown hK hP 0 rfl rfl 3 (by decide) (hts _ kX1_length_0) (fun _ h9 => h9) rfl dX1_length_1 ?_
  refine lv_iload_n hx hb dX1_length_4 rfl (lv_at hl 1 rfl) ?_
  refine kr_iald (k := q) (v := (nI (ln q))) hx hb hK hP 1 0 rfl rfl (by omega) (by decide) rfl dX1_length_5 ?_
  exact kr_iret hx hb hr hlocks (rfl) dX1_length_6

theorem kX1_isOpen_0 : Cond.fieldLink RX1 24 "PassNotes$Land" "opens" "[Z" ∈ wsX1_isOpen := by decide +kernel
theorem kX1_isOpen_1 : ∀ w ∈ wsX10, w ∈ wsX1_isOpen := by decide +kernel
set_option maxHeartbeats 4000000 in
set_option maxRecDepth 100000 in
theorem c_X1_isOpen (l : Launch) (G : kG) (hL a0 a1 a2 a3 a4 : Nat) (nh np : Nat) (op : Nat → Bool) (q : Nat) (hq : q < 20) : Met l yX1_isOpen wsX1_isOpen ({ frames := 0, cells := 0, slots := 0, locals := 0 }) (kPre G [(hL, .inr (1, [.ref a0, .ref a1, .ref a2, .ref a3, .ref a4, .int (nI nh), .int (nI np)])), (a4, .inl (G.2 1, 20, .inl (kB op)))] [.ref hL, .int (nI q)]) (vp_Si (fun r : Int32 => r = (bI (op q)))) 0 0 (fun _ => False) := by
  refine Met.ofW (cc := cX1_isOpen) (maxL := 2) (ret := (some .boolean)) (by decide) rfl ?_
  intro p e s m args below meth c s₁ B hml hv
  obtain ⟨rfl, hP, hK⟩ := hv
  have hx := B.exec
  have hb := B.bytes
  have hr := B.returns
  have hts := atoms_spec (ws := wsX1_isOpen) B.pre
  have hown : s.vm.findClass RX1 = some m.cls := findClass_of_methodNamed B.named
  have hlocks := B.notSynchronized
  have hK : va_K G.1 vwCl (kT G) s := hK
  have hP : va_P G.1 vwCl [(hL, .inr (1, [.ref a0, .ref a1, .ref a2, .ref a3, .ref a4, .int (nI nh), .int (nI np)])), (a4, .inl (G.2 1, 20, .inl (kB op)))] s.heap := hP
  have hl := lv_entry ([.ref hL, .int (nI q)]) (n := 2) (Nat.le_of_ble_eq_true rfl)
  rw [lg_entry_eq]
  generalize (lg_sl ([.ref hL, .int (nI q)]) ++ List.replicate (2 - (lg_sl ([.ref hL, .int (nI q)])).length) Slot.unset).toArray = ls at hl ⊢
  have hl : lv_has ls 2 [(0, .ref hL), (1, .int (nI q))] := hl
  refine lv_aload_n hx hb dX1_isOpen_0 rfl (lv_at hl 0 rfl) ?_
  refine va_get (D := G.1) (ci := 1) (v := .ref a4) (C := RX1) (T := TX1) (N := 7) hx hb hts kX1_isOpen_1 hown hK hP 0 rfl rfl 4 (by decide) (hts _ kX1_isOpen_0) (fun _ h9 => h9) rfl dX1_isOpen_1 ?_
  refine lv_iload_n hx hb dX1_isOpen_4 rfl (lv_at hl 1 rfl) ?_
  refine kr_zald (k := q) (v := (bI (op q))) hx hb hK hP 1 1 rfl rfl (by omega) (by decide) rfl dX1_isOpen_5 ?_
  exact kr_zret hx hb hr hlocks (bI_nar _) (rfl) dX1_isOpen_6

theorem kX1_takesIn_0 : Cond.fieldLink RX1 9 "PassNotes$Land" "areas" "[I" ∈ wsX1_takesIn := by decide +kernel
theorem kX1_takesIn_1 : ∀ w ∈ wsX10, w ∈ wsX1_takesIn := by decide +kernel
set_option maxHeartbeats 4000000 in
set_option maxRecDepth 100000 in
theorem c_X1_takesIn (l : Launch) (G : kG) (hL a0 a1 a2 a3 a4 : Nat) (nh np : Nat) (ar : Nat → Nat) (h o : Nat) (har : ∀ k, ar k < 4) (hh : h < 10) (ho : o < 10) : Met l yX1_takesIn wsX1_takesIn ({ frames := 0, cells := 0, slots := 0, locals := 0 }) (kPre G [(hL, .inr (1, [.ref a0, .ref a1, .ref a2, .ref a3, .ref a4, .int (nI nh), .int (nI np)])), (a0, .inl (G.2 0, 10, .inl (kI ar)))] [.ref hL, .int (nI h), .int (nI o)]) (vp_Si (fun r : Int32 => r = (bI (mTakes ar h o)))) 0 0 (fun _ => False) := by
  refine Met.ofW (cc := cX1_takesIn) (maxL := 3) (ret := (some .boolean)) (by decide) rfl ?_
  intro p e s m args below meth c s₁ B hml hv
  obtain ⟨rfl, hP, hK⟩ := hv
  have hx := B.exec
  have hb := B.bytes
  have hr := B.returns
  have hts := atoms_spec (ws := wsX1_takesIn) B.pre
  have hown : s.vm.findClass RX1 = some m.cls := findClass_of_methodNamed B.named
  have hlocks := B.notSynchronized
  have hK : va_K G.1 vwCl (kT G) s := hK
  have hP : va_P G.1 vwCl [(hL, .inr (1, [.ref a0, .ref a1, .ref a2, .ref a3, .ref a4, .int (nI nh), .int (nI np)])), (a0, .inl (G.2 0, 10, .inl (kI ar)))] s.heap := hP
  have hl := lv_entry ([.ref hL, .int (nI h), .int (nI o)]) (n := 3) (Nat.le_of_ble_eq_true rfl)
  rw [lg_entry_eq]
  generalize (lg_sl ([.ref hL, .int (nI h), .int (nI o)]) ++ List.replicate (3 - (lg_sl ([.ref hL, .int (nI h), .int (nI o)])).length) Slot.unset).toArray = ls at hl ⊢
  have hl : lv_has ls 3 [(0, .ref hL), (1, .int (nI h)), (2, .int (nI o))] := hl
  refine lv_aload_n hx hb dX1_takesIn_0 rfl (lv_at hl 0 rfl) ?_
  refine va_get (D := G.1) (ci := 1) (v := .ref a0) (C := RX1) (T := TX1) (N := 7) hx hb hts kX1_takesIn_1 hown hK hP 0 rfl rfl 0 (by decide) (hts _ kX1_takesIn_0) (fun _ h9 => h9) rfl dX1_takesIn_1 ?_
  refine lv_iload_n hx hb dX1_takesIn_4 rfl (lv_at hl 1 rfl) ?_
  refine kr_iald (k := h) (v := (nI (ar h))) hx hb hK hP 1 0 rfl rfl (by omega) (by decide) rfl dX1_takesIn_5 ?_
  refine kb_eq0 (tgt := 33) hx hb dX1_takesIn_6 (by decide) (by first | omega | exact Nat.lt_trans (har _) (by decide)) (fun c_1 => ?_) (fun c_1 => ?_)
  · refine lv_iconst (v := (nI 1)) hx hb dX1_takesIn_33 (by decide) ?_
    refine lv_goto (tgt := 38) hx hb dX1_takesIn_34 (by decide) ?_
    exact kr_zret hx hb hr hlocks rfl (by first | exact bI_one (by simp [mTakes, *]) | exact bI_zero (by simp [mTakes]; omega)) dX1_takesIn_38
  · refine lv_aload_n hx hb dX1_takesIn_9 rfl (lv_at hl 0 rfl) ?_
    refine va_get (D := G.1) (ci := 1) (v := .ref a0) (C := RX1) (T := TX1) (N := 7) hx hb hts kX1_takesIn_1 hown hK hP 0 rfl rfl 0 (by decide) (hts _ kX1_takesIn_0) (fun _ h9 => h9) rfl dX1_takesIn_10 ?_
    refine lv_iload_n hx hb dX1_takesIn_13 rfl (lv_at hl 2 rfl) ?_
    refine kr_iald (k := o) (v := (nI (ar o))) hx hb hK hP 1 0 rfl rfl (by omega) (by decide) rfl dX1_takesIn_14 ?_
    refine kb_eq0 (tgt := 33) hx hb dX1_takesIn_15 (by decide) (by first | omega | exact Nat.lt_trans (har _) (by decide)) (fun c_2 => ?_) (fun c_2 => ?_)
    · refine lv_iconst (v := (nI 1)) hx hb dX1_takesIn_33 (by decide) ?_
      refine lv_goto (tgt := 38) hx hb dX1_takesIn_34 (by decide) ?_
      exact kr_zret hx hb hr hlocks rfl (by first | exact bI_one (by simp [mTakes, *]) | exact bI_zero (by simp [mTakes]; omega)) dX1_takesIn_38
    · refine lv_aload_n hx hb dX1_takesIn_18 rfl (lv_at hl 0 rfl) ?_
      refine va_get (D := G.1) (ci := 1) (v := .ref a0) (C := RX1) (T := TX1) (N := 7) hx hb hts kX1_takesIn_1 hown hK hP 0 rfl rfl 0 (by decide) (hts _ kX1_takesIn_0) (fun _ h9 => h9) rfl dX1_takesIn_19 ?_
      refine lv_iload_n hx hb dX1_takesIn_22 rfl (lv_at hl 1 rfl) ?_
      refine kr_iald (k := h) (v := (nI (ar h))) hx hb hK hP 1 0 rfl rfl (by omega) (by decide) rfl dX1_takesIn_23 ?_
      refine lv_aload_n hx hb dX1_takesIn_24 rfl (lv_at hl 0 rfl) ?_
      refine va_get (D := G.1) (ci := 1) (v := .ref a0) (C := RX1) (T := TX1) (N := 7) hx hb hts kX1_takesIn_1 hown hK hP 0 rfl rfl 0 (by decide) (hts _ kX1_takesIn_0) (fun _ h9 => h9) rfl dX1_takesIn_25 ?_
      refine lv_iload_n hx hb dX1_takesIn_28 rfl (lv_at hl 2 rfl) ?_
      refine kr_iald (k := o) (v := (nI (ar o))) hx hb hK hP 1 0 rfl rfl (by omega) (by decide) rfl dX1_takesIn_29 ?_
      refine kb_ne (tgt := 37) hx hb dX1_takesIn_30 (by decide) (by first | omega | exact Nat.lt_trans (har _) (by decide)) (by first | omega | exact Nat.lt_trans (har _) (by decide)) (fun c_3 => ?_) (fun c_3 => ?_)
      · refine lv_iconst (v := (nI 0)) hx hb dX1_takesIn_37 (by decide) ?_
        exact kr_zret hx hb hr hlocks rfl (by first | exact bI_one (by simp [mTakes, *]) | exact bI_zero (by simp [mTakes]; omega)) dX1_takesIn_38
      · refine lv_iconst (v := (nI 1)) hx hb dX1_takesIn_33 (by decide) ?_
        refine lv_goto (tgt := 38) hx hb dX1_takesIn_34 (by decide) ?_
        exact kr_zret hx hb hr hlocks rfl (by first | exact bI_one (by simp [mTakes, *]) | exact bI_zero (by simp [mTakes]; omega)) dX1_takesIn_38

theorem kX1_tellsNow_0 : Cond.fieldLink RX1 24 "PassNotes$Land" "opens" "[Z" ∈ wsX1_tellsNow := by decide +kernel
theorem kX1_tellsNow_1 : ∀ w ∈ wsX10, w ∈ wsX1_tellsNow := by decide +kernel
theorem kX1_tellsNow_2 : Cond.fieldLink RX1 21 "PassNotes$Land" "lengths" "[I" ∈ wsX1_tellsNow := by decide +kernel
theorem kX1_tellsNow_3 : Cond.fieldLink RX1 15 "PassNotes$Land" "firsts" "[I" ∈ wsX1_tellsNow := by decide +kernel
theorem kX1_tellsNow_4 : Cond.fieldLink RX1 18 "PassNotes$Land" "seconds" "[I" ∈ wsX1_tellsNow := by decide +kernel
set_option maxHeartbeats 4000000 in
set_option maxRecDepth 100000 in
theorem c_X1_tellsNow (l : Launch) (G : kG) (hL a0 a1 a2 a3 a4 : Nat) (nh np : Nat) (fs sn ln : Nat → Nat) (op : Nat → Bool) (h q : Nat) (hfs : ∀ k, fs k < 10) (hsn : ∀ k, sn k < 10) (hh : h < 10) (hq : q < 20) : Met l yX1_tellsNow wsX1_tellsNow ({ frames := 0, cells := 0, slots := 0, locals := 0 }) (kPre G [(hL, .inr (1, [.ref a0, .ref a1, .ref a2, .ref a3, .ref a4, .int (nI nh), .int (nI np)])), (a1, .inl (G.2 0, 20, .inl (kI fs))), (a2, .inl (G.2 0, 20, .inl (kI sn))), (a3, .inl (G.2 0, 20, .inl (kI ln))), (a4, .inl (G.2 1, 20, .inl (kB op)))] [.ref hL, .int (nI h), .int (nI q)]) (vp_Si (fun r : Int32 => r = (nI (mTells fs sn ln op h q)))) 0 0 (fun _ => False) := by
  refine Met.ofW (cc := cX1_tellsNow) (maxL := 4) (ret := (some .int)) (by decide) rfl ?_
  intro p e s m args below meth c s₁ B hml hv
  obtain ⟨rfl, hP, hK⟩ := hv
  have hx := B.exec
  have hb := B.bytes
  have hr := B.returns
  have hts := atoms_spec (ws := wsX1_tellsNow) B.pre
  have hown : s.vm.findClass RX1 = some m.cls := findClass_of_methodNamed B.named
  have hlocks := B.notSynchronized
  have hK : va_K G.1 vwCl (kT G) s := hK
  have hP : va_P G.1 vwCl [(hL, .inr (1, [.ref a0, .ref a1, .ref a2, .ref a3, .ref a4, .int (nI nh), .int (nI np)])), (a1, .inl (G.2 0, 20, .inl (kI fs))), (a2, .inl (G.2 0, 20, .inl (kI sn))), (a3, .inl (G.2 0, 20, .inl (kI ln))), (a4, .inl (G.2 1, 20, .inl (kB op)))] s.heap := hP
  have hl := lv_entry ([.ref hL, .int (nI h), .int (nI q)]) (n := 4) (Nat.le_of_ble_eq_true rfl)
  rw [lg_entry_eq]
  generalize (lg_sl ([.ref hL, .int (nI h), .int (nI q)]) ++ List.replicate (4 - (lg_sl ([.ref hL, .int (nI h), .int (nI q)])).length) Slot.unset).toArray = ls at hl ⊢
  have hl : lv_has ls 4 [(0, .ref hL), (1, .int (nI h)), (2, .int (nI q))] := hl
  have hc_26 : ∀ (t : Bool), t = decide (fs q = h ∨ sn q = h) → ∀ (ls : Array Slot), lv_has ls 4 [(0, .ref hL), (1, .int (nI h)), (2, .int (nI q)), (3, .int (bI t))] → W p l e (headSpec wsX1_tellsNow ({ frames := 0, cells := 0, slots := 0, locals := 0 })).room s m [.ref hL, .int (nI h), .int (nI q)].toArray below meth c s.heap [] 0 0 (MQ below (vp_Si (fun r : Int32 => r = (nI (mTells fs sn ln op h q)))) [.ref hL, .int (nI h), .int (nI q)].toArray s 0 0 (fun _ => False)) (F0 m 26 ls []) := by
    intro t ht ls hl
    refine lv_iload_n hx hb dX1_tellsNow_26 rfl (lv_at hl 3 rfl) ?_
    refine kb_eqb (tgt := 48) hx hb dX1_tellsNow_27 (by decide) (fun c_1 => ?_) (fun c_1 => ?_)
    · refine lv_iconst (v := (nI 0)) hx hb dX1_tellsNow_48 (by decide) ?_
      exact kr_iret hx hb hr hlocks (by simp_all [mTells, kI]) dX1_tellsNow_49
    · refine lv_aload_n hx hb dX1_tellsNow_30 rfl (lv_at hl 0 rfl) ?_
      refine va_get (D := G.1) (ci := 1) (v := .ref a4) (C := RX1) (T := TX1) (N := 7) hx hb hts kX1_tellsNow_1 hown hK hP 0 rfl rfl 4 (by decide) (hts _ kX1_tellsNow_0) (fun _ h9 => h9) rfl dX1_tellsNow_31 ?_
      refine lv_iload_n hx hb dX1_tellsNow_34 rfl (lv_at hl 2 rfl) ?_
      refine kr_zald (k := q) (v := (bI (op q))) hx hb hK hP 4 1 rfl rfl (by omega) (by decide) rfl dX1_tellsNow_35 ?_
      refine kb_eqb (tgt := 48) hx hb dX1_tellsNow_36 (by decide) (fun c_2 => ?_) (fun c_2 => ?_)
      · refine lv_iconst (v := (nI 0)) hx hb dX1_tellsNow_48 (by decide) ?_
        exact kr_iret hx hb hr hlocks (by simp_all [mTells, kI]) dX1_tellsNow_49
      · refine lv_aload_n hx hb dX1_tellsNow_39 rfl (lv_at hl 0 rfl) ?_
        refine va_get (D := G.1) (ci := 1) (v := .ref a3) (C := RX1) (T := TX1) (N := 7) hx hb hts kX1_tellsNow_1 hown hK hP 0 rfl rfl 3 (by decide) (hts _ kX1_tellsNow_2) (fun _ h9 => h9) rfl dX1_tellsNow_40 ?_
        refine lv_iload_n hx hb dX1_tellsNow_43 rfl (lv_at hl 2 rfl) ?_
        refine kr_iald (k := q) (v := (nI (ln q))) hx hb hK hP 3 0 rfl rfl (by omega) (by decide) rfl dX1_tellsNow_44 ?_
        refine lv_goto (tgt := 49) hx hb dX1_tellsNow_45 (by decide) ?_
        exact kr_iret hx hb hr hlocks (by simp_all [mTells, kI]) dX1_tellsNow_49
  refine lv_aload_n hx hb dX1_tellsNow_0 rfl (lv_at hl 0 rfl) ?_
  refine va_get (D := G.1) (ci := 1) (v := .ref a1) (C := RX1) (T := TX1) (N := 7) hx hb hts kX1_tellsNow_1 hown hK hP 0 rfl rfl 1 (by decide) (hts _ kX1_tellsNow_3) (fun _ h9 => h9) rfl dX1_tellsNow_1 ?_
  refine lv_iload_n hx hb dX1_tellsNow_4 rfl (lv_at hl 2 rfl) ?_
  refine kr_iald (k := q) (v := (nI (fs q))) hx hb hK hP 1 0 rfl rfl (by omega) (by decide) rfl dX1_tellsNow_5 ?_
  refine lv_iload_n hx hb dX1_tellsNow_6 rfl (lv_at hl 1 rfl) ?_
  refine kb_eq (tgt := 20) hx hb dX1_tellsNow_7 (by decide) (by first | omega | exact Nat.lt_trans (hfs _) (by decide) | exact Nat.lt_trans (hsn _) (by decide)) (by first | omega | exact Nat.lt_trans (hfs _) (by decide) | exact Nat.lt_trans (hsn _) (by decide)) (fun c_3 => ?_) (fun c_3 => ?_)
  · refine lv_iconst (v := (nI 1)) hx hb dX1_tellsNow_20 (by decide) ?_
    refine lv_goto (tgt := 25) hx hb dX1_tellsNow_21 (by decide) ?_
    refine lv_istore_n (lv' := [(3, .int (nI 1)), (0, .ref hL), (1, .int (nI h)), (2, .int (nI q))]) hx hb dX1_tellsNow_25 rfl hl (by decide) rfl (fun ls hl => ?_)
    exact hc_26 true (by simp [*]) _ (lv_sub hl [1, 2, 3, 0] rfl)
  · refine lv_aload_n hx hb dX1_tellsNow_10 rfl (lv_at hl 0 rfl) ?_
    refine va_get (D := G.1) (ci := 1) (v := .ref a2) (C := RX1) (T := TX1) (N := 7) hx hb hts kX1_tellsNow_1 hown hK hP 0 rfl rfl 2 (by decide) (hts _ kX1_tellsNow_4) (fun _ h9 => h9) rfl dX1_tellsNow_11 ?_
    refine lv_iload_n hx hb dX1_tellsNow_14 rfl (lv_at hl 2 rfl) ?_
    refine kr_iald (k := q) (v := (nI (sn q))) hx hb hK hP 2 0 rfl rfl (by omega) (by decide) rfl dX1_tellsNow_15 ?_
    refine lv_iload_n hx hb dX1_tellsNow_16 rfl (lv_at hl 1 rfl) ?_
    refine kb_ne (tgt := 24) hx hb dX1_tellsNow_17 (by decide) (by first | omega | exact Nat.lt_trans (hfs _) (by decide) | exact Nat.lt_trans (hsn _) (by decide)) (by first | omega | exact Nat.lt_trans (hfs _) (by decide) | exact Nat.lt_trans (hsn _) (by decide)) (fun c_4 => ?_) (fun c_4 => ?_)
    · refine lv_iconst (v := (nI 0)) hx hb dX1_tellsNow_24 (by decide) ?_
      refine lv_istore_n (lv' := [(3, .int (nI 0)), (0, .ref hL), (1, .int (nI h)), (2, .int (nI q))]) hx hb dX1_tellsNow_25 rfl hl (by decide) rfl (fun ls hl => ?_)
      exact hc_26 false (by simp [*]) _ (lv_sub hl [1, 2, 3, 0] rfl)
    · refine lv_iconst (v := (nI 1)) hx hb dX1_tellsNow_20 (by decide) ?_
      refine lv_goto (tgt := 25) hx hb dX1_tellsNow_21 (by decide) ?_
      refine lv_istore_n (lv' := [(3, .int (nI 1)), (0, .ref hL), (1, .int (nI h)), (2, .int (nI q))]) hx hb dX1_tellsNow_25 rfl hl (by decide) rfl (fun ls hl => ?_)
      exact hc_26 true (by simp [*]) _ (lv_sub hl [1, 2, 3, 0] rfl)

theorem kX1_openPasses_0 : Cond.fieldLink RX1 32 "PassNotes$Land" "passes" "I" ∈ wsX1_openPasses := by decide +kernel
theorem kX1_openPasses_1 : ∀ w ∈ wsX10, w ∈ wsX1_openPasses := by decide +kernel
theorem kX1_openPasses_2 : Cond.fieldLink RX1 24 "PassNotes$Land" "opens" "[Z" ∈ wsX1_openPasses := by decide +kernel
set_option maxHeartbeats 4000000 in
set_option maxRecDepth 100000 in
theorem c_X1_openPasses (l : Launch) (G : kG) (hL a0 a1 a2 a3 a4 : Nat) (nh np : Nat) (op : Nat → Bool) (hnp : np ≤ 20) : Met l yX1_openPasses wsX1_openPasses ({ frames := 0, cells := 0, slots := 0, locals := 0 }) (kPre G [(hL, .inr (1, [.ref a0, .ref a1, .ref a2, .ref a3, .ref a4, .int (nI nh), .int (nI np)])), (a4, .inl (G.2 1, 20, .inl (kB op)))] [.ref hL]) (vp_Si (fun r : Int32 => r = (nI (mCnt op np)))) 0 0 (fun _ => False) := by
  refine Met.ofW (cc := cX1_openPasses) (maxL := 3) (ret := (some .int)) (by decide) rfl ?_
  intro p e s m args below meth c s₁ B hml hv
  obtain ⟨rfl, hP, hK⟩ := hv
  have hx := B.exec
  have hb := B.bytes
  have hr := B.returns
  have hts := atoms_spec (ws := wsX1_openPasses) B.pre
  have hown : s.vm.findClass RX1 = some m.cls := findClass_of_methodNamed B.named
  have hlocks := B.notSynchronized
  have hK : va_K G.1 vwCl (kT G) s := hK
  have hP : va_P G.1 vwCl [(hL, .inr (1, [.ref a0, .ref a1, .ref a2, .ref a3, .ref a4, .int (nI nh), .int (nI np)])), (a4, .inl (G.2 1, 20, .inl (kB op)))] s.heap := hP
  have hl := lv_entry ([.ref hL]) (n := 3) (Nat.le_of_ble_eq_true rfl)
  rw [lg_entry_eq]
  generalize (lg_sl ([.ref hL]) ++ List.replicate (3 - (lg_sl ([.ref hL])).length) Slot.unset).toArray = ls at hl ⊢
  have hl : lv_has ls 3 [(0, .ref hL)] := hl
  refine lv_iconst (v := (nI 0)) hx hb dX1_openPasses_0 (by decide) ?_
  refine lv_istore_n (lv' := [(1, .int (nI 0)), (0, .ref hL)]) hx hb dX1_openPasses_1 rfl hl (by decide) rfl (fun ls hl => ?_)
  refine lv_iconst (v := (nI 0)) hx hb dX1_openPasses_2 (by decide) ?_
  refine lv_istore_n (lv' := [(2, .int (nI 0)), (1, .int (nI 0)), (0, .ref hL)]) hx hb dX1_openPasses_3 rfl hl (by decide) rfl (fun ls hl => ?_)
  have hc_4 : ∀ (n : Nat) (i k : Nat), np - i < n → i ≤ np → k = mCnt op i → ∀ (ls : Array Slot), lv_has ls 3 [(2, .int (nI i)), (1, .int (nI k)), (0, .ref hL)] → W p l e (headSpec wsX1_openPasses ({ frames := 0, cells := 0, slots := 0, locals := 0 })).room s m [.ref hL].toArray below meth c s.heap [] 0 0 (MQ below (vp_Si (fun r : Int32 => r = (nI (mCnt op np)))) [.ref hL].toArray s 0 0 (fun _ => False)) (F0 m 4 ls []) := by
    intro n
    induction n with
    | zero =>
      intro i k hmz; exact absurd hmz (Nat.not_lt_zero _)
    | succ n ih4 =>
      intro i k hmz hi hk ls hl
      refine lv_iload_n hx hb dX1_openPasses_4 rfl (lv_at hl 0 rfl) ?_
      refine lv_aload_n hx hb dX1_openPasses_5 rfl (lv_at hl 2 rfl) ?_
      refine va_get (D := G.1) (ci := 1) (v := .int (nI np)) (C := RX1) (T := TX1) (N := 7) hx hb hts kX1_openPasses_1 hown hK hP 0 rfl rfl 6 (by decide) (hts _ kX1_openPasses_0) (fun _ h9 => h9) rfl dX1_openPasses_6 ?_
      refine kb_ge (tgt := 30) hx hb dX1_openPasses_9 (by decide) (by omega) (by omega) (fun c_1 => ?_) (fun c_1 => ?_)
      · refine lv_iload_n hx hb dX1_openPasses_30 rfl (lv_at hl 1 rfl) ?_
        exact kr_iret hx hb hr hlocks (by rw [hk, show i = np by omega]) dX1_openPasses_31
      · refine lv_aload_n hx hb dX1_openPasses_12 rfl (lv_at hl 2 rfl) ?_
        refine va_get (D := G.1) (ci := 1) (v := .ref a4) (C := RX1) (T := TX1) (N := 7) hx hb hts kX1_openPasses_1 hown hK hP 0 rfl rfl 4 (by decide) (hts _ kX1_openPasses_2) (fun _ h9 => h9) rfl dX1_openPasses_13 ?_
        refine lv_iload_n hx hb dX1_openPasses_16 rfl (lv_at hl 0 rfl) ?_
        refine kr_zald (k := i) (v := (bI (op i))) hx hb hK hP 1 1 rfl rfl (by omega) (by decide) rfl dX1_openPasses_17 ?_
        refine kb_eqb (tgt := 24) hx hb dX1_openPasses_18 (by decide) (fun c_2 => ?_) (fun c_2 => ?_)
        · refine lv_iinc (k := 0) (v := (nI (i + 1))) (lv' := [(2, .int (nI (i + 1))), (1, .int (nI k)), (0, .ref hL)]) hx hb dX1_openPasses_24 hl rfl (kn_inc i) (by decide) rfl (fun ls hl => ?_)
          refine lv_goto (tgt := 4) hx hb dX1_openPasses_27 (by decide) ?_
          exact ih4 (i + 1) k (by omega) (by omega) (by rw [mCnt_succ, ← hk]; simp [*]) _ (lv_sub hl [0, 1, 2] rfl)
        · refine lv_iinc (k := 1) (v := (nI (k + 1))) (lv' := [(1, .int (nI (k + 1))), (2, .int (nI i)), (0, .ref hL)]) hx hb dX1_openPasses_21 hl rfl (kn_inc k) (by decide) rfl (fun ls hl => ?_)
          refine lv_iinc (k := 1) (v := (nI (i + 1))) (lv' := [(2, .int (nI (i + 1))), (1, .int (nI (k + 1))), (0, .ref hL)]) hx hb dX1_openPasses_24 hl rfl (kn_inc i) (by decide) rfl (fun ls hl => ?_)
          refine lv_goto (tgt := 4) hx hb dX1_openPasses_27 (by decide) ?_
          exact ih4 (i + 1) (k + 1) (by omega) (by omega) (by rw [mCnt_succ, ← hk]; simp [*]) _ (lv_sub hl [0, 1, 2] rfl)
  exact hc_4 (_ + 1) 0 0 (Nat.lt_succ_self _) (by omega) (by rfl) _ (lv_sub hl [0, 1, 2] rfl)

theorem kX1_isStep_0 : Cond.fieldLink RX1 32 "PassNotes$Land" "passes" "I" ∈ wsX1_isStep := by decide +kernel
theorem kX1_isStep_1 : ∀ w ∈ wsX10, w ∈ wsX1_isStep := by decide +kernel
theorem kX1_isStep_2 : Cond.fieldLink RX1 24 "PassNotes$Land" "opens" "[Z" ∈ wsX1_isStep := by decide +kernel
theorem kX1_isStep_3 : Cond.fieldLink RX1 15 "PassNotes$Land" "firsts" "[I" ∈ wsX1_isStep := by decide +kernel
theorem kX1_isStep_4 : Cond.fieldLink RX1 18 "PassNotes$Land" "seconds" "[I" ∈ wsX1_isStep := by decide +kernel
set_option maxHeartbeats 4000000 in
set_option maxRecDepth 100000 in
theorem c_X1_isStep (l : Launch) (G : kG) (hL a0 a1 a2 a3 a4 : Nat) (nh np : Nat) (fs sn : Nat → Nat) (op : Nat → Bool) (a b : Nat) (hfs : ∀ k, fs k < 10) (hsn : ∀ k, sn k < 10) (ha : a < 10) (hb2 : b < 10) (hnp : np ≤ 20) : Met l yX1_isStep wsX1_isStep ({ frames := 0, cells := 0, slots := 0, locals := 0 }) (kPre G [(hL, .inr (1, [.ref a0, .ref a1, .ref a2, .ref a3, .ref a4, .int (nI nh), .int (nI np)])), (a1, .inl (G.2 0, 20, .inl (kI fs))), (a2, .inl (G.2 0, 20, .inl (kI sn))), (a4, .inl (G.2 1, 20, .inl (kB op)))] [.ref hL, .int (nI a), .int (nI b)]) (vp_Si (fun r : Int32 => r = (bI (mAny (mJoin fs sn op a b) np)))) 0 0 (fun _ => False) := by
  refine Met.ofW (cc := cX1_isStep) (maxL := 6) (ret := (some .boolean)) (by decide) rfl ?_
  intro p e s m args below meth c s₁ B hml hv
  obtain ⟨rfl, hP, hK⟩ := hv
  have hx := B.exec
  have hb := B.bytes
  have hr := B.returns
  have hts := atoms_spec (ws := wsX1_isStep) B.pre
  have hown : s.vm.findClass RX1 = some m.cls := findClass_of_methodNamed B.named
  have hlocks := B.notSynchronized
  have hK : va_K G.1 vwCl (kT G) s := hK
  have hP : va_P G.1 vwCl [(hL, .inr (1, [.ref a0, .ref a1, .ref a2, .ref a3, .ref a4, .int (nI nh), .int (nI np)])), (a1, .inl (G.2 0, 20, .inl (kI fs))), (a2, .inl (G.2 0, 20, .inl (kI sn))), (a4, .inl (G.2 1, 20, .inl (kB op)))] s.heap := hP
  have hl := lv_entry ([.ref hL, .int (nI a), .int (nI b)]) (n := 6) (Nat.le_of_ble_eq_true rfl)
  rw [lg_entry_eq]
  generalize (lg_sl ([.ref hL, .int (nI a), .int (nI b)]) ++ List.replicate (6 - (lg_sl ([.ref hL, .int (nI a), .int (nI b)])).length) Slot.unset).toArray = ls at hl ⊢
  have hl : lv_has ls 6 [(0, .ref hL), (1, .int (nI a)), (2, .int (nI b))] := hl
  refine lv_iconst (v := (nI 0)) hx hb dX1_isStep_0 (by decide) ?_
  refine lv_istore_n (lv' := [(3, .int (nI 0)), (0, .ref hL), (1, .int (nI a)), (2, .int (nI b))]) hx hb dX1_isStep_1 rfl hl (by decide) rfl (fun ls hl => ?_)
  have hc_2 : ∀ (n : Nat) (i : Nat), np - i < n → i ≤ np → mAny (mJoin fs sn op a b) i = false → ∀ (ls : Array Slot), lv_has ls 6 [(3, .int (nI i)), (0, .ref hL), (1, .int (nI a)), (2, .int (nI b))] → W p l e (headSpec wsX1_isStep ({ frames := 0, cells := 0, slots := 0, locals := 0 })).room s m [.ref hL, .int (nI a), .int (nI b)].toArray below meth c s.heap [] 0 0 (MQ below (vp_Si (fun r : Int32 => r = (bI (mAny (mJoin fs sn op a b) np)))) [.ref hL, .int (nI a), .int (nI b)].toArray s 0 0 (fun _ => False)) (F0 m 2 ls []) := by
    intro n
    induction n with
    | zero =>
      intro i hmz; exact absurd hmz (Nat.not_lt_zero _)
    | succ n ih2 =>
      intro i hmz hi hn ls hl
      refine lv_iload_n hx hb dX1_isStep_2 rfl (lv_at hl 0 rfl) ?_
      refine lv_aload_n hx hb dX1_isStep_3 rfl (lv_at hl 1 rfl) ?_
      refine va_get (D := G.1) (ci := 1) (v := .int (nI np)) (C := RX1) (T := TX1) (N := 7) hx hb hts kX1_isStep_1 hown hK hP 0 rfl rfl 6 (by decide) (hts _ kX1_isStep_0) (fun _ h9 => h9) rfl dX1_isStep_4 ?_
      refine kb_ge (tgt := 91) hx hb dX1_isStep_7 (by decide) (by first | omega | exact Nat.lt_trans (hfs _) (by decide) | exact Nat.lt_trans (hsn _) (by decide)) (by first | omega | exact Nat.lt_trans (hfs _) (by decide) | exact Nat.lt_trans (hsn _) (by decide)) (fun c_1 => ?_) (fun c_1 => ?_)
      · refine lv_iconst (v := (nI 0)) hx hb dX1_isStep_91 (by decide) ?_
        exact kr_zret hx hb hr hlocks rfl (by exact bI_zero (by rw [show np = i by omega]; exact hn)) dX1_isStep_92
      · have hc_37 : ∀ (t : Bool), t = (fs i == a && sn i == b) → ∀ (ls : Array Slot), lv_has ls 6 [(3, .int (nI i)), (0, .ref hL), (1, .int (nI a)), (2, .int (nI b)), (4, .int (bI t))] → W p l e (headSpec wsX1_isStep ({ frames := 0, cells := 0, slots := 0, locals := 0 })).room s m [.ref hL, .int (nI a), .int (nI b)].toArray below meth c s.heap [] 0 0 (MQ below (vp_Si (fun r : Int32 => r = (bI (mAny (mJoin fs sn op a b) np)))) [.ref hL, .int (nI a), .int (nI b)].toArray s 0 0 (fun _ => False)) (F0 m 37 ls []) := by
          intro t ht ls hl
          have hc_64 : ∀ (t2 : Bool), t2 = (fs i == b && sn i == a) → ∀ (ls : Array Slot), lv_has ls 6 [(3, .int (nI i)), (0, .ref hL), (1, .int (nI a)), (2, .int (nI b)), (4, .int (bI t)), (5, .int (bI t2))] → W p l e (headSpec wsX1_isStep ({ frames := 0, cells := 0, slots := 0, locals := 0 })).room s m [.ref hL, .int (nI a), .int (nI b)].toArray below meth c s.heap [] 0 0 (MQ below (vp_Si (fun r : Int32 => r = (bI (mAny (mJoin fs sn op a b) np)))) [.ref hL, .int (nI a), .int (nI b)].toArray s 0 0 (fun _ => False)) (F0 m 64 ls []) := by
            intro t2 ht2 ls hl
            refine lv_aload_n hx hb dX1_isStep_64 rfl (lv_at hl 1 rfl) ?_
            refine va_get (D := G.1) (ci := 1) (v := .ref a4) (C := RX1) (T := TX1) (N := 7) hx hb hts kX1_isStep_1 hown hK hP 0 rfl rfl 4 (by decide) (hts _ kX1_isStep_2) (fun _ h9 => h9) rfl dX1_isStep_65 ?_
            refine lv_iload_n hx hb dX1_isStep_68 rfl (lv_at hl 0 rfl) ?_
            refine kr_zald (k := i) (v := (bI (op i))) hx hb hK hP 3 1 rfl rfl (by omega) (by decide) rfl dX1_isStep_69 ?_
            refine kb_eqb (tgt := 85) hx hb dX1_isStep_70 (by decide) (fun c_2 => ?_) (fun c_2 => ?_)
            · refine lv_iinc (k := 0) (v := (nI (i + 1))) (lv' := [(3, .int (nI (i + 1))), (0, .ref hL), (1, .int (nI a)), (2, .int (nI b)), (4, .int (bI t)), (5, .int (bI t2))]) hx hb dX1_isStep_85 hl rfl (kn_inc i) (by decide) rfl (fun ls hl => ?_)
              refine lv_goto (tgt := 2) hx hb dX1_isStep_88 (by decide) ?_
              exact ih2 (i + 1) (by omega) (by omega) (by rw [mAny_succ, hn]; simp_all [mJoin]) _ (lv_sub hl [0, 1, 2, 3] rfl)
            · refine lv_iload hx hb dX1_isStep_73 (lv_at hl 4 rfl) ?_
              refine kb_neb (tgt := 83) hx hb dX1_isStep_75 (by decide) (fun c_3 => ?_) (fun c_3 => ?_)
              · refine lv_iconst (v := (nI 1)) hx hb dX1_isStep_83 (by decide) ?_
                exact kr_zret hx hb hr hlocks rfl (by exact bI_one (mAny_iff.mpr ⟨i, by omega, by simp_all [mJoin]⟩)) dX1_isStep_84
              · refine lv_iload hx hb dX1_isStep_78 (lv_at hl 5 rfl) ?_
                refine kb_eqb (tgt := 85) hx hb dX1_isStep_80 (by decide) (fun c_4 => ?_) (fun c_4 => ?_)
                · refine lv_iinc (k := 0) (v := (nI (i + 1))) (lv' := [(3, .int (nI (i + 1))), (0, .ref hL), (1, .int (nI a)), (2, .int (nI b)), (4, .int (bI t)), (5, .int (bI t2))]) hx hb dX1_isStep_85 hl rfl (kn_inc i) (by decide) rfl (fun ls hl => ?_)
                  refine lv_goto (tgt := 2) hx hb dX1_isStep_88 (by decide) ?_
                  exact ih2 (i + 1) (by omega) (by omega) (by rw [mAny_succ, hn]; simp_all [mJoin]) _ (lv_sub hl [0, 1, 2, 3] rfl)
                · refine lv_iconst (v := (nI 1)) hx hb dX1_isStep_83 (by decide) ?_
                  exact kr_zret hx hb hr hlocks rfl (by exact bI_one (mAny_iff.mpr ⟨i, by omega, by simp_all [mJoin]⟩)) dX1_isStep_84
          refine lv_aload_n hx hb dX1_isStep_37 rfl (lv_at hl 1 rfl) ?_
          refine va_get (D := G.1) (ci := 1) (v := .ref a1) (C := RX1) (T := TX1) (N := 7) hx hb hts kX1_isStep_1 hown hK hP 0 rfl rfl 1 (by decide) (hts _ kX1_isStep_3) (fun _ h9 => h9) rfl dX1_isStep_38 ?_
          refine lv_iload_n hx hb dX1_isStep_41 rfl (lv_at hl 0 rfl) ?_
          refine kr_iald (k := i) (v := (nI (fs i))) hx hb hK hP 1 0 rfl rfl (by omega) (by decide) rfl dX1_isStep_42 ?_
          refine lv_iload_n hx hb dX1_isStep_43 rfl (lv_at hl 3 rfl) ?_
          refine kb_ne (tgt := 61) hx hb dX1_isStep_44 (by decide) (by first | omega | exact Nat.lt_trans (hfs _) (by decide) | exact Nat.lt_trans (hsn _) (by decide)) (by first | omega | exact Nat.lt_trans (hfs _) (by decide) | exact Nat.lt_trans (hsn _) (by decide)) (fun c_5 => ?_) (fun c_5 => ?_)
          · refine lv_iconst (v := (nI 0)) hx hb dX1_isStep_61 (by decide) ?_
            refine lv_istore (lv' := [(5, .int (nI 0)), (3, .int (nI i)), (0, .ref hL), (1, .int (nI a)), (2, .int (nI b)), (4, .int (bI t))]) hx hb dX1_isStep_62 hl (by decide) rfl (fun ls hl => ?_)
            exact hc_64 false (by simp [*]) _ (lv_sub hl [1, 2, 3, 4, 5, 0] rfl)
          · refine lv_aload_n hx hb dX1_isStep_47 rfl (lv_at hl 1 rfl) ?_
            refine va_get (D := G.1) (ci := 1) (v := .ref a2) (C := RX1) (T := TX1) (N := 7) hx hb hts kX1_isStep_1 hown hK hP 0 rfl rfl 2 (by decide) (hts _ kX1_isStep_4) (fun _ h9 => h9) rfl dX1_isStep_48 ?_
            refine lv_iload_n hx hb dX1_isStep_51 rfl (lv_at hl 0 rfl) ?_
            refine kr_iald (k := i) (v := (nI (sn i))) hx hb hK hP 2 0 rfl rfl (by omega) (by decide) rfl dX1_isStep_52 ?_
            refine lv_iload_n hx hb dX1_isStep_53 rfl (lv_at hl 2 rfl) ?_
            refine kb_ne (tgt := 61) hx hb dX1_isStep_54 (by decide) (by first | omega | exact Nat.lt_trans (hfs _) (by decide) | exact Nat.lt_trans (hsn _) (by decide)) (by first | omega | exact Nat.lt_trans (hfs _) (by decide) | exact Nat.lt_trans (hsn _) (by decide)) (fun c_6 => ?_) (fun c_6 => ?_)
            · refine lv_iconst (v := (nI 0)) hx hb dX1_isStep_61 (by decide) ?_
              refine lv_istore (lv' := [(5, .int (nI 0)), (3, .int (nI i)), (0, .ref hL), (1, .int (nI a)), (2, .int (nI b)), (4, .int (bI t))]) hx hb dX1_isStep_62 hl (by decide) rfl (fun ls hl => ?_)
              exact hc_64 false (by simp [*]) _ (lv_sub hl [1, 2, 3, 4, 5, 0] rfl)
            · refine lv_iconst (v := (nI 1)) hx hb dX1_isStep_57 (by decide) ?_
              refine lv_goto (tgt := 62) hx hb dX1_isStep_58 (by decide) ?_
              refine lv_istore (lv' := [(5, .int (nI 1)), (3, .int (nI i)), (0, .ref hL), (1, .int (nI a)), (2, .int (nI b)), (4, .int (bI t))]) hx hb dX1_isStep_62 hl (by decide) rfl (fun ls hl => ?_)
              exact hc_64 true (by simp [*]) _ (lv_sub hl [1, 2, 3, 4, 5, 0] rfl)
        refine lv_aload_n hx hb dX1_isStep_10 rfl (lv_at hl 1 rfl) ?_
        refine va_get (D := G.1) (ci := 1) (v := .ref a1) (C := RX1) (T := TX1) (N := 7) hx hb hts kX1_isStep_1 hown hK hP 0 rfl rfl 1 (by decide) (hts _ kX1_isStep_3) (fun _ h9 => h9) rfl dX1_isStep_11 ?_
        refine lv_iload_n hx hb dX1_isStep_14 rfl (lv_at hl 0 rfl) ?_
        refine kr_iald (k := i) (v := (nI (fs i))) hx hb hK hP 1 0 rfl rfl (by omega) (by decide) rfl dX1_isStep_15 ?_
        refine lv_iload_n hx hb dX1_isStep_16 rfl (lv_at hl 2 rfl) ?_
        refine kb_ne (tgt := 34) hx hb dX1_isStep_17 (by decide) (by first | omega | exact Nat.lt_trans (hfs _) (by decide) | exact Nat.lt_trans (hsn _) (by decide)) (by first | omega | exact Nat.lt_trans (hfs _) (by decide) | exact Nat.lt_trans (hsn _) (by decide)) (fun c_7 => ?_) (fun c_7 => ?_)
        · refine lv_iconst (v := (nI 0)) hx hb dX1_isStep_34 (by decide) ?_
          refine lv_istore (lv' := [(4, .int (nI 0)), (3, .int (nI i)), (0, .ref hL), (1, .int (nI a)), (2, .int (nI b))]) hx hb dX1_isStep_35 hl (by decide) rfl (fun ls hl => ?_)
          exact hc_37 false (by simp [*]) _ (lv_sub hl [1, 2, 3, 4, 0] rfl)
        · refine lv_aload_n hx hb dX1_isStep_20 rfl (lv_at hl 1 rfl) ?_
          refine va_get (D := G.1) (ci := 1) (v := .ref a2) (C := RX1) (T := TX1) (N := 7) hx hb hts kX1_isStep_1 hown hK hP 0 rfl rfl 2 (by decide) (hts _ kX1_isStep_4) (fun _ h9 => h9) rfl dX1_isStep_21 ?_
          refine lv_iload_n hx hb dX1_isStep_24 rfl (lv_at hl 0 rfl) ?_
          refine kr_iald (k := i) (v := (nI (sn i))) hx hb hK hP 2 0 rfl rfl (by omega) (by decide) rfl dX1_isStep_25 ?_
          refine lv_iload_n hx hb dX1_isStep_26 rfl (lv_at hl 3 rfl) ?_
          refine kb_ne (tgt := 34) hx hb dX1_isStep_27 (by decide) (by first | omega | exact Nat.lt_trans (hfs _) (by decide) | exact Nat.lt_trans (hsn _) (by decide)) (by first | omega | exact Nat.lt_trans (hfs _) (by decide) | exact Nat.lt_trans (hsn _) (by decide)) (fun c_8 => ?_) (fun c_8 => ?_)
          · refine lv_iconst (v := (nI 0)) hx hb dX1_isStep_34 (by decide) ?_
            refine lv_istore (lv' := [(4, .int (nI 0)), (3, .int (nI i)), (0, .ref hL), (1, .int (nI a)), (2, .int (nI b))]) hx hb dX1_isStep_35 hl (by decide) rfl (fun ls hl => ?_)
            exact hc_37 false (by simp [*]) _ (lv_sub hl [1, 2, 3, 4, 0] rfl)
          · refine lv_iconst (v := (nI 1)) hx hb dX1_isStep_30 (by decide) ?_
            refine lv_goto (tgt := 35) hx hb dX1_isStep_31 (by decide) ?_
            refine lv_istore (lv' := [(4, .int (nI 1)), (3, .int (nI i)), (0, .ref hL), (1, .int (nI a)), (2, .int (nI b))]) hx hb dX1_isStep_35 hl (by decide) rfl (fun ls hl => ?_)
            exact hc_37 true (by simp [*]) _ (lv_sub hl [1, 2, 3, 4, 0] rfl)
  exact hc_2 (_ + 1) 0 (Nat.lt_succ_self _) (by omega) (by rfl) _ (lv_sub hl [0, 1, 2, 3] rfl)

theorem kX1_addHut_0 : Cond.fieldLink RX1 28 "PassNotes$Land" "huts" "I" ∈ wsX1_addHut := by decide +kernel
theorem kX1_addHut_1 : ∀ w ∈ wsX10, w ∈ wsX1_addHut := by decide +kernel
theorem kX1_addHut_2 : Cond.fieldLink RX1 9 "PassNotes$Land" "areas" "[I" ∈ wsX1_addHut := by decide +kernel
set_option maxHeartbeats 4000000 in
set_option maxRecDepth 100000 in
theorem c_X1_addHut (l : Launch) (G : kG) (sz : Nat) (hL a0 a1 a2 a3 a4 : Nat) (ar fs sn ln : Nat → Nat) (op : Nat → Bool) (nh np : Nat) (x : Nat) (hh : nh < 10) : Met l yX1_addHut wsX1_addHut ({ frames := 0, cells := 0, slots := 0, locals := 0 }) (kPreM G [(hL, .inr (1, [.ref a0, .ref a1, .ref a2, .ref a3, .ref a4, .int (nI nh), .int (nI np)])), (a0, .inl (G.2 0, 10, .inl (kI ar)))] sz [.ref hL, .int (nI x)]) (va_Qi (fun (r : Int32) (u : Unit) => r = (nI nh)) (fun (u : Unit) t => kA G (va_A [(hL, .inr (1, [.ref a0, .ref a1, .ref a2, .ref a3, .ref a4, .int (nI nh), .int (nI np)])), (a0, .inl (G.2 0, 10, .inl (kI ar)))] sz) [(hL, .inr (1, [.ref a0, .ref a1, .ref a2, .ref a3, .ref a4, .int (nI (nh + 1)), .int (nI np)])), (a0, .inl (G.2 0, 10, .inl (kI (va_up ar nh x))))] t) (va_A [(hL, .inr (1, [.ref a0, .ref a1, .ref a2, .ref a3, .ref a4, .int (nI nh), .int (nI np)])), (a0, .inl (G.2 0, 10, .inl (kI ar)))] sz)) 0 0 (va_A [(hL, .inr (1, [.ref a0, .ref a1, .ref a2, .ref a3, .ref a4, .int (nI nh), .int (nI np)])), (a0, .inl (G.2 0, 10, .inl (kI ar)))] sz) := by
  refine Met.ofW (cc := cX1_addHut) (maxL := 2) (ret := (some .int)) (by decide) rfl ?_
  intro p e s m args below meth c s₁ B hml hv
  obtain ⟨rfl, hsz, hP, hK, hD0⟩ := hv
  have hx := B.exec
  have hb := B.bytes
  have hr := B.returns
  have hts := atoms_spec (ws := wsX1_addHut) B.pre
  have hown : s.vm.findClass RX1 = some m.cls := findClass_of_methodNamed B.named
  have hlocks := B.notSynchronized
  have hK : va_K G.1 vwCl (kT G) s := hK
  subst hsz
  have hD := hD0.self (sz := s.heap.size)
  generalize hAe : va_A [(hL, .inr (1, [.ref a0, .ref a1, .ref a2, .ref a3, .ref a4, .int (nI nh), .int (nI np)])), (a0, .inl (G.2 0, 10, .inl (kI ar)))] s.heap.size = A at hD ⊢
  have hA : ∀ q : Nat, s.heap.size ≤ q → A q := fun q h => by rw [← hAe]; exact Or.inr h
  have hS : va_S A s.heap s.heap [] := va_S.rf
  have hP : va_P G.1 vwCl [(hL, .inr (1, [.ref a0, .ref a1, .ref a2, .ref a3, .ref a4, .int (nI nh), .int (nI np)])), (a0, .inl (G.2 0, 10, .inl (kI ar)))] s.heap := hP
  have hl := lv_entry ([.ref hL, .int (nI x)]) (n := 2) (Nat.le_of_ble_eq_true rfl)
  rw [lg_entry_eq]
  generalize (lg_sl ([.ref hL, .int (nI x)]) ++ List.replicate (2 - (lg_sl ([.ref hL, .int (nI x)])).length) Slot.unset).toArray = ls at hl ⊢
  have hl : lv_has ls 2 [(0, .ref hL), (1, .int (nI x))] := hl
  refine lv_aload_n hx hb dX1_addHut_0 rfl (lv_at hl 0 rfl) ?_
  refine va_get (D := G.1) (ci := 1) (v := .int (nI nh)) (C := RX1) (T := TX1) (N := 7) hx hb hts kX1_addHut_1 hown hK hP 0 rfl rfl 5 (by decide) (hts _ kX1_addHut_0) (fun _ h9 => h9) rfl dX1_addHut_1 ?_
  refine lv_bipush (v := (nI 10)) hx hb dX1_addHut_4 (by decide) ?_
  refine kb_lt (tgt := 11) hx hb dX1_addHut_6 (by decide) (by omega) (by decide) (fun c_1 => ?_) (fun c_1 => ?_)
  · refine lv_aload_n hx hb dX1_addHut_11 rfl (lv_at hl 0 rfl) ?_
    refine va_get (D := G.1) (ci := 1) (v := .ref a0) (C := RX1) (T := TX1) (N := 7) hx hb hts kX1_addHut_1 hown hK hP 0 rfl rfl 0 (by decide) (hts _ kX1_addHut_2) (fun _ h9 => h9) rfl dX1_addHut_12 ?_
    refine lv_aload_n hx hb dX1_addHut_15 rfl (lv_at hl 0 rfl) ?_
    refine va_get (D := G.1) (ci := 1) (v := .int (nI nh)) (C := RX1) (T := TX1) (N := 7) hx hb hts kX1_addHut_1 hown hK hP 0 rfl rfl 5 (by decide) (hts _ kX1_addHut_0) (fun _ h9 => h9) rfl dX1_addHut_16 ?_
    refine lv_iload_n hx hb dX1_addHut_19 rfl (lv_at hl 1 rfl) ?_
    refine kr_iast (k := nh) (g := (kI (va_up ar nh x))) hx hb hK hP hD hS 1 0 rfl rfl (by omega) (by decide) (kI_up ar nh x) dX1_addHut_20 (fun H locs hP hD hS => ?_)
    have hP : va_P G.1 vwCl [(hL, .inr (1, [.ref a0, .ref a1, .ref a2, .ref a3, .ref a4, .int (nI nh), .int (nI np)])), (a0, .inl (G.2 0, 10, .inl (kI (va_up ar nh x))))] H := hP
    have hD : va_D A [(hL, .inr (1, [.ref a0, .ref a1, .ref a2, .ref a3, .ref a4, .int (nI nh), .int (nI np)])), (a0, .inl (G.2 0, 10, .inl (kI (va_up ar nh x))))] := hD
    refine lv_aload_n hx hb dX1_addHut_21 rfl (lv_at hl 0 rfl) ?_
    refine lv_dup hx hb dX1_addHut_22 rfl ?_
    refine va_get (D := G.1) (ci := 1) (v := .int (nI nh)) (C := RX1) (T := TX1) (N := 7) hx hb hts kX1_addHut_1 hown hK hP 0 rfl rfl 5 (by decide) (hts _ kX1_addHut_0) (fun _ h9 => h9) rfl dX1_addHut_23 ?_
    refine lv_iconst (v := (nI 1)) hx hb dX1_addHut_26 (by decide) ?_
    refine lv_iadd hx hb dX1_addHut_27 ?_
    refine kr_top (y := nI (nh + 1)) (nI_add nh 1) ?_
    refine va_put (D := G.1) (ci := 1) (v := .int (nI (nh + 1))) (ty := .int) (C := RX1) (T := TX1) (N := 7) hx hb hts kX1_addHut_1 tyX1 tyX1_ok nmX1 hown hK hP hD hS 0 rfl rfl 5 (by decide) (hts _ kX1_addHut_0) (fun _ h9 => h9) rfl (by decide +kernel) rfl rfl (Nat.le_of_ble_eq_true rfl) dX1_addHut_28 (fun H locs hP hD hS => ?_)
    have hP : va_P G.1 vwCl [(hL, .inr (1, [.ref a0, .ref a1, .ref a2, .ref a3, .ref a4, .int (nI (nh + 1)), .int (nI np)])), (a0, .inl (G.2 0, 10, .inl (kI (va_up ar nh x))))] H := hP
    have hD : va_D A [(hL, .inr (1, [.ref a0, .ref a1, .ref a2, .ref a3, .ref a4, .int (nI (nh + 1)), .int (nI np)])), (a0, .inl (G.2 0, 10, .inl (kI (va_up ar nh x))))] := hD
    refine lv_aload_n hx hb dX1_addHut_31 rfl (lv_at hl 0 rfl) ?_
    refine va_get (D := G.1) (ci := 1) (v := .int (nI (nh + 1))) (C := RX1) (T := TX1) (N := 7) hx hb hts kX1_addHut_1 hown hK hP 0 rfl rfl 5 (by decide) (hts _ kX1_addHut_0) (fun _ h9 => h9) rfl dX1_addHut_32 ?_
    refine lv_iconst (v := (nI 1)) hx hb dX1_addHut_35 (by decide) ?_
    refine lv_isub hx hb dX1_addHut_36 ?_
    refine kr_top (y := (nI nh)) (kn_sub rfl) ?_
    have hP9 := hP.sub (ws' := [(hL, .inr (1, [.ref a0, .ref a1, .ref a2, .ref a3, .ref a4, .int (nI (nh + 1)), .int (nI np)])), (a0, .inl (G.2 0, 10, .inl (kI (va_up ar nh x))))]) [0, 1] rfl
    have hD9 := hD.sub (ws' := [(hL, .inr (1, [.ref a0, .ref a1, .ref a2, .ref a3, .ref a4, .int (nI (nh + 1)), .int (nI np)])), (a0, .inl (G.2 0, 10, .inl (kI (va_up ar nh x))))]) [0, 1] (by decide) rfl
    exact km_iret (v := (nI nh)) (post := fun (r : Int32) (u : Unit) => r = (nI nh)) (wo := fun (u : Unit) => [(hL, .inr (1, [.ref a0, .ref a1, .ref a2, .ref a3, .ref a4, .int (nI (nh + 1)), .int (nI np)])), (a0, .inl (G.2 0, 10, .inl (kI (va_up ar nh x))))]) () hx hb hr hlocks hS hP9 hD9 (rfl) dX1_addHut_37
  · exfalso; omega

theorem kX1_addPass_0 : Cond.fieldLink RX1 32 "PassNotes$Land" "passes" "I" ∈ wsX1_addPass := by decide +kernel
theorem kX1_addPass_1 : ∀ w ∈ wsX10, w ∈ wsX1_addPass := by decide +kernel
theorem kX1_addPass_2 : Cond.fieldLink RX1 15 "PassNotes$Land" "firsts" "[I" ∈ wsX1_addPass := by decide +kernel
theorem kX1_addPass_3 : Cond.fieldLink RX1 18 "PassNotes$Land" "seconds" "[I" ∈ wsX1_addPass := by decide +kernel
theorem kX1_addPass_4 : Cond.fieldLink RX1 21 "PassNotes$Land" "lengths" "[I" ∈ wsX1_addPass := by decide +kernel
theorem kX1_addPass_5 : Cond.fieldLink RX1 24 "PassNotes$Land" "opens" "[Z" ∈ wsX1_addPass := by decide +kernel
set_option maxHeartbeats 4000000 in
set_option maxRecDepth 100000 in
theorem c_X1_addPass (l : Launch) (G : kG) (sz : Nat) (hL a0 a1 a2 a3 a4 : Nat) (ar fs sn ln : Nat → Nat) (op : Nat → Bool) (nh np : Nat) (x y z : Nat) (hh : np < 20) : Met l yX1_addPass wsX1_addPass ({ frames := 0, cells := 0, slots := 0, locals := 0 }) (kPreM G [(hL, .inr (1, [.ref a0, .ref a1, .ref a2, .ref a3, .ref a4, .int (nI nh), .int (nI np)])), (a1, .inl (G.2 0, 20, .inl (kI fs))), (a2, .inl (G.2 0, 20, .inl (kI sn))), (a3, .inl (G.2 0, 20, .inl (kI ln))), (a4, .inl (G.2 1, 20, .inl (kB op)))] sz [.ref hL, .int (nI x), .int (nI y), .int (nI z)]) (va_Qi (fun (r : Int32) (u : Unit) => r = (nI np)) (fun (u : Unit) t => kA G (va_A [(hL, .inr (1, [.ref a0, .ref a1, .ref a2, .ref a3, .ref a4, .int (nI nh), .int (nI np)])), (a1, .inl (G.2 0, 20, .inl (kI fs))), (a2, .inl (G.2 0, 20, .inl (kI sn))), (a3, .inl (G.2 0, 20, .inl (kI ln))), (a4, .inl (G.2 1, 20, .inl (kB op)))] sz) [(hL, .inr (1, [.ref a0, .ref a1, .ref a2, .ref a3, .ref a4, .int (nI nh), .int (nI (np + 1))])), (a1, .inl (G.2 0, 20, .inl (kI (va_up fs np x)))), (a2, .inl (G.2 0, 20, .inl (kI (va_up sn np y)))), (a3, .inl (G.2 0, 20, .inl (kI (va_up ln np z)))), (a4, .inl (G.2 1, 20, .inl (kB (va_up op np true))))] t) (va_A [(hL, .inr (1, [.ref a0, .ref a1, .ref a2, .ref a3, .ref a4, .int (nI nh), .int (nI np)])), (a1, .inl (G.2 0, 20, .inl (kI fs))), (a2, .inl (G.2 0, 20, .inl (kI sn))), (a3, .inl (G.2 0, 20, .inl (kI ln))), (a4, .inl (G.2 1, 20, .inl (kB op)))] sz)) 0 0 (va_A [(hL, .inr (1, [.ref a0, .ref a1, .ref a2, .ref a3, .ref a4, .int (nI nh), .int (nI np)])), (a1, .inl (G.2 0, 20, .inl (kI fs))), (a2, .inl (G.2 0, 20, .inl (kI sn))), (a3, .inl (G.2 0, 20, .inl (kI ln))), (a4, .inl (G.2 1, 20, .inl (kB op)))] sz) := by
  refine Met.ofW (cc := cX1_addPass) (maxL := 4) (ret := (some .int)) (by decide) rfl ?_
  intro p e s m args below meth c s₁ B hml hv
  obtain ⟨rfl, hsz, hP, hK, hD0⟩ := hv
  have hx := B.exec
  have hb := B.bytes
  have hr := B.returns
  have hts := atoms_spec (ws := wsX1_addPass) B.pre
  have hown : s.vm.findClass RX1 = some m.cls := findClass_of_methodNamed B.named
  have hlocks := B.notSynchronized
  have hK : va_K G.1 vwCl (kT G) s := hK
  subst hsz
  have hD := hD0.self (sz := s.heap.size)
  generalize hAe : va_A [(hL, .inr (1, [.ref a0, .ref a1, .ref a2, .ref a3, .ref a4, .int (nI nh), .int (nI np)])), (a1, .inl (G.2 0, 20, .inl (kI fs))), (a2, .inl (G.2 0, 20, .inl (kI sn))), (a3, .inl (G.2 0, 20, .inl (kI ln))), (a4, .inl (G.2 1, 20, .inl (kB op)))] s.heap.size = A at hD ⊢
  have hA : ∀ q : Nat, s.heap.size ≤ q → A q := fun q h => by rw [← hAe]; exact Or.inr h
  have hS : va_S A s.heap s.heap [] := va_S.rf
  have hP : va_P G.1 vwCl [(hL, .inr (1, [.ref a0, .ref a1, .ref a2, .ref a3, .ref a4, .int (nI nh), .int (nI np)])), (a1, .inl (G.2 0, 20, .inl (kI fs))), (a2, .inl (G.2 0, 20, .inl (kI sn))), (a3, .inl (G.2 0, 20, .inl (kI ln))), (a4, .inl (G.2 1, 20, .inl (kB op)))] s.heap := hP
  have hl := lv_entry ([.ref hL, .int (nI x), .int (nI y), .int (nI z)]) (n := 4) (Nat.le_of_ble_eq_true rfl)
  rw [lg_entry_eq]
  generalize (lg_sl ([.ref hL, .int (nI x), .int (nI y), .int (nI z)]) ++ List.replicate (4 - (lg_sl ([.ref hL, .int (nI x), .int (nI y), .int (nI z)])).length) Slot.unset).toArray = ls at hl ⊢
  have hl : lv_has ls 4 [(0, .ref hL), (1, .int (nI x)), (2, .int (nI y)), (3, .int (nI z))] := hl
  refine lv_aload_n hx hb dX1_addPass_0 rfl (lv_at hl 0 rfl) ?_
  refine va_get (D := G.1) (ci := 1) (v := .int (nI np)) (C := RX1) (T := TX1) (N := 7) hx hb hts kX1_addPass_1 hown hK hP 0 rfl rfl 6 (by decide) (hts _ kX1_addPass_0) (fun _ h9 => h9) rfl dX1_addPass_1 ?_
  refine lv_bipush (v := (nI 20)) hx hb dX1_addPass_4 (by decide) ?_
  refine kb_lt (tgt := 11) hx hb dX1_addPass_6 (by decide) (by omega) (by decide) (fun c_1 => ?_) (fun c_1 => ?_)
  · refine lv_aload_n hx hb dX1_addPass_11 rfl (lv_at hl 0 rfl) ?_
    refine va_get (D := G.1) (ci := 1) (v := .ref a1) (C := RX1) (T := TX1) (N := 7) hx hb hts kX1_addPass_1 hown hK hP 0 rfl rfl 1 (by decide) (hts _ kX1_addPass_2) (fun _ h9 => h9) rfl dX1_addPass_12 ?_
    refine lv_aload_n hx hb dX1_addPass_15 rfl (lv_at hl 0 rfl) ?_
    refine va_get (D := G.1) (ci := 1) (v := .int (nI np)) (C := RX1) (T := TX1) (N := 7) hx hb hts kX1_addPass_1 hown hK hP 0 rfl rfl 6 (by decide) (hts _ kX1_addPass_0) (fun _ h9 => h9) rfl dX1_addPass_16 ?_
    refine lv_iload_n hx hb dX1_addPass_19 rfl (lv_at hl 1 rfl) ?_
    refine kr_iast (k := np) (g := (kI (va_up fs np x))) hx hb hK hP hD hS 1 0 rfl rfl (by omega) (by decide) (kI_up fs np x) dX1_addPass_20 (fun H locs hP hD hS => ?_)
    have hP : va_P G.1 vwCl [(hL, .inr (1, [.ref a0, .ref a1, .ref a2, .ref a3, .ref a4, .int (nI nh), .int (nI np)])), (a1, .inl (G.2 0, 20, .inl (kI (va_up fs np x)))), (a2, .inl (G.2 0, 20, .inl (kI sn))), (a3, .inl (G.2 0, 20, .inl (kI ln))), (a4, .inl (G.2 1, 20, .inl (kB op)))] H := hP
    have hD : va_D A [(hL, .inr (1, [.ref a0, .ref a1, .ref a2, .ref a3, .ref a4, .int (nI nh), .int (nI np)])), (a1, .inl (G.2 0, 20, .inl (kI (va_up fs np x)))), (a2, .inl (G.2 0, 20, .inl (kI sn))), (a3, .inl (G.2 0, 20, .inl (kI ln))), (a4, .inl (G.2 1, 20, .inl (kB op)))] := hD
    refine lv_aload_n hx hb dX1_addPass_21 rfl (lv_at hl 0 rfl) ?_
    refine va_get (D := G.1) (ci := 1) (v := .ref a2) (C := RX1) (T := TX1) (N := 7) hx hb hts kX1_addPass_1 hown hK hP 0 rfl rfl 2 (by decide) (hts _ kX1_addPass_3) (fun _ h9 => h9) rfl dX1_addPass_22 ?_
    refine lv_aload_n hx hb dX1_addPass_25 rfl (lv_at hl 0 rfl) ?_
    refine va_get (D := G.1) (ci := 1) (v := .int (nI np)) (C := RX1) (T := TX1) (N := 7) hx hb hts kX1_addPass_1 hown hK hP 0 rfl rfl 6 (by decide) (hts _ kX1_addPass_0) (fun _ h9 => h9) rfl dX1_addPass_26 ?_
    refine lv_iload_n hx hb dX1_addPass_29 rfl (lv_at hl 2 rfl) ?_
    refine kr_iast (k := np) (g := (kI (va_up sn np y))) hx hb hK hP hD hS 2 0 rfl rfl (by omega) (by decide) (kI_up sn np y) dX1_addPass_30 (fun H locs hP hD hS => ?_)
    have hP : va_P G.1 vwCl [(hL, .inr (1, [.ref a0, .ref a1, .ref a2, .ref a3, .ref a4, .int (nI nh), .int (nI np)])), (a1, .inl (G.2 0, 20, .inl (kI (va_up fs np x)))), (a2, .inl (G.2 0, 20, .inl (kI (va_up sn np y)))), (a3, .inl (G.2 0, 20, .inl (kI ln))), (a4, .inl (G.2 1, 20, .inl (kB op)))] H := hP
    have hD : va_D A [(hL, .inr (1, [.ref a0, .ref a1, .ref a2, .ref a3, .ref a4, .int (nI nh), .int (nI np)])), (a1, .inl (G.2 0, 20, .inl (kI (va_up fs np x)))), (a2, .inl (G.2 0, 20, .inl (kI (va_up sn np y)))), (a3, .inl (G.2 0, 20, .inl (kI ln))), (a4, .inl (G.2 1, 20, .inl (kB op)))] := hD
    refine lv_aload_n hx hb dX1_addPass_31 rfl (lv_at hl 0 rfl) ?_
    refine va_get (D := G.1) (ci := 1) (v := .ref a3) (C := RX1) (T := TX1) (N := 7) hx hb hts kX1_addPass_1 hown hK hP 0 rfl rfl 3 (by decide) (hts _ kX1_addPass_4) (fun _ h9 => h9) rfl dX1_addPass_32 ?_
    refine lv_aload_n hx hb dX1_addPass_35 rfl (lv_at hl 0 rfl) ?_
    refine va_get (D := G.1) (ci := 1) (v := .int (nI np)) (C := RX1) (T := TX1) (N := 7) hx hb hts kX1_addPass_1 hown hK hP 0 rfl rfl 6 (by decide) (hts _ kX1_addPass_0) (fun _ h9 => h9) rfl dX1_addPass_36 ?_
    refine lv_iload_n hx hb dX1_addPass_39 rfl (lv_at hl 3 rfl) ?_
    refine kr_iast (k := np) (g := (kI (va_up ln np z))) hx hb hK hP hD hS 3 0 rfl rfl (by omega) (by decide) (kI_up ln np z) dX1_addPass_40 (fun H locs hP hD hS => ?_)
    have hP : va_P G.1 vwCl [(hL, .inr (1, [.ref a0, .ref a1, .ref a2, .ref a3, .ref a4, .int (nI nh), .int (nI np)])), (a1, .inl (G.2 0, 20, .inl (kI (va_up fs np x)))), (a2, .inl (G.2 0, 20, .inl (kI (va_up sn np y)))), (a3, .inl (G.2 0, 20, .inl (kI (va_up ln np z)))), (a4, .inl (G.2 1, 20, .inl (kB op)))] H := hP
    have hD : va_D A [(hL, .inr (1, [.ref a0, .ref a1, .ref a2, .ref a3, .ref a4, .int (nI nh), .int (nI np)])), (a1, .inl (G.2 0, 20, .inl (kI (va_up fs np x)))), (a2, .inl (G.2 0, 20, .inl (kI (va_up sn np y)))), (a3, .inl (G.2 0, 20, .inl (kI (va_up ln np z)))), (a4, .inl (G.2 1, 20, .inl (kB op)))] := hD
    refine lv_aload_n hx hb dX1_addPass_41 rfl (lv_at hl 0 rfl) ?_
    refine va_get (D := G.1) (ci := 1) (v := .ref a4) (C := RX1) (T := TX1) (N := 7) hx hb hts kX1_addPass_1 hown hK hP 0 rfl rfl 4 (by decide) (hts _ kX1_addPass_5) (fun _ h9 => h9) rfl dX1_addPass_42 ?_
    refine lv_aload_n hx hb dX1_addPass_45 rfl (lv_at hl 0 rfl) ?_
    refine va_get (D := G.1) (ci := 1) (v := .int (nI np)) (C := RX1) (T := TX1) (N := 7) hx hb hts kX1_addPass_1 hown hK hP 0 rfl rfl 6 (by decide) (hts _ kX1_addPass_0) (fun _ h9 => h9) rfl dX1_addPass_46 ?_
    refine lv_iconst (v := (nI 1)) hx hb dX1_addPass_49 (by decide) ?_
    refine kr_zast (k := np) (g := (kB (va_up op np true))) hx hb hK hP hD hS 4 1 rfl rfl (by omega) (by decide) (kB_up op np true) dX1_addPass_50 (fun H locs hP hD hS => ?_)
    have hP : va_P G.1 vwCl [(hL, .inr (1, [.ref a0, .ref a1, .ref a2, .ref a3, .ref a4, .int (nI nh), .int (nI np)])), (a1, .inl (G.2 0, 20, .inl (kI (va_up fs np x)))), (a2, .inl (G.2 0, 20, .inl (kI (va_up sn np y)))), (a3, .inl (G.2 0, 20, .inl (kI (va_up ln np z)))), (a4, .inl (G.2 1, 20, .inl (kB (va_up op np true))))] H := hP
    have hD : va_D A [(hL, .inr (1, [.ref a0, .ref a1, .ref a2, .ref a3, .ref a4, .int (nI nh), .int (nI np)])), (a1, .inl (G.2 0, 20, .inl (kI (va_up fs np x)))), (a2, .inl (G.2 0, 20, .inl (kI (va_up sn np y)))), (a3, .inl (G.2 0, 20, .inl (kI (va_up ln np z)))), (a4, .inl (G.2 1, 20, .inl (kB (va_up op np true))))] := hD
    refine lv_aload_n hx hb dX1_addPass_51 rfl (lv_at hl 0 rfl) ?_
    refine lv_dup hx hb dX1_addPass_52 rfl ?_
    refine va_get (D := G.1) (ci := 1) (v := .int (nI np)) (C := RX1) (T := TX1) (N := 7) hx hb hts kX1_addPass_1 hown hK hP 0 rfl rfl 6 (by decide) (hts _ kX1_addPass_0) (fun _ h9 => h9) rfl dX1_addPass_53 ?_
    refine lv_iconst (v := (nI 1)) hx hb dX1_addPass_56 (by decide) ?_
    refine lv_iadd hx hb dX1_addPass_57 ?_
    refine kr_top (y := nI (np + 1)) (nI_add np 1) ?_
    refine va_put (D := G.1) (ci := 1) (v := .int (nI (np + 1))) (ty := .int) (C := RX1) (T := TX1) (N := 7) hx hb hts kX1_addPass_1 tyX1 tyX1_ok nmX1 hown hK hP hD hS 0 rfl rfl 6 (by decide) (hts _ kX1_addPass_0) (fun _ h9 => h9) rfl (by decide +kernel) rfl rfl (Nat.le_of_ble_eq_true rfl) dX1_addPass_58 (fun H locs hP hD hS => ?_)
    have hP : va_P G.1 vwCl [(hL, .inr (1, [.ref a0, .ref a1, .ref a2, .ref a3, .ref a4, .int (nI nh), .int (nI (np + 1))])), (a1, .inl (G.2 0, 20, .inl (kI (va_up fs np x)))), (a2, .inl (G.2 0, 20, .inl (kI (va_up sn np y)))), (a3, .inl (G.2 0, 20, .inl (kI (va_up ln np z)))), (a4, .inl (G.2 1, 20, .inl (kB (va_up op np true))))] H := hP
    have hD : va_D A [(hL, .inr (1, [.ref a0, .ref a1, .ref a2, .ref a3, .ref a4, .int (nI nh), .int (nI (np + 1))])), (a1, .inl (G.2 0, 20, .inl (kI (va_up fs np x)))), (a2, .inl (G.2 0, 20, .inl (kI (va_up sn np y)))), (a3, .inl (G.2 0, 20, .inl (kI (va_up ln np z)))), (a4, .inl (G.2 1, 20, .inl (kB (va_up op np true))))] := hD
    refine lv_aload_n hx hb dX1_addPass_61 rfl (lv_at hl 0 rfl) ?_
    refine va_get (D := G.1) (ci := 1) (v := .int (nI (np + 1))) (C := RX1) (T := TX1) (N := 7) hx hb hts kX1_addPass_1 hown hK hP 0 rfl rfl 6 (by decide) (hts _ kX1_addPass_0) (fun _ h9 => h9) rfl dX1_addPass_62 ?_
    refine lv_iconst (v := (nI 1)) hx hb dX1_addPass_65 (by decide) ?_
    refine lv_isub hx hb dX1_addPass_66 ?_
    refine kr_top (y := (nI np)) (kn_sub rfl) ?_
    have hP9 := hP.sub (ws' := [(hL, .inr (1, [.ref a0, .ref a1, .ref a2, .ref a3, .ref a4, .int (nI nh), .int (nI (np + 1))])), (a1, .inl (G.2 0, 20, .inl (kI (va_up fs np x)))), (a2, .inl (G.2 0, 20, .inl (kI (va_up sn np y)))), (a3, .inl (G.2 0, 20, .inl (kI (va_up ln np z)))), (a4, .inl (G.2 1, 20, .inl (kB (va_up op np true))))]) [0, 1, 2, 3, 4] rfl
    have hD9 := hD.sub (ws' := [(hL, .inr (1, [.ref a0, .ref a1, .ref a2, .ref a3, .ref a4, .int (nI nh), .int (nI (np + 1))])), (a1, .inl (G.2 0, 20, .inl (kI (va_up fs np x)))), (a2, .inl (G.2 0, 20, .inl (kI (va_up sn np y)))), (a3, .inl (G.2 0, 20, .inl (kI (va_up ln np z)))), (a4, .inl (G.2 1, 20, .inl (kB (va_up op np true))))]) [0, 1, 2, 3, 4] (by decide) rfl
    exact km_iret (v := (nI np)) (post := fun (r : Int32) (u : Unit) => r = (nI np)) (wo := fun (u : Unit) => [(hL, .inr (1, [.ref a0, .ref a1, .ref a2, .ref a3, .ref a4, .int (nI nh), .int (nI (np + 1))])), (a1, .inl (G.2 0, 20, .inl (kI (va_up fs np x)))), (a2, .inl (G.2 0, 20, .inl (kI (va_up sn np y)))), (a3, .inl (G.2 0, 20, .inl (kI (va_up ln np z)))), (a4, .inl (G.2 1, 20, .inl (kB (va_up op np true))))]) () hx hb hr hlocks hS hP9 hD9 (rfl) dX1_addPass_67
  · exfalso; omega

theorem kX1_changeLength_0 : Cond.fieldLink RX1 21 "PassNotes$Land" "lengths" "[I" ∈ wsX1_changeLength := by decide +kernel
theorem kX1_changeLength_1 : ∀ w ∈ wsX10, w ∈ wsX1_changeLength := by decide +kernel
set_option maxHeartbeats 4000000 in
set_option maxRecDepth 100000 in
theorem c_X1_changeLength (l : Launch) (G : kG) (sz : Nat) (hL a0 a1 a2 a3 a4 : Nat) (nh np : Nat) (ln : Nat → Nat) (q x : Nat) (hq : q < 20) : Met l yX1_changeLength wsX1_changeLength ({ frames := 0, cells := 0, slots := 0, locals := 0 }) (kPreM G [(hL, .inr (1, [.ref a0, .ref a1, .ref a2, .ref a3, .ref a4, .int (nI nh), .int (nI np)])), (a3, .inl (G.2 0, 20, .inl (kI ln)))] sz [.ref hL, .int (nI q), .int (nI x)]) (va_Qi (fun (r : Int32) (u : Unit) => r = (nI (ln q))) (fun (u : Unit) t => kA G (va_A [(hL, .inr (1, [.ref a0, .ref a1, .ref a2, .ref a3, .ref a4, .int (nI nh), .int (nI np)])), (a3, .inl (G.2 0, 20, .inl (kI ln)))] sz) [(hL, .inr (1, [.ref a0, .ref a1, .ref a2, .ref a3, .ref a4, .int (nI nh), .int (nI np)])), (a3, .inl (G.2 0, 20, .inl (kI (va_up ln q x))))] t) (va_A [(hL, .inr (1, [.ref a0, .ref a1, .ref a2, .ref a3, .ref a4, .int (nI nh), .int (nI np)])), (a3, .inl (G.2 0, 20, .inl (kI ln)))] sz)) 0 0 (va_A [(hL, .inr (1, [.ref a0, .ref a1, .ref a2, .ref a3, .ref a4, .int (nI nh), .int (nI np)])), (a3, .inl (G.2 0, 20, .inl (kI ln)))] sz) := by
  refine Met.ofW (cc := cX1_changeLength) (maxL := 4) (ret := (some .int)) (by decide) rfl ?_
  intro p e s m args below meth c s₁ B hml hv
  obtain ⟨rfl, hsz, hP, hK, hD0⟩ := hv
  have hx := B.exec
  have hb := B.bytes
  have hr := B.returns
  have hts := atoms_spec (ws := wsX1_changeLength) B.pre
  have hown : s.vm.findClass RX1 = some m.cls := findClass_of_methodNamed B.named
  have hlocks := B.notSynchronized
  have hK : va_K G.1 vwCl (kT G) s := hK
  subst hsz
  have hD := hD0.self (sz := s.heap.size)
  generalize hAe : va_A [(hL, .inr (1, [.ref a0, .ref a1, .ref a2, .ref a3, .ref a4, .int (nI nh), .int (nI np)])), (a3, .inl (G.2 0, 20, .inl (kI ln)))] s.heap.size = A at hD ⊢
  have hA : ∀ q : Nat, s.heap.size ≤ q → A q := fun q h => by rw [← hAe]; exact Or.inr h
  have hS : va_S A s.heap s.heap [] := va_S.rf
  have hP : va_P G.1 vwCl [(hL, .inr (1, [.ref a0, .ref a1, .ref a2, .ref a3, .ref a4, .int (nI nh), .int (nI np)])), (a3, .inl (G.2 0, 20, .inl (kI ln)))] s.heap := hP
  have hl := lv_entry ([.ref hL, .int (nI q), .int (nI x)]) (n := 4) (Nat.le_of_ble_eq_true rfl)
  rw [lg_entry_eq]
  generalize (lg_sl ([.ref hL, .int (nI q), .int (nI x)]) ++ List.replicate (4 - (lg_sl ([.ref hL, .int (nI q), .int (nI x)])).length) Slot.unset).toArray = ls at hl ⊢
  have hl : lv_has ls 4 [(0, .ref hL), (1, .int (nI q)), (2, .int (nI x))] := hl
  refine lv_aload_n hx hb dX1_changeLength_0 rfl (lv_at hl 0 rfl) ?_
  refine va_get (D := G.1) (ci := 1) (v := .ref a3) (C := RX1) (T := TX1) (N := 7) hx hb hts kX1_changeLength_1 hown hK hP 0 rfl rfl 3 (by decide) (hts _ kX1_changeLength_0) (fun _ h9 => h9) rfl dX1_changeLength_1 ?_
  refine lv_iload_n hx hb dX1_changeLength_4 rfl (lv_at hl 1 rfl) ?_
  refine kr_iald (k := q) (v := (nI (ln q))) hx hb hK hP 1 0 rfl rfl (by omega) (by decide) rfl dX1_changeLength_5 ?_
  refine lv_istore_n (lv' := [(3, .int (nI (ln q))), (0, .ref hL), (1, .int (nI q)), (2, .int (nI x))]) hx hb dX1_changeLength_6 rfl hl (by decide) rfl (fun ls hl => ?_)
  refine lv_aload_n hx hb dX1_changeLength_7 rfl (lv_at hl 1 rfl) ?_
  refine va_get (D := G.1) (ci := 1) (v := .ref a3) (C := RX1) (T := TX1) (N := 7) hx hb hts kX1_changeLength_1 hown hK hP 0 rfl rfl 3 (by decide) (hts _ kX1_changeLength_0) (fun _ h9 => h9) rfl dX1_changeLength_8 ?_
  refine lv_iload_n hx hb dX1_changeLength_11 rfl (lv_at hl 2 rfl) ?_
  refine lv_iload_n hx hb dX1_changeLength_12 rfl (lv_at hl 3 rfl) ?_
  refine kr_iast (k := q) (g := (kI (va_up ln q x))) hx hb hK hP hD hS 1 0 rfl rfl (by omega) (by decide) (kI_up ln q x) dX1_changeLength_13 (fun H locs hP hD hS => ?_)
  have hP : va_P G.1 vwCl [(hL, .inr (1, [.ref a0, .ref a1, .ref a2, .ref a3, .ref a4, .int (nI nh), .int (nI np)])), (a3, .inl (G.2 0, 20, .inl (kI (va_up ln q x))))] H := hP
  have hD : va_D A [(hL, .inr (1, [.ref a0, .ref a1, .ref a2, .ref a3, .ref a4, .int (nI nh), .int (nI np)])), (a3, .inl (G.2 0, 20, .inl (kI (va_up ln q x))))] := hD
  refine lv_iload_n hx hb dX1_changeLength_14 rfl (lv_at hl 0 rfl) ?_
  have hP9 := hP.sub (ws' := [(hL, .inr (1, [.ref a0, .ref a1, .ref a2, .ref a3, .ref a4, .int (nI nh), .int (nI np)])), (a3, .inl (G.2 0, 20, .inl (kI (va_up ln q x))))]) [0, 1] rfl
  have hD9 := hD.sub (ws' := [(hL, .inr (1, [.ref a0, .ref a1, .ref a2, .ref a3, .ref a4, .int (nI nh), .int (nI np)])), (a3, .inl (G.2 0, 20, .inl (kI (va_up ln q x))))]) [0, 1] (by decide) rfl
  exact km_iret (v := (nI (ln q))) (post := fun (r : Int32) (u : Unit) => r = (nI (ln q))) (wo := fun (u : Unit) => [(hL, .inr (1, [.ref a0, .ref a1, .ref a2, .ref a3, .ref a4, .int (nI nh), .int (nI np)])), (a3, .inl (G.2 0, 20, .inl (kI (va_up ln q x))))]) () hx hb hr hlocks hS hP9 hD9 (rfl) dX1_changeLength_15

theorem kX1_changeOpen_0 : Cond.fieldLink RX1 24 "PassNotes$Land" "opens" "[Z" ∈ wsX1_changeOpen := by decide +kernel
theorem kX1_changeOpen_1 : ∀ w ∈ wsX10, w ∈ wsX1_changeOpen := by decide +kernel
set_option maxHeartbeats 4000000 in
set_option maxRecDepth 100000 in
theorem c_X1_changeOpen (l : Launch) (G : kG) (sz : Nat) (hL a0 a1 a2 a3 a4 : Nat) (nh np : Nat) (op : Nat → Bool) (q : Nat) (x : Bool) (hq : q < 20) : Met l yX1_changeOpen wsX1_changeOpen ({ frames := 0, cells := 0, slots := 0, locals := 0 }) (kPreM G [(hL, .inr (1, [.ref a0, .ref a1, .ref a2, .ref a3, .ref a4, .int (nI nh), .int (nI np)])), (a4, .inl (G.2 1, 20, .inl (kB op)))] sz [.ref hL, .int (nI q), .int (bI x)]) (va_Qi (fun (r : Int32) (u : Unit) => r = (bI (op q))) (fun (u : Unit) t => kA G (va_A [(hL, .inr (1, [.ref a0, .ref a1, .ref a2, .ref a3, .ref a4, .int (nI nh), .int (nI np)])), (a4, .inl (G.2 1, 20, .inl (kB op)))] sz) [(hL, .inr (1, [.ref a0, .ref a1, .ref a2, .ref a3, .ref a4, .int (nI nh), .int (nI np)])), (a4, .inl (G.2 1, 20, .inl (kB (va_up op q x))))] t) (va_A [(hL, .inr (1, [.ref a0, .ref a1, .ref a2, .ref a3, .ref a4, .int (nI nh), .int (nI np)])), (a4, .inl (G.2 1, 20, .inl (kB op)))] sz)) 0 0 (va_A [(hL, .inr (1, [.ref a0, .ref a1, .ref a2, .ref a3, .ref a4, .int (nI nh), .int (nI np)])), (a4, .inl (G.2 1, 20, .inl (kB op)))] sz) := by
  refine Met.ofW (cc := cX1_changeOpen) (maxL := 4) (ret := (some .boolean)) (by decide) rfl ?_
  intro p e s m args below meth c s₁ B hml hv
  obtain ⟨rfl, hsz, hP, hK, hD0⟩ := hv
  have hx := B.exec
  have hb := B.bytes
  have hr := B.returns
  have hts := atoms_spec (ws := wsX1_changeOpen) B.pre
  have hown : s.vm.findClass RX1 = some m.cls := findClass_of_methodNamed B.named
  have hlocks := B.notSynchronized
  have hK : va_K G.1 vwCl (kT G) s := hK
  subst hsz
  have hD := hD0.self (sz := s.heap.size)
  generalize hAe : va_A [(hL, .inr (1, [.ref a0, .ref a1, .ref a2, .ref a3, .ref a4, .int (nI nh), .int (nI np)])), (a4, .inl (G.2 1, 20, .inl (kB op)))] s.heap.size = A at hD ⊢
  have hA : ∀ q : Nat, s.heap.size ≤ q → A q := fun q h => by rw [← hAe]; exact Or.inr h
  have hS : va_S A s.heap s.heap [] := va_S.rf
  have hP : va_P G.1 vwCl [(hL, .inr (1, [.ref a0, .ref a1, .ref a2, .ref a3, .ref a4, .int (nI nh), .int (nI np)])), (a4, .inl (G.2 1, 20, .inl (kB op)))] s.heap := hP
  have hl := lv_entry ([.ref hL, .int (nI q), .int (bI x)]) (n := 4) (Nat.le_of_ble_eq_true rfl)
  rw [lg_entry_eq]
  generalize (lg_sl ([.ref hL, .int (nI q), .int (bI x)]) ++ List.replicate (4 - (lg_sl ([.ref hL, .int (nI q), .int (bI x)])).length) Slot.unset).toArray = ls at hl ⊢
  have hl : lv_has ls 4 [(0, .ref hL), (1, .int (nI q)), (2, .int (bI x))] := hl
  refine lv_aload_n hx hb dX1_changeOpen_0 rfl (lv_at hl 0 rfl) ?_
  refine va_get (D := G.1) (ci := 1) (v := .ref a4) (C := RX1) (T := TX1) (N := 7) hx hb hts kX1_changeOpen_1 hown hK hP 0 rfl rfl 4 (by decide) (hts _ kX1_changeOpen_0) (fun _ h9 => h9) rfl dX1_changeOpen_1 ?_
  refine lv_iload_n hx hb dX1_changeOpen_4 rfl (lv_at hl 1 rfl) ?_
  refine kr_zald (k := q) (v := (bI (op q))) hx hb hK hP 1 1 rfl rfl (by omega) (by decide) rfl dX1_changeOpen_5 ?_
  refine lv_istore_n (lv' := [(3, .int (bI (op q))), (0, .ref hL), (1, .int (nI q)), (2, .int (bI x))]) hx hb dX1_changeOpen_6 rfl hl (by decide) rfl (fun ls hl => ?_)
  refine lv_aload_n hx hb dX1_changeOpen_7 rfl (lv_at hl 1 rfl) ?_
  refine va_get (D := G.1) (ci := 1) (v := .ref a4) (C := RX1) (T := TX1) (N := 7) hx hb hts kX1_changeOpen_1 hown hK hP 0 rfl rfl 4 (by decide) (hts _ kX1_changeOpen_0) (fun _ h9 => h9) rfl dX1_changeOpen_8 ?_
  refine lv_iload_n hx hb dX1_changeOpen_11 rfl (lv_at hl 2 rfl) ?_
  refine lv_iload_n hx hb dX1_changeOpen_12 rfl (lv_at hl 3 rfl) ?_
  refine kr_zast (k := q) (g := (kB (va_up op q x))) hx hb hK hP hD hS 1 1 rfl rfl (by omega) (by decide) (kB_up op q x) dX1_changeOpen_13 (fun H locs hP hD hS => ?_)
  have hP : va_P G.1 vwCl [(hL, .inr (1, [.ref a0, .ref a1, .ref a2, .ref a3, .ref a4, .int (nI nh), .int (nI np)])), (a4, .inl (G.2 1, 20, .inl (kB (va_up op q x))))] H := hP
  have hD : va_D A [(hL, .inr (1, [.ref a0, .ref a1, .ref a2, .ref a3, .ref a4, .int (nI nh), .int (nI np)])), (a4, .inl (G.2 1, 20, .inl (kB (va_up op q x))))] := hD
  refine lv_iload_n hx hb dX1_changeOpen_14 rfl (lv_at hl 0 rfl) ?_
  have hP9 := hP.sub (ws' := [(hL, .inr (1, [.ref a0, .ref a1, .ref a2, .ref a3, .ref a4, .int (nI nh), .int (nI np)])), (a4, .inl (G.2 1, 20, .inl (kB (va_up op q x))))]) [0, 1] rfl
  have hD9 := hD.sub (ws' := [(hL, .inr (1, [.ref a0, .ref a1, .ref a2, .ref a3, .ref a4, .int (nI nh), .int (nI np)])), (a4, .inl (G.2 1, 20, .inl (kB (va_up op q x))))]) [0, 1] (by decide) rfl
  exact km_zret (v := (bI (op q))) (post := fun (r : Int32) (u : Unit) => r = (bI (op q))) (wo := fun (u : Unit) => [(hL, .inr (1, [.ref a0, .ref a1, .ref a2, .ref a3, .ref a4, .int (nI nh), .int (nI np)])), (a4, .inl (G.2 1, 20, .inl (kB (va_up op q x))))]) () hx hb hr hlocks (bI_nar _) hS hP9 hD9 (rfl) dX1_changeOpen_15
