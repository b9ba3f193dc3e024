theorem kX3_number_0 : Cond.fieldLink RX3 15 "PassNotes$Sheet" "number" "I" ∈ wsX3_number := by decide +kernel
theorem kX3_number_1 : ∀ w ∈ wsX30, w ∈ wsX3_number := by decide +kernel
set_option maxHeartbeats 4000000 in
set_option maxRecDepth 100000 in
theorem c_X3_number (l : Launch) (G : kG) (y num wr ly : Nat)   : Met l yX3_number wsX3_number ({ frames := 0, cells := 0, slots := 0, locals := 0 }) (kPre G [(y, .inr (3, [.int (nI num), .int (nI wr), .ref ly]))] [.ref y]) (vp_Si (fun r : Int32 => r = (nI num))) 0 0 (fun _ => False) := by
  refine Met.ofW (cc := cX3_number) (maxL := 1) (ret := (some .int)) (by decide) rfl ?_
  intro p e s m args below meth c s₁ B hml hv
  obtain ⟨rfl, hP, hK⟩ := hv
  have hx := B.exec
  have hb := B.bytes
  have hr := B.returns
  have hts := atoms_spec (ws := wsX3_number) B.pre
  have hown : s.vm.findClass RX3 = some m.cls := findClass_of_methodNamed B.named
  have hlocks := B.notSynchronized
  have hK : va_K G.1 vwCl (kT G) s := hK
  have hP : va_P G.1 vwCl [(y, .inr (3, [.int (nI num), .int (nI wr), .ref ly]))] s.heap := hP
  have hl := lv_entry ([.ref y]) (n := 1) (Nat.le_of_ble_eq_true rfl)
  rw [lg_entry_eq]
  generalize (lg_sl ([.ref y]) ++ List.replicate (1 - (lg_sl ([.ref y])).length) Slot.unset).toArray = ls at hl ⊢
  have hl : lv_has ls 1 [(0, .ref y)] := hl
  refine lv_aload_n hx hb dX3_number_0 rfl (lv_at hl 0 rfl) ?_
  refine va_get (D := G.1) (ci := 3) (v := .int (nI num)) (C := RX3) (T := TX3) (N := 3) hx hb hts kX3_number_1 hown hK hP 0 rfl rfl 0 (by decide) (hts _ kX3_number_0) (fun _ h9 => h9) rfl dX3_number_1 ?_
  exact kr_iret hx hb hr hlocks (rfl) dX3_number_4

theorem kX3_age_0 : Cond.fieldLink RX3 19 "PassNotes$Sheet" "written" "I" ∈ wsX3_age := by decide +kernel
theorem kX3_age_1 : ∀ w ∈ wsX30, w ∈ wsX3_age := by decide +kernel
set_option maxHeartbeats 4000000 in
set_option maxRecDepth 100000 in
theorem c_X3_age (l : Launch) (G : kG) (y num wr ly : Nat) (mi : Nat) (hw : wr ≤ mi) : Met l yX3_age wsX3_age ({ frames := 0, cells := 0, slots := 0, locals := 0 }) (kPre G [(y, .inr (3, [.int (nI num), .int (nI wr), .ref ly]))] [.ref y, .int (nI mi)]) (vp_Si (fun r : Int32 => r = (nI (mi - wr)))) 0 0 (fun _ => False) := by
  refine Met.ofW (cc := cX3_age) (maxL := 2) (ret := (some .int)) (by decide) rfl ?_
  intro p e s m args below meth c s₁ B hml hv
  obtain ⟨rfl, hP, hK⟩ := hv
  have hx := B.exec
  have hb := B.bytes
  have hr := B.returns
  have hts := atoms_spec (ws := wsX3_age) B.pre
  have hown : s.vm.findClass RX3 = some m.cls := findClass_of_methodNamed B.named
  have hlocks := B.notSynchronized
  have hK : va_K G.1 vwCl (kT G) s := hK
  have hP : va_P G.1 vwCl [(y, .inr (3, [.int (nI num), .int (nI wr), .ref ly]))] s.heap := hP
  have hl := lv_entry ([.ref y, .int (nI mi)]) (n := 2) (Nat.le_of_ble_eq_true rfl)
  rw [lg_entry_eq]
  generalize (lg_sl ([.ref y, .int (nI mi)]) ++ List.replicate (2 - (lg_sl ([.ref y, .int (nI mi)])).length) Slot.unset).toArray = ls at hl ⊢
  have hl : lv_has ls 2 [(0, .ref y), (1, .int (nI mi))] := hl
  refine lv_iload_n hx hb dX3_age_0 rfl (lv_at hl 1 rfl) ?_
  refine lv_aload_n hx hb dX3_age_1 rfl (lv_at hl 0 rfl) ?_
  refine va_get (D := G.1) (ci := 3) (v := .int (nI wr)) (C := RX3) (T := TX3) (N := 3) hx hb hts kX3_age_1 hown hK hP 0 rfl rfl 1 (by decide) (hts _ kX3_age_0) (fun _ h9 => h9) rfl dX3_age_2 ?_
  refine lv_isub hx hb dX3_age_5 ?_
  refine kr_top (y := nI (mi - wr)) (pk_sub (by omega)) ?_
  exact kr_iret hx hb hr hlocks (rfl) dX3_age_6

theorem kX3_length_0 : Cond.fieldLink RX3 9 "PassNotes$Sheet" "lengths" "[I" ∈ wsX3_length := by decide +kernel
theorem kX3_length_1 : ∀ w ∈ wsX30, w ∈ wsX3_length := by decide +kernel
set_option maxHeartbeats 4000000 in
set_option maxRecDepth 100000 in
theorem c_X3_length (l : Launch) (G : kG) (y num wr ly : Nat) (len : Nat → Nat) (q : Nat) (hq : q < 20) : Met l yX3_length wsX3_length ({ frames := 0, cells := 0, slots := 0, locals := 0 }) (kPre G [(y, .inr (3, [.int (nI num), .int (nI wr), .ref ly])), (ly, .inl (G.2 0, 20, .inl (kI len)))] [.ref y, .int (nI q)]) (vp_Si (fun r : Int32 => r = (nI (len q)))) 0 0 (fun _ => False) := by
  refine Met.ofW (cc := cX3_length) (maxL := 2) (ret := (some .int)) (by decide) rfl ?_
  intro p e s m args below meth c s₁ B hml hv
  obtain ⟨rfl, hP, hK⟩ := hv
  have hx := B.exec
  have hb := B.bytes
  have hr := B.returns
  have hts := atoms_spec (ws := wsX3_length) B.pre
  have hown : s.vm.findClass RX3 = some m.cls := findClass_of_methodNamed B.named
  have hlocks := B.notSynchronized
  have hK : va_K G.1 vwCl (kT G) s := hK
  have hP : va_P G.1 vwCl [(y, .inr (3, [.int (nI num), .int (nI wr), .ref ly])), (ly, .inl (G.2 0, 20, .inl (kI len)))] s.heap := hP
  have hl := lv_entry ([.ref y, .int (nI q)]) (n := 2) (Nat.le_of_ble_eq_true rfl)
  rw [lg_entry_eq]
  generalize (lg_sl ([.ref y, .int (nI q)]) ++ List.replicate (2 - (lg_sl ([.ref y, .int (nI q)])).length) Slot.unset).toArray = ls at hl ⊢
  have hl : lv_has ls 2 [(0, .ref y), (1, .int (nI q))] := hl
  refine lv_aload_n hx hb dX3_length_0 rfl (lv_at hl 0 rfl) ?_
  refine va_get (D := G.1) (ci := 3) (v := .ref ly) (C := RX3) (T := TX3) (N := 3) hx hb hts kX3_length_1 hown hK hP 0 rfl rfl 2 (by decide) (hts _ kX3_length_0) (fun _ h9 => h9) rfl dX3_length_1 ?_
  refine lv_iload_n hx hb dX3_length_4 rfl (lv_at hl 1 rfl) ?_
  refine kr_iald (k := q) (v := (nI (len q))) hx hb hK hP 1 0 rfl rfl (by omega) (by decide) rfl dX3_length_5 ?_
  exact kr_iret hx hb hr hlocks (rfl) dX3_length_6

theorem kX3_tells_0 : Cond.fieldLink RX3 9 "PassNotes$Sheet" "lengths" "[I" ∈ wsX3_tells := by decide +kernel
theorem kX3_tells_1 : ∀ w ∈ wsX30, w ∈ wsX3_tells := by decide +kernel
set_option maxHeartbeats 4000000 in
set_option maxRecDepth 100000 in
theorem c_X3_tells (l : Launch) (G : kG) (y num wr ly : Nat) (len : Nat → Nat) (q : Nat) (hq : q < 20) (hlen : ∀ j, len j < 100) : Met l yX3_tells wsX3_tells ({ frames := 0, cells := 0, slots := 0, locals := 0 }) (kPre G [(y, .inr (3, [.int (nI num), .int (nI wr), .ref ly])), (ly, .inl (G.2 0, 20, .inl (kI len)))] [.ref y, .int (nI q)]) (vp_Si (fun r : Int32 => r = (bI (decide (0 < len q))))) 0 0 (fun _ => False) := by
  refine Met.ofW (cc := cX3_tells) (maxL := 2) (ret := (some .boolean)) (by decide) rfl ?_
  intro p e s m args below meth c s₁ B hml hv
  obtain ⟨rfl, hP, hK⟩ := hv
  have hx := B.exec
  have hb := B.bytes
  have hr := B.returns
  have hts := atoms_spec (ws := wsX3_tells) B.pre
  have hown : s.vm.findClass RX3 = some m.cls := findClass_of_methodNamed B.named
  have hlocks := B.notSynchronized
  have hK : va_K G.1 vwCl (kT G) s := hK
  have hP : va_P G.1 vwCl [(y, .inr (3, [.int (nI num), .int (nI wr), .ref ly])), (ly, .inl (G.2 0, 20, .inl (kI len)))] s.heap := hP
  have hl := lv_entry ([.ref y, .int (nI q)]) (n := 2) (Nat.le_of_ble_eq_true rfl)
  rw [lg_entry_eq]
  generalize (lg_sl ([.ref y, .int (nI q)]) ++ List.replicate (2 - (lg_sl ([.ref y, .int (nI q)])).length) Slot.unset).toArray = ls at hl ⊢
  have hl : lv_has ls 2 [(0, .ref y), (1, .int (nI q))] := hl
  refine lv_aload_n hx hb dX3_tells_0 rfl (lv_at hl 0 rfl) ?_
  refine va_get (D := G.1) (ci := 3) (v := .ref ly) (C := RX3) (T := TX3) (N := 3) hx hb hts kX3_tells_1 hown hK hP 0 rfl rfl 2 (by decide) (hts _ kX3_tells_0) (fun _ h9 => h9) rfl dX3_tells_1 ?_
  refine lv_iload_n hx hb dX3_tells_4 rfl (lv_at hl 1 rfl) ?_
  refine kr_iald (k := q) (v := (nI (len q))) hx hb hK hP 1 0 rfl rfl (by omega) (by decide) rfl dX3_tells_5 ?_
  refine kb_le0 (tgt := 13) hx hb dX3_tells_6 (by decide) (by exact Nat.lt_trans (hlen _) (by decide)) (fun c_1 => ?_) (fun c_1 => ?_)
  · refine lv_iconst (v := (nI 0)) hx hb dX3_tells_13 (by decide) ?_
    exact kr_zret hx hb hr hlocks rfl (by first | exact bI_one (by simp; omega) | exact bI_zero (by simp; omega)) dX3_tells_14
  · refine lv_iconst (v := (nI 1)) hx hb dX3_tells_9 (by decide) ?_
    refine lv_goto (tgt := 14) hx hb dX3_tells_10 (by decide) ?_
    exact kr_zret hx hb hr hlocks rfl (by first | exact bI_one (by simp; omega) | exact bI_zero (by simp; omega)) dX3_tells_14

theorem kX3_passesTold_0 : Cond.fieldLink RX3 9 "PassNotes$Sheet" "lengths" "[I" ∈ wsX3_passesTold := by decide +kernel
theorem kX3_passesTold_1 : ∀ w ∈ wsX30, w ∈ wsX3_passesTold := by decide +kernel
set_option maxHeartbeats 4000000 in
set_option maxRecDepth 100000 in
theorem c_X3_passesTold (l : Launch) (G : kG) (y num wr ly : Nat) (len : Nat → Nat) (hlen : ∀ j, len j < 100) : Met l yX3_passesTold wsX3_passesTold ({ frames := 1, cells := 0, slots := 0, locals := 21 }) (kPre G [(y, .inr (3, [.int (nI num), .int (nI wr), .ref ly])), (ly, .inl (G.2 0, 20, .inl (kI len)))] [.ref y]) (vp_Si (fun r : Int32 => r = (nI (mCnt (fun q => decide (0 < len q)) 20)))) 0 0 (fun _ => False) := by
  refine Met.ofW (cc := cX3_passesTold) (maxL := 3) (ret := (some .int)) (by decide) rfl ?_
  intro p e s m args below meth c s₁ B hml hv
  obtain ⟨rfl, hP, hK⟩ := hv
  have hx := B.exec
  have hb := B.bytes
  have hr := B.returns
  have hts := atoms_spec (ws := wsX3_passesTold) B.pre
  have hown : s.vm.findClass RX3 = some m.cls := findClass_of_methodNamed B.named
  have hlocks := B.notSynchronized
  have hK : va_K G.1 vwCl (kT G) s := hK
  have hP : va_P G.1 vwCl [(y, .inr (3, [.int (nI num), .int (nI wr), .ref ly])), (ly, .inl (G.2 0, 20, .inl (kI len)))] s.heap := hP
  have hl := lv_entry ([.ref y]) (n := 3) (Nat.le_of_ble_eq_true rfl)
  rw [lg_entry_eq]
  generalize (lg_sl ([.ref y]) ++ List.replicate (3 - (lg_sl ([.ref y])).length) Slot.unset).toArray = ls at hl ⊢
  have hl : lv_has ls 3 [(0, .ref y)] := hl
  refine lv_iconst (v := (nI 0)) hx hb dX3_passesTold_0 (by decide) ?_
  refine lv_istore_n (lv' := [(1, .int (nI 0)), (0, .ref y)]) hx hb dX3_passesTold_1 rfl hl (by decide) rfl (fun ls hl => ?_)
  refine lv_iconst (v := (nI 0)) hx hb dX3_passesTold_2 (by decide) ?_
  refine lv_istore_n (lv' := [(2, .int (nI 0)), (1, .int (nI 0)), (0, .ref y)]) hx hb dX3_passesTold_3 rfl hl (by decide) rfl (fun ls hl => ?_)
  have hc_4 : ∀ (n : Nat) (i k : Nat), 20 - i < n → i ≤ 20 → k = mCnt (fun q => decide (0 < len q)) i → ∀ (ls : Array Slot), lv_has ls 3 [(2, .int (nI i)), (1, .int (nI k)), (0, .ref y)] → W p l e (headSpec wsX3_passesTold ({ frames := 1, cells := 0, slots := 0, locals := 21 })).room s m [.ref y].toArray below meth c s.heap [] 0 0 (MQ below (vp_Si (fun r : Int32 => r = (nI (mCnt (fun q => decide (0 < len q)) 20)))) [.ref y].toArray s 0 0 (fun _ => False)) (F0 m 4 ls []) := by
    intro n
    induction n with
    | zero =>
      intro i k hmz; exact absurd hmz (Nat.not_lt_zero _)
    | succ n ih4 =>
      intro i k hmz hi hk ls hl
      refine lv_iload_n hx hb dX3_passesTold_4 rfl (lv_at hl 0 rfl) ?_
      refine lv_aload_n hx hb dX3_passesTold_5 rfl (lv_at hl 2 rfl) ?_
      refine va_get (D := G.1) (ci := 3) (v := .ref ly) (C := RX3) (T := TX3) (N := 3) hx hb hts kX3_passesTold_1 hown hK hP 0 rfl rfl 2 (by decide) (hts _ kX3_passesTold_0) (fun _ h9 => h9) rfl dX3_passesTold_6 ?_
      refine va_alen (v := nI 20) hx hb hK hP 1 0 rfl rfl rfl dX3_passesTold_9 ?_
      refine kb_ge (tgt := 30) hx hb dX3_passesTold_10 (by decide) (by omega) (by decide) (fun c_1 => ?_) (fun c_1 => ?_)
      · refine lv_iload_n hx hb dX3_passesTold_30 rfl (lv_at hl 1 rfl) ?_
        exact kr_iret hx hb hr hlocks (by rw [hk, show i = 20 by omega]) dX3_passesTold_31
      · refine lv_aload_n hx hb dX3_passesTold_13 rfl (lv_at hl 2 rfl) ?_
        refine lv_iload_n hx hb dX3_passesTold_14 rfl (lv_at hl 0 rfl) ?_
        refine vp_callSi (W.runV (As := [.int (nI i)]) (rest := []) ⟨hx, hb, hml, hown, hts⟩ (c_X3_tells l G y num wr ly len i (by omega) hlen) (cwV 1 hts gX3_passesTold_X3_tells rfl rfl rfl (by decide +kernel) ⟨Nat.le_of_ble_eq_true rfl, Nat.le_of_ble_eq_true rfl⟩) (kPre_V (ws := [(y, .inr (3, [.int (nI num), .int (nI wr), .ref ly])), (ly, .inl (G.2 0, 20, .inl (kI len)))]) hK (hP.sub (ws' := [(y, .inr (3, [.int (nI num), .int (nI wr), .ref ly])), (ly, .inl (G.2 0, 20, .inl (kI len)))]) [0, 1] rfl) (RX3, TX3, 3) 0 rfl rfl) rfl rfl hl.1 rfl (lv_room (Nat.le_of_ble_eq_true rfl)) dX3_passesTold_15 ⟨Nat.le_of_ble_eq_true rfl, Nat.le_of_ble_eq_true rfl⟩) (fun r_2 hr_2 => ?_)
        subst hr_2
        refine kb_eqb (tgt := 24) hx hb dX3_passesTold_18 (by decide) (fun c_3 => ?_) (fun c_3 => ?_)
        · refine lv_iinc (k := 0) (v := (nI (i + 1))) (lv' := [(2, .int (nI (i + 1))), (1, .int (nI k)), (0, .ref y)]) hx hb dX3_passesTold_24 hl rfl (kn_inc i) (by decide) rfl (fun ls hl => ?_)
          refine lv_goto (tgt := 4) hx hb dX3_passesTold_27 (by decide) ?_
          exact ih4 (i + 1) k (by omega) (by omega) (by rw [mCnt_succ, ← hk]; simp_all) _ (lv_sub hl [0, 1, 2] rfl)
        · refine lv_iinc (k := 1) (v := (nI (k + 1))) (lv' := [(1, .int (nI (k + 1))), (2, .int (nI i)), (0, .ref y)]) hx hb dX3_passesTold_21 hl rfl (kn_inc k) (by decide) rfl (fun ls hl => ?_)
          refine lv_iinc (k := 1) (v := (nI (i + 1))) (lv' := [(2, .int (nI (i + 1))), (1, .int (nI (k + 1))), (0, .ref y)]) hx hb dX3_passesTold_24 hl rfl (kn_inc i) (by decide) rfl (fun ls hl => ?_)
          refine lv_goto (tgt := 4) hx hb dX3_passesTold_27 (by decide) ?_
          exact ih4 (i + 1) (k + 1) (by omega) (by omega) (by rw [mCnt_succ, ← hk]; simp_all) _ (lv_sub hl [0, 1, 2] rfl)
  exact hc_4 (_ + 1) 0 0 (Nat.lt_succ_self _) (by omega) (by rfl) _ (lv_sub hl [0, 1, 2] rfl)

theorem kX3_tellsAsNow_0 : Cond.fieldLink RX3 9 "PassNotes$Sheet" "lengths" "[I" ∈ wsX3_tellsAsNow := by decide +kernel
theorem kX3_tellsAsNow_1 : ∀ w ∈ wsX30, w ∈ wsX3_tellsAsNow := by decide +kernel
set_option maxHeartbeats 4000000 in
set_option maxRecDepth 100000 in
theorem c_X3_tellsAsNow (l : Launch) (G : kG) (y num wr ly : Nat) (len : Nat → Nat) (hL a0 a1 a2 a3 a4 : Nat) (nh np : Nat) (fs sn ln : Nat → Nat) (op : Nat → Bool) (h : Nat) (hfs : ∀ j, fs j < 10) (hsn : ∀ j, sn j < 10) (hln : ∀ j, ln j < 100) (hlen : ∀ j, len j < 100) (hh : h < 10) (hnp : np ≤ 20) : Met l yX3_tellsAsNow wsX3_tellsAsNow ({ frames := 1, cells := 0, slots := 0, locals := 23 }) (kPre G [(y, .inr (3, [.int (nI num), .int (nI wr), .ref ly])), (ly, .inl (G.2 0, 20, .inl (kI len))), (hL, .inr (1, [.ref a0, .ref a1, .ref a2, .ref a3, .ref a4, .int (nI nh), .int (nI np)])), (a1, .inl (G.2 0, 20, .inl (kI fs))), (a2, .inl (G.2 0, 20, .inl (kI sn))), (a3, .inl (G.2 0, 20, .inl (kI ln))), (a4, .inl (G.2 1, 20, .inl (kB op)))] [.ref y, .ref hL, .int (nI h)]) (vp_Si (fun r : Int32 => r = (bI (mSame len fs sn ln op h np)))) 0 0 (fun _ => False) := by
  refine Met.ofW (cc := cX3_tellsAsNow) (maxL := 4) (ret := (some .boolean)) (by decide) rfl ?_
  intro p e s m args below meth c s₁ B hml hv
  obtain ⟨rfl, hP, hK⟩ := hv
  have hx := B.exec
  have hb := B.bytes
  have hr := B.returns
  have hts := atoms_spec (ws := wsX3_tellsAsNow) B.pre
  have hown : s.vm.findClass RX3 = some m.cls := findClass_of_methodNamed B.named
  have hlocks := B.notSynchronized
  have hK : va_K G.1 vwCl (kT G) s := hK
  have hP : va_P G.1 vwCl [(y, .inr (3, [.int (nI num), .int (nI wr), .ref ly])), (ly, .inl (G.2 0, 20, .inl (kI len))), (hL, .inr (1, [.ref a0, .ref a1, .ref a2, .ref a3, .ref a4, .int (nI nh), .int (nI np)])), (a1, .inl (G.2 0, 20, .inl (kI fs))), (a2, .inl (G.2 0, 20, .inl (kI sn))), (a3, .inl (G.2 0, 20, .inl (kI ln))), (a4, .inl (G.2 1, 20, .inl (kB op)))] s.heap := hP
  have hl := lv_entry ([.ref y, .ref hL, .int (nI h)]) (n := 4) (Nat.le_of_ble_eq_true rfl)
  rw [lg_entry_eq]
  generalize (lg_sl ([.ref y, .ref hL, .int (nI h)]) ++ List.replicate (4 - (lg_sl ([.ref y, .ref hL, .int (nI h)])).length) Slot.unset).toArray = ls at hl ⊢
  have hl : lv_has ls 4 [(0, .ref y), (1, .ref hL), (2, .int (nI h))] := hl
  refine lv_iconst (v := (nI 0)) hx hb dX3_tellsAsNow_0 (by decide) ?_
  refine lv_istore_n (lv' := [(3, .int (nI 0)), (0, .ref y), (1, .ref hL), (2, .int (nI h))]) hx hb dX3_tellsAsNow_1 rfl hl (by decide) rfl (fun ls hl => ?_)
  have hc_2 : ∀ (n : Nat) (i : Nat), np - i < n → i ≤ np → mAny (fun q => len q != mTells fs sn ln op h q) i = false → ∀ (ls : Array Slot), lv_has ls 4 [(3, .int (nI i)), (0, .ref y), (1, .ref hL), (2, .int (nI h))] → W p l e (headSpec wsX3_tellsAsNow ({ frames := 1, cells := 0, slots := 0, locals := 23 })).room s m [.ref y, .ref hL, .int (nI h)].toArray below meth c s.heap [] 0 0 (MQ below (vp_Si (fun r : Int32 => r = (bI (mSame len fs sn ln op h np)))) [.ref y, .ref hL, .int (nI h)].toArray s 0 0 (fun _ => False)) (F0 m 2 ls []) := by
    intro n
    induction n with
    | zero =>
      intro i hmz; exact absurd hmz (Nat.not_lt_zero _)
    | succ n ih2 =>
      intro i hmz hi hn ls hl
      refine lv_iload_n hx hb dX3_tellsAsNow_2 rfl (lv_at hl 0 rfl) ?_
      refine lv_aload_n hx hb dX3_tellsAsNow_3 rfl (lv_at hl 2 rfl) ?_
      refine vp_callSi (W.runV (As := []) (rest := [.int (nI i)]) ⟨hx, hb, hml, hown, hts⟩ (c_X1_passes l G hL a0 a1 a2 a3 a4 nh np ) (cwV 0 hts gX3_tellsAsNow_X1_passes rfl rfl rfl (by decide +kernel) ⟨Nat.le_of_ble_eq_true rfl, Nat.le_of_ble_eq_true rfl⟩) (kPre_V (ws := [(hL, .inr (1, [.ref a0, .ref a1, .ref a2, .ref a3, .ref a4, .int (nI nh), .int (nI np)]))]) hK (hP.sub (ws' := [(hL, .inr (1, [.ref a0, .ref a1, .ref a2, .ref a3, .ref a4, .int (nI nh), .int (nI np)]))]) [2] rfl) (RX1, TX1, 7) 0 rfl rfl) rfl rfl hl.1 rfl (lv_room (Nat.le_of_ble_eq_true rfl)) dX3_tellsAsNow_4 ⟨Nat.le_of_ble_eq_true rfl, Nat.le_of_ble_eq_true rfl⟩) (fun r_1 hr_1 => ?_)
      subst hr_1
      refine kb_ge (tgt := 33) hx hb dX3_tellsAsNow_7 (by decide) (by omega) (by omega) (fun c_2 => ?_) (fun c_2 => ?_)
      · refine lv_iconst (v := (nI 1)) hx hb dX3_tellsAsNow_33 (by decide) ?_
        exact kr_zret hx hb hr hlocks rfl (by exact bI_one (by unfold mSame; rw [show np = i by omega, hn]; rfl)) dX3_tellsAsNow_34
      · refine lv_aload_n hx hb dX3_tellsAsNow_10 rfl (lv_at hl 1 rfl) ?_
        refine va_get (D := G.1) (ci := 3) (v := .ref ly) (C := RX3) (T := TX3) (N := 3) hx hb hts kX3_tellsAsNow_1 hown hK hP 0 rfl rfl 2 (by decide) (hts _ kX3_tellsAsNow_0) (fun _ h9 => h9) rfl dX3_tellsAsNow_11 ?_
        refine lv_iload_n hx hb dX3_tellsAsNow_14 rfl (lv_at hl 0 rfl) ?_
        refine kr_iald (k := i) (v := (nI (len i))) hx hb hK hP 1 0 rfl rfl (by omega) (by decide) rfl dX3_tellsAsNow_15 ?_
        refine lv_aload_n hx hb dX3_tellsAsNow_16 rfl (lv_at hl 2 rfl) ?_
        refine lv_iload_n hx hb dX3_tellsAsNow_17 rfl (lv_at hl 3 rfl) ?_
        refine lv_iload_n hx hb dX3_tellsAsNow_18 rfl (lv_at hl 0 rfl) ?_
        refine vp_callSi (W.runV (As := [.int (nI h), .int (nI i)]) (rest := [.int (nI (len i))]) ⟨hx, hb, hml, hown, hts⟩ (c_X1_tellsNow l G hL a0 a1 a2 a3 a4 nh np fs sn ln op h i hfs hsn (by omega) (by omega)) (cwV 2 hts gX3_tellsAsNow_X1_tellsNow rfl rfl rfl (by decide +kernel) ⟨Nat.le_of_ble_eq_true rfl, Nat.le_of_ble_eq_true rfl⟩) (kPre_V (ws := [(hL, .inr (1, [.ref a0, .ref a1, .ref a2, .ref a3, .ref a4, .int (nI nh), .int (nI np)])), (a1, .inl (G.2 0, 20, .inl (kI fs))), (a2, .inl (G.2 0, 20, .inl (kI sn))), (a3, .inl (G.2 0, 20, .inl (kI ln))), (a4, .inl (G.2 1, 20, .inl (kB op)))]) hK (hP.sub (ws' := [(hL, .inr (1, [.ref a0, .ref a1, .ref a2, .ref a3, .ref a4, .int (nI nh), .int (nI np)])), (a1, .inl (G.2 0, 20, .inl (kI fs))), (a2, .inl (G.2 0, 20, .inl (kI sn))), (a3, .inl (G.2 0, 20, .inl (kI ln))), (a4, .inl (G.2 1, 20, .inl (kB op)))]) [2, 3, 4, 5, 6] rfl) (RX1, TX1, 7) 0 rfl rfl) rfl rfl hl.1 rfl (lv_room (Nat.le_of_ble_eq_true rfl)) dX3_tellsAsNow_19 ⟨Nat.le_of_ble_eq_true rfl, Nat.le_of_ble_eq_true rfl⟩) (fun r_3 hr_3 => ?_)
        subst hr_3
        refine kb_eq (tgt := 27) hx hb dX3_tellsAsNow_22 (by decide) (by first | exact Nat.lt_trans (hlen _) (by decide) | exact Nat.lt_trans (mTells_lt hln) (by decide)) (by first | exact Nat.lt_trans (hlen _) (by decide) | exact Nat.lt_trans (mTells_lt hln) (by decide)) (fun c_4 => ?_) (fun c_4 => ?_)
        · refine lv_iinc (k := 0) (v := (nI (i + 1))) (lv' := [(3, .int (nI (i + 1))), (0, .ref y), (1, .ref hL), (2, .int (nI h))]) hx hb dX3_tellsAsNow_27 hl rfl (kn_inc i) (by decide) rfl (fun ls hl => ?_)
          refine lv_goto (tgt := 2) hx hb dX3_tellsAsNow_30 (by decide) ?_
          exact ih2 (i + 1) (by omega) (by omega) (by rw [mAny_succ, hn]; simp_all) _ (lv_sub hl [0, 1, 2, 3] rfl)
        · refine lv_iconst (v := (nI 0)) hx hb dX3_tellsAsNow_25 (by decide) ?_
          exact kr_zret hx hb hr hlocks rfl (by exact bI_zero (by unfold mSame; rw [mAny_iff.mpr ⟨i, by omega, by simp_all⟩]; rfl)) dX3_tellsAsNow_26
  exact hc_2 (_ + 1) 0 (Nat.lt_succ_self _) (by omega) (by rfl) _ (lv_sub hl [0, 1, 2, 3] rfl)

theorem kX3_init_0 : Cond.instanceMethod objectInit ∈ wsX3_init := by decide +kernel
theorem kX3_init_1 : Cond.code objectInit ⟨#[0xb1]⟩ 1 none ∈ wsX3_init := by decide +kernel
theorem kX3_init_2 : Cond.methodLink RX3 3 objectInit ∈ wsX3_init := by decide +kernel
theorem kX3_init_3 : Cond.arrayClass .int ∈ wsX3_init := by decide +kernel
theorem kX3_init_4 : Cond.fieldLink RX3 9 "PassNotes$Sheet" "lengths" "[I" ∈ wsX3_init := by decide +kernel
theorem kX3_init_5 : ∀ w ∈ wsX30, w ∈ wsX3_init := by decide +kernel
theorem kX3_init_6 : Cond.fieldLink RX3 15 "PassNotes$Sheet" "number" "I" ∈ wsX3_init := by decide +kernel
theorem kX3_init_7 : Cond.fieldLink RX3 19 "PassNotes$Sheet" "written" "I" ∈ wsX3_init := by decide +kernel
set_option maxHeartbeats 4000000 in
set_option maxRecDepth 100000 in
theorem c_X3_init (l : Launch) (G : kG) (sz : Nat) (y : Nat) (v0 v1 : Int32) (num wr : Nat) (hL a0 a1 a2 a3 a4 : Nat) (nh np : Nat) (fs sn ln : Nat → Nat) (op : Nat → Bool) (h : Nat) (hfs : ∀ j, fs j < 10) (hsn : ∀ j, sn j < 10) (hln : ∀ j, ln j < 100) (hh : h < 10) (hnp : np ≤ 20) : Met l yX3_init wsX3_init ({ frames := 1, cells := 1, slots := 20, locals := 23 }) (kPreM G [(y, .inr (3, [.int v0, .int v1, .null])), (hL, .inr (1, [.ref a0, .ref a1, .ref a2, .ref a3, .ref a4, .int (nI nh), .int (nI np)])), (a1, .inl (G.2 0, 20, .inl (kI fs))), (a2, .inl (G.2 0, 20, .inl (kI sn))), (a3, .inl (G.2 0, 20, .inl (kI ln))), (a4, .inl (G.2 1, 20, .inl (kB op)))] sz [.ref y, .int (nI num), .int (nI wr), .ref hL, .int (nI h)]) (va_Qv (fun (u : Nat) => True) (fun (u : Nat) t => kA G (va_A [(y, .inr (3, [.int v0, .int v1, .null])), (hL, .inr (1, [.ref a0, .ref a1, .ref a2, .ref a3, .ref a4, .int (nI nh), .int (nI np)])), (a1, .inl (G.2 0, 20, .inl (kI fs))), (a2, .inl (G.2 0, 20, .inl (kI sn))), (a3, .inl (G.2 0, 20, .inl (kI ln))), (a4, .inl (G.2 1, 20, .inl (kB op)))] sz) [(y, .inr (3, [.int (nI num), .int (nI wr), .ref u])), (u, .inl (G.2 0, 20, .inl (kI (mSheet fs sn ln op h np)))), (hL, .inr (1, [.ref a0, .ref a1, .ref a2, .ref a3, .ref a4, .int (nI nh), .int (nI np)])), (a1, .inl (G.2 0, 20, .inl (kI fs))), (a2, .inl (G.2 0, 20, .inl (kI sn))), (a3, .inl (G.2 0, 20, .inl (kI ln))), (a4, .inl (G.2 1, 20, .inl (kB op)))] t) (va_A [(y, .inr (3, [.int v0, .int v1, .null])), (hL, .inr (1, [.ref a0, .ref a1, .ref a2, .ref a3, .ref a4, .int (nI nh), .int (nI np)])), (a1, .inl (G.2 0, 20, .inl (kI fs))), (a2, .inl (G.2 0, 20, .inl (kI sn))), (a3, .inl (G.2 0, 20, .inl (kI ln))), (a4, .inl (G.2 1, 20, .inl (kB op)))] sz)) 1 20 (va_A [(y, .inr (3, [.int v0, .int v1, .null])), (hL, .inr (1, [.ref a0, .ref a1, .ref a2, .ref a3, .ref a4, .int (nI nh), .int (nI np)])), (a1, .inl (G.2 0, 20, .inl (kI fs))), (a2, .inl (G.2 0, 20, .inl (kI sn))), (a3, .inl (G.2 0, 20, .inl (kI ln))), (a4, .inl (G.2 1, 20, .inl (kB op)))] sz) := by
  refine Met.ofW (cc := cX3_init) (maxL := 6) (ret := none) (by decide) rfl ?_
  intro p e s m args below meth c s₁ B hml hv
  obtain ⟨rfl, hsz, hP, hK, hD0⟩ := hv
  have hx := B.exec
  have hb := B.bytes
  have hr := B.returns
  have hts := atoms_spec (ws := wsX3_init) B.pre
  have hown : s.vm.findClass RX3 = some m.cls := findClass_of_methodNamed B.named
  have hlocks := B.notSynchronized
  have hK : va_K G.1 vwCl (kT G) s := hK
  have hin : meth.name = "<init>" := (name_of_methodNamed B.named B.method).1
  subst hsz
  have hD := hD0.self (sz := s.heap.size)
  generalize hAe : va_A [(y, .inr (3, [.int v0, .int v1, .null])), (hL, .inr (1, [.ref a0, .ref a1, .ref a2, .ref a3, .ref a4, .int (nI nh), .int (nI np)])), (a1, .inl (G.2 0, 20, .inl (kI fs))), (a2, .inl (G.2 0, 20, .inl (kI sn))), (a3, .inl (G.2 0, 20, .inl (kI ln))), (a4, .inl (G.2 1, 20, .inl (kB op)))] s.heap.size = A at hD ⊢
  have hA : ∀ q : Nat, s.heap.size ≤ q → A q := fun q h => by rw [← hAe]; exact Or.inr h
  have hS : va_S A s.heap s.heap [] := va_S.rf
  have hP : va_P G.1 vwCl [(y, .inr (3, [.int v0, .int v1, .null])), (hL, .inr (1, [.ref a0, .ref a1, .ref a2, .ref a3, .ref a4, .int (nI nh), .int (nI np)])), (a1, .inl (G.2 0, 20, .inl (kI fs))), (a2, .inl (G.2 0, 20, .inl (kI sn))), (a3, .inl (G.2 0, 20, .inl (kI ln))), (a4, .inl (G.2 1, 20, .inl (kB op)))] s.heap := hP
  have hl := lv_entry ([.ref y, .int (nI num), .int (nI wr), .ref hL, .int (nI h)]) (n := 6) (Nat.le_of_ble_eq_true rfl)
  rw [lg_entry_eq]
  generalize (lg_sl ([.ref y, .int (nI num), .int (nI wr), .ref hL, .int (nI h)]) ++ List.replicate (6 - (lg_sl ([.ref y, .int (nI num), .int (nI wr), .ref hL, .int (nI h)])).length) Slot.unset).toArray = ls at hl ⊢
  have hl : lv_has ls 6 [(0, .ref y), (1, .int (nI num)), (2, .int (nI wr)), (3, .ref hL), (4, .int (nI h))] := hl
  refine lv_aload_n hx hb dX3_init_0 rfl (lv_at hl 0 rfl) ?_
  refine W.objInit hx hb hown (hts _ kX3_init_2) (hts _ kX3_init_0) (hts _ kX3_init_1) rfl (by rw [hml]; exact hl.1) rfl dX3_init_1 (Nat.le_of_ble_eq_true rfl) (Nat.le_of_ble_eq_true rfl) ?_
  refine W.eq (g2 := F0 m 4 ls []) rfl ?_
  refine lv_aload_n hx hb dX3_init_4 rfl (lv_at hl 0 rfl) ?_
  refine lv_bipush (v := (nI 20)) hx hb dX3_init_5 (by decide) ?_
  refine kn_newi hx hb (hts _ kX3_init_3) hK hP hD hS hA (by decide) (Nat.le_of_ble_eq_true rfl) (Nat.le_of_ble_eq_true rfl) dX3_init_7 (fun q_1 H hP hD hS => ?_)
  have hP : va_P G.1 vwCl [(y, .inr (3, [.int v0, .int v1, .null])), (hL, .inr (1, [.ref a0, .ref a1, .ref a2, .ref a3, .ref a4, .int (nI nh), .int (nI np)])), (a1, .inl (G.2 0, 20, .inl (kI fs))), (a2, .inl (G.2 0, 20, .inl (kI sn))), (a3, .inl (G.2 0, 20, .inl (kI ln))), (a4, .inl (G.2 1, 20, .inl (kB op))), (q_1, .inl (G.2 0, 20, .inl (kI (fun _ => 0))))] H := hP
  have hD : va_D A [(y, .inr (3, [.int v0, .int v1, .null])), (hL, .inr (1, [.ref a0, .ref a1, .ref a2, .ref a3, .ref a4, .int (nI nh), .int (nI np)])), (a1, .inl (G.2 0, 20, .inl (kI fs))), (a2, .inl (G.2 0, 20, .inl (kI sn))), (a3, .inl (G.2 0, 20, .inl (kI ln))), (a4, .inl (G.2 1, 20, .inl (kB op))), (q_1, .inl (G.2 0, 20, .inl (kI (fun _ => 0))))] := hD
  refine W.widen (k := 1) (n := 20) (Nat.le_refl _) (Nat.le_refl _) ?_
  refine va_putF (D := G.1) (ci := 3) (v := .ref q_1) (ty := (tyX3 2)) (C := RX3) (T := TX3) (N := 3) hx hb hts kX3_init_5 tyX3 tyX3_ok nmX3 hown hK hP hD hS 0 rfl rfl 2 (by decide) (hts _ kX3_init_4) (fun _ h9 => h9) rfl hin rfl (by decide +kernel) rfl rfl (Nat.le_of_ble_eq_true rfl) dX3_init_9 (fun H locs hP hD hS => ?_)
  have hP : va_P G.1 vwCl [(y, .inr (3, [.int v0, .int v1, .ref q_1])), (hL, .inr (1, [.ref a0, .ref a1, .ref a2, .ref a3, .ref a4, .int (nI nh), .int (nI np)])), (a1, .inl (G.2 0, 20, .inl (kI fs))), (a2, .inl (G.2 0, 20, .inl (kI sn))), (a3, .inl (G.2 0, 20, .inl (kI ln))), (a4, .inl (G.2 1, 20, .inl (kB op))), (q_1, .inl (G.2 0, 20, .inl (kI (fun _ => 0))))] H := hP
  have hD : va_D A [(y, .inr (3, [.int v0, .int v1, .ref q_1])), (hL, .inr (1, [.ref a0, .ref a1, .ref a2, .ref a3, .ref a4, .int (nI nh), .int (nI np)])), (a1, .inl (G.2 0, 20, .inl (kI fs))), (a2, .inl (G.2 0, 20, .inl (kI sn))), (a3, .inl (G.2 0, 20, .inl (kI ln))), (a4, .inl (G.2 1, 20, .inl (kB op))), (q_1, .inl (G.2 0, 20, .inl (kI (fun _ => 0))))] := hD
  refine lv_aload_n hx hb dX3_init_12 rfl (lv_at hl 0 rfl) ?_
  refine lv_iload_n hx hb dX3_init_13 rfl (lv_at hl 1 rfl) ?_
  refine va_putF (D := G.1) (ci := 3) (v := .int (nI num)) (ty := .int) (C := RX3) (T := TX3) (N := 3) hx hb hts kX3_init_5 tyX3 tyX3_ok nmX3 hown hK hP hD hS 0 rfl rfl 0 (by decide) (hts _ kX3_init_6) (fun _ h9 => h9) rfl hin rfl (by decide +kernel) rfl rfl (Nat.le_of_ble_eq_true rfl) dX3_init_14 (fun H locs hP hD hS => ?_)
  have hP : va_P G.1 vwCl [(y, .inr (3, [.int (nI num), .int v1, .ref q_1])), (hL, .inr (1, [.ref a0, .ref a1, .ref a2, .ref a3, .ref a4, .int (nI nh), .int (nI np)])), (a1, .inl (G.2 0, 20, .inl (kI fs))), (a2, .inl (G.2 0, 20, .inl (kI sn))), (a3, .inl (G.2 0, 20, .inl (kI ln))), (a4, .inl (G.2 1, 20, .inl (kB op))), (q_1, .inl (G.2 0, 20, .inl (kI (fun _ => 0))))] H := hP
  have hD : va_D A [(y, .inr (3, [.int (nI num), .int v1, .ref q_1])), (hL, .inr (1, [.ref a0, .ref a1, .ref a2, .ref a3, .ref a4, .int (nI nh), .int (nI np)])), (a1, .inl (G.2 0, 20, .inl (kI fs))), (a2, .inl (G.2 0, 20, .inl (kI sn))), (a3, .inl (G.2 0, 20, .inl (kI ln))), (a4, .inl (G.2 1, 20, .inl (kB op))), (q_1, .inl (G.2 0, 20, .inl (kI (fun _ => 0))))] := hD
  refine lv_aload_n hx hb dX3_init_17 rfl (lv_at hl 0 rfl) ?_
  refine lv_iload_n hx hb dX3_init_18 rfl (lv_at hl 2 rfl) ?_
  refine va_putF (D := G.1) (ci := 3) (v := .int (nI wr)) (ty := .int) (C := RX3) (T := TX3) (N := 3) hx hb hts kX3_init_5 tyX3 tyX3_ok nmX3 hown hK hP hD hS 0 rfl rfl 1 (by decide) (hts _ kX3_init_7) (fun _ h9 => h9) rfl hin rfl (by decide +kernel) rfl rfl (Nat.le_of_ble_eq_true rfl) dX3_init_19 (fun H locs hP hD hS => ?_)
  have hP : va_P G.1 vwCl [(y, .inr (3, [.int (nI num), .int (nI wr), .ref q_1])), (hL, .inr (1, [.ref a0, .ref a1, .ref a2, .ref a3, .ref a4, .int (nI nh), .int (nI np)])), (a1, .inl (G.2 0, 20, .inl (kI fs))), (a2, .inl (G.2 0, 20, .inl (kI sn))), (a3, .inl (G.2 0, 20, .inl (kI ln))), (a4, .inl (G.2 1, 20, .inl (kB op))), (q_1, .inl (G.2 0, 20, .inl (kI (fun _ => 0))))] H := hP
  have hD : va_D A [(y, .inr (3, [.int (nI num), .int (nI wr), .ref q_1])), (hL, .inr (1, [.ref a0, .ref a1, .ref a2, .ref a3, .ref a4, .int (nI nh), .int (nI np)])), (a1, .inl (G.2 0, 20, .inl (kI fs))), (a2, .inl (G.2 0, 20, .inl (kI sn))), (a3, .inl (G.2 0, 20, .inl (kI ln))), (a4, .inl (G.2 1, 20, .inl (kB op))), (q_1, .inl (G.2 0, 20, .inl (kI (fun _ => 0))))] := hD
  refine lv_iconst (v := (nI 0)) hx hb dX3_init_22 (by decide) ?_
  refine lv_istore (lv' := [(5, .int (nI 0)), (0, .ref y), (1, .int (nI num)), (2, .int (nI wr)), (3, .ref hL), (4, .int (nI h))]) hx hb dX3_init_23 hl (by decide) rfl (fun ls hl => ?_)
  have hc_25 : ∀ (n : Nat) (i : Nat) (g : Nat → Nat), np - i < n → i ≤ np → g = mSheet fs sn ln op h i → ∀ (H : Heap) (locs : List Loc), va_P G.1 vwCl [(y, .inr (3, [.int (nI num), .int (nI wr), .ref q_1])), (hL, .inr (1, [.ref a0, .ref a1, .ref a2, .ref a3, .ref a4, .int (nI nh), .int (nI np)])), (a1, .inl (G.2 0, 20, .inl (kI fs))), (a2, .inl (G.2 0, 20, .inl (kI sn))), (a3, .inl (G.2 0, 20, .inl (kI ln))), (a4, .inl (G.2 1, 20, .inl (kB op))), (q_1, .inl (G.2 0, 20, .inl (kI g)))] H → va_D A [(y, .inr (3, [.int (nI num), .int (nI wr), .ref q_1])), (hL, .inr (1, [.ref a0, .ref a1, .ref a2, .ref a3, .ref a4, .int (nI nh), .int (nI np)])), (a1, .inl (G.2 0, 20, .inl (kI fs))), (a2, .inl (G.2 0, 20, .inl (kI sn))), (a3, .inl (G.2 0, 20, .inl (kI ln))), (a4, .inl (G.2 1, 20, .inl (kB op))), (q_1, .inl (G.2 0, 20, .inl (kI g)))] → va_S A s.heap H locs → ∀ (ls : Array Slot), lv_has ls 6 [(5, .int (nI i)), (0, .ref y), (1, .int (nI num)), (2, .int (nI wr)), (3, .ref hL), (4, .int (nI h))] → W p l e (headSpec wsX3_init ({ frames := 1, cells := 1, slots := 20, locals := 23 })).room s m [.ref y, .int (nI num), .int (nI wr), .ref hL, .int (nI h)].toArray below meth c H locs 1 20 (MQ below (va_Qv (fun (u : Nat) => True) (fun (u : Nat) t => kA G A [(y, .inr (3, [.int (nI num), .int (nI wr), .ref u])), (u, .inl (G.2 0, 20, .inl (kI (mSheet fs sn ln op h np)))), (hL, .inr (1, [.ref a0, .ref a1, .ref a2, .ref a3, .ref a4, .int (nI nh), .int (nI np)])), (a1, .inl (G.2 0, 20, .inl (kI fs))), (a2, .inl (G.2 0, 20, .inl (kI sn))), (a3, .inl (G.2 0, 20, .inl (kI ln))), (a4, .inl (G.2 1, 20, .inl (kB op)))] t) A) [.ref y, .int (nI num), .int (nI wr), .ref hL, .int (nI h)].toArray s 1 20 A) (F0 m 25 ls []) := by
    intro n
    induction n with
    | zero =>
      intro i g hmz; exact absurd hmz (Nat.not_lt_zero _)
    | succ n ih25 =>
      intro i g hmz hi hg H locs hP hD hS ls hl
      refine lv_iload hx hb dX3_init_25 (lv_at hl 0 rfl) ?_
      refine lv_aload_n hx hb dX3_init_27 rfl (lv_at hl 4 rfl) ?_
      refine vp_callSi (W.runV (As := []) (rest := [.int (nI i)]) ⟨hx, hb, hml, hown, hts⟩ (c_X1_passes l G hL a0 a1 a2 a3 a4 nh np ) (cwV 0 hts gX3_init_X1_passes rfl rfl rfl (by decide +kernel) ⟨Nat.le_of_ble_eq_true rfl, Nat.le_of_ble_eq_true rfl⟩) (kPre_V (ws := [(hL, .inr (1, [.ref a0, .ref a1, .ref a2, .ref a3, .ref a4, .int (nI nh), .int (nI np)]))]) hK (hP.sub (ws' := [(hL, .inr (1, [.ref a0, .ref a1, .ref a2, .ref a3, .ref a4, .int (nI nh), .int (nI np)]))]) [1] rfl) (RX1, TX1, 7) 0 rfl rfl) rfl rfl hl.1 rfl (lv_room (Nat.le_of_ble_eq_true rfl)) dX3_init_28 ⟨Nat.le_of_ble_eq_true rfl, Nat.le_of_ble_eq_true rfl⟩) (fun r_2 hr_2 => ?_)
      subst hr_2
      refine kb_ge (tgt := 55) hx hb dX3_init_31 (by decide) (by omega) (by omega) (fun c_3 => ?_) (fun c_3 => ?_)
      · subst hg
        obtain rfl : np = i := by omega
        have hP9 := hP.sub (ws' := [(y, .inr (3, [.int (nI num), .int (nI wr), .ref q_1])), (q_1, .inl (G.2 0, 20, .inl (kI (mSheet fs sn ln op h np)))), (hL, .inr (1, [.ref a0, .ref a1, .ref a2, .ref a3, .ref a4, .int (nI nh), .int (nI np)])), (a1, .inl (G.2 0, 20, .inl (kI fs))), (a2, .inl (G.2 0, 20, .inl (kI sn))), (a3, .inl (G.2 0, 20, .inl (kI ln))), (a4, .inl (G.2 1, 20, .inl (kB op)))]) [0, 6, 1, 2, 3, 4, 5] rfl
        have hD9 := hD.sub (ws' := [(y, .inr (3, [.int (nI num), .int (nI wr), .ref q_1])), (q_1, .inl (G.2 0, 20, .inl (kI (mSheet fs sn ln op h np)))), (hL, .inr (1, [.ref a0, .ref a1, .ref a2, .ref a3, .ref a4, .int (nI nh), .int (nI np)])), (a1, .inl (G.2 0, 20, .inl (kI fs))), (a2, .inl (G.2 0, 20, .inl (kI sn))), (a3, .inl (G.2 0, 20, .inl (kI ln))), (a4, .inl (G.2 1, 20, .inl (kB op)))]) [0, 6, 1, 2, 3, 4, 5] (by decide) rfl
        exact km_vret (post := fun (u : Nat) => True) (wo := fun (u : Nat) => [(y, .inr (3, [.int (nI num), .int (nI wr), .ref u])), (u, .inl (G.2 0, 20, .inl (kI (mSheet fs sn ln op h np)))), (hL, .inr (1, [.ref a0, .ref a1, .ref a2, .ref a3, .ref a4, .int (nI nh), .int (nI np)])), (a1, .inl (G.2 0, 20, .inl (kI fs))), (a2, .inl (G.2 0, 20, .inl (kI sn))), (a3, .inl (G.2 0, 20, .inl (kI ln))), (a4, .inl (G.2 1, 20, .inl (kB op)))]) (q_1) hx hb hr hlocks hS hP9 hD9 (trivial) dX3_init_55
      · refine lv_aload_n hx hb dX3_init_34 rfl (lv_at hl 1 rfl) ?_
        refine va_get (D := G.1) (ci := 3) (v := .ref q_1) (C := RX3) (T := TX3) (N := 3) hx hb hts kX3_init_5 hown hK hP 0 rfl rfl 2 (by decide) (hts _ kX3_init_4) (fun _ h9 => h9) rfl dX3_init_35 ?_
        refine lv_iload hx hb dX3_init_38 (lv_at hl 0 rfl) ?_
        refine lv_aload_n hx hb dX3_init_40 rfl (lv_at hl 4 rfl) ?_
        refine lv_iload hx hb dX3_init_41 (lv_at hl 5 rfl) ?_
        refine lv_iload hx hb dX3_init_43 (lv_at hl 0 rfl) ?_
        refine vp_callSi (W.runV (As := [.int (nI h), .int (nI i)]) (rest := [.int (nI i), .ref q_1]) ⟨hx, hb, hml, hown, hts⟩ (c_X1_tellsNow l G hL a0 a1 a2 a3 a4 nh np fs sn ln op h i hfs hsn (by omega) (by omega)) (cwV 2 hts gX3_init_X1_tellsNow rfl rfl rfl (by decide +kernel) ⟨Nat.le_of_ble_eq_true rfl, Nat.le_of_ble_eq_true rfl⟩) (kPre_V (ws := [(hL, .inr (1, [.ref a0, .ref a1, .ref a2, .ref a3, .ref a4, .int (nI nh), .int (nI np)])), (a1, .inl (G.2 0, 20, .inl (kI fs))), (a2, .inl (G.2 0, 20, .inl (kI sn))), (a3, .inl (G.2 0, 20, .inl (kI ln))), (a4, .inl (G.2 1, 20, .inl (kB op)))]) hK (hP.sub (ws' := [(hL, .inr (1, [.ref a0, .ref a1, .ref a2, .ref a3, .ref a4, .int (nI nh), .int (nI np)])), (a1, .inl (G.2 0, 20, .inl (kI fs))), (a2, .inl (G.2 0, 20, .inl (kI sn))), (a3, .inl (G.2 0, 20, .inl (kI ln))), (a4, .inl (G.2 1, 20, .inl (kB op)))]) [1, 2, 3, 4, 5] rfl) (RX1, TX1, 7) 0 rfl rfl) rfl rfl hl.1 rfl (lv_room (Nat.le_of_ble_eq_true rfl)) dX3_init_45 ⟨Nat.le_of_ble_eq_true rfl, Nat.le_of_ble_eq_true rfl⟩) (fun r_4 hr_4 => ?_)
        subst hr_4
        refine kr_iast (k := i) (g := (kI (va_up g i (mTells fs sn ln op h i)))) hx hb hK hP hD hS 6 0 rfl rfl (by omega) (by decide) (kI_up g i (mTells fs sn ln op h i)) dX3_init_48 (fun H locs hP hD hS => ?_)
        have hP : va_P G.1 vwCl [(y, .inr (3, [.int (nI num), .int (nI wr), .ref q_1])), (hL, .inr (1, [.ref a0, .ref a1, .ref a2, .ref a3, .ref a4, .int (nI nh), .int (nI np)])), (a1, .inl (G.2 0, 20, .inl (kI fs))), (a2, .inl (G.2 0, 20, .inl (kI sn))), (a3, .inl (G.2 0, 20, .inl (kI ln))), (a4, .inl (G.2 1, 20, .inl (kB op))), (q_1, .inl (G.2 0, 20, .inl (kI (va_up g i (mTells fs sn ln op h i)))))] H := hP
        have hD : va_D A [(y, .inr (3, [.int (nI num), .int (nI wr), .ref q_1])), (hL, .inr (1, [.ref a0, .ref a1, .ref a2, .ref a3, .ref a4, .int (nI nh), .int (nI np)])), (a1, .inl (G.2 0, 20, .inl (kI fs))), (a2, .inl (G.2 0, 20, .inl (kI sn))), (a3, .inl (G.2 0, 20, .inl (kI ln))), (a4, .inl (G.2 1, 20, .inl (kB op))), (q_1, .inl (G.2 0, 20, .inl (kI (va_up g i (mTells fs sn ln op h i)))))] := hD
        refine lv_iinc (k := 0) (v := (nI (i + 1))) (lv' := [(5, .int (nI (i + 1))), (0, .ref y), (1, .int (nI num)), (2, .int (nI wr)), (3, .ref hL), (4, .int (nI h))]) hx hb dX3_init_49 hl rfl (kn_inc i) (by decide) rfl (fun ls hl => ?_)
        refine lv_goto (tgt := 25) hx hb dX3_init_52 (by decide) ?_
        exact ih25 (i + 1) (va_up g i (mTells fs sn ln op h i)) (by omega) (by omega) (by rw [hg]; exact mSheet_succ _ _ _ _ _ _) _ _ hP hD hS _ (lv_sub hl [0, 1, 2, 3, 4, 5] rfl)
  exact hc_25 (_ + 1) 0 (fun _ => 0) (Nat.lt_succ_self _) (by omega) (by exact (mSheet_0 _ _ _ _ _).symm) _ _ hP hD hS _ (lv_sub hl [0, 1, 2, 3, 4, 5] rfl)

theorem kX0_clear_0 : Cond.fieldLink RX0 21 "PassNotes$Chart" "steps" "I" ∈ wsX0_clear := by decide +kernel
theorem kX0_clear_1 : ∀ w ∈ wsX00, w ∈ wsX0_clear := by decide +kernel
set_option maxHeartbeats 4000000 in
set_option maxRecDepth 100000 in
theorem c_X0_clear (l : Launch) (G : kG) (sz : Nat) (hC f0 f1 f2 k : Nat)   : Met l yX0_clear wsX0_clear ({ frames := 0, cells := 0, slots := 0, locals := 0 }) (kPreM G [(hC, .inr (0, [.ref f0, .ref f1, .ref f2, .int (nI k)]))] sz [.ref hC]) (va_Qv (fun (u : Unit) => True) (fun (u : Unit) t => kA G (va_A [(hC, .inr (0, [.ref f0, .ref f1, .ref f2, .int (nI k)]))] sz) [(hC, .inr (0, [.ref f0, .ref f1, .ref f2, .int (nI 0)]))] t) (va_A [(hC, .inr (0, [.ref f0, .ref f1, .ref f2, .int (nI k)]))] sz)) 0 0 (va_A [(hC, .inr (0, [.ref f0, .ref f1, .ref f2, .int (nI k)]))] sz) := by
  refine Met.ofW (cc := cX0_clear) (maxL := 1) (ret := none) (by decide) rfl ?_
  intro p e s m args below meth c s₁ B hml hv
  obtain ⟨rfl, hsz, hP, hK, hD0⟩ := hv
  have hx := B.exec
  have hb := B.bytes
  have hr := B.returns
  have hts := atoms_spec (ws := wsX0_clear) B.pre
  have hown : s.vm.findClass RX0 = some m.cls := findClass_of_methodNamed B.named
  have hlocks := B.notSynchronized
  have hK : va_K G.1 vwCl (kT G) s := hK
  subst hsz
  have hD := hD0.self (sz := s.heap.size)
  generalize hAe : va_A [(hC, .inr (0, [.ref f0, .ref f1, .ref f2, .int (nI k)]))] s.heap.size = A at hD ⊢
  have hA : ∀ q : Nat, s.heap.size ≤ q → A q := fun q h => by rw [← hAe]; exact Or.inr h
  have hS : va_S A s.heap s.heap [] := va_S.rf
  have hP : va_P G.1 vwCl [(hC, .inr (0, [.ref f0, .ref f1, .ref f2, .int (nI k)]))] s.heap := hP
  have hl := lv_entry ([.ref hC]) (n := 1) (Nat.le_of_ble_eq_true rfl)
  rw [lg_entry_eq]
  generalize (lg_sl ([.ref hC]) ++ List.replicate (1 - (lg_sl ([.ref hC])).length) Slot.unset).toArray = ls at hl ⊢
  have hl : lv_has ls 1 [(0, .ref hC)] := hl
  refine lv_aload_n hx hb dX0_clear_0 rfl (lv_at hl 0 rfl) ?_
  refine lv_iconst (v := (nI 0)) hx hb dX0_clear_1 (by decide) ?_
  refine va_put (D := G.1) (ci := 0) (v := .int (nI 0)) (ty := .int) (C := RX0) (T := TX0) (N := 4) hx hb hts kX0_clear_1 tyX0 tyX0_ok nmX0 hown hK hP hD hS 0 rfl rfl 3 (by decide) (hts _ kX0_clear_0) (fun _ h9 => h9) rfl (by decide +kernel) rfl rfl (Nat.le_of_ble_eq_true rfl) dX0_clear_2 (fun H locs hP hD hS => ?_)
  have hP : va_P G.1 vwCl [(hC, .inr (0, [.ref f0, .ref f1, .ref f2, .int (nI 0)]))] H := hP
  have hD : va_D A [(hC, .inr (0, [.ref f0, .ref f1, .ref f2, .int (nI 0)]))] := hD
  have hP9 := hP.sub (ws' := [(hC, .inr (0, [.ref f0, .ref f1, .ref f2, .int (nI 0)]))]) [0] rfl
  have hD9 := hD.sub (ws' := [(hC, .inr (0, [.ref f0, .ref f1, .ref f2, .int (nI 0)]))]) [0] (by decide) rfl
  exact km_vret (post := fun (u : Unit) => True) (wo := fun (u : Unit) => [(hC, .inr (0, [.ref f0, .ref f1, .ref f2, .int (nI 0)]))]) () hx hb hr hlocks hS hP9 hD9 (trivial) dX0_clear_5

theorem kX0_addStep_0 : Cond.fieldLink RX0 21 "PassNotes$Chart" "steps" "I" ∈ wsX0_addStep := by decide +kernel
theorem kX0_addStep_1 : ∀ w ∈ wsX00, w ∈ wsX0_addStep := by decide +kernel
theorem kX0_addStep_2 : Cond.fieldLink RX0 9 "PassNotes$Chart" "froms" "[I" ∈ wsX0_addStep := by decide +kernel
theorem kX0_addStep_3 : Cond.fieldLink RX0 15 "PassNotes$Chart" "tos" "[I" ∈ wsX0_addStep := by decide +kernel
theorem kX0_addStep_4 : Cond.fieldLink RX0 18 "PassNotes$Chart" "lengths" "[I" ∈ wsX0_addStep := by decide +kernel
set_option maxHeartbeats 4000000 in
set_option maxRecDepth 100000 in
theorem c_X0_addStep (l : Launch) (G : kG) (sz : Nat) (hC f0 f1 f2 k : Nat) (fr to ln : Nat → Nat) (x y z : Nat) (hk : k < 40) : Met l yX0_addStep wsX0_addStep ({ frames := 0, cells := 0, slots := 0, locals := 0 }) (kPreM G [(hC, .inr (0, [.ref f0, .ref f1, .ref f2, .int (nI k)])), (f0, .inl (G.2 0, 40, .inl (kI fr))), (f1, .inl (G.2 0, 40, .inl (kI to))), (f2, .inl (G.2 0, 40, .inl (kI ln)))] sz [.ref hC, .int (nI x), .int (nI y), .int (nI z)]) (va_Qv (fun (u : Unit) => True) (fun (u : Unit) t => kA G (va_A [(hC, .inr (0, [.ref f0, .ref f1, .ref f2, .int (nI k)])), (f0, .inl (G.2 0, 40, .inl (kI fr))), (f1, .inl (G.2 0, 40, .inl (kI to))), (f2, .inl (G.2 0, 40, .inl (kI ln)))] sz) [(hC, .inr (0, [.ref f0, .ref f1, .ref f2, .int (nI (k + 1))])), (f0, .inl (G.2 0, 40, .inl (kI (va_up fr k x)))), (f1, .inl (G.2 0, 40, .inl (kI (va_up to k y)))), (f2, .inl (G.2 0, 40, .inl (kI (va_up ln k z))))] t) (va_A [(hC, .inr (0, [.ref f0, .ref f1, .ref f2, .int (nI k)])), (f0, .inl (G.2 0, 40, .inl (kI fr))), (f1, .inl (G.2 0, 40, .inl (kI to))), (f2, .inl (G.2 0, 40, .inl (kI ln)))] sz)) 0 0 (va_A [(hC, .inr (0, [.ref f0, .ref f1, .ref f2, .int (nI k)])), (f0, .inl (G.2 0, 40, .inl (kI fr))), (f1, .inl (G.2 0, 40, .inl (kI to))), (f2, .inl (G.2 0, 40, .inl (kI ln)))] sz) := by
  refine Met.ofW (cc := cX0_addStep) (maxL := 4) (ret := none) (by decide) rfl ?_
  intro p e s m args below meth c s₁ B hml hv
  obtain ⟨rfl, hsz, hP, hK, hD0⟩ := hv
  have hx := B.exec
  have hb := B.bytes
  have hr := B.returns
  have hts := atoms_spec (ws := wsX0_addStep) B.pre
  have hown : s.vm.findClass RX0 = some m.cls := findClass_of_methodNamed B.named
  have hlocks := B.notSynchronized
  have hK : va_K G.1 vwCl (kT G) s := hK
  subst hsz
  have hD := hD0.self (sz := s.heap.size)
  generalize hAe : va_A [(hC, .inr (0, [.ref f0, .ref f1, .ref f2, .int (nI k)])), (f0, .inl (G.2 0, 40, .inl (kI fr))), (f1, .inl (G.2 0, 40, .inl (kI to))), (f2, .inl (G.2 0, 40, .inl (kI ln)))] s.heap.size = A at hD ⊢
  have hA : ∀ q : Nat, s.heap.size ≤ q → A q := fun q h => by rw [← hAe]; exact Or.inr h
  have hS : va_S A s.heap s.heap [] := va_S.rf
  have hP : va_P G.1 vwCl [(hC, .inr (0, [.ref f0, .ref f1, .ref f2, .int (nI k)])), (f0, .inl (G.2 0, 40, .inl (kI fr))), (f1, .inl (G.2 0, 40, .inl (kI to))), (f2, .inl (G.2 0, 40, .inl (kI ln)))] s.heap := hP
  have hl := lv_entry ([.ref hC, .int (nI x), .int (nI y), .int (nI z)]) (n := 4) (Nat.le_of_ble_eq_true rfl)
  rw [lg_entry_eq]
  generalize (lg_sl ([.ref hC, .int (nI x), .int (nI y), .int (nI z)]) ++ List.replicate (4 - (lg_sl ([.ref hC, .int (nI x), .int (nI y), .int (nI z)])).length) Slot.unset).toArray = ls at hl ⊢
  have hl : lv_has ls 4 [(0, .ref hC), (1, .int (nI x)), (2, .int (nI y)), (3, .int (nI z))] := hl
  refine lv_aload_n hx hb dX0_addStep_0 rfl (lv_at hl 0 rfl) ?_
  refine va_get (D := G.1) (ci := 0) (v := .int (nI k)) (C := RX0) (T := TX0) (N := 4) hx hb hts kX0_addStep_1 hown hK hP 0 rfl rfl 3 (by decide) (hts _ kX0_addStep_0) (fun _ h9 => h9) rfl dX0_addStep_1 ?_
  refine lv_aload_n hx hb dX0_addStep_4 rfl (lv_at hl 0 rfl) ?_
  refine va_get (D := G.1) (ci := 0) (v := .ref f0) (C := RX0) (T := TX0) (N := 4) hx hb hts kX0_addStep_1 hown hK hP 0 rfl rfl 0 (by decide) (hts _ kX0_addStep_2) (fun _ h9 => h9) rfl dX0_addStep_5 ?_
  refine va_alen (v := nI 40) hx hb hK hP 1 0 rfl rfl rfl dX0_addStep_8 ?_
  refine kb_ge (tgt := 52) hx hb dX0_addStep_9 (by decide) (by omega) (by decide) (fun c_1 => ?_) (fun c_1 => ?_)
  · exfalso; omega
  · refine lv_aload_n hx hb dX0_addStep_12 rfl (lv_at hl 0 rfl) ?_
    refine va_get (D := G.1) (ci := 0) (v := .ref f0) (C := RX0) (T := TX0) (N := 4) hx hb hts kX0_addStep_1 hown hK hP 0 rfl rfl 0 (by decide) (hts _ kX0_addStep_2) (fun _ h9 => h9) rfl dX0_addStep_13 ?_
    refine lv_aload_n hx hb dX0_addStep_16 rfl (lv_at hl 0 rfl) ?_
    refine va_get (D := G.1) (ci := 0) (v := .int (nI k)) (C := RX0) (T := TX0) (N := 4) hx hb hts kX0_addStep_1 hown hK hP 0 rfl rfl 3 (by decide) (hts _ kX0_addStep_0) (fun _ h9 => h9) rfl dX0_addStep_17 ?_
    refine lv_iload_n hx hb dX0_addStep_20 rfl (lv_at hl 1 rfl) ?_
    refine kr_iast (k := k) (g := (kI (va_up fr k x))) hx hb hK hP hD hS 1 0 rfl rfl (by omega) (by decide) (kI_up fr k x) dX0_addStep_21 (fun H locs hP hD hS => ?_)
    have hP : va_P G.1 vwCl [(hC, .inr (0, [.ref f0, .ref f1, .ref f2, .int (nI k)])), (f0, .inl (G.2 0, 40, .inl (kI (va_up fr k x)))), (f1, .inl (G.2 0, 40, .inl (kI to))), (f2, .inl (G.2 0, 40, .inl (kI ln)))] H := hP
    have hD : va_D A [(hC, .inr (0, [.ref f0, .ref f1, .ref f2, .int (nI k)])), (f0, .inl (G.2 0, 40, .inl (kI (va_up fr k x)))), (f1, .inl (G.2 0, 40, .inl (kI to))), (f2, .inl (G.2 0, 40, .inl (kI ln)))] := hD
    refine lv_aload_n hx hb dX0_addStep_22 rfl (lv_at hl 0 rfl) ?_
    refine va_get (D := G.1) (ci := 0) (v := .ref f1) (C := RX0) (T := TX0) (N := 4) hx hb hts kX0_addStep_1 hown hK hP 0 rfl rfl 1 (by decide) (hts _ kX0_addStep_3) (fun _ h9 => h9) rfl dX0_addStep_23 ?_
    refine lv_aload_n hx hb dX0_addStep_26 rfl (lv_at hl 0 rfl) ?_
    refine va_get (D := G.1) (ci := 0) (v := .int (nI k)) (C := RX0) (T := TX0) (N := 4) hx hb hts kX0_addStep_1 hown hK hP 0 rfl rfl 3 (by decide) (hts _ kX0_addStep_0) (fun _ h9 => h9) rfl dX0_addStep_27 ?_
    refine lv_iload_n hx hb dX0_addStep_30 rfl (lv_at hl 2 rfl) ?_
    refine kr_iast (k := k) (g := (kI (va_up to k y))) hx hb hK hP hD hS 2 0 rfl rfl (by omega) (by decide) (kI_up to k y) dX0_addStep_31 (fun H locs hP hD hS => ?_)
    have hP : va_P G.1 vwCl [(hC, .inr (0, [.ref f0, .ref f1, .ref f2, .int (nI k)])), (f0, .inl (G.2 0, 40, .inl (kI (va_up fr k x)))), (f1, .inl (G.2 0, 40, .inl (kI (va_up to k y)))), (f2, .inl (G.2 0, 40, .inl (kI ln)))] H := hP
    have hD : va_D A [(hC, .inr (0, [.ref f0, .ref f1, .ref f2, .int (nI k)])), (f0, .inl (G.2 0, 40, .inl (kI (va_up fr k x)))), (f1, .inl (G.2 0, 40, .inl (kI (va_up to k y)))), (f2, .inl (G.2 0, 40, .inl (kI ln)))] := hD
    refine lv_aload_n hx hb dX0_addStep_32 rfl (lv_at hl 0 rfl) ?_
    refine va_get (D := G.1) (ci := 0) (v := .ref f2) (C := RX0) (T := TX0) (N := 4) hx hb hts kX0_addStep_1 hown hK hP 0 rfl rfl 2 (by decide) (hts _ kX0_addStep_4) (fun _ h9 => h9) rfl dX0_addStep_33 ?_
    refine lv_aload_n hx hb dX0_addStep_36 rfl (lv_at hl 0 rfl) ?_
    refine va_get (D := G.1) (ci := 0) (v := .int (nI k)) (C := RX0) (T := TX0) (N := 4) hx hb hts kX0_addStep_1 hown hK hP 0 rfl rfl 3 (by decide) (hts _ kX0_addStep_0) (fun _ h9 => h9) rfl dX0_addStep_37 ?_
    refine lv_iload_n hx hb dX0_addStep_40 rfl (lv_at hl 3 rfl) ?_
    refine kr_iast (k := k) (g := (kI (va_up ln k z))) hx hb hK hP hD hS 3 0 rfl rfl (by omega) (by decide) (kI_up ln k z) dX0_addStep_41 (fun H locs hP hD hS => ?_)
    have hP : va_P G.1 vwCl [(hC, .inr (0, [.ref f0, .ref f1, .ref f2, .int (nI k)])), (f0, .inl (G.2 0, 40, .inl (kI (va_up fr k x)))), (f1, .inl (G.2 0, 40, .inl (kI (va_up to k y)))), (f2, .inl (G.2 0, 40, .inl (kI (va_up ln k z))))] H := hP
    have hD : va_D A [(hC, .inr (0, [.ref f0, .ref f1, .ref f2, .int (nI k)])), (f0, .inl (G.2 0, 40, .inl (kI (va_up fr k x)))), (f1, .inl (G.2 0, 40, .inl (kI (va_up to k y)))), (f2, .inl (G.2 0, 40, .inl (kI (va_up ln k z))))] := hD
    refine lv_aload_n hx hb dX0_addStep_42 rfl (lv_at hl 0 rfl) ?_
    refine lv_dup hx hb dX0_addStep_43 rfl ?_
    refine va_get (D := G.1) (ci := 0) (v := .int (nI k)) (C := RX0) (T := TX0) (N := 4) hx hb hts kX0_addStep_1 hown hK hP 0 rfl rfl 3 (by decide) (hts _ kX0_addStep_0) (fun _ h9 => h9) rfl dX0_addStep_44 ?_
    refine lv_iconst (v := (nI 1)) hx hb dX0_addStep_47 (by decide) ?_
    refine lv_iadd hx hb dX0_addStep_48 ?_
    refine kr_top (y := nI (k + 1)) (nI_add k 1) ?_
    refine va_put (D := G.1) (ci := 0) (v := .int (nI (k + 1))) (ty := .int) (C := RX0) (T := TX0) (N := 4) hx hb hts kX0_addStep_1 tyX0 tyX0_ok nmX0 hown hK hP hD hS 0 rfl rfl 3 (by decide) (hts _ kX0_addStep_0) (fun _ h9 => h9) rfl (by decide +kernel) rfl rfl (Nat.le_of_ble_eq_true rfl) dX0_addStep_49 (fun H locs hP hD hS => ?_)
    have hP : va_P G.1 vwCl [(hC, .inr (0, [.ref f0, .ref f1, .ref f2, .int (nI (k + 1))])), (f0, .inl (G.2 0, 40, .inl (kI (va_up fr k x)))), (f1, .inl (G.2 0, 40, .inl (kI (va_up to k y)))), (f2, .inl (G.2 0, 40, .inl (kI (va_up ln k z))))] H := hP
    have hD : va_D A [(hC, .inr (0, [.ref f0, .ref f1, .ref f2, .int (nI (k + 1))])), (f0, .inl (G.2 0, 40, .inl (kI (va_up fr k x)))), (f1, .inl (G.2 0, 40, .inl (kI (va_up to k y)))), (f2, .inl (G.2 0, 40, .inl (kI (va_up ln k z))))] := hD
    have hP9 := hP.sub (ws' := [(hC, .inr (0, [.ref f0, .ref f1, .ref f2, .int (nI (k + 1))])), (f0, .inl (G.2 0, 40, .inl (kI (va_up fr k x)))), (f1, .inl (G.2 0, 40, .inl (kI (va_up to k y)))), (f2, .inl (G.2 0, 40, .inl (kI (va_up ln k z))))]) [0, 1, 2, 3] rfl
    have hD9 := hD.sub (ws' := [(hC, .inr (0, [.ref f0, .ref f1, .ref f2, .int (nI (k + 1))])), (f0, .inl (G.2 0, 40, .inl (kI (va_up fr k x)))), (f1, .inl (G.2 0, 40, .inl (kI (va_up to k y)))), (f2, .inl (G.2 0, 40, .inl (kI (va_up ln k z))))]) [0, 1, 2, 3] (by decide) rfl
    exact km_vret (post := fun (u : Unit) => True) (wo := fun (u : Unit) => [(hC, .inr (0, [.ref f0, .ref f1, .ref f2, .int (nI (k + 1))])), (f0, .inl (G.2 0, 40, .inl (kI (va_up fr k x)))), (f1, .inl (G.2 0, 40, .inl (kI (va_up to k y)))), (f2, .inl (G.2 0, 40, .inl (kI (va_up ln k z))))]) () hx hb hr hlocks hS hP9 hD9 (trivial) dX0_addStep_52

theorem kX0_search_0 : Cond.fieldLink RX0 21 "PassNotes$Chart" "steps" "I" ∈ wsX0_search := by decide +kernel
theorem kX0_search_1 : ∀ w ∈ wsX00, w ∈ wsX0_search := by decide +kernel
theorem kX0_search_2 : Cond.fieldLink RX0 9 "PassNotes$Chart" "froms" "[I" ∈ wsX0_search := by decide +kernel
theorem kX0_search_3 : Cond.constant RX0 25 (1073741824) ∈ wsX0_search := by decide +kernel
theorem kX0_search_4 : Cond.fieldLink RX0 18 "PassNotes$Chart" "lengths" "[I" ∈ wsX0_search := by decide +kernel
theorem kX0_search_5 : Cond.fieldLink RX0 15 "PassNotes$Chart" "tos" "[I" ∈ wsX0_search := by decide +kernel
set_option maxHeartbeats 4000000 in
set_option maxRecDepth 100000 in
theorem c_X0_search (l : Launch) (G : kG) (sz : Nat) (hC f0 f1 f2 k : Nat) (fr to ln : Nat → Nat) (h ba : Nat) (b : Nat → Nat) (hfr : ∀ j, fr j < 10) (hto : ∀ j, to j < 10) (hln : ∀ j, ln j < 100) (hh : h < 10) (hk : k ≤ 40) : Met l yX0_search wsX0_search ({ frames := 0, cells := 0, slots := 0, locals := 0 }) (kPreM G [(hC, .inr (0, [.ref f0, .ref f1, .ref f2, .int (nI k)])), (f0, .inl (G.2 0, 40, .inl (kI fr))), (f1, .inl (G.2 0, 40, .inl (kI to))), (f2, .inl (G.2 0, 40, .inl (kI ln))), (ba, .inl (G.2 0, 10, .inl (kI b)))] sz [.ref hC, .int (nI h), .ref ba]) (va_Qv (fun (u : Unit) => True) (fun (u : Unit) t => kA G (va_A [(hC, .inr (0, [.ref f0, .ref f1, .ref f2, .int (nI k)])), (f0, .inl (G.2 0, 40, .inl (kI fr))), (f1, .inl (G.2 0, 40, .inl (kI to))), (f2, .inl (G.2 0, 40, .inl (kI ln))), (ba, .inl (G.2 0, 10, .inl (kI b)))] sz) [(hC, .inr (0, [.ref f0, .ref f1, .ref f2, .int (nI k)])), (f0, .inl (G.2 0, 40, .inl (kI fr))), (f1, .inl (G.2 0, 40, .inl (kI to))), (f2, .inl (G.2 0, 40, .inl (kI ln))), (ba, .inl (G.2 0, 10, .inl (kI (sIter h fr to ln k (sInit h b) 10))))] t) (va_A [(hC, .inr (0, [.ref f0, .ref f1, .ref f2, .int (nI k)])), (f0, .inl (G.2 0, 40, .inl (kI fr))), (f1, .inl (G.2 0, 40, .inl (kI to))), (f2, .inl (G.2 0, 40, .inl (kI ln))), (ba, .inl (G.2 0, 10, .inl (kI b)))] sz)) 0 0 (va_A [(hC, .inr (0, [.ref f0, .ref f1, .ref f2, .int (nI k)])), (f0, .inl (G.2 0, 40, .inl (kI fr))), (f1, .inl (G.2 0, 40, .inl (kI to))), (f2, .inl (G.2 0, 40, .inl (kI ln))), (ba, .inl (G.2 0, 10, .inl (kI b)))] sz) := by
  refine Met.ofW (cc := cX0_search) (maxL := 7) (ret := none) (by decide) rfl ?_
  intro p e s m args below meth c s₁ B hml hv
  obtain ⟨rfl, hsz, hP, hK, hD0⟩ := hv
  have hx := B.exec
  have hb := B.bytes
  have hr := B.returns
  have hts := atoms_spec (ws := wsX0_search) B.pre
  have hown : s.vm.findClass RX0 = some m.cls := findClass_of_methodNamed B.named
  have hlocks := B.notSynchronized
  have hK : va_K G.1 vwCl (kT G) s := hK
  subst hsz
  have hD := hD0.self (sz := s.heap.size)
  generalize hAe : va_A [(hC, .inr (0, [.ref f0, .ref f1, .ref f2, .int (nI k)])), (f0, .inl (G.2 0, 40, .inl (kI fr))), (f1, .inl (G.2 0, 40, .inl (kI to))), (f2, .inl (G.2 0, 40, .inl (kI ln))), (ba, .inl (G.2 0, 10, .inl (kI b)))] s.heap.size = A at hD ⊢
  have hA : ∀ q : Nat, s.heap.size ≤ q → A q := fun q h => by rw [← hAe]; exact Or.inr h
  have hS : va_S A s.heap s.heap [] := va_S.rf
  have hP : va_P G.1 vwCl [(hC, .inr (0, [.ref f0, .ref f1, .ref f2, .int (nI k)])), (f0, .inl (G.2 0, 40, .inl (kI fr))), (f1, .inl (G.2 0, 40, .inl (kI to))), (f2, .inl (G.2 0, 40, .inl (kI ln))), (ba, .inl (G.2 0, 10, .inl (kI b)))] s.heap := hP
  have hl := lv_entry ([.ref hC, .int (nI h), .ref ba]) (n := 7) (Nat.le_of_ble_eq_true rfl)
  rw [lg_entry_eq]
  generalize (lg_sl ([.ref hC, .int (nI h), .ref ba]) ++ List.replicate (7 - (lg_sl ([.ref hC, .int (nI h), .ref ba])).length) Slot.unset).toArray = ls at hl ⊢
  have hl : lv_has ls 7 [(0, .ref hC), (1, .int (nI h)), (2, .ref ba)] := hl
  refine lv_iconst (v := (nI 0)) hx hb dX0_search_0 (by decide) ?_
  refine lv_istore_n (lv' := [(3, .int (nI 0)), (0, .ref hC), (1, .int (nI h)), (2, .ref ba)]) hx hb dX0_search_1 rfl hl (by decide) rfl (fun ls hl => ?_)
  have hc_2 : ∀ (n : Nat) (i : Nat) (g : Nat → Nat), 10 - i < n → i ≤ 10 → g = sFill b i → ∀ (H : Heap) (locs : List Loc), va_P G.1 vwCl [(hC, .inr (0, [.ref f0, .ref f1, .ref f2, .int (nI k)])), (f0, .inl (G.2 0, 40, .inl (kI fr))), (f1, .inl (G.2 0, 40, .inl (kI to))), (f2, .inl (G.2 0, 40, .inl (kI ln))), (ba, .inl (G.2 0, 10, .inl (kI g)))] H → va_D A [(hC, .inr (0, [.ref f0, .ref f1, .ref f2, .int (nI k)])), (f0, .inl (G.2 0, 40, .inl (kI fr))), (f1, .inl (G.2 0, 40, .inl (kI to))), (f2, .inl (G.2 0, 40, .inl (kI ln))), (ba, .inl (G.2 0, 10, .inl (kI g)))] → va_S A s.heap H locs → ∀ (ls : Array Slot), lv_has ls 7 [(3, .int (nI i)), (0, .ref hC), (1, .int (nI h)), (2, .ref ba)] → W p l e (headSpec wsX0_search ({ frames := 0, cells := 0, slots := 0, locals := 0 })).room s m [.ref hC, .int (nI h), .ref ba].toArray below meth c H locs 0 0 (MQ below (va_Qv (fun (u : Unit) => True) (fun (u : Unit) t => kA G A [(hC, .inr (0, [.ref f0, .ref f1, .ref f2, .int (nI k)])), (f0, .inl (G.2 0, 40, .inl (kI fr))), (f1, .inl (G.2 0, 40, .inl (kI to))), (f2, .inl (G.2 0, 40, .inl (kI ln))), (ba, .inl (G.2 0, 10, .inl (kI (sIter h fr to ln k (sInit h b) 10))))] t) A) [.ref hC, .int (nI h), .ref ba].toArray s 0 0 A) (F0 m 2 ls []) := by
    intro n
    induction n with
    | zero =>
      intro i g hmz; exact absurd hmz (Nat.not_lt_zero _)
    | succ n ih2 =>
      intro i g hmz hi hg H locs hP hD hS ls hl
      refine lv_iload_n hx hb dX0_search_2 rfl (lv_at hl 0 rfl) ?_
      refine lv_aload_n hx hb dX0_search_3 rfl (lv_at hl 3 rfl) ?_
      refine va_alen (v := nI 10) hx hb hK hP 4 0 rfl rfl rfl dX0_search_4 ?_
      refine kb_ge (tgt := 19) hx hb dX0_search_5 (by decide) (by omega) (by decide) (fun c_1 => ?_) (fun c_1 => ?_)
      · refine lv_aload_n hx hb dX0_search_19 rfl (lv_at hl 3 rfl) ?_
        refine lv_iload_n hx hb dX0_search_20 rfl (lv_at hl 2 rfl) ?_
        refine lv_iload_n hx hb dX0_search_21 rfl (lv_at hl 2 rfl) ?_
        refine kr_iast (k := h) (g := (kI (va_up g h h))) hx hb hK hP hD hS 4 0 rfl rfl (by omega) (by decide) (kI_up g h h) dX0_search_22 (fun H locs hP hD hS => ?_)
        have hP : va_P G.1 vwCl [(hC, .inr (0, [.ref f0, .ref f1, .ref f2, .int (nI k)])), (f0, .inl (G.2 0, 40, .inl (kI fr))), (f1, .inl (G.2 0, 40, .inl (kI to))), (f2, .inl (G.2 0, 40, .inl (kI ln))), (ba, .inl (G.2 0, 10, .inl (kI (va_up g h h))))] H := hP
        have hD : va_D A [(hC, .inr (0, [.ref f0, .ref f1, .ref f2, .int (nI k)])), (f0, .inl (G.2 0, 40, .inl (kI fr))), (f1, .inl (G.2 0, 40, .inl (kI to))), (f2, .inl (G.2 0, 40, .inl (kI ln))), (ba, .inl (G.2 0, 10, .inl (kI (va_up g h h))))] := hD
        refine lv_iconst (v := (nI 1)) hx hb dX0_search_23 (by decide) ?_
        refine lv_istore_n (lv' := [(3, .int (nI 1)), (0, .ref hC), (1, .int (nI h)), (2, .ref ba)]) hx hb dX0_search_24 rfl hl (by decide) rfl (fun ls hl => ?_)
        refine lv_iconst (v := (nI 0)) hx hb dX0_search_25 (by decide) ?_
        refine lv_istore (lv' := [(4, .int (nI 0)), (3, .int (nI 1)), (0, .ref hC), (1, .int (nI h)), (2, .ref ba)]) hx hb dX0_search_26 hl (by decide) rfl (fun ls hl => ?_)
        have hc_28 : ∀ (n : Nat) (r : Nat) (t : Bool) (g : Nat → Nat), 10 - r < n → r ≤ 10 → g = sIter h fr to ln k (sInit h b) r → (∀ j, j < 10 → h ≤ g j ∧ g j ≤ 1073741824) → (t = false → sPass h fr to ln g k = g) → ∀ (H : Heap) (locs : List Loc), va_P G.1 vwCl [(hC, .inr (0, [.ref f0, .ref f1, .ref f2, .int (nI k)])), (f0, .inl (G.2 0, 40, .inl (kI fr))), (f1, .inl (G.2 0, 40, .inl (kI to))), (f2, .inl (G.2 0, 40, .inl (kI ln))), (ba, .inl (G.2 0, 10, .inl (kI g)))] H → va_D A [(hC, .inr (0, [.ref f0, .ref f1, .ref f2, .int (nI k)])), (f0, .inl (G.2 0, 40, .inl (kI fr))), (f1, .inl (G.2 0, 40, .inl (kI to))), (f2, .inl (G.2 0, 40, .inl (kI ln))), (ba, .inl (G.2 0, 10, .inl (kI g)))] → va_S A s.heap H locs → ∀ (ls : Array Slot), lv_has ls 7 [(4, .int (nI r)), (3, .int (bI t)), (0, .ref hC), (1, .int (nI h)), (2, .ref ba)] → W p l e (headSpec wsX0_search ({ frames := 0, cells := 0, slots := 0, locals := 0 })).room s m [.ref hC, .int (nI h), .ref ba].toArray below meth c H locs 0 0 (MQ below (va_Qv (fun (u : Unit) => True) (fun (u : Unit) t => kA G A [(hC, .inr (0, [.ref f0, .ref f1, .ref f2, .int (nI k)])), (f0, .inl (G.2 0, 40, .inl (kI fr))), (f1, .inl (G.2 0, 40, .inl (kI to))), (f2, .inl (G.2 0, 40, .inl (kI ln))), (ba, .inl (G.2 0, 10, .inl (kI (sIter h fr to ln k (sInit h b) 10))))] t) A) [.ref hC, .int (nI h), .ref ba].toArray s 0 0 A) (F0 m 28 ls []) := by
          intro n
          induction n with
          | zero =>
            intro r t g hmz; exact absurd hmz (Nat.not_lt_zero _)
          | succ n ih28 =>
            intro r t g hmz hr2 hg hgb ht H locs hP hD hS ls hl
            refine lv_iload hx hb dX0_search_28 (lv_at hl 0 rfl) ?_
            refine lv_bipush (v := (nI 10)) hx hb dX0_search_30 (by decide) ?_
            refine kb_ge (tgt := 157) hx hb dX0_search_32 (by decide) (by omega) (by decide) (fun c_2 => ?_) (fun c_2 => ?_)
            · obtain rfl : r = 10 := by omega
              have hfin := hg
              subst hfin
              have hP9 := hP.sub (ws' := [(hC, .inr (0, [.ref f0, .ref f1, .ref f2, .int (nI k)])), (f0, .inl (G.2 0, 40, .inl (kI fr))), (f1, .inl (G.2 0, 40, .inl (kI to))), (f2, .inl (G.2 0, 40, .inl (kI ln))), (ba, .inl (G.2 0, 10, .inl (kI (sIter h fr to ln k (sInit h b) 10))))]) [0, 1, 2, 3, 4] rfl
              have hD9 := hD.sub (ws' := [(hC, .inr (0, [.ref f0, .ref f1, .ref f2, .int (nI k)])), (f0, .inl (G.2 0, 40, .inl (kI fr))), (f1, .inl (G.2 0, 40, .inl (kI to))), (f2, .inl (G.2 0, 40, .inl (kI ln))), (ba, .inl (G.2 0, 10, .inl (kI (sIter h fr to ln k (sInit h b) 10))))]) [0, 1, 2, 3, 4] (by decide) rfl
              exact km_vret (post := fun (u : Unit) => True) (wo := fun (u : Unit) => [(hC, .inr (0, [.ref f0, .ref f1, .ref f2, .int (nI k)])), (f0, .inl (G.2 0, 40, .inl (kI fr))), (f1, .inl (G.2 0, 40, .inl (kI to))), (f2, .inl (G.2 0, 40, .inl (kI ln))), (ba, .inl (G.2 0, 10, .inl (kI (sIter h fr to ln k (sInit h b) 10))))]) () hx hb hr hlocks hS hP9 hD9 (trivial) dX0_search_157
            · refine lv_iload_n hx hb dX0_search_35 rfl (lv_at hl 1 rfl) ?_
              refine kb_eqb (tgt := 157) hx hb dX0_search_36 (by decide) (fun c_3 => ?_) (fun c_3 => ?_)
              · have hfin : g = sIter h fr to ln k (sInit h b) 10 := by have e := ht c_3; rw [hg] at e; have e2 := sIter_stop e (10 - r); rw [show r + (10 - r) = 10 by omega] at e2; rw [hg]; exact e2.symm
                subst hfin
                have hP9 := hP.sub (ws' := [(hC, .inr (0, [.ref f0, .ref f1, .ref f2, .int (nI k)])), (f0, .inl (G.2 0, 40, .inl (kI fr))), (f1, .inl (G.2 0, 40, .inl (kI to))), (f2, .inl (G.2 0, 40, .inl (kI ln))), (ba, .inl (G.2 0, 10, .inl (kI (sIter h fr to ln k (sInit h b) 10))))]) [0, 1, 2, 3, 4] rfl
                have hD9 := hD.sub (ws' := [(hC, .inr (0, [.ref f0, .ref f1, .ref f2, .int (nI k)])), (f0, .inl (G.2 0, 40, .inl (kI fr))), (f1, .inl (G.2 0, 40, .inl (kI to))), (f2, .inl (G.2 0, 40, .inl (kI ln))), (ba, .inl (G.2 0, 10, .inl (kI (sIter h fr to ln k (sInit h b) 10))))]) [0, 1, 2, 3, 4] (by decide) rfl
                exact km_vret (post := fun (u : Unit) => True) (wo := fun (u : Unit) => [(hC, .inr (0, [.ref f0, .ref f1, .ref f2, .int (nI k)])), (f0, .inl (G.2 0, 40, .inl (kI fr))), (f1, .inl (G.2 0, 40, .inl (kI to))), (f2, .inl (G.2 0, 40, .inl (kI ln))), (ba, .inl (G.2 0, 10, .inl (kI (sIter h fr to ln k (sInit h b) 10))))]) () hx hb hr hlocks hS hP9 hD9 (trivial) dX0_search_157
              · refine lv_iconst (v := (nI 0)) hx hb dX0_search_39 (by decide) ?_
                refine lv_istore_n (lv' := [(3, .int (nI 0)), (4, .int (nI r)), (0, .ref hC), (1, .int (nI h)), (2, .ref ba)]) hx hb dX0_search_40 rfl hl (by decide) rfl (fun ls hl => ?_)
                refine lv_iconst (v := (nI 0)) hx hb dX0_search_41 (by decide) ?_
                refine lv_istore (lv' := [(5, .int (nI 0)), (3, .int (nI 0)), (4, .int (nI r)), (0, .ref hC), (1, .int (nI h)), (2, .ref ba)]) hx hb dX0_search_42 hl (by decide) rfl (fun ls hl => ?_)
                have hc_44 : ∀ (n : Nat) (i : Nat) (t : Bool) (g2 : Nat → Nat), k - i < n → i ≤ k → g2 = sPass h fr to ln g i → (∀ j, j < 10 → h ≤ g2 j ∧ g2 j ≤ 1073741824) → t = sAny h fr to ln g i → ∀ (H : Heap) (locs : List Loc), va_P G.1 vwCl [(hC, .inr (0, [.ref f0, .ref f1, .ref f2, .int (nI k)])), (f0, .inl (G.2 0, 40, .inl (kI fr))), (f1, .inl (G.2 0, 40, .inl (kI to))), (f2, .inl (G.2 0, 40, .inl (kI ln))), (ba, .inl (G.2 0, 10, .inl (kI g2)))] H → va_D A [(hC, .inr (0, [.ref f0, .ref f1, .ref f2, .int (nI k)])), (f0, .inl (G.2 0, 40, .inl (kI fr))), (f1, .inl (G.2 0, 40, .inl (kI to))), (f2, .inl (G.2 0, 40, .inl (kI ln))), (ba, .inl (G.2 0, 10, .inl (kI g2)))] → va_S A s.heap H locs → ∀ (ls : Array Slot), lv_has ls 7 [(5, .int (nI i)), (3, .int (bI t)), (4, .int (nI r)), (0, .ref hC), (1, .int (nI h)), (2, .ref ba)] → W p l e (headSpec wsX0_search ({ frames := 0, cells := 0, slots := 0, locals := 0 })).room s m [.ref hC, .int (nI h), .ref ba].toArray below meth c H locs 0 0 (MQ below (va_Qv (fun (u : Unit) => True) (fun (u : Unit) t => kA G A [(hC, .inr (0, [.ref f0, .ref f1, .ref f2, .int (nI k)])), (f0, .inl (G.2 0, 40, .inl (kI fr))), (f1, .inl (G.2 0, 40, .inl (kI to))), (f2, .inl (G.2 0, 40, .inl (kI ln))), (ba, .inl (G.2 0, 10, .inl (kI (sIter h fr to ln k (sInit h b) 10))))] t) A) [.ref hC, .int (nI h), .ref ba].toArray s 0 0 A) (F0 m 44 ls []) := by
                  intro n
                  induction n with
                  | zero =>
                    intro i t g2 hmz; exact absurd hmz (Nat.not_lt_zero _)
                  | succ n ih44 =>
                    intro i t g2 hmz hi hg2 hgb2 ht2 H locs hP hD hS ls hl
                    refine lv_iload hx hb dX0_search_44 (lv_at hl 0 rfl) ?_
                    refine lv_aload_n hx hb dX0_search_46 rfl (lv_at hl 3 rfl) ?_
                    refine va_get (D := G.1) (ci := 0) (v := .int (nI k)) (C := RX0) (T := TX0) (N := 4) hx hb hts kX0_search_1 hown hK hP 0 rfl rfl 3 (by decide) (hts _ kX0_search_0) (fun _ h9 => h9) rfl dX0_search_47 ?_
                    refine kb_ge (tgt := 151) hx hb dX0_search_50 (by decide) (by omega) (by omega) (fun c_4 => ?_) (fun c_4 => ?_)
                    · refine lv_iinc (k := 2) (v := (nI (r + 1))) (lv' := [(4, .int (nI (r + 1))), (5, .int (nI i)), (3, .int (bI t)), (0, .ref hC), (1, .int (nI h)), (2, .ref ba)]) hx hb dX0_search_151 hl rfl (kn_inc r) (by decide) rfl (fun ls hl => ?_)
                      refine lv_goto (tgt := 28) hx hb dX0_search_154 (by decide) ?_
                      exact ih28 (r + 1) t g2 (by omega) (by omega) (by rw [hg2, show i = k by omega, hg]; rfl) (by exact hgb2) (by intro q; obtain rfl : i = k := (by omega); have e := sPass_no (ht2.symm.trans q); have e2 : g2 = g := hg2.trans e; rw [e2]; exact e) _ _ hP hD hS _ (lv_sub hl [0, 2, 3, 4, 5] rfl)
                    · refine lv_aload_n hx hb dX0_search_53 rfl (lv_at hl 5 rfl) ?_
                      refine lv_aload_n hx hb dX0_search_54 rfl (lv_at hl 3 rfl) ?_
                      refine va_get (D := G.1) (ci := 0) (v := .ref f0) (C := RX0) (T := TX0) (N := 4) hx hb hts kX0_search_1 hown hK hP 0 rfl rfl 0 (by decide) (hts _ kX0_search_2) (fun _ h9 => h9) rfl dX0_search_55 ?_
                      refine lv_iload hx hb dX0_search_58 (lv_at hl 0 rfl) ?_
                      refine kr_iald (k := i) (v := (nI (fr i))) hx hb hK hP 1 0 rfl rfl (by omega) (by decide) rfl dX0_search_60 ?_
                      refine kr_iald (k := (fr i)) (v := (nI (g2 (fr i)))) hx hb hK hP 4 0 rfl rfl (by exact hfr _) (by decide) rfl dX0_search_61 ?_
                      refine lv_istore (lv' := [(6, .int (nI (g2 (fr i)))), (5, .int (nI i)), (3, .int (bI t)), (4, .int (nI r)), (0, .ref hC), (1, .int (nI h)), (2, .ref ba)]) hx hb dX0_search_62 hl (by decide) rfl (fun ls hl => ?_)
                      refine lv_iload hx hb dX0_search_64 (lv_at hl 0 rfl) ?_
                      refine lv_ldc (v := (1073741824)) hx hb hown (hts _ kX0_search_3) dX0_search_66 ?_
                      refine kr_top (show ((1073741824) : Int32) = nI 1073741824 from by decide) ?_
                      refine kb_ne (tgt := 74) hx hb dX0_search_68 (by decide) (by have := hgb2 _ (hfr i); omega) (by decide) (fun c_5 => ?_) (fun c_5 => ?_)
                      · have hne := c_5
                        refine lv_iload hx hb dX0_search_74 (lv_at hl 0 rfl) ?_
                        refine lv_aload_n hx hb dX0_search_76 rfl (lv_at hl 4 rfl) ?_
                        refine va_get (D := G.1) (ci := 0) (v := .ref f2) (C := RX0) (T := TX0) (N := 4) hx hb hts kX0_search_1 hown hK hP 0 rfl rfl 2 (by decide) (hts _ kX0_search_4) (fun _ h9 => h9) rfl dX0_search_77 ?_
                        refine lv_iload hx hb dX0_search_80 (lv_at hl 1 rfl) ?_
                        refine kr_iald (k := i) (v := (nI (ln i))) hx hb hK hP 3 0 rfl rfl (by omega) (by decide) rfl dX0_search_82 ?_
                        refine lv_sipush (v := (nI 256)) hx hb dX0_search_83 (by decide) ?_
                        refine lv_imul hx hb dX0_search_86 ?_
                        refine kr_top (y := nI ((ln i) * 256)) (pk_mul (ln i) 256) ?_
                        refine lv_bipush (v := (nI 16)) hx hb dX0_search_87 (by decide) ?_
                        refine lv_iadd hx hb dX0_search_89 ?_
                        refine kr_top (y := nI (((ln i) * 256) + 16)) (nI_add ((ln i) * 256) 16) ?_
                        refine lv_iadd hx hb dX0_search_90 ?_
                        refine kr_top (y := nI ((g2 (fr i)) + (((ln i) * 256) + 16))) (nI_add (g2 (fr i)) (((ln i) * 256) + 16)) ?_
                        refine lv_istore (lv' := [(6, .int (nI ((g2 (fr i)) + (((ln i) * 256) + 16)))), (5, .int (nI i)), (3, .int (bI t)), (4, .int (nI r)), (0, .ref hC), (1, .int (nI h)), (2, .ref ba)]) hx hb dX0_search_91 hl (by decide) rfl (fun ls hl => ?_)
                        have hc_118 : ∀ (w : Nat), w = sCand h (fr i) (to i) (ln i) (g2 (fr i)) → h ≤ w → w < 2 ^ 31 → ∀ (H : Heap) (locs : List Loc), va_P G.1 vwCl [(hC, .inr (0, [.ref f0, .ref f1, .ref f2, .int (nI k)])), (f0, .inl (G.2 0, 40, .inl (kI fr))), (f1, .inl (G.2 0, 40, .inl (kI to))), (f2, .inl (G.2 0, 40, .inl (kI ln))), (ba, .inl (G.2 0, 10, .inl (kI g2)))] H → va_D A [(hC, .inr (0, [.ref f0, .ref f1, .ref f2, .int (nI k)])), (f0, .inl (G.2 0, 40, .inl (kI fr))), (f1, .inl (G.2 0, 40, .inl (kI to))), (f2, .inl (G.2 0, 40, .inl (kI ln))), (ba, .inl (G.2 0, 10, .inl (kI g2)))] → va_S A s.heap H locs → ∀ (ls : Array Slot), lv_has ls 7 [(6, .int (nI w)), (5, .int (nI i)), (3, .int (bI t)), (4, .int (nI r)), (0, .ref hC), (1, .int (nI h)), (2, .ref ba)] → W p l e (headSpec wsX0_search ({ frames := 0, cells := 0, slots := 0, locals := 0 })).room s m [.ref hC, .int (nI h), .ref ba].toArray below meth c H locs 0 0 (MQ below (va_Qv (fun (u : Unit) => True) (fun (u : Unit) t => kA G A [(hC, .inr (0, [.ref f0, .ref f1, .ref f2, .int (nI k)])), (f0, .inl (G.2 0, 40, .inl (kI fr))), (f1, .inl (G.2 0, 40, .inl (kI to))), (f2, .inl (G.2 0, 40, .inl (kI ln))), (ba, .inl (G.2 0, 10, .inl (kI (sIter h fr to ln k (sInit h b) 10))))] t) A) [.ref hC, .int (nI h), .ref ba].toArray s 0 0 A) (F0 m 118 ls []) := by
                          intro w hw hw1 hw2 H locs hP hD hS ls hl
                          refine lv_iload hx hb dX0_search_118 (lv_at hl 0 rfl) ?_
                          refine lv_aload_n hx hb dX0_search_120 rfl (lv_at hl 6 rfl) ?_
                          refine lv_aload_n hx hb dX0_search_121 rfl (lv_at hl 4 rfl) ?_
                          refine va_get (D := G.1) (ci := 0) (v := .ref f1) (C := RX0) (T := TX0) (N := 4) hx hb hts kX0_search_1 hown hK hP 0 rfl rfl 1 (by decide) (hts _ kX0_search_5) (fun _ h9 => h9) rfl dX0_search_122 ?_
                          refine lv_iload hx hb dX0_search_125 (lv_at hl 1 rfl) ?_
                          refine kr_iald (k := i) (v := (nI (to i))) hx hb hK hP 2 0 rfl rfl (by omega) (by decide) rfl dX0_search_127 ?_
                          refine kr_iald (k := (to i)) (v := (nI (g2 (to i)))) hx hb hK hP 4 0 rfl rfl (by exact hto _) (by decide) rfl dX0_search_128 ?_
                          refine kb_ge (tgt := 145) hx hb dX0_search_129 (by decide) (by have := hgb2 _ (hto i); omega) (by have := hgb2 _ (hto i); omega) (fun c_6 => ?_) (fun c_6 => ?_)
                          · have hst := sStep_b hne hw c_6
                            refine lv_iinc (k := 1) (v := (nI (i + 1))) (lv' := [(5, .int (nI (i + 1))), (6, .int (nI w)), (3, .int (bI t)), (4, .int (nI r)), (0, .ref hC), (1, .int (nI h)), (2, .ref ba)]) hx hb dX0_search_145 hl rfl (kn_inc i) (by decide) rfl (fun ls hl => ?_)
                            refine lv_goto (tgt := 44) hx hb dX0_search_148 (by decide) ?_
                            exact ih44 (i + 1) t g2 (by omega) (by omega) (by show _ = sStep h fr to ln (sPass h fr to ln g i) i; rw [← hg2, hst.1]) (by first | exact hgb2 | exact sUp_b hgb2 hw1 (by have := hgb2 _ (hto i); omega)) (by show _ = (sAny h fr to ln g i || sBet h fr to ln (sPass h fr to ln g i) i); rw [← hg2, hst.2, ← ht2]; simp) _ _ hP hD hS _ (lv_sub hl [0, 2, 3, 4, 5, 6] rfl)
                          · have hst := sStep_c hne hw c_6
                            refine lv_aload_n hx hb dX0_search_132 rfl (lv_at hl 6 rfl) ?_
                            refine lv_aload_n hx hb dX0_search_133 rfl (lv_at hl 4 rfl) ?_
                            refine va_get (D := G.1) (ci := 0) (v := .ref f1) (C := RX0) (T := TX0) (N := 4) hx hb hts kX0_search_1 hown hK hP 0 rfl rfl 1 (by decide) (hts _ kX0_search_5) (fun _ h9 => h9) rfl dX0_search_134 ?_
                            refine lv_iload hx hb dX0_search_137 (lv_at hl 1 rfl) ?_
                            refine kr_iald (k := i) (v := (nI (to i))) hx hb hK hP 2 0 rfl rfl (by omega) (by decide) rfl dX0_search_139 ?_
                            refine lv_iload hx hb dX0_search_140 (lv_at hl 0 rfl) ?_
                            refine kr_iast (k := (to i)) (g := (kI (va_up g2 (to i) w))) hx hb hK hP hD hS 4 0 rfl rfl (by exact hto _) (by decide) (kI_up g2 (to i) w) dX0_search_142 (fun H locs hP hD hS => ?_)
                            have hP : va_P G.1 vwCl [(hC, .inr (0, [.ref f0, .ref f1, .ref f2, .int (nI k)])), (f0, .inl (G.2 0, 40, .inl (kI fr))), (f1, .inl (G.2 0, 40, .inl (kI to))), (f2, .inl (G.2 0, 40, .inl (kI ln))), (ba, .inl (G.2 0, 10, .inl (kI (va_up g2 (to i) w))))] H := hP
                            have hD : va_D A [(hC, .inr (0, [.ref f0, .ref f1, .ref f2, .int (nI k)])), (f0, .inl (G.2 0, 40, .inl (kI fr))), (f1, .inl (G.2 0, 40, .inl (kI to))), (f2, .inl (G.2 0, 40, .inl (kI ln))), (ba, .inl (G.2 0, 10, .inl (kI (va_up g2 (to i) w))))] := hD
                            refine lv_iconst (v := (nI 1)) hx hb dX0_search_143 (by decide) ?_
                            refine lv_istore_n (lv' := [(3, .int (nI 1)), (6, .int (nI w)), (5, .int (nI i)), (4, .int (nI r)), (0, .ref hC), (1, .int (nI h)), (2, .ref ba)]) hx hb dX0_search_144 rfl hl (by decide) rfl (fun ls hl => ?_)
                            refine lv_iinc (k := 2) (v := (nI (i + 1))) (lv' := [(5, .int (nI (i + 1))), (3, .int (nI 1)), (6, .int (nI w)), (4, .int (nI r)), (0, .ref hC), (1, .int (nI h)), (2, .ref ba)]) hx hb dX0_search_145 hl rfl (kn_inc i) (by decide) rfl (fun ls hl => ?_)
                            refine lv_goto (tgt := 44) hx hb dX0_search_148 (by decide) ?_
                            exact ih44 (i + 1) true (va_up g2 (to i) w) (by omega) (by omega) (by show _ = sStep h fr to ln (sPass h fr to ln g i) i; rw [← hg2, hst.1]) (by first | exact hgb2 | exact sUp_b hgb2 hw1 (by have := hgb2 _ (hto i); omega)) (by show _ = (sAny h fr to ln g i || sBet h fr to ln (sPass h fr to ln g i) i); rw [← hg2, hst.2, ← ht2]; simp) _ _ hP hD hS _ (lv_sub hl [0, 1, 3, 4, 5, 6] rfl)
                        refine lv_aload_n hx hb dX0_search_93 rfl (lv_at hl 4 rfl) ?_
                        refine va_get (D := G.1) (ci := 0) (v := .ref f0) (C := RX0) (T := TX0) (N := 4) hx hb hts kX0_search_1 hown hK hP 0 rfl rfl 0 (by decide) (hts _ kX0_search_2) (fun _ h9 => h9) rfl dX0_search_94 ?_
                        refine lv_iload hx hb dX0_search_97 (lv_at hl 1 rfl) ?_
                        refine kr_iald (k := i) (v := (nI (fr i))) hx hb hK hP 1 0 rfl rfl (by omega) (by decide) rfl dX0_search_99 ?_
                        refine lv_iload_n hx hb dX0_search_100 rfl (lv_at hl 5 rfl) ?_
                        refine kb_ne (tgt := 118) hx hb dX0_search_101 (by decide) (by have := hfr i; omega) (by have := hfr i; omega) (fun c_7 => ?_) (fun c_7 => ?_)
                        · exact hc_118 ((g2 (fr i)) + (((ln i) * 256) + 16)) (by simp [sCand, *]) (by have := hgb2 _ (hfr i); omega) (by have := hgb2 _ (hfr i); have := hln i; have := hto i; omega) _ _ hP hD hS _ (lv_sub hl [0, 1, 2, 3, 4, 5, 6] rfl)
                        · refine lv_iload hx hb dX0_search_104 (lv_at hl 0 rfl) ?_
                          refine lv_aload_n hx hb dX0_search_106 rfl (lv_at hl 4 rfl) ?_
                          refine va_get (D := G.1) (ci := 0) (v := .ref f1) (C := RX0) (T := TX0) (N := 4) hx hb hts kX0_search_1 hown hK hP 0 rfl rfl 1 (by decide) (hts _ kX0_search_5) (fun _ h9 => h9) rfl dX0_search_107 ?_
                          refine lv_iload hx hb dX0_search_110 (lv_at hl 1 rfl) ?_
                          refine kr_iald (k := i) (v := (nI (to i))) hx hb hK hP 2 0 rfl rfl (by omega) (by decide) rfl dX0_search_112 ?_
                          refine lv_iload_n hx hb dX0_search_113 rfl (lv_at hl 5 rfl) ?_
                          refine lv_isub hx hb dX0_search_114 ?_
                          refine kr_top (y := (nI (to i) - nI h)) (rfl) ?_
                          refine lv_iadd hx hb dX0_search_115 ?_
                          refine kr_top (y := (nI (g2 (fr i) + (ln i * 256 + 16) + to i - h))) (nI_wth (by have := hgb2 _ (hfr i); omega)) ?_
                          refine lv_istore (lv' := [(6, .int (nI (g2 (fr i) + (ln i * 256 + 16) + to i - h))), (5, .int (nI i)), (3, .int (bI t)), (4, .int (nI r)), (0, .ref hC), (1, .int (nI h)), (2, .ref ba)]) hx hb dX0_search_116 hl (by decide) rfl (fun ls hl => ?_)
                          exact hc_118 (g2 (fr i) + (ln i * 256 + 16) + to i - h) (by simp [sCand, *]) (by have := hgb2 _ (hfr i); omega) (by have := hgb2 _ (hfr i); have := hln i; have := hto i; omega) _ _ hP hD hS _ (lv_sub hl [0, 1, 2, 3, 4, 5, 6] rfl)
                      · have hst := sStep_a (to := to) (ln := ln) (h := h) c_5
                        refine lv_goto (tgt := 145) hx hb dX0_search_71 (by decide) ?_
                        refine lv_iinc (k := 1) (v := (nI (i + 1))) (lv' := [(5, .int (nI (i + 1))), (6, .int (nI (g2 (fr i)))), (3, .int (bI t)), (4, .int (nI r)), (0, .ref hC), (1, .int (nI h)), (2, .ref ba)]) hx hb dX0_search_145 hl rfl (kn_inc i) (by decide) rfl (fun ls hl => ?_)
                        refine lv_goto (tgt := 44) hx hb dX0_search_148 (by decide) ?_
                        exact ih44 (i + 1) t g2 (by omega) (by omega) (by show _ = sStep h fr to ln (sPass h fr to ln g i) i; rw [← hg2, hst.1]) (by first | exact hgb2 | exact sUp_b hgb2 hw1 (by have := hgb2 _ (hto i); omega)) (by show _ = (sAny h fr to ln g i || sBet h fr to ln (sPass h fr to ln g i) i); rw [← hg2, hst.2, ← ht2]; simp) _ _ hP hD hS _ (lv_sub hl [0, 2, 3, 4, 5, 6] rfl)
                exact hc_44 (_ + 1) 0 false g (Nat.lt_succ_self _) (by omega) (by rfl) (by exact hgb) (by rfl) _ _ hP hD hS _ (lv_sub hl [0, 1, 2, 3, 4, 5] rfl)
        exact hc_28 (_ + 1) 0 true (va_up g h h) (Nat.lt_succ_self _) (by omega) (by rw [hg, show i = 10 by omega]; rfl) (by rw [hg, show i = 10 by omega]; exact sInit_b b hh) (by intro q; cases q) _ _ hP hD hS _ (lv_sub hl [0, 1, 2, 3, 4] rfl)
      · refine lv_aload_n hx hb dX0_search_8 rfl (lv_at hl 3 rfl) ?_
        refine lv_iload_n hx hb dX0_search_9 rfl (lv_at hl 0 rfl) ?_
        refine lv_ldc (v := (1073741824)) hx hb hown (hts _ kX0_search_3) dX0_search_10 ?_
        refine kr_top (show ((1073741824) : Int32) = nI 1073741824 from by decide) ?_
        refine kr_iast (k := i) (g := (kI (va_up g i 1073741824))) hx hb hK hP hD hS 4 0 rfl rfl (by omega) (by decide) (kI_up g i 1073741824) dX0_search_12 (fun H locs hP hD hS => ?_)
        have hP : va_P G.1 vwCl [(hC, .inr (0, [.ref f0, .ref f1, .ref f2, .int (nI k)])), (f0, .inl (G.2 0, 40, .inl (kI fr))), (f1, .inl (G.2 0, 40, .inl (kI to))), (f2, .inl (G.2 0, 40, .inl (kI ln))), (ba, .inl (G.2 0, 10, .inl (kI (va_up g i 1073741824))))] H := hP
        have hD : va_D A [(hC, .inr (0, [.ref f0, .ref f1, .ref f2, .int (nI k)])), (f0, .inl (G.2 0, 40, .inl (kI fr))), (f1, .inl (G.2 0, 40, .inl (kI to))), (f2, .inl (G.2 0, 40, .inl (kI ln))), (ba, .inl (G.2 0, 10, .inl (kI (va_up g i 1073741824))))] := hD
        refine lv_iinc (k := 0) (v := (nI (i + 1))) (lv' := [(3, .int (nI (i + 1))), (0, .ref hC), (1, .int (nI h)), (2, .ref ba)]) hx hb dX0_search_13 hl rfl (kn_inc i) (by decide) rfl (fun ls hl => ?_)
        refine lv_goto (tgt := 2) hx hb dX0_search_16 (by decide) ?_
        exact ih2 (i + 1) (va_up g i 1073741824) (by omega) (by omega) (by rw [hg]; exact sFill_succ b i) _ _ hP hD hS _ (lv_sub hl [0, 1, 2, 3] rfl)
  exact hc_2 (_ + 1) 0 b (Nat.lt_succ_self _) (by omega) (by exact (sFill_0 b).symm) _ _ hP hD hS _ (lv_sub hl [0, 1, 2, 3] rfl)
