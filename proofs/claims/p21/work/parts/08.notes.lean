set_option maxHeartbeats 4000000 in
set_option maxRecDepth 100000 in
theorem c_X2_slot (l : Launch) (G : kG) (h o : Nat)  : Met l yX2_slot wsX2_slot ({ frames := 0, cells := 0, slots := 0, locals := 0 }) (kPre G [] [.int (nI h), .int (nI o)]) (vp_Si (fun r : Int32 => r = (nI (h * 10 + o)))) 0 0 (fun _ => False) := by
  refine Met.ofW (cc := cX2_slot) (maxL := 2) (ret := (some .int)) (by decide) rfl ?_
  intro p e s m args below meth c s₁ B hml hv
  obtain ⟨rfl, hP, hK⟩ := hv
  have hx := B.exec
  have hb := B.bytes
  have hr := B.returns
  have hts := atoms_spec (ws := wsX2_slot) B.pre
  have hown : s.vm.findClass RX2 = some m.cls := findClass_of_methodNamed B.named
  have hlocks := B.notSynchronized
  have hK : va_K G.1 vwCl (kT G) s := hK
  have hP : va_P G.1 vwCl [] s.heap := hP
  have hl := lv_entry ([.int (nI h), .int (nI o)]) (n := 2) (Nat.le_of_ble_eq_true rfl)
  rw [lg_entry_eq]
  generalize (lg_sl ([.int (nI h), .int (nI o)]) ++ List.replicate (2 - (lg_sl ([.int (nI h), .int (nI o)])).length) Slot.unset).toArray = ls at hl ⊢
  have hl : lv_has ls 2 [(0, .int (nI h)), (1, .int (nI o))] := hl
  refine lv_iload_n hx hb dX2_slot_0 rfl (lv_at hl 0 rfl) ?_
  refine lv_bipush (v := (nI 10)) hx hb dX2_slot_1 (by decide) ?_
  refine lv_imul hx hb dX2_slot_3 ?_
  refine kr_top (y := nI (h * 10)) (pk_mul h 10) ?_
  refine lv_iload_n hx hb dX2_slot_4 rfl (lv_at hl 1 rfl) ?_
  refine lv_iadd hx hb dX2_slot_5 ?_
  refine kr_top (y := nI ((h * 10) + o)) (nI_add (h * 10) o) ?_
  exact kr_iret hx hb hr hlocks (rfl) dX2_slot_6

theorem kX2_minute_0 : Cond.fieldLink RX2 44 "PassNotes$Notes" "minute" "I" ∈ wsX2_minute := by decide +kernel
theorem kX2_minute_1 : ∀ w ∈ wsX20, w ∈ wsX2_minute := by decide +kernel
set_option maxHeartbeats 4000000 in
set_option maxRecDepth 100000 in
theorem c_X2_minute (l : Launch) (G : kG) (hN hL hC b0 b1 b2 b3 b4 mi : Nat)   : Met l yX2_minute wsX2_minute ({ frames := 0, cells := 0, slots := 0, locals := 0 }) (kPre G [(hN, .inr (2, [.ref hL, .ref hC, .ref b0, .ref b1, .ref b2, .ref b3, .ref b4, .int (nI mi)]))] [.ref hN]) (vp_Si (fun r : Int32 => r = (nI mi))) 0 0 (fun _ => False) := by
  refine Met.ofW (cc := cX2_minute) (maxL := 1) (ret := (some .int)) (by decide) rfl ?_
  intro p e s m args below meth c s₁ B hml hv
  obtain ⟨rfl, hP, hK⟩ := hv
  have hx := B.exec
  have hb := B.bytes
  have hr := B.returns
  have hts := atoms_spec (ws := wsX2_minute) B.pre
  have hown : s.vm.findClass RX2 = some m.cls := findClass_of_methodNamed B.named
  have hlocks := B.notSynchronized
  have hK : va_K G.1 vwCl (kT G) s := hK
  have hP : va_P G.1 vwCl [(hN, .inr (2, [.ref hL, .ref hC, .ref b0, .ref b1, .ref b2, .ref b3, .ref b4, .int (nI mi)]))] s.heap := hP
  have hl := lv_entry ([.ref hN]) (n := 1) (Nat.le_of_ble_eq_true rfl)
  rw [lg_entry_eq]
  generalize (lg_sl ([.ref hN]) ++ List.replicate (1 - (lg_sl ([.ref hN])).length) Slot.unset).toArray = ls at hl ⊢
  have hl : lv_has ls 1 [(0, .ref hN)] := hl
  refine lv_aload_n hx hb dX2_minute_0 rfl (lv_at hl 0 rfl) ?_
  refine va_get (D := G.1) (ci := 2) (v := .int (nI mi)) (C := RX2) (T := TX2) (N := 8) hx hb hts kX2_minute_1 hown hK hP 0 rfl rfl 7 (by decide) (hts _ kX2_minute_0) (fun _ h9 => h9) rfl dX2_minute_1 ?_
  exact kr_iret hx hb hr hlocks (rfl) dX2_minute_4

theorem kX2_wroteInAll_0 : Cond.fieldLink RX2 18 "PassNotes$Notes" "wrote" "[I" ∈ wsX2_wroteInAll := by decide +kernel
theorem kX2_wroteInAll_1 : ∀ w ∈ wsX20, w ∈ wsX2_wroteInAll := by decide +kernel
set_option maxHeartbeats 4000000 in
set_option maxRecDepth 100000 in
theorem c_X2_wroteInAll (l : Launch) (G : kG) (hN hL hC b0 b1 b2 b3 b4 mi : Nat) (w : Nat → Nat) (q : Nat) (hq : q < 10) : Met l yX2_wroteInAll wsX2_wroteInAll ({ frames := 0, cells := 0, slots := 0, locals := 0 }) (kPre G [(hN, .inr (2, [.ref hL, .ref hC, .ref b0, .ref b1, .ref b2, .ref b3, .ref b4, .int (nI mi)])), (b0, .inl (G.2 0, 10, .inl (kI w)))] [.ref hN, .int (nI q)]) (vp_Si (fun r : Int32 => r = (nI (w q)))) 0 0 (fun _ => False) := by
  refine Met.ofW (cc := cX2_wroteInAll) (maxL := 2) (ret := (some .int)) (by decide) rfl ?_
  intro p e s m args below meth c s₁ B hml hv
  obtain ⟨rfl, hP, hK⟩ := hv
  have hx := B.exec
  have hb := B.bytes
  have hr := B.returns
  have hts := atoms_spec (ws := wsX2_wroteInAll) B.pre
  have hown : s.vm.findClass RX2 = some m.cls := findClass_of_methodNamed B.named
  have hlocks := B.notSynchronized
  have hK : va_K G.1 vwCl (kT G) s := hK
  have hP : va_P G.1 vwCl [(hN, .inr (2, [.ref hL, .ref hC, .ref b0, .ref b1, .ref b2, .ref b3, .ref b4, .int (nI mi)])), (b0, .inl (G.2 0, 10, .inl (kI w)))] s.heap := hP
  have hl := lv_entry ([.ref hN, .int (nI q)]) (n := 2) (Nat.le_of_ble_eq_true rfl)
  rw [lg_entry_eq]
  generalize (lg_sl ([.ref hN, .int (nI q)]) ++ List.replicate (2 - (lg_sl ([.ref hN, .int (nI q)])).length) Slot.unset).toArray = ls at hl ⊢
  have hl : lv_has ls 2 [(0, .ref hN), (1, .int (nI q))] := hl
  refine lv_aload_n hx hb dX2_wroteInAll_0 rfl (lv_at hl 0 rfl) ?_
  refine va_get (D := G.1) (ci := 2) (v := .ref b0) (C := RX2) (T := TX2) (N := 8) hx hb hts kX2_wroteInAll_1 hown hK hP 0 rfl rfl 2 (by decide) (hts _ kX2_wroteInAll_0) (fun _ h9 => h9) rfl dX2_wroteInAll_1 ?_
  refine lv_iload_n hx hb dX2_wroteInAll_4 rfl (lv_at hl 1 rfl) ?_
  refine kr_iald (k := q) (v := (nI (w q))) hx hb hK hP 1 0 rfl rfl (by omega) (by decide) rfl dX2_wroteInAll_5 ?_
  exact kr_iret hx hb hr hlocks (rfl) dX2_wroteInAll_6

theorem kX2_held_0 : Cond.fieldLink RX2 33 "PassNotes$Notes" "held" "[LPassNotes$Sheet;" ∈ wsX2_held := by decide +kernel
theorem kX2_held_1 : ∀ w ∈ wsX20, w ∈ wsX2_held := by decide +kernel
set_option maxHeartbeats 4000000 in
set_option maxRecDepth 100000 in
theorem c_X2_held (l : Launch) (G : kG) (hN hL hC b0 b1 b2 b3 b4 mi : Nat) (hd : Nat → Option Nat) (h o : Nat) (hh : h < 10) (ho : o < 10) : Met l yX2_held wsX2_held ({ frames := 1, cells := 0, slots := 0, locals := 21 }) (kPre G [(hN, .inr (2, [.ref hL, .ref hC, .ref b0, .ref b1, .ref b2, .ref b3, .ref b4, .int (nI mi)])), (b3, .inl (G.2 2, 100, .inr (.inr (.inr (.inr hd)))))] [.ref hN, .int (nI h), .int (nI o)]) (va_Sq (fun r : Option Nat => r = hd (h * 10 + o))) 0 0 (fun _ => False) := by
  refine Met.ofW (cc := cX2_held) (maxL := 3) (ret := (some (.object "PassNotes$Sheet"))) (by decide) rfl ?_
  intro p e s m args below meth c s₁ B hml hv
  obtain ⟨rfl, hP, hK⟩ := hv
  have hx := B.exec
  have hb := B.bytes
  have hr := B.returns
  have hts := atoms_spec (ws := wsX2_held) B.pre
  have hown : s.vm.findClass RX2 = some m.cls := findClass_of_methodNamed B.named
  have hlocks := B.notSynchronized
  have hK : va_K G.1 vwCl (kT G) s := hK
  have hP : va_P G.1 vwCl [(hN, .inr (2, [.ref hL, .ref hC, .ref b0, .ref b1, .ref b2, .ref b3, .ref b4, .int (nI mi)])), (b3, .inl (G.2 2, 100, .inr (.inr (.inr (.inr hd)))))] s.heap := hP
  have hl := lv_entry ([.ref hN, .int (nI h), .int (nI o)]) (n := 3) (Nat.le_of_ble_eq_true rfl)
  rw [lg_entry_eq]
  generalize (lg_sl ([.ref hN, .int (nI h), .int (nI o)]) ++ List.replicate (3 - (lg_sl ([.ref hN, .int (nI h), .int (nI o)])).length) Slot.unset).toArray = ls at hl ⊢
  have hl : lv_has ls 3 [(0, .ref hN), (1, .int (nI h)), (2, .int (nI o))] := hl
  refine lv_aload_n hx hb dX2_held_0 rfl (lv_at hl 0 rfl) ?_
  refine va_get (D := G.1) (ci := 2) (v := .ref b3) (C := RX2) (T := TX2) (N := 8) hx hb hts kX2_held_1 hown hK hP 0 rfl rfl 5 (by decide) (hts _ kX2_held_0) (fun _ h9 => h9) rfl dX2_held_1 ?_
  refine lv_iload_n hx hb dX2_held_4 rfl (lv_at hl 1 rfl) ?_
  refine lv_iload_n hx hb dX2_held_5 rfl (lv_at hl 2 rfl) ?_
  refine vp_callSi (W.runS (As := [.int (nI h), .int (nI o)]) (rest := [.ref b3]) ⟨hx, hb, hml, hown, hts⟩ (c_X2_slot l G h o ) (va_cwS 2 hts gX2_held_X2_slot rfl rfl rfl (by decide +kernel) ⟨Nat.le_of_ble_eq_true rfl, Nat.le_of_ble_eq_true rfl⟩) (kPre_S (ws := []) hK (hP.sub [] rfl)) rfl rfl hl.1 rfl (lv_room (Nat.le_of_ble_eq_true rfl)) dX2_held_6 ⟨Nat.le_of_ble_eq_true rfl, Nat.le_of_ble_eq_true rfl⟩) (fun r_1 hr_1 => ?_)
  subst hr_1
  refine kr_aldq (k := (h * 10 + o)) (v := va_rf (hd (h * 10 + o))) hx hb hK hP 1 2 rfl rfl (by omega) (by decide) rfl dX2_held_9 ?_
  exact kr_qret hx hb hr hlocks (rfl) dX2_held_10

theorem kX2_sheetsOf_0 : Cond.fieldLink RX2 33 "PassNotes$Notes" "held" "[LPassNotes$Sheet;" ∈ wsX2_sheetsOf := by decide +kernel
theorem kX2_sheetsOf_1 : ∀ w ∈ wsX20, w ∈ wsX2_sheetsOf := by decide +kernel
set_option maxHeartbeats 4000000 in
set_option maxRecDepth 100000 in
theorem c_X2_sheetsOf (l : Launch) (G : kG) (hN hL hC b0 b1 b2 b3 b4 mi : Nat) (hd : Nat → Option Nat) (h : Nat) (hh : h < 10) : Met l yX2_sheetsOf wsX2_sheetsOf ({ frames := 1, cells := 0, slots := 0, locals := 21 }) (kPre G [(hN, .inr (2, [.ref hL, .ref hC, .ref b0, .ref b1, .ref b2, .ref b3, .ref b4, .int (nI mi)])), (b3, .inl (G.2 2, 100, .inr (.inr (.inr (.inr hd)))))] [.ref hN, .int (nI h)]) (vp_Si (fun r : Int32 => r = (nI (mHas hd h)))) 0 0 (fun _ => False) := by
  refine Met.ofW (cc := cX2_sheetsOf) (maxL := 4) (ret := (some .int)) (by decide) rfl ?_
  intro p e s m args below meth c s₁ B hml hv
  obtain ⟨rfl, hP, hK⟩ := hv
  have hx := B.exec
  have hb := B.bytes
  have hr := B.returns
  have hts := atoms_spec (ws := wsX2_sheetsOf) B.pre
  have hown : s.vm.findClass RX2 = some m.cls := findClass_of_methodNamed B.named
  have hlocks := B.notSynchronized
  have hK : va_K G.1 vwCl (kT G) s := hK
  have hP : va_P G.1 vwCl [(hN, .inr (2, [.ref hL, .ref hC, .ref b0, .ref b1, .ref b2, .ref b3, .ref b4, .int (nI mi)])), (b3, .inl (G.2 2, 100, .inr (.inr (.inr (.inr hd)))))] s.heap := hP
  have hl := lv_entry ([.ref hN, .int (nI h)]) (n := 4) (Nat.le_of_ble_eq_true rfl)
  rw [lg_entry_eq]
  generalize (lg_sl ([.ref hN, .int (nI h)]) ++ List.replicate (4 - (lg_sl ([.ref hN, .int (nI h)])).length) Slot.unset).toArray = ls at hl ⊢
  have hl : lv_has ls 4 [(0, .ref hN), (1, .int (nI h))] := hl
  refine lv_iconst (v := (nI 0)) hx hb dX2_sheetsOf_0 (by decide) ?_
  refine lv_istore_n (lv' := [(2, .int (nI 0)), (0, .ref hN), (1, .int (nI h))]) hx hb dX2_sheetsOf_1 rfl hl (by decide) rfl (fun ls hl => ?_)
  refine lv_iconst (v := (nI 0)) hx hb dX2_sheetsOf_2 (by decide) ?_
  refine lv_istore_n (lv' := [(3, .int (nI 0)), (2, .int (nI 0)), (0, .ref hN), (1, .int (nI h))]) hx hb dX2_sheetsOf_3 rfl hl (by decide) rfl (fun ls hl => ?_)
  have hc_4 : ∀ (n : Nat) (o k : Nat), 10 - o < n → o ≤ 10 → k = mCnt (fun o => mSome (hd (h * 10 + o))) o → ∀ (ls : Array Slot), lv_has ls 4 [(3, .int (nI o)), (2, .int (nI k)), (0, .ref hN), (1, .int (nI h))] → W p l e (headSpec wsX2_sheetsOf ({ frames := 1, cells := 0, slots := 0, locals := 21 })).room s m [.ref hN, .int (nI h)].toArray below meth c s.heap [] 0 0 (MQ below (vp_Si (fun r : Int32 => r = (nI (mHas hd h)))) [.ref hN, .int (nI h)].toArray s 0 0 (fun _ => False)) (F0 m 4 ls []) := by
    intro n
    induction n with
    | zero =>
      intro o k hmz; exact absurd hmz (Nat.not_lt_zero _)
    | succ n ih4 =>
      intro o k hmz ho hk ls hl
      refine lv_iload_n hx hb dX2_sheetsOf_4 rfl (lv_at hl 0 rfl) ?_
      refine lv_bipush (v := (nI 10)) hx hb dX2_sheetsOf_5 (by decide) ?_
      refine kb_ge (tgt := 32) hx hb dX2_sheetsOf_7 (by decide) (by omega) (by decide) (fun c_1 => ?_) (fun c_1 => ?_)
      · refine lv_iload_n hx hb dX2_sheetsOf_32 rfl (lv_at hl 1 rfl) ?_
        exact kr_iret hx hb hr hlocks (by unfold mHas; rw [hk, show o = 10 by omega]) dX2_sheetsOf_33
      · refine lv_aload_n hx hb dX2_sheetsOf_10 rfl (lv_at hl 2 rfl) ?_
        refine va_get (D := G.1) (ci := 2) (v := .ref b3) (C := RX2) (T := TX2) (N := 8) hx hb hts kX2_sheetsOf_1 hown hK hP 0 rfl rfl 5 (by decide) (hts _ kX2_sheetsOf_0) (fun _ h9 => h9) rfl dX2_sheetsOf_11 ?_
        refine lv_iload_n hx hb dX2_sheetsOf_14 rfl (lv_at hl 3 rfl) ?_
        refine lv_iload_n hx hb dX2_sheetsOf_15 rfl (lv_at hl 0 rfl) ?_
        refine vp_callSi (W.runS (As := [.int (nI h), .int (nI o)]) (rest := [.ref b3]) ⟨hx, hb, hml, hown, hts⟩ (c_X2_slot l G h o ) (va_cwS 2 hts gX2_sheetsOf_X2_slot rfl rfl rfl (by decide +kernel) ⟨Nat.le_of_ble_eq_true rfl, Nat.le_of_ble_eq_true rfl⟩) (kPre_S (ws := []) hK (hP.sub [] rfl)) rfl rfl hl.1 rfl (lv_room (Nat.le_of_ble_eq_true rfl)) dX2_sheetsOf_16 ⟨Nat.le_of_ble_eq_true rfl, Nat.le_of_ble_eq_true rfl⟩) (fun r_2 hr_2 => ?_)
        subst hr_2
        refine kr_aldq (k := (h * 10 + o)) (v := va_rf (hd (h * 10 + o))) hx hb hK hP 1 2 rfl rfl (by omega) (by decide) rfl dX2_sheetsOf_19 ?_
        refine kb_null (tgt := 26) hx hb dX2_sheetsOf_20 (by decide) (fun c_4 => ?_) (fun y_3 c_4 => ?_)
        · refine lv_iinc (k := 0) (v := (nI (o + 1))) (lv' := [(3, .int (nI (o + 1))), (2, .int (nI k)), (0, .ref hN), (1, .int (nI h))]) hx hb dX2_sheetsOf_26 hl rfl (kn_inc o) (by decide) rfl (fun ls hl => ?_)
          refine lv_goto (tgt := 4) hx hb dX2_sheetsOf_29 (by decide) ?_
          exact ih4 (o + 1) k (by omega) (by omega) (by rw [mCnt_succ, ← hk]; simp [mSome, *]) _ (lv_sub hl [0, 1, 2, 3] rfl)
        · refine lv_iinc (k := 1) (v := (nI (k + 1))) (lv' := [(2, .int (nI (k + 1))), (3, .int (nI o)), (0, .ref hN), (1, .int (nI h))]) hx hb dX2_sheetsOf_23 hl rfl (kn_inc k) (by decide) rfl (fun ls hl => ?_)
          refine lv_iinc (k := 1) (v := (nI (o + 1))) (lv' := [(3, .int (nI (o + 1))), (2, .int (nI (k + 1))), (0, .ref hN), (1, .int (nI h))]) hx hb dX2_sheetsOf_26 hl rfl (kn_inc o) (by decide) rfl (fun ls hl => ?_)
          refine lv_goto (tgt := 4) hx hb dX2_sheetsOf_29 (by decide) ?_
          exact ih4 (o + 1) (k + 1) (by omega) (by omega) (by rw [mCnt_succ, ← hk]; simp [mSome, *]) _ (lv_sub hl [0, 1, 2, 3] rfl)
  exact hc_4 (_ + 1) 0 0 (Nat.lt_succ_self _) (by omega) (by rfl) _ (lv_sub hl [0, 1, 2, 3] rfl)

theorem kX2_sheets_0 : Cond.fieldLink RX2 40 "PassNotes$Notes" "land" "LPassNotes$Land;" ∈ wsX2_sheets := by decide +kernel
theorem kX2_sheets_1 : ∀ w ∈ wsX20, w ∈ wsX2_sheets := by decide +kernel
set_option maxHeartbeats 4000000 in
set_option maxRecDepth 100000 in
theorem c_X2_sheets (l : Launch) (G : kG) (hN hL hC b0 b1 b2 b3 b4 mi : Nat) (a0 a1 a2 a3 a4 : Nat) (nh np : Nat) (hd : Nat → Option Nat) (hnh : nh ≤ 10) : Met l yX2_sheets wsX2_sheets ({ frames := 2, cells := 0, slots := 0, locals := 44 }) (kPre G [(hN, .inr (2, [.ref hL, .ref hC, .ref b0, .ref b1, .ref b2, .ref b3, .ref b4, .int (nI mi)])), (hL, .inr (1, [.ref a0, .ref a1, .ref a2, .ref a3, .ref a4, .int (nI nh), .int (nI np)])), (b3, .inl (G.2 2, 100, .inr (.inr (.inr (.inr hd)))))] [.ref hN]) (vp_Si (fun r : Int32 => r = (nI (mSum (mHas hd) nh)))) 0 0 (fun _ => False) := by
  refine Met.ofW (cc := cX2_sheets) (maxL := 3) (ret := (some .int)) (by decide) rfl ?_
  intro p e s m args below meth c s₁ B hml hv
  obtain ⟨rfl, hP, hK⟩ := hv
  have hx := B.exec
  have hb := B.bytes
  have hr := B.returns
  have hts := atoms_spec (ws := wsX2_sheets) B.pre
  have hown : s.vm.findClass RX2 = some m.cls := findClass_of_methodNamed B.named
  have hlocks := B.notSynchronized
  have hK : va_K G.1 vwCl (kT G) s := hK
  have hP : va_P G.1 vwCl [(hN, .inr (2, [.ref hL, .ref hC, .ref b0, .ref b1, .ref b2, .ref b3, .ref b4, .int (nI mi)])), (hL, .inr (1, [.ref a0, .ref a1, .ref a2, .ref a3, .ref a4, .int (nI nh), .int (nI np)])), (b3, .inl (G.2 2, 100, .inr (.inr (.inr (.inr hd)))))] s.heap := hP
  have hl := lv_entry ([.ref hN]) (n := 3) (Nat.le_of_ble_eq_true rfl)
  rw [lg_entry_eq]
  generalize (lg_sl ([.ref hN]) ++ List.replicate (3 - (lg_sl ([.ref hN])).length) Slot.unset).toArray = ls at hl ⊢
  have hl : lv_has ls 3 [(0, .ref hN)] := hl
  refine lv_iconst (v := (nI 0)) hx hb dX2_sheets_0 (by decide) ?_
  refine lv_istore_n (lv' := [(1, .int (nI 0)), (0, .ref hN)]) hx hb dX2_sheets_1 rfl hl (by decide) rfl (fun ls hl => ?_)
  refine lv_iconst (v := (nI 0)) hx hb dX2_sheets_2 (by decide) ?_
  refine lv_istore_n (lv' := [(2, .int (nI 0)), (1, .int (nI 0)), (0, .ref hN)]) hx hb dX2_sheets_3 rfl hl (by decide) rfl (fun ls hl => ?_)
  have hc_4 : ∀ (n : Nat) (i k : Nat), nh - i < n → i ≤ nh → k = mSum (mHas hd) i → ∀ (ls : Array Slot), lv_has ls 3 [(2, .int (nI i)), (1, .int (nI k)), (0, .ref hN)] → W p l e (headSpec wsX2_sheets ({ frames := 2, cells := 0, slots := 0, locals := 44 })).room s m [.ref hN].toArray below meth c s.heap [] 0 0 (MQ below (vp_Si (fun r : Int32 => r = (nI (mSum (mHas hd) nh)))) [.ref hN].toArray s 0 0 (fun _ => False)) (F0 m 4 ls []) := by
    intro n
    induction n with
    | zero =>
      intro i k hmz; exact absurd hmz (Nat.not_lt_zero _)
    | succ n ih4 =>
      intro i k hmz hi hk ls hl
      refine lv_iload_n hx hb dX2_sheets_4 rfl (lv_at hl 0 rfl) ?_
      refine lv_aload_n hx hb dX2_sheets_5 rfl (lv_at hl 2 rfl) ?_
      refine va_get (D := G.1) (ci := 2) (v := .ref hL) (C := RX2) (T := TX2) (N := 8) hx hb hts kX2_sheets_1 hown hK hP 0 rfl rfl 0 (by decide) (hts _ kX2_sheets_0) (fun _ h9 => h9) rfl dX2_sheets_6 ?_
      refine vp_callSi (W.runV (As := []) (rest := [.int (nI i)]) ⟨hx, hb, hml, hown, hts⟩ (c_X1_huts l G hL a0 a1 a2 a3 a4 nh np ) (cwV 0 hts gX2_sheets_X1_huts rfl rfl rfl (by decide +kernel) ⟨Nat.le_of_ble_eq_true rfl, Nat.le_of_ble_eq_true rfl⟩) (kPre_V (ws := [(hL, .inr (1, [.ref a0, .ref a1, .ref a2, .ref a3, .ref a4, .int (nI nh), .int (nI np)]))]) hK (hP.sub (ws' := [(hL, .inr (1, [.ref a0, .ref a1, .ref a2, .ref a3, .ref a4, .int (nI nh), .int (nI np)]))]) [1] rfl) (RX1, TX1, 7) 0 rfl rfl) rfl rfl hl.1 rfl (lv_room (Nat.le_of_ble_eq_true rfl)) dX2_sheets_9 ⟨Nat.le_of_ble_eq_true rfl, Nat.le_of_ble_eq_true rfl⟩) (fun r_1 hr_1 => ?_)
      subst hr_1
      refine kb_ge (tgt := 29) hx hb dX2_sheets_12 (by decide) (by omega) (by omega) (fun c_2 => ?_) (fun c_2 => ?_)
      · refine lv_iload_n hx hb dX2_sheets_29 rfl (lv_at hl 1 rfl) ?_
        exact kr_iret hx hb hr hlocks (by rw [hk, show i = nh by omega]) dX2_sheets_30
      · refine lv_iload_n hx hb dX2_sheets_15 rfl (lv_at hl 1 rfl) ?_
        refine lv_aload_n hx hb dX2_sheets_16 rfl (lv_at hl 2 rfl) ?_
        refine lv_iload_n hx hb dX2_sheets_17 rfl (lv_at hl 0 rfl) ?_
        refine vp_callSi (W.runV (As := [.int (nI i)]) (rest := [.int (nI k)]) ⟨hx, hb, hml, hown, hts⟩ (c_X2_sheetsOf l G hN hL hC b0 b1 b2 b3 b4 mi hd i (by omega)) (cwV 1 hts gX2_sheets_X2_sheetsOf rfl rfl rfl (by decide +kernel) ⟨Nat.le_of_ble_eq_true rfl, Nat.le_of_ble_eq_true rfl⟩) (kPre_V (ws := [(hN, .inr (2, [.ref hL, .ref hC, .ref b0, .ref b1, .ref b2, .ref b3, .ref b4, .int (nI mi)])), (b3, .inl (G.2 2, 100, .inr (.inr (.inr (.inr hd)))))]) hK (hP.sub (ws' := [(hN, .inr (2, [.ref hL, .ref hC, .ref b0, .ref b1, .ref b2, .ref b3, .ref b4, .int (nI mi)])), (b3, .inl (G.2 2, 100, .inr (.inr (.inr (.inr hd)))))]) [0, 2] rfl) (RX2, TX2, 8) 0 rfl rfl) rfl rfl hl.1 rfl (lv_room (Nat.le_of_ble_eq_true rfl)) dX2_sheets_18 ⟨Nat.le_of_ble_eq_true rfl, Nat.le_of_ble_eq_true rfl⟩) (fun r_3 hr_3 => ?_)
        subst hr_3
        refine lv_iadd hx hb dX2_sheets_21 ?_
        refine kr_top (y := nI (k + (mHas hd i))) (nI_add k (mHas hd i)) ?_
        refine lv_istore_n (lv' := [(1, .int (nI (k + (mHas hd i)))), (2, .int (nI i)), (0, .ref hN)]) hx hb dX2_sheets_22 rfl hl (by decide) rfl (fun ls hl => ?_)
        refine lv_iinc (k := 1) (v := (nI (i + 1))) (lv' := [(2, .int (nI (i + 1))), (1, .int (nI (k + (mHas hd i)))), (0, .ref hN)]) hx hb dX2_sheets_23 hl rfl (kn_inc i) (by decide) rfl (fun ls hl => ?_)
        refine lv_goto (tgt := 4) hx hb dX2_sheets_26 (by decide) ?_
        exact ih4 (i + 1) (k + (mHas hd i)) (by omega) (by omega) (by rw [mSum_succ, ← hk]) _ (lv_sub hl [0, 1, 2] rfl)
  exact hc_4 (_ + 1) 0 0 (Nat.lt_succ_self _) (by omega) (by rfl) _ (lv_sub hl [0, 1, 2] rfl)

theorem kX2_ages_0 : Cond.fieldLink RX2 33 "PassNotes$Notes" "held" "[LPassNotes$Sheet;" ∈ wsX2_ages := by decide +kernel
theorem kX2_ages_1 : ∀ w ∈ wsX20, w ∈ wsX2_ages := by decide +kernel
theorem kX2_ages_2 : Cond.fieldLink RX2 44 "PassNotes$Notes" "minute" "I" ∈ wsX2_ages := by decide +kernel
set_option maxHeartbeats 4000000 in
set_option maxRecDepth 100000 in
theorem c_X2_ages (l : Launch) (G : kG) (hN hL hC b0 b1 b2 b3 b4 mi : Nat) (L : List Nat) (f : Nat → va_E) (sv : Nat → mS) (hd : Nat → Option Nat) (hhd : kHeld G L f sv hd) (hag : ∀ j y, hd j = some y → (sv y).2.1 ≤ mi) : Met l yX2_ages wsX2_ages ({ frames := 1, cells := 0, slots := 0, locals := 21 }) (kPre G ([(hN, .inr (2, [.ref hL, .ref hC, .ref b0, .ref b1, .ref b2, .ref b3, .ref b4, .int (nI mi)])), (b3, .inl (G.2 2, 100, .inr (.inr (.inr (.inr hd)))))] ++ va_pl L f) [.ref hN]) (vp_Si (fun r : Int32 => r = (nI (mSum (fun j => mAge sv mi (hd j)) 100)))) 0 0 (fun _ => False) := by
  refine Met.ofW (cc := cX2_ages) (maxL := 4) (ret := (some .int)) (by decide) rfl ?_
  intro p e s m args below meth c s₁ B hml hv
  obtain ⟨rfl, hP, hK⟩ := hv
  have hx := B.exec
  have hb := B.bytes
  have hr := B.returns
  have hts := atoms_spec (ws := wsX2_ages) B.pre
  have hown : s.vm.findClass RX2 = some m.cls := findClass_of_methodNamed B.named
  have hlocks := B.notSynchronized
  have hK : va_K G.1 vwCl (kT G) s := hK
  have hP : va_P G.1 vwCl ([(hN, .inr (2, [.ref hL, .ref hC, .ref b0, .ref b1, .ref b2, .ref b3, .ref b4, .int (nI mi)])), (b3, .inl (G.2 2, 100, .inr (.inr (.inr (.inr hd)))))] ++ va_pl L f) s.heap := hP
  have hl := lv_entry ([.ref hN]) (n := 4) (Nat.le_of_ble_eq_true rfl)
  rw [lg_entry_eq]
  generalize (lg_sl ([.ref hN]) ++ List.replicate (4 - (lg_sl ([.ref hN])).length) Slot.unset).toArray = ls at hl ⊢
  have hl : lv_has ls 4 [(0, .ref hN)] := hl
  refine lv_iconst (v := (nI 0)) hx hb dX2_ages_0 (by decide) ?_
  refine lv_istore_n (lv' := [(1, .int (nI 0)), (0, .ref hN)]) hx hb dX2_ages_1 rfl hl (by decide) rfl (fun ls hl => ?_)
  refine lv_iconst (v := (nI 0)) hx hb dX2_ages_2 (by decide) ?_
  refine lv_istore_n (lv' := [(2, .int (nI 0)), (1, .int (nI 0)), (0, .ref hN)]) hx hb dX2_ages_3 rfl hl (by decide) rfl (fun ls hl => ?_)
  have hc_4 : ∀ (n : Nat) (i k : Nat), 100 - i < n → i ≤ 100 → k = mSum (fun j => mAge sv mi (hd j)) i → ∀ (ls : Array Slot), lv_has ls 4 [(2, .int (nI i)), (1, .int (nI k)), (0, .ref hN)] → W p l e (headSpec wsX2_ages ({ frames := 1, cells := 0, slots := 0, locals := 21 })).room s m [.ref hN].toArray below meth c s.heap [] 0 0 (MQ below (vp_Si (fun r : Int32 => r = (nI (mSum (fun j => mAge sv mi (hd j)) 100)))) [.ref hN].toArray s 0 0 (fun _ => False)) (F0 m 4 ls []) := by
    intro n
    induction n with
    | zero =>
      intro i k hmz; exact absurd hmz (Nat.not_lt_zero _)
    | succ n ih4 =>
      intro i k hmz hi hk ls hl
      refine lv_iload_n hx hb dX2_ages_4 rfl (lv_at hl 0 rfl) ?_
      refine lv_aload_n hx hb dX2_ages_5 rfl (lv_at hl 2 rfl) ?_
      refine va_get (D := G.1) (ci := 2) (v := .ref b3) (C := RX2) (T := TX2) (N := 8) hx hb hts kX2_ages_1 hown hK hP 0 rfl rfl 5 (by decide) (hts _ kX2_ages_0) (fun _ h9 => h9) rfl dX2_ages_6 ?_
      refine va_alen (v := nI 100) hx hb hK hP 1 2 rfl rfl rfl dX2_ages_9 ?_
      refine kb_ge (tgt := 41) hx hb dX2_ages_10 (by decide) (by omega) (by decide) (fun c_1 => ?_) (fun c_1 => ?_)
      · refine lv_iload_n hx hb dX2_ages_41 rfl (lv_at hl 1 rfl) ?_
        exact kr_iret hx hb hr hlocks (by rw [hk, show i = 100 by omega]) dX2_ages_42
      · refine lv_aload_n hx hb dX2_ages_13 rfl (lv_at hl 2 rfl) ?_
        refine va_get (D := G.1) (ci := 2) (v := .ref b3) (C := RX2) (T := TX2) (N := 8) hx hb hts kX2_ages_1 hown hK hP 0 rfl rfl 5 (by decide) (hts _ kX2_ages_0) (fun _ h9 => h9) rfl dX2_ages_14 ?_
        refine lv_iload_n hx hb dX2_ages_17 rfl (lv_at hl 0 rfl) ?_
        refine kr_aldq (k := i) (v := va_rf (hd i)) hx hb hK hP 1 2 rfl rfl (by omega) (by decide) rfl dX2_ages_18 ?_
        refine kq_astore_n (lv' := [(3, va_rf (hd i)), (2, .int (nI i)), (1, .int (nI k)), (0, .ref hN)]) hx hb dX2_ages_19 rfl hl (by decide) rfl (fun ls hl => ?_)
        refine kq_aload_n hx hb dX2_ages_20 rfl (lv_at hl 0 rfl) ?_
        refine kb_null (tgt := 35) hx hb dX2_ages_21 (by decide) (fun c_3 => ?_) (fun y_2 c_3 => ?_)
        · rw [c_3] at hl
          have hl : lv_has ls 4 [(3, .null), (2, .int (nI i)), (1, .int (nI k)), (0, .ref hN)] := hl
          have hc := c_3
          refine lv_iinc (k := 1) (v := (nI (i + 1))) (lv' := [(2, .int (nI (i + 1))), (3, .null), (1, .int (nI k)), (0, .ref hN)]) hx hb dX2_ages_35 hl rfl (kn_inc i) (by decide) rfl (fun ls hl => ?_)
          refine lv_goto (tgt := 4) hx hb dX2_ages_38 (by decide) ?_
          exact ih4 (i + 1) k (by omega) (by omega) (by rw [mSum_succ, ← hk, hc]; rfl) _ (lv_sub hl [0, 2, 3] rfl)
        · rw [c_3] at hl
          have hl : lv_has ls 4 [(3, .ref y_2), (2, .int (nI i)), (1, .int (nI k)), (0, .ref hN)] := hl
          have hc := c_3
          have hag1 := hag _ _ c_3
          obtain ⟨hyz_4, lyz_4, hlz_4, hfz_4, hgz_4, hnz_4, h1z_4, h2z_4⟩ := hhd _ _ c_3
          refine lv_iload_n hx hb dX2_ages_24 rfl (lv_at hl 2 rfl) ?_
          refine lv_aload_n hx hb dX2_ages_25 rfl (lv_at hl 0 rfl) ?_
          refine lv_aload_n hx hb dX2_ages_26 rfl (lv_at hl 3 rfl) ?_
          refine va_get (D := G.1) (ci := 2) (v := .int (nI mi)) (C := RX2) (T := TX2) (N := 8) hx hb hts kX2_ages_1 hown hK hP 0 rfl rfl 7 (by decide) (hts _ kX2_ages_2) (fun _ h9 => h9) rfl dX2_ages_27 ?_
          refine vp_callSi (W.runV (As := [.int (nI mi)]) (rest := [.int (nI k)]) ⟨hx, hb, hml, hown, hts⟩ (c_X3_age l G y_2 ((sv y_2).1) ((sv y_2).2.1) lyz_4 mi (by omega)) (cwV 1 hts gX2_ages_X3_age rfl rfl rfl (by decide +kernel) ⟨Nat.le_of_ble_eq_true rfl, Nat.le_of_ble_eq_true rfl⟩) (kPre_V (ws := [(y_2, .inr (3, [.int (nI ((sv y_2).1)), .int (nI ((sv y_2).2.1)), .ref lyz_4]))]) hK (kp_one hP hyz_4 hfz_4) (RX3, TX3, 3) 0 rfl rfl) rfl rfl hl.1 rfl (lv_room (Nat.le_of_ble_eq_true rfl)) dX2_ages_30 ⟨Nat.le_of_ble_eq_true rfl, Nat.le_of_ble_eq_true rfl⟩) (fun r_5 hr_5 => ?_)
          subst hr_5
          refine lv_iadd hx hb dX2_ages_33 ?_
          refine kr_top (y := nI (k + (mi - ((sv y_2).2.1)))) (nI_add k (mi - ((sv y_2).2.1))) ?_
          refine lv_istore_n (lv' := [(1, .int (nI (k + (mi - ((sv y_2).2.1))))), (3, .ref y_2), (2, .int (nI i)), (0, .ref hN)]) hx hb dX2_ages_34 rfl hl (by decide) rfl (fun ls hl => ?_)
          refine lv_iinc (k := 2) (v := (nI (i + 1))) (lv' := [(2, .int (nI (i + 1))), (1, .int (nI (k + (mi - ((sv y_2).2.1))))), (3, .ref y_2), (0, .ref hN)]) hx hb dX2_ages_35 hl rfl (kn_inc i) (by decide) rfl (fun ls hl => ?_)
          refine lv_goto (tgt := 4) hx hb dX2_ages_38 (by decide) ?_
          exact ih4 (i + 1) (k + (mi - ((sv y_2).2.1))) (by omega) (by omega) (by rw [mSum_succ, ← hk, hc]; rfl) _ (lv_sub hl [0, 1, 3] rfl)
  exact hc_4 (_ + 1) 0 0 (Nat.lt_succ_self _) (by omega) (by rfl) _ (lv_sub hl [0, 1, 2] rfl)

set_option maxHeartbeats 4000000 in
set_option maxRecDepth 100000 in
theorem c_X2_isNewer_n (l : Launch) (G : kG) (hN hL hC b0 b1 b2 b3 b4 mi : Nat) (L : List Nat) (f : Nat → va_E) (sv : Nat → mS) (y : Nat) (hy : kSheet G L f y (sv y)) : Met l yX2_isNewer wsX2_isNewer ({ frames := 1, cells := 0, slots := 0, locals := 20 }) (kPre G ([(hN, .inr (2, [.ref hL, .ref hC, .ref b0, .ref b1, .ref b2, .ref b3, .ref b4, .int (nI mi)]))] ++ va_pl L f) [.ref hN, .ref y, .null]) (vp_Si (fun r : Int32 => r = (bI (mNewer sv y (none))))) 0 0 (fun _ => False) := by
  refine Met.ofW (cc := cX2_isNewer) (maxL := 3) (ret := (some .boolean)) (by decide) rfl ?_
  intro p e s m args below meth c s₁ B hml hv
  obtain ⟨rfl, hP, hK⟩ := hv
  have hx := B.exec
  have hb := B.bytes
  have hr := B.returns
  have hts := atoms_spec (ws := wsX2_isNewer) B.pre
  have hown : s.vm.findClass RX2 = some m.cls := findClass_of_methodNamed B.named
  have hlocks := B.notSynchronized
  have hK : va_K G.1 vwCl (kT G) s := hK
  have hP : va_P G.1 vwCl ([(hN, .inr (2, [.ref hL, .ref hC, .ref b0, .ref b1, .ref b2, .ref b3, .ref b4, .int (nI mi)]))] ++ va_pl L f) s.heap := hP
  have hl := lv_entry ([.ref hN, .ref y, .null]) (n := 3) (Nat.le_of_ble_eq_true rfl)
  rw [lg_entry_eq]
  generalize (lg_sl ([.ref hN, .ref y, .null]) ++ List.replicate (3 - (lg_sl ([.ref hN, .ref y, .null])).length) Slot.unset).toArray = ls at hl ⊢
  have hl : lv_has ls 3 [(0, .ref hN), (1, .ref y), (2, .null)] := hl
  obtain ⟨hyz_1, lyz_1, hlz_1, hfz_1, hgz_1, hnz_1, h1z_1, h2z_1⟩ := hy
  refine lv_aload_nN hx hb dX2_isNewer_0 rfl (lv_at hl 2 rfl) ?_
  refine lv_ifnullN (tgt := 15) hx hb dX2_isNewer_1 (by decide) ?_
  refine lv_iconst (v := (nI 1)) hx hb dX2_isNewer_15 (by decide) ?_
  refine lv_goto (tgt := 20) hx hb dX2_isNewer_16 (by decide) ?_
  exact kr_zret hx hb hr hlocks rfl (by first | exact bI_one rfl | exact bI_one (decide_eq_true (by omega)) | exact bI_zero (decide_eq_false (by omega))) dX2_isNewer_20

set_option maxHeartbeats 4000000 in
set_option maxRecDepth 100000 in
theorem c_X2_isNewer_s (l : Launch) (G : kG) (hN hL hC b0 b1 b2 b3 b4 mi : Nat) (L : List Nat) (f : Nat → va_E) (sv : Nat → mS) (y : Nat) (z : Nat) (hy : kSheet G L f y (sv y)) (hz : kSheet G L f z (sv z)) : Met l yX2_isNewer wsX2_isNewer ({ frames := 1, cells := 0, slots := 0, locals := 20 }) (kPre G ([(hN, .inr (2, [.ref hL, .ref hC, .ref b0, .ref b1, .ref b2, .ref b3, .ref b4, .int (nI mi)]))] ++ va_pl L f) [.ref hN, .ref y, .ref z]) (vp_Si (fun r : Int32 => r = (bI (mNewer sv y (some z))))) 0 0 (fun _ => False) := by
  refine Met.ofW (cc := cX2_isNewer) (maxL := 3) (ret := (some .boolean)) (by decide) rfl ?_
  intro p e s m args below meth c s₁ B hml hv
  obtain ⟨rfl, hP, hK⟩ := hv
  have hx := B.exec
  have hb := B.bytes
  have hr := B.returns
  have hts := atoms_spec (ws := wsX2_isNewer) B.pre
  have hown : s.vm.findClass RX2 = some m.cls := findClass_of_methodNamed B.named
  have hlocks := B.notSynchronized
  have hK : va_K G.1 vwCl (kT G) s := hK
  have hP : va_P G.1 vwCl ([(hN, .inr (2, [.ref hL, .ref hC, .ref b0, .ref b1, .ref b2, .ref b3, .ref b4, .int (nI mi)]))] ++ va_pl L f) s.heap := hP
  have hl := lv_entry ([.ref hN, .ref y, .ref z]) (n := 3) (Nat.le_of_ble_eq_true rfl)
  rw [lg_entry_eq]
  generalize (lg_sl ([.ref hN, .ref y, .ref z]) ++ List.replicate (3 - (lg_sl ([.ref hN, .ref y, .ref z])).length) Slot.unset).toArray = ls at hl ⊢
  have hl : lv_has ls 3 [(0, .ref hN), (1, .ref y), (2, .ref z)] := hl
  obtain ⟨hyz_1, lyz_1, hlz_1, hfz_1, hgz_1, hnz_1, h1z_1, h2z_1⟩ := hy
  obtain ⟨hyz_2, lyz_2, hlz_2, hfz_2, hgz_2, hnz_2, h1z_2, h2z_2⟩ := hz
  refine lv_aload_n hx hb dX2_isNewer_0 rfl (lv_at hl 2 rfl) ?_
  refine lv_ifnull hx hb dX2_isNewer_1 ?_
  refine lv_aload_n hx hb dX2_isNewer_4 rfl (lv_at hl 1 rfl) ?_
  refine vp_callSi (W.runV (As := []) (rest := []) ⟨hx, hb, hml, hown, hts⟩ (c_X3_number l G y ((sv y).1) ((sv y).2.1) lyz_1 ) (cwV 0 hts gX2_isNewer_X3_number rfl rfl rfl (by decide +kernel) ⟨Nat.le_of_ble_eq_true rfl, Nat.le_of_ble_eq_true rfl⟩) (kPre_V (ws := [(y, .inr (3, [.int (nI ((sv y).1)), .int (nI ((sv y).2.1)), .ref lyz_1]))]) hK (kp_one hP hyz_1 hfz_1) (RX3, TX3, 3) 0 rfl rfl) rfl rfl hl.1 rfl (lv_room (Nat.le_of_ble_eq_true rfl)) dX2_isNewer_5 ⟨Nat.le_of_ble_eq_true rfl, Nat.le_of_ble_eq_true rfl⟩) (fun r_3 hr_3 => ?_)
  subst hr_3
  refine lv_aload_n hx hb dX2_isNewer_8 rfl (lv_at hl 2 rfl) ?_
  refine vp_callSi (W.runV (As := []) (rest := [.int (nI ((sv y).1))]) ⟨hx, hb, hml, hown, hts⟩ (c_X3_number l G z ((sv z).1) ((sv z).2.1) lyz_2 ) (cwV 0 hts gX2_isNewer_X3_number rfl rfl rfl (by decide +kernel) ⟨Nat.le_of_ble_eq_true rfl, Nat.le_of_ble_eq_true rfl⟩) (kPre_V (ws := [(z, .inr (3, [.int (nI ((sv z).1)), .int (nI ((sv z).2.1)), .ref lyz_2]))]) hK (kp_one hP hyz_2 hfz_2) (RX3, TX3, 3) 0 rfl rfl) rfl rfl hl.1 rfl (lv_room (Nat.le_of_ble_eq_true rfl)) dX2_isNewer_9 ⟨Nat.le_of_ble_eq_true rfl, Nat.le_of_ble_eq_true rfl⟩) (fun r_4 hr_4 => ?_)
  subst hr_4
  refine kb_le (tgt := 19) hx hb dX2_isNewer_12 (by decide) (by assumption) (by assumption) (fun c_5 => ?_) (fun c_5 => ?_)
  · refine lv_iconst (v := (nI 0)) hx hb dX2_isNewer_19 (by decide) ?_
    exact kr_zret hx hb hr hlocks rfl (by first | exact bI_one rfl | exact bI_one (decide_eq_true (by omega)) | exact bI_zero (decide_eq_false (by omega))) dX2_isNewer_20
  · refine lv_iconst (v := (nI 1)) hx hb dX2_isNewer_15 (by decide) ?_
    refine lv_goto (tgt := 20) hx hb dX2_isNewer_16 (by decide) ?_
    exact kr_zret hx hb hr hlocks rfl (by first | exact bI_one rfl | exact bI_one (decide_eq_true (by omega)) | exact bI_zero (decide_eq_false (by omega))) dX2_isNewer_20

theorem c_X2_isNewer (l : Launch) (G : kG) (hN hL hC b0 b1 b2 b3 b4 mi : Nat) (L : List Nat) (f : Nat → va_E) (sv : Nat → mS) (y : Nat) (o : Option Nat) (hy : kSheet G L f y (sv y)) (ho : ∀ z, o = some z → kSheet G L f z (sv z)) : Met l yX2_isNewer wsX2_isNewer ({ frames := 1, cells := 0, slots := 0, locals := 20 }) (kPre G ([(hN, .inr (2, [.ref hL, .ref hC, .ref b0, .ref b1, .ref b2, .ref b3, .ref b4, .int (nI mi)]))] ++ va_pl L f) [.ref hN, .ref y, va_rf o]) (vp_Si (fun r : Int32 => r = (bI (mNewer sv y o)))) 0 0 (fun _ => False) := by
  cases o with
  | none => exact c_X2_isNewer_n l G hN hL hC b0 b1 b2 b3 b4 mi L f sv y hy
  | some z => exact c_X2_isNewer_s l G hN hL hC b0 b1 b2 b3 b4 mi L f sv y z hy (ho z rfl)

theorem kX2_mustWrite_0 : Cond.fieldLink RX2 33 "PassNotes$Notes" "held" "[LPassNotes$Sheet;" ∈ wsX2_mustWrite := by decide +kernel
theorem kX2_mustWrite_1 : ∀ w ∈ wsX20, w ∈ wsX2_mustWrite := by decide +kernel
theorem kX2_mustWrite_2 : Cond.fieldLink RX2 44 "PassNotes$Notes" "minute" "I" ∈ wsX2_mustWrite := by decide +kernel
theorem kX2_mustWrite_3 : Cond.fieldLink RX2 40 "PassNotes$Notes" "land" "LPassNotes$Land;" ∈ wsX2_mustWrite := by decide +kernel
set_option maxHeartbeats 4000000 in
set_option maxRecDepth 100000 in
theorem c_X2_mustWrite (l : Launch) (G : kG) (hN hL hC b0 b1 b2 b3 b4 mi : Nat) (L : List Nat) (f : Nat → va_E) (sv : Nat → mS) (a0 a1 a2 a3 a4 : Nat) (nh np : Nat) (fs sn ln : Nat → Nat) (op : Nat → Bool) (hd : Nat → Option Nat) (h : Nat) (hfs : ∀ j, fs j < 10) (hsn : ∀ j, sn j < 10) (hln : ∀ j, ln j < 100) (hhd : kHeld G L f sv hd) (hag : ∀ j y, hd j = some y → (sv y).2.1 ≤ mi) (hmi : mi < 2 ^ 31) (hh : h < 10) (hnp : np ≤ 20) : Met l yX2_mustWrite wsX2_mustWrite ({ frames := 2, cells := 0, slots := 0, locals := 46 }) (kPre G ([(hN, .inr (2, [.ref hL, .ref hC, .ref b0, .ref b1, .ref b2, .ref b3, .ref b4, .int (nI mi)])), (hL, .inr (1, [.ref a0, .ref a1, .ref a2, .ref a3, .ref a4, .int (nI nh), .int (nI np)])), (a1, .inl (G.2 0, 20, .inl (kI fs))), (a2, .inl (G.2 0, 20, .inl (kI sn))), (a3, .inl (G.2 0, 20, .inl (kI ln))), (a4, .inl (G.2 1, 20, .inl (kB op))), (b3, .inl (G.2 2, 100, .inr (.inr (.inr (.inr hd)))))] ++ va_pl L f) [.ref hN, .int (nI h)]) (vp_Si (fun r : Int32 => r = (bI (mMust sv mi fs sn ln op h np (hd (h * 10 + h)))))) 0 0 (fun _ => False) := by
  refine Met.ofW (cc := cX2_mustWrite) (maxL := 3) (ret := (some .boolean)) (by decide) rfl ?_
  intro p e s m args below meth c s₁ B hml hv
  obtain ⟨rfl, hP, hK⟩ := hv
  have hx := B.exec
  have hb := B.bytes
  have hr := B.returns
  have hts := atoms_spec (ws := wsX2_mustWrite) B.pre
  have hown : s.vm.findClass RX2 = some m.cls := findClass_of_methodNamed B.named
  have hlocks := B.notSynchronized
  have hK : va_K G.1 vwCl (kT G) s := hK
  have hP : va_P G.1 vwCl ([(hN, .inr (2, [.ref hL, .ref hC, .ref b0, .ref b1, .ref b2, .ref b3, .ref b4, .int (nI mi)])), (hL, .inr (1, [.ref a0, .ref a1, .ref a2, .ref a3, .ref a4, .int (nI nh), .int (nI np)])), (a1, .inl (G.2 0, 20, .inl (kI fs))), (a2, .inl (G.2 0, 20, .inl (kI sn))), (a3, .inl (G.2 0, 20, .inl (kI ln))), (a4, .inl (G.2 1, 20, .inl (kB op))), (b3, .inl (G.2 2, 100, .inr (.inr (.inr (.inr hd)))))] ++ va_pl L f) s.heap := hP
  have hl := lv_entry ([.ref hN, .int (nI h)]) (n := 3) (Nat.le_of_ble_eq_true rfl)
  rw [lg_entry_eq]
  generalize (lg_sl ([.ref hN, .int (nI h)]) ++ List.replicate (3 - (lg_sl ([.ref hN, .int (nI h)])).length) Slot.unset).toArray = ls at hl ⊢
  have hl : lv_has ls 3 [(0, .ref hN), (1, .int (nI h))] := hl
  refine lv_aload_n hx hb dX2_mustWrite_0 rfl (lv_at hl 0 rfl) ?_
  refine va_get (D := G.1) (ci := 2) (v := .ref b3) (C := RX2) (T := TX2) (N := 8) hx hb hts kX2_mustWrite_1 hown hK hP 0 rfl rfl 5 (by decide) (hts _ kX2_mustWrite_0) (fun _ h9 => h9) rfl dX2_mustWrite_1 ?_
  refine lv_iload_n hx hb dX2_mustWrite_4 rfl (lv_at hl 1 rfl) ?_
  refine lv_iload_n hx hb dX2_mustWrite_5 rfl (lv_at hl 1 rfl) ?_
  refine vp_callSi (W.runS (As := [.int (nI h), .int (nI h)]) (rest := [.ref b3]) ⟨hx, hb, hml, hown, hts⟩ (c_X2_slot l G h h ) (va_cwS 2 hts gX2_mustWrite_X2_slot rfl rfl rfl (by decide +kernel) ⟨Nat.le_of_ble_eq_true rfl, Nat.le_of_ble_eq_true rfl⟩) (kPre_S (ws := []) hK (hP.sub [] rfl)) rfl rfl hl.1 rfl (lv_room (Nat.le_of_ble_eq_true rfl)) dX2_mustWrite_6 ⟨Nat.le_of_ble_eq_true rfl, Nat.le_of_ble_eq_true rfl⟩) (fun r_1 hr_1 => ?_)
  subst hr_1
  refine kr_aldq (k := (h * 10 + h)) (v := va_rf (hd (h * 10 + h))) hx hb hK hP 6 2 rfl rfl (by omega) (by decide) rfl dX2_mustWrite_9 ?_
  refine kq_astore_n (lv' := [(2, va_rf (hd (h * 10 + h))), (0, .ref hN), (1, .int (nI h))]) hx hb dX2_mustWrite_10 rfl hl (by decide) rfl (fun ls hl => ?_)
  refine kq_aload_n hx hb dX2_mustWrite_11 rfl (lv_at hl 0 rfl) ?_
  refine kb_null (tgt := 40) hx hb dX2_mustWrite_12 (by decide) (fun c_3 => ?_) (fun y_2 c_3 => ?_)
  · rw [c_3] at hl
    have hl : lv_has ls 3 [(2, .null), (0, .ref hN), (1, .int (nI h))] := hl
    have hc := c_3
    refine lv_iconst (v := (nI 1)) hx hb dX2_mustWrite_40 (by decide) ?_
    refine lv_goto (tgt := 45) hx hb dX2_mustWrite_41 (by decide) ?_
    exact kr_zret hx hb hr hlocks rfl (by first | exact bI_one (by simp [mMust, *]; done) | exact bI_zero (by simp [mMust, *]; done) | exact bI_zero (by simp [mMust, *]; omega)) dX2_mustWrite_45
  · rw [c_3] at hl
    have hl : lv_has ls 3 [(2, .ref y_2), (0, .ref hN), (1, .int (nI h))] := hl
    have hc := c_3
    have hag1 := hag _ _ c_3
    obtain ⟨hyz_4, lyz_4, hlz_4, hfz_4, hgz_4, hnz_4, h1z_4, h2z_4⟩ := hhd _ _ c_3
    refine lv_aload_n hx hb dX2_mustWrite_15 rfl (lv_at hl 0 rfl) ?_
    refine lv_aload_n hx hb dX2_mustWrite_16 rfl (lv_at hl 1 rfl) ?_
    refine va_get (D := G.1) (ci := 2) (v := .int (nI mi)) (C := RX2) (T := TX2) (N := 8) hx hb hts kX2_mustWrite_1 hown hK hP 0 rfl rfl 7 (by decide) (hts _ kX2_mustWrite_2) (fun _ h9 => h9) rfl dX2_mustWrite_17 ?_
    refine vp_callSi (W.runV (As := [.int (nI mi)]) (rest := []) ⟨hx, hb, hml, hown, hts⟩ (c_X3_age l G y_2 ((sv y_2).1) ((sv y_2).2.1) lyz_4 mi (by omega)) (cwV 1 hts gX2_mustWrite_X3_age rfl rfl rfl (by decide +kernel) ⟨Nat.le_of_ble_eq_true rfl, Nat.le_of_ble_eq_true rfl⟩) (kPre_V (ws := [(y_2, .inr (3, [.int (nI ((sv y_2).1)), .int (nI ((sv y_2).2.1)), .ref lyz_4]))]) hK (kp_one hP hyz_4 hfz_4) (RX3, TX3, 3) 0 rfl rfl) rfl rfl hl.1 rfl (lv_room (Nat.le_of_ble_eq_true rfl)) dX2_mustWrite_20 ⟨Nat.le_of_ble_eq_true rfl, Nat.le_of_ble_eq_true rfl⟩) (fun r_5 hr_5 => ?_)
    subst hr_5
    refine lv_bipush (v := (nI 20)) hx hb dX2_mustWrite_23 (by decide) ?_
    refine kb_ge (tgt := 40) hx hb dX2_mustWrite_25 (by decide) (by omega) (by decide) (fun c_6 => ?_) (fun c_6 => ?_)
    · refine lv_iconst (v := (nI 1)) hx hb dX2_mustWrite_40 (by decide) ?_
      refine lv_goto (tgt := 45) hx hb dX2_mustWrite_41 (by decide) ?_
      exact kr_zret hx hb hr hlocks rfl (by first | exact bI_one (by simp [mMust, *]; done) | exact bI_zero (by simp [mMust, *]; done) | exact bI_zero (by simp [mMust, *]; omega)) dX2_mustWrite_45
    · refine lv_aload_n hx hb dX2_mustWrite_28 rfl (lv_at hl 0 rfl) ?_
      refine lv_aload_n hx hb dX2_mustWrite_29 rfl (lv_at hl 1 rfl) ?_
      refine va_get (D := G.1) (ci := 2) (v := .ref hL) (C := RX2) (T := TX2) (N := 8) hx hb hts kX2_mustWrite_1 hown hK hP 0 rfl rfl 0 (by decide) (hts _ kX2_mustWrite_3) (fun _ h9 => h9) rfl dX2_mustWrite_30 ?_
      refine lv_iload_n hx hb dX2_mustWrite_33 rfl (lv_at hl 2 rfl) ?_
      refine vp_callSi (W.runV (As := [.ref hL, .int (nI h)]) (rest := []) ⟨hx, hb, hml, hown, hts⟩ (c_X3_tellsAsNow l G y_2 ((sv y_2).1) ((sv y_2).2.1) lyz_4 ((sv y_2).2.2) hL a0 a1 a2 a3 a4 nh np fs sn ln op h hfs hsn hln (by assumption) (by omega) (by omega)) (cwV 2 hts gX2_mustWrite_X3_tellsAsNow rfl rfl rfl (by decide +kernel) ⟨Nat.le_of_ble_eq_true rfl, Nat.le_of_ble_eq_true rfl⟩) (kPre_V (ws := [(y_2, .inr (3, [.int (nI ((sv y_2).1)), .int (nI ((sv y_2).2.1)), .ref lyz_4])), (lyz_4, .inl (G.2 0, 20, .inl (kI ((sv y_2).2.2)))), (hL, .inr (1, [.ref a0, .ref a1, .ref a2, .ref a3, .ref a4, .int (nI nh), .int (nI np)])), (a1, .inl (G.2 0, 20, .inl (kI fs))), (a2, .inl (G.2 0, 20, .inl (kI sn))), (a3, .inl (G.2 0, 20, .inl (kI ln))), (a4, .inl (G.2 1, 20, .inl (kB op)))]) hK ((kp_one hP hyz_4 hfz_4).app ((kp_one hP hlz_4 hgz_4).app (hP.sub (ws' := [(hL, .inr (1, [.ref a0, .ref a1, .ref a2, .ref a3, .ref a4, .int (nI nh), .int (nI np)])), (a1, .inl (G.2 0, 20, .inl (kI fs))), (a2, .inl (G.2 0, 20, .inl (kI sn))), (a3, .inl (G.2 0, 20, .inl (kI ln))), (a4, .inl (G.2 1, 20, .inl (kB op)))]) [1, 2, 3, 4, 5] rfl))) (RX3, TX3, 3) 0 rfl rfl) rfl rfl hl.1 rfl (lv_room (Nat.le_of_ble_eq_true rfl)) dX2_mustWrite_34 ⟨Nat.le_of_ble_eq_true rfl, Nat.le_of_ble_eq_true rfl⟩) (fun r_7 hr_7 => ?_)
      subst hr_7
      refine kb_neb (tgt := 44) hx hb dX2_mustWrite_37 (by decide) (fun c_8 => ?_) (fun c_8 => ?_)
      · refine lv_iconst (v := (nI 0)) hx hb dX2_mustWrite_44 (by decide) ?_
        exact kr_zret hx hb hr hlocks rfl (by first | exact bI_one (by simp [mMust, *]; done) | exact bI_zero (by simp [mMust, *]; done) | exact bI_zero (by simp [mMust, *]; omega)) dX2_mustWrite_45
      · refine lv_iconst (v := (nI 1)) hx hb dX2_mustWrite_40 (by decide) ?_
        refine lv_goto (tgt := 45) hx hb dX2_mustWrite_41 (by decide) ?_
        exact kr_zret hx hb hr hlocks rfl (by first | exact bI_one (by simp [mMust, *]; done) | exact bI_zero (by simp [mMust, *]; done) | exact bI_zero (by simp [mMust, *]; omega)) dX2_mustWrite_45

theorem kX2_takesForOpen_0 : Cond.fieldLink RX2 33 "PassNotes$Notes" "held" "[LPassNotes$Sheet;" ∈ wsX2_takesForOpen := by decide +kernel
theorem kX2_takesForOpen_1 : ∀ w ∈ wsX20, w ∈ wsX2_takesForOpen := by decide +kernel
theorem kX2_takesForOpen_2 : Cond.fieldLink RX2 40 "PassNotes$Notes" "land" "LPassNotes$Land;" ∈ wsX2_takesForOpen := by decide +kernel
set_option maxHeartbeats 4000000 in
set_option maxRecDepth 100000 in
theorem c_X2_takesForOpen (l : Launch) (G : kG) (hN hL hC b0 b1 b2 b3 b4 mi : Nat) (L : List Nat) (f : Nat → va_E) (sv : Nat → mS) (a0 a1 a2 a3 a4 : Nat) (nh np : Nat) (fs sn : Nat → Nat) (hd : Nat → Option Nat) (h q : Nat) (hfs : ∀ j, fs j < 10) (hsn : ∀ j, sn j < 10) (hhd : kHeld G L f sv hd) (hh : h < 10) (hq : q < 20) : Met l yX2_takesForOpen wsX2_takesForOpen ({ frames := 1, cells := 0, slots := 0, locals := 21 }) (kPre G ([(hN, .inr (2, [.ref hL, .ref hC, .ref b0, .ref b1, .ref b2, .ref b3, .ref b4, .int (nI mi)])), (hL, .inr (1, [.ref a0, .ref a1, .ref a2, .ref a3, .ref a4, .int (nI nh), .int (nI np)])), (a1, .inl (G.2 0, 20, .inl (kI fs))), (a2, .inl (G.2 0, 20, .inl (kI sn))), (b3, .inl (G.2 2, 100, .inr (.inr (.inr (.inr hd)))))] ++ va_pl L f) [.ref hN, .int (nI h), .int (nI q)]) (vp_Si (fun r : Int32 => r = (bI (mTOpen sv hd fs sn h q)))) 0 0 (fun _ => False) := by
  refine Met.ofW (cc := cX2_takesForOpen) (maxL := 5) (ret := (some .boolean)) (by decide) rfl ?_
  intro p e s m args below meth c s₁ B hml hv
  obtain ⟨rfl, hP, hK⟩ := hv
  have hx := B.exec
  have hb := B.bytes
  have hr := B.returns
  have hts := atoms_spec (ws := wsX2_takesForOpen) B.pre
  have hown : s.vm.findClass RX2 = some m.cls := findClass_of_methodNamed B.named
  have hlocks := B.notSynchronized
  have hK : va_K G.1 vwCl (kT G) s := hK
  have hP : va_P G.1 vwCl ([(hN, .inr (2, [.ref hL, .ref hC, .ref b0, .ref b1, .ref b2, .ref b3, .ref b4, .int (nI mi)])), (hL, .inr (1, [.ref a0, .ref a1, .ref a2, .ref a3, .ref a4, .int (nI nh), .int (nI np)])), (a1, .inl (G.2 0, 20, .inl (kI fs))), (a2, .inl (G.2 0, 20, .inl (kI sn))), (b3, .inl (G.2 2, 100, .inr (.inr (.inr (.inr hd)))))] ++ va_pl L f) s.heap := hP
  have hl := lv_entry ([.ref hN, .int (nI h), .int (nI q)]) (n := 5) (Nat.le_of_ble_eq_true rfl)
  rw [lg_entry_eq]
  generalize (lg_sl ([.ref hN, .int (nI h), .int (nI q)]) ++ List.replicate (5 - (lg_sl ([.ref hN, .int (nI h), .int (nI q)])).length) Slot.unset).toArray = ls at hl ⊢
  have hl : lv_has ls 5 [(0, .ref hN), (1, .int (nI h)), (2, .int (nI q))] := hl
  refine lv_aload_n hx hb dX2_takesForOpen_0 rfl (lv_at hl 0 rfl) ?_
  refine va_get (D := G.1) (ci := 2) (v := .ref b3) (C := RX2) (T := TX2) (N := 8) hx hb hts kX2_takesForOpen_1 hown hK hP 0 rfl rfl 5 (by decide) (hts _ kX2_takesForOpen_0) (fun _ h9 => h9) rfl dX2_takesForOpen_1 ?_
  refine lv_iload_n hx hb dX2_takesForOpen_4 rfl (lv_at hl 1 rfl) ?_
  refine lv_aload_n hx hb dX2_takesForOpen_5 rfl (lv_at hl 0 rfl) ?_
  refine va_get (D := G.1) (ci := 2) (v := .ref hL) (C := RX2) (T := TX2) (N := 8) hx hb hts kX2_takesForOpen_1 hown hK hP 0 rfl rfl 0 (by decide) (hts _ kX2_takesForOpen_2) (fun _ h9 => h9) rfl dX2_takesForOpen_6 ?_
  refine lv_iload_n hx hb dX2_takesForOpen_9 rfl (lv_at hl 2 rfl) ?_
  refine vp_callSi (W.runV (As := [.int (nI q)]) (rest := [.int (nI h), .ref b3]) ⟨hx, hb, hml, hown, hts⟩ (c_X1_first l G hL a0 a1 a2 a3 a4 nh np fs q (by omega)) (cwV 1 hts gX2_takesForOpen_X1_first rfl rfl rfl (by decide +kernel) ⟨Nat.le_of_ble_eq_true rfl, Nat.le_of_ble_eq_true rfl⟩) (kPre_V (ws := [(hL, .inr (1, [.ref a0, .ref a1, .ref a2, .ref a3, .ref a4, .int (nI nh), .int (nI np)])), (a1, .inl (G.2 0, 20, .inl (kI fs)))]) hK (hP.sub (ws' := [(hL, .inr (1, [.ref a0, .ref a1, .ref a2, .ref a3, .ref a4, .int (nI nh), .int (nI np)])), (a1, .inl (G.2 0, 20, .inl (kI fs)))]) [1, 2] rfl) (RX1, TX1, 7) 0 rfl rfl) rfl rfl hl.1 rfl (lv_room (Nat.le_of_ble_eq_true rfl)) dX2_takesForOpen_10 ⟨Nat.le_of_ble_eq_true rfl, Nat.le_of_ble_eq_true rfl⟩) (fun r_1 hr_1 => ?_)
  subst hr_1
  refine vp_callSi (W.runS (As := [.int (nI h), .int (nI (fs q))]) (rest := [.ref b3]) ⟨hx, hb, hml, hown, hts⟩ (c_X2_slot l G h (fs q) ) (va_cwS 2 hts gX2_takesForOpen_X2_slot rfl rfl rfl (by decide +kernel) ⟨Nat.le_of_ble_eq_true rfl, Nat.le_of_ble_eq_true rfl⟩) (kPre_S (ws := []) hK (hP.sub [] rfl)) rfl rfl hl.1 rfl (lv_room (Nat.le_of_ble_eq_true rfl)) dX2_takesForOpen_13 ⟨Nat.le_of_ble_eq_true rfl, Nat.le_of_ble_eq_true rfl⟩) (fun r_2 hr_2 => ?_)
  subst hr_2
  refine kr_aldq (k := (h * 10 + (fs q))) (v := va_rf (hd (h * 10 + (fs q)))) hx hb hK hP 4 2 rfl rfl (by have := hfs q; omega) (by decide) rfl dX2_takesForOpen_16 ?_
  refine kq_astore_n (lv' := [(3, va_rf (hd (h * 10 + (fs q)))), (0, .ref hN), (1, .int (nI h)), (2, .int (nI q))]) hx hb dX2_takesForOpen_17 rfl hl (by decide) rfl (fun ls hl => ?_)
  refine lv_aload_n hx hb dX2_takesForOpen_18 rfl (lv_at hl 1 rfl) ?_
  refine va_get (D := G.1) (ci := 2) (v := .ref b3) (C := RX2) (T := TX2) (N := 8) hx hb hts kX2_takesForOpen_1 hown hK hP 0 rfl rfl 5 (by decide) (hts _ kX2_takesForOpen_0) (fun _ h9 => h9) rfl dX2_takesForOpen_19 ?_
  refine lv_iload_n hx hb dX2_takesForOpen_22 rfl (lv_at hl 2 rfl) ?_
  refine lv_aload_n hx hb dX2_takesForOpen_23 rfl (lv_at hl 1 rfl) ?_
  refine va_get (D := G.1) (ci := 2) (v := .ref hL) (C := RX2) (T := TX2) (N := 8) hx hb hts kX2_takesForOpen_1 hown hK hP 0 rfl rfl 0 (by decide) (hts _ kX2_takesForOpen_2) (fun _ h9 => h9) rfl dX2_takesForOpen_24 ?_
  refine lv_iload_n hx hb dX2_takesForOpen_27 rfl (lv_at hl 3 rfl) ?_
  refine vp_callSi (W.runV (As := [.int (nI q)]) (rest := [.int (nI h), .ref b3]) ⟨hx, hb, hml, hown, hts⟩ (c_X1_second l G hL a0 a1 a2 a3 a4 nh np sn q (by omega)) (cwV 1 hts gX2_takesForOpen_X1_second rfl rfl rfl (by decide +kernel) ⟨Nat.le_of_ble_eq_true rfl, Nat.le_of_ble_eq_true rfl⟩) (kPre_V (ws := [(hL, .inr (1, [.ref a0, .ref a1, .ref a2, .ref a3, .ref a4, .int (nI nh), .int (nI np)])), (a2, .inl (G.2 0, 20, .inl (kI sn)))]) hK (hP.sub (ws' := [(hL, .inr (1, [.ref a0, .ref a1, .ref a2, .ref a3, .ref a4, .int (nI nh), .int (nI np)])), (a2, .inl (G.2 0, 20, .inl (kI sn)))]) [1, 3] rfl) (RX1, TX1, 7) 0 rfl rfl) rfl rfl hl.1 rfl (lv_room (Nat.le_of_ble_eq_true rfl)) dX2_takesForOpen_28 ⟨Nat.le_of_ble_eq_true rfl, Nat.le_of_ble_eq_true rfl⟩) (fun r_3 hr_3 => ?_)
  subst hr_3
  refine vp_callSi (W.runS (As := [.int (nI h), .int (nI (sn q))]) (rest := [.ref b3]) ⟨hx, hb, hml, hown, hts⟩ (c_X2_slot l G h (sn q) ) (va_cwS 2 hts gX2_takesForOpen_X2_slot rfl rfl rfl (by decide +kernel) ⟨Nat.le_of_ble_eq_true rfl, Nat.le_of_ble_eq_true rfl⟩) (kPre_S (ws := []) hK (hP.sub [] rfl)) rfl rfl hl.1 rfl (lv_room (Nat.le_of_ble_eq_true rfl)) dX2_takesForOpen_31 ⟨Nat.le_of_ble_eq_true rfl, Nat.le_of_ble_eq_true rfl⟩) (fun r_4 hr_4 => ?_)
  subst hr_4
  refine kr_aldq (k := (h * 10 + (sn q))) (v := va_rf (hd (h * 10 + (sn q)))) hx hb hK hP 4 2 rfl rfl (by have := hsn q; omega) (by decide) rfl dX2_takesForOpen_34 ?_
  refine kq_astore (lv' := [(4, va_rf (hd (h * 10 + (sn q)))), (3, va_rf (hd (h * 10 + (fs q)))), (0, .ref hN), (1, .int (nI h)), (2, .int (nI q))]) hx hb dX2_takesForOpen_35 hl (by decide) (by generalize hd (h * 10 + (fs q)) = o9; cases o9 <;> rfl) (fun ls hl => ?_)
  refine kq_aload_n hx hb dX2_takesForOpen_37 rfl (lv_at hl 1 rfl) ?_
  refine kb_null (tgt := 67) hx hb dX2_takesForOpen_38 (by decide) (fun c_6 => ?_) (fun y_5 c_6 => ?_)
  · rw [c_6] at hl
    have hl : lv_has ls 5 [(4, va_rf (hd (h * 10 + (sn q)))), (3, .null), (0, .ref hN), (1, .int (nI h)), (2, .int (nI q))] := hl
    refine lv_iconst (v := (nI 0)) hx hb dX2_takesForOpen_67 (by decide) ?_
    exact kr_zret hx hb hr hlocks rfl (by first | exact bI_one (by simp_all [mTOpen, mLen]; done) | exact bI_zero (by simp_all [mTOpen, mLen]; done)) dX2_takesForOpen_68
  · rw [c_6] at hl
    have hl : lv_has ls 5 [(4, va_rf (hd (h * 10 + (sn q)))), (3, .ref y_5), (0, .ref hN), (1, .int (nI h)), (2, .int (nI q))] := hl
    obtain ⟨hyz_7, lyz_7, hlz_7, hfz_7, hgz_7, hnz_7, h1z_7, h2z_7⟩ := hhd _ _ c_6
    refine kq_aload hx hb dX2_takesForOpen_41 (lv_at hl 0 rfl) ?_
    refine kb_null (tgt := 67) hx hb dX2_takesForOpen_43 (by decide) (fun c_9 => ?_) (fun y_8 c_9 => ?_)
    · rw [c_9] at hl
      have hl : lv_has ls 5 [(4, .null), (3, .ref y_5), (0, .ref hN), (1, .int (nI h)), (2, .int (nI q))] := hl
      refine lv_iconst (v := (nI 0)) hx hb dX2_takesForOpen_67 (by decide) ?_
      exact kr_zret hx hb hr hlocks rfl (by first | exact bI_one (by simp_all [mTOpen, mLen]; done) | exact bI_zero (by simp_all [mTOpen, mLen]; done)) dX2_takesForOpen_68
    · rw [c_9] at hl
      have hl : lv_has ls 5 [(4, .ref y_8), (3, .ref y_5), (0, .ref hN), (1, .int (nI h)), (2, .int (nI q))] := hl
      obtain ⟨hyz_10, lyz_10, hlz_10, hfz_10, hgz_10, hnz_10, h1z_10, h2z_10⟩ := hhd _ _ c_9
      refine lv_aload_n hx hb dX2_takesForOpen_46 rfl (lv_at hl 1 rfl) ?_
      refine lv_iload_n hx hb dX2_takesForOpen_47 rfl (lv_at hl 4 rfl) ?_
      refine vp_callSi (W.runV (As := [.int (nI q)]) (rest := []) ⟨hx, hb, hml, hown, hts⟩ (c_X3_tells l G y_5 ((sv y_5).1) ((sv y_5).2.1) lyz_7 ((sv y_5).2.2) q (by omega) (by assumption)) (cwV 1 hts gX2_takesForOpen_X3_tells rfl rfl rfl (by decide +kernel) ⟨Nat.le_of_ble_eq_true rfl, Nat.le_of_ble_eq_true rfl⟩) (kPre_V (ws := [(y_5, .inr (3, [.int (nI ((sv y_5).1)), .int (nI ((sv y_5).2.1)), .ref lyz_7])), (lyz_7, .inl (G.2 0, 20, .inl (kI ((sv y_5).2.2))))]) hK ((kp_one hP hyz_7 hfz_7).app (kp_one hP hlz_7 hgz_7)) (RX3, TX3, 3) 0 rfl rfl) rfl rfl hl.1 rfl (lv_room (Nat.le_of_ble_eq_true rfl)) dX2_takesForOpen_48 ⟨Nat.le_of_ble_eq_true rfl, Nat.le_of_ble_eq_true rfl⟩) (fun r_11 hr_11 => ?_)
      subst hr_11
      refine kb_eqb (tgt := 67) hx hb dX2_takesForOpen_51 (by decide) (fun c_12 => ?_) (fun c_12 => ?_)
      · refine lv_iconst (v := (nI 0)) hx hb dX2_takesForOpen_67 (by decide) ?_
        exact kr_zret hx hb hr hlocks rfl (by first | exact bI_one (by simp_all [mTOpen, mLen]; done) | exact bI_zero (by simp_all [mTOpen, mLen]; done)) dX2_takesForOpen_68
      · refine lv_aload hx hb dX2_takesForOpen_54 (lv_at hl 0 rfl) ?_
        refine lv_iload_n hx hb dX2_takesForOpen_56 rfl (lv_at hl 4 rfl) ?_
        refine vp_callSi (W.runV (As := [.int (nI q)]) (rest := []) ⟨hx, hb, hml, hown, hts⟩ (c_X3_tells l G y_8 ((sv y_8).1) ((sv y_8).2.1) lyz_10 ((sv y_8).2.2) q (by omega) (by assumption)) (cwV 1 hts gX2_takesForOpen_X3_tells rfl rfl rfl (by decide +kernel) ⟨Nat.le_of_ble_eq_true rfl, Nat.le_of_ble_eq_true rfl⟩) (kPre_V (ws := [(y_8, .inr (3, [.int (nI ((sv y_8).1)), .int (nI ((sv y_8).2.1)), .ref lyz_10])), (lyz_10, .inl (G.2 0, 20, .inl (kI ((sv y_8).2.2))))]) hK ((kp_one hP hyz_10 hfz_10).app (kp_one hP hlz_10 hgz_10)) (RX3, TX3, 3) 0 rfl rfl) rfl rfl hl.1 rfl (lv_room (Nat.le_of_ble_eq_true rfl)) dX2_takesForOpen_57 ⟨Nat.le_of_ble_eq_true rfl, Nat.le_of_ble_eq_true rfl⟩) (fun r_13 hr_13 => ?_)
        subst hr_13
        refine kb_eqb (tgt := 67) hx hb dX2_takesForOpen_60 (by decide) (fun c_14 => ?_) (fun c_14 => ?_)
        · refine lv_iconst (v := (nI 0)) hx hb dX2_takesForOpen_67 (by decide) ?_
          exact kr_zret hx hb hr hlocks rfl (by first | exact bI_one (by simp_all [mTOpen, mLen]; done) | exact bI_zero (by simp_all [mTOpen, mLen]; done)) dX2_takesForOpen_68
        · refine lv_iconst (v := (nI 1)) hx hb dX2_takesForOpen_63 (by decide) ?_
          refine lv_goto (tgt := 68) hx hb dX2_takesForOpen_64 (by decide) ?_
          exact kr_zret hx hb hr hlocks rfl (by first | exact bI_one (by simp_all [mTOpen, mLen]; done) | exact bI_zero (by simp_all [mTOpen, mLen]; done)) dX2_takesForOpen_68

theorem kX2_takersForOpen_0 : Cond.fieldLink RX2 40 "PassNotes$Notes" "land" "LPassNotes$Land;" ∈ wsX2_takersForOpen := by decide +kernel
theorem kX2_takersForOpen_1 : ∀ w ∈ wsX20, w ∈ wsX2_takersForOpen := by decide +kernel
set_option maxHeartbeats 4000000 in
set_option maxRecDepth 100000 in
theorem c_X2_takersForOpen (l : Launch) (G : kG) (hN hL hC b0 b1 b2 b3 b4 mi : Nat) (L : List Nat) (f : Nat → va_E) (sv : Nat → mS) (a0 a1 a2 a3 a4 : Nat) (nh np : Nat) (fs sn : Nat → Nat) (hd : Nat → Option Nat) (q : Nat) (hfs : ∀ j, fs j < 10) (hsn : ∀ j, sn j < 10) (hhd : kHeld G L f sv hd) (hnh : nh ≤ 10) (hq : q < 20) : Met l yX2_takersForOpen wsX2_takersForOpen ({ frames := 2, cells := 0, slots := 0, locals := 45 }) (kPre G ([(hN, .inr (2, [.ref hL, .ref hC, .ref b0, .ref b1, .ref b2, .ref b3, .ref b4, .int (nI mi)])), (hL, .inr (1, [.ref a0, .ref a1, .ref a2, .ref a3, .ref a4, .int (nI nh), .int (nI np)])), (a1, .inl (G.2 0, 20, .inl (kI fs))), (a2, .inl (G.2 0, 20, .inl (kI sn))), (b3, .inl (G.2 2, 100, .inr (.inr (.inr (.inr hd)))))] ++ va_pl L f) [.ref hN, .int (nI q)]) (vp_Si (fun r : Int32 => r = (nI (mCnt (fun h => mTOpen sv hd fs sn h q) nh)))) 0 0 (fun _ => False) := by
  refine Met.ofW (cc := cX2_takersForOpen) (maxL := 4) (ret := (some .int)) (by decide) rfl ?_
  intro p e s m args below meth c s₁ B hml hv
  obtain ⟨rfl, hP, hK⟩ := hv
  have hx := B.exec
  have hb := B.bytes
  have hr := B.returns
  have hts := atoms_spec (ws := wsX2_takersForOpen) B.pre
  have hown : s.vm.findClass RX2 = some m.cls := findClass_of_methodNamed B.named
  have hlocks := B.notSynchronized
  have hK : va_K G.1 vwCl (kT G) s := hK
  have hP : va_P G.1 vwCl ([(hN, .inr (2, [.ref hL, .ref hC, .ref b0, .ref b1, .ref b2, .ref b3, .ref b4, .int (nI mi)])), (hL, .inr (1, [.ref a0, .ref a1, .ref a2, .ref a3, .ref a4, .int (nI nh), .int (nI np)])), (a1, .inl (G.2 0, 20, .inl (kI fs))), (a2, .inl (G.2 0, 20, .inl (kI sn))), (b3, .inl (G.2 2, 100, .inr (.inr (.inr (.inr hd)))))] ++ va_pl L f) s.heap := hP
  have hl := lv_entry ([.ref hN, .int (nI q)]) (n := 4) (Nat.le_of_ble_eq_true rfl)
  rw [lg_entry_eq]
  generalize (lg_sl ([.ref hN, .int (nI q)]) ++ List.replicate (4 - (lg_sl ([.ref hN, .int (nI q)])).length) Slot.unset).toArray = ls at hl ⊢
  have hl : lv_has ls 4 [(0, .ref hN), (1, .int (nI q))] := hl
  refine lv_iconst (v := (nI 0)) hx hb dX2_takersForOpen_0 (by decide) ?_
  refine lv_istore_n (lv' := [(2, .int (nI 0)), (0, .ref hN), (1, .int (nI q))]) hx hb dX2_takersForOpen_1 rfl hl (by decide) rfl (fun ls hl => ?_)
  refine lv_iconst (v := (nI 0)) hx hb dX2_takersForOpen_2 (by decide) ?_
  refine lv_istore_n (lv' := [(3, .int (nI 0)), (2, .int (nI 0)), (0, .ref hN), (1, .int (nI q))]) hx hb dX2_takersForOpen_3 rfl hl (by decide) rfl (fun ls hl => ?_)
  have hc_4 : ∀ (n : Nat) (i k : Nat), nh - i < n → i ≤ nh → k = mCnt (fun h => mTOpen sv hd fs sn h q) i → ∀ (ls : Array Slot), lv_has ls 4 [(3, .int (nI i)), (2, .int (nI k)), (0, .ref hN), (1, .int (nI q))] → W p l e (headSpec wsX2_takersForOpen ({ frames := 2, cells := 0, slots := 0, locals := 45 })).room s m [.ref hN, .int (nI q)].toArray below meth c s.heap [] 0 0 (MQ below (vp_Si (fun r : Int32 => r = (nI (mCnt (fun h => mTOpen sv hd fs sn h q) nh)))) [.ref hN, .int (nI q)].toArray s 0 0 (fun _ => False)) (F0 m 4 ls []) := by
    intro n
    induction n with
    | zero =>
      intro i k hmz; exact absurd hmz (Nat.not_lt_zero _)
    | succ n ih4 =>
      intro i k hmz hi hk ls hl
      refine lv_iload_n hx hb dX2_takersForOpen_4 rfl (lv_at hl 0 rfl) ?_
      refine lv_aload_n hx hb dX2_takersForOpen_5 rfl (lv_at hl 2 rfl) ?_
      refine va_get (D := G.1) (ci := 2) (v := .ref hL) (C := RX2) (T := TX2) (N := 8) hx hb hts kX2_takersForOpen_1 hown hK hP 0 rfl rfl 0 (by decide) (hts _ kX2_takersForOpen_0) (fun _ h9 => h9) rfl dX2_takersForOpen_6 ?_
      refine vp_callSi (W.runV (As := []) (rest := [.int (nI i)]) ⟨hx, hb, hml, hown, hts⟩ (c_X1_huts l G hL a0 a1 a2 a3 a4 nh np ) (cwV 0 hts gX2_takersForOpen_X1_huts rfl rfl rfl (by decide +kernel) ⟨Nat.le_of_ble_eq_true rfl, Nat.le_of_ble_eq_true rfl⟩) (kPre_V (ws := [(hL, .inr (1, [.ref a0, .ref a1, .ref a2, .ref a3, .ref a4, .int (nI nh), .int (nI np)]))]) hK (hP.sub (ws' := [(hL, .inr (1, [.ref a0, .ref a1, .ref a2, .ref a3, .ref a4, .int (nI nh), .int (nI np)]))]) [1] rfl) (RX1, TX1, 7) 0 rfl rfl) rfl rfl hl.1 rfl (lv_room (Nat.le_of_ble_eq_true rfl)) dX2_takersForOpen_9 ⟨Nat.le_of_ble_eq_true rfl, Nat.le_of_ble_eq_true rfl⟩) (fun r_1 hr_1 => ?_)
      subst hr_1
      refine kb_ge (tgt := 33) hx hb dX2_takersForOpen_12 (by decide) (by omega) (by omega) (fun c_2 => ?_) (fun c_2 => ?_)
      · refine lv_iload_n hx hb dX2_takersForOpen_33 rfl (lv_at hl 1 rfl) ?_
        exact kr_iret hx hb hr hlocks (by rw [hk, show i = nh by omega]) dX2_takersForOpen_34
      · refine lv_aload_n hx hb dX2_takersForOpen_15 rfl (lv_at hl 2 rfl) ?_
        refine lv_iload_n hx hb dX2_takersForOpen_16 rfl (lv_at hl 0 rfl) ?_
        refine lv_iload_n hx hb dX2_takersForOpen_17 rfl (lv_at hl 3 rfl) ?_
        refine vp_callSi (W.runV (As := [.int (nI i), .int (nI q)]) (rest := []) ⟨hx, hb, hml, hown, hts⟩ (c_X2_takesForOpen l G hN hL hC b0 b1 b2 b3 b4 mi L f sv a0 a1 a2 a3 a4 nh np fs sn hd i q hfs hsn hhd (by omega) (by omega)) (cwV 2 hts gX2_takersForOpen_X2_takesForOpen rfl rfl rfl (by decide +kernel) ⟨Nat.le_of_ble_eq_true rfl, Nat.le_of_ble_eq_true rfl⟩) (kPre_V (ws := ([(hN, .inr (2, [.ref hL, .ref hC, .ref b0, .ref b1, .ref b2, .ref b3, .ref b4, .int (nI mi)])), (hL, .inr (1, [.ref a0, .ref a1, .ref a2, .ref a3, .ref a4, .int (nI nh), .int (nI np)])), (a1, .inl (G.2 0, 20, .inl (kI fs))), (a2, .inl (G.2 0, 20, .inl (kI sn))), (b3, .inl (G.2 2, 100, .inr (.inr (.inr (.inr hd)))))] ++ va_pl L f)) hK (hP.part (cx := [(hN, .inr (2, [.ref hL, .ref hC, .ref b0, .ref b1, .ref b2, .ref b3, .ref b4, .int (nI mi)])), (hL, .inr (1, [.ref a0, .ref a1, .ref a2, .ref a3, .ref a4, .int (nI nh), .int (nI np)])), (a1, .inl (G.2 0, 20, .inl (kI fs))), (a2, .inl (G.2 0, 20, .inl (kI sn))), (b3, .inl (G.2 2, 100, .inr (.inr (.inr (.inr hd)))))]) [0, 1, 2, 3, 4] rfl) (RX2, TX2, 8) 0 rfl rfl) rfl rfl hl.1 rfl (lv_room (Nat.le_of_ble_eq_true rfl)) dX2_takersForOpen_18 ⟨Nat.le_of_ble_eq_true rfl, Nat.le_of_ble_eq_true rfl⟩) (fun r_3 hr_3 => ?_)
        subst hr_3
        refine kb_eqb (tgt := 27) hx hb dX2_takersForOpen_21 (by decide) (fun c_4 => ?_) (fun c_4 => ?_)
        · refine lv_iinc (k := 0) (v := (nI (i + 1))) (lv' := [(3, .int (nI (i + 1))), (2, .int (nI k)), (0, .ref hN), (1, .int (nI q))]) hx hb dX2_takersForOpen_27 hl rfl (kn_inc i) (by decide) rfl (fun ls hl => ?_)
          refine lv_goto (tgt := 4) hx hb dX2_takersForOpen_30 (by decide) ?_
          exact ih4 (i + 1) k (by omega) (by omega) (by rw [mCnt_succ, ← hk]; simp [*]) _ (lv_sub hl [0, 1, 2, 3] rfl)
        · refine lv_iinc (k := 1) (v := (nI (k + 1))) (lv' := [(2, .int (nI (k + 1))), (3, .int (nI i)), (0, .ref hN), (1, .int (nI q))]) hx hb dX2_takersForOpen_24 hl rfl (kn_inc k) (by decide) rfl (fun ls hl => ?_)
          refine lv_iinc (k := 1) (v := (nI (i + 1))) (lv' := [(3, .int (nI (i + 1))), (2, .int (nI (k + 1))), (0, .ref hN), (1, .int (nI q))]) hx hb dX2_takersForOpen_27 hl rfl (kn_inc i) (by decide) rfl (fun ls hl => ?_)
          refine lv_goto (tgt := 4) hx hb dX2_takersForOpen_30 (by decide) ?_
          exact ih4 (i + 1) (k + 1) (by omega) (by omega) (by rw [mCnt_succ, ← hk]; simp [*]) _ (lv_sub hl [0, 1, 2, 3] rfl)
  exact hc_4 (_ + 1) 0 0 (Nat.lt_succ_self _) (by omega) (by rfl) _ (lv_sub hl [0, 1, 2, 3] rfl)

theorem kX2_forgetWays_0 : Cond.fieldLink RX2 27 "PassNotes$Notes" "waysFound" "[Z" ∈ wsX2_forgetWays := by decide +kernel
theorem kX2_forgetWays_1 : ∀ w ∈ wsX20, w ∈ wsX2_forgetWays := by decide +kernel
set_option maxHeartbeats 4000000 in
set_option maxRecDepth 100000 in
theorem c_X2_forgetWays (l : Launch) (G : kG) (sz : Nat) (hN hL hC b0 b1 b2 b3 b4 mi : Nat) (wf : Nat → Bool)  : Met l yX2_forgetWays wsX2_forgetWays ({ frames := 0, cells := 0, slots := 0, locals := 0 }) (kPreM G [(hN, .inr (2, [.ref hL, .ref hC, .ref b0, .ref b1, .ref b2, .ref b3, .ref b4, .int (nI mi)])), (b2, .inl (G.2 1, 10, .inl (kB wf)))] sz [.ref hN]) (va_Qv (fun (u : Unit) => True) (fun (u : Unit) t => kA G (va_A [(hN, .inr (2, [.ref hL, .ref hC, .ref b0, .ref b1, .ref b2, .ref b3, .ref b4, .int (nI mi)])), (b2, .inl (G.2 1, 10, .inl (kB wf)))] sz) [(hN, .inr (2, [.ref hL, .ref hC, .ref b0, .ref b1, .ref b2, .ref b3, .ref b4, .int (nI mi)])), (b2, .inl (G.2 1, 10, .inl (kB (mForget wf 10))))] t) (va_A [(hN, .inr (2, [.ref hL, .ref hC, .ref b0, .ref b1, .ref b2, .ref b3, .ref b4, .int (nI mi)])), (b2, .inl (G.2 1, 10, .inl (kB wf)))] sz)) 0 0 (va_A [(hN, .inr (2, [.ref hL, .ref hC, .ref b0, .ref b1, .ref b2, .ref b3, .ref b4, .int (nI mi)])), (b2, .inl (G.2 1, 10, .inl (kB wf)))] sz) := by
  refine Met.ofW (cc := cX2_forgetWays) (maxL := 2) (ret := none) (by decide) rfl ?_
  intro p e s m args below meth c s₁ B hml hv
  obtain ⟨rfl, hsz, hP, hK, hD0⟩ := hv
  have hx := B.exec
  have hb := B.bytes
  have hr := B.returns
  have hts := atoms_spec (ws := wsX2_forgetWays) B.pre
  have hown : s.vm.findClass RX2 = some m.cls := findClass_of_methodNamed B.named
  have hlocks := B.notSynchronized
  have hK : va_K G.1 vwCl (kT G) s := hK
  subst hsz
  have hD := hD0.self (sz := s.heap.size)
  generalize hAe : va_A [(hN, .inr (2, [.ref hL, .ref hC, .ref b0, .ref b1, .ref b2, .ref b3, .ref b4, .int (nI mi)])), (b2, .inl (G.2 1, 10, .inl (kB wf)))] s.heap.size = A at hD ⊢
  have hA : ∀ q : Nat, s.heap.size ≤ q → A q := fun q h => by rw [← hAe]; exact Or.inr h
  have hS : va_S A s.heap s.heap [] := va_S.rf
  have hP : va_P G.1 vwCl [(hN, .inr (2, [.ref hL, .ref hC, .ref b0, .ref b1, .ref b2, .ref b3, .ref b4, .int (nI mi)])), (b2, .inl (G.2 1, 10, .inl (kB wf)))] s.heap := hP
  have hl := lv_entry ([.ref hN]) (n := 2) (Nat.le_of_ble_eq_true rfl)
  rw [lg_entry_eq]
  generalize (lg_sl ([.ref hN]) ++ List.replicate (2 - (lg_sl ([.ref hN])).length) Slot.unset).toArray = ls at hl ⊢
  have hl : lv_has ls 2 [(0, .ref hN)] := hl
  refine lv_iconst (v := (nI 0)) hx hb dX2_forgetWays_0 (by decide) ?_
  refine lv_istore_n (lv' := [(1, .int (nI 0)), (0, .ref hN)]) hx hb dX2_forgetWays_1 rfl hl (by decide) rfl (fun ls hl => ?_)
  have hc_2 : ∀ (n : Nat) (i : Nat) (g : Nat → Bool), 10 - i < n → i ≤ 10 → g = mForget wf i → ∀ (H : Heap) (locs : List Loc), va_P G.1 vwCl [(hN, .inr (2, [.ref hL, .ref hC, .ref b0, .ref b1, .ref b2, .ref b3, .ref b4, .int (nI mi)])), (b2, .inl (G.2 1, 10, .inl (kB g)))] H → va_D A [(hN, .inr (2, [.ref hL, .ref hC, .ref b0, .ref b1, .ref b2, .ref b3, .ref b4, .int (nI mi)])), (b2, .inl (G.2 1, 10, .inl (kB g)))] → va_S A s.heap H locs → ∀ (ls : Array Slot), lv_has ls 2 [(1, .int (nI i)), (0, .ref hN)] → W p l e (headSpec wsX2_forgetWays ({ frames := 0, cells := 0, slots := 0, locals := 0 })).room s m [.ref hN].toArray below meth c H locs 0 0 (MQ below (va_Qv (fun (u : Unit) => True) (fun (u : Unit) t => kA G A [(hN, .inr (2, [.ref hL, .ref hC, .ref b0, .ref b1, .ref b2, .ref b3, .ref b4, .int (nI mi)])), (b2, .inl (G.2 1, 10, .inl (kB (mForget wf 10))))] t) A) [.ref hN].toArray s 0 0 A) (F0 m 2 ls []) := by
    intro n
    induction n with
    | zero =>
      intro i g hmz; exact absurd hmz (Nat.not_lt_zero _)
    | succ n ih2 =>
      intro i g hmz hi hg H locs hP hD hS ls hl
      refine lv_iload_n hx hb dX2_forgetWays_2 rfl (lv_at hl 0 rfl) ?_
      refine lv_bipush (v := (nI 10)) hx hb dX2_forgetWays_3 (by decide) ?_
      refine kb_ge (tgt := 21) hx hb dX2_forgetWays_5 (by decide) (by omega) (by decide) (fun c_1 => ?_) (fun c_1 => ?_)
      · subst hg
        obtain rfl : i = 10 := by omega
        have hP9 := hP.sub (ws' := [(hN, .inr (2, [.ref hL, .ref hC, .ref b0, .ref b1, .ref b2, .ref b3, .ref b4, .int (nI mi)])), (b2, .inl (G.2 1, 10, .inl (kB (mForget wf 10))))]) [0, 1] rfl
        have hD9 := hD.sub (ws' := [(hN, .inr (2, [.ref hL, .ref hC, .ref b0, .ref b1, .ref b2, .ref b3, .ref b4, .int (nI mi)])), (b2, .inl (G.2 1, 10, .inl (kB (mForget wf 10))))]) [0, 1] (by decide) rfl
        exact km_vret (post := fun (u : Unit) => True) (wo := fun (u : Unit) => [(hN, .inr (2, [.ref hL, .ref hC, .ref b0, .ref b1, .ref b2, .ref b3, .ref b4, .int (nI mi)])), (b2, .inl (G.2 1, 10, .inl (kB (mForget wf 10))))]) () hx hb hr hlocks hS hP9 hD9 (trivial) dX2_forgetWays_21
      · refine lv_aload_n hx hb dX2_forgetWays_8 rfl (lv_at hl 1 rfl) ?_
        refine va_get (D := G.1) (ci := 2) (v := .ref b2) (C := RX2) (T := TX2) (N := 8) hx hb hts kX2_forgetWays_1 hown hK hP 0 rfl rfl 4 (by decide) (hts _ kX2_forgetWays_0) (fun _ h9 => h9) rfl dX2_forgetWays_9 ?_
        refine lv_iload_n hx hb dX2_forgetWays_12 rfl (lv_at hl 0 rfl) ?_
        refine lv_iconst (v := (nI 0)) hx hb dX2_forgetWays_13 (by decide) ?_
        refine kr_zast (k := i) (g := (kB (va_up g i false))) hx hb hK hP hD hS 1 1 rfl rfl (by omega) (by decide) (kB_up g i false) dX2_forgetWays_14 (fun H locs hP hD hS => ?_)
        have hP : va_P G.1 vwCl [(hN, .inr (2, [.ref hL, .ref hC, .ref b0, .ref b1, .ref b2, .ref b3, .ref b4, .int (nI mi)])), (b2, .inl (G.2 1, 10, .inl (kB (va_up g i false))))] H := hP
        have hD : va_D A [(hN, .inr (2, [.ref hL, .ref hC, .ref b0, .ref b1, .ref b2, .ref b3, .ref b4, .int (nI mi)])), (b2, .inl (G.2 1, 10, .inl (kB (va_up g i false))))] := hD
        refine lv_iinc (k := 0) (v := (nI (i + 1))) (lv' := [(1, .int (nI (i + 1))), (0, .ref hN)]) hx hb dX2_forgetWays_15 hl rfl (kn_inc i) (by decide) rfl (fun ls hl => ?_)
        refine lv_goto (tgt := 2) hx hb dX2_forgetWays_18 (by decide) ?_
        exact ih2 (i + 1) (va_up g i false) (by omega) (by omega) (by rw [hg]; exact mForget_succ wf i) _ _ hP hD hS _ (lv_sub hl [0, 1] rfl)
  exact hc_2 (_ + 1) 0 wf (Nat.lt_succ_self _) (by omega) (by exact (mForget_0 wf).symm) _ _ hP hD hS _ (lv_sub hl [0, 1] rfl)

theorem kX2_burnAll_0 : Cond.fieldLink RX2 33 "PassNotes$Notes" "held" "[LPassNotes$Sheet;" ∈ wsX2_burnAll := by decide +kernel
theorem kX2_burnAll_1 : ∀ w ∈ wsX20, w ∈ wsX2_burnAll := by decide +kernel
set_option maxHeartbeats 4000000 in
set_option maxRecDepth 100000 in
theorem c_X2_burnAll (l : Launch) (G : kG) (sz : Nat) (hN hL hC b0 b1 b2 b3 b4 mi : Nat) (wf : Nat → Bool) (hd : Nat → Option Nat) (h : Nat) (hh : h < 10) : Met l yX2_burnAll wsX2_burnAll ({ frames := 2, cells := 0, slots := 0, locals := 44 }) (kPreM G [(hN, .inr (2, [.ref hL, .ref hC, .ref b0, .ref b1, .ref b2, .ref b3, .ref b4, .int (nI mi)])), (b2, .inl (G.2 1, 10, .inl (kB wf))), (b3, .inl (G.2 2, 100, .inr (.inr (.inr (.inr hd)))))] sz [.ref hN, .int (nI h)]) (va_Qi (fun (r : Int32) (u : Unit) => r = (nI (mHas hd h))) (fun (u : Unit) t => kA G (va_A [(hN, .inr (2, [.ref hL, .ref hC, .ref b0, .ref b1, .ref b2, .ref b3, .ref b4, .int (nI mi)])), (b2, .inl (G.2 1, 10, .inl (kB wf))), (b3, .inl (G.2 2, 100, .inr (.inr (.inr (.inr hd)))))] sz) [(hN, .inr (2, [.ref hL, .ref hC, .ref b0, .ref b1, .ref b2, .ref b3, .ref b4, .int (nI mi)])), (b2, .inl (G.2 1, 10, .inl (kB (mForget wf 10)))), (b3, .inl (G.2 2, 100, .inr (.inr (.inr (.inr (mBurn hd h 10))))))] t) (va_A [(hN, .inr (2, [.ref hL, .ref hC, .ref b0, .ref b1, .ref b2, .ref b3, .ref b4, .int (nI mi)])), (b2, .inl (G.2 1, 10, .inl (kB wf))), (b3, .inl (G.2 2, 100, .inr (.inr (.inr (.inr hd)))))] sz)) 0 0 (va_A [(hN, .inr (2, [.ref hL, .ref hC, .ref b0, .ref b1, .ref b2, .ref b3, .ref b4, .int (nI mi)])), (b2, .inl (G.2 1, 10, .inl (kB wf))), (b3, .inl (G.2 2, 100, .inr (.inr (.inr (.inr hd)))))] sz) := by
  refine Met.ofW (cc := cX2_burnAll) (maxL := 4) (ret := (some .int)) (by decide) rfl ?_
  intro p e s m args below meth c s₁ B hml hv
  obtain ⟨rfl, hsz, hP, hK, hD0⟩ := hv
  have hx := B.exec
  have hb := B.bytes
  have hr := B.returns
  have hts := atoms_spec (ws := wsX2_burnAll) B.pre
  have hown : s.vm.findClass RX2 = some m.cls := findClass_of_methodNamed B.named
  have hlocks := B.notSynchronized
  have hK : va_K G.1 vwCl (kT G) s := hK
  subst hsz
  have hD := hD0.self (sz := s.heap.size)
  generalize hAe : va_A [(hN, .inr (2, [.ref hL, .ref hC, .ref b0, .ref b1, .ref b2, .ref b3, .ref b4, .int (nI mi)])), (b2, .inl (G.2 1, 10, .inl (kB wf))), (b3, .inl (G.2 2, 100, .inr (.inr (.inr (.inr hd)))))] s.heap.size = A at hD ⊢
  have hA : ∀ q : Nat, s.heap.size ≤ q → A q := fun q h => by rw [← hAe]; exact Or.inr h
  have hS : va_S A s.heap s.heap [] := va_S.rf
  have hP : va_P G.1 vwCl [(hN, .inr (2, [.ref hL, .ref hC, .ref b0, .ref b1, .ref b2, .ref b3, .ref b4, .int (nI mi)])), (b2, .inl (G.2 1, 10, .inl (kB wf))), (b3, .inl (G.2 2, 100, .inr (.inr (.inr (.inr hd)))))] s.heap := hP
  have hl := lv_entry ([.ref hN, .int (nI h)]) (n := 4) (Nat.le_of_ble_eq_true rfl)
  rw [lg_entry_eq]
  generalize (lg_sl ([.ref hN, .int (nI h)]) ++ List.replicate (4 - (lg_sl ([.ref hN, .int (nI h)])).length) Slot.unset).toArray = ls at hl ⊢
  have hl : lv_has ls 4 [(0, .ref hN), (1, .int (nI h))] := hl
  refine lv_aload_n hx hb dX2_burnAll_0 rfl (lv_at hl 0 rfl) ?_
  refine lv_iload_n hx hb dX2_burnAll_1 rfl (lv_at hl 1 rfl) ?_
  refine vp_callSi (W.runV (As := [.int (nI h)]) (rest := []) ⟨hx, hb, hml, hown, hts⟩ (c_X2_sheetsOf l G hN hL hC b0 b1 b2 b3 b4 mi hd h (by omega)) (cwV 1 hts gX2_burnAll_X2_sheetsOf rfl rfl rfl (by decide +kernel) ⟨Nat.le_of_ble_eq_true rfl, Nat.le_of_ble_eq_true rfl⟩) (kPre_V (ws := [(hN, .inr (2, [.ref hL, .ref hC, .ref b0, .ref b1, .ref b2, .ref b3, .ref b4, .int (nI mi)])), (b3, .inl (G.2 2, 100, .inr (.inr (.inr (.inr hd)))))]) hK (hP.sub (ws' := [(hN, .inr (2, [.ref hL, .ref hC, .ref b0, .ref b1, .ref b2, .ref b3, .ref b4, .int (nI mi)])), (b3, .inl (G.2 2, 100, .inr (.inr (.inr (.inr hd)))))]) [0, 2] rfl) (RX2, TX2, 8) 0 rfl rfl) rfl rfl hl.1 rfl (lv_room (Nat.le_of_ble_eq_true rfl)) dX2_burnAll_2 ⟨Nat.le_of_ble_eq_true rfl, Nat.le_of_ble_eq_true rfl⟩) (fun r_1 hr_1 => ?_)
  subst hr_1
  refine lv_istore_n (lv' := [(2, .int (nI (mHas hd h))), (0, .ref hN), (1, .int (nI h))]) hx hb dX2_burnAll_5 rfl hl (by decide) rfl (fun ls hl => ?_)
  refine lv_iconst (v := (nI 0)) hx hb dX2_burnAll_6 (by decide) ?_
  refine lv_istore_n (lv' := [(3, .int (nI 0)), (2, .int (nI (mHas hd h))), (0, .ref hN), (1, .int (nI h))]) hx hb dX2_burnAll_7 rfl hl (by decide) rfl (fun ls hl => ?_)
  have hc_8 : ∀ (n : Nat) (i : Nat) (g : Nat → Option Nat), 10 - i < n → i ≤ 10 → g = mBurn hd h i → ∀ (H : Heap) (locs : List Loc), va_P G.1 vwCl [(hN, .inr (2, [.ref hL, .ref hC, .ref b0, .ref b1, .ref b2, .ref b3, .ref b4, .int (nI mi)])), (b2, .inl (G.2 1, 10, .inl (kB wf))), (b3, .inl (G.2 2, 100, .inr (.inr (.inr (.inr g)))))] H → va_D A [(hN, .inr (2, [.ref hL, .ref hC, .ref b0, .ref b1, .ref b2, .ref b3, .ref b4, .int (nI mi)])), (b2, .inl (G.2 1, 10, .inl (kB wf))), (b3, .inl (G.2 2, 100, .inr (.inr (.inr (.inr g)))))] → va_S A s.heap H locs → ∀ (ls : Array Slot), lv_has ls 4 [(3, .int (nI i)), (2, .int (nI (mHas hd h))), (0, .ref hN), (1, .int (nI h))] → W p l e (headSpec wsX2_burnAll ({ frames := 2, cells := 0, slots := 0, locals := 44 })).room s m [.ref hN, .int (nI h)].toArray below meth c H locs 0 0 (MQ below (va_Qi (fun (r : Int32) (u : Unit) => r = (nI (mHas hd h))) (fun (u : Unit) t => kA G A [(hN, .inr (2, [.ref hL, .ref hC, .ref b0, .ref b1, .ref b2, .ref b3, .ref b4, .int (nI mi)])), (b2, .inl (G.2 1, 10, .inl (kB (mForget wf 10)))), (b3, .inl (G.2 2, 100, .inr (.inr (.inr (.inr (mBurn hd h 10))))))] t) A) [.ref hN, .int (nI h)].toArray s 0 0 A) (F0 m 8 ls []) := by
    intro n
    induction n with
    | zero =>
      intro i g hmz; exact absurd hmz (Nat.not_lt_zero _)
    | succ n ih8 =>
      intro i g hmz hi hg H locs hP hD hS ls hl
      refine lv_iload_n hx hb dX2_burnAll_8 rfl (lv_at hl 0 rfl) ?_
      refine lv_bipush (v := (nI 10)) hx hb dX2_burnAll_9 (by decide) ?_
      refine kb_ge (tgt := 31) hx hb dX2_burnAll_11 (by decide) (by omega) (by decide) (fun c_2 => ?_) (fun c_2 => ?_)
      · refine lv_aload_n hx hb dX2_burnAll_31 rfl (lv_at hl 2 rfl) ?_
        have hPc := hP.sub (ws' := [(hN, .inr (2, [.ref hL, .ref hC, .ref b0, .ref b1, .ref b2, .ref b3, .ref b4, .int (nI mi)])), (b2, .inl (G.2 1, 10, .inl (kB wf)))]) [0, 1] rfl
        have hDc := hD.sub (ws' := [(hN, .inr (2, [.ref hL, .ref hC, .ref b0, .ref b1, .ref b2, .ref b3, .ref b4, .int (nI mi)])), (b2, .inl (G.2 1, 10, .inl (kB wf)))]) [0, 1] (by decide) rfl
        have hFc := va_free (wc := [(hN, .inr (2, [.ref hL, .ref hC, .ref b0, .ref b1, .ref b2, .ref b3, .ref b4, .int (nI mi)])), (b2, .inl (G.2 1, 10, .inl (kB wf)))]) hD hS hA [0, 1] rfl
        refine va_callv (va_runV (As := []) (rest := []) ⟨hx, hb, hml, hown, hts⟩ (c_X2_forgetWays l G _ hN hL hC b0 b1 b2 b3 b4 mi wf ) (cwV 0 hts gX2_burnAll_X2_forgetWays rfl rfl rfl (by decide +kernel) ⟨Nat.le_of_ble_eq_true rfl, Nat.le_of_ble_eq_true rfl⟩) (kPreM_V (ws := [(hN, .inr (2, [.ref hL, .ref hC, .ref b0, .ref b1, .ref b2, .ref b3, .ref b4, .int (nI mi)])), (b2, .inl (G.2 1, 10, .inl (kB wf)))]) hK hPc hDc (RX2, TX2, 8) 0 rfl rfl) rfl rfl hl.1 rfl (lv_room (Nat.le_of_ble_eq_true rfl)) dX2_burnAll_32 ⟨Nat.le_of_ble_eq_true rfl, Nat.le_of_ble_eq_true rfl⟩) hS (fun q _ h => hFc q h) hFc (fun u t H1 locs ht hvm hw hB hz1 hk1 hS => ?_)
        obtain ⟨hP1, hD1⟩ := hB
        rw [ht] at hP1
        try dsimp only at hw hP1 hD1
        obtain ⟨hP, hD⟩ := va_join (wr := [(b3, .inl (G.2 2, 100, .inr (.inr (.inr (.inr g)))))]) (w1 := [(hN, .inr (2, [.ref hL, .ref hC, .ref b0, .ref b1, .ref b2, .ref b3, .ref b4, .int (nI mi)])), (b2, .inl (G.2 1, 10, .inl (kB (mForget wf 10))))]) hP hD [0, 1] [2] rfl rfl (by decide) (by decide) hk1 hFc hP1 hD1
        clear hPc hDc hFc hP1 hD1 hk1 hz1 ht
        skip
        generalize H1 = H at hP hS ⊢
        have hP : va_P G.1 vwCl [(b3, .inl (G.2 2, 100, .inr (.inr (.inr (.inr g))))), (hN, .inr (2, [.ref hL, .ref hC, .ref b0, .ref b1, .ref b2, .ref b3, .ref b4, .int (nI mi)])), (b2, .inl (G.2 1, 10, .inl (kB (mForget wf 10))))] H := hP
        have hD : va_D A [(b3, .inl (G.2 2, 100, .inr (.inr (.inr (.inr g))))), (hN, .inr (2, [.ref hL, .ref hC, .ref b0, .ref b1, .ref b2, .ref b3, .ref b4, .int (nI mi)])), (b2, .inl (G.2 1, 10, .inl (kB (mForget wf 10))))] := hD
        refine W.widen (k := 0) (n := 0) (Nat.le_refl _) (Nat.le_refl _) ?_
        have hw_4 := hw
        refine lv_iload_n hx hb dX2_burnAll_35 rfl (lv_at hl 1 rfl) ?_
        subst hg
        obtain rfl : i = 10 := by omega
        have hP9 := hP.sub (ws' := [(hN, .inr (2, [.ref hL, .ref hC, .ref b0, .ref b1, .ref b2, .ref b3, .ref b4, .int (nI mi)])), (b2, .inl (G.2 1, 10, .inl (kB (mForget wf 10)))), (b3, .inl (G.2 2, 100, .inr (.inr (.inr (.inr (mBurn hd h 10))))))]) [1, 2, 0] rfl
        have hD9 := hD.sub (ws' := [(hN, .inr (2, [.ref hL, .ref hC, .ref b0, .ref b1, .ref b2, .ref b3, .ref b4, .int (nI mi)])), (b2, .inl (G.2 1, 10, .inl (kB (mForget wf 10)))), (b3, .inl (G.2 2, 100, .inr (.inr (.inr (.inr (mBurn hd h 10))))))]) [1, 2, 0] (by decide) rfl
        exact km_iret (v := (nI (mHas hd h))) (post := fun (r : Int32) (u : Unit) => r = (nI (mHas hd h))) (wo := fun (u : Unit) => [(hN, .inr (2, [.ref hL, .ref hC, .ref b0, .ref b1, .ref b2, .ref b3, .ref b4, .int (nI mi)])), (b2, .inl (G.2 1, 10, .inl (kB (mForget wf 10)))), (b3, .inl (G.2 2, 100, .inr (.inr (.inr (.inr (mBurn hd h 10))))))]) () hx hb hr hlocks hS hP9 hD9 (rfl) dX2_burnAll_36
      · refine lv_aload_n hx hb dX2_burnAll_14 rfl (lv_at hl 2 rfl) ?_
        refine va_get (D := G.1) (ci := 2) (v := .ref b3) (C := RX2) (T := TX2) (N := 8) hx hb hts kX2_burnAll_1 hown hK hP 0 rfl rfl 5 (by decide) (hts _ kX2_burnAll_0) (fun _ h9 => h9) rfl dX2_burnAll_15 ?_
        refine lv_iload_n hx hb dX2_burnAll_18 rfl (lv_at hl 3 rfl) ?_
        refine lv_iload_n hx hb dX2_burnAll_19 rfl (lv_at hl 0 rfl) ?_
        refine vp_callSi (W.runS (As := [.int (nI h), .int (nI i)]) (rest := [.ref b3]) ⟨hx, hb, hml, hown, hts⟩ (c_X2_slot l G h i ) (va_cwS 2 hts gX2_burnAll_X2_slot rfl rfl rfl (by decide +kernel) ⟨Nat.le_of_ble_eq_true rfl, Nat.le_of_ble_eq_true rfl⟩) (kPre_S (ws := []) hK (hP.sub [] rfl)) rfl rfl hl.1 rfl (lv_room (Nat.le_of_ble_eq_true rfl)) dX2_burnAll_20 ⟨Nat.le_of_ble_eq_true rfl, Nat.le_of_ble_eq_true rfl⟩) (fun r_5 hr_5 => ?_)
        subst hr_5
        refine lv_null hx hb dX2_burnAll_23 ?_
        refine kr_astN (k := (h * 10 + i)) (g' := (va_up g (h * 10 + i) none)) hx hb hK hP hD hS 2 rfl (by omega) (by decide) rfl dX2_burnAll_24 (fun H locs hP hD hS => ?_)
        have hP : va_P G.1 vwCl [(hN, .inr (2, [.ref hL, .ref hC, .ref b0, .ref b1, .ref b2, .ref b3, .ref b4, .int (nI mi)])), (b2, .inl (G.2 1, 10, .inl (kB wf))), (b3, .inl (G.2 2, 100, .inr (.inr (.inr (.inr (va_up g (h * 10 + i) none))))))] H := hP
        have hD : va_D A [(hN, .inr (2, [.ref hL, .ref hC, .ref b0, .ref b1, .ref b2, .ref b3, .ref b4, .int (nI mi)])), (b2, .inl (G.2 1, 10, .inl (kB wf))), (b3, .inl (G.2 2, 100, .inr (.inr (.inr (.inr (va_up g (h * 10 + i) none))))))] := hD
        refine lv_iinc (k := 0) (v := (nI (i + 1))) (lv' := [(3, .int (nI (i + 1))), (2, .int (nI (mHas hd h))), (0, .ref hN), (1, .int (nI h))]) hx hb dX2_burnAll_25 hl rfl (kn_inc i) (by decide) rfl (fun ls hl => ?_)
        refine lv_goto (tgt := 8) hx hb dX2_burnAll_28 (by decide) ?_
        exact ih8 (i + 1) (va_up g (h * 10 + i) none) (by omega) (by omega) (by rw [hg]; exact mBurn_succ hd h i) _ _ hP hD hS _ (lv_sub hl [0, 1, 2, 3] rfl)
  exact hc_8 (_ + 1) 0 hd (Nat.lt_succ_self _) (by omega) (by exact (mBurn_0 hd h).symm) _ _ hP hD hS _ (lv_sub hl [0, 1, 2, 3] rfl)

theorem kX2_carry_0 : Cond.fieldLink RX2 40 "PassNotes$Notes" "land" "LPassNotes$Land;" ∈ wsX2_carry := by decide +kernel
theorem kX2_carry_1 : ∀ w ∈ wsX20, w ∈ wsX2_carry := by decide +kernel
theorem kX2_carry_2 : Cond.fieldLink RX2 33 "PassNotes$Notes" "held" "[LPassNotes$Sheet;" ∈ wsX2_carry := by decide +kernel
theorem kX2_carry_3 : Cond.fieldLink RX2 37 "PassNotes$Notes" "carried" "[LPassNotes$Sheet;" ∈ wsX2_carry := by decide +kernel
set_option maxHeartbeats 4000000 in
set_option maxRecDepth 100000 in
theorem c_X2_carry (l : Launch) (G : kG) (sz : Nat) (hN hL hC b0 b1 b2 b3 b4 mi : Nat) (L : List Nat) (f : Nat → va_E) (sv : Nat → mS) (a0 a1 a2 a3 a4 : Nat) (nh np : Nat) (ar : Nat → Nat) (hd cd : Nat → Option Nat) (fr to : Nat) (har : ∀ j, ar j < 4) (hhd : kHeld G L f sv hd) (hcd : kHeld G L f sv cd) (hnh : nh ≤ 10) (hfr : fr < 10) (hto : to < 10) : Met l yX2_carry wsX2_carry ({ frames := 2, cells := 0, slots := 0, locals := 42 }) (kPreM G ([(hN, .inr (2, [.ref hL, .ref hC, .ref b0, .ref b1, .ref b2, .ref b3, .ref b4, .int (nI mi)])), (hL, .inr (1, [.ref a0, .ref a1, .ref a2, .ref a3, .ref a4, .int (nI nh), .int (nI np)])), (a0, .inl (G.2 0, 10, .inl (kI ar))), (b3, .inl (G.2 2, 100, .inr (.inr (.inr (.inr hd))))), (b4, .inl (G.2 2, 100, .inr (.inr (.inr (.inr cd)))))] ++ va_pl L f) sz [.ref hN, .int (nI fr), .int (nI to)]) (va_Qv (fun (u : Unit) => True) (fun (u : Unit) t => kA G (va_A ([(hN, .inr (2, [.ref hL, .ref hC, .ref b0, .ref b1, .ref b2, .ref b3, .ref b4, .int (nI mi)])), (hL, .inr (1, [.ref a0, .ref a1, .ref a2, .ref a3, .ref a4, .int (nI nh), .int (nI np)])), (a0, .inl (G.2 0, 10, .inl (kI ar))), (b3, .inl (G.2 2, 100, .inr (.inr (.inr (.inr hd))))), (b4, .inl (G.2 2, 100, .inr (.inr (.inr (.inr cd)))))] ++ va_pl L f) sz) ([(hN, .inr (2, [.ref hL, .ref hC, .ref b0, .ref b1, .ref b2, .ref b3, .ref b4, .int (nI mi)])), (hL, .inr (1, [.ref a0, .ref a1, .ref a2, .ref a3, .ref a4, .int (nI nh), .int (nI np)])), (a0, .inl (G.2 0, 10, .inl (kI ar))), (b3, .inl (G.2 2, 100, .inr (.inr (.inr (.inr hd))))), (b4, .inl (G.2 2, 100, .inr (.inr (.inr (.inr (mCarry ar sv hd cd fr to nh))))))] ++ va_pl L f) t) (va_A ([(hN, .inr (2, [.ref hL, .ref hC, .ref b0, .ref b1, .ref b2, .ref b3, .ref b4, .int (nI mi)])), (hL, .inr (1, [.ref a0, .ref a1, .ref a2, .ref a3, .ref a4, .int (nI nh), .int (nI np)])), (a0, .inl (G.2 0, 10, .inl (kI ar))), (b3, .inl (G.2 2, 100, .inr (.inr (.inr (.inr hd))))), (b4, .inl (G.2 2, 100, .inr (.inr (.inr (.inr cd)))))] ++ va_pl L f) sz)) 0 0 (va_A ([(hN, .inr (2, [.ref hL, .ref hC, .ref b0, .ref b1, .ref b2, .ref b3, .ref b4, .int (nI mi)])), (hL, .inr (1, [.ref a0, .ref a1, .ref a2, .ref a3, .ref a4, .int (nI nh), .int (nI np)])), (a0, .inl (G.2 0, 10, .inl (kI ar))), (b3, .inl (G.2 2, 100, .inr (.inr (.inr (.inr hd))))), (b4, .inl (G.2 2, 100, .inr (.inr (.inr (.inr cd)))))] ++ va_pl L f) sz) := by
  refine Met.ofW (cc := cX2_carry) (maxL := 5) (ret := none) (by decide) rfl ?_
  intro p e s m args below meth c s₁ B hml hv
  obtain ⟨rfl, hsz, hP, hK, hD0⟩ := hv
  have hx := B.exec
  have hb := B.bytes
  have hr := B.returns
  have hts := atoms_spec (ws := wsX2_carry) B.pre
  have hown : s.vm.findClass RX2 = some m.cls := findClass_of_methodNamed B.named
  have hlocks := B.notSynchronized
  have hK : va_K G.1 vwCl (kT G) s := hK
  subst hsz
  have hD := hD0.self (sz := s.heap.size)
  generalize hAe : va_A ([(hN, .inr (2, [.ref hL, .ref hC, .ref b0, .ref b1, .ref b2, .ref b3, .ref b4, .int (nI mi)])), (hL, .inr (1, [.ref a0, .ref a1, .ref a2, .ref a3, .ref a4, .int (nI nh), .int (nI np)])), (a0, .inl (G.2 0, 10, .inl (kI ar))), (b3, .inl (G.2 2, 100, .inr (.inr (.inr (.inr hd))))), (b4, .inl (G.2 2, 100, .inr (.inr (.inr (.inr cd)))))] ++ va_pl L f) s.heap.size = A at hD ⊢
  have hA : ∀ q : Nat, s.heap.size ≤ q → A q := fun q h => by rw [← hAe]; exact Or.inr h
  have hS : va_S A s.heap s.heap [] := va_S.rf
  have hP : va_P G.1 vwCl ([(hN, .inr (2, [.ref hL, .ref hC, .ref b0, .ref b1, .ref b2, .ref b3, .ref b4, .int (nI mi)])), (hL, .inr (1, [.ref a0, .ref a1, .ref a2, .ref a3, .ref a4, .int (nI nh), .int (nI np)])), (a0, .inl (G.2 0, 10, .inl (kI ar))), (b3, .inl (G.2 2, 100, .inr (.inr (.inr (.inr hd))))), (b4, .inl (G.2 2, 100, .inr (.inr (.inr (.inr cd)))))] ++ va_pl L f) s.heap := hP
  have hl := lv_entry ([.ref hN, .int (nI fr), .int (nI to)]) (n := 5) (Nat.le_of_ble_eq_true rfl)
  rw [lg_entry_eq]
  generalize (lg_sl ([.ref hN, .int (nI fr), .int (nI to)]) ++ List.replicate (5 - (lg_sl ([.ref hN, .int (nI fr), .int (nI to)])).length) Slot.unset).toArray = ls at hl ⊢
  have hl : lv_has ls 5 [(0, .ref hN), (1, .int (nI fr)), (2, .int (nI to))] := hl
  refine lv_iconst (v := (nI 0)) hx hb dX2_carry_0 (by decide) ?_
  refine lv_istore_n (lv' := [(3, .int (nI 0)), (0, .ref hN), (1, .int (nI fr)), (2, .int (nI to))]) hx hb dX2_carry_1 rfl hl (by decide) rfl (fun ls hl => ?_)
  have hc_2 : ∀ (n : Nat) (i : Nat) (g : Nat → Option Nat), nh - i < n → i ≤ nh → g = mCarry ar sv hd cd fr to i → ∀ (H : Heap) (locs : List Loc), va_P G.1 vwCl ([(hN, .inr (2, [.ref hL, .ref hC, .ref b0, .ref b1, .ref b2, .ref b3, .ref b4, .int (nI mi)])), (hL, .inr (1, [.ref a0, .ref a1, .ref a2, .ref a3, .ref a4, .int (nI nh), .int (nI np)])), (a0, .inl (G.2 0, 10, .inl (kI ar))), (b3, .inl (G.2 2, 100, .inr (.inr (.inr (.inr hd))))), (b4, .inl (G.2 2, 100, .inr (.inr (.inr (.inr g)))))] ++ va_pl L f) H → va_D A ([(hN, .inr (2, [.ref hL, .ref hC, .ref b0, .ref b1, .ref b2, .ref b3, .ref b4, .int (nI mi)])), (hL, .inr (1, [.ref a0, .ref a1, .ref a2, .ref a3, .ref a4, .int (nI nh), .int (nI np)])), (a0, .inl (G.2 0, 10, .inl (kI ar))), (b3, .inl (G.2 2, 100, .inr (.inr (.inr (.inr hd))))), (b4, .inl (G.2 2, 100, .inr (.inr (.inr (.inr g)))))] ++ va_pl L f) → va_S A s.heap H locs → ∀ (ls : Array Slot), lv_has ls 5 [(3, .int (nI i)), (0, .ref hN), (1, .int (nI fr)), (2, .int (nI to))] → W p l e (headSpec wsX2_carry ({ frames := 2, cells := 0, slots := 0, locals := 42 })).room s m [.ref hN, .int (nI fr), .int (nI to)].toArray below meth c H locs 0 0 (MQ below (va_Qv (fun (u : Unit) => True) (fun (u : Unit) t => kA G A ([(hN, .inr (2, [.ref hL, .ref hC, .ref b0, .ref b1, .ref b2, .ref b3, .ref b4, .int (nI mi)])), (hL, .inr (1, [.ref a0, .ref a1, .ref a2, .ref a3, .ref a4, .int (nI nh), .int (nI np)])), (a0, .inl (G.2 0, 10, .inl (kI ar))), (b3, .inl (G.2 2, 100, .inr (.inr (.inr (.inr hd))))), (b4, .inl (G.2 2, 100, .inr (.inr (.inr (.inr (mCarry ar sv hd cd fr to nh))))))] ++ va_pl L f) t) A) [.ref hN, .int (nI fr), .int (nI to)].toArray s 0 0 A) (F0 m 2 ls []) := by
    intro n
    induction n with
    | zero =>
      intro i g hmz; exact absurd hmz (Nat.not_lt_zero _)
    | succ n ih2 =>
      intro i g hmz hi hg H locs hP hD hS ls hl
      refine lv_iload_n hx hb dX2_carry_2 rfl (lv_at hl 0 rfl) ?_
      refine lv_aload_n hx hb dX2_carry_3 rfl (lv_at hl 1 rfl) ?_
      refine va_get (D := G.1) (ci := 2) (v := .ref hL) (C := RX2) (T := TX2) (N := 8) hx hb hts kX2_carry_1 hown hK hP 0 rfl rfl 0 (by decide) (hts _ kX2_carry_0) (fun _ h9 => h9) rfl dX2_carry_4 ?_
      refine vp_callSi (W.runV (As := []) (rest := [.int (nI i)]) ⟨hx, hb, hml, hown, hts⟩ (c_X1_huts l G hL a0 a1 a2 a3 a4 nh np ) (cwV 0 hts gX2_carry_X1_huts rfl rfl rfl (by decide +kernel) ⟨Nat.le_of_ble_eq_true rfl, Nat.le_of_ble_eq_true rfl⟩) (kPre_V (ws := [(hL, .inr (1, [.ref a0, .ref a1, .ref a2, .ref a3, .ref a4, .int (nI nh), .int (nI np)]))]) hK (hP.sub (ws' := [(hL, .inr (1, [.ref a0, .ref a1, .ref a2, .ref a3, .ref a4, .int (nI nh), .int (nI np)]))]) [1] rfl) (RX1, TX1, 7) 0 rfl rfl) rfl rfl hl.1 rfl (lv_room (Nat.le_of_ble_eq_true rfl)) dX2_carry_7 ⟨Nat.le_of_ble_eq_true rfl, Nat.le_of_ble_eq_true rfl⟩) (fun r_1 hr_1 => ?_)
      subst hr_1
      refine kb_ge (tgt := 84) hx hb dX2_carry_10 (by decide) (by omega) (by omega) (fun c_2 => ?_) (fun c_2 => ?_)
      · subst hg
        obtain rfl : nh = i := by omega
        have hP9 : va_P G.1 vwCl ([(hN, .inr (2, [.ref hL, .ref hC, .ref b0, .ref b1, .ref b2, .ref b3, .ref b4, .int (nI mi)])), (hL, .inr (1, [.ref a0, .ref a1, .ref a2, .ref a3, .ref a4, .int (nI nh), .int (nI np)])), (a0, .inl (G.2 0, 10, .inl (kI ar))), (b3, .inl (G.2 2, 100, .inr (.inr (.inr (.inr hd))))), (b4, .inl (G.2 2, 100, .inr (.inr (.inr (.inr (mCarry ar sv hd cd fr to nh))))))] ++ va_pl L f) _ := hP.part (cx := [(hN, .inr (2, [.ref hL, .ref hC, .ref b0, .ref b1, .ref b2, .ref b3, .ref b4, .int (nI mi)])), (hL, .inr (1, [.ref a0, .ref a1, .ref a2, .ref a3, .ref a4, .int (nI nh), .int (nI np)])), (a0, .inl (G.2 0, 10, .inl (kI ar))), (b3, .inl (G.2 2, 100, .inr (.inr (.inr (.inr hd))))), (b4, .inl (G.2 2, 100, .inr (.inr (.inr (.inr (mCarry ar sv hd cd fr to nh))))))]) [0, 1, 2, 3, 4] rfl
        have hD9 : va_D A ([(hN, .inr (2, [.ref hL, .ref hC, .ref b0, .ref b1, .ref b2, .ref b3, .ref b4, .int (nI mi)])), (hL, .inr (1, [.ref a0, .ref a1, .ref a2, .ref a3, .ref a4, .int (nI nh), .int (nI np)])), (a0, .inl (G.2 0, 10, .inl (kI ar))), (b3, .inl (G.2 2, 100, .inr (.inr (.inr (.inr hd))))), (b4, .inl (G.2 2, 100, .inr (.inr (.inr (.inr (mCarry ar sv hd cd fr to nh))))))] ++ va_pl L f) := hD.part (cx := [(hN, .inr (2, [.ref hL, .ref hC, .ref b0, .ref b1, .ref b2, .ref b3, .ref b4, .int (nI mi)])), (hL, .inr (1, [.ref a0, .ref a1, .ref a2, .ref a3, .ref a4, .int (nI nh), .int (nI np)])), (a0, .inl (G.2 0, 10, .inl (kI ar))), (b3, .inl (G.2 2, 100, .inr (.inr (.inr (.inr hd))))), (b4, .inl (G.2 2, 100, .inr (.inr (.inr (.inr (mCarry ar sv hd cd fr to nh))))))]) [0, 1, 2, 3, 4] (by decide) rfl
        exact km_vret (post := fun (u : Unit) => True) (wo := fun (u : Unit) => ([(hN, .inr (2, [.ref hL, .ref hC, .ref b0, .ref b1, .ref b2, .ref b3, .ref b4, .int (nI mi)])), (hL, .inr (1, [.ref a0, .ref a1, .ref a2, .ref a3, .ref a4, .int (nI nh), .int (nI np)])), (a0, .inl (G.2 0, 10, .inl (kI ar))), (b3, .inl (G.2 2, 100, .inr (.inr (.inr (.inr hd))))), (b4, .inl (G.2 2, 100, .inr (.inr (.inr (.inr (mCarry ar sv hd cd fr to nh))))))] ++ va_pl L f)) () hx hb hr hlocks hS hP9 hD9 (trivial) dX2_carry_84
      · refine lv_aload_n hx hb dX2_carry_13 rfl (lv_at hl 1 rfl) ?_
        refine va_get (D := G.1) (ci := 2) (v := .ref b3) (C := RX2) (T := TX2) (N := 8) hx hb hts kX2_carry_1 hown hK hP 0 rfl rfl 5 (by decide) (hts _ kX2_carry_2) (fun _ h9 => h9) rfl dX2_carry_14 ?_
        refine lv_iload_n hx hb dX2_carry_17 rfl (lv_at hl 2 rfl) ?_
        refine lv_iload_n hx hb dX2_carry_18 rfl (lv_at hl 0 rfl) ?_
        refine vp_callSi (W.runS (As := [.int (nI fr), .int (nI i)]) (rest := [.ref b3]) ⟨hx, hb, hml, hown, hts⟩ (c_X2_slot l G fr i ) (va_cwS 2 hts gX2_carry_X2_slot rfl rfl rfl (by decide +kernel) ⟨Nat.le_of_ble_eq_true rfl, Nat.le_of_ble_eq_true rfl⟩) (kPre_S (ws := []) hK (hP.sub [] rfl)) rfl rfl hl.1 rfl (lv_room (Nat.le_of_ble_eq_true rfl)) dX2_carry_19 ⟨Nat.le_of_ble_eq_true rfl, Nat.le_of_ble_eq_true rfl⟩) (fun r_3 hr_3 => ?_)
        subst hr_3
        refine kr_aldq (k := (fr * 10 + i)) (v := va_rf (hd (fr * 10 + i))) hx hb hK hP 3 2 rfl rfl (by omega) (by decide) rfl dX2_carry_22 ?_
        refine kq_astore (lv' := [(4, va_rf (hd (fr * 10 + i))), (3, .int (nI i)), (0, .ref hN), (1, .int (nI fr)), (2, .int (nI to))]) hx hb dX2_carry_23 hl (by decide) rfl (fun ls hl => ?_)
        refine kq_aload hx hb dX2_carry_25 (lv_at hl 0 rfl) ?_
        refine kb_null (tgt := 78) hx hb dX2_carry_27 (by decide) (fun c_5 => ?_) (fun y_4 c_5 => ?_)
        · rw [c_5] at hl
          have hl : lv_has ls 5 [(4, .null), (3, .int (nI i)), (0, .ref hN), (1, .int (nI fr)), (2, .int (nI to))] := hl
          have hc := c_5
          refine lv_iinc (k := 1) (v := (nI (i + 1))) (lv' := [(3, .int (nI (i + 1))), (4, .null), (0, .ref hN), (1, .int (nI fr)), (2, .int (nI to))]) hx hb dX2_carry_78 hl rfl (kn_inc i) (by decide) rfl (fun ls hl => ?_)
          refine lv_goto (tgt := 2) hx hb dX2_carry_81 (by decide) ?_
          exact ih2 (i + 1) g (by omega) (by omega) (by show _ = mCarry1 ar sv hd (mCarry ar sv hd cd fr to i) fr to i; first | (rw [mCarry1_n hc]; exact hg) | (rw [mCarry1_s hc, ← hg]; first | rw [if_pos ⟨by assumption, by assumption, by assumption⟩] | rw [if_neg (fun z => by first | exact z.1 (by assumption) | exact Bool.noConfusion (z.2.1.symm.trans (show mTakes ar to i = false by assumption)) | exact Bool.noConfusion (z.2.2.symm.trans (show mNewer sv _ (g (to * 10 + i)) = false by assumption)))])) _ _ hP hD hS _ (lv_sub hl [0, 2, 3, 4] rfl)
        · rw [c_5] at hl
          have hl : lv_has ls 5 [(4, .ref y_4), (3, .int (nI i)), (0, .ref hN), (1, .int (nI fr)), (2, .int (nI to))] := hl
          have hc := c_5
          obtain ⟨hyz_6, lyz_6, hlz_6, hfz_6, hgz_6, hnz_6, h1z_6, h2z_6⟩ := hhd _ _ c_5
          refine lv_iload_n hx hb dX2_carry_30 rfl (lv_at hl 1 rfl) ?_
          refine lv_iload_n hx hb dX2_carry_31 rfl (lv_at hl 4 rfl) ?_
          refine kb_eq (tgt := 78) hx hb dX2_carry_32 (by decide) (by omega) (by omega) (fun c_7 => ?_) (fun c_7 => ?_)
          · refine lv_iinc (k := 1) (v := (nI (i + 1))) (lv' := [(3, .int (nI (i + 1))), (4, .ref y_4), (0, .ref hN), (1, .int (nI fr)), (2, .int (nI to))]) hx hb dX2_carry_78 hl rfl (kn_inc i) (by decide) rfl (fun ls hl => ?_)
            refine lv_goto (tgt := 2) hx hb dX2_carry_81 (by decide) ?_
            exact ih2 (i + 1) g (by omega) (by omega) (by show _ = mCarry1 ar sv hd (mCarry ar sv hd cd fr to i) fr to i; first | (rw [mCarry1_n hc]; exact hg) | (rw [mCarry1_s hc, ← hg]; first | rw [if_pos ⟨by assumption, by assumption, by assumption⟩] | rw [if_neg (fun z => by first | exact z.1 (by assumption) | exact Bool.noConfusion (z.2.1.symm.trans (show mTakes ar to i = false by assumption)) | exact Bool.noConfusion (z.2.2.symm.trans (show mNewer sv _ (g (to * 10 + i)) = false by assumption)))])) _ _ hP hD hS _ (lv_sub hl [0, 2, 3, 4] rfl)
          · refine lv_aload_n hx hb dX2_carry_35 rfl (lv_at hl 2 rfl) ?_
            refine va_get (D := G.1) (ci := 2) (v := .ref hL) (C := RX2) (T := TX2) (N := 8) hx hb hts kX2_carry_1 hown hK hP 0 rfl rfl 0 (by decide) (hts _ kX2_carry_0) (fun _ h9 => h9) rfl dX2_carry_36 ?_
            refine lv_iload_n hx hb dX2_carry_39 rfl (lv_at hl 4 rfl) ?_
            refine lv_iload_n hx hb dX2_carry_40 rfl (lv_at hl 1 rfl) ?_
            refine vp_callSi (W.runV (As := [.int (nI to), .int (nI i)]) (rest := []) ⟨hx, hb, hml, hown, hts⟩ (c_X1_takesIn l G hL a0 a1 a2 a3 a4 nh np ar to i har (by omega) (by omega)) (cwV 2 hts gX2_carry_X1_takesIn rfl rfl rfl (by decide +kernel) ⟨Nat.le_of_ble_eq_true rfl, Nat.le_of_ble_eq_true rfl⟩) (kPre_V (ws := [(hL, .inr (1, [.ref a0, .ref a1, .ref a2, .ref a3, .ref a4, .int (nI nh), .int (nI np)])), (a0, .inl (G.2 0, 10, .inl (kI ar)))]) hK (hP.sub (ws' := [(hL, .inr (1, [.ref a0, .ref a1, .ref a2, .ref a3, .ref a4, .int (nI nh), .int (nI np)])), (a0, .inl (G.2 0, 10, .inl (kI ar)))]) [1, 2] rfl) (RX1, TX1, 7) 0 rfl rfl) rfl rfl hl.1 rfl (lv_room (Nat.le_of_ble_eq_true rfl)) dX2_carry_41 ⟨Nat.le_of_ble_eq_true rfl, Nat.le_of_ble_eq_true rfl⟩) (fun r_8 hr_8 => ?_)
            subst hr_8
            refine kb_eqb (tgt := 78) hx hb dX2_carry_44 (by decide) (fun c_9 => ?_) (fun c_9 => ?_)
            · refine lv_iinc (k := 1) (v := (nI (i + 1))) (lv' := [(3, .int (nI (i + 1))), (4, .ref y_4), (0, .ref hN), (1, .int (nI fr)), (2, .int (nI to))]) hx hb dX2_carry_78 hl rfl (kn_inc i) (by decide) rfl (fun ls hl => ?_)
              refine lv_goto (tgt := 2) hx hb dX2_carry_81 (by decide) ?_
              exact ih2 (i + 1) g (by omega) (by omega) (by show _ = mCarry1 ar sv hd (mCarry ar sv hd cd fr to i) fr to i; first | (rw [mCarry1_n hc]; exact hg) | (rw [mCarry1_s hc, ← hg]; first | rw [if_pos ⟨by assumption, by assumption, by assumption⟩] | rw [if_neg (fun z => by first | exact z.1 (by assumption) | exact Bool.noConfusion (z.2.1.symm.trans (show mTakes ar to i = false by assumption)) | exact Bool.noConfusion (z.2.2.symm.trans (show mNewer sv _ (g (to * 10 + i)) = false by assumption)))])) _ _ hP hD hS _ (lv_sub hl [0, 2, 3, 4] rfl)
            · refine lv_aload_n hx hb dX2_carry_47 rfl (lv_at hl 2 rfl) ?_
              refine lv_aload hx hb dX2_carry_48 (lv_at hl 0 rfl) ?_
              refine lv_aload_n hx hb dX2_carry_50 rfl (lv_at hl 2 rfl) ?_
              refine va_get (D := G.1) (ci := 2) (v := .ref b4) (C := RX2) (T := TX2) (N := 8) hx hb hts kX2_carry_1 hown hK hP 0 rfl rfl 6 (by decide) (hts _ kX2_carry_3) (fun _ h9 => h9) rfl dX2_carry_51 ?_
              refine lv_iload_n hx hb dX2_carry_54 rfl (lv_at hl 4 rfl) ?_
              refine lv_iload_n hx hb dX2_carry_55 rfl (lv_at hl 1 rfl) ?_
              refine vp_callSi (W.runS (As := [.int (nI to), .int (nI i)]) (rest := [.ref b4, .ref y_4, .ref hN]) ⟨hx, hb, hml, hown, hts⟩ (c_X2_slot l G to i ) (va_cwS 2 hts gX2_carry_X2_slot rfl rfl rfl (by decide +kernel) ⟨Nat.le_of_ble_eq_true rfl, Nat.le_of_ble_eq_true rfl⟩) (kPre_S (ws := []) hK (hP.sub [] rfl)) rfl rfl hl.1 rfl (lv_room (Nat.le_of_ble_eq_true rfl)) dX2_carry_56 ⟨Nat.le_of_ble_eq_true rfl, Nat.le_of_ble_eq_true rfl⟩) (fun r_10 hr_10 => ?_)
              subst hr_10
              refine kr_aldq (k := (to * 10 + i)) (v := va_rf (g (to * 10 + i))) hx hb hK hP 4 2 rfl rfl (by omega) (by decide) rfl dX2_carry_59 ?_
              refine vp_callSi (W.runV (As := [.ref y_4, va_rf (g (to * 10 + i))]) (rest := []) ⟨hx, hb, hml, hown, hts⟩ (c_X2_isNewer l G hN hL hC b0 b1 b2 b3 b4 mi L f sv y_4 (g (to * 10 + i)) (hhd _ _ hc) (fun z hz => by rw [hg] at hz; exact mCarry_held hhd hcd i _ _ hz)) (cwV 2 hts gX2_carry_X2_isNewer rfl rfl rfl (by decide +kernel) ⟨Nat.le_of_ble_eq_true rfl, Nat.le_of_ble_eq_true rfl⟩) (kPre_V (ws := ([(hN, .inr (2, [.ref hL, .ref hC, .ref b0, .ref b1, .ref b2, .ref b3, .ref b4, .int (nI mi)]))] ++ va_pl L f)) hK (hP.part (cx := [(hN, .inr (2, [.ref hL, .ref hC, .ref b0, .ref b1, .ref b2, .ref b3, .ref b4, .int (nI mi)]))]) [0] rfl) (RX2, TX2, 8) 0 rfl rfl) rfl rfl hl.1 rfl (lv_room (Nat.le_of_ble_eq_true rfl)) dX2_carry_60 ⟨Nat.le_of_ble_eq_true rfl, Nat.le_of_ble_eq_true rfl⟩) (fun r_11 hr_11 => ?_)
              subst hr_11
              refine kb_eqb (tgt := 78) hx hb dX2_carry_63 (by decide) (fun c_12 => ?_) (fun c_12 => ?_)
              · refine lv_iinc (k := 1) (v := (nI (i + 1))) (lv' := [(3, .int (nI (i + 1))), (4, .ref y_4), (0, .ref hN), (1, .int (nI fr)), (2, .int (nI to))]) hx hb dX2_carry_78 hl rfl (kn_inc i) (by decide) rfl (fun ls hl => ?_)
                refine lv_goto (tgt := 2) hx hb dX2_carry_81 (by decide) ?_
                exact ih2 (i + 1) g (by omega) (by omega) (by show _ = mCarry1 ar sv hd (mCarry ar sv hd cd fr to i) fr to i; first | (rw [mCarry1_n hc]; exact hg) | (rw [mCarry1_s hc, ← hg]; first | rw [if_pos ⟨by assumption, by assumption, by assumption⟩] | rw [if_neg (fun z => by first | exact z.1 (by assumption) | exact Bool.noConfusion (z.2.1.symm.trans (show mTakes ar to i = false by assumption)) | exact Bool.noConfusion (z.2.2.symm.trans (show mNewer sv _ (g (to * 10 + i)) = false by assumption)))])) _ _ hP hD hS _ (lv_sub hl [0, 2, 3, 4] rfl)
              · refine lv_aload_n hx hb dX2_carry_66 rfl (lv_at hl 2 rfl) ?_
                refine va_get (D := G.1) (ci := 2) (v := .ref b4) (C := RX2) (T := TX2) (N := 8) hx hb hts kX2_carry_1 hown hK hP 0 rfl rfl 6 (by decide) (hts _ kX2_carry_3) (fun _ h9 => h9) rfl dX2_carry_67 ?_
                refine lv_iload_n hx hb dX2_carry_70 rfl (lv_at hl 4 rfl) ?_
                refine lv_iload_n hx hb dX2_carry_71 rfl (lv_at hl 1 rfl) ?_
                refine vp_callSi (W.runS (As := [.int (nI to), .int (nI i)]) (rest := [.ref b4]) ⟨hx, hb, hml, hown, hts⟩ (c_X2_slot l G to i ) (va_cwS 2 hts gX2_carry_X2_slot rfl rfl rfl (by decide +kernel) ⟨Nat.le_of_ble_eq_true rfl, Nat.le_of_ble_eq_true rfl⟩) (kPre_S (ws := []) hK (hP.sub [] rfl)) rfl rfl hl.1 rfl (lv_room (Nat.le_of_ble_eq_true rfl)) dX2_carry_72 ⟨Nat.le_of_ble_eq_true rfl, Nat.le_of_ble_eq_true rfl⟩) (fun r_13 hr_13 => ?_)
                subst hr_13
                refine lv_aload hx hb dX2_carry_75 (lv_at hl 0 rfl) ?_
                refine kp_ast (o := some y_4) (k := (to * 10 + i)) (g' := (va_up g (to * 10 + i) (some y_4))) hx hb hK hP hD hS 4 rfl (by omega) (by decide) (fun _ h => by cases h; exact ⟨hyz_6, _, hfz_6⟩) rfl dX2_carry_77 (fun H locs hP hD hS => ?_)
                have hP : va_P G.1 vwCl ([(hN, .inr (2, [.ref hL, .ref hC, .ref b0, .ref b1, .ref b2, .ref b3, .ref b4, .int (nI mi)])), (hL, .inr (1, [.ref a0, .ref a1, .ref a2, .ref a3, .ref a4, .int (nI nh), .int (nI np)])), (a0, .inl (G.2 0, 10, .inl (kI ar))), (b3, .inl (G.2 2, 100, .inr (.inr (.inr (.inr hd))))), (b4, .inl (G.2 2, 100, .inr (.inr (.inr (.inr (va_up g (to * 10 + i) (some y_4)))))))] ++ va_pl L f) H := hP
                have hD : va_D A ([(hN, .inr (2, [.ref hL, .ref hC, .ref b0, .ref b1, .ref b2, .ref b3, .ref b4, .int (nI mi)])), (hL, .inr (1, [.ref a0, .ref a1, .ref a2, .ref a3, .ref a4, .int (nI nh), .int (nI np)])), (a0, .inl (G.2 0, 10, .inl (kI ar))), (b3, .inl (G.2 2, 100, .inr (.inr (.inr (.inr hd))))), (b4, .inl (G.2 2, 100, .inr (.inr (.inr (.inr (va_up g (to * 10 + i) (some y_4)))))))] ++ va_pl L f) := hD
                refine lv_iinc (k := 1) (v := (nI (i + 1))) (lv' := [(3, .int (nI (i + 1))), (4, .ref y_4), (0, .ref hN), (1, .int (nI fr)), (2, .int (nI to))]) hx hb dX2_carry_78 hl rfl (kn_inc i) (by decide) rfl (fun ls hl => ?_)
                refine lv_goto (tgt := 2) hx hb dX2_carry_81 (by decide) ?_
                exact ih2 (i + 1) (va_up g (to * 10 + i) (some y_4)) (by omega) (by omega) (by show _ = mCarry1 ar sv hd (mCarry ar sv hd cd fr to i) fr to i; first | (rw [mCarry1_n hc]; exact hg) | (rw [mCarry1_s hc, ← hg]; first | rw [if_pos ⟨by assumption, by assumption, by assumption⟩] | rw [if_neg (fun z => by first | exact z.1 (by assumption) | exact Bool.noConfusion (z.2.1.symm.trans (show mTakes ar to i = false by assumption)) | exact Bool.noConfusion (z.2.2.symm.trans (show mNewer sv _ (g (to * 10 + i)) = false by assumption)))])) _ _ hP hD hS _ (lv_sub hl [0, 2, 3, 4] rfl)
  exact hc_2 (_ + 1) 0 cd (Nat.lt_succ_self _) (by omega) (by rfl) _ _ hP hD hS _ (lv_sub hl [0, 1, 2, 3] rfl)

theorem kX2_carrySheets_0 : Cond.fieldLink RX2 33 "PassNotes$Notes" "held" "[LPassNotes$Sheet;" ∈ wsX2_carrySheets := by decide +kernel
theorem kX2_carrySheets_1 : ∀ w ∈ wsX20, w ∈ wsX2_carrySheets := by decide +kernel
theorem kX2_carrySheets_2 : Cond.fieldLink RX2 40 "PassNotes$Notes" "land" "LPassNotes$Land;" ∈ wsX2_carrySheets := by decide +kernel
theorem kX2_carrySheets_3 : Cond.fieldLink RX2 37 "PassNotes$Notes" "carried" "[LPassNotes$Sheet;" ∈ wsX2_carrySheets := by decide +kernel
set_option maxHeartbeats 4000000 in
set_option maxRecDepth 100000 in
theorem c_X2_carrySheets (l : Launch) (G : kG) (sz : Nat) (hN hL hC b0 b1 b2 b3 b4 mi : Nat) (L : List Nat) (f : Nat → va_E) (sv : Nat → mS) (a0 a1 a2 a3 a4 : Nat) (nh np : Nat) (ar fs sn : Nat → Nat) (op : Nat → Bool) (hd cd : Nat → Option Nat) (hfs : ∀ j, fs j < 10) (hsn : ∀ j, sn j < 10) (har : ∀ j, ar j < 4) (hhd : kHeld G L f sv hd) (hcd : kHeld G L f sv cd) (hnh : nh ≤ 10) (hnp : np ≤ 20) : Met l yX2_carrySheets wsX2_carrySheets ({ frames := 3, cells := 0, slots := 0, locals := 66 }) (kPreM G ([(hN, .inr (2, [.ref hL, .ref hC, .ref b0, .ref b1, .ref b2, .ref b3, .ref b4, .int (nI mi)])), (hL, .inr (1, [.ref a0, .ref a1, .ref a2, .ref a3, .ref a4, .int (nI nh), .int (nI np)])), (a0, .inl (G.2 0, 10, .inl (kI ar))), (a1, .inl (G.2 0, 20, .inl (kI fs))), (a2, .inl (G.2 0, 20, .inl (kI sn))), (a4, .inl (G.2 1, 20, .inl (kB op))), (b3, .inl (G.2 2, 100, .inr (.inr (.inr (.inr hd))))), (b4, .inl (G.2 2, 100, .inr (.inr (.inr (.inr cd)))))] ++ va_pl L f) sz [.ref hN]) (va_Qv (fun (u : Unit) => True) (fun (u : Unit) t => kA G (va_A ([(hN, .inr (2, [.ref hL, .ref hC, .ref b0, .ref b1, .ref b2, .ref b3, .ref b4, .int (nI mi)])), (hL, .inr (1, [.ref a0, .ref a1, .ref a2, .ref a3, .ref a4, .int (nI nh), .int (nI np)])), (a0, .inl (G.2 0, 10, .inl (kI ar))), (a1, .inl (G.2 0, 20, .inl (kI fs))), (a2, .inl (G.2 0, 20, .inl (kI sn))), (a4, .inl (G.2 1, 20, .inl (kB op))), (b3, .inl (G.2 2, 100, .inr (.inr (.inr (.inr hd))))), (b4, .inl (G.2 2, 100, .inr (.inr (.inr (.inr cd)))))] ++ va_pl L f) sz) ([(hN, .inr (2, [.ref hL, .ref hC, .ref b0, .ref b1, .ref b2, .ref b4, .ref b3, .int (nI mi)])), (hL, .inr (1, [.ref a0, .ref a1, .ref a2, .ref a3, .ref a4, .int (nI nh), .int (nI np)])), (a0, .inl (G.2 0, 10, .inl (kI ar))), (a1, .inl (G.2 0, 20, .inl (kI fs))), (a2, .inl (G.2 0, 20, .inl (kI sn))), (a4, .inl (G.2 1, 20, .inl (kB op))), (b3, .inl (G.2 2, 100, .inr (.inr (.inr (.inr hd))))), (b4, .inl (G.2 2, 100, .inr (.inr (.inr (.inr (mCarryP ar fs sn op nh sv hd (mCopy hd cd 100) np))))))] ++ va_pl L f) t) (va_A ([(hN, .inr (2, [.ref hL, .ref hC, .ref b0, .ref b1, .ref b2, .ref b3, .ref b4, .int (nI mi)])), (hL, .inr (1, [.ref a0, .ref a1, .ref a2, .ref a3, .ref a4, .int (nI nh), .int (nI np)])), (a0, .inl (G.2 0, 10, .inl (kI ar))), (a1, .inl (G.2 0, 20, .inl (kI fs))), (a2, .inl (G.2 0, 20, .inl (kI sn))), (a4, .inl (G.2 1, 20, .inl (kB op))), (b3, .inl (G.2 2, 100, .inr (.inr (.inr (.inr hd))))), (b4, .inl (G.2 2, 100, .inr (.inr (.inr (.inr cd)))))] ++ va_pl L f) sz)) 0 0 (va_A ([(hN, .inr (2, [.ref hL, .ref hC, .ref b0, .ref b1, .ref b2, .ref b3, .ref b4, .int (nI mi)])), (hL, .inr (1, [.ref a0, .ref a1, .ref a2, .ref a3, .ref a4, .int (nI nh), .int (nI np)])), (a0, .inl (G.2 0, 10, .inl (kI ar))), (a1, .inl (G.2 0, 20, .inl (kI fs))), (a2, .inl (G.2 0, 20, .inl (kI sn))), (a4, .inl (G.2 1, 20, .inl (kB op))), (b3, .inl (G.2 2, 100, .inr (.inr (.inr (.inr hd))))), (b4, .inl (G.2 2, 100, .inr (.inr (.inr (.inr cd)))))] ++ va_pl L f) sz) := by
  refine Met.ofW (cc := cX2_carrySheets) (maxL := 2) (ret := none) (by decide) rfl ?_
  intro p e s m args below meth c s₁ B hml hv
  obtain ⟨rfl, hsz, hP, hK, hD0⟩ := hv
  have hx := B.exec
  have hb := B.bytes
  have hr := B.returns
  have hts := atoms_spec (ws := wsX2_carrySheets) B.pre
  have hown : s.vm.findClass RX2 = some m.cls := findClass_of_methodNamed B.named
  have hlocks := B.notSynchronized
  have hK : va_K G.1 vwCl (kT G) s := hK
  subst hsz
  have hD := hD0.self (sz := s.heap.size)
  generalize hAe : va_A ([(hN, .inr (2, [.ref hL, .ref hC, .ref b0, .ref b1, .ref b2, .ref b3, .ref b4, .int (nI mi)])), (hL, .inr (1, [.ref a0, .ref a1, .ref a2, .ref a3, .ref a4, .int (nI nh), .int (nI np)])), (a0, .inl (G.2 0, 10, .inl (kI ar))), (a1, .inl (G.2 0, 20, .inl (kI fs))), (a2, .inl (G.2 0, 20, .inl (kI sn))), (a4, .inl (G.2 1, 20, .inl (kB op))), (b3, .inl (G.2 2, 100, .inr (.inr (.inr (.inr hd))))), (b4, .inl (G.2 2, 100, .inr (.inr (.inr (.inr cd)))))] ++ va_pl L f) s.heap.size = A at hD ⊢
  have hA : ∀ q : Nat, s.heap.size ≤ q → A q := fun q h => by rw [← hAe]; exact Or.inr h
  have hS : va_S A s.heap s.heap [] := va_S.rf
  have hP : va_P G.1 vwCl ([(hN, .inr (2, [.ref hL, .ref hC, .ref b0, .ref b1, .ref b2, .ref b3, .ref b4, .int (nI mi)])), (hL, .inr (1, [.ref a0, .ref a1, .ref a2, .ref a3, .ref a4, .int (nI nh), .int (nI np)])), (a0, .inl (G.2 0, 10, .inl (kI ar))), (a1, .inl (G.2 0, 20, .inl (kI fs))), (a2, .inl (G.2 0, 20, .inl (kI sn))), (a4, .inl (G.2 1, 20, .inl (kB op))), (b3, .inl (G.2 2, 100, .inr (.inr (.inr (.inr hd))))), (b4, .inl (G.2 2, 100, .inr (.inr (.inr (.inr cd)))))] ++ va_pl L f) s.heap := hP
  have hl := lv_entry ([.ref hN]) (n := 2) (Nat.le_of_ble_eq_true rfl)
  rw [lg_entry_eq]
  generalize (lg_sl ([.ref hN]) ++ List.replicate (2 - (lg_sl ([.ref hN])).length) Slot.unset).toArray = ls at hl ⊢
  have hl : lv_has ls 2 [(0, .ref hN)] := hl
  refine lv_iconst (v := (nI 0)) hx hb dX2_carrySheets_0 (by decide) ?_
  refine lv_istore_n (lv' := [(1, .int (nI 0)), (0, .ref hN)]) hx hb dX2_carrySheets_1 rfl hl (by decide) rfl (fun ls hl => ?_)
  have hc_2 : ∀ (n : Nat) (i : Nat) (g : Nat → Option Nat), 100 - i < n → i ≤ 100 → g = mCopy hd cd i → ∀ (H : Heap) (locs : List Loc), va_P G.1 vwCl ([(hN, .inr (2, [.ref hL, .ref hC, .ref b0, .ref b1, .ref b2, .ref b3, .ref b4, .int (nI mi)])), (hL, .inr (1, [.ref a0, .ref a1, .ref a2, .ref a3, .ref a4, .int (nI nh), .int (nI np)])), (a0, .inl (G.2 0, 10, .inl (kI ar))), (a1, .inl (G.2 0, 20, .inl (kI fs))), (a2, .inl (G.2 0, 20, .inl (kI sn))), (a4, .inl (G.2 1, 20, .inl (kB op))), (b3, .inl (G.2 2, 100, .inr (.inr (.inr (.inr hd))))), (b4, .inl (G.2 2, 100, .inr (.inr (.inr (.inr g)))))] ++ va_pl L f) H → va_D A ([(hN, .inr (2, [.ref hL, .ref hC, .ref b0, .ref b1, .ref b2, .ref b3, .ref b4, .int (nI mi)])), (hL, .inr (1, [.ref a0, .ref a1, .ref a2, .ref a3, .ref a4, .int (nI nh), .int (nI np)])), (a0, .inl (G.2 0, 10, .inl (kI ar))), (a1, .inl (G.2 0, 20, .inl (kI fs))), (a2, .inl (G.2 0, 20, .inl (kI sn))), (a4, .inl (G.2 1, 20, .inl (kB op))), (b3, .inl (G.2 2, 100, .inr (.inr (.inr (.inr hd))))), (b4, .inl (G.2 2, 100, .inr (.inr (.inr (.inr g)))))] ++ va_pl L f) → va_S A s.heap H locs → ∀ (ls : Array Slot), lv_has ls 2 [(1, .int (nI i)), (0, .ref hN)] → W p l e (headSpec wsX2_carrySheets ({ frames := 3, cells := 0, slots := 0, locals := 66 })).room s m [.ref hN].toArray below meth c H locs 0 0 (MQ below (va_Qv (fun (u : Unit) => True) (fun (u : Unit) t => kA G A ([(hN, .inr (2, [.ref hL, .ref hC, .ref b0, .ref b1, .ref b2, .ref b4, .ref b3, .int (nI mi)])), (hL, .inr (1, [.ref a0, .ref a1, .ref a2, .ref a3, .ref a4, .int (nI nh), .int (nI np)])), (a0, .inl (G.2 0, 10, .inl (kI ar))), (a1, .inl (G.2 0, 20, .inl (kI fs))), (a2, .inl (G.2 0, 20, .inl (kI sn))), (a4, .inl (G.2 1, 20, .inl (kB op))), (b3, .inl (G.2 2, 100, .inr (.inr (.inr (.inr hd))))), (b4, .inl (G.2 2, 100, .inr (.inr (.inr (.inr (mCarryP ar fs sn op nh sv hd (mCopy hd cd 100) np))))))] ++ va_pl L f) t) A) [.ref hN].toArray s 0 0 A) (F0 m 2 ls []) := by
    intro n
    induction n with
    | zero =>
      intro i g hmz; exact absurd hmz (Nat.not_lt_zero _)
    | succ n ih2 =>
      intro i g hmz hi hg H locs hP hD hS ls hl
      refine lv_iload_n hx hb dX2_carrySheets_2 rfl (lv_at hl 0 rfl) ?_
      refine lv_aload_n hx hb dX2_carrySheets_3 rfl (lv_at hl 1 rfl) ?_
      refine va_get (D := G.1) (ci := 2) (v := .ref b3) (C := RX2) (T := TX2) (N := 8) hx hb hts kX2_carrySheets_1 hown hK hP 0 rfl rfl 5 (by decide) (hts _ kX2_carrySheets_0) (fun _ h9 => h9) rfl dX2_carrySheets_4 ?_
      refine va_alen (v := nI 100) hx hb hK hP 6 2 rfl rfl rfl dX2_carrySheets_7 ?_
      refine kb_ge (tgt := 29) hx hb dX2_carrySheets_8 (by decide) (by omega) (by decide) (fun c_1 => ?_) (fun c_1 => ?_)
      · refine lv_iconst (v := (nI 0)) hx hb dX2_carrySheets_29 (by decide) ?_
        refine lv_istore_n (lv' := [(1, .int (nI 0)), (0, .ref hN)]) hx hb dX2_carrySheets_30 rfl hl (by decide) rfl (fun ls hl => ?_)
        have hc_31 : ∀ (n : Nat) (q : Nat) (g2 : Nat → Option Nat), np - q < n → q ≤ np → g2 = mCarryP ar fs sn op nh sv hd (mCopy hd cd 100) q → ∀ (H : Heap) (locs : List Loc), va_P G.1 vwCl ([(hN, .inr (2, [.ref hL, .ref hC, .ref b0, .ref b1, .ref b2, .ref b3, .ref b4, .int (nI mi)])), (hL, .inr (1, [.ref a0, .ref a1, .ref a2, .ref a3, .ref a4, .int (nI nh), .int (nI np)])), (a0, .inl (G.2 0, 10, .inl (kI ar))), (a1, .inl (G.2 0, 20, .inl (kI fs))), (a2, .inl (G.2 0, 20, .inl (kI sn))), (a4, .inl (G.2 1, 20, .inl (kB op))), (b3, .inl (G.2 2, 100, .inr (.inr (.inr (.inr hd))))), (b4, .inl (G.2 2, 100, .inr (.inr (.inr (.inr g2)))))] ++ va_pl L f) H → va_D A ([(hN, .inr (2, [.ref hL, .ref hC, .ref b0, .ref b1, .ref b2, .ref b3, .ref b4, .int (nI mi)])), (hL, .inr (1, [.ref a0, .ref a1, .ref a2, .ref a3, .ref a4, .int (nI nh), .int (nI np)])), (a0, .inl (G.2 0, 10, .inl (kI ar))), (a1, .inl (G.2 0, 20, .inl (kI fs))), (a2, .inl (G.2 0, 20, .inl (kI sn))), (a4, .inl (G.2 1, 20, .inl (kB op))), (b3, .inl (G.2 2, 100, .inr (.inr (.inr (.inr hd))))), (b4, .inl (G.2 2, 100, .inr (.inr (.inr (.inr g2)))))] ++ va_pl L f) → va_S A s.heap H locs → ∀ (ls : Array Slot), lv_has ls 2 [(1, .int (nI q)), (0, .ref hN)] → W p l e (headSpec wsX2_carrySheets ({ frames := 3, cells := 0, slots := 0, locals := 66 })).room s m [.ref hN].toArray below meth c H locs 0 0 (MQ below (va_Qv (fun (u : Unit) => True) (fun (u : Unit) t => kA G A ([(hN, .inr (2, [.ref hL, .ref hC, .ref b0, .ref b1, .ref b2, .ref b4, .ref b3, .int (nI mi)])), (hL, .inr (1, [.ref a0, .ref a1, .ref a2, .ref a3, .ref a4, .int (nI nh), .int (nI np)])), (a0, .inl (G.2 0, 10, .inl (kI ar))), (a1, .inl (G.2 0, 20, .inl (kI fs))), (a2, .inl (G.2 0, 20, .inl (kI sn))), (a4, .inl (G.2 1, 20, .inl (kB op))), (b3, .inl (G.2 2, 100, .inr (.inr (.inr (.inr hd))))), (b4, .inl (G.2 2, 100, .inr (.inr (.inr (.inr (mCarryP ar fs sn op nh sv hd (mCopy hd cd 100) np))))))] ++ va_pl L f) t) A) [.ref hN].toArray s 0 0 A) (F0 m 31 ls []) := by
          intro n
          induction n with
          | zero =>
            intro q g2 hmz; exact absurd hmz (Nat.not_lt_zero _)
          | succ n ih31 =>
            intro q g2 hmz hq hg2 H locs hP hD hS ls hl
            refine lv_iload_n hx hb dX2_carrySheets_31 rfl (lv_at hl 0 rfl) ?_
            refine lv_aload_n hx hb dX2_carrySheets_32 rfl (lv_at hl 1 rfl) ?_
            refine va_get (D := G.1) (ci := 2) (v := .ref hL) (C := RX2) (T := TX2) (N := 8) hx hb hts kX2_carrySheets_1 hown hK hP 0 rfl rfl 0 (by decide) (hts _ kX2_carrySheets_2) (fun _ h9 => h9) rfl dX2_carrySheets_33 ?_
            refine vp_callSi (W.runV (As := []) (rest := [.int (nI q)]) ⟨hx, hb, hml, hown, hts⟩ (c_X1_passes l G hL a0 a1 a2 a3 a4 nh np ) (cwV 0 hts gX2_carrySheets_X1_passes rfl rfl rfl (by decide +kernel) ⟨Nat.le_of_ble_eq_true rfl, Nat.le_of_ble_eq_true rfl⟩) (kPre_V (ws := [(hL, .inr (1, [.ref a0, .ref a1, .ref a2, .ref a3, .ref a4, .int (nI nh), .int (nI np)]))]) hK (hP.sub (ws' := [(hL, .inr (1, [.ref a0, .ref a1, .ref a2, .ref a3, .ref a4, .int (nI nh), .int (nI np)]))]) [1] rfl) (RX1, TX1, 7) 0 rfl rfl) rfl rfl hl.1 rfl (lv_room (Nat.le_of_ble_eq_true rfl)) dX2_carrySheets_36 ⟨Nat.le_of_ble_eq_true rfl, Nat.le_of_ble_eq_true rfl⟩) (fun r_2 hr_2 => ?_)
            subst hr_2
            refine kb_ge (tgt := 99) hx hb dX2_carrySheets_39 (by decide) (by omega) (by omega) (fun c_3 => ?_) (fun c_3 => ?_)
            · refine lv_aload_n hx hb dX2_carrySheets_99 rfl (lv_at hl 1 rfl) ?_
              refine va_get (D := G.1) (ci := 2) (v := .ref b3) (C := RX2) (T := TX2) (N := 8) hx hb hts kX2_carrySheets_1 hown hK hP 0 rfl rfl 5 (by decide) (hts _ kX2_carrySheets_0) (fun _ h9 => h9) rfl dX2_carrySheets_100 ?_
              refine lv_astore_n (lv' := [(1, .ref b3), (0, .ref hN)]) hx hb dX2_carrySheets_103 rfl hl (by decide) rfl (fun ls hl => ?_)
              refine lv_aload_n hx hb dX2_carrySheets_104 rfl (lv_at hl 1 rfl) ?_
              refine lv_aload_n hx hb dX2_carrySheets_105 rfl (lv_at hl 1 rfl) ?_
              refine va_get (D := G.1) (ci := 2) (v := .ref b4) (C := RX2) (T := TX2) (N := 8) hx hb hts kX2_carrySheets_1 hown hK hP 0 rfl rfl 6 (by decide) (hts _ kX2_carrySheets_3) (fun _ h9 => h9) rfl dX2_carrySheets_106 ?_
              refine va_put (D := G.1) (ci := 2) (v := .ref b4) (ty := (tyX2 5)) (C := RX2) (T := TX2) (N := 8) hx hb hts kX2_carrySheets_1 tyX2 tyX2_ok nmX2 hown hK hP hD hS 0 rfl rfl 5 (by decide) (hts _ kX2_carrySheets_0) (fun _ h9 => h9) rfl (by decide +kernel) rfl rfl (Nat.le_of_ble_eq_true rfl) dX2_carrySheets_109 (fun H locs hP hD hS => ?_)
              have hP : va_P G.1 vwCl ([(hN, .inr (2, [.ref hL, .ref hC, .ref b0, .ref b1, .ref b2, .ref b4, .ref b4, .int (nI mi)])), (hL, .inr (1, [.ref a0, .ref a1, .ref a2, .ref a3, .ref a4, .int (nI nh), .int (nI np)])), (a0, .inl (G.2 0, 10, .inl (kI ar))), (a1, .inl (G.2 0, 20, .inl (kI fs))), (a2, .inl (G.2 0, 20, .inl (kI sn))), (a4, .inl (G.2 1, 20, .inl (kB op))), (b3, .inl (G.2 2, 100, .inr (.inr (.inr (.inr hd))))), (b4, .inl (G.2 2, 100, .inr (.inr (.inr (.inr g2)))))] ++ va_pl L f) H := hP
              have hD : va_D A ([(hN, .inr (2, [.ref hL, .ref hC, .ref b0, .ref b1, .ref b2, .ref b4, .ref b4, .int (nI mi)])), (hL, .inr (1, [.ref a0, .ref a1, .ref a2, .ref a3, .ref a4, .int (nI nh), .int (nI np)])), (a0, .inl (G.2 0, 10, .inl (kI ar))), (a1, .inl (G.2 0, 20, .inl (kI fs))), (a2, .inl (G.2 0, 20, .inl (kI sn))), (a4, .inl (G.2 1, 20, .inl (kB op))), (b3, .inl (G.2 2, 100, .inr (.inr (.inr (.inr hd))))), (b4, .inl (G.2 2, 100, .inr (.inr (.inr (.inr g2)))))] ++ va_pl L f) := hD
              refine lv_aload_n hx hb dX2_carrySheets_112 rfl (lv_at hl 1 rfl) ?_
              refine lv_aload_n hx hb dX2_carrySheets_113 rfl (lv_at hl 0 rfl) ?_
              refine va_put (D := G.1) (ci := 2) (v := .ref b3) (ty := (tyX2 6)) (C := RX2) (T := TX2) (N := 8) hx hb hts kX2_carrySheets_1 tyX2 tyX2_ok nmX2 hown hK hP hD hS 0 rfl rfl 6 (by decide) (hts _ kX2_carrySheets_3) (fun _ h9 => h9) rfl (by decide +kernel) rfl rfl (Nat.le_of_ble_eq_true rfl) dX2_carrySheets_114 (fun H locs hP hD hS => ?_)
              have hP : va_P G.1 vwCl ([(hN, .inr (2, [.ref hL, .ref hC, .ref b0, .ref b1, .ref b2, .ref b4, .ref b3, .int (nI mi)])), (hL, .inr (1, [.ref a0, .ref a1, .ref a2, .ref a3, .ref a4, .int (nI nh), .int (nI np)])), (a0, .inl (G.2 0, 10, .inl (kI ar))), (a1, .inl (G.2 0, 20, .inl (kI fs))), (a2, .inl (G.2 0, 20, .inl (kI sn))), (a4, .inl (G.2 1, 20, .inl (kB op))), (b3, .inl (G.2 2, 100, .inr (.inr (.inr (.inr hd))))), (b4, .inl (G.2 2, 100, .inr (.inr (.inr (.inr g2)))))] ++ va_pl L f) H := hP
              have hD : va_D A ([(hN, .inr (2, [.ref hL, .ref hC, .ref b0, .ref b1, .ref b2, .ref b4, .ref b3, .int (nI mi)])), (hL, .inr (1, [.ref a0, .ref a1, .ref a2, .ref a3, .ref a4, .int (nI nh), .int (nI np)])), (a0, .inl (G.2 0, 10, .inl (kI ar))), (a1, .inl (G.2 0, 20, .inl (kI fs))), (a2, .inl (G.2 0, 20, .inl (kI sn))), (a4, .inl (G.2 1, 20, .inl (kB op))), (b3, .inl (G.2 2, 100, .inr (.inr (.inr (.inr hd))))), (b4, .inl (G.2 2, 100, .inr (.inr (.inr (.inr g2)))))] ++ va_pl L f) := hD
              subst hg2
              obtain rfl : np = q := by omega
              have hP9 : va_P G.1 vwCl ([(hN, .inr (2, [.ref hL, .ref hC, .ref b0, .ref b1, .ref b2, .ref b4, .ref b3, .int (nI mi)])), (hL, .inr (1, [.ref a0, .ref a1, .ref a2, .ref a3, .ref a4, .int (nI nh), .int (nI np)])), (a0, .inl (G.2 0, 10, .inl (kI ar))), (a1, .inl (G.2 0, 20, .inl (kI fs))), (a2, .inl (G.2 0, 20, .inl (kI sn))), (a4, .inl (G.2 1, 20, .inl (kB op))), (b3, .inl (G.2 2, 100, .inr (.inr (.inr (.inr hd))))), (b4, .inl (G.2 2, 100, .inr (.inr (.inr (.inr (mCarryP ar fs sn op nh sv hd (mCopy hd cd 100) np))))))] ++ va_pl L f) _ := hP.part (cx := [(hN, .inr (2, [.ref hL, .ref hC, .ref b0, .ref b1, .ref b2, .ref b4, .ref b3, .int (nI mi)])), (hL, .inr (1, [.ref a0, .ref a1, .ref a2, .ref a3, .ref a4, .int (nI nh), .int (nI np)])), (a0, .inl (G.2 0, 10, .inl (kI ar))), (a1, .inl (G.2 0, 20, .inl (kI fs))), (a2, .inl (G.2 0, 20, .inl (kI sn))), (a4, .inl (G.2 1, 20, .inl (kB op))), (b3, .inl (G.2 2, 100, .inr (.inr (.inr (.inr hd))))), (b4, .inl (G.2 2, 100, .inr (.inr (.inr (.inr (mCarryP ar fs sn op nh sv hd (mCopy hd cd 100) np))))))]) [0, 1, 2, 3, 4, 5, 6, 7] rfl
              have hD9 : va_D A ([(hN, .inr (2, [.ref hL, .ref hC, .ref b0, .ref b1, .ref b2, .ref b4, .ref b3, .int (nI mi)])), (hL, .inr (1, [.ref a0, .ref a1, .ref a2, .ref a3, .ref a4, .int (nI nh), .int (nI np)])), (a0, .inl (G.2 0, 10, .inl (kI ar))), (a1, .inl (G.2 0, 20, .inl (kI fs))), (a2, .inl (G.2 0, 20, .inl (kI sn))), (a4, .inl (G.2 1, 20, .inl (kB op))), (b3, .inl (G.2 2, 100, .inr (.inr (.inr (.inr hd))))), (b4, .inl (G.2 2, 100, .inr (.inr (.inr (.inr (mCarryP ar fs sn op nh sv hd (mCopy hd cd 100) np))))))] ++ va_pl L f) := hD.part (cx := [(hN, .inr (2, [.ref hL, .ref hC, .ref b0, .ref b1, .ref b2, .ref b4, .ref b3, .int (nI mi)])), (hL, .inr (1, [.ref a0, .ref a1, .ref a2, .ref a3, .ref a4, .int (nI nh), .int (nI np)])), (a0, .inl (G.2 0, 10, .inl (kI ar))), (a1, .inl (G.2 0, 20, .inl (kI fs))), (a2, .inl (G.2 0, 20, .inl (kI sn))), (a4, .inl (G.2 1, 20, .inl (kB op))), (b3, .inl (G.2 2, 100, .inr (.inr (.inr (.inr hd))))), (b4, .inl (G.2 2, 100, .inr (.inr (.inr (.inr (mCarryP ar fs sn op nh sv hd (mCopy hd cd 100) np))))))]) [0, 1, 2, 3, 4, 5, 6, 7] (by decide) rfl
              exact km_vret (post := fun (u : Unit) => True) (wo := fun (u : Unit) => ([(hN, .inr (2, [.ref hL, .ref hC, .ref b0, .ref b1, .ref b2, .ref b4, .ref b3, .int (nI mi)])), (hL, .inr (1, [.ref a0, .ref a1, .ref a2, .ref a3, .ref a4, .int (nI nh), .int (nI np)])), (a0, .inl (G.2 0, 10, .inl (kI ar))), (a1, .inl (G.2 0, 20, .inl (kI fs))), (a2, .inl (G.2 0, 20, .inl (kI sn))), (a4, .inl (G.2 1, 20, .inl (kB op))), (b3, .inl (G.2 2, 100, .inr (.inr (.inr (.inr hd))))), (b4, .inl (G.2 2, 100, .inr (.inr (.inr (.inr (mCarryP ar fs sn op nh sv hd (mCopy hd cd 100) np))))))] ++ va_pl L f)) () hx hb hr hlocks hS hP9 hD9 (trivial) dX2_carrySheets_117
            · refine lv_aload_n hx hb dX2_carrySheets_42 rfl (lv_at hl 1 rfl) ?_
              refine va_get (D := G.1) (ci := 2) (v := .ref hL) (C := RX2) (T := TX2) (N := 8) hx hb hts kX2_carrySheets_1 hown hK hP 0 rfl rfl 0 (by decide) (hts _ kX2_carrySheets_2) (fun _ h9 => h9) rfl dX2_carrySheets_43 ?_
              refine lv_iload_n hx hb dX2_carrySheets_46 rfl (lv_at hl 0 rfl) ?_
              refine vp_callSi (W.runV (As := [.int (nI q)]) (rest := []) ⟨hx, hb, hml, hown, hts⟩ (c_X1_isOpen l G hL a0 a1 a2 a3 a4 nh np op q (by omega)) (cwV 1 hts gX2_carrySheets_X1_isOpen rfl rfl rfl (by decide +kernel) ⟨Nat.le_of_ble_eq_true rfl, Nat.le_of_ble_eq_true rfl⟩) (kPre_V (ws := [(hL, .inr (1, [.ref a0, .ref a1, .ref a2, .ref a3, .ref a4, .int (nI nh), .int (nI np)])), (a4, .inl (G.2 1, 20, .inl (kB op)))]) hK (hP.sub (ws' := [(hL, .inr (1, [.ref a0, .ref a1, .ref a2, .ref a3, .ref a4, .int (nI nh), .int (nI np)])), (a4, .inl (G.2 1, 20, .inl (kB op)))]) [1, 5] rfl) (RX1, TX1, 7) 0 rfl rfl) rfl rfl hl.1 rfl (lv_room (Nat.le_of_ble_eq_true rfl)) dX2_carrySheets_47 ⟨Nat.le_of_ble_eq_true rfl, Nat.le_of_ble_eq_true rfl⟩) (fun r_4 hr_4 => ?_)
              subst hr_4
              refine kb_eqb (tgt := 93) hx hb dX2_carrySheets_50 (by decide) (fun c_5 => ?_) (fun c_5 => ?_)
              · have hop := c_5
                refine lv_iinc (k := 0) (v := (nI (q + 1))) (lv' := [(1, .int (nI (q + 1))), (0, .ref hN)]) hx hb dX2_carrySheets_93 hl rfl (kn_inc q) (by decide) rfl (fun ls hl => ?_)
                refine lv_goto (tgt := 31) hx hb dX2_carrySheets_96 (by decide) ?_
                exact ih31 (q + 1) g2 (by omega) (by omega) (by show _ = if op q = true then _ else _; first | (rw [if_pos hop, ← hg2]) | (rw [if_neg (by rw [hop]; decide)]; exact hg2)) _ _ hP hD hS _ (lv_sub hl [0, 1] rfl)
              · have hop := c_5
                have hh1 : kHeld G L f sv g2 := by rw [hg2]; exact mCarryP_held hhd (mCopy_held hhd hcd 100) q
                have hfq := hfs q
                have hsq := hsn q
                refine lv_aload_n hx hb dX2_carrySheets_53 rfl (lv_at hl 1 rfl) ?_
                refine lv_aload_n hx hb dX2_carrySheets_54 rfl (lv_at hl 1 rfl) ?_
                refine va_get (D := G.1) (ci := 2) (v := .ref hL) (C := RX2) (T := TX2) (N := 8) hx hb hts kX2_carrySheets_1 hown hK hP 0 rfl rfl 0 (by decide) (hts _ kX2_carrySheets_2) (fun _ h9 => h9) rfl dX2_carrySheets_55 ?_
                refine lv_iload_n hx hb dX2_carrySheets_58 rfl (lv_at hl 0 rfl) ?_
                refine vp_callSi (W.runV (As := [.int (nI q)]) (rest := [.ref hN]) ⟨hx, hb, hml, hown, hts⟩ (c_X1_first l G hL a0 a1 a2 a3 a4 nh np fs q (by omega)) (cwV 1 hts gX2_carrySheets_X1_first rfl rfl rfl (by decide +kernel) ⟨Nat.le_of_ble_eq_true rfl, Nat.le_of_ble_eq_true rfl⟩) (kPre_V (ws := [(hL, .inr (1, [.ref a0, .ref a1, .ref a2, .ref a3, .ref a4, .int (nI nh), .int (nI np)])), (a1, .inl (G.2 0, 20, .inl (kI fs)))]) hK (hP.sub (ws' := [(hL, .inr (1, [.ref a0, .ref a1, .ref a2, .ref a3, .ref a4, .int (nI nh), .int (nI np)])), (a1, .inl (G.2 0, 20, .inl (kI fs)))]) [1, 3] rfl) (RX1, TX1, 7) 0 rfl rfl) rfl rfl hl.1 rfl (lv_room (Nat.le_of_ble_eq_true rfl)) dX2_carrySheets_59 ⟨Nat.le_of_ble_eq_true rfl, Nat.le_of_ble_eq_true rfl⟩) (fun r_6 hr_6 => ?_)
                subst hr_6
                refine lv_aload_n hx hb dX2_carrySheets_62 rfl (lv_at hl 1 rfl) ?_
                refine va_get (D := G.1) (ci := 2) (v := .ref hL) (C := RX2) (T := TX2) (N := 8) hx hb hts kX2_carrySheets_1 hown hK hP 0 rfl rfl 0 (by decide) (hts _ kX2_carrySheets_2) (fun _ h9 => h9) rfl dX2_carrySheets_63 ?_
                refine lv_iload_n hx hb dX2_carrySheets_66 rfl (lv_at hl 0 rfl) ?_
                refine vp_callSi (W.runV (As := [.int (nI q)]) (rest := [.int (nI (fs q)), .ref hN]) ⟨hx, hb, hml, hown, hts⟩ (c_X1_second l G hL a0 a1 a2 a3 a4 nh np sn q (by omega)) (cwV 1 hts gX2_carrySheets_X1_second rfl rfl rfl (by decide +kernel) ⟨Nat.le_of_ble_eq_true rfl, Nat.le_of_ble_eq_true rfl⟩) (kPre_V (ws := [(hL, .inr (1, [.ref a0, .ref a1, .ref a2, .ref a3, .ref a4, .int (nI nh), .int (nI np)])), (a2, .inl (G.2 0, 20, .inl (kI sn)))]) hK (hP.sub (ws' := [(hL, .inr (1, [.ref a0, .ref a1, .ref a2, .ref a3, .ref a4, .int (nI nh), .int (nI np)])), (a2, .inl (G.2 0, 20, .inl (kI sn)))]) [1, 4] rfl) (RX1, TX1, 7) 0 rfl rfl) rfl rfl hl.1 rfl (lv_room (Nat.le_of_ble_eq_true rfl)) dX2_carrySheets_67 ⟨Nat.le_of_ble_eq_true rfl, Nat.le_of_ble_eq_true rfl⟩) (fun r_7 hr_7 => ?_)
                subst hr_7
                have hPc : va_P G.1 vwCl ([(hN, .inr (2, [.ref hL, .ref hC, .ref b0, .ref b1, .ref b2, .ref b3, .ref b4, .int (nI mi)])), (hL, .inr (1, [.ref a0, .ref a1, .ref a2, .ref a3, .ref a4, .int (nI nh), .int (nI np)])), (a0, .inl (G.2 0, 10, .inl (kI ar))), (b3, .inl (G.2 2, 100, .inr (.inr (.inr (.inr hd))))), (b4, .inl (G.2 2, 100, .inr (.inr (.inr (.inr g2)))))] ++ va_pl L f) _ := hP.part (cx := [(hN, .inr (2, [.ref hL, .ref hC, .ref b0, .ref b1, .ref b2, .ref b3, .ref b4, .int (nI mi)])), (hL, .inr (1, [.ref a0, .ref a1, .ref a2, .ref a3, .ref a4, .int (nI nh), .int (nI np)])), (a0, .inl (G.2 0, 10, .inl (kI ar))), (b3, .inl (G.2 2, 100, .inr (.inr (.inr (.inr hd))))), (b4, .inl (G.2 2, 100, .inr (.inr (.inr (.inr g2)))))]) [0, 1, 2, 6, 7] rfl
                have hDc : va_D A ([(hN, .inr (2, [.ref hL, .ref hC, .ref b0, .ref b1, .ref b2, .ref b3, .ref b4, .int (nI mi)])), (hL, .inr (1, [.ref a0, .ref a1, .ref a2, .ref a3, .ref a4, .int (nI nh), .int (nI np)])), (a0, .inl (G.2 0, 10, .inl (kI ar))), (b3, .inl (G.2 2, 100, .inr (.inr (.inr (.inr hd))))), (b4, .inl (G.2 2, 100, .inr (.inr (.inr (.inr g2)))))] ++ va_pl L f) := hD.part (cx := [(hN, .inr (2, [.ref hL, .ref hC, .ref b0, .ref b1, .ref b2, .ref b3, .ref b4, .int (nI mi)])), (hL, .inr (1, [.ref a0, .ref a1, .ref a2, .ref a3, .ref a4, .int (nI nh), .int (nI np)])), (a0, .inl (G.2 0, 10, .inl (kI ar))), (b3, .inl (G.2 2, 100, .inr (.inr (.inr (.inr hd))))), (b4, .inl (G.2 2, 100, .inr (.inr (.inr (.inr g2)))))]) [0, 1, 2, 6, 7] (by decide) rfl
                have hFc : ∀ zq9 : Nat, va_A ([(hN, .inr (2, [.ref hL, .ref hC, .ref b0, .ref b1, .ref b2, .ref b3, .ref b4, .int (nI mi)])), (hL, .inr (1, [.ref a0, .ref a1, .ref a2, .ref a3, .ref a4, .int (nI nh), .int (nI np)])), (a0, .inl (G.2 0, 10, .inl (kI ar))), (b3, .inl (G.2 2, 100, .inr (.inr (.inr (.inr hd))))), (b4, .inl (G.2 2, 100, .inr (.inr (.inr (.inr g2)))))] ++ va_pl L f) _ zq9 → A zq9 := va_freeP (cx := [(hN, .inr (2, [.ref hL, .ref hC, .ref b0, .ref b1, .ref b2, .ref b3, .ref b4, .int (nI mi)])), (hL, .inr (1, [.ref a0, .ref a1, .ref a2, .ref a3, .ref a4, .int (nI nh), .int (nI np)])), (a0, .inl (G.2 0, 10, .inl (kI ar))), (b3, .inl (G.2 2, 100, .inr (.inr (.inr (.inr hd))))), (b4, .inl (G.2 2, 100, .inr (.inr (.inr (.inr g2)))))]) hD hS hA [0, 1, 2, 6, 7] rfl
                refine va_callv (va_runV (As := [.int (nI (fs q)), .int (nI (sn q))]) (rest := []) ⟨hx, hb, hml, hown, hts⟩ (c_X2_carry l G _ hN hL hC b0 b1 b2 b3 b4 mi L f sv a0 a1 a2 a3 a4 nh np ar hd g2 (fs q) (sn q) har hhd (by first | exact hh1 | exact mCarry_held hhd hh1 _) (by omega) (by omega) (by omega)) (cwV 2 hts gX2_carrySheets_X2_carry rfl rfl rfl (by decide +kernel) ⟨Nat.le_of_ble_eq_true rfl, Nat.le_of_ble_eq_true rfl⟩) (kPreM_V (ws := ([(hN, .inr (2, [.ref hL, .ref hC, .ref b0, .ref b1, .ref b2, .ref b3, .ref b4, .int (nI mi)])), (hL, .inr (1, [.ref a0, .ref a1, .ref a2, .ref a3, .ref a4, .int (nI nh), .int (nI np)])), (a0, .inl (G.2 0, 10, .inl (kI ar))), (b3, .inl (G.2 2, 100, .inr (.inr (.inr (.inr hd))))), (b4, .inl (G.2 2, 100, .inr (.inr (.inr (.inr g2)))))] ++ va_pl L f)) hK hPc hDc (RX2, TX2, 8) 0 rfl rfl) rfl rfl hl.1 rfl (lv_room (Nat.le_of_ble_eq_true rfl)) dX2_carrySheets_70 ⟨Nat.le_of_ble_eq_true rfl, Nat.le_of_ble_eq_true rfl⟩) hS (fun q _ h => hFc q h) hFc (fun u t H1 locs ht hvm hw hB hz1 hk1 hS => ?_)
                obtain ⟨hP1, hD1⟩ := hB
                rw [ht] at hP1
                try dsimp only at hw hP1 hD1
                obtain ⟨hP, hD⟩ := va_joinP (cx := [(hN, .inr (2, [.ref hL, .ref hC, .ref b0, .ref b1, .ref b2, .ref b3, .ref b4, .int (nI mi)])), (hL, .inr (1, [.ref a0, .ref a1, .ref a2, .ref a3, .ref a4, .int (nI nh), .int (nI np)])), (a0, .inl (G.2 0, 10, .inl (kI ar))), (b3, .inl (G.2 2, 100, .inr (.inr (.inr (.inr hd))))), (b4, .inl (G.2 2, 100, .inr (.inr (.inr (.inr g2)))))]) (wr := [(a1, .inl (G.2 0, 20, .inl (kI fs))), (a2, .inl (G.2 0, 20, .inl (kI sn))), (a4, .inl (G.2 1, 20, .inl (kB op)))]) (rx := [(hN, .inr (2, [.ref hL, .ref hC, .ref b0, .ref b1, .ref b2, .ref b3, .ref b4, .int (nI mi)])), (hL, .inr (1, [.ref a0, .ref a1, .ref a2, .ref a3, .ref a4, .int (nI nh), .int (nI np)])), (a0, .inl (G.2 0, 10, .inl (kI ar))), (b3, .inl (G.2 2, 100, .inr (.inr (.inr (.inr hd))))), (b4, .inl (G.2 2, 100, .inr (.inr (.inr (.inr (mCarry ar sv hd g2 (fs q) (sn q) nh))))))]) hP hD [0, 1, 2, 6, 7] [3, 4, 5] rfl rfl (by decide) (by decide) hk1 hFc hP1 hD1
                clear hPc hDc hFc hP1 hD1 hk1 hz1 ht
                skip
                generalize H1 = H at hP hS ⊢
                have hP : va_P G.1 vwCl ([(a1, .inl (G.2 0, 20, .inl (kI fs))), (a2, .inl (G.2 0, 20, .inl (kI sn))), (a4, .inl (G.2 1, 20, .inl (kB op))), (hN, .inr (2, [.ref hL, .ref hC, .ref b0, .ref b1, .ref b2, .ref b3, .ref b4, .int (nI mi)])), (hL, .inr (1, [.ref a0, .ref a1, .ref a2, .ref a3, .ref a4, .int (nI nh), .int (nI np)])), (a0, .inl (G.2 0, 10, .inl (kI ar))), (b3, .inl (G.2 2, 100, .inr (.inr (.inr (.inr hd))))), (b4, .inl (G.2 2, 100, .inr (.inr (.inr (.inr (mCarry ar sv hd g2 (fs q) (sn q) nh))))))] ++ va_pl L f) H := hP
                have hD : va_D A ([(a1, .inl (G.2 0, 20, .inl (kI fs))), (a2, .inl (G.2 0, 20, .inl (kI sn))), (a4, .inl (G.2 1, 20, .inl (kB op))), (hN, .inr (2, [.ref hL, .ref hC, .ref b0, .ref b1, .ref b2, .ref b3, .ref b4, .int (nI mi)])), (hL, .inr (1, [.ref a0, .ref a1, .ref a2, .ref a3, .ref a4, .int (nI nh), .int (nI np)])), (a0, .inl (G.2 0, 10, .inl (kI ar))), (b3, .inl (G.2 2, 100, .inr (.inr (.inr (.inr hd))))), (b4, .inl (G.2 2, 100, .inr (.inr (.inr (.inr (mCarry ar sv hd g2 (fs q) (sn q) nh))))))] ++ va_pl L f) := hD
                refine W.widen (k := 0) (n := 0) (Nat.le_refl _) (Nat.le_refl _) ?_
                have hw_9 := hw
                refine lv_aload_n hx hb dX2_carrySheets_73 rfl (lv_at hl 1 rfl) ?_
                refine lv_aload_n hx hb dX2_carrySheets_74 rfl (lv_at hl 1 rfl) ?_
                refine va_get (D := G.1) (ci := 2) (v := .ref hL) (C := RX2) (T := TX2) (N := 8) hx hb hts kX2_carrySheets_1 hown hK hP 3 rfl rfl 0 (by decide) (hts _ kX2_carrySheets_2) (fun _ h9 => h9) rfl dX2_carrySheets_75 ?_
                refine lv_iload_n hx hb dX2_carrySheets_78 rfl (lv_at hl 0 rfl) ?_
                refine vp_callSi (W.runV (As := [.int (nI q)]) (rest := [.ref hN]) ⟨hx, hb, hml, hown, hts⟩ (c_X1_second l G hL a0 a1 a2 a3 a4 nh np sn q (by omega)) (cwV 1 hts gX2_carrySheets_X1_second rfl rfl rfl (by decide +kernel) ⟨Nat.le_of_ble_eq_true rfl, Nat.le_of_ble_eq_true rfl⟩) (kPre_V (ws := [(hL, .inr (1, [.ref a0, .ref a1, .ref a2, .ref a3, .ref a4, .int (nI nh), .int (nI np)])), (a2, .inl (G.2 0, 20, .inl (kI sn)))]) hK (hP.sub (ws' := [(hL, .inr (1, [.ref a0, .ref a1, .ref a2, .ref a3, .ref a4, .int (nI nh), .int (nI np)])), (a2, .inl (G.2 0, 20, .inl (kI sn)))]) [4, 1] rfl) (RX1, TX1, 7) 0 rfl rfl) rfl rfl hl.1 rfl (lv_room (Nat.le_of_ble_eq_true rfl)) dX2_carrySheets_79 ⟨Nat.le_of_ble_eq_true rfl, Nat.le_of_ble_eq_true rfl⟩) (fun r_10 hr_10 => ?_)
                subst hr_10
                refine lv_aload_n hx hb dX2_carrySheets_82 rfl (lv_at hl 1 rfl) ?_
                refine va_get (D := G.1) (ci := 2) (v := .ref hL) (C := RX2) (T := TX2) (N := 8) hx hb hts kX2_carrySheets_1 hown hK hP 3 rfl rfl 0 (by decide) (hts _ kX2_carrySheets_2) (fun _ h9 => h9) rfl dX2_carrySheets_83 ?_
                refine lv_iload_n hx hb dX2_carrySheets_86 rfl (lv_at hl 0 rfl) ?_
                refine vp_callSi (W.runV (As := [.int (nI q)]) (rest := [.int (nI (sn q)), .ref hN]) ⟨hx, hb, hml, hown, hts⟩ (c_X1_first l G hL a0 a1 a2 a3 a4 nh np fs q (by omega)) (cwV 1 hts gX2_carrySheets_X1_first rfl rfl rfl (by decide +kernel) ⟨Nat.le_of_ble_eq_true rfl, Nat.le_of_ble_eq_true rfl⟩) (kPre_V (ws := [(hL, .inr (1, [.ref a0, .ref a1, .ref a2, .ref a3, .ref a4, .int (nI nh), .int (nI np)])), (a1, .inl (G.2 0, 20, .inl (kI fs)))]) hK (hP.sub (ws' := [(hL, .inr (1, [.ref a0, .ref a1, .ref a2, .ref a3, .ref a4, .int (nI nh), .int (nI np)])), (a1, .inl (G.2 0, 20, .inl (kI fs)))]) [4, 0] rfl) (RX1, TX1, 7) 0 rfl rfl) rfl rfl hl.1 rfl (lv_room (Nat.le_of_ble_eq_true rfl)) dX2_carrySheets_87 ⟨Nat.le_of_ble_eq_true rfl, Nat.le_of_ble_eq_true rfl⟩) (fun r_11 hr_11 => ?_)
                subst hr_11
                have hPc : va_P G.1 vwCl ([(hN, .inr (2, [.ref hL, .ref hC, .ref b0, .ref b1, .ref b2, .ref b3, .ref b4, .int (nI mi)])), (hL, .inr (1, [.ref a0, .ref a1, .ref a2, .ref a3, .ref a4, .int (nI nh), .int (nI np)])), (a0, .inl (G.2 0, 10, .inl (kI ar))), (b3, .inl (G.2 2, 100, .inr (.inr (.inr (.inr hd))))), (b4, .inl (G.2 2, 100, .inr (.inr (.inr (.inr (mCarry ar sv hd g2 (fs q) (sn q) nh))))))] ++ va_pl L f) _ := hP.part (cx := [(hN, .inr (2, [.ref hL, .ref hC, .ref b0, .ref b1, .ref b2, .ref b3, .ref b4, .int (nI mi)])), (hL, .inr (1, [.ref a0, .ref a1, .ref a2, .ref a3, .ref a4, .int (nI nh), .int (nI np)])), (a0, .inl (G.2 0, 10, .inl (kI ar))), (b3, .inl (G.2 2, 100, .inr (.inr (.inr (.inr hd))))), (b4, .inl (G.2 2, 100, .inr (.inr (.inr (.inr (mCarry ar sv hd g2 (fs q) (sn q) nh))))))]) [3, 4, 5, 6, 7] rfl
                have hDc : va_D A ([(hN, .inr (2, [.ref hL, .ref hC, .ref b0, .ref b1, .ref b2, .ref b3, .ref b4, .int (nI mi)])), (hL, .inr (1, [.ref a0, .ref a1, .ref a2, .ref a3, .ref a4, .int (nI nh), .int (nI np)])), (a0, .inl (G.2 0, 10, .inl (kI ar))), (b3, .inl (G.2 2, 100, .inr (.inr (.inr (.inr hd))))), (b4, .inl (G.2 2, 100, .inr (.inr (.inr (.inr (mCarry ar sv hd g2 (fs q) (sn q) nh))))))] ++ va_pl L f) := hD.part (cx := [(hN, .inr (2, [.ref hL, .ref hC, .ref b0, .ref b1, .ref b2, .ref b3, .ref b4, .int (nI mi)])), (hL, .inr (1, [.ref a0, .ref a1, .ref a2, .ref a3, .ref a4, .int (nI nh), .int (nI np)])), (a0, .inl (G.2 0, 10, .inl (kI ar))), (b3, .inl (G.2 2, 100, .inr (.inr (.inr (.inr hd))))), (b4, .inl (G.2 2, 100, .inr (.inr (.inr (.inr (mCarry ar sv hd g2 (fs q) (sn q) nh))))))]) [3, 4, 5, 6, 7] (by decide) rfl
                have hFc : ∀ zq9 : Nat, va_A ([(hN, .inr (2, [.ref hL, .ref hC, .ref b0, .ref b1, .ref b2, .ref b3, .ref b4, .int (nI mi)])), (hL, .inr (1, [.ref a0, .ref a1, .ref a2, .ref a3, .ref a4, .int (nI nh), .int (nI np)])), (a0, .inl (G.2 0, 10, .inl (kI ar))), (b3, .inl (G.2 2, 100, .inr (.inr (.inr (.inr hd))))), (b4, .inl (G.2 2, 100, .inr (.inr (.inr (.inr (mCarry ar sv hd g2 (fs q) (sn q) nh))))))] ++ va_pl L f) _ zq9 → A zq9 := va_freeP (cx := [(hN, .inr (2, [.ref hL, .ref hC, .ref b0, .ref b1, .ref b2, .ref b3, .ref b4, .int (nI mi)])), (hL, .inr (1, [.ref a0, .ref a1, .ref a2, .ref a3, .ref a4, .int (nI nh), .int (nI np)])), (a0, .inl (G.2 0, 10, .inl (kI ar))), (b3, .inl (G.2 2, 100, .inr (.inr (.inr (.inr hd))))), (b4, .inl (G.2 2, 100, .inr (.inr (.inr (.inr (mCarry ar sv hd g2 (fs q) (sn q) nh))))))]) hD hS hA [3, 4, 5, 6, 7] rfl
                refine va_callv (va_runV (As := [.int (nI (sn q)), .int (nI (fs q))]) (rest := []) ⟨hx, hb, hml, hown, hts⟩ (c_X2_carry l G _ hN hL hC b0 b1 b2 b3 b4 mi L f sv a0 a1 a2 a3 a4 nh np ar hd (mCarry ar sv hd g2 (fs q) (sn q) nh) (sn q) (fs q) har hhd (by first | exact hh1 | exact mCarry_held hhd hh1 _) (by omega) (by omega) (by omega)) (cwV 2 hts gX2_carrySheets_X2_carry rfl rfl rfl (by decide +kernel) ⟨Nat.le_of_ble_eq_true rfl, Nat.le_of_ble_eq_true rfl⟩) (kPreM_V (ws := ([(hN, .inr (2, [.ref hL, .ref hC, .ref b0, .ref b1, .ref b2, .ref b3, .ref b4, .int (nI mi)])), (hL, .inr (1, [.ref a0, .ref a1, .ref a2, .ref a3, .ref a4, .int (nI nh), .int (nI np)])), (a0, .inl (G.2 0, 10, .inl (kI ar))), (b3, .inl (G.2 2, 100, .inr (.inr (.inr (.inr hd))))), (b4, .inl (G.2 2, 100, .inr (.inr (.inr (.inr (mCarry ar sv hd g2 (fs q) (sn q) nh))))))] ++ va_pl L f)) hK hPc hDc (RX2, TX2, 8) 0 rfl rfl) rfl rfl hl.1 rfl (lv_room (Nat.le_of_ble_eq_true rfl)) dX2_carrySheets_90 ⟨Nat.le_of_ble_eq_true rfl, Nat.le_of_ble_eq_true rfl⟩) hS (fun q _ h => hFc q h) hFc (fun u t H1 locs ht hvm hw hB hz1 hk1 hS => ?_)
                obtain ⟨hP1, hD1⟩ := hB
                rw [ht] at hP1
                try dsimp only at hw hP1 hD1
                obtain ⟨hP, hD⟩ := va_joinP (cx := [(hN, .inr (2, [.ref hL, .ref hC, .ref b0, .ref b1, .ref b2, .ref b3, .ref b4, .int (nI mi)])), (hL, .inr (1, [.ref a0, .ref a1, .ref a2, .ref a3, .ref a4, .int (nI nh), .int (nI np)])), (a0, .inl (G.2 0, 10, .inl (kI ar))), (b3, .inl (G.2 2, 100, .inr (.inr (.inr (.inr hd))))), (b4, .inl (G.2 2, 100, .inr (.inr (.inr (.inr (mCarry ar sv hd g2 (fs q) (sn q) nh))))))]) (wr := [(a1, .inl (G.2 0, 20, .inl (kI fs))), (a2, .inl (G.2 0, 20, .inl (kI sn))), (a4, .inl (G.2 1, 20, .inl (kB op)))]) (rx := [(hN, .inr (2, [.ref hL, .ref hC, .ref b0, .ref b1, .ref b2, .ref b3, .ref b4, .int (nI mi)])), (hL, .inr (1, [.ref a0, .ref a1, .ref a2, .ref a3, .ref a4, .int (nI nh), .int (nI np)])), (a0, .inl (G.2 0, 10, .inl (kI ar))), (b3, .inl (G.2 2, 100, .inr (.inr (.inr (.inr hd))))), (b4, .inl (G.2 2, 100, .inr (.inr (.inr (.inr (mCarry ar sv hd (mCarry ar sv hd g2 (fs q) (sn q) nh) (sn q) (fs q) nh))))))]) hP hD [3, 4, 5, 6, 7] [0, 1, 2] rfl rfl (by decide) (by decide) hk1 hFc hP1 hD1
                clear hPc hDc hFc hP1 hD1 hk1 hz1 ht
                skip
                generalize H1 = H at hP hS ⊢
                have hP : va_P G.1 vwCl ([(a1, .inl (G.2 0, 20, .inl (kI fs))), (a2, .inl (G.2 0, 20, .inl (kI sn))), (a4, .inl (G.2 1, 20, .inl (kB op))), (hN, .inr (2, [.ref hL, .ref hC, .ref b0, .ref b1, .ref b2, .ref b3, .ref b4, .int (nI mi)])), (hL, .inr (1, [.ref a0, .ref a1, .ref a2, .ref a3, .ref a4, .int (nI nh), .int (nI np)])), (a0, .inl (G.2 0, 10, .inl (kI ar))), (b3, .inl (G.2 2, 100, .inr (.inr (.inr (.inr hd))))), (b4, .inl (G.2 2, 100, .inr (.inr (.inr (.inr (mCarry ar sv hd (mCarry ar sv hd g2 (fs q) (sn q) nh) (sn q) (fs q) nh))))))] ++ va_pl L f) H := hP
                have hD : va_D A ([(a1, .inl (G.2 0, 20, .inl (kI fs))), (a2, .inl (G.2 0, 20, .inl (kI sn))), (a4, .inl (G.2 1, 20, .inl (kB op))), (hN, .inr (2, [.ref hL, .ref hC, .ref b0, .ref b1, .ref b2, .ref b3, .ref b4, .int (nI mi)])), (hL, .inr (1, [.ref a0, .ref a1, .ref a2, .ref a3, .ref a4, .int (nI nh), .int (nI np)])), (a0, .inl (G.2 0, 10, .inl (kI ar))), (b3, .inl (G.2 2, 100, .inr (.inr (.inr (.inr hd))))), (b4, .inl (G.2 2, 100, .inr (.inr (.inr (.inr (mCarry ar sv hd (mCarry ar sv hd g2 (fs q) (sn q) nh) (sn q) (fs q) nh))))))] ++ va_pl L f) := hD
                refine W.widen (k := 0) (n := 0) (Nat.le_refl _) (Nat.le_refl _) ?_
                have hw_13 := hw
                refine lv_iinc (k := 0) (v := (nI (q + 1))) (lv' := [(1, .int (nI (q + 1))), (0, .ref hN)]) hx hb dX2_carrySheets_93 hl rfl (kn_inc q) (by decide) rfl (fun ls hl => ?_)
                refine lv_goto (tgt := 31) hx hb dX2_carrySheets_96 (by decide) ?_
                have hP : va_P G.1 vwCl ([(hN, .inr (2, [.ref hL, .ref hC, .ref b0, .ref b1, .ref b2, .ref b3, .ref b4, .int (nI mi)])), (hL, .inr (1, [.ref a0, .ref a1, .ref a2, .ref a3, .ref a4, .int (nI nh), .int (nI np)])), (a0, .inl (G.2 0, 10, .inl (kI ar))), (a1, .inl (G.2 0, 20, .inl (kI fs))), (a2, .inl (G.2 0, 20, .inl (kI sn))), (a4, .inl (G.2 1, 20, .inl (kB op))), (b3, .inl (G.2 2, 100, .inr (.inr (.inr (.inr hd))))), (b4, .inl (G.2 2, 100, .inr (.inr (.inr (.inr (mCarry ar sv hd (mCarry ar sv hd g2 (fs q) (sn q) nh) (sn q) (fs q) nh))))))] ++ va_pl L f) _ := hP.part (cx := [(hN, .inr (2, [.ref hL, .ref hC, .ref b0, .ref b1, .ref b2, .ref b3, .ref b4, .int (nI mi)])), (hL, .inr (1, [.ref a0, .ref a1, .ref a2, .ref a3, .ref a4, .int (nI nh), .int (nI np)])), (a0, .inl (G.2 0, 10, .inl (kI ar))), (a1, .inl (G.2 0, 20, .inl (kI fs))), (a2, .inl (G.2 0, 20, .inl (kI sn))), (a4, .inl (G.2 1, 20, .inl (kB op))), (b3, .inl (G.2 2, 100, .inr (.inr (.inr (.inr hd))))), (b4, .inl (G.2 2, 100, .inr (.inr (.inr (.inr (mCarry ar sv hd (mCarry ar sv hd g2 (fs q) (sn q) nh) (sn q) (fs q) nh))))))]) [3, 4, 5, 0, 1, 2, 6, 7] rfl
                have hD : va_D A ([(hN, .inr (2, [.ref hL, .ref hC, .ref b0, .ref b1, .ref b2, .ref b3, .ref b4, .int (nI mi)])), (hL, .inr (1, [.ref a0, .ref a1, .ref a2, .ref a3, .ref a4, .int (nI nh), .int (nI np)])), (a0, .inl (G.2 0, 10, .inl (kI ar))), (a1, .inl (G.2 0, 20, .inl (kI fs))), (a2, .inl (G.2 0, 20, .inl (kI sn))), (a4, .inl (G.2 1, 20, .inl (kB op))), (b3, .inl (G.2 2, 100, .inr (.inr (.inr (.inr hd))))), (b4, .inl (G.2 2, 100, .inr (.inr (.inr (.inr (mCarry ar sv hd (mCarry ar sv hd g2 (fs q) (sn q) nh) (sn q) (fs q) nh))))))] ++ va_pl L f) := hD.part (cx := [(hN, .inr (2, [.ref hL, .ref hC, .ref b0, .ref b1, .ref b2, .ref b3, .ref b4, .int (nI mi)])), (hL, .inr (1, [.ref a0, .ref a1, .ref a2, .ref a3, .ref a4, .int (nI nh), .int (nI np)])), (a0, .inl (G.2 0, 10, .inl (kI ar))), (a1, .inl (G.2 0, 20, .inl (kI fs))), (a2, .inl (G.2 0, 20, .inl (kI sn))), (a4, .inl (G.2 1, 20, .inl (kB op))), (b3, .inl (G.2 2, 100, .inr (.inr (.inr (.inr hd))))), (b4, .inl (G.2 2, 100, .inr (.inr (.inr (.inr (mCarry ar sv hd (mCarry ar sv hd g2 (fs q) (sn q) nh) (sn q) (fs q) nh))))))]) [3, 4, 5, 0, 1, 2, 6, 7] (by decide) rfl
                exact ih31 (q + 1) (mCarry ar sv hd (mCarry ar sv hd g2 (fs q) (sn q) nh) (sn q) (fs q) nh) (by omega) (by omega) (by show _ = if op q = true then _ else _; first | (rw [if_pos hop, ← hg2]) | (rw [if_neg (by rw [hop]; decide)]; exact hg2)) _ _ hP hD hS _ (lv_sub hl [0, 1] rfl)
        exact hc_31 (_ + 1) 0 g (Nat.lt_succ_self _) (by omega) (by rw [hg, show i = 100 by omega]; rfl) _ _ hP hD hS _ (lv_sub hl [0, 1] rfl)
      · refine lv_aload_n hx hb dX2_carrySheets_11 rfl (lv_at hl 1 rfl) ?_
        refine va_get (D := G.1) (ci := 2) (v := .ref b4) (C := RX2) (T := TX2) (N := 8) hx hb hts kX2_carrySheets_1 hown hK hP 0 rfl rfl 6 (by decide) (hts _ kX2_carrySheets_3) (fun _ h9 => h9) rfl dX2_carrySheets_12 ?_
        refine lv_iload_n hx hb dX2_carrySheets_15 rfl (lv_at hl 0 rfl) ?_
        refine lv_aload_n hx hb dX2_carrySheets_16 rfl (lv_at hl 1 rfl) ?_
        refine va_get (D := G.1) (ci := 2) (v := .ref b3) (C := RX2) (T := TX2) (N := 8) hx hb hts kX2_carrySheets_1 hown hK hP 0 rfl rfl 5 (by decide) (hts _ kX2_carrySheets_0) (fun _ h9 => h9) rfl dX2_carrySheets_17 ?_
        refine lv_iload_n hx hb dX2_carrySheets_20 rfl (lv_at hl 0 rfl) ?_
        refine kr_aldq (k := i) (v := va_rf (hd i)) hx hb hK hP 6 2 rfl rfl (by omega) (by decide) rfl dX2_carrySheets_21 ?_
        refine kp_ast (o := hd i) (k := i) (g' := (va_up g i (hd i))) hx hb hK hP hD hS 7 rfl (by omega) (by decide) (fun y h => (hhd _ _ h).at) rfl dX2_carrySheets_22 (fun H locs hP hD hS => ?_)
        have hP : va_P G.1 vwCl ([(hN, .inr (2, [.ref hL, .ref hC, .ref b0, .ref b1, .ref b2, .ref b3, .ref b4, .int (nI mi)])), (hL, .inr (1, [.ref a0, .ref a1, .ref a2, .ref a3, .ref a4, .int (nI nh), .int (nI np)])), (a0, .inl (G.2 0, 10, .inl (kI ar))), (a1, .inl (G.2 0, 20, .inl (kI fs))), (a2, .inl (G.2 0, 20, .inl (kI sn))), (a4, .inl (G.2 1, 20, .inl (kB op))), (b3, .inl (G.2 2, 100, .inr (.inr (.inr (.inr hd))))), (b4, .inl (G.2 2, 100, .inr (.inr (.inr (.inr (va_up g i (hd i)))))))] ++ va_pl L f) H := hP
        have hD : va_D A ([(hN, .inr (2, [.ref hL, .ref hC, .ref b0, .ref b1, .ref b2, .ref b3, .ref b4, .int (nI mi)])), (hL, .inr (1, [.ref a0, .ref a1, .ref a2, .ref a3, .ref a4, .int (nI nh), .int (nI np)])), (a0, .inl (G.2 0, 10, .inl (kI ar))), (a1, .inl (G.2 0, 20, .inl (kI fs))), (a2, .inl (G.2 0, 20, .inl (kI sn))), (a4, .inl (G.2 1, 20, .inl (kB op))), (b3, .inl (G.2 2, 100, .inr (.inr (.inr (.inr hd))))), (b4, .inl (G.2 2, 100, .inr (.inr (.inr (.inr (va_up g i (hd i)))))))] ++ va_pl L f) := hD
        refine lv_iinc (k := 0) (v := (nI (i + 1))) (lv' := [(1, .int (nI (i + 1))), (0, .ref hN)]) hx hb dX2_carrySheets_23 hl rfl (kn_inc i) (by decide) rfl (fun ls hl => ?_)
        refine lv_goto (tgt := 2) hx hb dX2_carrySheets_26 (by decide) ?_
        exact ih2 (i + 1) (va_up g i (hd i)) (by omega) (by omega) (by rw [hg]; exact mCopy_succ hd cd i) _ _ hP hD hS _ (lv_sub hl [0, 1] rfl)
  exact hc_2 (_ + 1) 0 cd (Nat.lt_succ_self _) (by omega) (by exact (mCopy_0 hd cd).symm) _ _ hP hD hS _ (lv_sub hl [0, 1] rfl)

theorem kX2_throwOldAway_0 : Cond.fieldLink RX2 33 "PassNotes$Notes" "held" "[LPassNotes$Sheet;" ∈ wsX2_throwOldAway := by decide +kernel
theorem kX2_throwOldAway_1 : ∀ w ∈ wsX20, w ∈ wsX2_throwOldAway := by decide +kernel
theorem kX2_throwOldAway_2 : Cond.fieldLink RX2 44 "PassNotes$Notes" "minute" "I" ∈ wsX2_throwOldAway := by decide +kernel
set_option maxHeartbeats 4000000 in
set_option maxRecDepth 100000 in
theorem c_X2_throwOldAway (l : Launch) (G : kG) (sz : Nat) (hN hL hC b0 b1 b2 b3 b4 mi : Nat) (L : List Nat) (f : Nat → va_E) (sv : Nat → mS) (hd : Nat → Option Nat) (hhd : kHeld G L f sv hd) (hag : ∀ j y, hd j = some y → (sv y).2.1 ≤ mi) (hmi : mi < 2 ^ 31) : Met l yX2_throwOldAway wsX2_throwOldAway ({ frames := 1, cells := 0, slots := 0, locals := 21 }) (kPreM G ([(hN, .inr (2, [.ref hL, .ref hC, .ref b0, .ref b1, .ref b2, .ref b3, .ref b4, .int (nI mi)])), (b3, .inl (G.2 2, 100, .inr (.inr (.inr (.inr hd)))))] ++ va_pl L f) sz [.ref hN]) (va_Qv (fun (u : Unit) => True) (fun (u : Unit) t => kA G (va_A ([(hN, .inr (2, [.ref hL, .ref hC, .ref b0, .ref b1, .ref b2, .ref b3, .ref b4, .int (nI mi)])), (b3, .inl (G.2 2, 100, .inr (.inr (.inr (.inr hd)))))] ++ va_pl L f) sz) ([(hN, .inr (2, [.ref hL, .ref hC, .ref b0, .ref b1, .ref b2, .ref b3, .ref b4, .int (nI mi)])), (b3, .inl (G.2 2, 100, .inr (.inr (.inr (.inr (mThrow sv mi hd 100))))))] ++ va_pl L f) t) (va_A ([(hN, .inr (2, [.ref hL, .ref hC, .ref b0, .ref b1, .ref b2, .ref b3, .ref b4, .int (nI mi)])), (b3, .inl (G.2 2, 100, .inr (.inr (.inr (.inr hd)))))] ++ va_pl L f) sz)) 0 0 (va_A ([(hN, .inr (2, [.ref hL, .ref hC, .ref b0, .ref b1, .ref b2, .ref b3, .ref b4, .int (nI mi)])), (b3, .inl (G.2 2, 100, .inr (.inr (.inr (.inr hd)))))] ++ va_pl L f) sz) := by
  refine Met.ofW (cc := cX2_throwOldAway) (maxL := 3) (ret := none) (by decide) rfl ?_
  intro p e s m args below meth c s₁ B hml hv
  obtain ⟨rfl, hsz, hP, hK, hD0⟩ := hv
  have hx := B.exec
  have hb := B.bytes
  have hr := B.returns
  have hts := atoms_spec (ws := wsX2_throwOldAway) B.pre
  have hown : s.vm.findClass RX2 = some m.cls := findClass_of_methodNamed B.named
  have hlocks := B.notSynchronized
  have hK : va_K G.1 vwCl (kT G) s := hK
  subst hsz
  have hD := hD0.self (sz := s.heap.size)
  generalize hAe : va_A ([(hN, .inr (2, [.ref hL, .ref hC, .ref b0, .ref b1, .ref b2, .ref b3, .ref b4, .int (nI mi)])), (b3, .inl (G.2 2, 100, .inr (.inr (.inr (.inr hd)))))] ++ va_pl L f) s.heap.size = A at hD ⊢
  have hA : ∀ q : Nat, s.heap.size ≤ q → A q := fun q h => by rw [← hAe]; exact Or.inr h
  have hS : va_S A s.heap s.heap [] := va_S.rf
  have hP : va_P G.1 vwCl ([(hN, .inr (2, [.ref hL, .ref hC, .ref b0, .ref b1, .ref b2, .ref b3, .ref b4, .int (nI mi)])), (b3, .inl (G.2 2, 100, .inr (.inr (.inr (.inr hd)))))] ++ va_pl L f) s.heap := hP
  have hl := lv_entry ([.ref hN]) (n := 3) (Nat.le_of_ble_eq_true rfl)
  rw [lg_entry_eq]
  generalize (lg_sl ([.ref hN]) ++ List.replicate (3 - (lg_sl ([.ref hN])).length) Slot.unset).toArray = ls at hl ⊢
  have hl : lv_has ls 3 [(0, .ref hN)] := hl
  refine lv_iconst (v := (nI 0)) hx hb dX2_throwOldAway_0 (by decide) ?_
  refine lv_istore_n (lv' := [(1, .int (nI 0)), (0, .ref hN)]) hx hb dX2_throwOldAway_1 rfl hl (by decide) rfl (fun ls hl => ?_)
  have hc_2 : ∀ (n : Nat) (i : Nat) (g : Nat → Option Nat), 100 - i < n → i ≤ 100 → g = mThrow sv mi hd i → ∀ (H : Heap) (locs : List Loc), va_P G.1 vwCl ([(hN, .inr (2, [.ref hL, .ref hC, .ref b0, .ref b1, .ref b2, .ref b3, .ref b4, .int (nI mi)])), (b3, .inl (G.2 2, 100, .inr (.inr (.inr (.inr g)))))] ++ va_pl L f) H → va_D A ([(hN, .inr (2, [.ref hL, .ref hC, .ref b0, .ref b1, .ref b2, .ref b3, .ref b4, .int (nI mi)])), (b3, .inl (G.2 2, 100, .inr (.inr (.inr (.inr g)))))] ++ va_pl L f) → va_S A s.heap H locs → ∀ (ls : Array Slot), lv_has ls 3 [(1, .int (nI i)), (0, .ref hN)] → W p l e (headSpec wsX2_throwOldAway ({ frames := 1, cells := 0, slots := 0, locals := 21 })).room s m [.ref hN].toArray below meth c H locs 0 0 (MQ below (va_Qv (fun (u : Unit) => True) (fun (u : Unit) t => kA G A ([(hN, .inr (2, [.ref hL, .ref hC, .ref b0, .ref b1, .ref b2, .ref b3, .ref b4, .int (nI mi)])), (b3, .inl (G.2 2, 100, .inr (.inr (.inr (.inr (mThrow sv mi hd 100))))))] ++ va_pl L f) t) A) [.ref hN].toArray s 0 0 A) (F0 m 2 ls []) := by
    intro n
    induction n with
    | zero =>
      intro i g hmz; exact absurd hmz (Nat.not_lt_zero _)
    | succ n ih2 =>
      intro i g hmz hi hg H locs hP hD hS ls hl
      refine lv_iload_n hx hb dX2_throwOldAway_2 rfl (lv_at hl 0 rfl) ?_
      refine lv_aload_n hx hb dX2_throwOldAway_3 rfl (lv_at hl 1 rfl) ?_
      refine va_get (D := G.1) (ci := 2) (v := .ref b3) (C := RX2) (T := TX2) (N := 8) hx hb hts kX2_throwOldAway_1 hown hK hP 0 rfl rfl 5 (by decide) (hts _ kX2_throwOldAway_0) (fun _ h9 => h9) rfl dX2_throwOldAway_4 ?_
      refine va_alen (v := nI 100) hx hb hK hP 1 2 rfl rfl rfl dX2_throwOldAway_7 ?_
      refine kb_ge (tgt := 48) hx hb dX2_throwOldAway_8 (by decide) (by omega) (by decide) (fun c_1 => ?_) (fun c_1 => ?_)
      · subst hg
        obtain rfl : i = 100 := by omega
        have hP9 : va_P G.1 vwCl ([(hN, .inr (2, [.ref hL, .ref hC, .ref b0, .ref b1, .ref b2, .ref b3, .ref b4, .int (nI mi)])), (b3, .inl (G.2 2, 100, .inr (.inr (.inr (.inr (mThrow sv mi hd 100))))))] ++ va_pl L f) _ := hP.part (cx := [(hN, .inr (2, [.ref hL, .ref hC, .ref b0, .ref b1, .ref b2, .ref b3, .ref b4, .int (nI mi)])), (b3, .inl (G.2 2, 100, .inr (.inr (.inr (.inr (mThrow sv mi hd 100))))))]) [0, 1] rfl
        have hD9 : va_D A ([(hN, .inr (2, [.ref hL, .ref hC, .ref b0, .ref b1, .ref b2, .ref b3, .ref b4, .int (nI mi)])), (b3, .inl (G.2 2, 100, .inr (.inr (.inr (.inr (mThrow sv mi hd 100))))))] ++ va_pl L f) := hD.part (cx := [(hN, .inr (2, [.ref hL, .ref hC, .ref b0, .ref b1, .ref b2, .ref b3, .ref b4, .int (nI mi)])), (b3, .inl (G.2 2, 100, .inr (.inr (.inr (.inr (mThrow sv mi hd 100))))))]) [0, 1] (by decide) rfl
        exact km_vret (post := fun (u : Unit) => True) (wo := fun (u : Unit) => ([(hN, .inr (2, [.ref hL, .ref hC, .ref b0, .ref b1, .ref b2, .ref b3, .ref b4, .int (nI mi)])), (b3, .inl (G.2 2, 100, .inr (.inr (.inr (.inr (mThrow sv mi hd 100))))))] ++ va_pl L f)) () hx hb hr hlocks hS hP9 hD9 (trivial) dX2_throwOldAway_48
      · refine lv_aload_n hx hb dX2_throwOldAway_11 rfl (lv_at hl 1 rfl) ?_
        refine va_get (D := G.1) (ci := 2) (v := .ref b3) (C := RX2) (T := TX2) (N := 8) hx hb hts kX2_throwOldAway_1 hown hK hP 0 rfl rfl 5 (by decide) (hts _ kX2_throwOldAway_0) (fun _ h9 => h9) rfl dX2_throwOldAway_12 ?_
        refine lv_iload_n hx hb dX2_throwOldAway_15 rfl (lv_at hl 0 rfl) ?_
        refine kr_aldq (k := i) (v := va_rf (g i)) hx hb hK hP 1 2 rfl rfl (by omega) (by decide) rfl dX2_throwOldAway_16 ?_
        refine kq_astore_n (lv' := [(2, va_rf (g i)), (1, .int (nI i)), (0, .ref hN)]) hx hb dX2_throwOldAway_17 rfl hl (by decide) rfl (fun ls hl => ?_)
        refine kq_aload_n hx hb dX2_throwOldAway_18 rfl (lv_at hl 0 rfl) ?_
        refine kb_null (tgt := 42) hx hb dX2_throwOldAway_19 (by decide) (fun c_3 => ?_) (fun y_2 c_3 => ?_)
        · rw [c_3] at hl
          have hl : lv_has ls 3 [(2, .null), (1, .int (nI i)), (0, .ref hN)] := hl
          have hc : hd i = none := by rw [← c_3, hg]; exact mThrow_at.symm
          have hst : mOld sv mi (hd i) = false := by rw [hc]; rfl
          refine lv_iinc (k := 1) (v := (nI (i + 1))) (lv' := [(1, .int (nI (i + 1))), (2, .null), (0, .ref hN)]) hx hb dX2_throwOldAway_42 hl rfl (kn_inc i) (by decide) rfl (fun ls hl => ?_)
          refine lv_goto (tgt := 2) hx hb dX2_throwOldAway_45 (by decide) ?_
          exact ih2 (i + 1) g (by omega) (by omega) (by rw [hg]; first | exact mThrow_no hst | exact mThrow_yes hst) _ _ hP hD hS _ (lv_sub hl [0, 2] rfl)
        · rw [c_3] at hl
          have hl : lv_has ls 3 [(2, .ref y_2), (1, .int (nI i)), (0, .ref hN)] := hl
          have hc : hd i = some y_2 := by rw [← c_3, hg]; exact mThrow_at.symm
          have hag1 := hag _ _ hc
          obtain ⟨hyz_4, lyz_4, hlz_4, hfz_4, hgz_4, hnz_4, h1z_4, h2z_4⟩ := hhd _ _ hc
          refine lv_aload_n hx hb dX2_throwOldAway_22 rfl (lv_at hl 0 rfl) ?_
          refine lv_aload_n hx hb dX2_throwOldAway_23 rfl (lv_at hl 2 rfl) ?_
          refine va_get (D := G.1) (ci := 2) (v := .int (nI mi)) (C := RX2) (T := TX2) (N := 8) hx hb hts kX2_throwOldAway_1 hown hK hP 0 rfl rfl 7 (by decide) (hts _ kX2_throwOldAway_2) (fun _ h9 => h9) rfl dX2_throwOldAway_24 ?_
          refine vp_callSi (W.runV (As := [.int (nI mi)]) (rest := []) ⟨hx, hb, hml, hown, hts⟩ (c_X3_age l G y_2 ((sv y_2).1) ((sv y_2).2.1) lyz_4 mi (by omega)) (cwV 1 hts gX2_throwOldAway_X3_age rfl rfl rfl (by decide +kernel) ⟨Nat.le_of_ble_eq_true rfl, Nat.le_of_ble_eq_true rfl⟩) (kPre_V (ws := [(y_2, .inr (3, [.int (nI ((sv y_2).1)), .int (nI ((sv y_2).2.1)), .ref lyz_4]))]) hK (kp_one hP hyz_4 hfz_4) (RX3, TX3, 3) 0 rfl rfl) rfl rfl hl.1 rfl (lv_room (Nat.le_of_ble_eq_true rfl)) dX2_throwOldAway_27 ⟨Nat.le_of_ble_eq_true rfl, Nat.le_of_ble_eq_true rfl⟩) (fun r_5 hr_5 => ?_)
          subst hr_5
          refine lv_bipush (v := (nI 30)) hx hb dX2_throwOldAway_30 (by decide) ?_
          refine kb_le (tgt := 42) hx hb dX2_throwOldAway_32 (by decide) (by omega) (by decide) (fun c_6 => ?_) (fun c_6 => ?_)
          · have hst : mOld sv mi (hd i) = false := by rw [hc]; exact decide_eq_false (by omega)
            refine lv_iinc (k := 1) (v := (nI (i + 1))) (lv' := [(1, .int (nI (i + 1))), (2, .ref y_2), (0, .ref hN)]) hx hb dX2_throwOldAway_42 hl rfl (kn_inc i) (by decide) rfl (fun ls hl => ?_)
            refine lv_goto (tgt := 2) hx hb dX2_throwOldAway_45 (by decide) ?_
            exact ih2 (i + 1) g (by omega) (by omega) (by rw [hg]; first | exact mThrow_no hst | exact mThrow_yes hst) _ _ hP hD hS _ (lv_sub hl [0, 2] rfl)
          · have hst : mOld sv mi (hd i) = true := by rw [hc]; exact decide_eq_true (by omega)
            refine lv_aload_n hx hb dX2_throwOldAway_35 rfl (lv_at hl 2 rfl) ?_
            refine va_get (D := G.1) (ci := 2) (v := .ref b3) (C := RX2) (T := TX2) (N := 8) hx hb hts kX2_throwOldAway_1 hown hK hP 0 rfl rfl 5 (by decide) (hts _ kX2_throwOldAway_0) (fun _ h9 => h9) rfl dX2_throwOldAway_36 ?_
            refine lv_iload_n hx hb dX2_throwOldAway_39 rfl (lv_at hl 1 rfl) ?_
            refine lv_null hx hb dX2_throwOldAway_40 ?_
            refine kp_ast (o := none) (k := i) (g' := (va_up g i none)) hx hb hK hP hD hS 1 rfl (by omega) (by decide) (fun _ h => by cases h) rfl dX2_throwOldAway_41 (fun H locs hP hD hS => ?_)
            have hP : va_P G.1 vwCl ([(hN, .inr (2, [.ref hL, .ref hC, .ref b0, .ref b1, .ref b2, .ref b3, .ref b4, .int (nI mi)])), (b3, .inl (G.2 2, 100, .inr (.inr (.inr (.inr (va_up g i none))))))] ++ va_pl L f) H := hP
            have hD : va_D A ([(hN, .inr (2, [.ref hL, .ref hC, .ref b0, .ref b1, .ref b2, .ref b3, .ref b4, .int (nI mi)])), (b3, .inl (G.2 2, 100, .inr (.inr (.inr (.inr (va_up g i none))))))] ++ va_pl L f) := hD
            refine lv_iinc (k := 1) (v := (nI (i + 1))) (lv' := [(1, .int (nI (i + 1))), (2, .ref y_2), (0, .ref hN)]) hx hb dX2_throwOldAway_42 hl rfl (kn_inc i) (by decide) rfl (fun ls hl => ?_)
            refine lv_goto (tgt := 2) hx hb dX2_throwOldAway_45 (by decide) ?_
            exact ih2 (i + 1) (va_up g i none) (by omega) (by omega) (by rw [hg]; first | exact mThrow_no hst | exact mThrow_yes hst) _ _ hP hD hS _ (lv_sub hl [0, 2] rfl)
  exact hc_2 (_ + 1) 0 hd (Nat.lt_succ_self _) (by omega) (by exact (mThrow_0 sv mi hd).symm) _ _ hP hD hS _ (lv_sub hl [0, 1] rfl)

theorem kX2_copy_0 : Cond.fieldLink RX2 44 "PassNotes$Notes" "minute" "I" ∈ wsX2_copy := by decide +kernel
theorem kX2_copy_1 : ∀ w ∈ wsX20, w ∈ wsX2_copy := by decide +kernel
theorem kX2_copy_2 : Cond.fieldLink RX2 33 "PassNotes$Notes" "held" "[LPassNotes$Sheet;" ∈ wsX2_copy := by decide +kernel
theorem kX2_copy_3 : Cond.fieldLink RX2 18 "PassNotes$Notes" "wrote" "[I" ∈ wsX2_copy := by decide +kernel
set_option maxHeartbeats 4000000 in
set_option maxRecDepth 100000 in
theorem c_X2_copy (l : Launch) (G : kG) (sz : Nat) (hN hL hC b0 b1 b2 b3 b4 mi : Nat) (hO hC2 d0 d1 d2 d3 d4 mo : Nat) (L : List Nat) (f : Nat → va_E) (sv : Nat → mS) (w0 w1 : Nat → Nat) (wf : Nat → Bool) (hd ho : Nat → Option Nat) (hho : kHeld G L f sv ho) : Met l yX2_copy wsX2_copy ({ frames := 1, cells := 0, slots := 0, locals := 21 }) (kPreM G ([(hN, .inr (2, [.ref hL, .ref hC, .ref b0, .ref b1, .ref b2, .ref b3, .ref b4, .int (nI mi)])), (b0, .inl (G.2 0, 10, .inl (kI w0))), (b2, .inl (G.2 1, 10, .inl (kB wf))), (b3, .inl (G.2 2, 100, .inr (.inr (.inr (.inr hd))))), (hO, .inr (2, [.ref hL, .ref hC2, .ref d0, .ref d1, .ref d2, .ref d3, .ref d4, .int (nI mo)])), (d0, .inl (G.2 0, 10, .inl (kI w1))), (d3, .inl (G.2 2, 100, .inr (.inr (.inr (.inr ho)))))] ++ va_pl L f) sz [.ref hN, .ref hO]) (va_Qv (fun (u : Unit) => True) (fun (u : Unit) t => kA G (va_A ([(hN, .inr (2, [.ref hL, .ref hC, .ref b0, .ref b1, .ref b2, .ref b3, .ref b4, .int (nI mi)])), (b0, .inl (G.2 0, 10, .inl (kI w0))), (b2, .inl (G.2 1, 10, .inl (kB wf))), (b3, .inl (G.2 2, 100, .inr (.inr (.inr (.inr hd))))), (hO, .inr (2, [.ref hL, .ref hC2, .ref d0, .ref d1, .ref d2, .ref d3, .ref d4, .int (nI mo)])), (d0, .inl (G.2 0, 10, .inl (kI w1))), (d3, .inl (G.2 2, 100, .inr (.inr (.inr (.inr ho)))))] ++ va_pl L f) sz) ([(hN, .inr (2, [.ref hL, .ref hC, .ref b0, .ref b1, .ref b2, .ref b3, .ref b4, .int (nI mo)])), (b0, .inl (G.2 0, 10, .inl (kI (mCopy w1 w0 10)))), (b2, .inl (G.2 1, 10, .inl (kB (mForget wf 10)))), (b3, .inl (G.2 2, 100, .inr (.inr (.inr (.inr (mCopy ho hd 100)))))), (hO, .inr (2, [.ref hL, .ref hC2, .ref d0, .ref d1, .ref d2, .ref d3, .ref d4, .int (nI mo)])), (d0, .inl (G.2 0, 10, .inl (kI w1))), (d3, .inl (G.2 2, 100, .inr (.inr (.inr (.inr ho)))))] ++ va_pl L f) t) (va_A ([(hN, .inr (2, [.ref hL, .ref hC, .ref b0, .ref b1, .ref b2, .ref b3, .ref b4, .int (nI mi)])), (b0, .inl (G.2 0, 10, .inl (kI w0))), (b2, .inl (G.2 1, 10, .inl (kB wf))), (b3, .inl (G.2 2, 100, .inr (.inr (.inr (.inr hd))))), (hO, .inr (2, [.ref hL, .ref hC2, .ref d0, .ref d1, .ref d2, .ref d3, .ref d4, .int (nI mo)])), (d0, .inl (G.2 0, 10, .inl (kI w1))), (d3, .inl (G.2 2, 100, .inr (.inr (.inr (.inr ho)))))] ++ va_pl L f) sz)) 0 0 (va_A ([(hN, .inr (2, [.ref hL, .ref hC, .ref b0, .ref b1, .ref b2, .ref b3, .ref b4, .int (nI mi)])), (b0, .inl (G.2 0, 10, .inl (kI w0))), (b2, .inl (G.2 1, 10, .inl (kB wf))), (b3, .inl (G.2 2, 100, .inr (.inr (.inr (.inr hd))))), (hO, .inr (2, [.ref hL, .ref hC2, .ref d0, .ref d1, .ref d2, .ref d3, .ref d4, .int (nI mo)])), (d0, .inl (G.2 0, 10, .inl (kI w1))), (d3, .inl (G.2 2, 100, .inr (.inr (.inr (.inr ho)))))] ++ va_pl L f) sz) := by
  refine Met.ofW (cc := cX2_copy) (maxL := 3) (ret := none) (by decide) rfl ?_
  intro p e s m args below meth c s₁ B hml hv
  obtain ⟨rfl, hsz, hP, hK, hD0⟩ := hv
  have hx := B.exec
  have hb := B.bytes
  have hr := B.returns
  have hts := atoms_spec (ws := wsX2_copy) B.pre
  have hown : s.vm.findClass RX2 = some m.cls := findClass_of_methodNamed B.named
  have hlocks := B.notSynchronized
  have hK : va_K G.1 vwCl (kT G) s := hK
  subst hsz
  have hD := hD0.self (sz := s.heap.size)
  generalize hAe : va_A ([(hN, .inr (2, [.ref hL, .ref hC, .ref b0, .ref b1, .ref b2, .ref b3, .ref b4, .int (nI mi)])), (b0, .inl (G.2 0, 10, .inl (kI w0))), (b2, .inl (G.2 1, 10, .inl (kB wf))), (b3, .inl (G.2 2, 100, .inr (.inr (.inr (.inr hd))))), (hO, .inr (2, [.ref hL, .ref hC2, .ref d0, .ref d1, .ref d2, .ref d3, .ref d4, .int (nI mo)])), (d0, .inl (G.2 0, 10, .inl (kI w1))), (d3, .inl (G.2 2, 100, .inr (.inr (.inr (.inr ho)))))] ++ va_pl L f) s.heap.size = A at hD ⊢
  have hA : ∀ q : Nat, s.heap.size ≤ q → A q := fun q h => by rw [← hAe]; exact Or.inr h
  have hS : va_S A s.heap s.heap [] := va_S.rf
  have hP : va_P G.1 vwCl ([(hN, .inr (2, [.ref hL, .ref hC, .ref b0, .ref b1, .ref b2, .ref b3, .ref b4, .int (nI mi)])), (b0, .inl (G.2 0, 10, .inl (kI w0))), (b2, .inl (G.2 1, 10, .inl (kB wf))), (b3, .inl (G.2 2, 100, .inr (.inr (.inr (.inr hd))))), (hO, .inr (2, [.ref hL, .ref hC2, .ref d0, .ref d1, .ref d2, .ref d3, .ref d4, .int (nI mo)])), (d0, .inl (G.2 0, 10, .inl (kI w1))), (d3, .inl (G.2 2, 100, .inr (.inr (.inr (.inr ho)))))] ++ va_pl L f) s.heap := hP
  have hl := lv_entry ([.ref hN, .ref hO]) (n := 3) (Nat.le_of_ble_eq_true rfl)
  rw [lg_entry_eq]
  generalize (lg_sl ([.ref hN, .ref hO]) ++ List.replicate (3 - (lg_sl ([.ref hN, .ref hO])).length) Slot.unset).toArray = ls at hl ⊢
  have hl : lv_has ls 3 [(0, .ref hN), (1, .ref hO)] := hl
  refine lv_aload_n hx hb dX2_copy_0 rfl (lv_at hl 0 rfl) ?_
  refine lv_aload_n hx hb dX2_copy_1 rfl (lv_at hl 1 rfl) ?_
  refine va_get (D := G.1) (ci := 2) (v := .int (nI mo)) (C := RX2) (T := TX2) (N := 8) hx hb hts kX2_copy_1 hown hK hP 4 rfl rfl 7 (by decide) (hts _ kX2_copy_0) (fun _ h9 => h9) rfl dX2_copy_2 ?_
  refine va_put (D := G.1) (ci := 2) (v := .int (nI mo)) (ty := .int) (C := RX2) (T := TX2) (N := 8) hx hb hts kX2_copy_1 tyX2 tyX2_ok nmX2 hown hK hP hD hS 0 rfl rfl 7 (by decide) (hts _ kX2_copy_0) (fun _ h9 => h9) rfl (by decide +kernel) rfl rfl (Nat.le_of_ble_eq_true rfl) dX2_copy_5 (fun H locs hP hD hS => ?_)
  have hP : va_P G.1 vwCl ([(hN, .inr (2, [.ref hL, .ref hC, .ref b0, .ref b1, .ref b2, .ref b3, .ref b4, .int (nI mo)])), (b0, .inl (G.2 0, 10, .inl (kI w0))), (b2, .inl (G.2 1, 10, .inl (kB wf))), (b3, .inl (G.2 2, 100, .inr (.inr (.inr (.inr hd))))), (hO, .inr (2, [.ref hL, .ref hC2, .ref d0, .ref d1, .ref d2, .ref d3, .ref d4, .int (nI mo)])), (d0, .inl (G.2 0, 10, .inl (kI w1))), (d3, .inl (G.2 2, 100, .inr (.inr (.inr (.inr ho)))))] ++ va_pl L f) H := hP
  have hD : va_D A ([(hN, .inr (2, [.ref hL, .ref hC, .ref b0, .ref b1, .ref b2, .ref b3, .ref b4, .int (nI mo)])), (b0, .inl (G.2 0, 10, .inl (kI w0))), (b2, .inl (G.2 1, 10, .inl (kB wf))), (b3, .inl (G.2 2, 100, .inr (.inr (.inr (.inr hd))))), (hO, .inr (2, [.ref hL, .ref hC2, .ref d0, .ref d1, .ref d2, .ref d3, .ref d4, .int (nI mo)])), (d0, .inl (G.2 0, 10, .inl (kI w1))), (d3, .inl (G.2 2, 100, .inr (.inr (.inr (.inr ho)))))] ++ va_pl L f) := hD
  refine lv_iconst (v := (nI 0)) hx hb dX2_copy_8 (by decide) ?_
  refine lv_istore_n (lv' := [(2, .int (nI 0)), (0, .ref hN), (1, .ref hO)]) hx hb dX2_copy_9 rfl hl (by decide) rfl (fun ls hl => ?_)
  have hc_10 : ∀ (n : Nat) (i : Nat) (g : Nat → Nat), 10 - i < n → i ≤ 10 → g = mCopy w1 w0 i → ∀ (H : Heap) (locs : List Loc), va_P G.1 vwCl ([(hN, .inr (2, [.ref hL, .ref hC, .ref b0, .ref b1, .ref b2, .ref b3, .ref b4, .int (nI mo)])), (b0, .inl (G.2 0, 10, .inl (kI g))), (b2, .inl (G.2 1, 10, .inl (kB wf))), (b3, .inl (G.2 2, 100, .inr (.inr (.inr (.inr hd))))), (hO, .inr (2, [.ref hL, .ref hC2, .ref d0, .ref d1, .ref d2, .ref d3, .ref d4, .int (nI mo)])), (d0, .inl (G.2 0, 10, .inl (kI w1))), (d3, .inl (G.2 2, 100, .inr (.inr (.inr (.inr ho)))))] ++ va_pl L f) H → va_D A ([(hN, .inr (2, [.ref hL, .ref hC, .ref b0, .ref b1, .ref b2, .ref b3, .ref b4, .int (nI mo)])), (b0, .inl (G.2 0, 10, .inl (kI g))), (b2, .inl (G.2 1, 10, .inl (kB wf))), (b3, .inl (G.2 2, 100, .inr (.inr (.inr (.inr hd))))), (hO, .inr (2, [.ref hL, .ref hC2, .ref d0, .ref d1, .ref d2, .ref d3, .ref d4, .int (nI mo)])), (d0, .inl (G.2 0, 10, .inl (kI w1))), (d3, .inl (G.2 2, 100, .inr (.inr (.inr (.inr ho)))))] ++ va_pl L f) → va_S A s.heap H locs → ∀ (ls : Array Slot), lv_has ls 3 [(2, .int (nI i)), (0, .ref hN), (1, .ref hO)] → W p l e (headSpec wsX2_copy ({ frames := 1, cells := 0, slots := 0, locals := 21 })).room s m [.ref hN, .ref hO].toArray below meth c H locs 0 0 (MQ below (va_Qv (fun (u : Unit) => True) (fun (u : Unit) t => kA G A ([(hN, .inr (2, [.ref hL, .ref hC, .ref b0, .ref b1, .ref b2, .ref b3, .ref b4, .int (nI mo)])), (b0, .inl (G.2 0, 10, .inl (kI (mCopy w1 w0 10)))), (b2, .inl (G.2 1, 10, .inl (kB (mForget wf 10)))), (b3, .inl (G.2 2, 100, .inr (.inr (.inr (.inr (mCopy ho hd 100)))))), (hO, .inr (2, [.ref hL, .ref hC2, .ref d0, .ref d1, .ref d2, .ref d3, .ref d4, .int (nI mo)])), (d0, .inl (G.2 0, 10, .inl (kI w1))), (d3, .inl (G.2 2, 100, .inr (.inr (.inr (.inr ho)))))] ++ va_pl L f) t) A) [.ref hN, .ref hO].toArray s 0 0 A) (F0 m 10 ls []) := by
    intro n
    induction n with
    | zero =>
      intro i g hmz; exact absurd hmz (Nat.not_lt_zero _)
    | succ n ih10 =>
      intro i g hmz hi hg H locs hP hD hS ls hl
      refine lv_iload_n hx hb dX2_copy_10 rfl (lv_at hl 0 rfl) ?_
      refine lv_bipush (v := (nI 10)) hx hb dX2_copy_11 (by decide) ?_
      refine kb_ge (tgt := 34) hx hb dX2_copy_13 (by decide) (by omega) (by decide) (fun c_1 => ?_) (fun c_1 => ?_)
      · refine lv_iconst (v := (nI 0)) hx hb dX2_copy_34 (by decide) ?_
        refine lv_istore_n (lv' := [(2, .int (nI 0)), (0, .ref hN), (1, .ref hO)]) hx hb dX2_copy_35 rfl hl (by decide) rfl (fun ls hl => ?_)
        have hc_36 : ∀ (n : Nat) (k : Nat) (g2 : Nat → Option Nat), 100 - k < n → k ≤ 100 → g2 = mCopy ho hd k → ∀ (H : Heap) (locs : List Loc), va_P G.1 vwCl ([(hN, .inr (2, [.ref hL, .ref hC, .ref b0, .ref b1, .ref b2, .ref b3, .ref b4, .int (nI mo)])), (b0, .inl (G.2 0, 10, .inl (kI g))), (b2, .inl (G.2 1, 10, .inl (kB wf))), (b3, .inl (G.2 2, 100, .inr (.inr (.inr (.inr g2))))), (hO, .inr (2, [.ref hL, .ref hC2, .ref d0, .ref d1, .ref d2, .ref d3, .ref d4, .int (nI mo)])), (d0, .inl (G.2 0, 10, .inl (kI w1))), (d3, .inl (G.2 2, 100, .inr (.inr (.inr (.inr ho)))))] ++ va_pl L f) H → va_D A ([(hN, .inr (2, [.ref hL, .ref hC, .ref b0, .ref b1, .ref b2, .ref b3, .ref b4, .int (nI mo)])), (b0, .inl (G.2 0, 10, .inl (kI g))), (b2, .inl (G.2 1, 10, .inl (kB wf))), (b3, .inl (G.2 2, 100, .inr (.inr (.inr (.inr g2))))), (hO, .inr (2, [.ref hL, .ref hC2, .ref d0, .ref d1, .ref d2, .ref d3, .ref d4, .int (nI mo)])), (d0, .inl (G.2 0, 10, .inl (kI w1))), (d3, .inl (G.2 2, 100, .inr (.inr (.inr (.inr ho)))))] ++ va_pl L f) → va_S A s.heap H locs → ∀ (ls : Array Slot), lv_has ls 3 [(2, .int (nI k)), (0, .ref hN), (1, .ref hO)] → W p l e (headSpec wsX2_copy ({ frames := 1, cells := 0, slots := 0, locals := 21 })).room s m [.ref hN, .ref hO].toArray below meth c H locs 0 0 (MQ below (va_Qv (fun (u : Unit) => True) (fun (u : Unit) t => kA G A ([(hN, .inr (2, [.ref hL, .ref hC, .ref b0, .ref b1, .ref b2, .ref b3, .ref b4, .int (nI mo)])), (b0, .inl (G.2 0, 10, .inl (kI (mCopy w1 w0 10)))), (b2, .inl (G.2 1, 10, .inl (kB (mForget wf 10)))), (b3, .inl (G.2 2, 100, .inr (.inr (.inr (.inr (mCopy ho hd 100)))))), (hO, .inr (2, [.ref hL, .ref hC2, .ref d0, .ref d1, .ref d2, .ref d3, .ref d4, .int (nI mo)])), (d0, .inl (G.2 0, 10, .inl (kI w1))), (d3, .inl (G.2 2, 100, .inr (.inr (.inr (.inr ho)))))] ++ va_pl L f) t) A) [.ref hN, .ref hO].toArray s 0 0 A) (F0 m 36 ls []) := by
          intro n
          induction n with
          | zero =>
            intro k g2 hmz; exact absurd hmz (Nat.not_lt_zero _)
          | succ n ih36 =>
            intro k g2 hmz hk hg2 H locs hP hD hS ls hl
            refine lv_iload_n hx hb dX2_copy_36 rfl (lv_at hl 0 rfl) ?_
            refine lv_aload_n hx hb dX2_copy_37 rfl (lv_at hl 1 rfl) ?_
            refine va_get (D := G.1) (ci := 2) (v := .ref b3) (C := RX2) (T := TX2) (N := 8) hx hb hts kX2_copy_1 hown hK hP 0 rfl rfl 5 (by decide) (hts _ kX2_copy_2) (fun _ h9 => h9) rfl dX2_copy_38 ?_
            refine va_alen (v := nI 100) hx hb hK hP 3 2 rfl rfl rfl dX2_copy_41 ?_
            refine kb_ge (tgt := 63) hx hb dX2_copy_42 (by decide) (by omega) (by decide) (fun c_2 => ?_) (fun c_2 => ?_)
            · refine lv_aload_n hx hb dX2_copy_63 rfl (lv_at hl 1 rfl) ?_
              have hPc := hP.sub (ws' := [(hN, .inr (2, [.ref hL, .ref hC, .ref b0, .ref b1, .ref b2, .ref b3, .ref b4, .int (nI mo)])), (b2, .inl (G.2 1, 10, .inl (kB wf)))]) [0, 2] rfl
              have hDc := hD.sub (ws' := [(hN, .inr (2, [.ref hL, .ref hC, .ref b0, .ref b1, .ref b2, .ref b3, .ref b4, .int (nI mo)])), (b2, .inl (G.2 1, 10, .inl (kB wf)))]) [0, 2] (by decide) rfl
              have hFc := va_free (wc := [(hN, .inr (2, [.ref hL, .ref hC, .ref b0, .ref b1, .ref b2, .ref b3, .ref b4, .int (nI mo)])), (b2, .inl (G.2 1, 10, .inl (kB wf)))]) hD hS hA [0, 2] rfl
              refine va_callv (va_runV (As := []) (rest := []) ⟨hx, hb, hml, hown, hts⟩ (c_X2_forgetWays l G _ hN hL hC b0 b1 b2 b3 b4 mo wf ) (cwV 0 hts gX2_copy_X2_forgetWays rfl rfl rfl (by decide +kernel) ⟨Nat.le_of_ble_eq_true rfl, Nat.le_of_ble_eq_true rfl⟩) (kPreM_V (ws := [(hN, .inr (2, [.ref hL, .ref hC, .ref b0, .ref b1, .ref b2, .ref b3, .ref b4, .int (nI mo)])), (b2, .inl (G.2 1, 10, .inl (kB wf)))]) hK hPc hDc (RX2, TX2, 8) 0 rfl rfl) rfl rfl hl.1 rfl (lv_room (Nat.le_of_ble_eq_true rfl)) dX2_copy_64 ⟨Nat.le_of_ble_eq_true rfl, Nat.le_of_ble_eq_true rfl⟩) hS (fun q _ h => hFc q h) hFc (fun u t H1 locs ht hvm hw hB hz1 hk1 hS => ?_)
              obtain ⟨hP1, hD1⟩ := hB
              rw [ht] at hP1
              try dsimp only at hw hP1 hD1
              obtain ⟨hP, hD⟩ := va_joinQ (X := [(hN, .inr (2, [.ref hL, .ref hC, .ref b0, .ref b1, .ref b2, .ref b3, .ref b4, .int (nI mo)])), (b0, .inl (G.2 0, 10, .inl (kI g))), (b2, .inl (G.2 1, 10, .inl (kB wf))), (b3, .inl (G.2 2, 100, .inr (.inr (.inr (.inr g2))))), (hO, .inr (2, [.ref hL, .ref hC2, .ref d0, .ref d1, .ref d2, .ref d3, .ref d4, .int (nI mo)])), (d0, .inl (G.2 0, 10, .inl (kI w1))), (d3, .inl (G.2 2, 100, .inr (.inr (.inr (.inr ho)))))]) (cx := [(hN, .inr (2, [.ref hL, .ref hC, .ref b0, .ref b1, .ref b2, .ref b3, .ref b4, .int (nI mo)])), (b2, .inl (G.2 1, 10, .inl (kB wf)))]) (wr := [(b0, .inl (G.2 0, 10, .inl (kI g))), (b3, .inl (G.2 2, 100, .inr (.inr (.inr (.inr g2))))), (hO, .inr (2, [.ref hL, .ref hC2, .ref d0, .ref d1, .ref d2, .ref d3, .ref d4, .int (nI mo)])), (d0, .inl (G.2 0, 10, .inl (kI w1))), (d3, .inl (G.2 2, 100, .inr (.inr (.inr (.inr ho)))))]) (w1 := [(hN, .inr (2, [.ref hL, .ref hC, .ref b0, .ref b1, .ref b2, .ref b3, .ref b4, .int (nI mo)])), (b2, .inl (G.2 1, 10, .inl (kB (mForget wf 10))))]) hP hD [0, 2] [1, 3, 4, 5, 6] rfl rfl (by decide) (by decide) hk1 hFc hP1 hD1
              clear hPc hDc hFc hP1 hD1 hk1 hz1 ht
              skip
              generalize H1 = H at hP hS ⊢
              have hP : va_P G.1 vwCl ([(b0, .inl (G.2 0, 10, .inl (kI g))), (b3, .inl (G.2 2, 100, .inr (.inr (.inr (.inr g2))))), (hO, .inr (2, [.ref hL, .ref hC2, .ref d0, .ref d1, .ref d2, .ref d3, .ref d4, .int (nI mo)])), (d0, .inl (G.2 0, 10, .inl (kI w1))), (d3, .inl (G.2 2, 100, .inr (.inr (.inr (.inr ho))))), (hN, .inr (2, [.ref hL, .ref hC, .ref b0, .ref b1, .ref b2, .ref b3, .ref b4, .int (nI mo)])), (b2, .inl (G.2 1, 10, .inl (kB (mForget wf 10))))] ++ va_pl L f) H := hP
              have hD : va_D A ([(b0, .inl (G.2 0, 10, .inl (kI g))), (b3, .inl (G.2 2, 100, .inr (.inr (.inr (.inr g2))))), (hO, .inr (2, [.ref hL, .ref hC2, .ref d0, .ref d1, .ref d2, .ref d3, .ref d4, .int (nI mo)])), (d0, .inl (G.2 0, 10, .inl (kI w1))), (d3, .inl (G.2 2, 100, .inr (.inr (.inr (.inr ho))))), (hN, .inr (2, [.ref hL, .ref hC, .ref b0, .ref b1, .ref b2, .ref b3, .ref b4, .int (nI mo)])), (b2, .inl (G.2 1, 10, .inl (kB (mForget wf 10))))] ++ va_pl L f) := hD
              refine W.widen (k := 0) (n := 0) (Nat.le_refl _) (Nat.le_refl _) ?_
              have hw_4 := hw
              subst hg2
              obtain rfl : k = 100 := by omega
              subst hg
              obtain rfl : i = 10 := by omega
              have hP9 : va_P G.1 vwCl ([(hN, .inr (2, [.ref hL, .ref hC, .ref b0, .ref b1, .ref b2, .ref b3, .ref b4, .int (nI mo)])), (b0, .inl (G.2 0, 10, .inl (kI (mCopy w1 w0 10)))), (b2, .inl (G.2 1, 10, .inl (kB (mForget wf 10)))), (b3, .inl (G.2 2, 100, .inr (.inr (.inr (.inr (mCopy ho hd 100)))))), (hO, .inr (2, [.ref hL, .ref hC2, .ref d0, .ref d1, .ref d2, .ref d3, .ref d4, .int (nI mo)])), (d0, .inl (G.2 0, 10, .inl (kI w1))), (d3, .inl (G.2 2, 100, .inr (.inr (.inr (.inr ho)))))] ++ va_pl L f) _ := hP.part (cx := [(hN, .inr (2, [.ref hL, .ref hC, .ref b0, .ref b1, .ref b2, .ref b3, .ref b4, .int (nI mo)])), (b0, .inl (G.2 0, 10, .inl (kI (mCopy w1 w0 10)))), (b2, .inl (G.2 1, 10, .inl (kB (mForget wf 10)))), (b3, .inl (G.2 2, 100, .inr (.inr (.inr (.inr (mCopy ho hd 100)))))), (hO, .inr (2, [.ref hL, .ref hC2, .ref d0, .ref d1, .ref d2, .ref d3, .ref d4, .int (nI mo)])), (d0, .inl (G.2 0, 10, .inl (kI w1))), (d3, .inl (G.2 2, 100, .inr (.inr (.inr (.inr ho)))))]) [5, 0, 6, 1, 2, 3, 4] rfl
              have hD9 : va_D A ([(hN, .inr (2, [.ref hL, .ref hC, .ref b0, .ref b1, .ref b2, .ref b3, .ref b4, .int (nI mo)])), (b0, .inl (G.2 0, 10, .inl (kI (mCopy w1 w0 10)))), (b2, .inl (G.2 1, 10, .inl (kB (mForget wf 10)))), (b3, .inl (G.2 2, 100, .inr (.inr (.inr (.inr (mCopy ho hd 100)))))), (hO, .inr (2, [.ref hL, .ref hC2, .ref d0, .ref d1, .ref d2, .ref d3, .ref d4, .int (nI mo)])), (d0, .inl (G.2 0, 10, .inl (kI w1))), (d3, .inl (G.2 2, 100, .inr (.inr (.inr (.inr ho)))))] ++ va_pl L f) := hD.part (cx := [(hN, .inr (2, [.ref hL, .ref hC, .ref b0, .ref b1, .ref b2, .ref b3, .ref b4, .int (nI mo)])), (b0, .inl (G.2 0, 10, .inl (kI (mCopy w1 w0 10)))), (b2, .inl (G.2 1, 10, .inl (kB (mForget wf 10)))), (b3, .inl (G.2 2, 100, .inr (.inr (.inr (.inr (mCopy ho hd 100)))))), (hO, .inr (2, [.ref hL, .ref hC2, .ref d0, .ref d1, .ref d2, .ref d3, .ref d4, .int (nI mo)])), (d0, .inl (G.2 0, 10, .inl (kI w1))), (d3, .inl (G.2 2, 100, .inr (.inr (.inr (.inr ho)))))]) [5, 0, 6, 1, 2, 3, 4] (by decide) rfl
              exact km_vret (post := fun (u : Unit) => True) (wo := fun (u : Unit) => ([(hN, .inr (2, [.ref hL, .ref hC, .ref b0, .ref b1, .ref b2, .ref b3, .ref b4, .int (nI mo)])), (b0, .inl (G.2 0, 10, .inl (kI (mCopy w1 w0 10)))), (b2, .inl (G.2 1, 10, .inl (kB (mForget wf 10)))), (b3, .inl (G.2 2, 100, .inr (.inr (.inr (.inr (mCopy ho hd 100)))))), (hO, .inr (2, [.ref hL, .ref hC2, .ref d0, .ref d1, .ref d2, .ref d3, .ref d4, .int (nI mo)])), (d0, .inl (G.2 0, 10, .inl (kI w1))), (d3, .inl (G.2 2, 100, .inr (.inr (.inr (.inr ho)))))] ++ va_pl L f)) () hx hb hr hlocks hS hP9 hD9 (trivial) dX2_copy_67
            · refine lv_aload_n hx hb dX2_copy_45 rfl (lv_at hl 1 rfl) ?_
              refine va_get (D := G.1) (ci := 2) (v := .ref b3) (C := RX2) (T := TX2) (N := 8) hx hb hts kX2_copy_1 hown hK hP 0 rfl rfl 5 (by decide) (hts _ kX2_copy_2) (fun _ h9 => h9) rfl dX2_copy_46 ?_
              refine lv_iload_n hx hb dX2_copy_49 rfl (lv_at hl 0 rfl) ?_
              refine lv_aload_n hx hb dX2_copy_50 rfl (lv_at hl 2 rfl) ?_
              refine va_get (D := G.1) (ci := 2) (v := .ref d3) (C := RX2) (T := TX2) (N := 8) hx hb hts kX2_copy_1 hown hK hP 4 rfl rfl 5 (by decide) (hts _ kX2_copy_2) (fun _ h9 => h9) rfl dX2_copy_51 ?_
              refine lv_iload_n hx hb dX2_copy_54 rfl (lv_at hl 0 rfl) ?_
              refine kr_aldq (k := k) (v := va_rf (ho k)) hx hb hK hP 6 2 rfl rfl (by omega) (by decide) rfl dX2_copy_55 ?_
              refine kp_ast (o := ho k) (k := k) (g' := (va_up g2 k (ho k))) hx hb hK hP hD hS 3 rfl (by omega) (by decide) (fun y h => (hho _ _ h).at) rfl dX2_copy_56 (fun H locs hP hD hS => ?_)
              have hP : va_P G.1 vwCl ([(hN, .inr (2, [.ref hL, .ref hC, .ref b0, .ref b1, .ref b2, .ref b3, .ref b4, .int (nI mo)])), (b0, .inl (G.2 0, 10, .inl (kI g))), (b2, .inl (G.2 1, 10, .inl (kB wf))), (b3, .inl (G.2 2, 100, .inr (.inr (.inr (.inr (va_up g2 k (ho k))))))), (hO, .inr (2, [.ref hL, .ref hC2, .ref d0, .ref d1, .ref d2, .ref d3, .ref d4, .int (nI mo)])), (d0, .inl (G.2 0, 10, .inl (kI w1))), (d3, .inl (G.2 2, 100, .inr (.inr (.inr (.inr ho)))))] ++ va_pl L f) H := hP
              have hD : va_D A ([(hN, .inr (2, [.ref hL, .ref hC, .ref b0, .ref b1, .ref b2, .ref b3, .ref b4, .int (nI mo)])), (b0, .inl (G.2 0, 10, .inl (kI g))), (b2, .inl (G.2 1, 10, .inl (kB wf))), (b3, .inl (G.2 2, 100, .inr (.inr (.inr (.inr (va_up g2 k (ho k))))))), (hO, .inr (2, [.ref hL, .ref hC2, .ref d0, .ref d1, .ref d2, .ref d3, .ref d4, .int (nI mo)])), (d0, .inl (G.2 0, 10, .inl (kI w1))), (d3, .inl (G.2 2, 100, .inr (.inr (.inr (.inr ho)))))] ++ va_pl L f) := hD
              refine lv_iinc (k := 0) (v := (nI (k + 1))) (lv' := [(2, .int (nI (k + 1))), (0, .ref hN), (1, .ref hO)]) hx hb dX2_copy_57 hl rfl (kn_inc k) (by decide) rfl (fun ls hl => ?_)
              refine lv_goto (tgt := 36) hx hb dX2_copy_60 (by decide) ?_
              exact ih36 (k + 1) (va_up g2 k (ho k)) (by omega) (by omega) (by rw [hg2]; exact mCopy_succ ho hd k) _ _ hP hD hS _ (lv_sub hl [0, 1, 2] rfl)
        exact hc_36 (_ + 1) 0 hd (Nat.lt_succ_self _) (by omega) (by exact (mCopy_0 ho hd).symm) _ _ hP hD hS _ (lv_sub hl [0, 1, 2] rfl)
      · refine lv_aload_n hx hb dX2_copy_16 rfl (lv_at hl 1 rfl) ?_
        refine va_get (D := G.1) (ci := 2) (v := .ref b0) (C := RX2) (T := TX2) (N := 8) hx hb hts kX2_copy_1 hown hK hP 0 rfl rfl 2 (by decide) (hts _ kX2_copy_3) (fun _ h9 => h9) rfl dX2_copy_17 ?_
        refine lv_iload_n hx hb dX2_copy_20 rfl (lv_at hl 0 rfl) ?_
        refine lv_aload_n hx hb dX2_copy_21 rfl (lv_at hl 2 rfl) ?_
        refine va_get (D := G.1) (ci := 2) (v := .ref d0) (C := RX2) (T := TX2) (N := 8) hx hb hts kX2_copy_1 hown hK hP 4 rfl rfl 2 (by decide) (hts _ kX2_copy_3) (fun _ h9 => h9) rfl dX2_copy_22 ?_
        refine lv_iload_n hx hb dX2_copy_25 rfl (lv_at hl 0 rfl) ?_
        refine kr_iald (k := i) (v := (nI (w1 i))) hx hb hK hP 5 0 rfl rfl (by omega) (by decide) rfl dX2_copy_26 ?_
        refine kr_iast (k := i) (g := (kI (va_up g i (w1 i)))) hx hb hK hP hD hS 1 0 rfl rfl (by omega) (by decide) (kI_up g i (w1 i)) dX2_copy_27 (fun H locs hP hD hS => ?_)
        have hP : va_P G.1 vwCl ([(hN, .inr (2, [.ref hL, .ref hC, .ref b0, .ref b1, .ref b2, .ref b3, .ref b4, .int (nI mo)])), (b0, .inl (G.2 0, 10, .inl (kI (va_up g i (w1 i))))), (b2, .inl (G.2 1, 10, .inl (kB wf))), (b3, .inl (G.2 2, 100, .inr (.inr (.inr (.inr hd))))), (hO, .inr (2, [.ref hL, .ref hC2, .ref d0, .ref d1, .ref d2, .ref d3, .ref d4, .int (nI mo)])), (d0, .inl (G.2 0, 10, .inl (kI w1))), (d3, .inl (G.2 2, 100, .inr (.inr (.inr (.inr ho)))))] ++ va_pl L f) H := hP
        have hD : va_D A ([(hN, .inr (2, [.ref hL, .ref hC, .ref b0, .ref b1, .ref b2, .ref b3, .ref b4, .int (nI mo)])), (b0, .inl (G.2 0, 10, .inl (kI (va_up g i (w1 i))))), (b2, .inl (G.2 1, 10, .inl (kB wf))), (b3, .inl (G.2 2, 100, .inr (.inr (.inr (.inr hd))))), (hO, .inr (2, [.ref hL, .ref hC2, .ref d0, .ref d1, .ref d2, .ref d3, .ref d4, .int (nI mo)])), (d0, .inl (G.2 0, 10, .inl (kI w1))), (d3, .inl (G.2 2, 100, .inr (.inr (.inr (.inr ho)))))] ++ va_pl L f) := hD
        refine lv_iinc (k := 0) (v := (nI (i + 1))) (lv' := [(2, .int (nI (i + 1))), (0, .ref hN), (1, .ref hO)]) hx hb dX2_copy_28 hl rfl (kn_inc i) (by decide) rfl (fun ls hl => ?_)
        refine lv_goto (tgt := 10) hx hb dX2_copy_31 (by decide) ?_
        exact ih10 (i + 1) (va_up g i (w1 i)) (by omega) (by omega) (by rw [hg]; exact mCopy_succ w1 w0 i) _ _ hP hD hS _ (lv_sub hl [0, 1, 2] rfl)
  exact hc_10 (_ + 1) 0 w0 (Nat.lt_succ_self _) (by omega) (by exact (mCopy_0 w1 w0).symm) _ _ hP hD hS _ (lv_sub hl [0, 1, 2] rfl)
