set_option maxHeartbeats 4000000 in
set_option maxRecDepth 100000 in
theorem c_X5_told (l : Launch) (G : kG) (y len : Nat) (g : Nat → Nat) (q : Nat) (hq : q < 100) (hlen : len ≤ 22) : Met l yX5_told wsX5_told ({ frames := 0, cells := 0, slots := 0, locals := 0 }) (kPre G [(y, .inl (G.2 0, len, .inl (kI g)))] [.ref y, .int (nI q)]) (vp_Si (fun r : Int32 => r = (nI (zTl len g q)))) 0 0 (fun _ => False) := by
  refine Met.ofW (cc := cX5_told) (maxL := 2) (ret := (some .int)) (by decide) rfl ?_
  intro p e s m args below meth c s₁ B hml hv
  obtain ⟨rfl, hP, hK⟩ := hv
  have hx := B.exec
  have hb := B.bytes
  have hr := B.returns
  have hts := atoms_spec (ws := wsX5_told) B.pre
  have hown : s.vm.findClass RX5 = some m.cls := findClass_of_methodNamed B.named
  have hlocks := B.notSynchronized
  have hK : va_K G.1 vwCl (kT G) s := hK
  have hP : va_P G.1 vwCl [(y, .inl (G.2 0, len, .inl (kI g)))] s.heap := hP
  have hl := lv_entry ([.ref y, .int (nI q)]) (n := 2) (Nat.le_of_ble_eq_true rfl)
  rw [lg_entry_eq]
  generalize (lg_sl ([.ref y, .int (nI q)]) ++ List.replicate (2 - (lg_sl ([.ref y, .int (nI q)])).length) Slot.unset).toArray = ls at hl ⊢
  have hl : lv_has ls 2 [(0, .ref y), (1, .int (nI q))] := hl
  refine lv_aload_n hx hb dX5_told_0 rfl (lv_at hl 0 rfl) ?_
  refine va_alen (v := nI len) hx hb hK hP 0 0 rfl rfl rfl dX5_told_1 ?_
  refine lv_iload_n hx hb dX5_told_2 rfl (lv_at hl 1 rfl) ?_
  refine lv_iconst (v := (nI 2)) hx hb dX5_told_3 (by decide) ?_
  refine lv_iadd hx hb dX5_told_4 ?_
  refine kr_top (y := nI (q + 2)) (nI_add q 2) ?_
  refine kb_le (tgt := 16) hx hb dX5_told_5 (by decide) (by omega) (by omega) (fun c_1 => ?_) (fun c_1 => ?_)
  · refine lv_iconst (v := (nI 0)) hx hb dX5_told_16 (by decide) ?_
    exact kr_iret hx hb hr hlocks (by first | exact congrArg nI (zTl_t (by omega)).symm | exact congrArg nI (zTl_f (by omega)).symm) dX5_told_17
  · refine lv_aload_n hx hb dX5_told_8 rfl (lv_at hl 0 rfl) ?_
    refine lv_iload_n hx hb dX5_told_9 rfl (lv_at hl 1 rfl) ?_
    refine lv_iconst (v := (nI 2)) hx hb dX5_told_10 (by decide) ?_
    refine lv_iadd hx hb dX5_told_11 ?_
    refine kr_top (y := nI (q + 2)) (nI_add q 2) ?_
    refine kr_iald (k := (q + 2)) (v := (nI (g (q + 2)))) hx hb hK hP 0 0 rfl rfl (by omega) (by omega) rfl dX5_told_12 ?_
    refine lv_goto (tgt := 17) hx hb dX5_told_13 (by decide) ?_
    exact kr_iret hx hb hr hlocks (by first | exact congrArg nI (zTl_t (by omega)).symm | exact congrArg nI (zTl_f (by omega)).symm) dX5_told_17

theorem kX5_due_0 : Cond.fieldLink RX5 25 "PassNotesLaw$Sim" "passes" "[[I" ∈ wsX5_due := by decide +kernel
theorem kX5_due_1 : ∀ w ∈ wsX50, w ∈ wsX5_due := by decide +kernel
set_option maxHeartbeats 4000000 in
set_option maxRecDepth 100000 in
theorem c_X5_due (l : Launch) (G : kG) (zs za zw zq zp nn np mi : Nat) (L : List Nat) (f : Nat → va_E) (ro : Nat → Nat) (rr : Nat → Nat → Nat) (rp : Nat → Nat) (fs sn ln : Nat → Nat) (op : Nat → Bool) (SS : Nat → Option mS) (ar ww : Nat → Nat) (h q : Nat) (hrp : ∀ i, i < np → rp i ∈ L ∧ f (rp i) = .inl (G.2 0, 4, .inl (kI (zP fs sn ln op i)))) (hn7 : nn ≤ 7) (hnp : np ≤ 20) (hfs : ∀ j, fs j < 10) (hsn : ∀ j, sn j < 10) (hln : ∀ j, ln j < 100) (hen : ∀ j, j < np → fs j < nn ∧ sn j < nn) (hmi : mi < 2 ^ 31) (hh : h < 10) (hqn : q < np) : Met l yX5_due wsX5_due ({ frames := 0, cells := 0, slots := 0, locals := 0 }) (kPre G ([(zs, .inr (5, [.int (nI mi), .ref za, .ref zw, .ref zq, .ref zp])), (zp, .inl (G.2 3, np, .inr (.inr (.inr (.inr (kRn np rp))))))] ++ va_pl L f) [.ref zs, .int (nI h), .int (nI q)]) (vp_Si (fun r : Int32 => r = (nI (mTells fs sn ln op h q)))) 0 0 (fun _ => False) := by
  refine Met.ofW (cc := cX5_due) (maxL := 3) (ret := (some .int)) (by decide) rfl ?_
  intro p e s m args below meth c s₁ B hml hv
  obtain ⟨rfl, hP, hK⟩ := hv
  have hx := B.exec
  have hb := B.bytes
  have hr := B.returns
  have hts := atoms_spec (ws := wsX5_due) B.pre
  have hown : s.vm.findClass RX5 = some m.cls := findClass_of_methodNamed B.named
  have hlocks := B.notSynchronized
  have hK : va_K G.1 vwCl (kT G) s := hK
  have hP : va_P G.1 vwCl ([(zs, .inr (5, [.int (nI mi), .ref za, .ref zw, .ref zq, .ref zp])), (zp, .inl (G.2 3, np, .inr (.inr (.inr (.inr (kRn np rp))))))] ++ va_pl L f) s.heap := hP
  have hl := lv_entry ([.ref zs, .int (nI h), .int (nI q)]) (n := 3) (Nat.le_of_ble_eq_true rfl)
  rw [lg_entry_eq]
  generalize (lg_sl ([.ref zs, .int (nI h), .int (nI q)]) ++ List.replicate (3 - (lg_sl ([.ref zs, .int (nI h), .int (nI q)])).length) Slot.unset).toArray = ls at hl ⊢
  have hl : lv_has ls 3 [(0, .ref zs), (1, .int (nI h)), (2, .int (nI q))] := hl
  refine lv_aload_n hx hb dX5_due_0 rfl (lv_at hl 0 rfl) ?_
  refine va_get (D := G.1) (ci := 5) (v := .ref zp) (C := RX5) (T := TX5) (N := 5) hx hb hts kX5_due_1 hown hK hP 0 rfl rfl 4 (by decide) (hts _ kX5_due_0) (fun _ h9 => h9) rfl dX5_due_1 ?_
  refine lv_iload_n hx hb dX5_due_4 rfl (lv_at hl 2 rfl) ?_
  refine kr_aldA (k := q) (v := .ref (rp q)) hx hb hK hP 1 3 rfl rfl (by omega) (by omega) (kRn_at (by omega)) dX5_due_5 ?_
  refine lv_iconst (v := (nI 3)) hx hb dX5_due_6 (by decide) ?_
  refine kp_ialf (k := 3) (v := (bI (op q))) hx hb hK hP (hrp q (by omega)).1 (hrp q (by omega)).2 (by decide) (by decide) zP_3 dX5_due_7 ?_
  refine lv_iconst (v := (nI 1)) hx hb dX5_due_8 (by decide) ?_
  refine kb_ne1 (tgt := 47) hx hb dX5_due_9 (by decide) (fun c_1 => ?_) (fun c_1 => ?_)
  · refine lv_iconst (v := (nI 0)) hx hb dX5_due_47 (by decide) ?_
    exact kr_iret hx hb hr hlocks (by unfold mTells; simp_all) dX5_due_48
  · refine lv_aload_n hx hb dX5_due_12 rfl (lv_at hl 0 rfl) ?_
    refine va_get (D := G.1) (ci := 5) (v := .ref zp) (C := RX5) (T := TX5) (N := 5) hx hb hts kX5_due_1 hown hK hP 0 rfl rfl 4 (by decide) (hts _ kX5_due_0) (fun _ h9 => h9) rfl dX5_due_13 ?_
    refine lv_iload_n hx hb dX5_due_16 rfl (lv_at hl 2 rfl) ?_
    refine kr_aldA (k := q) (v := .ref (rp q)) hx hb hK hP 1 3 rfl rfl (by omega) (by omega) (kRn_at (by omega)) dX5_due_17 ?_
    refine lv_iconst (v := (nI 0)) hx hb dX5_due_18 (by decide) ?_
    refine kp_ialf (k := 0) (v := (nI (fs q))) hx hb hK hP (hrp q (by omega)).1 (hrp q (by omega)).2 (by decide) (by decide) rfl dX5_due_19 ?_
    refine lv_iload_n hx hb dX5_due_20 rfl (lv_at hl 1 rfl) ?_
    refine kb_eq (tgt := 36) hx hb dX5_due_21 (by decide) (by first | omega | exact Nat.lt_trans (hfs _) (by decide) | exact Nat.lt_trans (hsn _) (by decide)) (by first | omega | exact Nat.lt_trans (hfs _) (by decide) | exact Nat.lt_trans (hsn _) (by decide)) (fun c_2 => ?_) (fun c_2 => ?_)
    · refine lv_aload_n hx hb dX5_due_36 rfl (lv_at hl 0 rfl) ?_
      refine va_get (D := G.1) (ci := 5) (v := .ref zp) (C := RX5) (T := TX5) (N := 5) hx hb hts kX5_due_1 hown hK hP 0 rfl rfl 4 (by decide) (hts _ kX5_due_0) (fun _ h9 => h9) rfl dX5_due_37 ?_
      refine lv_iload_n hx hb dX5_due_40 rfl (lv_at hl 2 rfl) ?_
      refine kr_aldA (k := q) (v := .ref (rp q)) hx hb hK hP 1 3 rfl rfl (by omega) (by omega) (kRn_at (by omega)) dX5_due_41 ?_
      refine lv_iconst (v := (nI 2)) hx hb dX5_due_42 (by decide) ?_
      refine kp_ialf (k := 2) (v := (nI (ln q))) hx hb hK hP (hrp q (by omega)).1 (hrp q (by omega)).2 (by decide) (by decide) rfl dX5_due_43 ?_
      refine lv_goto (tgt := 48) hx hb dX5_due_44 (by decide) ?_
      exact kr_iret hx hb hr hlocks (by unfold mTells; simp_all) dX5_due_48
    · refine lv_aload_n hx hb dX5_due_24 rfl (lv_at hl 0 rfl) ?_
      refine va_get (D := G.1) (ci := 5) (v := .ref zp) (C := RX5) (T := TX5) (N := 5) hx hb hts kX5_due_1 hown hK hP 0 rfl rfl 4 (by decide) (hts _ kX5_due_0) (fun _ h9 => h9) rfl dX5_due_25 ?_
      refine lv_iload_n hx hb dX5_due_28 rfl (lv_at hl 2 rfl) ?_
      refine kr_aldA (k := q) (v := .ref (rp q)) hx hb hK hP 1 3 rfl rfl (by omega) (by omega) (kRn_at (by omega)) dX5_due_29 ?_
      refine lv_iconst (v := (nI 1)) hx hb dX5_due_30 (by decide) ?_
      refine kp_ialf (k := 1) (v := (nI (sn q))) hx hb hK hP (hrp q (by omega)).1 (hrp q (by omega)).2 (by decide) (by decide) rfl dX5_due_31 ?_
      refine lv_iload_n hx hb dX5_due_32 rfl (lv_at hl 1 rfl) ?_
      refine kb_ne (tgt := 47) hx hb dX5_due_33 (by decide) (by first | omega | exact Nat.lt_trans (hfs _) (by decide) | exact Nat.lt_trans (hsn _) (by decide)) (by first | omega | exact Nat.lt_trans (hfs _) (by decide) | exact Nat.lt_trans (hsn _) (by decide)) (fun c_3 => ?_) (fun c_3 => ?_)
      · refine lv_iconst (v := (nI 0)) hx hb dX5_due_47 (by decide) ?_
        exact kr_iret hx hb hr hlocks (by unfold mTells; simp_all) dX5_due_48
      · refine lv_aload_n hx hb dX5_due_36 rfl (lv_at hl 0 rfl) ?_
        refine va_get (D := G.1) (ci := 5) (v := .ref zp) (C := RX5) (T := TX5) (N := 5) hx hb hts kX5_due_1 hown hK hP 0 rfl rfl 4 (by decide) (hts _ kX5_due_0) (fun _ h9 => h9) rfl dX5_due_37 ?_
        refine lv_iload_n hx hb dX5_due_40 rfl (lv_at hl 2 rfl) ?_
        refine kr_aldA (k := q) (v := .ref (rp q)) hx hb hK hP 1 3 rfl rfl (by omega) (by omega) (kRn_at (by omega)) dX5_due_41 ?_
        refine lv_iconst (v := (nI 2)) hx hb dX5_due_42 (by decide) ?_
        refine kp_ialf (k := 2) (v := (nI (ln q))) hx hb hK hP (hrp q (by omega)).1 (hrp q (by omega)).2 (by decide) (by decide) rfl dX5_due_43 ?_
        refine lv_goto (tgt := 48) hx hb dX5_due_44 (by decide) ?_
        exact kr_iret hx hb hr hlocks (by unfold mTells; simp_all) dX5_due_48

theorem kX5_isTrue_0 : Cond.fieldLink RX5 20 "PassNotesLaw$Sim" "sheets" "[[[I" ∈ wsX5_isTrue := by decide +kernel
theorem kX5_isTrue_1 : ∀ w ∈ wsX50, w ∈ wsX5_isTrue := by decide +kernel
theorem kX5_isTrue_2 : Cond.fieldLink RX5 25 "PassNotesLaw$Sim" "passes" "[[I" ∈ wsX5_isTrue := by decide +kernel
set_option maxHeartbeats 4000000 in
set_option maxRecDepth 100000 in
theorem c_X5_isTrue (l : Launch) (G : kG) (zs za zw zq zp nn np mi : Nat) (L : List Nat) (f : Nat → va_E) (ro : Nat → Nat) (rr : Nat → Nat → Nat) (rp : Nat → Nat) (fs sn ln : Nat → Nat) (op : Nat → Bool) (SS : Nat → Option mS) (ar ww : Nat → Nat) (h : Nat) (hrw : ∀ i, i < nn → ro i ∈ L ∧ f (ro i) = .inl (G.2 3, nn, .inr (.inr (.inr (.inr (kRn nn (rr i))))))) (hrr : ∀ i j, i < nn → j < nn → zRow G L f (rr i j) mi (SS (i * 10 + j))) (hrp : ∀ i, i < np → rp i ∈ L ∧ f (rp i) = .inl (G.2 0, 4, .inl (kI (zP fs sn ln op i)))) (hn7 : nn ≤ 7) (hnp : np ≤ 20) (hfs : ∀ j, fs j < 10) (hsn : ∀ j, sn j < 10) (hln : ∀ j, ln j < 100) (hen : ∀ j, j < np → fs j < nn ∧ sn j < nn) (hmi : mi < 2 ^ 31) (hh : h < nn) : Met l yX5_isTrue wsX5_isTrue ({ frames := 1, cells := 0, slots := 0, locals := 22 }) (kPre G ([(zs, .inr (5, [.int (nI mi), .ref za, .ref zw, .ref zq, .ref zp])), (zq, .inl (G.2 4, nn, .inr (.inr (.inr (.inr (kRn nn ro)))))), (zp, .inl (G.2 3, np, .inr (.inr (.inr (.inr (kRn np rp))))))] ++ va_pl L f) [.ref zs, .int (nI h)]) (vp_Si (fun r : Int32 => r = (bI (zTrue SS fs sn ln op h np)))) 0 0 (fun _ => False) := by
  refine Met.ofW (cc := cX5_isTrue) (maxL := 4) (ret := (some .boolean)) (by decide) rfl ?_
  intro p e s m args below meth c s₁ B hml hv
  obtain ⟨rfl, hP, hK⟩ := hv
  have hx := B.exec
  have hb := B.bytes
  have hr := B.returns
  have hts := atoms_spec (ws := wsX5_isTrue) B.pre
  have hown : s.vm.findClass RX5 = some m.cls := findClass_of_methodNamed B.named
  have hlocks := B.notSynchronized
  have hK : va_K G.1 vwCl (kT G) s := hK
  have hP : va_P G.1 vwCl ([(zs, .inr (5, [.int (nI mi), .ref za, .ref zw, .ref zq, .ref zp])), (zq, .inl (G.2 4, nn, .inr (.inr (.inr (.inr (kRn nn ro)))))), (zp, .inl (G.2 3, np, .inr (.inr (.inr (.inr (kRn np rp))))))] ++ va_pl L f) s.heap := hP
  have hl := lv_entry ([.ref zs, .int (nI h)]) (n := 4) (Nat.le_of_ble_eq_true rfl)
  rw [lg_entry_eq]
  generalize (lg_sl ([.ref zs, .int (nI h)]) ++ List.replicate (4 - (lg_sl ([.ref zs, .int (nI h)])).length) Slot.unset).toArray = ls at hl ⊢
  have hl : lv_has ls 4 [(0, .ref zs), (1, .int (nI h))] := hl
  refine lv_aload_n hx hb dX5_isTrue_0 rfl (lv_at hl 0 rfl) ?_
  refine va_get (D := G.1) (ci := 5) (v := .ref zq) (C := RX5) (T := TX5) (N := 5) hx hb hts kX5_isTrue_1 hown hK hP 0 rfl rfl 3 (by decide) (hts _ kX5_isTrue_0) (fun _ h9 => h9) rfl dX5_isTrue_1 ?_
  refine lv_iload_n hx hb dX5_isTrue_4 rfl (lv_at hl 1 rfl) ?_
  refine kr_aldA (k := h) (v := .ref (ro h)) hx hb hK hP 1 4 rfl rfl (by omega) (by omega) (kRn_at (by omega)) dX5_isTrue_5 ?_
  refine lv_iload_n hx hb dX5_isTrue_6 rfl (lv_at hl 1 rfl) ?_
  refine kp_aldA (k := h) (v := .ref (rr h h)) hx hb hK hP 3 (hrw h (by omega)).1 (hrw h (by omega)).2 rfl (by omega) (by omega) (kRn_at (by omega)) dX5_isTrue_7 ?_
  obtain ⟨hmz_1, lnz_1, gzz_1, hfz_1, hvz_1⟩ := hrr h h (by omega) (by omega)
  have hnz_1 := zVal_len hvz_1
  refine lv_astore_n (lv' := [(2, .ref (rr h h)), (0, .ref zs), (1, .int (nI h))]) hx hb dX5_isTrue_8 rfl hl (by decide) rfl (fun ls hl => ?_)
  refine lv_iconst (v := (nI 0)) hx hb dX5_isTrue_9 (by decide) ?_
  refine lv_istore_n (lv' := [(3, .int (nI 0)), (2, .ref (rr h h)), (0, .ref zs), (1, .int (nI h))]) hx hb dX5_isTrue_10 rfl hl (by decide) rfl (fun ls hl => ?_)
  have hc_11 : ∀ (n : Nat) (i : Nat), np - i < n → i ≤ np → mAny (fun p => vLen (SS (h * 10 + h)) p != mTells fs sn ln op h p) i = false → ∀ (ls : Array Slot), lv_has ls 4 [(3, .int (nI i)), (2, .ref (rr h h)), (0, .ref zs), (1, .int (nI h))] → W p l e (headSpec wsX5_isTrue ({ frames := 1, cells := 0, slots := 0, locals := 22 })).room s m [.ref zs, .int (nI h)].toArray below meth c s.heap [] 0 0 (MQ below (vp_Si (fun r : Int32 => r = (bI (zTrue SS fs sn ln op h np)))) [.ref zs, .int (nI h)].toArray s 0 0 (fun _ => False)) (F0 m 11 ls []) := by
    intro n
    induction n with
    | zero =>
      intro i hmz; exact absurd hmz (Nat.not_lt_zero _)
    | succ n ih11 =>
      intro i hmz hi hno ls hl
      refine lv_iload_n hx hb dX5_isTrue_11 rfl (lv_at hl 0 rfl) ?_
      refine lv_aload_n hx hb dX5_isTrue_12 rfl (lv_at hl 2 rfl) ?_
      refine va_get (D := G.1) (ci := 5) (v := .ref zp) (C := RX5) (T := TX5) (N := 5) hx hb hts kX5_isTrue_1 hown hK hP 0 rfl rfl 4 (by decide) (hts _ kX5_isTrue_2) (fun _ h9 => h9) rfl dX5_isTrue_13 ?_
      refine va_alen (v := nI np) hx hb hK hP 2 3 rfl rfl rfl dX5_isTrue_16 ?_
      refine kb_ge (tgt := 42) hx hb dX5_isTrue_17 (by decide) (by omega) (by omega) (fun c_2 => ?_) (fun c_2 => ?_)
      · refine lv_iconst (v := (nI 1)) hx hb dX5_isTrue_42 (by decide) ?_
        exact kr_zret hx hb hr hlocks rfl (by exact bI_one (by unfold zTrue; rw [show np = i by omega, hno]; rfl)) dX5_isTrue_43
      · refine lv_aload_n hx hb dX5_isTrue_20 rfl (lv_at hl 1 rfl) ?_
        refine lv_iload_n hx hb dX5_isTrue_21 rfl (lv_at hl 0 rfl) ?_
        refine vp_callSi (W.runS (As := [.ref (rr h h), .int (nI i)]) (rest := []) ⟨hx, hb, hml, hown, hts⟩ (c_X5_told l G (rr h h) lnz_1 gzz_1 i (by omega) (by omega)) (va_cwS 2 hts gX5_isTrue_X5_told rfl rfl rfl (by decide +kernel) ⟨Nat.le_of_ble_eq_true rfl, Nat.le_of_ble_eq_true rfl⟩) (kPre_S (ws := [((rr h h), .inl (G.2 0, lnz_1, .inl (kI gzz_1)))]) hK (kp_one hP hmz_1 hfz_1)) rfl rfl hl.1 rfl (lv_room (Nat.le_of_ble_eq_true rfl)) dX5_isTrue_22 ⟨Nat.le_of_ble_eq_true rfl, Nat.le_of_ble_eq_true rfl⟩) (fun r_3 hr_3 => ?_)
        rw [zVal_told hvz_1] at hr_3
        subst hr_3
        refine lv_aload_n hx hb dX5_isTrue_25 rfl (lv_at hl 2 rfl) ?_
        refine lv_iload_n hx hb dX5_isTrue_26 rfl (lv_at hl 3 rfl) ?_
        refine lv_iload_n hx hb dX5_isTrue_27 rfl (lv_at hl 0 rfl) ?_
        refine vp_callSi (W.runV (As := [.int (nI h), .int (nI i)]) (rest := [.int (nI (vLen (SS (h * 10 + h)) i))]) ⟨hx, hb, hml, hown, hts⟩ (c_X5_due l G zs za zw zq zp nn np mi L f ro rr rp fs sn ln op SS ar ww h i hrp (by omega) (by omega) hfs hsn hln hen (by omega) (by omega) (by omega)) (cwV 2 hts gX5_isTrue_X5_due rfl rfl rfl (by decide +kernel) ⟨Nat.le_of_ble_eq_true rfl, Nat.le_of_ble_eq_true rfl⟩) (kPre_V (ws := ([(zs, .inr (5, [.int (nI mi), .ref za, .ref zw, .ref zq, .ref zp])), (zp, .inl (G.2 3, np, .inr (.inr (.inr (.inr (kRn np rp))))))] ++ va_pl L f)) hK (hP.part (cx := [(zs, .inr (5, [.int (nI mi), .ref za, .ref zw, .ref zq, .ref zp])), (zp, .inl (G.2 3, np, .inr (.inr (.inr (.inr (kRn np rp))))))]) [0, 2] rfl) (RX5, TX5, 5) 0 rfl rfl) rfl rfl hl.1 rfl (lv_room (Nat.le_of_ble_eq_true rfl)) dX5_isTrue_28 ⟨Nat.le_of_ble_eq_true rfl, Nat.le_of_ble_eq_true rfl⟩) (fun r_4 hr_4 => ?_)
        subst hr_4
        refine kb_eq (tgt := 36) hx hb dX5_isTrue_31 (by decide) (by first | exact Nat.lt_trans (zVal_lt (by assumption)) (by decide) | exact Nat.lt_trans (mTells_lt hln) (by decide)) (by first | exact Nat.lt_trans (zVal_lt (by assumption)) (by decide) | exact Nat.lt_trans (mTells_lt hln) (by decide)) (fun c_5 => ?_) (fun c_5 => ?_)
        · refine lv_iinc (k := 0) (v := (nI (i + 1))) (lv' := [(3, .int (nI (i + 1))), (2, .ref (rr h h)), (0, .ref zs), (1, .int (nI h))]) hx hb dX5_isTrue_36 hl rfl (kn_inc i) (by decide) rfl (fun ls hl => ?_)
          refine lv_goto (tgt := 11) hx hb dX5_isTrue_39 (by decide) ?_
          exact ih11 (i + 1) (by omega) (by omega) (by rw [mAny_succ, hno]; simp_all) _ (lv_sub hl [0, 1, 2, 3] rfl)
        · refine lv_iconst (v := (nI 0)) hx hb dX5_isTrue_34 (by decide) ?_
          exact kr_zret hx hb hr hlocks rfl (by exact bI_zero (by unfold zTrue; rw [mAny_iff.mpr ⟨i, by omega, by simp_all⟩]; rfl)) dX5_isTrue_35
  exact hc_11 (_ + 1) 0 (Nat.lt_succ_self _) (by omega) (by rfl) _ (lv_sub hl [0, 1, 2, 3] rfl)

theorem kX5_takes_0 : Cond.fieldLink RX5 20 "PassNotesLaw$Sim" "sheets" "[[[I" ∈ wsX5_takes := by decide +kernel
theorem kX5_takes_1 : ∀ w ∈ wsX50, w ∈ wsX5_takes := by decide +kernel
theorem kX5_takes_2 : Cond.fieldLink RX5 25 "PassNotesLaw$Sim" "passes" "[[I" ∈ wsX5_takes := by decide +kernel
set_option maxHeartbeats 4000000 in
set_option maxRecDepth 100000 in
theorem c_X5_takes (l : Launch) (G : kG) (zs za zw zq zp nn np mi : Nat) (L : List Nat) (f : Nat → va_E) (ro : Nat → Nat) (rr : Nat → Nat → Nat) (rp : Nat → Nat) (fs sn ln : Nat → Nat) (op : Nat → Bool) (SS : Nat → Option mS) (ar ww : Nat → Nat) (h q : Nat) (hrw : ∀ i, i < nn → ro i ∈ L ∧ f (ro i) = .inl (G.2 3, nn, .inr (.inr (.inr (.inr (kRn nn (rr i))))))) (hrr : ∀ i j, i < nn → j < nn → zRow G L f (rr i j) mi (SS (i * 10 + j))) (hrp : ∀ i, i < np → rp i ∈ L ∧ f (rp i) = .inl (G.2 0, 4, .inl (kI (zP fs sn ln op i)))) (hn7 : nn ≤ 7) (hnp : np ≤ 20) (hfs : ∀ j, fs j < 10) (hsn : ∀ j, sn j < 10) (hln : ∀ j, ln j < 100) (hen : ∀ j, j < np → fs j < nn ∧ sn j < nn) (hmi : mi < 2 ^ 31) (hh : h < nn) (hqn : q < np) : Met l yX5_takes wsX5_takes ({ frames := 1, cells := 0, slots := 0, locals := 21 }) (kPre G ([(zs, .inr (5, [.int (nI mi), .ref za, .ref zw, .ref zq, .ref zp])), (zq, .inl (G.2 4, nn, .inr (.inr (.inr (.inr (kRn nn ro)))))), (zp, .inl (G.2 3, np, .inr (.inr (.inr (.inr (kRn np rp))))))] ++ va_pl L f) [.ref zs, .int (nI h), .int (nI q)]) (vp_Si (fun r : Int32 => r = (bI (vTOpen SS fs sn h q)))) 0 0 (fun _ => False) := by
  refine Met.ofW (cc := cX5_takes) (maxL := 3) (ret := (some .boolean)) (by decide) rfl ?_
  intro p e s m args below meth c s₁ B hml hv
  obtain ⟨rfl, hP, hK⟩ := hv
  have hx := B.exec
  have hb := B.bytes
  have hr := B.returns
  have hts := atoms_spec (ws := wsX5_takes) B.pre
  have hown : s.vm.findClass RX5 = some m.cls := findClass_of_methodNamed B.named
  have hlocks := B.notSynchronized
  have hK : va_K G.1 vwCl (kT G) s := hK
  have hP : va_P G.1 vwCl ([(zs, .inr (5, [.int (nI mi), .ref za, .ref zw, .ref zq, .ref zp])), (zq, .inl (G.2 4, nn, .inr (.inr (.inr (.inr (kRn nn ro)))))), (zp, .inl (G.2 3, np, .inr (.inr (.inr (.inr (kRn np rp))))))] ++ va_pl L f) s.heap := hP
  have hl := lv_entry ([.ref zs, .int (nI h), .int (nI q)]) (n := 3) (Nat.le_of_ble_eq_true rfl)
  rw [lg_entry_eq]
  generalize (lg_sl ([.ref zs, .int (nI h), .int (nI q)]) ++ List.replicate (3 - (lg_sl ([.ref zs, .int (nI h), .int (nI q)])).length) Slot.unset).toArray = ls at hl ⊢
  have hl : lv_has ls 3 [(0, .ref zs), (1, .int (nI h)), (2, .int (nI q))] := hl
  refine lv_aload_n hx hb dX5_takes_0 rfl (lv_at hl 0 rfl) ?_
  refine va_get (D := G.1) (ci := 5) (v := .ref zq) (C := RX5) (T := TX5) (N := 5) hx hb hts kX5_takes_1 hown hK hP 0 rfl rfl 3 (by decide) (hts _ kX5_takes_0) (fun _ h9 => h9) rfl dX5_takes_1 ?_
  refine lv_iload_n hx hb dX5_takes_4 rfl (lv_at hl 1 rfl) ?_
  refine kr_aldA (k := h) (v := .ref (ro h)) hx hb hK hP 1 4 rfl rfl (by omega) (by omega) (kRn_at (by omega)) dX5_takes_5 ?_
  refine lv_aload_n hx hb dX5_takes_6 rfl (lv_at hl 0 rfl) ?_
  refine va_get (D := G.1) (ci := 5) (v := .ref zp) (C := RX5) (T := TX5) (N := 5) hx hb hts kX5_takes_1 hown hK hP 0 rfl rfl 4 (by decide) (hts _ kX5_takes_2) (fun _ h9 => h9) rfl dX5_takes_7 ?_
  refine lv_iload_n hx hb dX5_takes_10 rfl (lv_at hl 2 rfl) ?_
  refine kr_aldA (k := q) (v := .ref (rp q)) hx hb hK hP 2 3 rfl rfl (by omega) (by omega) (kRn_at (by omega)) dX5_takes_11 ?_
  refine lv_iconst (v := (nI 0)) hx hb dX5_takes_12 (by decide) ?_
  refine kp_ialf (k := 0) (v := (nI (fs q))) hx hb hK hP (hrp q (by omega)).1 (hrp q (by omega)).2 (by decide) (by decide) rfl dX5_takes_13 ?_
  refine kp_aldA (k := (fs q)) (v := .ref (rr h (fs q))) hx hb hK hP 3 (hrw h (by omega)).1 (hrw h (by omega)).2 rfl (by have := hen q (by omega); omega) (by omega) (kRn_at (by have := hen q (by omega); omega)) dX5_takes_14 ?_
  obtain ⟨hmz_1, lnz_1, gzz_1, hfz_1, hvz_1⟩ := hrr h (fs q) (by first | omega | (have := hen q (by omega); omega)) (by first | omega | (have := hen q (by omega); omega))
  have hnz_1 := zVal_len hvz_1
  refine lv_iload_n hx hb dX5_takes_15 rfl (lv_at hl 2 rfl) ?_
  refine vp_callSi (W.runS (As := [.ref (rr h (fs q)), .int (nI q)]) (rest := []) ⟨hx, hb, hml, hown, hts⟩ (c_X5_told l G (rr h (fs q)) lnz_1 gzz_1 q (by omega) (by omega)) (va_cwS 2 hts gX5_takes_X5_told rfl rfl rfl (by decide +kernel) ⟨Nat.le_of_ble_eq_true rfl, Nat.le_of_ble_eq_true rfl⟩) (kPre_S (ws := [((rr h (fs q)), .inl (G.2 0, lnz_1, .inl (kI gzz_1)))]) hK (kp_one hP hmz_1 hfz_1)) rfl rfl hl.1 rfl (lv_room (Nat.le_of_ble_eq_true rfl)) dX5_takes_16 ⟨Nat.le_of_ble_eq_true rfl, Nat.le_of_ble_eq_true rfl⟩) (fun r_2 hr_2 => ?_)
  rw [zVal_told hvz_1] at hr_2
  subst hr_2
  refine kb_le0 (tgt := 48) hx hb dX5_takes_19 (by decide) (by exact Nat.lt_trans (zVal_lt (by assumption)) (by decide)) (fun c_3 => ?_) (fun c_3 => ?_)
  · have hc1 := c_3
    refine lv_iconst (v := (nI 0)) hx hb dX5_takes_48 (by decide) ?_
    exact kr_zret hx hb hr hlocks rfl (by first | exact bI_one (show vTOpen SS fs sn h q = true by unfold vTOpen; rw [decide_eq_true (by omega), decide_eq_true (by omega)]; rfl) | exact bI_zero (show vTOpen SS fs sn h q = false by unfold vTOpen; rw [decide_eq_false (by omega)]; rfl) | exact bI_zero (show vTOpen SS fs sn h q = false by unfold vTOpen; rw [Bool.and_comm, decide_eq_false (by omega)]; rfl)) dX5_takes_49
  · have hc1 := c_3
    refine lv_aload_n hx hb dX5_takes_22 rfl (lv_at hl 0 rfl) ?_
    refine va_get (D := G.1) (ci := 5) (v := .ref zq) (C := RX5) (T := TX5) (N := 5) hx hb hts kX5_takes_1 hown hK hP 0 rfl rfl 3 (by decide) (hts _ kX5_takes_0) (fun _ h9 => h9) rfl dX5_takes_23 ?_
    refine lv_iload_n hx hb dX5_takes_26 rfl (lv_at hl 1 rfl) ?_
    refine kr_aldA (k := h) (v := .ref (ro h)) hx hb hK hP 1 4 rfl rfl (by omega) (by omega) (kRn_at (by omega)) dX5_takes_27 ?_
    refine lv_aload_n hx hb dX5_takes_28 rfl (lv_at hl 0 rfl) ?_
    refine va_get (D := G.1) (ci := 5) (v := .ref zp) (C := RX5) (T := TX5) (N := 5) hx hb hts kX5_takes_1 hown hK hP 0 rfl rfl 4 (by decide) (hts _ kX5_takes_2) (fun _ h9 => h9) rfl dX5_takes_29 ?_
    refine lv_iload_n hx hb dX5_takes_32 rfl (lv_at hl 2 rfl) ?_
    refine kr_aldA (k := q) (v := .ref (rp q)) hx hb hK hP 2 3 rfl rfl (by omega) (by omega) (kRn_at (by omega)) dX5_takes_33 ?_
    refine lv_iconst (v := (nI 1)) hx hb dX5_takes_34 (by decide) ?_
    refine kp_ialf (k := 1) (v := (nI (sn q))) hx hb hK hP (hrp q (by omega)).1 (hrp q (by omega)).2 (by decide) (by decide) rfl dX5_takes_35 ?_
    refine kp_aldA (k := (sn q)) (v := .ref (rr h (sn q))) hx hb hK hP 3 (hrw h (by omega)).1 (hrw h (by omega)).2 rfl (by have := hen q (by omega); omega) (by omega) (kRn_at (by have := hen q (by omega); omega)) dX5_takes_36 ?_
    obtain ⟨hmz_4, lnz_4, gzz_4, hfz_4, hvz_4⟩ := hrr h (sn q) (by first | omega | (have := hen q (by omega); omega)) (by first | omega | (have := hen q (by omega); omega))
    have hnz_4 := zVal_len hvz_4
    refine lv_iload_n hx hb dX5_takes_37 rfl (lv_at hl 2 rfl) ?_
    refine vp_callSi (W.runS (As := [.ref (rr h (sn q)), .int (nI q)]) (rest := []) ⟨hx, hb, hml, hown, hts⟩ (c_X5_told l G (rr h (sn q)) lnz_4 gzz_4 q (by omega) (by omega)) (va_cwS 2 hts gX5_takes_X5_told rfl rfl rfl (by decide +kernel) ⟨Nat.le_of_ble_eq_true rfl, Nat.le_of_ble_eq_true rfl⟩) (kPre_S (ws := [((rr h (sn q)), .inl (G.2 0, lnz_4, .inl (kI gzz_4)))]) hK (kp_one hP hmz_4 hfz_4)) rfl rfl hl.1 rfl (lv_room (Nat.le_of_ble_eq_true rfl)) dX5_takes_38 ⟨Nat.le_of_ble_eq_true rfl, Nat.le_of_ble_eq_true rfl⟩) (fun r_5 hr_5 => ?_)
    rw [zVal_told hvz_4] at hr_5
    subst hr_5
    refine kb_le0 (tgt := 48) hx hb dX5_takes_41 (by decide) (by exact Nat.lt_trans (zVal_lt (by assumption)) (by decide)) (fun c_6 => ?_) (fun c_6 => ?_)
    · have hc2 := c_6
      refine lv_iconst (v := (nI 0)) hx hb dX5_takes_48 (by decide) ?_
      exact kr_zret hx hb hr hlocks rfl (by first | exact bI_one (show vTOpen SS fs sn h q = true by unfold vTOpen; rw [decide_eq_true (by omega), decide_eq_true (by omega)]; rfl) | exact bI_zero (show vTOpen SS fs sn h q = false by unfold vTOpen; rw [decide_eq_false (by omega)]; rfl) | exact bI_zero (show vTOpen SS fs sn h q = false by unfold vTOpen; rw [Bool.and_comm, decide_eq_false (by omega)]; rfl)) dX5_takes_49
    · have hc2 := c_6
      refine lv_iconst (v := (nI 1)) hx hb dX5_takes_44 (by decide) ?_
      refine lv_goto (tgt := 49) hx hb dX5_takes_45 (by decide) ?_
      exact kr_zret hx hb hr hlocks rfl (by first | exact bI_one (show vTOpen SS fs sn h q = true by unfold vTOpen; rw [decide_eq_true (by omega), decide_eq_true (by omega)]; rfl) | exact bI_zero (show vTOpen SS fs sn h q = false by unfold vTOpen; rw [decide_eq_false (by omega)]; rfl) | exact bI_zero (show vTOpen SS fs sn h q = false by unfold vTOpen; rw [Bool.and_comm, decide_eq_false (by omega)]; rfl)) dX5_takes_49

theorem kX5_step_0 : Cond.constant RX5 54 (99999999) ∈ wsX5_step := by decide +kernel
theorem kX5_step_1 : Cond.fieldLink RX5 20 "PassNotesLaw$Sim" "sheets" "[[[I" ∈ wsX5_step := by decide +kernel
theorem kX5_step_2 : ∀ w ∈ wsX50, w ∈ wsX5_step := by decide +kernel
theorem kX5_step_3 : Cond.fieldLink RX5 25 "PassNotesLaw$Sim" "passes" "[[I" ∈ wsX5_step := by decide +kernel
set_option maxHeartbeats 4000000 in
set_option maxRecDepth 100000 in
theorem c_X5_step (l : Launch) (G : kG) (zs za zw zq zp nn np mi : Nat) (L : List Nat) (f : Nat → va_E) (ro : Nat → Nat) (rr : Nat → Nat → Nat) (rp : Nat → Nat) (fs sn ln : Nat → Nat) (op : Nat → Bool) (SS : Nat → Option mS) (ar ww : Nat → Nat) (h q sd : Nat) (hrw : ∀ i, i < nn → ro i ∈ L ∧ f (ro i) = .inl (G.2 3, nn, .inr (.inr (.inr (.inr (kRn nn (rr i))))))) (hrr : ∀ i j, i < nn → j < nn → zRow G L f (rr i j) mi (SS (i * 10 + j))) (hrp : ∀ i, i < np → rp i ∈ L ∧ f (rp i) = .inl (G.2 0, 4, .inl (kI (zP fs sn ln op i)))) (hn7 : nn ≤ 7) (hnp : np ≤ 20) (hfs : ∀ j, fs j < 10) (hsn : ∀ j, sn j < 10) (hln : ∀ j, ln j < 100) (hen : ∀ j, j < np → fs j < nn ∧ sn j < nn) (hmi : mi < 2 ^ 31) (hh : h < nn) (hqn : q < np) (hsd : sd < 2) : Met l yX5_step wsX5_step ({ frames := 2, cells := 0, slots := 0, locals := 43 }) (kPre G ([(zs, .inr (5, [.int (nI mi), .ref za, .ref zw, .ref zq, .ref zp])), (zq, .inl (G.2 4, nn, .inr (.inr (.inr (.inr (kRn nn ro)))))), (zp, .inl (G.2 3, np, .inr (.inr (.inr (.inr (kRn np rp))))))] ++ va_pl L f) [.ref zs, .int (nI h), .int (nI q), .int (nI sd)]) (vp_Si (fun r : Int32 => r = (nI (zStH SS fs sn h q sd)))) 0 0 (fun _ => False) := by
  refine Met.ofW (cc := cX5_step) (maxL := 4) (ret := (some .int)) (by decide) rfl ?_
  intro p e s m args below meth c s₁ B hml hv
  obtain ⟨rfl, hP, hK⟩ := hv
  have hx := B.exec
  have hb := B.bytes
  have hr := B.returns
  have hts := atoms_spec (ws := wsX5_step) B.pre
  have hown : s.vm.findClass RX5 = some m.cls := findClass_of_methodNamed B.named
  have hlocks := B.notSynchronized
  have hK : va_K G.1 vwCl (kT G) s := hK
  have hP : va_P G.1 vwCl ([(zs, .inr (5, [.int (nI mi), .ref za, .ref zw, .ref zq, .ref zp])), (zq, .inl (G.2 4, nn, .inr (.inr (.inr (.inr (kRn nn ro)))))), (zp, .inl (G.2 3, np, .inr (.inr (.inr (.inr (kRn np rp))))))] ++ va_pl L f) s.heap := hP
  have hl := lv_entry ([.ref zs, .int (nI h), .int (nI q), .int (nI sd)]) (n := 4) (Nat.le_of_ble_eq_true rfl)
  rw [lg_entry_eq]
  generalize (lg_sl ([.ref zs, .int (nI h), .int (nI q), .int (nI sd)]) ++ List.replicate (4 - (lg_sl ([.ref zs, .int (nI h), .int (nI q), .int (nI sd)])).length) Slot.unset).toArray = ls at hl ⊢
  have hl : lv_has ls 4 [(0, .ref zs), (1, .int (nI h)), (2, .int (nI q)), (3, .int (nI sd))] := hl
  refine lv_iload_n hx hb dX5_step_0 rfl (lv_at hl 1 rfl) ?_
  refine kb_ge0 (tgt := 35) hx hb dX5_step_1 (by decide) (by omega) ?_
  refine lv_aload_n hx hb dX5_step_35 rfl (lv_at hl 0 rfl) ?_
  refine lv_iload_n hx hb dX5_step_36 rfl (lv_at hl 1 rfl) ?_
  refine lv_iload_n hx hb dX5_step_37 rfl (lv_at hl 2 rfl) ?_
  refine vp_callSi (W.runV (As := [.int (nI h), .int (nI q)]) (rest := []) ⟨hx, hb, hml, hown, hts⟩ (c_X5_takes l G zs za zw zq zp nn np mi L f ro rr rp fs sn ln op SS ar ww h q hrw hrr hrp (by omega) (by omega) hfs hsn hln hen (by omega) (by omega) (by omega)) (cwV 2 hts gX5_step_X5_takes rfl rfl rfl (by decide +kernel) ⟨Nat.le_of_ble_eq_true rfl, Nat.le_of_ble_eq_true rfl⟩) (kPre_V (ws := ([(zs, .inr (5, [.int (nI mi), .ref za, .ref zw, .ref zq, .ref zp])), (zq, .inl (G.2 4, nn, .inr (.inr (.inr (.inr (kRn nn ro)))))), (zp, .inl (G.2 3, np, .inr (.inr (.inr (.inr (kRn np rp))))))] ++ va_pl L f)) hK (hP.part (cx := [(zs, .inr (5, [.int (nI mi), .ref za, .ref zw, .ref zq, .ref zp])), (zq, .inl (G.2 4, nn, .inr (.inr (.inr (.inr (kRn nn ro)))))), (zp, .inl (G.2 3, np, .inr (.inr (.inr (.inr (kRn np rp))))))]) [0, 1, 2] rfl) (RX5, TX5, 5) 0 rfl rfl) rfl rfl hl.1 rfl (lv_room (Nat.le_of_ble_eq_true rfl)) dX5_step_38 ⟨Nat.le_of_ble_eq_true rfl, Nat.le_of_ble_eq_true rfl⟩) (fun r_1 hr_1 => ?_)
  subst hr_1
  refine kb_eqb (tgt := 71) hx hb dX5_step_41 (by decide) (fun c_2 => ?_) (fun c_2 => ?_)
  · have ho := c_2
    refine lv_ldc (v := (99999999)) hx hb hown (hts _ kX5_step_0) dX5_step_71 ?_
    refine kr_top (show ((99999999) : Int32) = nI 99999999 from by decide) ?_
    exact kr_iret hx hb hr hlocks (by first | exact congrArg nI (zStH_t ho).symm | exact congrArg nI (zStH_f ho).symm) dX5_step_73
  · have ho := c_2
    refine lv_bipush (v := (nI 100)) hx hb dX5_step_44 (by decide) ?_
    refine lv_aload_n hx hb dX5_step_46 rfl (lv_at hl 0 rfl) ?_
    refine va_get (D := G.1) (ci := 5) (v := .ref zq) (C := RX5) (T := TX5) (N := 5) hx hb hts kX5_step_2 hown hK hP 0 rfl rfl 3 (by decide) (hts _ kX5_step_1) (fun _ h9 => h9) rfl dX5_step_47 ?_
    refine lv_iload_n hx hb dX5_step_50 rfl (lv_at hl 1 rfl) ?_
    refine kr_aldA (k := h) (v := .ref (ro h)) hx hb hK hP 1 4 rfl rfl (by omega) (by omega) (kRn_at (by omega)) dX5_step_51 ?_
    refine lv_aload_n hx hb dX5_step_52 rfl (lv_at hl 0 rfl) ?_
    refine va_get (D := G.1) (ci := 5) (v := .ref zp) (C := RX5) (T := TX5) (N := 5) hx hb hts kX5_step_2 hown hK hP 0 rfl rfl 4 (by decide) (hts _ kX5_step_3) (fun _ h9 => h9) rfl dX5_step_53 ?_
    refine lv_iload_n hx hb dX5_step_56 rfl (lv_at hl 2 rfl) ?_
    refine kr_aldA (k := q) (v := .ref (rp q)) hx hb hK hP 2 3 rfl rfl (by omega) (by omega) (kRn_at (by omega)) dX5_step_57 ?_
    refine lv_iload_n hx hb dX5_step_58 rfl (lv_at hl 3 rfl) ?_
    refine kp_ialf (k := sd) (v := (nI (zEnd fs sn q sd))) hx hb hK hP (hrp q (by omega)).1 (hrp q (by omega)).2 (by omega) (by decide) (congrArg nI (zP_end (by omega))) dX5_step_59 ?_
    refine kp_aldA (k := (zEnd fs sn q sd)) (v := .ref (rr h (zEnd fs sn q sd))) hx hb hK hP 3 (hrw h (by omega)).1 (hrw h (by omega)).2 rfl (by have := hen q (by omega); unfold zEnd; split <;> omega) (by omega) (kRn_at (by have := hen q (by omega); unfold zEnd; split <;> omega)) dX5_step_60 ?_
    obtain ⟨hmz_3, lnz_3, gzz_3, hfz_3, hvz_3⟩ := hrr h (zEnd fs sn q sd) (by first | omega | (have := hen q (by omega); unfold zEnd; split <;> omega)) (by first | omega | (have := hen q (by omega); unfold zEnd; split <;> omega))
    have hnz_3 := zVal_len hvz_3
    refine lv_iload_n hx hb dX5_step_61 rfl (lv_at hl 2 rfl) ?_
    refine vp_callSi (W.runS (As := [.ref (rr h (zEnd fs sn q sd)), .int (nI q)]) (rest := [.int (nI 100)]) ⟨hx, hb, hml, hown, hts⟩ (c_X5_told l G (rr h (zEnd fs sn q sd)) lnz_3 gzz_3 q (by omega) (by omega)) (va_cwS 2 hts gX5_step_X5_told rfl rfl rfl (by decide +kernel) ⟨Nat.le_of_ble_eq_true rfl, Nat.le_of_ble_eq_true rfl⟩) (kPre_S (ws := [((rr h (zEnd fs sn q sd)), .inl (G.2 0, lnz_3, .inl (kI gzz_3)))]) hK (kp_one hP hmz_3 hfz_3)) rfl rfl hl.1 rfl (lv_room (Nat.le_of_ble_eq_true rfl)) dX5_step_62 ⟨Nat.le_of_ble_eq_true rfl, Nat.le_of_ble_eq_true rfl⟩) (fun r_4 hr_4 => ?_)
    rw [zVal_told hvz_3] at hr_4
    subst hr_4
    refine lv_imul hx hb dX5_step_65 ?_
    refine kr_top (y := nI (100 * (vLen (SS (h * 10 + zEnd fs sn q sd)) q))) (pk_mul 100 (vLen (SS (h * 10 + zEnd fs sn q sd)) q)) ?_
    refine lv_iconst (v := (nI 1)) hx hb dX5_step_66 (by decide) ?_
    refine lv_iadd hx hb dX5_step_67 ?_
    refine kr_top (y := nI ((100 * (vLen (SS (h * 10 + zEnd fs sn q sd)) q)) + 1)) (nI_add (100 * (vLen (SS (h * 10 + zEnd fs sn q sd)) q)) 1) ?_
    refine lv_goto (tgt := 73) hx hb dX5_step_68 (by decide) ?_
    exact kr_iret hx hb hr hlocks (by first | exact congrArg nI (zStH_t ho).symm | exact congrArg nI (zStH_f ho).symm) dX5_step_73

theorem kX5_step_t_0 : Cond.fieldLink RX5 25 "PassNotesLaw$Sim" "passes" "[[I" ∈ wsX5_step := by decide +kernel
theorem kX5_step_t_1 : ∀ w ∈ wsX50, w ∈ wsX5_step := by decide +kernel
theorem kX5_step_t_2 : Cond.constant RX5 54 (99999999) ∈ wsX5_step := by decide +kernel
set_option maxHeartbeats 4000000 in
set_option maxRecDepth 100000 in
theorem c_X5_step_t (l : Launch) (G : kG) (zs za zw zq zp nn np mi : Nat) (L : List Nat) (f : Nat → va_E) (ro : Nat → Nat) (rr : Nat → Nat → Nat) (rp : Nat → Nat) (fs sn ln : Nat → Nat) (op : Nat → Bool) (SS : Nat → Option mS) (ar ww : Nat → Nat) (q sd : Nat) (hrw : ∀ i, i < nn → ro i ∈ L ∧ f (ro i) = .inl (G.2 3, nn, .inr (.inr (.inr (.inr (kRn nn (rr i))))))) (hrr : ∀ i j, i < nn → j < nn → zRow G L f (rr i j) mi (SS (i * 10 + j))) (hrp : ∀ i, i < np → rp i ∈ L ∧ f (rp i) = .inl (G.2 0, 4, .inl (kI (zP fs sn ln op i)))) (hn7 : nn ≤ 7) (hnp : np ≤ 20) (hfs : ∀ j, fs j < 10) (hsn : ∀ j, sn j < 10) (hln : ∀ j, ln j < 100) (hen : ∀ j, j < np → fs j < nn ∧ sn j < nn) (hmi : mi < 2 ^ 31) (hqn : q < np) (hsd : sd < 2) : Met l yX5_step wsX5_step ({ frames := 0, cells := 0, slots := 0, locals := 0 }) (kPre G ([(zs, .inr (5, [.int (nI mi), .ref za, .ref zw, .ref zq, .ref zp])), (zq, .inl (G.2 4, nn, .inr (.inr (.inr (.inr (kRn nn ro)))))), (zp, .inl (G.2 3, np, .inr (.inr (.inr (.inr (kRn np rp))))))] ++ va_pl L f) [.ref zs, .int (-1), .int (nI q), .int (nI sd)]) (vp_Si (fun r : Int32 => r = (nI (zStT ln op q sd)))) 0 0 (fun _ => False) := by
  refine Met.ofW (cc := cX5_step) (maxL := 4) (ret := (some .int)) (by decide) rfl ?_
  intro p e s m args below meth c s₁ B hml hv
  obtain ⟨rfl, hP, hK⟩ := hv
  have hx := B.exec
  have hb := B.bytes
  have hr := B.returns
  have hts := atoms_spec (ws := wsX5_step) B.pre
  have hown : s.vm.findClass RX5 = some m.cls := findClass_of_methodNamed B.named
  have hlocks := B.notSynchronized
  have hK : va_K G.1 vwCl (kT G) s := hK
  have hP : va_P G.1 vwCl ([(zs, .inr (5, [.int (nI mi), .ref za, .ref zw, .ref zq, .ref zp])), (zq, .inl (G.2 4, nn, .inr (.inr (.inr (.inr (kRn nn ro)))))), (zp, .inl (G.2 3, np, .inr (.inr (.inr (.inr (kRn np rp))))))] ++ va_pl L f) s.heap := hP
  have hl := lv_entry ([.ref zs, .int (-1), .int (nI q), .int (nI sd)]) (n := 4) (Nat.le_of_ble_eq_true rfl)
  rw [lg_entry_eq]
  generalize (lg_sl ([.ref zs, .int (-1), .int (nI q), .int (nI sd)]) ++ List.replicate (4 - (lg_sl ([.ref zs, .int (-1), .int (nI q), .int (nI sd)])).length) Slot.unset).toArray = ls at hl ⊢
  have hl : lv_has ls 4 [(0, .ref zs), (1, .int (-1)), (2, .int (nI q)), (3, .int (nI sd))] := hl
  refine lv_iload_n hx hb dX5_step_0 rfl (lv_at hl 1 rfl) ?_
  refine lv_if_ge (tgt := 35) hx hb dX5_step_1 (by decide) (fun c_1 => ?_) (fun c_1 => ?_)
  · exfalso; exact absurd c_1 (by decide)
  · refine lv_aload_n hx hb dX5_step_4 rfl (lv_at hl 0 rfl) ?_
    refine va_get (D := G.1) (ci := 5) (v := .ref zp) (C := RX5) (T := TX5) (N := 5) hx hb hts kX5_step_t_1 hown hK hP 0 rfl rfl 4 (by decide) (hts _ kX5_step_t_0) (fun _ h9 => h9) rfl dX5_step_5 ?_
    refine lv_iload_n hx hb dX5_step_8 rfl (lv_at hl 2 rfl) ?_
    refine kr_aldA (k := q) (v := .ref (rp q)) hx hb hK hP 2 3 rfl rfl (by omega) (by omega) (kRn_at (by omega)) dX5_step_9 ?_
    refine lv_iconst (v := (nI 3)) hx hb dX5_step_10 (by decide) ?_
    refine kp_ialf (k := 3) (v := (bI (op q))) hx hb hK hP (hrp q (by omega)).1 (hrp q (by omega)).2 (by decide) (by decide) zP_3 dX5_step_11 ?_
    refine lv_iconst (v := (nI 1)) hx hb dX5_step_12 (by decide) ?_
    refine kb_ne1 (tgt := 32) hx hb dX5_step_13 (by decide) (fun c_2 => ?_) (fun c_2 => ?_)
    · have ho := c_2
      refine lv_ldc (v := (99999999)) hx hb hown (hts _ kX5_step_t_2) dX5_step_32 ?_
      refine kr_top (show ((99999999) : Int32) = nI 99999999 from by decide) ?_
      exact kr_iret hx hb hr hlocks (by unfold zStT; cases q9 : op q <;> simp_all [bI]) dX5_step_34
    · have ho := c_2
      refine lv_bipush (v := (nI 100)) hx hb dX5_step_16 (by decide) ?_
      refine lv_aload_n hx hb dX5_step_18 rfl (lv_at hl 0 rfl) ?_
      refine va_get (D := G.1) (ci := 5) (v := .ref zp) (C := RX5) (T := TX5) (N := 5) hx hb hts kX5_step_t_1 hown hK hP 0 rfl rfl 4 (by decide) (hts _ kX5_step_t_0) (fun _ h9 => h9) rfl dX5_step_19 ?_
      refine lv_iload_n hx hb dX5_step_22 rfl (lv_at hl 2 rfl) ?_
      refine kr_aldA (k := q) (v := .ref (rp q)) hx hb hK hP 2 3 rfl rfl (by omega) (by omega) (kRn_at (by omega)) dX5_step_23 ?_
      refine lv_iconst (v := (nI 2)) hx hb dX5_step_24 (by decide) ?_
      refine kp_ialf (k := 2) (v := (nI (ln q))) hx hb hK hP (hrp q (by omega)).1 (hrp q (by omega)).2 (by decide) (by decide) rfl dX5_step_25 ?_
      refine lv_imul hx hb dX5_step_26 ?_
      refine kr_top (y := nI (100 * (ln q))) (pk_mul 100 (ln q)) ?_
      refine lv_iconst (v := (nI 1)) hx hb dX5_step_27 (by decide) ?_
      refine lv_iadd hx hb dX5_step_28 ?_
      refine kr_top (y := nI ((100 * (ln q)) + 1)) (nI_add (100 * (ln q)) 1) ?_
      refine lv_goto (tgt := 34) hx hb dX5_step_29 (by decide) ?_
      exact kr_iret hx hb hr hlocks (by unfold zStT; cases q9 : op q <;> simp_all [bI]) dX5_step_34
