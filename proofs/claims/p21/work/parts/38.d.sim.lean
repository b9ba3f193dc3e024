theorem kX5_sheetsOf_0 : Cond.fieldLink RX5 20 "PassNotesLaw$Sim" "sheets" "[[[I" ∈ wsX5_sheetsOf := by decide +kernel
theorem kX5_sheetsOf_1 : ∀ w ∈ wsX50, w ∈ wsX5_sheetsOf := by decide +kernel
set_option maxHeartbeats 4000000 in
set_option maxRecDepth 100000 in
theorem c_X5_sheetsOf (l : Launch) (G : kG) (zs za zw zq zp nn np mi : Nat) (L : List Nat) (f : Nat → va_E) (ro : Nat → Nat) (rr : Nat → Nat → Nat) (rp : Nat → Nat) (fs sn ln : Nat → Nat) (op : Nat → Bool) (SS : Nat → Option mS) (ar ww : Nat → Nat) (h : Nat) (hrw : ∀ i, i < nn → ro i ∈ L ∧ f (ro i) = .inl (G.2 3, nn, .inr (.inr (.inr (.inr (kRn nn (rr i))))))) (hrr : ∀ i j, i < nn → j < nn → zRow G L f (rr i j) mi (SS (i * 10 + j))) (hrp : ∀ i, i < np → rp i ∈ L ∧ f (rp i) = .inl (G.2 0, 4, .inl (kI (zP fs sn ln op i)))) (hn7 : nn ≤ 7) (hnp : np ≤ 20) (hfs : ∀ j, fs j < 10) (hsn : ∀ j, sn j < 10) (hln : ∀ j, ln j < 100) (hen : ∀ j, j < np → fs j < nn ∧ sn j < nn) (hmi : mi < 2 ^ 31) (hh : h < nn) : Met l yX5_sheetsOf wsX5_sheetsOf ({ frames := 0, cells := 0, slots := 0, locals := 0 }) (kPre G ([(zs, .inr (5, [.int (nI mi), .ref za, .ref zw, .ref zq, .ref zp])), (zq, .inl (G.2 4, nn, .inr (.inr (.inr (.inr (kRn nn ro))))))] ++ va_pl L f) [.ref zs, .int (nI h)]) (vp_Si (fun r : Int32 => r = (nI (zHas SS nn h)))) 0 0 (fun _ => False) := by
  refine Met.ofW (cc := cX5_sheetsOf) (maxL := 7) (ret := (some .int)) (by decide) rfl ?_
  intro p e s m args below meth c s₁ B hml hv
  obtain ⟨rfl, hP, hK⟩ := hv
  have hx := B.exec
  have hb := B.bytes
  have hr := B.returns
  have hts := atoms_spec (ws := wsX5_sheetsOf) B.pre
  have hown : s.vm.findClass RX5 = some m.cls := findClass_of_methodNamed B.named
  have hlocks := B.notSynchronized
  have hK : va_K G.1 vwCl (kT G) s := hK
  have hP : va_P G.1 vwCl ([(zs, .inr (5, [.int (nI mi), .ref za, .ref zw, .ref zq, .ref zp])), (zq, .inl (G.2 4, nn, .inr (.inr (.inr (.inr (kRn nn ro))))))] ++ va_pl L f) s.heap := hP
  have hl := lv_entry ([.ref zs, .int (nI h)]) (n := 7) (Nat.le_of_ble_eq_true rfl)
  rw [lg_entry_eq]
  generalize (lg_sl ([.ref zs, .int (nI h)]) ++ List.replicate (7 - (lg_sl ([.ref zs, .int (nI h)])).length) Slot.unset).toArray = ls at hl ⊢
  have hl : lv_has ls 7 [(0, .ref zs), (1, .int (nI h))] := hl
  refine lv_iconst (v := (nI 0)) hx hb dX5_sheetsOf_0 (by decide) ?_
  refine lv_istore_n (lv' := [(2, .int (nI 0)), (0, .ref zs), (1, .int (nI h))]) hx hb dX5_sheetsOf_1 rfl hl (by decide) rfl (fun ls hl => ?_)
  refine lv_aload_n hx hb dX5_sheetsOf_2 rfl (lv_at hl 1 rfl) ?_
  refine va_get (D := G.1) (ci := 5) (v := .ref zq) (C := RX5) (T := TX5) (N := 5) hx hb hts kX5_sheetsOf_1 hown hK hP 0 rfl rfl 3 (by decide) (hts _ kX5_sheetsOf_0) (fun _ h9 => h9) rfl dX5_sheetsOf_3 ?_
  refine lv_iload_n hx hb dX5_sheetsOf_6 rfl (lv_at hl 2 rfl) ?_
  refine kr_aldA (k := h) (v := .ref (ro h)) hx hb hK hP 1 4 rfl rfl (by omega) (by omega) (kRn_at (by omega)) dX5_sheetsOf_7 ?_
  refine lv_astore_n (lv' := [(3, .ref (ro h)), (2, .int (nI 0)), (0, .ref zs), (1, .int (nI h))]) hx hb dX5_sheetsOf_8 rfl hl (by decide) rfl (fun ls hl => ?_)
  refine lv_aload_n hx hb dX5_sheetsOf_9 rfl (lv_at hl 0 rfl) ?_
  refine kp_alenA hx hb hK hP (hrw h (by omega)).1 (hrw h (by omega)).2 dX5_sheetsOf_10 ?_
  refine lv_istore (lv' := [(4, .int (nI nn)), (3, .ref (ro h)), (2, .int (nI 0)), (0, .ref zs), (1, .int (nI h))]) hx hb dX5_sheetsOf_11 hl (by decide) rfl (fun ls hl => ?_)
  refine lv_iconst (v := (nI 0)) hx hb dX5_sheetsOf_13 (by decide) ?_
  refine lv_istore (lv' := [(5, .int (nI 0)), (4, .int (nI nn)), (3, .ref (ro h)), (2, .int (nI 0)), (0, .ref zs), (1, .int (nI h))]) hx hb dX5_sheetsOf_14 hl (by decide) rfl (fun ls hl => ?_)
  have hc_16 : ∀ (n : Nat) (i k : Nat), nn - i < n → i ≤ nn → k = mCnt (fun j => (SS (h * 10 + j)).isSome) i → ∀ (ls : Array Slot), lv_has ls 7 [(5, .int (nI i)), (4, .int (nI nn)), (3, .ref (ro h)), (2, .int (nI k)), (0, .ref zs), (1, .int (nI h))] → W p l e (headSpec wsX5_sheetsOf ({ frames := 0, cells := 0, slots := 0, locals := 0 })).room s m [.ref zs, .int (nI h)].toArray below meth c s.heap [] 0 0 (MQ below (vp_Si (fun r : Int32 => r = (nI (zHas SS nn h)))) [.ref zs, .int (nI h)].toArray s 0 0 (fun _ => False)) (F0 m 16 ls []) := by
    intro n
    induction n with
    | zero =>
      intro i k hmz; exact absurd hmz (Nat.not_lt_zero _)
    | succ n ih16 =>
      intro i k hmz hi hk ls hl
      refine lv_iload hx hb dX5_sheetsOf_16 (lv_at hl 0 rfl) ?_
      refine lv_iload hx hb dX5_sheetsOf_18 (lv_at hl 1 rfl) ?_
      refine kb_ge (tgt := 49) hx hb dX5_sheetsOf_20 (by decide) (by omega) (by omega) (fun c_1 => ?_) (fun c_1 => ?_)
      · refine lv_iload_n hx hb dX5_sheetsOf_49 rfl (lv_at hl 3 rfl) ?_
        exact kr_iret hx hb hr hlocks (by unfold zHas; rw [hk, show i = nn by omega]) dX5_sheetsOf_50
      · refine lv_aload_n hx hb dX5_sheetsOf_23 rfl (lv_at hl 2 rfl) ?_
        refine lv_iload hx hb dX5_sheetsOf_24 (lv_at hl 0 rfl) ?_
        refine kp_aldA (k := i) (v := .ref (rr h i)) hx hb hK hP 3 (hrw h (by omega)).1 (hrw h (by omega)).2 rfl (by omega) (by omega) (kRn_at (by omega)) dX5_sheetsOf_26 ?_
        obtain ⟨hmz_2, lnz_2, gzz_2, hfz_2, hvz_2⟩ := hrr h i (by omega) (by omega)
        have hnz_2 := zVal_len hvz_2
        refine lv_astore (lv' := [(6, .ref (rr h i)), (5, .int (nI i)), (4, .int (nI nn)), (3, .ref (ro h)), (2, .int (nI k)), (0, .ref zs), (1, .int (nI h))]) hx hb dX5_sheetsOf_27 hl (by decide) rfl (fun ls hl => ?_)
        refine lv_iload_n hx hb dX5_sheetsOf_29 rfl (lv_at hl 4 rfl) ?_
        refine lv_aload hx hb dX5_sheetsOf_30 (lv_at hl 0 rfl) ?_
        refine kp_alenf hx hb hK hP hmz_2 hfz_2 dX5_sheetsOf_32 ?_
        refine kb_le0 (tgt := 40) hx hb dX5_sheetsOf_33 (by decide) (by omega) (fun c_3 => ?_) (fun c_3 => ?_)
        · have hs9 : (SS (h * 10 + i)).isSome = false := by rw [zVal_n hvz_2 c_3]; rfl
          refine lv_iconst (v := (nI 0)) hx hb dX5_sheetsOf_40 (by decide) ?_
          refine lv_iadd hx hb dX5_sheetsOf_41 ?_
          refine kr_top (y := nI (k + 0)) (nI_add k 0) ?_
          refine lv_istore_n (lv' := [(2, .int (nI (k + 0))), (6, .ref (rr h i)), (5, .int (nI i)), (4, .int (nI nn)), (3, .ref (ro h)), (0, .ref zs), (1, .int (nI h))]) hx hb dX5_sheetsOf_42 rfl hl (by decide) rfl (fun ls hl => ?_)
          refine lv_iinc (k := 2) (v := (nI (i + 1))) (lv' := [(5, .int (nI (i + 1))), (2, .int (nI (k + 0))), (6, .ref (rr h i)), (4, .int (nI nn)), (3, .ref (ro h)), (0, .ref zs), (1, .int (nI h))]) hx hb dX5_sheetsOf_43 hl rfl (kn_inc i) (by decide) rfl (fun ls hl => ?_)
          refine lv_goto (tgt := 16) hx hb dX5_sheetsOf_46 (by decide) ?_
          exact ih16 (i + 1) (k + 0) (by omega) (by omega) (by rw [mCnt_succ, ← hk, hs9]; rfl) _ (lv_sub hl [0, 3, 4, 1, 5, 6] rfl)
        · obtain ⟨v9, hv9, _⟩ := zVal_s hvz_2 c_3
          have hs9 : (SS (h * 10 + i)).isSome = true := by rw [hv9]; rfl
          refine lv_iconst (v := (nI 1)) hx hb dX5_sheetsOf_36 (by decide) ?_
          refine lv_goto (tgt := 41) hx hb dX5_sheetsOf_37 (by decide) ?_
          refine lv_iadd hx hb dX5_sheetsOf_41 ?_
          refine kr_top (y := nI (k + 1)) (nI_add k 1) ?_
          refine lv_istore_n (lv' := [(2, .int (nI (k + 1))), (6, .ref (rr h i)), (5, .int (nI i)), (4, .int (nI nn)), (3, .ref (ro h)), (0, .ref zs), (1, .int (nI h))]) hx hb dX5_sheetsOf_42 rfl hl (by decide) rfl (fun ls hl => ?_)
          refine lv_iinc (k := 2) (v := (nI (i + 1))) (lv' := [(5, .int (nI (i + 1))), (2, .int (nI (k + 1))), (6, .ref (rr h i)), (4, .int (nI nn)), (3, .ref (ro h)), (0, .ref zs), (1, .int (nI h))]) hx hb dX5_sheetsOf_43 hl rfl (kn_inc i) (by decide) rfl (fun ls hl => ?_)
          refine lv_goto (tgt := 16) hx hb dX5_sheetsOf_46 (by decide) ?_
          exact ih16 (i + 1) (k + 1) (by omega) (by omega) (by rw [mCnt_succ, ← hk, hs9]; rfl) _ (lv_sub hl [0, 3, 4, 1, 5, 6] rfl)
  exact hc_16 (_ + 1) 0 0 (Nat.lt_succ_self _) (by omega) (by rfl) _ (lv_sub hl [0, 1, 2, 3, 4, 5] rfl)

theorem kX5_allSheets_0 : Cond.fieldLink RX5 9 "PassNotesLaw$Sim" "areas" "[I" ∈ wsX5_allSheets := by decide +kernel
theorem kX5_allSheets_1 : ∀ w ∈ wsX50, w ∈ wsX5_allSheets := by decide +kernel
set_option maxHeartbeats 4000000 in
set_option maxRecDepth 100000 in
theorem c_X5_allSheets (l : Launch) (G : kG) (zs za zw zq zp nn np mi : Nat) (L : List Nat) (f : Nat → va_E) (ro : Nat → Nat) (rr : Nat → Nat → Nat) (rp : Nat → Nat) (fs sn ln : Nat → Nat) (op : Nat → Bool) (SS : Nat → Option mS) (ar ww : Nat → Nat)  (hrw : ∀ i, i < nn → ro i ∈ L ∧ f (ro i) = .inl (G.2 3, nn, .inr (.inr (.inr (.inr (kRn nn (rr i))))))) (hrr : ∀ i j, i < nn → j < nn → zRow G L f (rr i j) mi (SS (i * 10 + j))) (hrp : ∀ i, i < np → rp i ∈ L ∧ f (rp i) = .inl (G.2 0, 4, .inl (kI (zP fs sn ln op i)))) (hn7 : nn ≤ 7) (hnp : np ≤ 20) (hfs : ∀ j, fs j < 10) (hsn : ∀ j, sn j < 10) (hln : ∀ j, ln j < 100) (hen : ∀ j, j < np → fs j < nn ∧ sn j < nn) (hmi : mi < 2 ^ 31) : Met l yX5_allSheets wsX5_allSheets ({ frames := 1, cells := 0, slots := 0, locals := 26 }) (kPre G ([(zs, .inr (5, [.int (nI mi), .ref za, .ref zw, .ref zq, .ref zp])), (za, .inl (G.2 0, nn, .inl (kI ar))), (zq, .inl (G.2 4, nn, .inr (.inr (.inr (.inr (kRn nn ro))))))] ++ va_pl L f) [.ref zs]) (vp_Si (fun r : Int32 => r = (nI (mSum (zHas SS nn) nn)))) 0 0 (fun _ => False) := by
  refine Met.ofW (cc := cX5_allSheets) (maxL := 3) (ret := (some .int)) (by decide) rfl ?_
  intro p e s m args below meth c s₁ B hml hv
  obtain ⟨rfl, hP, hK⟩ := hv
  have hx := B.exec
  have hb := B.bytes
  have hr := B.returns
  have hts := atoms_spec (ws := wsX5_allSheets) B.pre
  have hown : s.vm.findClass RX5 = some m.cls := findClass_of_methodNamed B.named
  have hlocks := B.notSynchronized
  have hK : va_K G.1 vwCl (kT G) s := hK
  have hP : va_P G.1 vwCl ([(zs, .inr (5, [.int (nI mi), .ref za, .ref zw, .ref zq, .ref zp])), (za, .inl (G.2 0, nn, .inl (kI ar))), (zq, .inl (G.2 4, nn, .inr (.inr (.inr (.inr (kRn nn ro))))))] ++ va_pl L f) s.heap := hP
  have hl := lv_entry ([.ref zs]) (n := 3) (Nat.le_of_ble_eq_true rfl)
  rw [lg_entry_eq]
  generalize (lg_sl ([.ref zs]) ++ List.replicate (3 - (lg_sl ([.ref zs])).length) Slot.unset).toArray = ls at hl ⊢
  have hl : lv_has ls 3 [(0, .ref zs)] := hl
  refine lv_iconst (v := (nI 0)) hx hb dX5_allSheets_0 (by decide) ?_
  refine lv_istore_n (lv' := [(1, .int (nI 0)), (0, .ref zs)]) hx hb dX5_allSheets_1 rfl hl (by decide) rfl (fun ls hl => ?_)
  refine lv_iconst (v := (nI 0)) hx hb dX5_allSheets_2 (by decide) ?_
  refine lv_istore_n (lv' := [(2, .int (nI 0)), (1, .int (nI 0)), (0, .ref zs)]) hx hb dX5_allSheets_3 rfl hl (by decide) rfl (fun ls hl => ?_)
  have hc_4 : ∀ (n : Nat) (i k : Nat), nn - i < n → i ≤ nn → k = mSum (zHas SS nn) i → ∀ (ls : Array Slot), lv_has ls 3 [(2, .int (nI i)), (1, .int (nI k)), (0, .ref zs)] → W p l e (headSpec wsX5_allSheets ({ frames := 1, cells := 0, slots := 0, locals := 26 })).room s m [.ref zs].toArray below meth c s.heap [] 0 0 (MQ below (vp_Si (fun r : Int32 => r = (nI (mSum (zHas SS nn) nn)))) [.ref zs].toArray s 0 0 (fun _ => False)) (F0 m 4 ls []) := by
    intro n
    induction n with
    | zero =>
      intro i k hmz; exact absurd hmz (Nat.not_lt_zero _)
    | succ n ih4 =>
      intro i k hmz hi hk ls hl
      refine lv_iload_n hx hb dX5_allSheets_4 rfl (lv_at hl 0 rfl) ?_
      refine lv_aload_n hx hb dX5_allSheets_5 rfl (lv_at hl 2 rfl) ?_
      refine va_get (D := G.1) (ci := 5) (v := .ref za) (C := RX5) (T := TX5) (N := 5) hx hb hts kX5_allSheets_1 hown hK hP 0 rfl rfl 1 (by decide) (hts _ kX5_allSheets_0) (fun _ h9 => h9) rfl dX5_allSheets_6 ?_
      refine va_alen (v := nI nn) hx hb hK hP 1 0 rfl rfl rfl dX5_allSheets_9 ?_
      refine kb_ge (tgt := 27) hx hb dX5_allSheets_10 (by decide) (by omega) (by omega) (fun c_1 => ?_) (fun c_1 => ?_)
      · refine lv_iload_n hx hb dX5_allSheets_27 rfl (lv_at hl 1 rfl) ?_
        exact kr_iret hx hb hr hlocks (by rw [hk, show i = nn by omega]) dX5_allSheets_28
      · refine lv_iload_n hx hb dX5_allSheets_13 rfl (lv_at hl 1 rfl) ?_
        refine lv_aload_n hx hb dX5_allSheets_14 rfl (lv_at hl 2 rfl) ?_
        refine lv_iload_n hx hb dX5_allSheets_15 rfl (lv_at hl 0 rfl) ?_
        refine vp_callSi (W.runV (As := [.int (nI i)]) (rest := [.int (nI k)]) ⟨hx, hb, hml, hown, hts⟩ (c_X5_sheetsOf l G zs za zw zq zp nn np mi L f ro rr rp fs sn ln op SS ar ww i hrw hrr hrp (by omega) (by omega) hfs hsn hln hen (by omega) (by omega)) (cwV 1 hts gX5_allSheets_X5_sheetsOf rfl rfl rfl (by decide +kernel) ⟨Nat.le_of_ble_eq_true rfl, Nat.le_of_ble_eq_true rfl⟩) (kPre_V (ws := ([(zs, .inr (5, [.int (nI mi), .ref za, .ref zw, .ref zq, .ref zp])), (zq, .inl (G.2 4, nn, .inr (.inr (.inr (.inr (kRn nn ro))))))] ++ va_pl L f)) hK (hP.part (cx := [(zs, .inr (5, [.int (nI mi), .ref za, .ref zw, .ref zq, .ref zp])), (zq, .inl (G.2 4, nn, .inr (.inr (.inr (.inr (kRn nn ro))))))]) [0, 2] rfl) (RX5, TX5, 5) 0 rfl rfl) rfl rfl hl.1 rfl (lv_room (Nat.le_of_ble_eq_true rfl)) dX5_allSheets_16 ⟨Nat.le_of_ble_eq_true rfl, Nat.le_of_ble_eq_true rfl⟩) (fun r_2 hr_2 => ?_)
        subst hr_2
        refine lv_iadd hx hb dX5_allSheets_19 ?_
        refine kr_top (y := nI (k + (zHas SS nn i))) (nI_add k (zHas SS nn i)) ?_
        refine lv_istore_n (lv' := [(1, .int (nI (k + (zHas SS nn i)))), (2, .int (nI i)), (0, .ref zs)]) hx hb dX5_allSheets_20 rfl hl (by decide) rfl (fun ls hl => ?_)
        refine lv_iinc (k := 1) (v := (nI (i + 1))) (lv' := [(2, .int (nI (i + 1))), (1, .int (nI (k + (zHas SS nn i)))), (0, .ref zs)]) hx hb dX5_allSheets_21 hl rfl (kn_inc i) (by decide) rfl (fun ls hl => ?_)
        refine lv_goto (tgt := 4) hx hb dX5_allSheets_24 (by decide) ?_
        exact ih4 (i + 1) (k + (zHas SS nn i)) (by omega) (by omega) (by rw [mSum_succ, ← hk]) _ (lv_sub hl [0, 1, 2] rfl)
  exact hc_4 (_ + 1) 0 0 (Nat.lt_succ_self _) (by omega) (by rfl) _ (lv_sub hl [0, 1, 2] rfl)

theorem kX5_pairs_0 : Cond.fieldLink RX5 9 "PassNotesLaw$Sim" "areas" "[I" ∈ wsX5_pairs := by decide +kernel
theorem kX5_pairs_1 : ∀ w ∈ wsX50, w ∈ wsX5_pairs := by decide +kernel
theorem kX5_pairs_2 : Cond.constant RX5 54 (99999999) ∈ wsX5_pairs := by decide +kernel
set_option maxHeartbeats 4000000 in
set_option maxRecDepth 100000 in
theorem c_X5_pairs (l : Launch) (G : kG) (sz : Nat) (zs za zw zq zp nn np mi : Nat) (L : List Nat) (f : Nat → va_E) (ro : Nat → Nat) (rr : Nat → Nat → Nat) (rp : Nat → Nat) (fs sn ln : Nat → Nat) (op : Nat → Bool) (SS : Nat → Option mS) (ar ww : Nat → Nat)  (hrw : ∀ i, i < nn → ro i ∈ L ∧ f (ro i) = .inl (G.2 3, nn, .inr (.inr (.inr (.inr (kRn nn (rr i))))))) (hrr : ∀ i j, i < nn → j < nn → zRow G L f (rr i j) mi (SS (i * 10 + j))) (hrp : ∀ i, i < np → rp i ∈ L ∧ f (rp i) = .inl (G.2 0, 4, .inl (kI (zP fs sn ln op i)))) (hn7 : nn ≤ 7) (hnp : np ≤ 20) (hfs : ∀ j, fs j < 10) (hsn : ∀ j, sn j < 10) (hln : ∀ j, ln j < 100) (hen : ∀ j, j < np → fs j < nn ∧ sn j < nn) (hmi : mi < 2 ^ 31) : Met l yX5_pairs wsX5_pairs ({ frames := 2, cells := 49, slots := 343, locals := 50 }) (kPreM G ([(zs, .inr (5, [.int (nI mi), .ref za, .ref zw, .ref zq, .ref zp])), (za, .inl (G.2 0, nn, .inl (kI ar))), (zq, .inl (G.2 4, nn, .inr (.inr (.inr (.inr (kRn nn ro)))))), (zp, .inl (G.2 3, np, .inr (.inr (.inr (.inr (kRn np rp))))))] ++ va_pl L f) sz [.ref zs, .int (nI 0)]) (va_Qi (fun (r : Int32) (u : Unit) => r = (nI (mSum (fun a => mCnt (fun b => a != b && decide (zFar (zStT ln op) fs sn np nn b a < 99999999)) nn) nn))) (fun (u : Unit) t => kA G (va_A ([(zs, .inr (5, [.int (nI mi), .ref za, .ref zw, .ref zq, .ref zp])), (za, .inl (G.2 0, nn, .inl (kI ar))), (zq, .inl (G.2 4, nn, .inr (.inr (.inr (.inr (kRn nn ro)))))), (zp, .inl (G.2 3, np, .inr (.inr (.inr (.inr (kRn np rp))))))] ++ va_pl L f) sz) ([(zs, .inr (5, [.int (nI mi), .ref za, .ref zw, .ref zq, .ref zp])), (za, .inl (G.2 0, nn, .inl (kI ar))), (zq, .inl (G.2 4, nn, .inr (.inr (.inr (.inr (kRn nn ro)))))), (zp, .inl (G.2 3, np, .inr (.inr (.inr (.inr (kRn np rp))))))] ++ va_pl L f) t) (va_A ([(zs, .inr (5, [.int (nI mi), .ref za, .ref zw, .ref zq, .ref zp])), (za, .inl (G.2 0, nn, .inl (kI ar))), (zq, .inl (G.2 4, nn, .inr (.inr (.inr (.inr (kRn nn ro)))))), (zp, .inl (G.2 3, np, .inr (.inr (.inr (.inr (kRn np rp))))))] ++ va_pl L f) sz)) 49 343 (va_A ([(zs, .inr (5, [.int (nI mi), .ref za, .ref zw, .ref zq, .ref zp])), (za, .inl (G.2 0, nn, .inl (kI ar))), (zq, .inl (G.2 4, nn, .inr (.inr (.inr (.inr (kRn nn ro)))))), (zp, .inl (G.2 3, np, .inr (.inr (.inr (.inr (kRn np rp))))))] ++ va_pl L f) sz) := by
  refine Met.ofW (cc := cX5_pairs) (maxL := 5) (ret := (some .int)) (by decide) rfl ?_
  intro p e s m args below meth c s₁ B hml hv
  obtain ⟨rfl, hsz, hP, hK, hD0⟩ := hv
  have hx := B.exec
  have hb := B.bytes
  have hr := B.returns
  have hts := atoms_spec (ws := wsX5_pairs) B.pre
  have hown : s.vm.findClass RX5 = some m.cls := findClass_of_methodNamed B.named
  have hlocks := B.notSynchronized
  have hK : va_K G.1 vwCl (kT G) s := hK
  subst hsz
  have hD := hD0.self (sz := s.heap.size)
  generalize hAe : va_A ([(zs, .inr (5, [.int (nI mi), .ref za, .ref zw, .ref zq, .ref zp])), (za, .inl (G.2 0, nn, .inl (kI ar))), (zq, .inl (G.2 4, nn, .inr (.inr (.inr (.inr (kRn nn ro)))))), (zp, .inl (G.2 3, np, .inr (.inr (.inr (.inr (kRn np rp))))))] ++ va_pl L f) s.heap.size = A at hD ⊢
  have hA : ∀ q : Nat, s.heap.size ≤ q → A q := fun q h => by rw [← hAe]; exact Or.inr h
  have hS : va_S A s.heap s.heap [] := va_S.rf
  have hP : va_P G.1 vwCl ([(zs, .inr (5, [.int (nI mi), .ref za, .ref zw, .ref zq, .ref zp])), (za, .inl (G.2 0, nn, .inl (kI ar))), (zq, .inl (G.2 4, nn, .inr (.inr (.inr (.inr (kRn nn ro)))))), (zp, .inl (G.2 3, np, .inr (.inr (.inr (.inr (kRn np rp))))))] ++ va_pl L f) s.heap := hP
  have hl := lv_entry ([.ref zs, .int (nI 0)]) (n := 5) (Nat.le_of_ble_eq_true rfl)
  rw [lg_entry_eq]
  generalize (lg_sl ([.ref zs, .int (nI 0)]) ++ List.replicate (5 - (lg_sl ([.ref zs, .int (nI 0)])).length) Slot.unset).toArray = ls at hl ⊢
  have hl : lv_has ls 5 [(0, .ref zs), (1, .int (nI 0))] := hl
  refine lv_iconst (v := (nI 0)) hx hb dX5_pairs_0 (by decide) ?_
  refine lv_istore_n (lv' := [(2, .int (nI 0)), (0, .ref zs), (1, .int (nI 0))]) hx hb dX5_pairs_1 rfl hl (by decide) rfl (fun ls hl => ?_)
  refine lv_iconst (v := (nI 0)) hx hb dX5_pairs_2 (by decide) ?_
  refine lv_istore_n (lv' := [(3, .int (nI 0)), (2, .int (nI 0)), (0, .ref zs), (1, .int (nI 0))]) hx hb dX5_pairs_3 rfl hl (by decide) rfl (fun ls hl => ?_)
  have hc_4 : ∀ (n : Nat) (a k : Nat), nn - a < n → a ≤ nn → k = mSum (fun a => mCnt (fun b => a != b && decide (zFar (zStT ln op) fs sn np nn b a < 99999999)) nn) a → ∀ (H : Heap) (locs : List Loc), va_P G.1 vwCl ([(zs, .inr (5, [.int (nI mi), .ref za, .ref zw, .ref zq, .ref zp])), (za, .inl (G.2 0, nn, .inl (kI ar))), (zq, .inl (G.2 4, nn, .inr (.inr (.inr (.inr (kRn nn ro)))))), (zp, .inl (G.2 3, np, .inr (.inr (.inr (.inr (kRn np rp))))))] ++ va_pl L f) H → va_D A ([(zs, .inr (5, [.int (nI mi), .ref za, .ref zw, .ref zq, .ref zp])), (za, .inl (G.2 0, nn, .inl (kI ar))), (zq, .inl (G.2 4, nn, .inr (.inr (.inr (.inr (kRn nn ro)))))), (zp, .inl (G.2 3, np, .inr (.inr (.inr (.inr (kRn np rp))))))] ++ va_pl L f) → va_S A s.heap H locs → ∀ (ls : Array Slot), lv_has ls 5 [(3, .int (nI a)), (2, .int (nI k)), (0, .ref zs), (1, .int (nI 0))] → W p l e (headSpec wsX5_pairs ({ frames := 2, cells := 49, slots := 343, locals := 50 })).room s m [.ref zs, .int (nI 0)].toArray below meth c H locs (7 * a) (49 * a) (MQ below (va_Qi (fun (r : Int32) (u : Unit) => r = (nI (mSum (fun a => mCnt (fun b => a != b && decide (zFar (zStT ln op) fs sn np nn b a < 99999999)) nn) nn))) (fun (u : Unit) t => kA G A ([(zs, .inr (5, [.int (nI mi), .ref za, .ref zw, .ref zq, .ref zp])), (za, .inl (G.2 0, nn, .inl (kI ar))), (zq, .inl (G.2 4, nn, .inr (.inr (.inr (.inr (kRn nn ro)))))), (zp, .inl (G.2 3, np, .inr (.inr (.inr (.inr (kRn np rp))))))] ++ va_pl L f) t) A) [.ref zs, .int (nI 0)].toArray s 49 343 A) (F0 m 4 ls []) := by
    intro n
    induction n with
    | zero =>
      intro a k hmz; exact absurd hmz (Nat.not_lt_zero _)
    | succ n ih4 =>
      intro a k hmz ha hk H locs hP hD hS ls hl
      refine lv_iload_n hx hb dX5_pairs_4 rfl (lv_at hl 0 rfl) ?_
      refine lv_aload_n hx hb dX5_pairs_5 rfl (lv_at hl 2 rfl) ?_
      refine va_get (D := G.1) (ci := 5) (v := .ref za) (C := RX5) (T := TX5) (N := 5) hx hb hts kX5_pairs_1 hown hK hP 0 rfl rfl 1 (by decide) (hts _ kX5_pairs_0) (fun _ h9 => h9) rfl dX5_pairs_6 ?_
      refine va_alen (v := nI nn) hx hb hK hP 1 0 rfl rfl rfl dX5_pairs_9 ?_
      refine kb_ge (tgt := 83) hx hb dX5_pairs_10 (by decide) (by omega) (by omega) (fun c_1 => ?_) (fun c_1 => ?_)
      · refine lv_iload_n hx hb dX5_pairs_83 rfl (lv_at hl 1 rfl) ?_
        have hP9 : va_P G.1 vwCl ([(zs, .inr (5, [.int (nI mi), .ref za, .ref zw, .ref zq, .ref zp])), (za, .inl (G.2 0, nn, .inl (kI ar))), (zq, .inl (G.2 4, nn, .inr (.inr (.inr (.inr (kRn nn ro)))))), (zp, .inl (G.2 3, np, .inr (.inr (.inr (.inr (kRn np rp))))))] ++ va_pl L f) _ := hP.part (cx := [(zs, .inr (5, [.int (nI mi), .ref za, .ref zw, .ref zq, .ref zp])), (za, .inl (G.2 0, nn, .inl (kI ar))), (zq, .inl (G.2 4, nn, .inr (.inr (.inr (.inr (kRn nn ro)))))), (zp, .inl (G.2 3, np, .inr (.inr (.inr (.inr (kRn np rp))))))]) [0, 1, 2, 3] rfl
        have hD9 : va_D A ([(zs, .inr (5, [.int (nI mi), .ref za, .ref zw, .ref zq, .ref zp])), (za, .inl (G.2 0, nn, .inl (kI ar))), (zq, .inl (G.2 4, nn, .inr (.inr (.inr (.inr (kRn nn ro)))))), (zp, .inl (G.2 3, np, .inr (.inr (.inr (.inr (kRn np rp))))))] ++ va_pl L f) := hD.part (cx := [(zs, .inr (5, [.int (nI mi), .ref za, .ref zw, .ref zq, .ref zp])), (za, .inl (G.2 0, nn, .inl (kI ar))), (zq, .inl (G.2 4, nn, .inr (.inr (.inr (.inr (kRn nn ro)))))), (zp, .inl (G.2 3, np, .inr (.inr (.inr (.inr (kRn np rp))))))]) [0, 1, 2, 3] (by decide) rfl
        refine W.widen (k := 49) (n := 343) (by omega) (by omega) ?_
        exact km_iret (v := (nI k)) (post := fun (r : Int32) (u : Unit) => r = (nI (mSum (fun a => mCnt (fun b => a != b && decide (zFar (zStT ln op) fs sn np nn b a < 99999999)) nn) nn))) (wo := fun (u : Unit) => ([(zs, .inr (5, [.int (nI mi), .ref za, .ref zw, .ref zq, .ref zp])), (za, .inl (G.2 0, nn, .inl (kI ar))), (zq, .inl (G.2 4, nn, .inr (.inr (.inr (.inr (kRn nn ro)))))), (zp, .inl (G.2 3, np, .inr (.inr (.inr (.inr (kRn np rp))))))] ++ va_pl L f)) () hx hb hr hlocks hS hP9 hD9 (by rw [hk, show a = nn by omega]) dX5_pairs_84
      · refine lv_iconst (v := (nI 0)) hx hb dX5_pairs_13 (by decide) ?_
        refine lv_istore (lv' := [(4, .int (nI 0)), (3, .int (nI a)), (2, .int (nI k)), (0, .ref zs), (1, .int (nI 0))]) hx hb dX5_pairs_14 hl (by decide) rfl (fun ls hl => ?_)
        have hc_16 : ∀ (n : Nat) (b k : Nat), nn - b < n → b ≤ nn → k = mSum (fun a => mCnt (fun b => a != b && decide (zFar (zStT ln op) fs sn np nn b a < 99999999)) nn) a + mCnt (fun b => a != b && decide (zFar (zStT ln op) fs sn np nn b a < 99999999)) b → ∀ (H : Heap) (locs : List Loc), va_P G.1 vwCl ([(zs, .inr (5, [.int (nI mi), .ref za, .ref zw, .ref zq, .ref zp])), (za, .inl (G.2 0, nn, .inl (kI ar))), (zq, .inl (G.2 4, nn, .inr (.inr (.inr (.inr (kRn nn ro)))))), (zp, .inl (G.2 3, np, .inr (.inr (.inr (.inr (kRn np rp))))))] ++ va_pl L f) H → va_D A ([(zs, .inr (5, [.int (nI mi), .ref za, .ref zw, .ref zq, .ref zp])), (za, .inl (G.2 0, nn, .inl (kI ar))), (zq, .inl (G.2 4, nn, .inr (.inr (.inr (.inr (kRn nn ro)))))), (zp, .inl (G.2 3, np, .inr (.inr (.inr (.inr (kRn np rp))))))] ++ va_pl L f) → va_S A s.heap H locs → ∀ (ls : Array Slot), lv_has ls 5 [(4, .int (nI b)), (3, .int (nI a)), (2, .int (nI k)), (0, .ref zs), (1, .int (nI 0))] → W p l e (headSpec wsX5_pairs ({ frames := 2, cells := 49, slots := 343, locals := 50 })).room s m [.ref zs, .int (nI 0)].toArray below meth c H locs (7 * a + b) (49 * a + 7 * b) (MQ below (va_Qi (fun (r : Int32) (u : Unit) => r = (nI (mSum (fun a => mCnt (fun b => a != b && decide (zFar (zStT ln op) fs sn np nn b a < 99999999)) nn) nn))) (fun (u : Unit) t => kA G A ([(zs, .inr (5, [.int (nI mi), .ref za, .ref zw, .ref zq, .ref zp])), (za, .inl (G.2 0, nn, .inl (kI ar))), (zq, .inl (G.2 4, nn, .inr (.inr (.inr (.inr (kRn nn ro)))))), (zp, .inl (G.2 3, np, .inr (.inr (.inr (.inr (kRn np rp))))))] ++ va_pl L f) t) A) [.ref zs, .int (nI 0)].toArray s 49 343 A) (F0 m 16 ls []) := by
          intro n
          induction n with
          | zero =>
            intro b k hmz; exact absurd hmz (Nat.not_lt_zero _)
          | succ n ih16 =>
            intro b k hmz hb2 hk H locs hP hD hS ls hl
            refine lv_iload hx hb dX5_pairs_16 (lv_at hl 0 rfl) ?_
            refine lv_aload_n hx hb dX5_pairs_18 rfl (lv_at hl 3 rfl) ?_
            refine va_get (D := G.1) (ci := 5) (v := .ref za) (C := RX5) (T := TX5) (N := 5) hx hb hts kX5_pairs_1 hown hK hP 0 rfl rfl 1 (by decide) (hts _ kX5_pairs_0) (fun _ h9 => h9) rfl dX5_pairs_19 ?_
            refine va_alen (v := nI nn) hx hb hK hP 1 0 rfl rfl rfl dX5_pairs_22 ?_
            refine kb_ge (tgt := 77) hx hb dX5_pairs_23 (by decide) (by omega) (by omega) (fun c_2 => ?_) (fun c_2 => ?_)
            · refine lv_iinc (k := 1) (v := (nI (a + 1))) (lv' := [(3, .int (nI (a + 1))), (4, .int (nI b)), (2, .int (nI k)), (0, .ref zs), (1, .int (nI 0))]) hx hb dX5_pairs_77 hl rfl (kn_inc a) (by decide) rfl (fun ls hl => ?_)
              refine lv_goto (tgt := 4) hx hb dX5_pairs_80 (by decide) ?_
              refine W.widen (k := 7 * (a + 1)) (n := 49 * (a + 1)) (by omega) (by omega) ?_
              exact ih4 (a + 1) k (by omega) (by omega) (by rw [mSum_succ, hk, show b = nn by omega]) _ _ hP hD hS _ (lv_sub hl [0, 2, 3, 4] rfl)
            · refine lv_iload_n hx hb dX5_pairs_26 rfl (lv_at hl 2 rfl) ?_
              refine lv_iload_n hx hb dX5_pairs_27 rfl (lv_at hl 1 rfl) ?_
              refine lv_iload hx hb dX5_pairs_28 (lv_at hl 0 rfl) ?_
              refine kb_eq (tgt := 68) hx hb dX5_pairs_30 (by decide) (by omega) (by omega) (fun c_3 => ?_) (fun c_3 => ?_)
              · have hab : (a != b) = false := by simp [c_3]
                refine lv_iconst (v := (nI 0)) hx hb dX5_pairs_68 (by decide) ?_
                refine lv_iadd hx hb dX5_pairs_69 ?_
                refine kr_top (y := nI (k + 0)) (nI_add k 0) ?_
                refine lv_istore_n (lv' := [(2, .int (nI (k + 0))), (4, .int (nI b)), (3, .int (nI a)), (0, .ref zs), (1, .int (nI 0))]) hx hb dX5_pairs_70 rfl hl (by decide) rfl (fun ls hl => ?_)
                refine lv_iinc (k := 1) (v := (nI (b + 1))) (lv' := [(4, .int (nI (b + 1))), (2, .int (nI (k + 0))), (3, .int (nI a)), (0, .ref zs), (1, .int (nI 0))]) hx hb dX5_pairs_71 hl rfl (kn_inc b) (by decide) rfl (fun ls hl => ?_)
                refine lv_goto (tgt := 16) hx hb dX5_pairs_74 (by decide) ?_
                refine W.widen (k := 7 * a + (b + 1)) (n := 49 * a + 7 * (b + 1)) (by omega) (by omega) ?_
                exact ih16 (b + 1) (k + 0) (by omega) (by omega) (by rw [mCnt_f (by rw [hab]; rfl), ← hk, Nat.add_zero]) _ _ hP hD hS _ (lv_sub hl [0, 2, 1, 3, 4] rfl)
              · have hab : (a != b) = true := bne_iff_ne.mpr c_3
                refine lv_iload_n hx hb dX5_pairs_33 rfl (lv_at hl 4 rfl) ?_
                refine kb_eq0 (tgt := 50) hx hb dX5_pairs_34 (by decide) (by decide) (fun c_4 => ?_) (fun c_4 => ?_)
                · refine lv_aload_n hx hb dX5_pairs_50 rfl (lv_at hl 3 rfl) ?_
                  refine lv_iconst (v := (-1)) hx hb dX5_pairs_51 (by decide) ?_
                  refine lv_iload hx hb dX5_pairs_52 (lv_at hl 0 rfl) ?_
                  have hPc : va_P G.1 vwCl ([(zs, .inr (5, [.int (nI mi), .ref za, .ref zw, .ref zq, .ref zp])), (za, .inl (G.2 0, nn, .inl (kI ar))), (zq, .inl (G.2 4, nn, .inr (.inr (.inr (.inr (kRn nn ro)))))), (zp, .inl (G.2 3, np, .inr (.inr (.inr (.inr (kRn np rp))))))] ++ va_pl L f) _ := hP.part (cx := [(zs, .inr (5, [.int (nI mi), .ref za, .ref zw, .ref zq, .ref zp])), (za, .inl (G.2 0, nn, .inl (kI ar))), (zq, .inl (G.2 4, nn, .inr (.inr (.inr (.inr (kRn nn ro)))))), (zp, .inl (G.2 3, np, .inr (.inr (.inr (.inr (kRn np rp))))))]) [0, 1, 2, 3] rfl
                  have hDc : va_D A ([(zs, .inr (5, [.int (nI mi), .ref za, .ref zw, .ref zq, .ref zp])), (za, .inl (G.2 0, nn, .inl (kI ar))), (zq, .inl (G.2 4, nn, .inr (.inr (.inr (.inr (kRn nn ro)))))), (zp, .inl (G.2 3, np, .inr (.inr (.inr (.inr (kRn np rp))))))] ++ va_pl L f) := hD.part (cx := [(zs, .inr (5, [.int (nI mi), .ref za, .ref zw, .ref zq, .ref zp])), (za, .inl (G.2 0, nn, .inl (kI ar))), (zq, .inl (G.2 4, nn, .inr (.inr (.inr (.inr (kRn nn ro)))))), (zp, .inl (G.2 3, np, .inr (.inr (.inr (.inr (kRn np rp))))))]) [0, 1, 2, 3] (by decide) rfl
                  have hFc : ∀ zq9 : Nat, va_A ([(zs, .inr (5, [.int (nI mi), .ref za, .ref zw, .ref zq, .ref zp])), (za, .inl (G.2 0, nn, .inl (kI ar))), (zq, .inl (G.2 4, nn, .inr (.inr (.inr (.inr (kRn nn ro)))))), (zp, .inl (G.2 3, np, .inr (.inr (.inr (.inr (kRn np rp))))))] ++ va_pl L f) _ zq9 → A zq9 := va_freeP (cx := [(zs, .inr (5, [.int (nI mi), .ref za, .ref zw, .ref zq, .ref zp])), (za, .inl (G.2 0, nn, .inl (kI ar))), (zq, .inl (G.2 4, nn, .inr (.inr (.inr (.inr (kRn nn ro)))))), (zp, .inl (G.2 3, np, .inr (.inr (.inr (.inr (kRn np rp))))))]) hD hS hA [0, 1, 2, 3] rfl
                  refine va_callr (va_runV (As := [.int (-1), .int (nI b)]) (rest := [.int (nI k)]) ⟨hx, hb, hml, hown, hts⟩ (c_X5_far_t l G _ zs za zw zq zp nn np mi L f ro rr rp fs sn ln op SS ar ww b hrw hrr hrp (by omega) (by omega) hfs hsn hln hen (by omega) (by omega)) (cwV 2 hts gX5_pairs_X5_far rfl rfl rfl (by decide +kernel) ⟨Nat.le_of_ble_eq_true rfl, Nat.le_of_ble_eq_true rfl⟩) (kPreM_V (ws := ([(zs, .inr (5, [.int (nI mi), .ref za, .ref zw, .ref zq, .ref zp])), (za, .inl (G.2 0, nn, .inl (kI ar))), (zq, .inl (G.2 4, nn, .inr (.inr (.inr (.inr (kRn nn ro)))))), (zp, .inl (G.2 3, np, .inr (.inr (.inr (.inr (kRn np rp))))))] ++ va_pl L f)) hK hPc hDc (RX5, TX5, 5) 0 rfl rfl) rfl rfl hl.1 rfl (lv_room (Nat.le_of_ble_eq_true rfl)) dX5_pairs_54 ⟨(show 7 * a + b + 1 ≤ 49 from by omega), (show 49 * a + 7 * b + 7 ≤ 343 from by omega)⟩) hS (fun q _ h => hFc q h) hFc (fun u r_5 t H1 locs ht hvm hw hB hz1 hk1 hS => ?_)
                  obtain ⟨hP1, hD1⟩ := hB
                  rw [ht] at hP1
                  try dsimp only at hw hP1 hD1
                  obtain ⟨hP, hD⟩ := va_joinP (cx := [(zs, .inr (5, [.int (nI mi), .ref za, .ref zw, .ref zq, .ref zp])), (za, .inl (G.2 0, nn, .inl (kI ar))), (zq, .inl (G.2 4, nn, .inr (.inr (.inr (.inr (kRn nn ro)))))), (zp, .inl (G.2 3, np, .inr (.inr (.inr (.inr (kRn np rp))))))]) (wr := []) (rx := [(zs, .inr (5, [.int (nI mi), .ref za, .ref zw, .ref zq, .ref zp])), (za, .inl (G.2 0, nn, .inl (kI ar))), (zq, .inl (G.2 4, nn, .inr (.inr (.inr (.inr (kRn nn ro)))))), (zp, .inl (G.2 3, np, .inr (.inr (.inr (.inr (kRn np rp)))))), (r_5, .inl (G.2 0, nn, .inl (kI (zFar (zStT ln op) fs sn np nn b))))]) hP hD [0, 1, 2, 3] [] rfl rfl (by decide) (by decide) hk1 hFc hP1 hD1
                  clear hPc hDc hFc hP1 hD1 hk1 hz1 ht
                  skip
                  generalize H1 = H at hP hS ⊢
                  have hP : va_P G.1 vwCl ([(zs, .inr (5, [.int (nI mi), .ref za, .ref zw, .ref zq, .ref zp])), (za, .inl (G.2 0, nn, .inl (kI ar))), (zq, .inl (G.2 4, nn, .inr (.inr (.inr (.inr (kRn nn ro)))))), (zp, .inl (G.2 3, np, .inr (.inr (.inr (.inr (kRn np rp)))))), (r_5, .inl (G.2 0, nn, .inl (kI (zFar (zStT ln op) fs sn np nn b))))] ++ va_pl L f) H := hP
                  have hD : va_D A ([(zs, .inr (5, [.int (nI mi), .ref za, .ref zw, .ref zq, .ref zp])), (za, .inl (G.2 0, nn, .inl (kI ar))), (zq, .inl (G.2 4, nn, .inr (.inr (.inr (.inr (kRn nn ro)))))), (zp, .inl (G.2 3, np, .inr (.inr (.inr (.inr (kRn np rp)))))), (r_5, .inl (G.2 0, nn, .inl (kI (zFar (zStT ln op) fs sn np nn b))))] ++ va_pl L f) := hD
                  refine W.widen (k := 7 * a + b + 1) (n := 49 * a + 7 * b + 7) (Nat.le_refl _) (Nat.le_refl _) ?_
                  have hw_6 := hw
                  have hfl := zFar_le (st := zStT ln op) (fs := fs) (sn := sn) (np := np) (to := b) (show a < nn by omega)
                  refine lv_iload_n hx hb dX5_pairs_57 rfl (lv_at hl 1 rfl) ?_
                  refine kr_iald (k := a) (v := (nI ((zFar (zStT ln op) fs sn np nn b) a))) hx hb hK hP 4 0 rfl rfl (by omega) (by omega) rfl dX5_pairs_58 ?_
                  refine lv_ldc (v := (99999999)) hx hb hown (hts _ kX5_pairs_2) dX5_pairs_59 ?_
                  refine kr_top (show ((99999999) : Int32) = nI 99999999 from by decide) ?_
                  refine kb_ge (tgt := 68) hx hb dX5_pairs_61 (by decide) (by omega) (by decide) (fun c_7 => ?_) (fun c_7 => ?_)
                  · have hd9 : decide (zFar (zStT ln op) fs sn np nn b a < 99999999) = false := decide_eq_false (by omega)
                    refine lv_iconst (v := (nI 0)) hx hb dX5_pairs_68 (by decide) ?_
                    refine lv_iadd hx hb dX5_pairs_69 ?_
                    refine kr_top (y := nI (k + 0)) (nI_add k 0) ?_
                    refine lv_istore_n (lv' := [(2, .int (nI (k + 0))), (4, .int (nI b)), (3, .int (nI a)), (0, .ref zs), (1, .int (nI 0))]) hx hb dX5_pairs_70 rfl hl (by decide) rfl (fun ls hl => ?_)
                    refine lv_iinc (k := 1) (v := (nI (b + 1))) (lv' := [(4, .int (nI (b + 1))), (2, .int (nI (k + 0))), (3, .int (nI a)), (0, .ref zs), (1, .int (nI 0))]) hx hb dX5_pairs_71 hl rfl (kn_inc b) (by decide) rfl (fun ls hl => ?_)
                    refine lv_goto (tgt := 16) hx hb dX5_pairs_74 (by decide) ?_
                    refine W.widen (k := 7 * a + (b + 1)) (n := 49 * a + 7 * (b + 1)) (by omega) (by omega) ?_
                    have hP : va_P G.1 vwCl ([(zs, .inr (5, [.int (nI mi), .ref za, .ref zw, .ref zq, .ref zp])), (za, .inl (G.2 0, nn, .inl (kI ar))), (zq, .inl (G.2 4, nn, .inr (.inr (.inr (.inr (kRn nn ro)))))), (zp, .inl (G.2 3, np, .inr (.inr (.inr (.inr (kRn np rp))))))] ++ va_pl L f) _ := hP.part (cx := [(zs, .inr (5, [.int (nI mi), .ref za, .ref zw, .ref zq, .ref zp])), (za, .inl (G.2 0, nn, .inl (kI ar))), (zq, .inl (G.2 4, nn, .inr (.inr (.inr (.inr (kRn nn ro)))))), (zp, .inl (G.2 3, np, .inr (.inr (.inr (.inr (kRn np rp))))))]) [0, 1, 2, 3] rfl
                    have hD : va_D A ([(zs, .inr (5, [.int (nI mi), .ref za, .ref zw, .ref zq, .ref zp])), (za, .inl (G.2 0, nn, .inl (kI ar))), (zq, .inl (G.2 4, nn, .inr (.inr (.inr (.inr (kRn nn ro)))))), (zp, .inl (G.2 3, np, .inr (.inr (.inr (.inr (kRn np rp))))))] ++ va_pl L f) := hD.part (cx := [(zs, .inr (5, [.int (nI mi), .ref za, .ref zw, .ref zq, .ref zp])), (za, .inl (G.2 0, nn, .inl (kI ar))), (zq, .inl (G.2 4, nn, .inr (.inr (.inr (.inr (kRn nn ro)))))), (zp, .inl (G.2 3, np, .inr (.inr (.inr (.inr (kRn np rp))))))]) [0, 1, 2, 3] (by decide) rfl
                    exact ih16 (b + 1) (k + 0) (by omega) (by omega) (by rw [mCnt_f (by rw [hab, hd9]; rfl), ← hk, Nat.add_zero]) _ _ hP hD hS _ (lv_sub hl [0, 2, 1, 3, 4] rfl)
                  · have hd9 : decide (zFar (zStT ln op) fs sn np nn b a < 99999999) = true := decide_eq_true (by omega)
                    refine lv_iconst (v := (nI 1)) hx hb dX5_pairs_64 (by decide) ?_
                    refine lv_goto (tgt := 69) hx hb dX5_pairs_65 (by decide) ?_
                    refine lv_iadd hx hb dX5_pairs_69 ?_
                    refine kr_top (y := nI (k + 1)) (nI_add k 1) ?_
                    refine lv_istore_n (lv' := [(2, .int (nI (k + 1))), (4, .int (nI b)), (3, .int (nI a)), (0, .ref zs), (1, .int (nI 0))]) hx hb dX5_pairs_70 rfl hl (by decide) rfl (fun ls hl => ?_)
                    refine lv_iinc (k := 1) (v := (nI (b + 1))) (lv' := [(4, .int (nI (b + 1))), (2, .int (nI (k + 1))), (3, .int (nI a)), (0, .ref zs), (1, .int (nI 0))]) hx hb dX5_pairs_71 hl rfl (kn_inc b) (by decide) rfl (fun ls hl => ?_)
                    refine lv_goto (tgt := 16) hx hb dX5_pairs_74 (by decide) ?_
                    refine W.widen (k := 7 * a + (b + 1)) (n := 49 * a + 7 * (b + 1)) (by omega) (by omega) ?_
                    have hP : va_P G.1 vwCl ([(zs, .inr (5, [.int (nI mi), .ref za, .ref zw, .ref zq, .ref zp])), (za, .inl (G.2 0, nn, .inl (kI ar))), (zq, .inl (G.2 4, nn, .inr (.inr (.inr (.inr (kRn nn ro)))))), (zp, .inl (G.2 3, np, .inr (.inr (.inr (.inr (kRn np rp))))))] ++ va_pl L f) _ := hP.part (cx := [(zs, .inr (5, [.int (nI mi), .ref za, .ref zw, .ref zq, .ref zp])), (za, .inl (G.2 0, nn, .inl (kI ar))), (zq, .inl (G.2 4, nn, .inr (.inr (.inr (.inr (kRn nn ro)))))), (zp, .inl (G.2 3, np, .inr (.inr (.inr (.inr (kRn np rp))))))]) [0, 1, 2, 3] rfl
                    have hD : va_D A ([(zs, .inr (5, [.int (nI mi), .ref za, .ref zw, .ref zq, .ref zp])), (za, .inl (G.2 0, nn, .inl (kI ar))), (zq, .inl (G.2 4, nn, .inr (.inr (.inr (.inr (kRn nn ro)))))), (zp, .inl (G.2 3, np, .inr (.inr (.inr (.inr (kRn np rp))))))] ++ va_pl L f) := hD.part (cx := [(zs, .inr (5, [.int (nI mi), .ref za, .ref zw, .ref zq, .ref zp])), (za, .inl (G.2 0, nn, .inl (kI ar))), (zq, .inl (G.2 4, nn, .inr (.inr (.inr (.inr (kRn nn ro)))))), (zp, .inl (G.2 3, np, .inr (.inr (.inr (.inr (kRn np rp))))))]) [0, 1, 2, 3] (by decide) rfl
                    exact ih16 (b + 1) (k + 1) (by omega) (by omega) (by rw [mCnt_t (by rw [hab, hd9]; rfl), ← Nat.add_assoc, ← hk]) _ _ hP hD hS _ (lv_sub hl [0, 2, 1, 3, 4] rfl)
                · exfalso; omega
        refine W.widen (k := 7 * a + 0) (n := 49 * a + 7 * 0) (by omega) (by omega) ?_
        exact hc_16 (_ + 1) 0 k (Nat.lt_succ_self _) (by omega) (by exact hk) _ _ hP hD hS _ (lv_sub hl [0, 1, 2, 3, 4] rfl)
  refine W.widen (k := 7 * 0) (n := 49 * 0) (by omega) (by omega) ?_
  exact hc_4 (_ + 1) 0 0 (Nat.lt_succ_self _) (by omega) (by rfl) _ _ hP hD hS _ (lv_sub hl [0, 1, 2, 3] rfl)
