theorem kX4_about_0_0 : Cond.fieldLink RX4 10 "PassNotes" "land" "LPassNotes$Land;" ∈ wsX4_about := by decide +kernel
theorem kX4_about_0_1 : ∀ w ∈ wsX40, w ∈ wsX4_about := by decide +kernel
set_option maxHeartbeats 4000000 in
set_option maxRecDepth 100000 in
theorem c_X4_about_0 (l : Launch) (G : kG) (hM hO hT b9 : Nat) (hN hL hC b0 b1 b2 b3 b4 mi : Nat) (a0 a1 a2 a3 a4 nh np : Nat) (L : List Nat) (f : Nat → va_E) (sv : Nat → mS) (fs sn ln : Nat → Nat) (op : Nat → Bool) (hd : Nat → Option Nat) (q : Nat) (hfs : ∀ j, fs j < 10) (hsn : ∀ j, sn j < 10) (hhd : kHeld G L f sv hd) (hqn : q < np) (hnh : nh ≤ 10) (hnp : np ≤ 20) : Met l yX4_about wsX4_about ({ frames := 3, cells := 0, slots := 0, locals := 68 }) (kPre G ([(hM, .inr (4, [.ref hL, .ref hN, .ref hO, .ref hT, .ref b9])), (hL, .inr (1, [.ref a0, .ref a1, .ref a2, .ref a3, .ref a4, .int (nI nh), .int (nI np)])), (a1, .inl (G.2 0, 20, .inl (kI fs))), (a2, .inl (G.2 0, 20, .inl (kI sn))), (a3, .inl (G.2 0, 20, .inl (kI ln))), (a4, .inl (G.2 1, 20, .inl (kB op))), (hN, .inr (2, [.ref hL, .ref hC, .ref b0, .ref b1, .ref b2, .ref b3, .ref b4, .int (nI mi)])), (b3, .inl (G.2 2, 100, .inr (.inr (.inr (.inr hd)))))] ++ va_pl L f) [.ref hM, .int (nI q), .int (nI 0)]) (vp_Si (fun r : Int32 => r = (mAbout fs sn ln op (fun p => mCnt (fun h => mTOpen sv hd fs sn h p) nh) q 0))) 0 0 (fun _ => False) := by
  refine Met.ofW (cc := cX4_about) (maxL := 3) (ret := (some .int)) (by decide) rfl ?_
  intro p e s m args below meth c s₁ B hml hv
  obtain ⟨rfl, hP, hK⟩ := hv
  have hx := B.exec
  have hb := B.bytes
  have hr := B.returns
  have hts := atoms_spec (ws := wsX4_about) B.pre
  have hown : s.vm.findClass RX4 = some m.cls := findClass_of_methodNamed B.named
  have hlocks := B.notSynchronized
  have hK : va_K G.1 vwCl (kT G) s := hK
  have hP : va_P G.1 vwCl ([(hM, .inr (4, [.ref hL, .ref hN, .ref hO, .ref hT, .ref b9])), (hL, .inr (1, [.ref a0, .ref a1, .ref a2, .ref a3, .ref a4, .int (nI nh), .int (nI np)])), (a1, .inl (G.2 0, 20, .inl (kI fs))), (a2, .inl (G.2 0, 20, .inl (kI sn))), (a3, .inl (G.2 0, 20, .inl (kI ln))), (a4, .inl (G.2 1, 20, .inl (kB op))), (hN, .inr (2, [.ref hL, .ref hC, .ref b0, .ref b1, .ref b2, .ref b3, .ref b4, .int (nI mi)])), (b3, .inl (G.2 2, 100, .inr (.inr (.inr (.inr hd)))))] ++ va_pl L f) s.heap := hP
  have hl := lv_entry ([.ref hM, .int (nI q), .int (nI 0)]) (n := 3) (Nat.le_of_ble_eq_true rfl)
  rw [lg_entry_eq]
  generalize (lg_sl ([.ref hM, .int (nI q), .int (nI 0)]) ++ List.replicate (3 - (lg_sl ([.ref hM, .int (nI q), .int (nI 0)])).length) Slot.unset).toArray = ls at hl ⊢
  have hl : lv_has ls 3 [(0, .ref hM), (1, .int (nI q)), (2, .int (nI 0))] := hl
  refine lv_aload_n hx hb dX4_about_0 rfl (lv_at hl 0 rfl) ?_
  refine lv_iload_n hx hb dX4_about_1 rfl (lv_at hl 1 rfl) ?_
  refine va_csv (W.runV (As := [.int (nI q)]) (rest := []) ⟨hx, hb, hml, hown, hts⟩ (c_X4_checkPass l G hM hN hO hT b9 hL a0 a1 a2 a3 a4 nh np q (by omega) (by omega)) (cwV 1 hts gX4_about_X4_checkPass rfl rfl rfl (by decide +kernel) ⟨Nat.le_of_ble_eq_true rfl, Nat.le_of_ble_eq_true rfl⟩) (kPre_V (ws := [(hM, .inr (4, [.ref hL, .ref hN, .ref hO, .ref hT, .ref b9])), (hL, .inr (1, [.ref a0, .ref a1, .ref a2, .ref a3, .ref a4, .int (nI nh), .int (nI np)]))]) hK (hP.sub (ws' := [(hM, .inr (4, [.ref hL, .ref hN, .ref hO, .ref hT, .ref b9])), (hL, .inr (1, [.ref a0, .ref a1, .ref a2, .ref a3, .ref a4, .int (nI nh), .int (nI np)]))]) [0, 1] rfl) (RX4, TX4, 5) 0 rfl rfl) rfl rfl hl.1 rfl (lv_room (Nat.le_of_ble_eq_true rfl)) dX4_about_2 ⟨Nat.le_of_ble_eq_true rfl, Nat.le_of_ble_eq_true rfl⟩) (fun _ => ?_)
  refine lv_iload_n hx hb dX4_about_5 rfl (lv_at hl 2 rfl) ?_
  refine lv_tableIn (off := 34) (tgt := 40) hx hb dX4_about_6 (by decide) (by decide) (by decide) (by decide) ?_
  refine lv_aload_n hx hb dX4_about_40 rfl (lv_at hl 0 rfl) ?_
  refine va_get (D := G.1) (ci := 4) (v := .ref hL) (C := RX4) (T := TX4) (N := 5) hx hb hts kX4_about_0_1 hown hK hP 0 rfl rfl 0 (by decide) (hts _ kX4_about_0_0) (fun _ h9 => h9) rfl dX4_about_41 ?_
  refine lv_iload_n hx hb dX4_about_44 rfl (lv_at hl 1 rfl) ?_
  refine vp_callSi (W.runV (As := [.int (nI q)]) (rest := []) ⟨hx, hb, hml, hown, hts⟩ (c_X1_first l G hL a0 a1 a2 a3 a4 nh np fs q (by omega)) (cwV 1 hts gX4_about_X1_first rfl rfl rfl (by decide +kernel) ⟨Nat.le_of_ble_eq_true rfl, Nat.le_of_ble_eq_true rfl⟩) (kPre_V (ws := [(hL, .inr (1, [.ref a0, .ref a1, .ref a2, .ref a3, .ref a4, .int (nI nh), .int (nI np)])), (a1, .inl (G.2 0, 20, .inl (kI fs)))]) hK (hP.sub (ws' := [(hL, .inr (1, [.ref a0, .ref a1, .ref a2, .ref a3, .ref a4, .int (nI nh), .int (nI np)])), (a1, .inl (G.2 0, 20, .inl (kI fs)))]) [1, 2] rfl) (RX1, TX1, 7) 0 rfl rfl) rfl rfl hl.1 rfl (lv_room (Nat.le_of_ble_eq_true rfl)) dX4_about_45 ⟨Nat.le_of_ble_eq_true rfl, Nat.le_of_ble_eq_true rfl⟩) (fun r_1 hr_1 => ?_)
  subst hr_1
  exact kr_iret hx hb hr hlocks (by first | rfl | (show _ = bI _; rw [ho]; rfl)) dX4_about_48

theorem kX4_about_1_0 : Cond.fieldLink RX4 10 "PassNotes" "land" "LPassNotes$Land;" ∈ wsX4_about := by decide +kernel
theorem kX4_about_1_1 : ∀ w ∈ wsX40, w ∈ wsX4_about := by decide +kernel
set_option maxHeartbeats 4000000 in
set_option maxRecDepth 100000 in
theorem c_X4_about_1 (l : Launch) (G : kG) (hM hO hT b9 : Nat) (hN hL hC b0 b1 b2 b3 b4 mi : Nat) (a0 a1 a2 a3 a4 nh np : Nat) (L : List Nat) (f : Nat → va_E) (sv : Nat → mS) (fs sn ln : Nat → Nat) (op : Nat → Bool) (hd : Nat → Option Nat) (q : Nat) (hfs : ∀ j, fs j < 10) (hsn : ∀ j, sn j < 10) (hhd : kHeld G L f sv hd) (hqn : q < np) (hnh : nh ≤ 10) (hnp : np ≤ 20) : Met l yX4_about wsX4_about ({ frames := 3, cells := 0, slots := 0, locals := 68 }) (kPre G ([(hM, .inr (4, [.ref hL, .ref hN, .ref hO, .ref hT, .ref b9])), (hL, .inr (1, [.ref a0, .ref a1, .ref a2, .ref a3, .ref a4, .int (nI nh), .int (nI np)])), (a1, .inl (G.2 0, 20, .inl (kI fs))), (a2, .inl (G.2 0, 20, .inl (kI sn))), (a3, .inl (G.2 0, 20, .inl (kI ln))), (a4, .inl (G.2 1, 20, .inl (kB op))), (hN, .inr (2, [.ref hL, .ref hC, .ref b0, .ref b1, .ref b2, .ref b3, .ref b4, .int (nI mi)])), (b3, .inl (G.2 2, 100, .inr (.inr (.inr (.inr hd)))))] ++ va_pl L f) [.ref hM, .int (nI q), .int (nI 1)]) (vp_Si (fun r : Int32 => r = (mAbout fs sn ln op (fun p => mCnt (fun h => mTOpen sv hd fs sn h p) nh) q 1))) 0 0 (fun _ => False) := by
  refine Met.ofW (cc := cX4_about) (maxL := 3) (ret := (some .int)) (by decide) rfl ?_
  intro p e s m args below meth c s₁ B hml hv
  obtain ⟨rfl, hP, hK⟩ := hv
  have hx := B.exec
  have hb := B.bytes
  have hr := B.returns
  have hts := atoms_spec (ws := wsX4_about) B.pre
  have hown : s.vm.findClass RX4 = some m.cls := findClass_of_methodNamed B.named
  have hlocks := B.notSynchronized
  have hK : va_K G.1 vwCl (kT G) s := hK
  have hP : va_P G.1 vwCl ([(hM, .inr (4, [.ref hL, .ref hN, .ref hO, .ref hT, .ref b9])), (hL, .inr (1, [.ref a0, .ref a1, .ref a2, .ref a3, .ref a4, .int (nI nh), .int (nI np)])), (a1, .inl (G.2 0, 20, .inl (kI fs))), (a2, .inl (G.2 0, 20, .inl (kI sn))), (a3, .inl (G.2 0, 20, .inl (kI ln))), (a4, .inl (G.2 1, 20, .inl (kB op))), (hN, .inr (2, [.ref hL, .ref hC, .ref b0, .ref b1, .ref b2, .ref b3, .ref b4, .int (nI mi)])), (b3, .inl (G.2 2, 100, .inr (.inr (.inr (.inr hd)))))] ++ va_pl L f) s.heap := hP
  have hl := lv_entry ([.ref hM, .int (nI q), .int (nI 1)]) (n := 3) (Nat.le_of_ble_eq_true rfl)
  rw [lg_entry_eq]
  generalize (lg_sl ([.ref hM, .int (nI q), .int (nI 1)]) ++ List.replicate (3 - (lg_sl ([.ref hM, .int (nI q), .int (nI 1)])).length) Slot.unset).toArray = ls at hl ⊢
  have hl : lv_has ls 3 [(0, .ref hM), (1, .int (nI q)), (2, .int (nI 1))] := hl
  refine lv_aload_n hx hb dX4_about_0 rfl (lv_at hl 0 rfl) ?_
  refine lv_iload_n hx hb dX4_about_1 rfl (lv_at hl 1 rfl) ?_
  refine va_csv (W.runV (As := [.int (nI q)]) (rest := []) ⟨hx, hb, hml, hown, hts⟩ (c_X4_checkPass l G hM hN hO hT b9 hL a0 a1 a2 a3 a4 nh np q (by omega) (by omega)) (cwV 1 hts gX4_about_X4_checkPass rfl rfl rfl (by decide +kernel) ⟨Nat.le_of_ble_eq_true rfl, Nat.le_of_ble_eq_true rfl⟩) (kPre_V (ws := [(hM, .inr (4, [.ref hL, .ref hN, .ref hO, .ref hT, .ref b9])), (hL, .inr (1, [.ref a0, .ref a1, .ref a2, .ref a3, .ref a4, .int (nI nh), .int (nI np)]))]) hK (hP.sub (ws' := [(hM, .inr (4, [.ref hL, .ref hN, .ref hO, .ref hT, .ref b9])), (hL, .inr (1, [.ref a0, .ref a1, .ref a2, .ref a3, .ref a4, .int (nI nh), .int (nI np)]))]) [0, 1] rfl) (RX4, TX4, 5) 0 rfl rfl) rfl rfl hl.1 rfl (lv_room (Nat.le_of_ble_eq_true rfl)) dX4_about_2 ⟨Nat.le_of_ble_eq_true rfl, Nat.le_of_ble_eq_true rfl⟩) (fun _ => ?_)
  refine lv_iload_n hx hb dX4_about_5 rfl (lv_at hl 2 rfl) ?_
  refine lv_tableIn (off := 43) (tgt := 49) hx hb dX4_about_6 (by decide) (by decide) (by decide) (by decide) ?_
  refine lv_aload_n hx hb dX4_about_49 rfl (lv_at hl 0 rfl) ?_
  refine va_get (D := G.1) (ci := 4) (v := .ref hL) (C := RX4) (T := TX4) (N := 5) hx hb hts kX4_about_1_1 hown hK hP 0 rfl rfl 0 (by decide) (hts _ kX4_about_1_0) (fun _ h9 => h9) rfl dX4_about_50 ?_
  refine lv_iload_n hx hb dX4_about_53 rfl (lv_at hl 1 rfl) ?_
  refine vp_callSi (W.runV (As := [.int (nI q)]) (rest := []) ⟨hx, hb, hml, hown, hts⟩ (c_X1_second l G hL a0 a1 a2 a3 a4 nh np sn q (by omega)) (cwV 1 hts gX4_about_X1_second rfl rfl rfl (by decide +kernel) ⟨Nat.le_of_ble_eq_true rfl, Nat.le_of_ble_eq_true rfl⟩) (kPre_V (ws := [(hL, .inr (1, [.ref a0, .ref a1, .ref a2, .ref a3, .ref a4, .int (nI nh), .int (nI np)])), (a2, .inl (G.2 0, 20, .inl (kI sn)))]) hK (hP.sub (ws' := [(hL, .inr (1, [.ref a0, .ref a1, .ref a2, .ref a3, .ref a4, .int (nI nh), .int (nI np)])), (a2, .inl (G.2 0, 20, .inl (kI sn)))]) [1, 3] rfl) (RX1, TX1, 7) 0 rfl rfl) rfl rfl hl.1 rfl (lv_room (Nat.le_of_ble_eq_true rfl)) dX4_about_54 ⟨Nat.le_of_ble_eq_true rfl, Nat.le_of_ble_eq_true rfl⟩) (fun r_1 hr_1 => ?_)
  subst hr_1
  exact kr_iret hx hb hr hlocks (by first | rfl | (show _ = bI _; rw [ho]; rfl)) dX4_about_57

theorem kX4_about_2_0 : Cond.fieldLink RX4 10 "PassNotes" "land" "LPassNotes$Land;" ∈ wsX4_about := by decide +kernel
theorem kX4_about_2_1 : ∀ w ∈ wsX40, w ∈ wsX4_about := by decide +kernel
set_option maxHeartbeats 4000000 in
set_option maxRecDepth 100000 in
theorem c_X4_about_2 (l : Launch) (G : kG) (hM hO hT b9 : Nat) (hN hL hC b0 b1 b2 b3 b4 mi : Nat) (a0 a1 a2 a3 a4 nh np : Nat) (L : List Nat) (f : Nat → va_E) (sv : Nat → mS) (fs sn ln : Nat → Nat) (op : Nat → Bool) (hd : Nat → Option Nat) (q : Nat) (hfs : ∀ j, fs j < 10) (hsn : ∀ j, sn j < 10) (hhd : kHeld G L f sv hd) (hqn : q < np) (hnh : nh ≤ 10) (hnp : np ≤ 20) : Met l yX4_about wsX4_about ({ frames := 3, cells := 0, slots := 0, locals := 68 }) (kPre G ([(hM, .inr (4, [.ref hL, .ref hN, .ref hO, .ref hT, .ref b9])), (hL, .inr (1, [.ref a0, .ref a1, .ref a2, .ref a3, .ref a4, .int (nI nh), .int (nI np)])), (a1, .inl (G.2 0, 20, .inl (kI fs))), (a2, .inl (G.2 0, 20, .inl (kI sn))), (a3, .inl (G.2 0, 20, .inl (kI ln))), (a4, .inl (G.2 1, 20, .inl (kB op))), (hN, .inr (2, [.ref hL, .ref hC, .ref b0, .ref b1, .ref b2, .ref b3, .ref b4, .int (nI mi)])), (b3, .inl (G.2 2, 100, .inr (.inr (.inr (.inr hd)))))] ++ va_pl L f) [.ref hM, .int (nI q), .int (nI 2)]) (vp_Si (fun r : Int32 => r = (mAbout fs sn ln op (fun p => mCnt (fun h => mTOpen sv hd fs sn h p) nh) q 2))) 0 0 (fun _ => False) := by
  refine Met.ofW (cc := cX4_about) (maxL := 3) (ret := (some .int)) (by decide) rfl ?_
  intro p e s m args below meth c s₁ B hml hv
  obtain ⟨rfl, hP, hK⟩ := hv
  have hx := B.exec
  have hb := B.bytes
  have hr := B.returns
  have hts := atoms_spec (ws := wsX4_about) B.pre
  have hown : s.vm.findClass RX4 = some m.cls := findClass_of_methodNamed B.named
  have hlocks := B.notSynchronized
  have hK : va_K G.1 vwCl (kT G) s := hK
  have hP : va_P G.1 vwCl ([(hM, .inr (4, [.ref hL, .ref hN, .ref hO, .ref hT, .ref b9])), (hL, .inr (1, [.ref a0, .ref a1, .ref a2, .ref a3, .ref a4, .int (nI nh), .int (nI np)])), (a1, .inl (G.2 0, 20, .inl (kI fs))), (a2, .inl (G.2 0, 20, .inl (kI sn))), (a3, .inl (G.2 0, 20, .inl (kI ln))), (a4, .inl (G.2 1, 20, .inl (kB op))), (hN, .inr (2, [.ref hL, .ref hC, .ref b0, .ref b1, .ref b2, .ref b3, .ref b4, .int (nI mi)])), (b3, .inl (G.2 2, 100, .inr (.inr (.inr (.inr hd)))))] ++ va_pl L f) s.heap := hP
  have hl := lv_entry ([.ref hM, .int (nI q), .int (nI 2)]) (n := 3) (Nat.le_of_ble_eq_true rfl)
  rw [lg_entry_eq]
  generalize (lg_sl ([.ref hM, .int (nI q), .int (nI 2)]) ++ List.replicate (3 - (lg_sl ([.ref hM, .int (nI q), .int (nI 2)])).length) Slot.unset).toArray = ls at hl ⊢
  have hl : lv_has ls 3 [(0, .ref hM), (1, .int (nI q)), (2, .int (nI 2))] := hl
  refine lv_aload_n hx hb dX4_about_0 rfl (lv_at hl 0 rfl) ?_
  refine lv_iload_n hx hb dX4_about_1 rfl (lv_at hl 1 rfl) ?_
  refine va_csv (W.runV (As := [.int (nI q)]) (rest := []) ⟨hx, hb, hml, hown, hts⟩ (c_X4_checkPass l G hM hN hO hT b9 hL a0 a1 a2 a3 a4 nh np q (by omega) (by omega)) (cwV 1 hts gX4_about_X4_checkPass rfl rfl rfl (by decide +kernel) ⟨Nat.le_of_ble_eq_true rfl, Nat.le_of_ble_eq_true rfl⟩) (kPre_V (ws := [(hM, .inr (4, [.ref hL, .ref hN, .ref hO, .ref hT, .ref b9])), (hL, .inr (1, [.ref a0, .ref a1, .ref a2, .ref a3, .ref a4, .int (nI nh), .int (nI np)]))]) hK (hP.sub (ws' := [(hM, .inr (4, [.ref hL, .ref hN, .ref hO, .ref hT, .ref b9])), (hL, .inr (1, [.ref a0, .ref a1, .ref a2, .ref a3, .ref a4, .int (nI nh), .int (nI np)]))]) [0, 1] rfl) (RX4, TX4, 5) 0 rfl rfl) rfl rfl hl.1 rfl (lv_room (Nat.le_of_ble_eq_true rfl)) dX4_about_2 ⟨Nat.le_of_ble_eq_true rfl, Nat.le_of_ble_eq_true rfl⟩) (fun _ => ?_)
  refine lv_iload_n hx hb dX4_about_5 rfl (lv_at hl 2 rfl) ?_
  refine lv_tableIn (off := 52) (tgt := 58) hx hb dX4_about_6 (by decide) (by decide) (by decide) (by decide) ?_
  refine lv_aload_n hx hb dX4_about_58 rfl (lv_at hl 0 rfl) ?_
  refine va_get (D := G.1) (ci := 4) (v := .ref hL) (C := RX4) (T := TX4) (N := 5) hx hb hts kX4_about_2_1 hown hK hP 0 rfl rfl 0 (by decide) (hts _ kX4_about_2_0) (fun _ h9 => h9) rfl dX4_about_59 ?_
  refine lv_iload_n hx hb dX4_about_62 rfl (lv_at hl 1 rfl) ?_
  refine vp_callSi (W.runV (As := [.int (nI q)]) (rest := []) ⟨hx, hb, hml, hown, hts⟩ (c_X1_length l G hL a0 a1 a2 a3 a4 nh np ln q (by omega)) (cwV 1 hts gX4_about_X1_length rfl rfl rfl (by decide +kernel) ⟨Nat.le_of_ble_eq_true rfl, Nat.le_of_ble_eq_true rfl⟩) (kPre_V (ws := [(hL, .inr (1, [.ref a0, .ref a1, .ref a2, .ref a3, .ref a4, .int (nI nh), .int (nI np)])), (a3, .inl (G.2 0, 20, .inl (kI ln)))]) hK (hP.sub (ws' := [(hL, .inr (1, [.ref a0, .ref a1, .ref a2, .ref a3, .ref a4, .int (nI nh), .int (nI np)])), (a3, .inl (G.2 0, 20, .inl (kI ln)))]) [1, 4] rfl) (RX1, TX1, 7) 0 rfl rfl) rfl rfl hl.1 rfl (lv_room (Nat.le_of_ble_eq_true rfl)) dX4_about_63 ⟨Nat.le_of_ble_eq_true rfl, Nat.le_of_ble_eq_true rfl⟩) (fun r_1 hr_1 => ?_)
  subst hr_1
  exact kr_iret hx hb hr hlocks (by first | rfl | (show _ = bI _; rw [ho]; rfl)) dX4_about_66

theorem kX4_about_3_0 : Cond.fieldLink RX4 10 "PassNotes" "land" "LPassNotes$Land;" ∈ wsX4_about := by decide +kernel
theorem kX4_about_3_1 : ∀ w ∈ wsX40, w ∈ wsX4_about := by decide +kernel
set_option maxHeartbeats 4000000 in
set_option maxRecDepth 100000 in
theorem c_X4_about_3 (l : Launch) (G : kG) (hM hO hT b9 : Nat) (hN hL hC b0 b1 b2 b3 b4 mi : Nat) (a0 a1 a2 a3 a4 nh np : Nat) (L : List Nat) (f : Nat → va_E) (sv : Nat → mS) (fs sn ln : Nat → Nat) (op : Nat → Bool) (hd : Nat → Option Nat) (q : Nat) (hfs : ∀ j, fs j < 10) (hsn : ∀ j, sn j < 10) (hhd : kHeld G L f sv hd) (hqn : q < np) (hnh : nh ≤ 10) (hnp : np ≤ 20) : Met l yX4_about wsX4_about ({ frames := 3, cells := 0, slots := 0, locals := 68 }) (kPre G ([(hM, .inr (4, [.ref hL, .ref hN, .ref hO, .ref hT, .ref b9])), (hL, .inr (1, [.ref a0, .ref a1, .ref a2, .ref a3, .ref a4, .int (nI nh), .int (nI np)])), (a1, .inl (G.2 0, 20, .inl (kI fs))), (a2, .inl (G.2 0, 20, .inl (kI sn))), (a3, .inl (G.2 0, 20, .inl (kI ln))), (a4, .inl (G.2 1, 20, .inl (kB op))), (hN, .inr (2, [.ref hL, .ref hC, .ref b0, .ref b1, .ref b2, .ref b3, .ref b4, .int (nI mi)])), (b3, .inl (G.2 2, 100, .inr (.inr (.inr (.inr hd)))))] ++ va_pl L f) [.ref hM, .int (nI q), .int (nI 3)]) (vp_Si (fun r : Int32 => r = (mAbout fs sn ln op (fun p => mCnt (fun h => mTOpen sv hd fs sn h p) nh) q 3))) 0 0 (fun _ => False) := by
  refine Met.ofW (cc := cX4_about) (maxL := 3) (ret := (some .int)) (by decide) rfl ?_
  intro p e s m args below meth c s₁ B hml hv
  obtain ⟨rfl, hP, hK⟩ := hv
  have hx := B.exec
  have hb := B.bytes
  have hr := B.returns
  have hts := atoms_spec (ws := wsX4_about) B.pre
  have hown : s.vm.findClass RX4 = some m.cls := findClass_of_methodNamed B.named
  have hlocks := B.notSynchronized
  have hK : va_K G.1 vwCl (kT G) s := hK
  have hP : va_P G.1 vwCl ([(hM, .inr (4, [.ref hL, .ref hN, .ref hO, .ref hT, .ref b9])), (hL, .inr (1, [.ref a0, .ref a1, .ref a2, .ref a3, .ref a4, .int (nI nh), .int (nI np)])), (a1, .inl (G.2 0, 20, .inl (kI fs))), (a2, .inl (G.2 0, 20, .inl (kI sn))), (a3, .inl (G.2 0, 20, .inl (kI ln))), (a4, .inl (G.2 1, 20, .inl (kB op))), (hN, .inr (2, [.ref hL, .ref hC, .ref b0, .ref b1, .ref b2, .ref b3, .ref b4, .int (nI mi)])), (b3, .inl (G.2 2, 100, .inr (.inr (.inr (.inr hd)))))] ++ va_pl L f) s.heap := hP
  have hl := lv_entry ([.ref hM, .int (nI q), .int (nI 3)]) (n := 3) (Nat.le_of_ble_eq_true rfl)
  rw [lg_entry_eq]
  generalize (lg_sl ([.ref hM, .int (nI q), .int (nI 3)]) ++ List.replicate (3 - (lg_sl ([.ref hM, .int (nI q), .int (nI 3)])).length) Slot.unset).toArray = ls at hl ⊢
  have hl : lv_has ls 3 [(0, .ref hM), (1, .int (nI q)), (2, .int (nI 3))] := hl
  refine lv_aload_n hx hb dX4_about_0 rfl (lv_at hl 0 rfl) ?_
  refine lv_iload_n hx hb dX4_about_1 rfl (lv_at hl 1 rfl) ?_
  refine va_csv (W.runV (As := [.int (nI q)]) (rest := []) ⟨hx, hb, hml, hown, hts⟩ (c_X4_checkPass l G hM hN hO hT b9 hL a0 a1 a2 a3 a4 nh np q (by omega) (by omega)) (cwV 1 hts gX4_about_X4_checkPass rfl rfl rfl (by decide +kernel) ⟨Nat.le_of_ble_eq_true rfl, Nat.le_of_ble_eq_true rfl⟩) (kPre_V (ws := [(hM, .inr (4, [.ref hL, .ref hN, .ref hO, .ref hT, .ref b9])), (hL, .inr (1, [.ref a0, .ref a1, .ref a2, .ref a3, .ref a4, .int (nI nh), .int (nI np)]))]) hK (hP.sub (ws' := [(hM, .inr (4, [.ref hL, .ref hN, .ref hO, .ref hT, .ref b9])), (hL, .inr (1, [.ref a0, .ref a1, .ref a2, .ref a3, .ref a4, .int (nI nh), .int (nI np)]))]) [0, 1] rfl) (RX4, TX4, 5) 0 rfl rfl) rfl rfl hl.1 rfl (lv_room (Nat.le_of_ble_eq_true rfl)) dX4_about_2 ⟨Nat.le_of_ble_eq_true rfl, Nat.le_of_ble_eq_true rfl⟩) (fun _ => ?_)
  refine lv_iload_n hx hb dX4_about_5 rfl (lv_at hl 2 rfl) ?_
  refine lv_tableIn (off := 61) (tgt := 67) hx hb dX4_about_6 (by decide) (by decide) (by decide) (by decide) ?_
  refine lv_aload_n hx hb dX4_about_67 rfl (lv_at hl 0 rfl) ?_
  refine va_get (D := G.1) (ci := 4) (v := .ref hL) (C := RX4) (T := TX4) (N := 5) hx hb hts kX4_about_3_1 hown hK hP 0 rfl rfl 0 (by decide) (hts _ kX4_about_3_0) (fun _ h9 => h9) rfl dX4_about_68 ?_
  refine lv_iload_n hx hb dX4_about_71 rfl (lv_at hl 1 rfl) ?_
  refine vp_callSi (W.runV (As := [.int (nI q)]) (rest := []) ⟨hx, hb, hml, hown, hts⟩ (c_X1_isOpen l G hL a0 a1 a2 a3 a4 nh np op q (by omega)) (cwV 1 hts gX4_about_X1_isOpen rfl rfl rfl (by decide +kernel) ⟨Nat.le_of_ble_eq_true rfl, Nat.le_of_ble_eq_true rfl⟩) (kPre_V (ws := [(hL, .inr (1, [.ref a0, .ref a1, .ref a2, .ref a3, .ref a4, .int (nI nh), .int (nI np)])), (a4, .inl (G.2 1, 20, .inl (kB op)))]) hK (hP.sub (ws' := [(hL, .inr (1, [.ref a0, .ref a1, .ref a2, .ref a3, .ref a4, .int (nI nh), .int (nI np)])), (a4, .inl (G.2 1, 20, .inl (kB op)))]) [1, 5] rfl) (RX1, TX1, 7) 0 rfl rfl) rfl rfl hl.1 rfl (lv_room (Nat.le_of_ble_eq_true rfl)) dX4_about_72 ⟨Nat.le_of_ble_eq_true rfl, Nat.le_of_ble_eq_true rfl⟩) (fun r_1 hr_1 => ?_)
  subst hr_1
  refine kb_eqb (tgt := 82) hx hb dX4_about_75 (by decide) (fun c_2 => ?_) (fun c_2 => ?_)
  · have ho := c_2
    refine lv_iconst (v := (nI 0)) hx hb dX4_about_82 (by decide) ?_
    exact kr_iret hx hb hr hlocks (by first | rfl | (show _ = bI _; rw [ho]; rfl)) dX4_about_83
  · have ho := c_2
    refine lv_iconst (v := (nI 1)) hx hb dX4_about_78 (by decide) ?_
    refine lv_goto (tgt := 83) hx hb dX4_about_79 (by decide) ?_
    exact kr_iret hx hb hr hlocks (by first | rfl | (show _ = bI _; rw [ho]; rfl)) dX4_about_83

theorem kX4_about_4_0 : Cond.fieldLink RX4 21 "PassNotes" "now" "LPassNotes$Notes;" ∈ wsX4_about := by decide +kernel
theorem kX4_about_4_1 : ∀ w ∈ wsX40, w ∈ wsX4_about := by decide +kernel
set_option maxHeartbeats 4000000 in
set_option maxRecDepth 100000 in
theorem c_X4_about_4 (l : Launch) (G : kG) (hM hO hT b9 : Nat) (hN hL hC b0 b1 b2 b3 b4 mi : Nat) (a0 a1 a2 a3 a4 nh np : Nat) (L : List Nat) (f : Nat → va_E) (sv : Nat → mS) (fs sn ln : Nat → Nat) (op : Nat → Bool) (hd : Nat → Option Nat) (q : Nat) (hfs : ∀ j, fs j < 10) (hsn : ∀ j, sn j < 10) (hhd : kHeld G L f sv hd) (hqn : q < np) (hnh : nh ≤ 10) (hnp : np ≤ 20) : Met l yX4_about wsX4_about ({ frames := 3, cells := 0, slots := 0, locals := 68 }) (kPre G ([(hM, .inr (4, [.ref hL, .ref hN, .ref hO, .ref hT, .ref b9])), (hL, .inr (1, [.ref a0, .ref a1, .ref a2, .ref a3, .ref a4, .int (nI nh), .int (nI np)])), (a1, .inl (G.2 0, 20, .inl (kI fs))), (a2, .inl (G.2 0, 20, .inl (kI sn))), (a3, .inl (G.2 0, 20, .inl (kI ln))), (a4, .inl (G.2 1, 20, .inl (kB op))), (hN, .inr (2, [.ref hL, .ref hC, .ref b0, .ref b1, .ref b2, .ref b3, .ref b4, .int (nI mi)])), (b3, .inl (G.2 2, 100, .inr (.inr (.inr (.inr hd)))))] ++ va_pl L f) [.ref hM, .int (nI q), .int (nI 4)]) (vp_Si (fun r : Int32 => r = (mAbout fs sn ln op (fun p => mCnt (fun h => mTOpen sv hd fs sn h p) nh) q 4))) 0 0 (fun _ => False) := by
  refine Met.ofW (cc := cX4_about) (maxL := 3) (ret := (some .int)) (by decide) rfl ?_
  intro p e s m args below meth c s₁ B hml hv
  obtain ⟨rfl, hP, hK⟩ := hv
  have hx := B.exec
  have hb := B.bytes
  have hr := B.returns
  have hts := atoms_spec (ws := wsX4_about) B.pre
  have hown : s.vm.findClass RX4 = some m.cls := findClass_of_methodNamed B.named
  have hlocks := B.notSynchronized
  have hK : va_K G.1 vwCl (kT G) s := hK
  have hP : va_P G.1 vwCl ([(hM, .inr (4, [.ref hL, .ref hN, .ref hO, .ref hT, .ref b9])), (hL, .inr (1, [.ref a0, .ref a1, .ref a2, .ref a3, .ref a4, .int (nI nh), .int (nI np)])), (a1, .inl (G.2 0, 20, .inl (kI fs))), (a2, .inl (G.2 0, 20, .inl (kI sn))), (a3, .inl (G.2 0, 20, .inl (kI ln))), (a4, .inl (G.2 1, 20, .inl (kB op))), (hN, .inr (2, [.ref hL, .ref hC, .ref b0, .ref b1, .ref b2, .ref b3, .ref b4, .int (nI mi)])), (b3, .inl (G.2 2, 100, .inr (.inr (.inr (.inr hd)))))] ++ va_pl L f) s.heap := hP
  have hl := lv_entry ([.ref hM, .int (nI q), .int (nI 4)]) (n := 3) (Nat.le_of_ble_eq_true rfl)
  rw [lg_entry_eq]
  generalize (lg_sl ([.ref hM, .int (nI q), .int (nI 4)]) ++ List.replicate (3 - (lg_sl ([.ref hM, .int (nI q), .int (nI 4)])).length) Slot.unset).toArray = ls at hl ⊢
  have hl : lv_has ls 3 [(0, .ref hM), (1, .int (nI q)), (2, .int (nI 4))] := hl
  refine lv_aload_n hx hb dX4_about_0 rfl (lv_at hl 0 rfl) ?_
  refine lv_iload_n hx hb dX4_about_1 rfl (lv_at hl 1 rfl) ?_
  refine va_csv (W.runV (As := [.int (nI q)]) (rest := []) ⟨hx, hb, hml, hown, hts⟩ (c_X4_checkPass l G hM hN hO hT b9 hL a0 a1 a2 a3 a4 nh np q (by omega) (by omega)) (cwV 1 hts gX4_about_X4_checkPass rfl rfl rfl (by decide +kernel) ⟨Nat.le_of_ble_eq_true rfl, Nat.le_of_ble_eq_true rfl⟩) (kPre_V (ws := [(hM, .inr (4, [.ref hL, .ref hN, .ref hO, .ref hT, .ref b9])), (hL, .inr (1, [.ref a0, .ref a1, .ref a2, .ref a3, .ref a4, .int (nI nh), .int (nI np)]))]) hK (hP.sub (ws' := [(hM, .inr (4, [.ref hL, .ref hN, .ref hO, .ref hT, .ref b9])), (hL, .inr (1, [.ref a0, .ref a1, .ref a2, .ref a3, .ref a4, .int (nI nh), .int (nI np)]))]) [0, 1] rfl) (RX4, TX4, 5) 0 rfl rfl) rfl rfl hl.1 rfl (lv_room (Nat.le_of_ble_eq_true rfl)) dX4_about_2 ⟨Nat.le_of_ble_eq_true rfl, Nat.le_of_ble_eq_true rfl⟩) (fun _ => ?_)
  refine lv_iload_n hx hb dX4_about_5 rfl (lv_at hl 2 rfl) ?_
  refine lv_tableIn (off := 78) (tgt := 84) hx hb dX4_about_6 (by decide) (by decide) (by decide) (by decide) ?_
  refine lv_aload_n hx hb dX4_about_84 rfl (lv_at hl 0 rfl) ?_
  refine va_get (D := G.1) (ci := 4) (v := .ref hN) (C := RX4) (T := TX4) (N := 5) hx hb hts kX4_about_4_1 hown hK hP 0 rfl rfl 1 (by decide) (hts _ kX4_about_4_0) (fun _ h9 => h9) rfl dX4_about_85 ?_
  refine lv_iload_n hx hb dX4_about_88 rfl (lv_at hl 1 rfl) ?_
  refine vp_callSi (W.runV (As := [.int (nI q)]) (rest := []) ⟨hx, hb, hml, hown, hts⟩ (c_X2_takersForOpen l G hN hL hC b0 b1 b2 b3 b4 mi L f sv a0 a1 a2 a3 a4 nh np fs sn hd q hfs hsn hhd (by omega) (by omega)) (cwV 1 hts gX4_about_X2_takersForOpen rfl rfl rfl (by decide +kernel) ⟨Nat.le_of_ble_eq_true rfl, Nat.le_of_ble_eq_true rfl⟩) (kPre_V (ws := ([(hN, .inr (2, [.ref hL, .ref hC, .ref b0, .ref b1, .ref b2, .ref b3, .ref b4, .int (nI mi)])), (hL, .inr (1, [.ref a0, .ref a1, .ref a2, .ref a3, .ref a4, .int (nI nh), .int (nI np)])), (a1, .inl (G.2 0, 20, .inl (kI fs))), (a2, .inl (G.2 0, 20, .inl (kI sn))), (b3, .inl (G.2 2, 100, .inr (.inr (.inr (.inr hd)))))] ++ va_pl L f)) hK (hP.part (cx := [(hN, .inr (2, [.ref hL, .ref hC, .ref b0, .ref b1, .ref b2, .ref b3, .ref b4, .int (nI mi)])), (hL, .inr (1, [.ref a0, .ref a1, .ref a2, .ref a3, .ref a4, .int (nI nh), .int (nI np)])), (a1, .inl (G.2 0, 20, .inl (kI fs))), (a2, .inl (G.2 0, 20, .inl (kI sn))), (b3, .inl (G.2 2, 100, .inr (.inr (.inr (.inr hd)))))]) [6, 1, 2, 3, 7] rfl) (RX2, TX2, 8) 0 rfl rfl) rfl rfl hl.1 rfl (lv_room (Nat.le_of_ble_eq_true rfl)) dX4_about_89 ⟨Nat.le_of_ble_eq_true rfl, Nat.le_of_ble_eq_true rfl⟩) (fun r_1 hr_1 => ?_)
  subst hr_1
  exact kr_iret hx hb hr hlocks (by first | rfl | (show _ = bI _; rw [ho]; rfl)) dX4_about_92

theorem c_X4_about (l : Launch) (G : kG) (hM hO hT b9 : Nat) (hN hL hC b0 b1 b2 b3 b4 mi : Nat) (a0 a1 a2 a3 a4 nh np : Nat) (L : List Nat) (f : Nat → va_E) (sv : Nat → mS) (fs sn ln : Nat → Nat) (op : Nat → Bool) (hd : Nat → Option Nat) (q what : Nat) (hfs : ∀ j, fs j < 10) (hsn : ∀ j, sn j < 10) (hhd : kHeld G L f sv hd) (hqn : q < np) (hnh : nh ≤ 10) (hnp : np ≤ 20) (hwh : what ≤ 4) : Met l yX4_about wsX4_about ({ frames := 3, cells := 0, slots := 0, locals := 68 }) (kPre G ([(hM, .inr (4, [.ref hL, .ref hN, .ref hO, .ref hT, .ref b9])), (hL, .inr (1, [.ref a0, .ref a1, .ref a2, .ref a3, .ref a4, .int (nI nh), .int (nI np)])), (a1, .inl (G.2 0, 20, .inl (kI fs))), (a2, .inl (G.2 0, 20, .inl (kI sn))), (a3, .inl (G.2 0, 20, .inl (kI ln))), (a4, .inl (G.2 1, 20, .inl (kB op))), (hN, .inr (2, [.ref hL, .ref hC, .ref b0, .ref b1, .ref b2, .ref b3, .ref b4, .int (nI mi)])), (b3, .inl (G.2 2, 100, .inr (.inr (.inr (.inr hd)))))] ++ va_pl L f) [.ref hM, .int (nI q), .int (nI what)]) (vp_Si (fun r : Int32 => r = (mAbout fs sn ln op (fun p => mCnt (fun h => mTOpen sv hd fs sn h p) nh) q what))) 0 0 (fun _ => False) := by
  rcases (show what = 0 ∨ what = 1 ∨ what = 2 ∨ what = 3 ∨ what = 4 by omega) with rfl | rfl | rfl | rfl | rfl
  · exact c_X4_about_0 l G hM hO hT b9 hN hL hC b0 b1 b2 b3 b4 mi a0 a1 a2 a3 a4 nh np L f sv fs sn ln op hd q hfs hsn hhd hqn hnh hnp
  · exact c_X4_about_1 l G hM hO hT b9 hN hL hC b0 b1 b2 b3 b4 mi a0 a1 a2 a3 a4 nh np L f sv fs sn ln op hd q hfs hsn hhd hqn hnh hnp
  · exact c_X4_about_2 l G hM hO hT b9 hN hL hC b0 b1 b2 b3 b4 mi a0 a1 a2 a3 a4 nh np L f sv fs sn ln op hd q hfs hsn hhd hqn hnh hnp
  · exact c_X4_about_3 l G hM hO hT b9 hN hL hC b0 b1 b2 b3 b4 mi a0 a1 a2 a3 a4 nh np L f sv fs sn ln op hd q hfs hsn hhd hqn hnh hnp
  · exact c_X4_about_4 l G hM hO hT b9 hN hL hC b0 b1 b2 b3 b4 mi a0 a1 a2 a3 a4 nh np L f sv fs sn ln op hd q hfs hsn hhd hqn hnh hnp
