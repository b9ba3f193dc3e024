theorem kX5_isSame_0 : Cond.fieldLink RX5 9 "PassNotesLaw$Sim" "areas" "[I" ∈ wsX5_isSame := by decide +kernel
theorem kX5_isSame_1 : ∀ w ∈ wsX50, w ∈ wsX5_isSame := by decide +kernel
theorem kX5_isSame_2 : Cond.fieldLink RX5 25 "PassNotesLaw$Sim" "passes" "[[I" ∈ wsX5_isSame := by decide +kernel
theorem kX5_isSame_3 : Cond.arrayClass .int ∈ wsX5_isSame := by decide +kernel
theorem kX5_isSame_4 : Cond.fieldLink RX5 29 "PassNotesLaw$Sim" "minute" "I" ∈ wsX5_isSame := by decide +kernel
theorem kX5_isSame_5 : Cond.fieldLink RX5 15 "PassNotesLaw$Sim" "wrote" "[I" ∈ wsX5_isSame := by decide +kernel
theorem kX5_isSame_6 : Cond.constant RX5 54 (99999999) ∈ wsX5_isSame := by decide +kernel
theorem kX5_isSame_7 : Cond.fieldLink RX5 20 "PassNotesLaw$Sim" "sheets" "[[[I" ∈ wsX5_isSame := by decide +kernel
set_option maxHeartbeats 4000000 in
set_option maxRecDepth 100000 in
theorem c_X5_isSame (l : Launch) (G : kG) (sz : Nat) (zs hM za zw zq zp nn np mi : Nat) (M L : List Nat) (f : Nat → va_E) (ro : Nat → Nat) (rr : Nat → Nat → Nat) (rp : Nat → Nat) (fs sn ln : Nat → Nat) (op : Nat → Bool) (SS : Nat → Option mS) (ar ww : Nat → Nat)  (hob : kObj G hM nn np mi fs sn ln op SS ar ww M f) (hML : ∀ a ∈ M, a ∈ L) (hsm : kSim G nn np mi M L f ro rr rp fs sn ln op SS) (hV : vInv ar fs sn ln nn np mi SS ww) (hn7 : nn ≤ 7) (hw0 : ∀ j, nn ≤ j → ww j = 0) (hmi : mi + 2000 < 2 ^ 31) : Met l yX5_isSame wsX5_isSame ({ frames := 6, cells := 1300, slots := 9000, locals := 150 }) (kPreM G ([(zs, .inr (5, [.int (nI mi), .ref za, .ref zw, .ref zq, .ref zp])), (za, .inl (G.2 0, nn, .inl (kI ar))), (zq, .inl (G.2 4, nn, .inr (.inr (.inr (.inr (kRn nn ro)))))), (zp, .inl (G.2 3, np, .inr (.inr (.inr (.inr (kRn np rp)))))), (zw, .inl (G.2 0, nn, .inl (kI ww)))] ++ va_pl L f) sz [.ref zs, .ref hM]) (va_Qi (fun (r : Int32) (u : List Nat × List Nat × (Nat → va_E)) => r = bI true ∧ kObj G hM nn np mi fs sn ln op SS ar ww u.1 u.2.2 ∧ (∀ a ∈ u.1, a ∈ u.2.1) ∧ kSim G nn np mi u.1 u.2.1 u.2.2 ro rr rp fs sn ln op SS) (fun (u : List Nat × List Nat × (Nat → va_E)) t => kA G (va_A ([(zs, .inr (5, [.int (nI mi), .ref za, .ref zw, .ref zq, .ref zp])), (za, .inl (G.2 0, nn, .inl (kI ar))), (zq, .inl (G.2 4, nn, .inr (.inr (.inr (.inr (kRn nn ro)))))), (zp, .inl (G.2 3, np, .inr (.inr (.inr (.inr (kRn np rp)))))), (zw, .inl (G.2 0, nn, .inl (kI ww)))] ++ va_pl L f) sz) ([(zs, .inr (5, [.int (nI mi), .ref za, .ref zw, .ref zq, .ref zp])), (za, .inl (G.2 0, nn, .inl (kI ar))), (zq, .inl (G.2 4, nn, .inr (.inr (.inr (.inr (kRn nn ro)))))), (zp, .inl (G.2 3, np, .inr (.inr (.inr (.inr (kRn np rp)))))), (zw, .inl (G.2 0, nn, .inl (kI ww)))] ++ va_pl u.2.1 u.2.2) t) (va_A ([(zs, .inr (5, [.int (nI mi), .ref za, .ref zw, .ref zq, .ref zp])), (za, .inl (G.2 0, nn, .inl (kI ar))), (zq, .inl (G.2 4, nn, .inr (.inr (.inr (.inr (kRn nn ro)))))), (zp, .inl (G.2 3, np, .inr (.inr (.inr (.inr (kRn np rp)))))), (zw, .inl (G.2 0, nn, .inl (kI ww)))] ++ va_pl L f) sz)) 1300 9000 (va_A ([(zs, .inr (5, [.int (nI mi), .ref za, .ref zw, .ref zq, .ref zp])), (za, .inl (G.2 0, nn, .inl (kI ar))), (zq, .inl (G.2 4, nn, .inr (.inr (.inr (.inr (kRn nn ro)))))), (zp, .inl (G.2 3, np, .inr (.inr (.inr (.inr (kRn np rp)))))), (zw, .inl (G.2 0, nn, .inl (kI ww)))] ++ va_pl L f) sz) := by
  refine Met.ofW (cc := cX5_isSame) (maxL := 15) (ret := (some .boolean)) (by decide) rfl ?_
  intro p e s m args below meth c s₁ B hml hv
  obtain ⟨rfl, hsz, hP, hK, hD0⟩ := hv
  have hx := B.exec
  have hb := B.bytes
  have hr := B.returns
  have hts := atoms_spec (ws := wsX5_isSame) B.pre
  have hown : s.vm.findClass RX5 = some m.cls := findClass_of_methodNamed B.named
  have hlocks := B.notSynchronized
  have hK : va_K G.1 vwCl (kT G) s := hK
  subst hsz
  have hD := hD0.self (sz := s.heap.size)
  generalize hAe : va_A ([(zs, .inr (5, [.int (nI mi), .ref za, .ref zw, .ref zq, .ref zp])), (za, .inl (G.2 0, nn, .inl (kI ar))), (zq, .inl (G.2 4, nn, .inr (.inr (.inr (.inr (kRn nn ro)))))), (zp, .inl (G.2 3, np, .inr (.inr (.inr (.inr (kRn np rp)))))), (zw, .inl (G.2 0, nn, .inl (kI ww)))] ++ va_pl L f) s.heap.size = A at hD ⊢
  have hA : ∀ q : Nat, s.heap.size ≤ q → A q := fun q h => by rw [← hAe]; exact Or.inr h
  have hS : va_S A s.heap s.heap [] := va_S.rf
  have hP : va_P G.1 vwCl ([(zs, .inr (5, [.int (nI mi), .ref za, .ref zw, .ref zq, .ref zp])), (za, .inl (G.2 0, nn, .inl (kI ar))), (zq, .inl (G.2 4, nn, .inr (.inr (.inr (.inr (kRn nn ro)))))), (zp, .inl (G.2 3, np, .inr (.inr (.inr (.inr (kRn np rp)))))), (zw, .inl (G.2 0, nn, .inl (kI ww)))] ++ va_pl L f) s.heap := hP
  have hl := lv_entry ([.ref zs, .ref hM]) (n := 15) (Nat.le_of_ble_eq_true rfl)
  rw [lg_entry_eq]
  generalize (lg_sl ([.ref zs, .ref hM]) ++ List.replicate (15 - (lg_sl ([.ref zs, .ref hM])).length) Slot.unset).toArray = ls at hl ⊢
  have hl : lv_has ls 15 [(0, .ref zs), (1, .ref hM)] := hl
  obtain ⟨hrw, hrr, hrp, hrM, hqM, hpM, hroi, hrpi, hrq⟩ := id hsm
  obtain ⟨⟨hfs, hsn, hln, hen9, hnn, hnp⟩, har, hiS, hiU, hv100, hwz, hwm⟩ := id hV
  have hen : ∀ j, j < np → fs j < nn ∧ sn j < nn := fun j hj => ⟨(hen9 j hj).1, (hen9 j hj).2.1⟩
  refine lv_aload_n hx hb dX5_isSame_0 rfl (lv_at hl 0 rfl) ?_
  refine va_get (D := G.1) (ci := 5) (v := .ref za) (C := RX5) (T := TX5) (N := 5) hx hb hts kX5_isSame_1 hown hK hP 0 rfl rfl 1 (by decide) (hts _ kX5_isSame_0) (fun _ h9 => h9) rfl dX5_isSame_1 ?_
  refine va_alen (v := nI nn) hx hb hK hP 1 0 rfl rfl rfl dX5_isSame_4 ?_
  refine lv_istore_n (lv' := [(2, .int (nI nn)), (0, .ref zs), (1, .ref hM)]) hx hb dX5_isSame_5 rfl hl (by decide) rfl (fun ls hl => ?_)
  refine lv_iconst (v := (nI 0)) hx hb dX5_isSame_6 (by decide) ?_
  refine lv_istore_n (lv' := [(3, .int (nI 0)), (2, .int (nI nn)), (0, .ref zs), (1, .ref hM)]) hx hb dX5_isSame_7 rfl hl (by decide) rfl (fun ls hl => ?_)
  refine lv_iconst (v := (nI 0)) hx hb dX5_isSame_8 (by decide) ?_
  refine lv_istore (lv' := [(4, .int (nI 0)), (3, .int (nI 0)), (2, .int (nI nn)), (0, .ref zs), (1, .ref hM)]) hx hb dX5_isSame_9 hl (by decide) rfl (fun ls hl => ?_)
  refine lv_iconst (v := (nI 0)) hx hb dX5_isSame_11 (by decide) ?_
  refine lv_istore (lv' := [(5, .int (nI 0)), (4, .int (nI 0)), (3, .int (nI 0)), (2, .int (nI nn)), (0, .ref zs), (1, .ref hM)]) hx hb dX5_isSame_12 hl (by decide) rfl (fun ls hl => ?_)
  have hc_14 : ∀ (n : Nat) (h le9 ag9 : Nat) (M1 L1 : List Nat) (f1 : Nat → va_E), nn - h < n → h ≤ nn → le9 = mSum (fun a => mCnt (fun b => a != b && (mPost (fun i => vWay SS fs sn np i) (mSt fs sn op np) a b).isSome) nn) h → ag9 = mSum (fun a => mSum (fun b => vAge mi (SS (a * 10 + b))) nn) h → kObj G hM nn np mi fs sn ln op SS ar ww M1 f1 → (∀ a ∈ M1, a ∈ L1) → kSim G nn np mi M1 L1 f1 ro rr rp fs sn ln op SS → ∀ (H : Heap) (locs : List Loc), va_P G.1 vwCl ([(zs, .inr (5, [.int (nI mi), .ref za, .ref zw, .ref zq, .ref zp])), (za, .inl (G.2 0, nn, .inl (kI ar))), (zq, .inl (G.2 4, nn, .inr (.inr (.inr (.inr (kRn nn ro)))))), (zp, .inl (G.2 3, np, .inr (.inr (.inr (.inr (kRn np rp)))))), (zw, .inl (G.2 0, nn, .inl (kI ww)))] ++ va_pl L1 f1) H → va_D A ([(zs, .inr (5, [.int (nI mi), .ref za, .ref zw, .ref zq, .ref zp])), (za, .inl (G.2 0, nn, .inl (kI ar))), (zq, .inl (G.2 4, nn, .inr (.inr (.inr (.inr (kRn nn ro)))))), (zp, .inl (G.2 3, np, .inr (.inr (.inr (.inr (kRn np rp)))))), (zw, .inl (G.2 0, nn, .inl (kI ww)))] ++ va_pl L1 f1) → va_S A s.heap H locs → ∀ (ls : Array Slot), lv_has ls 15 [(5, .int (nI h)), (4, .int (nI ag9)), (3, .int (nI le9)), (2, .int (nI nn)), (0, .ref zs), (1, .ref hM)] → W p l e (headSpec wsX5_isSame ({ frames := 6, cells := 1300, slots := 9000, locals := 150 })).room s m [.ref zs, .ref hM].toArray below meth c H locs (176 * h) (1203 * h) (MQ below (va_Qi (fun (r : Int32) (u : List Nat × List Nat × (Nat → va_E)) => r = bI true ∧ kObj G hM nn np mi fs sn ln op SS ar ww u.1 u.2.2 ∧ (∀ a ∈ u.1, a ∈ u.2.1) ∧ kSim G nn np mi u.1 u.2.1 u.2.2 ro rr rp fs sn ln op SS) (fun (u : List Nat × List Nat × (Nat → va_E)) t => kA G A ([(zs, .inr (5, [.int (nI mi), .ref za, .ref zw, .ref zq, .ref zp])), (za, .inl (G.2 0, nn, .inl (kI ar))), (zq, .inl (G.2 4, nn, .inr (.inr (.inr (.inr (kRn nn ro)))))), (zp, .inl (G.2 3, np, .inr (.inr (.inr (.inr (kRn np rp)))))), (zw, .inl (G.2 0, nn, .inl (kI ww)))] ++ va_pl u.2.1 u.2.2) t) A) [.ref zs, .ref hM].toArray s 1300 9000 A) (F0 m 14 ls []) := by
    intro n
    induction n with
    | zero =>
      intro h le9 ag9 M1 L1 f1 hmz; exact absurd hmz (Nat.not_lt_zero _)
    | succ n ih14 =>
      intro h le9 ag9 M1 L1 f1 hmz hh hle hag hob hML hsm H locs hP hD hS ls hl
      refine lv_iload hx hb dX5_isSame_14 (lv_at hl 0 rfl) ?_
      refine lv_iload_n hx hb dX5_isSame_16 rfl (lv_at hl 3 rfl) ?_
      refine kb_ge (tgt := 478) hx hb dX5_isSame_17 (by decide) (by omega) (by omega) (fun c_1 => ?_) (fun c_1 => ?_)
      · have hle9 : le9 = mSum (fun a => mCnt (fun b => a != b && (mPost (fun i => vWay SS fs sn np i) (mSt fs sn op np) a b).isSome) nn) nn := by rw [hle, show h = nn by omega]
        have hag7 : ag9 = mSum (fun a => mSum (fun b => vAge mi (SS (a * 10 + b))) nn) nn := by rw [hag, show h = nn by omega]
        obtain ⟨hrw, hrr, hrp, hrM, hqM, hpM, hroi, hrpi, hrq⟩ := id hsm
        refine lv_iconst (v := (nI 0)) hx hb dX5_isSame_478 (by decide) ?_
        refine lv_istore (lv' := [(5, .int (nI 0)), (4, .int (nI ag9)), (3, .int (nI le9)), (2, .int (nI nn)), (0, .ref zs), (1, .ref hM)]) hx hb dX5_isSame_479 hl (by decide) rfl (fun ls hl => ?_)
        refine lv_iconst (v := (nI 0)) hx hb dX5_isSame_481 (by decide) ?_
        refine lv_istore (lv' := [(6, .int (nI 0)), (5, .int (nI 0)), (4, .int (nI ag9)), (3, .int (nI le9)), (2, .int (nI nn)), (0, .ref zs), (1, .ref hM)]) hx hb dX5_isSame_482 hl (by decide) rfl (fun ls hl => ?_)
        have hc_484 : ∀ (n : Nat) (op9 i : Nat), np - i < n → i ≤ np → op9 = mCnt op i → ∀ (H : Heap) (locs : List Loc), va_P G.1 vwCl ([(zs, .inr (5, [.int (nI mi), .ref za, .ref zw, .ref zq, .ref zp])), (za, .inl (G.2 0, nn, .inl (kI ar))), (zq, .inl (G.2 4, nn, .inr (.inr (.inr (.inr (kRn nn ro)))))), (zp, .inl (G.2 3, np, .inr (.inr (.inr (.inr (kRn np rp)))))), (zw, .inl (G.2 0, nn, .inl (kI ww)))] ++ va_pl L1 f1) H → va_D A ([(zs, .inr (5, [.int (nI mi), .ref za, .ref zw, .ref zq, .ref zp])), (za, .inl (G.2 0, nn, .inl (kI ar))), (zq, .inl (G.2 4, nn, .inr (.inr (.inr (.inr (kRn nn ro)))))), (zp, .inl (G.2 3, np, .inr (.inr (.inr (.inr (kRn np rp)))))), (zw, .inl (G.2 0, nn, .inl (kI ww)))] ++ va_pl L1 f1) → va_S A s.heap H locs → ∀ (ls : Array Slot), lv_has ls 15 [(6, .int (nI i)), (5, .int (nI op9)), (4, .int (nI ag9)), (3, .int (nI le9)), (2, .int (nI nn)), (0, .ref zs), (1, .ref hM)] → W p l e (headSpec wsX5_isSame ({ frames := 6, cells := 1300, slots := 9000, locals := 150 })).room s m [.ref zs, .ref hM].toArray below meth c H locs (176 * h) (1203 * h) (MQ below (va_Qi (fun (r : Int32) (u : List Nat × List Nat × (Nat → va_E)) => r = bI true ∧ kObj G hM nn np mi fs sn ln op SS ar ww u.1 u.2.2 ∧ (∀ a ∈ u.1, a ∈ u.2.1) ∧ kSim G nn np mi u.1 u.2.1 u.2.2 ro rr rp fs sn ln op SS) (fun (u : List Nat × List Nat × (Nat → va_E)) t => kA G A ([(zs, .inr (5, [.int (nI mi), .ref za, .ref zw, .ref zq, .ref zp])), (za, .inl (G.2 0, nn, .inl (kI ar))), (zq, .inl (G.2 4, nn, .inr (.inr (.inr (.inr (kRn nn ro)))))), (zp, .inl (G.2 3, np, .inr (.inr (.inr (.inr (kRn np rp)))))), (zw, .inl (G.2 0, nn, .inl (kI ww)))] ++ va_pl u.2.1 u.2.2) t) A) [.ref zs, .ref hM].toArray s 1300 9000 A) (F0 m 484 ls []) := by
          intro n
          induction n with
          | zero =>
            intro op9 i hmz; exact absurd hmz (Nat.not_lt_zero _)
          | succ n ih484 =>
            intro op9 i hmz hi hop H locs hP hD hS ls hl
            refine lv_iload hx hb dX5_isSame_484 (lv_at hl 0 rfl) ?_
            refine lv_aload_n hx hb dX5_isSame_486 rfl (lv_at hl 5 rfl) ?_
            refine va_get (D := G.1) (ci := 5) (v := .ref zp) (C := RX5) (T := TX5) (N := 5) hx hb hts kX5_isSame_1 hown hK hP 0 rfl rfl 4 (by decide) (hts _ kX5_isSame_2) (fun _ h9 => h9) rfl dX5_isSame_487 ?_
            refine va_alen (v := nI np) hx hb hK hP 3 3 rfl rfl rfl dX5_isSame_490 ?_
            refine kb_ge (tgt := 605) hx hb dX5_isSame_491 (by decide) (by omega) (by omega) (fun c_2 => ?_) (fun c_2 => ?_)
            · have hop9 : op9 = mCnt op np := by rw [hop, show i = np by omega]
              refine lv_aload_n hx hb dX5_isSame_605 rfl (lv_at hl 5 rfl) ?_
              refine vp_callSi (W.runV (As := []) (rest := []) ⟨hx, hb, hml, hown, hts⟩ (c_X5_allSheets l G zs za zw zq zp nn np mi L1 f1 ro rr rp fs sn ln op SS ar ww hrw hrr hrp (by omega) (by omega) hfs hsn hln hen (by omega)) (cwV 0 hts gX5_isSame_X5_allSheets rfl rfl rfl (by decide +kernel) ⟨Nat.le_of_ble_eq_true rfl, Nat.le_of_ble_eq_true rfl⟩) (kPre_V (ws := ([(zs, .inr (5, [.int (nI mi), .ref za, .ref zw, .ref zq, .ref zp])), (za, .inl (G.2 0, nn, .inl (kI ar))), (zq, .inl (G.2 4, nn, .inr (.inr (.inr (.inr (kRn nn ro))))))] ++ va_pl L1 f1)) hK (hP.part (cx := [(zs, .inr (5, [.int (nI mi), .ref za, .ref zw, .ref zq, .ref zp])), (za, .inl (G.2 0, nn, .inl (kI ar))), (zq, .inl (G.2 4, nn, .inr (.inr (.inr (.inr (kRn nn ro))))))]) [0, 1, 2] rfl) (RX5, TX5, 5) 0 rfl rfl) rfl rfl hl.1 rfl (lv_room (Nat.le_of_ble_eq_true rfl)) dX5_isSame_606 ⟨(show 176 * h + 0 ≤ 1300 from by omega), (show 1203 * h + 0 ≤ 9000 from by omega)⟩) (fun r_3 hr_3 => ?_)
              subst hr_3
              refine lv_istore (lv' := [(6, .int (nI (mSum (zHas SS nn) nn))), (5, .int (nI op9)), (4, .int (nI ag9)), (3, .int (nI le9)), (2, .int (nI nn)), (0, .ref zs), (1, .ref hM)]) hx hb dX5_isSame_609 hl (by decide) rfl (fun ls hl => ?_)
              refine lv_bipush (v := (nI 7)) hx hb dX5_isSame_611 (by decide) ?_
              refine kn_newi hx hb (hts _ kX5_isSame_3) hK hP hD hS hA (by decide) (show 176 * h + 1 ≤ 1300 from by omega) (show 1203 * h + 7 ≤ 9000 from by omega) dX5_isSame_613 (fun q_4 H hP hD hS => ?_)
              have hP := va_P.swap hP
              have hD := va_D.swap hD
              have hP : va_P G.1 vwCl ([(zs, .inr (5, [.int (nI mi), .ref za, .ref zw, .ref zq, .ref zp])), (za, .inl (G.2 0, nn, .inl (kI ar))), (zq, .inl (G.2 4, nn, .inr (.inr (.inr (.inr (kRn nn ro)))))), (zp, .inl (G.2 3, np, .inr (.inr (.inr (.inr (kRn np rp)))))), (zw, .inl (G.2 0, nn, .inl (kI ww))), (q_4, .inl (G.2 0, 7, .inl (kI (fun _ => 0))))] ++ va_pl L1 f1) H := hP
              have hD : va_D A ([(zs, .inr (5, [.int (nI mi), .ref za, .ref zw, .ref zq, .ref zp])), (za, .inl (G.2 0, nn, .inl (kI ar))), (zq, .inl (G.2 4, nn, .inr (.inr (.inr (.inr (kRn nn ro)))))), (zp, .inl (G.2 3, np, .inr (.inr (.inr (.inr (kRn np rp)))))), (zw, .inl (G.2 0, nn, .inl (kI ww))), (q_4, .inl (G.2 0, 7, .inl (kI (fun _ => 0))))] ++ va_pl L1 f1) := hD
              refine W.widen (k := 176 * h + 1) (n := 1203 * h + 7) (Nat.le_refl _) (Nat.le_refl _) ?_
              refine lv_dup hx hb dX5_isSame_615 rfl ?_
              refine lv_iconst (v := (nI 0)) hx hb dX5_isSame_616 (by decide) ?_
              refine lv_aload_n hx hb dX5_isSame_617 rfl (lv_at hl 5 rfl) ?_
              refine va_get (D := G.1) (ci := 5) (v := .int (nI mi)) (C := RX5) (T := TX5) (N := 5) hx hb hts kX5_isSame_1 hown hK hP 0 rfl rfl 0 (by decide) (hts _ kX5_isSame_4) (fun _ h9 => h9) rfl dX5_isSame_618 ?_
              refine kr_iast (k := 0) (g := (kI (va_up (fun _ => 0) 0 mi))) hx hb hK hP hD hS 5 0 rfl rfl (by decide) (by decide) (kI_up (fun _ => 0) 0 mi) dX5_isSame_621 (fun H locs hP hD hS => ?_)
              have hP : va_P G.1 vwCl ([(zs, .inr (5, [.int (nI mi), .ref za, .ref zw, .ref zq, .ref zp])), (za, .inl (G.2 0, nn, .inl (kI ar))), (zq, .inl (G.2 4, nn, .inr (.inr (.inr (.inr (kRn nn ro)))))), (zp, .inl (G.2 3, np, .inr (.inr (.inr (.inr (kRn np rp)))))), (zw, .inl (G.2 0, nn, .inl (kI ww))), (q_4, .inl (G.2 0, 7, .inl (kI (va_up (fun _ => 0) 0 mi))))] ++ va_pl L1 f1) H := hP
              have hD : va_D A ([(zs, .inr (5, [.int (nI mi), .ref za, .ref zw, .ref zq, .ref zp])), (za, .inl (G.2 0, nn, .inl (kI ar))), (zq, .inl (G.2 4, nn, .inr (.inr (.inr (.inr (kRn nn ro)))))), (zp, .inl (G.2 3, np, .inr (.inr (.inr (.inr (kRn np rp)))))), (zw, .inl (G.2 0, nn, .inl (kI ww))), (q_4, .inl (G.2 0, 7, .inl (kI (va_up (fun _ => 0) 0 mi))))] ++ va_pl L1 f1) := hD
              refine lv_dup hx hb dX5_isSame_622 rfl ?_
              refine lv_iconst (v := (nI 1)) hx hb dX5_isSame_623 (by decide) ?_
              refine lv_iload_n hx hb dX5_isSame_624 rfl (lv_at hl 4 rfl) ?_
              refine kr_iast (k := 1) (g := (kI (va_up (va_up (fun _ => 0) 0 mi) 1 nn))) hx hb hK hP hD hS 5 0 rfl rfl (by decide) (by decide) (kI_up (va_up (fun _ => 0) 0 mi) 1 nn) dX5_isSame_625 (fun H locs hP hD hS => ?_)
              have hP : va_P G.1 vwCl ([(zs, .inr (5, [.int (nI mi), .ref za, .ref zw, .ref zq, .ref zp])), (za, .inl (G.2 0, nn, .inl (kI ar))), (zq, .inl (G.2 4, nn, .inr (.inr (.inr (.inr (kRn nn ro)))))), (zp, .inl (G.2 3, np, .inr (.inr (.inr (.inr (kRn np rp)))))), (zw, .inl (G.2 0, nn, .inl (kI ww))), (q_4, .inl (G.2 0, 7, .inl (kI (va_up (va_up (fun _ => 0) 0 mi) 1 nn))))] ++ va_pl L1 f1) H := hP
              have hD : va_D A ([(zs, .inr (5, [.int (nI mi), .ref za, .ref zw, .ref zq, .ref zp])), (za, .inl (G.2 0, nn, .inl (kI ar))), (zq, .inl (G.2 4, nn, .inr (.inr (.inr (.inr (kRn nn ro)))))), (zp, .inl (G.2 3, np, .inr (.inr (.inr (.inr (kRn np rp)))))), (zw, .inl (G.2 0, nn, .inl (kI ww))), (q_4, .inl (G.2 0, 7, .inl (kI (va_up (va_up (fun _ => 0) 0 mi) 1 nn))))] ++ va_pl L1 f1) := hD
              refine lv_dup hx hb dX5_isSame_626 rfl ?_
              refine lv_iconst (v := (nI 2)) hx hb dX5_isSame_627 (by decide) ?_
              refine lv_aload_n hx hb dX5_isSame_628 rfl (lv_at hl 5 rfl) ?_
              refine va_get (D := G.1) (ci := 5) (v := .ref zp) (C := RX5) (T := TX5) (N := 5) hx hb hts kX5_isSame_1 hown hK hP 0 rfl rfl 4 (by decide) (hts _ kX5_isSame_2) (fun _ h9 => h9) rfl dX5_isSame_629 ?_
              refine va_alen (v := nI np) hx hb hK hP 3 3 rfl rfl rfl dX5_isSame_632 ?_
              refine kr_iast (k := 2) (g := (kI (va_up (va_up (va_up (fun _ => 0) 0 mi) 1 nn) 2 np))) hx hb hK hP hD hS 5 0 rfl rfl (by decide) (by decide) (kI_up (va_up (va_up (fun _ => 0) 0 mi) 1 nn) 2 np) dX5_isSame_633 (fun H locs hP hD hS => ?_)
              have hP : va_P G.1 vwCl ([(zs, .inr (5, [.int (nI mi), .ref za, .ref zw, .ref zq, .ref zp])), (za, .inl (G.2 0, nn, .inl (kI ar))), (zq, .inl (G.2 4, nn, .inr (.inr (.inr (.inr (kRn nn ro)))))), (zp, .inl (G.2 3, np, .inr (.inr (.inr (.inr (kRn np rp)))))), (zw, .inl (G.2 0, nn, .inl (kI ww))), (q_4, .inl (G.2 0, 7, .inl (kI (va_up (va_up (va_up (fun _ => 0) 0 mi) 1 nn) 2 np))))] ++ va_pl L1 f1) H := hP
              have hD : va_D A ([(zs, .inr (5, [.int (nI mi), .ref za, .ref zw, .ref zq, .ref zp])), (za, .inl (G.2 0, nn, .inl (kI ar))), (zq, .inl (G.2 4, nn, .inr (.inr (.inr (.inr (kRn nn ro)))))), (zp, .inl (G.2 3, np, .inr (.inr (.inr (.inr (kRn np rp)))))), (zw, .inl (G.2 0, nn, .inl (kI ww))), (q_4, .inl (G.2 0, 7, .inl (kI (va_up (va_up (va_up (fun _ => 0) 0 mi) 1 nn) 2 np))))] ++ va_pl L1 f1) := hD
              refine lv_dup hx hb dX5_isSame_634 rfl ?_
              refine lv_iconst (v := (nI 3)) hx hb dX5_isSame_635 (by decide) ?_
              refine lv_iload hx hb dX5_isSame_636 (lv_at hl 1 rfl) ?_
              refine kr_iast (k := 3) (g := (kI (va_up (va_up (va_up (va_up (fun _ => 0) 0 mi) 1 nn) 2 np) 3 op9))) hx hb hK hP hD hS 5 0 rfl rfl (by decide) (by decide) (kI_up (va_up (va_up (va_up (fun _ => 0) 0 mi) 1 nn) 2 np) 3 op9) dX5_isSame_638 (fun H locs hP hD hS => ?_)
              have hP : va_P G.1 vwCl ([(zs, .inr (5, [.int (nI mi), .ref za, .ref zw, .ref zq, .ref zp])), (za, .inl (G.2 0, nn, .inl (kI ar))), (zq, .inl (G.2 4, nn, .inr (.inr (.inr (.inr (kRn nn ro)))))), (zp, .inl (G.2 3, np, .inr (.inr (.inr (.inr (kRn np rp)))))), (zw, .inl (G.2 0, nn, .inl (kI ww))), (q_4, .inl (G.2 0, 7, .inl (kI (va_up (va_up (va_up (va_up (fun _ => 0) 0 mi) 1 nn) 2 np) 3 op9))))] ++ va_pl L1 f1) H := hP
              have hD : va_D A ([(zs, .inr (5, [.int (nI mi), .ref za, .ref zw, .ref zq, .ref zp])), (za, .inl (G.2 0, nn, .inl (kI ar))), (zq, .inl (G.2 4, nn, .inr (.inr (.inr (.inr (kRn nn ro)))))), (zp, .inl (G.2 3, np, .inr (.inr (.inr (.inr (kRn np rp)))))), (zw, .inl (G.2 0, nn, .inl (kI ww))), (q_4, .inl (G.2 0, 7, .inl (kI (va_up (va_up (va_up (va_up (fun _ => 0) 0 mi) 1 nn) 2 np) 3 op9))))] ++ va_pl L1 f1) := hD
              refine lv_dup hx hb dX5_isSame_639 rfl ?_
              refine lv_iconst (v := (nI 4)) hx hb dX5_isSame_640 (by decide) ?_
              refine lv_iload hx hb dX5_isSame_641 (lv_at hl 0 rfl) ?_
              refine kr_iast (k := 4) (g := (kI (va_up (va_up (va_up (va_up (va_up (fun _ => 0) 0 mi) 1 nn) 2 np) 3 op9) 4 (mSum (zHas SS nn) nn)))) hx hb hK hP hD hS 5 0 rfl rfl (by decide) (by decide) (kI_up (va_up (va_up (va_up (va_up (fun _ => 0) 0 mi) 1 nn) 2 np) 3 op9) 4 (mSum (zHas SS nn) nn)) dX5_isSame_643 (fun H locs hP hD hS => ?_)
              have hP : va_P G.1 vwCl ([(zs, .inr (5, [.int (nI mi), .ref za, .ref zw, .ref zq, .ref zp])), (za, .inl (G.2 0, nn, .inl (kI ar))), (zq, .inl (G.2 4, nn, .inr (.inr (.inr (.inr (kRn nn ro)))))), (zp, .inl (G.2 3, np, .inr (.inr (.inr (.inr (kRn np rp)))))), (zw, .inl (G.2 0, nn, .inl (kI ww))), (q_4, .inl (G.2 0, 7, .inl (kI (va_up (va_up (va_up (va_up (va_up (fun _ => 0) 0 mi) 1 nn) 2 np) 3 op9) 4 (mSum (zHas SS nn) nn)))))] ++ va_pl L1 f1) H := hP
              have hD : va_D A ([(zs, .inr (5, [.int (nI mi), .ref za, .ref zw, .ref zq, .ref zp])), (za, .inl (G.2 0, nn, .inl (kI ar))), (zq, .inl (G.2 4, nn, .inr (.inr (.inr (.inr (kRn nn ro)))))), (zp, .inl (G.2 3, np, .inr (.inr (.inr (.inr (kRn np rp)))))), (zw, .inl (G.2 0, nn, .inl (kI ww))), (q_4, .inl (G.2 0, 7, .inl (kI (va_up (va_up (va_up (va_up (va_up (fun _ => 0) 0 mi) 1 nn) 2 np) 3 op9) 4 (mSum (zHas SS nn) nn)))))] ++ va_pl L1 f1) := hD
              refine lv_dup hx hb dX5_isSame_644 rfl ?_
              refine lv_iconst (v := (nI 5)) hx hb dX5_isSame_645 (by decide) ?_
              refine lv_iload_n hx hb dX5_isSame_646 rfl (lv_at hl 3 rfl) ?_
              refine kr_iast (k := 5) (g := (kI (va_up (va_up (va_up (va_up (va_up (va_up (fun _ => 0) 0 mi) 1 nn) 2 np) 3 op9) 4 (mSum (zHas SS nn) nn)) 5 le9))) hx hb hK hP hD hS 5 0 rfl rfl (by decide) (by decide) (kI_up (va_up (va_up (va_up (va_up (va_up (fun _ => 0) 0 mi) 1 nn) 2 np) 3 op9) 4 (mSum (zHas SS nn) nn)) 5 le9) dX5_isSame_647 (fun H locs hP hD hS => ?_)
              have hP : va_P G.1 vwCl ([(zs, .inr (5, [.int (nI mi), .ref za, .ref zw, .ref zq, .ref zp])), (za, .inl (G.2 0, nn, .inl (kI ar))), (zq, .inl (G.2 4, nn, .inr (.inr (.inr (.inr (kRn nn ro)))))), (zp, .inl (G.2 3, np, .inr (.inr (.inr (.inr (kRn np rp)))))), (zw, .inl (G.2 0, nn, .inl (kI ww))), (q_4, .inl (G.2 0, 7, .inl (kI (va_up (va_up (va_up (va_up (va_up (va_up (fun _ => 0) 0 mi) 1 nn) 2 np) 3 op9) 4 (mSum (zHas SS nn) nn)) 5 le9))))] ++ va_pl L1 f1) H := hP
              have hD : va_D A ([(zs, .inr (5, [.int (nI mi), .ref za, .ref zw, .ref zq, .ref zp])), (za, .inl (G.2 0, nn, .inl (kI ar))), (zq, .inl (G.2 4, nn, .inr (.inr (.inr (.inr (kRn nn ro)))))), (zp, .inl (G.2 3, np, .inr (.inr (.inr (.inr (kRn np rp)))))), (zw, .inl (G.2 0, nn, .inl (kI ww))), (q_4, .inl (G.2 0, 7, .inl (kI (va_up (va_up (va_up (va_up (va_up (va_up (fun _ => 0) 0 mi) 1 nn) 2 np) 3 op9) 4 (mSum (zHas SS nn) nn)) 5 le9))))] ++ va_pl L1 f1) := hD
              refine lv_dup hx hb dX5_isSame_648 rfl ?_
              refine lv_bipush (v := (nI 6)) hx hb dX5_isSame_649 (by decide) ?_
              refine lv_aload_n hx hb dX5_isSame_651 rfl (lv_at hl 5 rfl) ?_
              refine lv_iconst (v := (nI 0)) hx hb dX5_isSame_652 (by decide) ?_
              have hPc : va_P G.1 vwCl ([(zs, .inr (5, [.int (nI mi), .ref za, .ref zw, .ref zq, .ref zp])), (za, .inl (G.2 0, nn, .inl (kI ar))), (zq, .inl (G.2 4, nn, .inr (.inr (.inr (.inr (kRn nn ro)))))), (zp, .inl (G.2 3, np, .inr (.inr (.inr (.inr (kRn np rp))))))] ++ va_pl L1 f1) _ := hP.part (cx := [(zs, .inr (5, [.int (nI mi), .ref za, .ref zw, .ref zq, .ref zp])), (za, .inl (G.2 0, nn, .inl (kI ar))), (zq, .inl (G.2 4, nn, .inr (.inr (.inr (.inr (kRn nn ro)))))), (zp, .inl (G.2 3, np, .inr (.inr (.inr (.inr (kRn np rp))))))]) [0, 1, 2, 3] rfl
              have hDc : va_D A ([(zs, .inr (5, [.int (nI mi), .ref za, .ref zw, .ref zq, .ref zp])), (za, .inl (G.2 0, nn, .inl (kI ar))), (zq, .inl (G.2 4, nn, .inr (.inr (.inr (.inr (kRn nn ro)))))), (zp, .inl (G.2 3, np, .inr (.inr (.inr (.inr (kRn np rp))))))] ++ va_pl L1 f1) := hD.part (cx := [(zs, .inr (5, [.int (nI mi), .ref za, .ref zw, .ref zq, .ref zp])), (za, .inl (G.2 0, nn, .inl (kI ar))), (zq, .inl (G.2 4, nn, .inr (.inr (.inr (.inr (kRn nn ro)))))), (zp, .inl (G.2 3, np, .inr (.inr (.inr (.inr (kRn np rp))))))]) [0, 1, 2, 3] (by decide) rfl
              have hFc : ∀ zq9 : Nat, va_A ([(zs, .inr (5, [.int (nI mi), .ref za, .ref zw, .ref zq, .ref zp])), (za, .inl (G.2 0, nn, .inl (kI ar))), (zq, .inl (G.2 4, nn, .inr (.inr (.inr (.inr (kRn nn ro)))))), (zp, .inl (G.2 3, np, .inr (.inr (.inr (.inr (kRn np rp))))))] ++ va_pl L1 f1) _ zq9 → A zq9 := va_freeP (cx := [(zs, .inr (5, [.int (nI mi), .ref za, .ref zw, .ref zq, .ref zp])), (za, .inl (G.2 0, nn, .inl (kI ar))), (zq, .inl (G.2 4, nn, .inr (.inr (.inr (.inr (kRn nn ro)))))), (zp, .inl (G.2 3, np, .inr (.inr (.inr (.inr (kRn np rp))))))]) hD hS hA [0, 1, 2, 3] rfl
              refine va_calli (va_runV (As := [.int (nI 0)]) (rest := [.int (nI 6), .ref q_4, .ref q_4]) ⟨hx, hb, hml, hown, hts⟩ (c_X5_pairs l G _ zs za zw zq zp nn np mi L1 f1 ro rr rp fs sn ln op SS ar ww hrw hrr hrp (by omega) (by omega) hfs hsn hln hen (by omega)) (cwV 1 hts gX5_isSame_X5_pairs rfl rfl rfl (by decide +kernel) ⟨Nat.le_of_ble_eq_true rfl, Nat.le_of_ble_eq_true rfl⟩) (kPreM_V (ws := ([(zs, .inr (5, [.int (nI mi), .ref za, .ref zw, .ref zq, .ref zp])), (za, .inl (G.2 0, nn, .inl (kI ar))), (zq, .inl (G.2 4, nn, .inr (.inr (.inr (.inr (kRn nn ro)))))), (zp, .inl (G.2 3, np, .inr (.inr (.inr (.inr (kRn np rp))))))] ++ va_pl L1 f1)) hK hPc hDc (RX5, TX5, 5) 0 rfl rfl) rfl rfl hl.1 rfl (lv_room (Nat.le_of_ble_eq_true rfl)) dX5_isSame_653 ⟨(show 176 * h + 1 + 49 ≤ 1300 from by omega), (show 1203 * h + 7 + 343 ≤ 9000 from by omega)⟩) hS (fun q _ h => hFc q h) hFc (fun r_5 u t H1 locs ht hvm hw hB hz1 hk1 hS => ?_)
              obtain ⟨hP1, hD1⟩ := hB
              rw [ht] at hP1
              try dsimp only at hw hP1 hD1
              obtain ⟨hP, hD⟩ := va_joinP (cx := [(zs, .inr (5, [.int (nI mi), .ref za, .ref zw, .ref zq, .ref zp])), (za, .inl (G.2 0, nn, .inl (kI ar))), (zq, .inl (G.2 4, nn, .inr (.inr (.inr (.inr (kRn nn ro)))))), (zp, .inl (G.2 3, np, .inr (.inr (.inr (.inr (kRn np rp))))))]) (wr := [(zw, .inl (G.2 0, nn, .inl (kI ww))), (q_4, .inl (G.2 0, 7, .inl (kI (va_up (va_up (va_up (va_up (va_up (va_up (fun _ => 0) 0 mi) 1 nn) 2 np) 3 op9) 4 (mSum (zHas SS nn) nn)) 5 le9))))]) (rx := [(zs, .inr (5, [.int (nI mi), .ref za, .ref zw, .ref zq, .ref zp])), (za, .inl (G.2 0, nn, .inl (kI ar))), (zq, .inl (G.2 4, nn, .inr (.inr (.inr (.inr (kRn nn ro)))))), (zp, .inl (G.2 3, np, .inr (.inr (.inr (.inr (kRn np rp))))))]) hP hD [0, 1, 2, 3] [4, 5] rfl rfl (by decide) (by decide) hk1 hFc hP1 hD1
              clear hPc hDc hFc hP1 hD1 hk1 hz1 ht
              skip
              generalize H1 = H at hP hS ⊢
              have hP : va_P G.1 vwCl ([(zw, .inl (G.2 0, nn, .inl (kI ww))), (q_4, .inl (G.2 0, 7, .inl (kI (va_up (va_up (va_up (va_up (va_up (va_up (fun _ => 0) 0 mi) 1 nn) 2 np) 3 op9) 4 (mSum (zHas SS nn) nn)) 5 le9)))), (zs, .inr (5, [.int (nI mi), .ref za, .ref zw, .ref zq, .ref zp])), (za, .inl (G.2 0, nn, .inl (kI ar))), (zq, .inl (G.2 4, nn, .inr (.inr (.inr (.inr (kRn nn ro)))))), (zp, .inl (G.2 3, np, .inr (.inr (.inr (.inr (kRn np rp))))))] ++ va_pl L1 f1) H := hP
              have hD : va_D A ([(zw, .inl (G.2 0, nn, .inl (kI ww))), (q_4, .inl (G.2 0, 7, .inl (kI (va_up (va_up (va_up (va_up (va_up (va_up (fun _ => 0) 0 mi) 1 nn) 2 np) 3 op9) 4 (mSum (zHas SS nn) nn)) 5 le9)))), (zs, .inr (5, [.int (nI mi), .ref za, .ref zw, .ref zq, .ref zp])), (za, .inl (G.2 0, nn, .inl (kI ar))), (zq, .inl (G.2 4, nn, .inr (.inr (.inr (.inr (kRn nn ro)))))), (zp, .inl (G.2 3, np, .inr (.inr (.inr (.inr (kRn np rp))))))] ++ va_pl L1 f1) := hD
              refine W.widen (k := 176 * h + 1 + 49) (n := 1203 * h + 7 + 343) (Nat.le_refl _) (Nat.le_refl _) ?_
              have hw_6 := hw
              subst hw_6
              refine kr_iast (k := 6) (g := (kI (va_up (va_up (va_up (va_up (va_up (va_up (va_up (fun _ => 0) 0 mi) 1 nn) 2 np) 3 op9) 4 (mSum (zHas SS nn) nn)) 5 le9) 6 (mSum (fun a => mCnt (fun b => a != b && decide (zFar (zStT ln op) fs sn np nn b a < 99999999)) nn) nn)))) hx hb hK hP hD hS 1 0 rfl rfl (by decide) (by decide) (kI_up (va_up (va_up (va_up (va_up (va_up (va_up (fun _ => 0) 0 mi) 1 nn) 2 np) 3 op9) 4 (mSum (zHas SS nn) nn)) 5 le9) 6 (mSum (fun a => mCnt (fun b => a != b && decide (zFar (zStT ln op) fs sn np nn b a < 99999999)) nn) nn)) dX5_isSame_656 (fun H locs hP hD hS => ?_)
              have hP : va_P G.1 vwCl ([(zw, .inl (G.2 0, nn, .inl (kI ww))), (q_4, .inl (G.2 0, 7, .inl (kI (va_up (va_up (va_up (va_up (va_up (va_up (va_up (fun _ => 0) 0 mi) 1 nn) 2 np) 3 op9) 4 (mSum (zHas SS nn) nn)) 5 le9) 6 (mSum (fun a => mCnt (fun b => a != b && decide (zFar (zStT ln op) fs sn np nn b a < 99999999)) nn) nn))))), (zs, .inr (5, [.int (nI mi), .ref za, .ref zw, .ref zq, .ref zp])), (za, .inl (G.2 0, nn, .inl (kI ar))), (zq, .inl (G.2 4, nn, .inr (.inr (.inr (.inr (kRn nn ro)))))), (zp, .inl (G.2 3, np, .inr (.inr (.inr (.inr (kRn np rp))))))] ++ va_pl L1 f1) H := hP
              have hD : va_D A ([(zw, .inl (G.2 0, nn, .inl (kI ww))), (q_4, .inl (G.2 0, 7, .inl (kI (va_up (va_up (va_up (va_up (va_up (va_up (va_up (fun _ => 0) 0 mi) 1 nn) 2 np) 3 op9) 4 (mSum (zHas SS nn) nn)) 5 le9) 6 (mSum (fun a => mCnt (fun b => a != b && decide (zFar (zStT ln op) fs sn np nn b a < 99999999)) nn) nn))))), (zs, .inr (5, [.int (nI mi), .ref za, .ref zw, .ref zq, .ref zp])), (za, .inl (G.2 0, nn, .inl (kI ar))), (zq, .inl (G.2 4, nn, .inr (.inr (.inr (.inr (kRn nn ro)))))), (zp, .inl (G.2 3, np, .inr (.inr (.inr (.inr (kRn np rp))))))] ++ va_pl L1 f1) := hD
              refine lv_astore (lv' := [(7, .ref q_4), (6, .int (nI (mSum (zHas SS nn) nn))), (5, .int (nI op9)), (4, .int (nI ag9)), (3, .int (nI le9)), (2, .int (nI nn)), (0, .ref zs), (1, .ref hM)]) hx hb dX5_isSame_657 hl (by decide) rfl (fun ls hl => ?_)
              refine lv_iconst (v := (nI 0)) hx hb dX5_isSame_659 (by decide) ?_
              refine lv_istore (lv' := [(8, .int (nI 0)), (7, .ref q_4), (6, .int (nI (mSum (zHas SS nn) nn))), (5, .int (nI op9)), (4, .int (nI ag9)), (3, .int (nI le9)), (2, .int (nI nn)), (0, .ref zs), (1, .ref hM)]) hx hb dX5_isSame_660 hl (by decide) rfl (fun ls hl => ?_)
              have hc_662 : ∀ (n : Nat) (wh : Nat) (M2 L2 : List Nat) (f2 : Nat → va_E), 7 - wh < n → wh ≤ 7 → kObj G hM nn np mi fs sn ln op SS ar ww M2 f2 → (∀ a ∈ M2, a ∈ L2) → kSim G nn np mi M2 L2 f2 ro rr rp fs sn ln op SS → ∀ (H : Heap) (locs : List Loc), va_P G.1 vwCl ([(zw, .inl (G.2 0, nn, .inl (kI ww))), (q_4, .inl (G.2 0, 7, .inl (kI (va_up (va_up (va_up (va_up (va_up (va_up (va_up (fun _ => 0) 0 mi) 1 nn) 2 np) 3 op9) 4 (mSum (zHas SS nn) nn)) 5 le9) 6 (mSum (fun a => mCnt (fun b => a != b && decide (zFar (zStT ln op) fs sn np nn b a < 99999999)) nn) nn))))), (zs, .inr (5, [.int (nI mi), .ref za, .ref zw, .ref zq, .ref zp])), (za, .inl (G.2 0, nn, .inl (kI ar))), (zq, .inl (G.2 4, nn, .inr (.inr (.inr (.inr (kRn nn ro)))))), (zp, .inl (G.2 3, np, .inr (.inr (.inr (.inr (kRn np rp))))))] ++ va_pl L2 f2) H → va_D A ([(zw, .inl (G.2 0, nn, .inl (kI ww))), (q_4, .inl (G.2 0, 7, .inl (kI (va_up (va_up (va_up (va_up (va_up (va_up (va_up (fun _ => 0) 0 mi) 1 nn) 2 np) 3 op9) 4 (mSum (zHas SS nn) nn)) 5 le9) 6 (mSum (fun a => mCnt (fun b => a != b && decide (zFar (zStT ln op) fs sn np nn b a < 99999999)) nn) nn))))), (zs, .inr (5, [.int (nI mi), .ref za, .ref zw, .ref zq, .ref zp])), (za, .inl (G.2 0, nn, .inl (kI ar))), (zq, .inl (G.2 4, nn, .inr (.inr (.inr (.inr (kRn nn ro)))))), (zp, .inl (G.2 3, np, .inr (.inr (.inr (.inr (kRn np rp))))))] ++ va_pl L2 f2) → va_S A s.heap H locs → ∀ (ls : Array Slot), lv_has ls 15 [(8, .int (nI wh)), (7, .ref q_4), (6, .int (nI (mSum (zHas SS nn) nn))), (5, .int (nI op9)), (4, .int (nI ag9)), (3, .int (nI le9)), (2, .int (nI nn)), (0, .ref zs), (1, .ref hM)] → W p l e (headSpec wsX5_isSame ({ frames := 6, cells := 1300, slots := 9000, locals := 150 })).room s m [.ref zs, .ref hM].toArray below meth c H locs 1290 8900 (MQ below (va_Qi (fun (r : Int32) (u : List Nat × List Nat × (Nat → va_E)) => r = bI true ∧ kObj G hM nn np mi fs sn ln op SS ar ww u.1 u.2.2 ∧ (∀ a ∈ u.1, a ∈ u.2.1) ∧ kSim G nn np mi u.1 u.2.1 u.2.2 ro rr rp fs sn ln op SS) (fun (u : List Nat × List Nat × (Nat → va_E)) t => kA G A ([(zs, .inr (5, [.int (nI mi), .ref za, .ref zw, .ref zq, .ref zp])), (za, .inl (G.2 0, nn, .inl (kI ar))), (zq, .inl (G.2 4, nn, .inr (.inr (.inr (.inr (kRn nn ro)))))), (zp, .inl (G.2 3, np, .inr (.inr (.inr (.inr (kRn np rp)))))), (zw, .inl (G.2 0, nn, .inl (kI ww)))] ++ va_pl u.2.1 u.2.2) t) A) [.ref zs, .ref hM].toArray s 1300 9000 A) (F0 m 662 ls []) := by
                intro n
                induction n with
                | zero =>
                  intro wh M2 L2 f2 hmz; exact absurd hmz (Nat.not_lt_zero _)
                | succ n ih662 =>
                  intro wh M2 L2 f2 hmz hwh hob hML hsm H locs hP hD hS ls hl
                  refine lv_iload hx hb dX5_isSame_662 (lv_at hl 0 rfl) ?_
                  refine lv_bipush (v := (nI 7)) hx hb dX5_isSame_664 (by decide) ?_
                  refine kb_ge (tgt := 691) hx hb dX5_isSame_666 (by decide) (by omega) (by decide) (fun c_7 => ?_) (fun c_7 => ?_)
                  · refine lv_aload_n hx hb dX5_isSame_691 rfl (lv_at hl 8 rfl) ?_
                    have hPc : va_P G.1 vwCl ([] ++ va_pl L2 f2) _ := hP.part (cx := []) [] rfl
                    have hDc : va_D A ([] ++ va_pl L2 f2) := hD.part (cx := []) [] (by decide) rfl
                    have hFc : ∀ zq9 : Nat, va_A ([] ++ va_pl L2 f2) _ zq9 → A zq9 := va_freeP (cx := []) hD hS hA [] rfl
                    refine va_calld (va_runV (As := []) (rest := []) ⟨hx, hb, hml, hown, hts⟩ (c_X4_mean_o l G _ hM nn np mi fs sn ln op SS ar ww M2 L2 f2 hob hML hV (by omega)) (cwV 0 hts gX5_isSame_X4_mean rfl rfl rfl (by decide +kernel) ⟨Nat.le_of_ble_eq_true rfl, Nat.le_of_ble_eq_true rfl⟩) (kO_V hob hML hK hPc hDc) rfl rfl hl.1 rfl (lv_room (Nat.le_of_ble_eq_true rfl)) dX5_isSame_692 ⟨Nat.le_of_ble_eq_true rfl, Nat.le_of_ble_eq_true rfl⟩) hS (fun q _ h => hFc q h) hFc (fun r_8 u t H1 locs ht hvm hw hB hz1 hk1 hS => ?_)
                    obtain ⟨M_692, L_692, f_692⟩ := u
                    obtain ⟨hP1, hD1⟩ := hB
                    rw [ht] at hP1
                    try dsimp only at hw hP1 hD1
                    obtain ⟨hP, hD⟩ := va_joinP (cx := []) (wr := [(zw, .inl (G.2 0, nn, .inl (kI ww))), (q_4, .inl (G.2 0, 7, .inl (kI (va_up (va_up (va_up (va_up (va_up (va_up (va_up (fun _ => 0) 0 mi) 1 nn) 2 np) 3 op9) 4 (mSum (zHas SS nn) nn)) 5 le9) 6 (mSum (fun a => mCnt (fun b => a != b && decide (zFar (zStT ln op) fs sn np nn b a < 99999999)) nn) nn))))), (zs, .inr (5, [.int (nI mi), .ref za, .ref zw, .ref zq, .ref zp])), (za, .inl (G.2 0, nn, .inl (kI ar))), (zq, .inl (G.2 4, nn, .inr (.inr (.inr (.inr (kRn nn ro)))))), (zp, .inl (G.2 3, np, .inr (.inr (.inr (.inr (kRn np rp))))))]) (rx := []) hP hD [] [0, 1, 2, 3, 4, 5] rfl rfl (by decide) (by decide) hk1 hFc hP1 hD1
                    clear hPc hDc hFc hP1 hD1 hk1 hz1 ht
                    skip
                    generalize H1 = H at hP hS ⊢
                    have hP : va_P G.1 vwCl ([(zw, .inl (G.2 0, nn, .inl (kI ww))), (q_4, .inl (G.2 0, 7, .inl (kI (va_up (va_up (va_up (va_up (va_up (va_up (va_up (fun _ => 0) 0 mi) 1 nn) 2 np) 3 op9) 4 (mSum (zHas SS nn) nn)) 5 le9) 6 (mSum (fun a => mCnt (fun b => a != b && decide (zFar (zStT ln op) fs sn np nn b a < 99999999)) nn) nn))))), (zs, .inr (5, [.int (nI mi), .ref za, .ref zw, .ref zq, .ref zp])), (za, .inl (G.2 0, nn, .inl (kI ar))), (zq, .inl (G.2 4, nn, .inr (.inr (.inr (.inr (kRn nn ro)))))), (zp, .inl (G.2 3, np, .inr (.inr (.inr (.inr (kRn np rp))))))] ++ va_pl L_692 f_692) H := hP
                    have hD : va_D A ([(zw, .inl (G.2 0, nn, .inl (kI ww))), (q_4, .inl (G.2 0, 7, .inl (kI (va_up (va_up (va_up (va_up (va_up (va_up (va_up (fun _ => 0) 0 mi) 1 nn) 2 np) 3 op9) 4 (mSum (zHas SS nn) nn)) 5 le9) 6 (mSum (fun a => mCnt (fun b => a != b && decide (zFar (zStT ln op) fs sn np nn b a < 99999999)) nn) nn))))), (zs, .inr (5, [.int (nI mi), .ref za, .ref zw, .ref zq, .ref zp])), (za, .inl (G.2 0, nn, .inl (kI ar))), (zq, .inl (G.2 4, nn, .inr (.inr (.inr (.inr (kRn nn ro)))))), (zp, .inl (G.2 3, np, .inr (.inr (.inr (.inr (kRn np rp))))))] ++ va_pl L_692 f_692) := hD
                    refine W.widen (k := 1290) (n := 8900) (Nat.le_refl _) (Nat.le_refl _) ?_
                    have hw_9 := hw
                    obtain ⟨hr_8, hob, hfr⟩ := hw_9
                    have hML := hfr.1
                    have hsm := hsm.fr hfr
                    obtain ⟨hrw, hrr, hrp, hrM, hqM, hpM, hroi, hrpi, hrq⟩ := id hsm
                    rw [zS_has hV, zS_ages hV, ← hag7] at hr_8
                    subst hr_8
                    refine lv_iload hx hb dX5_isSame_695 (lv_at hl 2 rfl) ?_
                    refine kb_ne0 (tgt := 704) hx hb dX5_isSame_697 (by decide) (by have := zHas_sum (SS := SS) hnn; omega) (fun c_10 => ?_) (fun c_10 => ?_)
                    · have hsh : ¬ (mSum (zHas SS nn) nn) = 0 := by omega
                      refine lv_iload hx hb dX5_isSame_704 (lv_at hl 4 rfl) ?_
                      refine lv_i2d hx hb dX5_isSame_706 ?_
                      refine lv_iload hx hb dX5_isSame_707 (lv_at hl 2 rfl) ?_
                      refine lv_i2d hx hb dX5_isSame_709 ?_
                      refine lv_ddiv hx hb dX5_isSame_710 (kd_div _ (nI_ne0 (by omega) (by have := zHas_sum (SS := SS) hnn; omega))) ?_
                      refine lv_dcmp hx hb dX5_isSame_711 ?_
                      refine kr_top (show Op.cmpValue (FP.dcmp (mMean (mSum (zHas SS nn) nn) ag9) (FP.ddiv (FP.i2d (nI ag9)) (FP.i2d (nI (mSum (zHas SS nn) nn))))) .l = nI 0 from by rw [← (mMean_s hsh : mMean (mSum (zHas SS nn) nn) ag9 = _), mMean_self (by have := zHas_sum (SS := SS) hnn; omega)]; rfl) ?_
                      refine kb_ne0 (tgt := 719) hx hb dX5_isSame_712 (by decide) (by decide) (fun c_11 => ?_) (fun c_11 => ?_)
                      · exfalso; omega
                      · refine lv_iconst (v := (nI 1)) hx hb dX5_isSame_715 (by decide) ?_
                        refine lv_goto (tgt := 720) hx hb dX5_isSame_716 (by decide) ?_
                        have hP9 : va_P G.1 vwCl ([(zs, .inr (5, [.int (nI mi), .ref za, .ref zw, .ref zq, .ref zp])), (za, .inl (G.2 0, nn, .inl (kI ar))), (zq, .inl (G.2 4, nn, .inr (.inr (.inr (.inr (kRn nn ro)))))), (zp, .inl (G.2 3, np, .inr (.inr (.inr (.inr (kRn np rp)))))), (zw, .inl (G.2 0, nn, .inl (kI ww)))] ++ va_pl L_692 f_692) _ := hP.part (cx := [(zs, .inr (5, [.int (nI mi), .ref za, .ref zw, .ref zq, .ref zp])), (za, .inl (G.2 0, nn, .inl (kI ar))), (zq, .inl (G.2 4, nn, .inr (.inr (.inr (.inr (kRn nn ro)))))), (zp, .inl (G.2 3, np, .inr (.inr (.inr (.inr (kRn np rp)))))), (zw, .inl (G.2 0, nn, .inl (kI ww)))]) [2, 3, 4, 5, 0] rfl
                        have hD9 : va_D A ([(zs, .inr (5, [.int (nI mi), .ref za, .ref zw, .ref zq, .ref zp])), (za, .inl (G.2 0, nn, .inl (kI ar))), (zq, .inl (G.2 4, nn, .inr (.inr (.inr (.inr (kRn nn ro)))))), (zp, .inl (G.2 3, np, .inr (.inr (.inr (.inr (kRn np rp)))))), (zw, .inl (G.2 0, nn, .inl (kI ww)))] ++ va_pl L_692 f_692) := hD.part (cx := [(zs, .inr (5, [.int (nI mi), .ref za, .ref zw, .ref zq, .ref zp])), (za, .inl (G.2 0, nn, .inl (kI ar))), (zq, .inl (G.2 4, nn, .inr (.inr (.inr (.inr (kRn nn ro)))))), (zp, .inl (G.2 3, np, .inr (.inr (.inr (.inr (kRn np rp)))))), (zw, .inl (G.2 0, nn, .inl (kI ww)))]) [2, 3, 4, 5, 0] (by decide) rfl
                        refine W.widen (k := 1300) (n := 9000) (Nat.le_of_ble_eq_true rfl) (Nat.le_of_ble_eq_true rfl) ?_
                        exact km_zret (v := (nI 1)) (post := fun (r : Int32) (u : List Nat × List Nat × (Nat → va_E)) => r = bI true ∧ kObj G hM nn np mi fs sn ln op SS ar ww u.1 u.2.2 ∧ (∀ a ∈ u.1, a ∈ u.2.1) ∧ kSim G nn np mi u.1 u.2.1 u.2.2 ro rr rp fs sn ln op SS) (wo := fun (u : List Nat × List Nat × (Nat → va_E)) => ([(zs, .inr (5, [.int (nI mi), .ref za, .ref zw, .ref zq, .ref zp])), (za, .inl (G.2 0, nn, .inl (kI ar))), (zq, .inl (G.2 4, nn, .inr (.inr (.inr (.inr (kRn nn ro)))))), (zp, .inl (G.2 3, np, .inr (.inr (.inr (.inr (kRn np rp)))))), (zw, .inl (G.2 0, nn, .inl (kI ww)))] ++ va_pl u.2.1 u.2.2)) (M_692, L_692, f_692) hx hb hr hlocks rfl hS hP9 hD9 (⟨by decide, hob, hML, hsm⟩) dX5_isSame_720
                    · have hsh : (mSum (zHas SS nn) nn) = 0 := by omega
                      refine lv_dconst0 hx hb dX5_isSame_700 ?_
                      refine lv_goto (tgt := 711) hx hb dX5_isSame_701 (by decide) ?_
                      refine lv_dcmp hx hb dX5_isSame_711 ?_
                      refine kr_top (show Op.cmpValue (FP.dcmp (mMean (mSum (zHas SS nn) nn) ag9) FP.dconst0) .l = nI 0 from by rw [← (mMean_0 hsh : mMean (mSum (zHas SS nn) nn) ag9 = _), mMean_self (by have := zHas_sum (SS := SS) hnn; omega)]; rfl) ?_
                      refine kb_ne0 (tgt := 719) hx hb dX5_isSame_712 (by decide) (by decide) (fun c_12 => ?_) (fun c_12 => ?_)
                      · exfalso; omega
                      · refine lv_iconst (v := (nI 1)) hx hb dX5_isSame_715 (by decide) ?_
                        refine lv_goto (tgt := 720) hx hb dX5_isSame_716 (by decide) ?_
                        have hP9 : va_P G.1 vwCl ([(zs, .inr (5, [.int (nI mi), .ref za, .ref zw, .ref zq, .ref zp])), (za, .inl (G.2 0, nn, .inl (kI ar))), (zq, .inl (G.2 4, nn, .inr (.inr (.inr (.inr (kRn nn ro)))))), (zp, .inl (G.2 3, np, .inr (.inr (.inr (.inr (kRn np rp)))))), (zw, .inl (G.2 0, nn, .inl (kI ww)))] ++ va_pl L_692 f_692) _ := hP.part (cx := [(zs, .inr (5, [.int (nI mi), .ref za, .ref zw, .ref zq, .ref zp])), (za, .inl (G.2 0, nn, .inl (kI ar))), (zq, .inl (G.2 4, nn, .inr (.inr (.inr (.inr (kRn nn ro)))))), (zp, .inl (G.2 3, np, .inr (.inr (.inr (.inr (kRn np rp)))))), (zw, .inl (G.2 0, nn, .inl (kI ww)))]) [2, 3, 4, 5, 0] rfl
                        have hD9 : va_D A ([(zs, .inr (5, [.int (nI mi), .ref za, .ref zw, .ref zq, .ref zp])), (za, .inl (G.2 0, nn, .inl (kI ar))), (zq, .inl (G.2 4, nn, .inr (.inr (.inr (.inr (kRn nn ro)))))), (zp, .inl (G.2 3, np, .inr (.inr (.inr (.inr (kRn np rp)))))), (zw, .inl (G.2 0, nn, .inl (kI ww)))] ++ va_pl L_692 f_692) := hD.part (cx := [(zs, .inr (5, [.int (nI mi), .ref za, .ref zw, .ref zq, .ref zp])), (za, .inl (G.2 0, nn, .inl (kI ar))), (zq, .inl (G.2 4, nn, .inr (.inr (.inr (.inr (kRn nn ro)))))), (zp, .inl (G.2 3, np, .inr (.inr (.inr (.inr (kRn np rp)))))), (zw, .inl (G.2 0, nn, .inl (kI ww)))]) [2, 3, 4, 5, 0] (by decide) rfl
                        refine W.widen (k := 1300) (n := 9000) (Nat.le_of_ble_eq_true rfl) (Nat.le_of_ble_eq_true rfl) ?_
                        exact km_zret (v := (nI 1)) (post := fun (r : Int32) (u : List Nat × List Nat × (Nat → va_E)) => r = bI true ∧ kObj G hM nn np mi fs sn ln op SS ar ww u.1 u.2.2 ∧ (∀ a ∈ u.1, a ∈ u.2.1) ∧ kSim G nn np mi u.1 u.2.1 u.2.2 ro rr rp fs sn ln op SS) (wo := fun (u : List Nat × List Nat × (Nat → va_E)) => ([(zs, .inr (5, [.int (nI mi), .ref za, .ref zw, .ref zq, .ref zp])), (za, .inl (G.2 0, nn, .inl (kI ar))), (zq, .inl (G.2 4, nn, .inr (.inr (.inr (.inr (kRn nn ro)))))), (zp, .inl (G.2 3, np, .inr (.inr (.inr (.inr (kRn np rp)))))), (zw, .inl (G.2 0, nn, .inl (kI ww)))] ++ va_pl u.2.1 u.2.2)) (M_692, L_692, f_692) hx hb hr hlocks rfl hS hP9 hD9 (⟨by decide, hob, hML, hsm⟩) dX5_isSame_720
                  · refine lv_aload_n hx hb dX5_isSame_669 rfl (lv_at hl 8 rfl) ?_
                    refine lv_iload hx hb dX5_isSame_670 (lv_at hl 0 rfl) ?_
                    have hPc : va_P G.1 vwCl ([] ++ va_pl L2 f2) _ := hP.part (cx := []) [] rfl
                    have hDc : va_D A ([] ++ va_pl L2 f2) := hD.part (cx := []) [] (by decide) rfl
                    have hFc : ∀ zq9 : Nat, va_A ([] ++ va_pl L2 f2) _ zq9 → A zq9 := va_freeP (cx := []) hD hS hA [] rfl
                    refine va_calli (va_runV (As := [.int (nI wh)]) (rest := []) ⟨hx, hb, hml, hown, hts⟩ (c_X4_count_o l G _ hM nn np mi fs sn ln op SS ar ww M2 L2 f2 wh hob hML hV (by omega) (by omega)) (cwV 1 hts gX5_isSame_X4_count rfl rfl rfl (by decide +kernel) ⟨Nat.le_of_ble_eq_true rfl, Nat.le_of_ble_eq_true rfl⟩) (kO_V hob hML hK hPc hDc) rfl rfl hl.1 rfl (lv_room (Nat.le_of_ble_eq_true rfl)) dX5_isSame_672 ⟨Nat.le_of_ble_eq_true rfl, Nat.le_of_ble_eq_true rfl⟩) hS (fun q _ h => hFc q h) hFc (fun r_13 u t H1 locs ht hvm hw hB hz1 hk1 hS => ?_)
                    obtain ⟨M_672, L_672, f_672⟩ := u
                    obtain ⟨hP1, hD1⟩ := hB
                    rw [ht] at hP1
                    try dsimp only at hw hP1 hD1
                    obtain ⟨hP, hD⟩ := va_joinP (cx := []) (wr := [(zw, .inl (G.2 0, nn, .inl (kI ww))), (q_4, .inl (G.2 0, 7, .inl (kI (va_up (va_up (va_up (va_up (va_up (va_up (va_up (fun _ => 0) 0 mi) 1 nn) 2 np) 3 op9) 4 (mSum (zHas SS nn) nn)) 5 le9) 6 (mSum (fun a => mCnt (fun b => a != b && decide (zFar (zStT ln op) fs sn np nn b a < 99999999)) nn) nn))))), (zs, .inr (5, [.int (nI mi), .ref za, .ref zw, .ref zq, .ref zp])), (za, .inl (G.2 0, nn, .inl (kI ar))), (zq, .inl (G.2 4, nn, .inr (.inr (.inr (.inr (kRn nn ro)))))), (zp, .inl (G.2 3, np, .inr (.inr (.inr (.inr (kRn np rp))))))]) (rx := []) hP hD [] [0, 1, 2, 3, 4, 5] rfl rfl (by decide) (by decide) hk1 hFc hP1 hD1
                    clear hPc hDc hFc hP1 hD1 hk1 hz1 ht
                    skip
                    generalize H1 = H at hP hS ⊢
                    have hP : va_P G.1 vwCl ([(zw, .inl (G.2 0, nn, .inl (kI ww))), (q_4, .inl (G.2 0, 7, .inl (kI (va_up (va_up (va_up (va_up (va_up (va_up (va_up (fun _ => 0) 0 mi) 1 nn) 2 np) 3 op9) 4 (mSum (zHas SS nn) nn)) 5 le9) 6 (mSum (fun a => mCnt (fun b => a != b && decide (zFar (zStT ln op) fs sn np nn b a < 99999999)) nn) nn))))), (zs, .inr (5, [.int (nI mi), .ref za, .ref zw, .ref zq, .ref zp])), (za, .inl (G.2 0, nn, .inl (kI ar))), (zq, .inl (G.2 4, nn, .inr (.inr (.inr (.inr (kRn nn ro)))))), (zp, .inl (G.2 3, np, .inr (.inr (.inr (.inr (kRn np rp))))))] ++ va_pl L_672 f_672) H := hP
                    have hD : va_D A ([(zw, .inl (G.2 0, nn, .inl (kI ww))), (q_4, .inl (G.2 0, 7, .inl (kI (va_up (va_up (va_up (va_up (va_up (va_up (va_up (fun _ => 0) 0 mi) 1 nn) 2 np) 3 op9) 4 (mSum (zHas SS nn) nn)) 5 le9) 6 (mSum (fun a => mCnt (fun b => a != b && decide (zFar (zStT ln op) fs sn np nn b a < 99999999)) nn) nn))))), (zs, .inr (5, [.int (nI mi), .ref za, .ref zw, .ref zq, .ref zp])), (za, .inl (G.2 0, nn, .inl (kI ar))), (zq, .inl (G.2 4, nn, .inr (.inr (.inr (.inr (kRn nn ro)))))), (zp, .inl (G.2 3, np, .inr (.inr (.inr (.inr (kRn np rp))))))] ++ va_pl L_672 f_672) := hD
                    refine W.widen (k := 1290) (n := 8900) (Nat.le_refl _) (Nat.le_refl _) ?_
                    have hw_14 := hw
                    obtain ⟨hr_13, hob, hfr⟩ := hw_14
                    have hML := hfr.1
                    have hsm := hsm.fr hfr
                    obtain ⟨hrw, hrr, hrp, hrM, hqM, hpM, hroi, hrpi, hrq⟩ := id hsm
                    rw [zS_count (a3 := op9) hop9 (zS_has hV).symm (show le9 = mPairs (fun i => vWay SS fs sn np i) (mSt fs sn op np) nn from hle9) (zS_pairs hV) (by omega)] at hr_13
                    subst hr_13
                    refine lv_aload hx hb dX5_isSame_675 (lv_at hl 1 rfl) ?_
                    refine lv_iload hx hb dX5_isSame_677 (lv_at hl 0 rfl) ?_
                    refine kr_iald (k := wh) (v := (kI (va_up (va_up (va_up (va_up (va_up (va_up (va_up (fun _ => 0) 0 mi) 1 nn) 2 np) 3 op9) 4 (mSum (zHas SS nn) nn)) 5 le9) 6 (mSum (fun a => mCnt (fun b => a != b && decide (zFar (zStT ln op) fs sn np nn b a < 99999999)) nn) nn)) wh)) hx hb hK hP 1 0 rfl rfl (by omega) (by decide) rfl dX5_isSame_679 ?_
                    refine lv_icmp_eq (tgt := 685) hx hb dX5_isSame_680 (by decide) (fun c_15 => ?_) (fun c_15 => ?_)
                    · refine lv_iinc (k := 0) (v := (nI (wh + 1))) (lv' := [(8, .int (nI (wh + 1))), (7, .ref q_4), (6, .int (nI (mSum (zHas SS nn) nn))), (5, .int (nI op9)), (4, .int (nI ag9)), (3, .int (nI le9)), (2, .int (nI nn)), (0, .ref zs), (1, .ref hM)]) hx hb dX5_isSame_685 hl rfl (kn_inc wh) (by decide) rfl (fun ls hl => ?_)
                      refine lv_goto (tgt := 662) hx hb dX5_isSame_688 (by decide) ?_
                      exact ih662 (wh + 1) M_672 L_672 f_672 (by omega) (by omega) (by exact hob) (by exact hML) (by exact hsm) _ _ hP hD hS _ (lv_sub hl [0, 1, 2, 3, 4, 5, 6, 7, 8] rfl)
                    · exfalso; exact c_15 rfl
              refine W.widen (k := 1290) (n := 8900) (by omega) (by omega) ?_
              exact hc_662 (_ + 1) 0 M1 L1 f1 (Nat.lt_succ_self _) (by omega) (by exact hob) (by exact hML) (by exact hsm) _ _ hP hD hS _ (lv_sub hl [0, 1, 2, 3, 4, 5, 6, 7, 8] rfl)
            · refine lv_iconst (v := (nI 0)) hx hb dX5_isSame_494 (by decide) ?_
              refine lv_istore (lv' := [(7, .int (nI 0)), (6, .int (nI i)), (5, .int (nI op9)), (4, .int (nI ag9)), (3, .int (nI le9)), (2, .int (nI nn)), (0, .ref zs), (1, .ref hM)]) hx hb dX5_isSame_495 hl (by decide) rfl (fun ls hl => ?_)
              refine lv_iconst (v := (nI 0)) hx hb dX5_isSame_497 (by decide) ?_
              refine lv_istore (lv' := [(8, .int (nI 0)), (7, .int (nI 0)), (6, .int (nI i)), (5, .int (nI op9)), (4, .int (nI ag9)), (3, .int (nI le9)), (2, .int (nI nn)), (0, .ref zs), (1, .ref hM)]) hx hb dX5_isSame_498 hl (by decide) rfl (fun ls hl => ?_)
              have hc_500 : ∀ (n : Nat) (t9 a : Nat), nn - a < n → a ≤ nn → t9 = mCnt (fun h => vTOpen SS fs sn h i) a → ∀ (H : Heap) (locs : List Loc), va_P G.1 vwCl ([(zs, .inr (5, [.int (nI mi), .ref za, .ref zw, .ref zq, .ref zp])), (za, .inl (G.2 0, nn, .inl (kI ar))), (zq, .inl (G.2 4, nn, .inr (.inr (.inr (.inr (kRn nn ro)))))), (zp, .inl (G.2 3, np, .inr (.inr (.inr (.inr (kRn np rp)))))), (zw, .inl (G.2 0, nn, .inl (kI ww)))] ++ va_pl L1 f1) H → va_D A ([(zs, .inr (5, [.int (nI mi), .ref za, .ref zw, .ref zq, .ref zp])), (za, .inl (G.2 0, nn, .inl (kI ar))), (zq, .inl (G.2 4, nn, .inr (.inr (.inr (.inr (kRn nn ro)))))), (zp, .inl (G.2 3, np, .inr (.inr (.inr (.inr (kRn np rp)))))), (zw, .inl (G.2 0, nn, .inl (kI ww)))] ++ va_pl L1 f1) → va_S A s.heap H locs → ∀ (ls : Array Slot), lv_has ls 15 [(8, .int (nI a)), (7, .int (nI t9)), (6, .int (nI i)), (5, .int (nI op9)), (4, .int (nI ag9)), (3, .int (nI le9)), (2, .int (nI nn)), (0, .ref zs), (1, .ref hM)] → W p l e (headSpec wsX5_isSame ({ frames := 6, cells := 1300, slots := 9000, locals := 150 })).room s m [.ref zs, .ref hM].toArray below meth c H locs (176 * h) (1203 * h) (MQ below (va_Qi (fun (r : Int32) (u : List Nat × List Nat × (Nat → va_E)) => r = bI true ∧ kObj G hM nn np mi fs sn ln op SS ar ww u.1 u.2.2 ∧ (∀ a ∈ u.1, a ∈ u.2.1) ∧ kSim G nn np mi u.1 u.2.1 u.2.2 ro rr rp fs sn ln op SS) (fun (u : List Nat × List Nat × (Nat → va_E)) t => kA G A ([(zs, .inr (5, [.int (nI mi), .ref za, .ref zw, .ref zq, .ref zp])), (za, .inl (G.2 0, nn, .inl (kI ar))), (zq, .inl (G.2 4, nn, .inr (.inr (.inr (.inr (kRn nn ro)))))), (zp, .inl (G.2 3, np, .inr (.inr (.inr (.inr (kRn np rp)))))), (zw, .inl (G.2 0, nn, .inl (kI ww)))] ++ va_pl u.2.1 u.2.2) t) A) [.ref zs, .ref hM].toArray s 1300 9000 A) (F0 m 500 ls []) := by
                intro n
                induction n with
                | zero =>
                  intro t9 a hmz; exact absurd hmz (Nat.not_lt_zero _)
                | succ n ih500 =>
                  intro t9 a hmz ha ht H locs hP hD hS ls hl
                  refine lv_iload hx hb dX5_isSame_500 (lv_at hl 0 rfl) ?_
                  refine lv_iload_n hx hb dX5_isSame_502 rfl (lv_at hl 6 rfl) ?_
                  refine kb_ge (tgt := 533) hx hb dX5_isSame_503 (by decide) (by omega) (by omega) (fun c_16 => ?_) (fun c_16 => ?_)
                  · have ht9 : t9 = mCnt (fun h => vTOpen SS fs sn h i) nn := by rw [ht, show a = nn by omega]
                    refine lv_iconst (v := (nI 0)) hx hb dX5_isSame_533 (by decide) ?_
                    refine lv_istore (lv' := [(8, .int (nI 0)), (7, .int (nI t9)), (6, .int (nI i)), (5, .int (nI op9)), (4, .int (nI ag9)), (3, .int (nI le9)), (2, .int (nI nn)), (0, .ref zs), (1, .ref hM)]) hx hb dX5_isSame_534 hl (by decide) rfl (fun ls hl => ?_)
                    have hc_536 : ∀ (n : Nat) (wh : Nat), 4 - wh < n → wh ≤ 4 → ∀ (H : Heap) (locs : List Loc), va_P G.1 vwCl ([(zs, .inr (5, [.int (nI mi), .ref za, .ref zw, .ref zq, .ref zp])), (za, .inl (G.2 0, nn, .inl (kI ar))), (zq, .inl (G.2 4, nn, .inr (.inr (.inr (.inr (kRn nn ro)))))), (zp, .inl (G.2 3, np, .inr (.inr (.inr (.inr (kRn np rp)))))), (zw, .inl (G.2 0, nn, .inl (kI ww)))] ++ va_pl L1 f1) H → va_D A ([(zs, .inr (5, [.int (nI mi), .ref za, .ref zw, .ref zq, .ref zp])), (za, .inl (G.2 0, nn, .inl (kI ar))), (zq, .inl (G.2 4, nn, .inr (.inr (.inr (.inr (kRn nn ro)))))), (zp, .inl (G.2 3, np, .inr (.inr (.inr (.inr (kRn np rp)))))), (zw, .inl (G.2 0, nn, .inl (kI ww)))] ++ va_pl L1 f1) → va_S A s.heap H locs → ∀ (ls : Array Slot), lv_has ls 15 [(8, .int (nI wh)), (7, .int (nI t9)), (6, .int (nI i)), (5, .int (nI op9)), (4, .int (nI ag9)), (3, .int (nI le9)), (2, .int (nI nn)), (0, .ref zs), (1, .ref hM)] → W p l e (headSpec wsX5_isSame ({ frames := 6, cells := 1300, slots := 9000, locals := 150 })).room s m [.ref zs, .ref hM].toArray below meth c H locs (176 * h) (1203 * h) (MQ below (va_Qi (fun (r : Int32) (u : List Nat × List Nat × (Nat → va_E)) => r = bI true ∧ kObj G hM nn np mi fs sn ln op SS ar ww u.1 u.2.2 ∧ (∀ a ∈ u.1, a ∈ u.2.1) ∧ kSim G nn np mi u.1 u.2.1 u.2.2 ro rr rp fs sn ln op SS) (fun (u : List Nat × List Nat × (Nat → va_E)) t => kA G A ([(zs, .inr (5, [.int (nI mi), .ref za, .ref zw, .ref zq, .ref zp])), (za, .inl (G.2 0, nn, .inl (kI ar))), (zq, .inl (G.2 4, nn, .inr (.inr (.inr (.inr (kRn nn ro)))))), (zp, .inl (G.2 3, np, .inr (.inr (.inr (.inr (kRn np rp)))))), (zw, .inl (G.2 0, nn, .inl (kI ww)))] ++ va_pl u.2.1 u.2.2) t) A) [.ref zs, .ref hM].toArray s 1300 9000 A) (F0 m 536 ls []) := by
                      intro n
                      induction n with
                      | zero =>
                        intro wh hmz; exact absurd hmz (Nat.not_lt_zero _)
                      | succ n ih536 =>
                        intro wh hmz hwh H locs hP hD hS ls hl
                        refine lv_iload hx hb dX5_isSame_536 (lv_at hl 0 rfl) ?_
                        refine lv_iconst (v := (nI 4)) hx hb dX5_isSame_538 (by decide) ?_
                        refine kb_ge (tgt := 571) hx hb dX5_isSame_539 (by decide) (by omega) (by decide) (fun c_17 => ?_) (fun c_17 => ?_)
                        · refine lv_aload_n hx hb dX5_isSame_571 rfl (lv_at hl 8 rfl) ?_
                          refine lv_iload hx hb dX5_isSame_572 (lv_at hl 2 rfl) ?_
                          refine lv_iconst (v := (nI 4)) hx hb dX5_isSame_574 (by decide) ?_
                          refine vp_callSi (W.runV (As := [.int (nI i), .int (nI 4)]) (rest := []) ⟨hx, hb, hml, hown, hts⟩ (c_X4_about_o l G hM nn np mi fs sn ln op SS ar ww M1 L1 f1 i 4 hob hML hV (by omega) (by omega) (by omega)) (cwV 2 hts gX5_isSame_X4_about rfl rfl rfl (by decide +kernel) ⟨Nat.le_of_ble_eq_true rfl, Nat.le_of_ble_eq_true rfl⟩) (kO_VR hob hML hK (hP.part (cx := []) [] rfl)) rfl rfl hl.1 rfl (lv_room (Nat.le_of_ble_eq_true rfl)) dX5_isSame_575 ⟨(show 176 * h + 0 ≤ 1300 from by omega), (show 1203 * h + 0 ≤ 9000 from by omega)⟩) (fun r_18 hr_18 => ?_)
                          replace hr_18 : r_18 = nI t9 := hr_18.trans (by rw [ht9]; rfl)
                          subst hr_18
                          refine lv_iload hx hb dX5_isSame_578 (lv_at hl 1 rfl) ?_
                          refine kb_eq (tgt := 585) hx hb dX5_isSame_580 (by decide) (by have := mCnt_le (fun h => vTOpen SS fs sn h i) nn; omega) (by have := mCnt_le (fun h => vTOpen SS fs sn h i) nn; omega) (fun c_19 => ?_) (fun c_19 => ?_)
                          · refine lv_iload hx hb dX5_isSame_585 (lv_at hl 3 rfl) ?_
                            refine lv_aload_n hx hb dX5_isSame_587 rfl (lv_at hl 7 rfl) ?_
                            refine va_get (D := G.1) (ci := 5) (v := .ref zp) (C := RX5) (T := TX5) (N := 5) hx hb hts kX5_isSame_1 hown hK hP 0 rfl rfl 4 (by decide) (hts _ kX5_isSame_2) (fun _ h9 => h9) rfl dX5_isSame_588 ?_
                            refine lv_iload hx hb dX5_isSame_591 (lv_at hl 2 rfl) ?_
                            refine kr_aldA (k := i) (v := .ref (rp i)) hx hb hK hP 3 3 rfl rfl (by omega) (by omega) (kRn_at (by omega)) dX5_isSame_593 ?_
                            refine lv_iconst (v := (nI 3)) hx hb dX5_isSame_594 (by decide) ?_
                            refine kp_ialf (k := 3) (v := (bI (op i))) hx hb hK hP (hrp i (by omega)).1 (hrp i (by omega)).2 (by decide) (by decide) zP_3 dX5_isSame_595 ?_
                            refine lv_iadd hx hb dX5_isSame_596 ?_
                            refine kr_top (y := (nI (op9 + (if op i = true then 1 else 0)))) (by rw [bI_n]; exact nI_add _ _) ?_
                            refine lv_istore (lv' := [(5, .int (nI (op9 + (if op i = true then 1 else 0)))), (8, .int (nI wh)), (7, .int (nI t9)), (6, .int (nI i)), (4, .int (nI ag9)), (3, .int (nI le9)), (2, .int (nI nn)), (0, .ref zs), (1, .ref hM)]) hx hb dX5_isSame_597 hl (by decide) rfl (fun ls hl => ?_)
                            refine lv_iinc (k := 3) (v := (nI (i + 1))) (lv' := [(6, .int (nI (i + 1))), (5, .int (nI (op9 + (if op i = true then 1 else 0)))), (8, .int (nI wh)), (7, .int (nI t9)), (4, .int (nI ag9)), (3, .int (nI le9)), (2, .int (nI nn)), (0, .ref zs), (1, .ref hM)]) hx hb dX5_isSame_599 hl rfl (kn_inc i) (by decide) rfl (fun ls hl => ?_)
                            refine lv_goto (tgt := 484) hx hb dX5_isSame_602 (by decide) ?_
                            exact ih484 (op9 + (if op i = true then 1 else 0)) (i + 1) (by omega) (by omega) (by rw [hop]; rfl) _ _ hP hD hS _ (lv_sub hl [0, 1, 4, 5, 6, 7, 8] rfl)
                          · exfalso; exact absurd rfl c_19
                        · refine lv_aload_n hx hb dX5_isSame_542 rfl (lv_at hl 8 rfl) ?_
                          refine lv_iload hx hb dX5_isSame_543 (lv_at hl 2 rfl) ?_
                          refine lv_iload hx hb dX5_isSame_545 (lv_at hl 0 rfl) ?_
                          refine vp_callSi (W.runV (As := [.int (nI i), .int (nI wh)]) (rest := []) ⟨hx, hb, hml, hown, hts⟩ (c_X4_about_o l G hM nn np mi fs sn ln op SS ar ww M1 L1 f1 i wh hob hML hV (by omega) (by omega) (by omega)) (cwV 2 hts gX5_isSame_X4_about rfl rfl rfl (by decide +kernel) ⟨Nat.le_of_ble_eq_true rfl, Nat.le_of_ble_eq_true rfl⟩) (kO_VR hob hML hK (hP.part (cx := []) [] rfl)) rfl rfl hl.1 rfl (lv_room (Nat.le_of_ble_eq_true rfl)) dX5_isSame_547 ⟨(show 176 * h + 0 ≤ 1300 from by omega), (show 1203 * h + 0 ≤ 9000 from by omega)⟩) (fun r_20 hr_20 => ?_)
                          rw [zS_about (show wh < 4 by omega)] at hr_20
                          subst hr_20
                          refine lv_aload_n hx hb dX5_isSame_550 rfl (lv_at hl 7 rfl) ?_
                          refine va_get (D := G.1) (ci := 5) (v := .ref zp) (C := RX5) (T := TX5) (N := 5) hx hb hts kX5_isSame_1 hown hK hP 0 rfl rfl 4 (by decide) (hts _ kX5_isSame_2) (fun _ h9 => h9) rfl dX5_isSame_551 ?_
                          refine lv_iload hx hb dX5_isSame_554 (lv_at hl 2 rfl) ?_
                          refine kr_aldA (k := i) (v := .ref (rp i)) hx hb hK hP 3 3 rfl rfl (by omega) (by omega) (kRn_at (by omega)) dX5_isSame_556 ?_
                          refine lv_iload hx hb dX5_isSame_557 (lv_at hl 0 rfl) ?_
                          refine kp_ialf (k := wh) (v := (kI (zP fs sn ln op i) wh)) hx hb hK hP (hrp i (by omega)).1 (hrp i (by omega)).2 (by omega) (by decide) rfl dX5_isSame_559 ?_
                          refine lv_icmp_eq (tgt := 565) hx hb dX5_isSame_560 (by decide) (fun c_21 => ?_) (fun c_21 => ?_)
                          · refine lv_iinc (k := 0) (v := (nI (wh + 1))) (lv' := [(8, .int (nI (wh + 1))), (7, .int (nI t9)), (6, .int (nI i)), (5, .int (nI op9)), (4, .int (nI ag9)), (3, .int (nI le9)), (2, .int (nI nn)), (0, .ref zs), (1, .ref hM)]) hx hb dX5_isSame_565 hl rfl (kn_inc wh) (by decide) rfl (fun ls hl => ?_)
                            refine lv_goto (tgt := 536) hx hb dX5_isSame_568 (by decide) ?_
                            exact ih536 (wh + 1) (by omega) (by omega) _ _ hP hD hS _ (lv_sub hl [0, 1, 2, 3, 4, 5, 6, 7, 8] rfl)
                          · exfalso; exact c_21 rfl
                    exact hc_536 (_ + 1) 0 (Nat.lt_succ_self _) (by omega) _ _ hP hD hS _ (lv_sub hl [0, 1, 2, 3, 4, 5, 6, 7, 8] rfl)
                  · refine lv_iload hx hb dX5_isSame_506 (lv_at hl 1 rfl) ?_
                    refine lv_aload_n hx hb dX5_isSame_508 rfl (lv_at hl 7 rfl) ?_
                    refine lv_iload hx hb dX5_isSame_509 (lv_at hl 0 rfl) ?_
                    refine lv_iload hx hb dX5_isSame_511 (lv_at hl 2 rfl) ?_
                    refine vp_callSi (W.runV (As := [.int (nI a), .int (nI i)]) (rest := [.int (nI t9)]) ⟨hx, hb, hml, hown, hts⟩ (c_X5_takes l G zs za zw zq zp nn np mi L1 f1 ro rr rp fs sn ln op SS ar ww a i hrw hrr hrp (by omega) (by omega) hfs hsn hln hen (by omega) (by omega) (by omega)) (cwV 2 hts gX5_isSame_X5_takes rfl rfl rfl (by decide +kernel) ⟨Nat.le_of_ble_eq_true rfl, Nat.le_of_ble_eq_true rfl⟩) (kPre_V (ws := ([(zs, .inr (5, [.int (nI mi), .ref za, .ref zw, .ref zq, .ref zp])), (zq, .inl (G.2 4, nn, .inr (.inr (.inr (.inr (kRn nn ro)))))), (zp, .inl (G.2 3, np, .inr (.inr (.inr (.inr (kRn np rp))))))] ++ va_pl L1 f1)) hK (hP.part (cx := [(zs, .inr (5, [.int (nI mi), .ref za, .ref zw, .ref zq, .ref zp])), (zq, .inl (G.2 4, nn, .inr (.inr (.inr (.inr (kRn nn ro)))))), (zp, .inl (G.2 3, np, .inr (.inr (.inr (.inr (kRn np rp))))))]) [0, 2, 3] rfl) (RX5, TX5, 5) 0 rfl rfl) rfl rfl hl.1 rfl (lv_room (Nat.le_of_ble_eq_true rfl)) dX5_isSame_513 ⟨(show 176 * h + 0 ≤ 1300 from by omega), (show 1203 * h + 0 ≤ 9000 from by omega)⟩) (fun r_22 hr_22 => ?_)
                    subst hr_22
                    refine kb_eqb (tgt := 523) hx hb dX5_isSame_516 (by decide) (fun c_23 => ?_) (fun c_23 => ?_)
                    · have hc8 : (fun h => vTOpen SS fs sn h i) a = false := c_23
                      refine lv_iconst (v := (nI 0)) hx hb dX5_isSame_523 (by decide) ?_
                      refine lv_iadd hx hb dX5_isSame_524 ?_
                      refine kr_top (y := nI (t9 + 0)) (nI_add t9 0) ?_
                      refine lv_istore (lv' := [(7, .int (nI (t9 + 0))), (8, .int (nI a)), (6, .int (nI i)), (5, .int (nI op9)), (4, .int (nI ag9)), (3, .int (nI le9)), (2, .int (nI nn)), (0, .ref zs), (1, .ref hM)]) hx hb dX5_isSame_525 hl (by decide) rfl (fun ls hl => ?_)
                      refine lv_iinc (k := 1) (v := (nI (a + 1))) (lv' := [(8, .int (nI (a + 1))), (7, .int (nI (t9 + 0))), (6, .int (nI i)), (5, .int (nI op9)), (4, .int (nI ag9)), (3, .int (nI le9)), (2, .int (nI nn)), (0, .ref zs), (1, .ref hM)]) hx hb dX5_isSame_527 hl rfl (kn_inc a) (by decide) rfl (fun ls hl => ?_)
                      refine lv_goto (tgt := 500) hx hb dX5_isSame_530 (by decide) ?_
                      exact ih500 (t9 + 0) (a + 1) (by omega) (by omega) (by exact ht.trans (mCnt_f (P := (fun h => vTOpen SS fs sn h i)) (n := a) hc8).symm) _ _ hP hD hS _ (lv_sub hl [0, 1, 2, 3, 4, 5, 6, 7, 8] rfl)
                    · have hc8 : (fun h => vTOpen SS fs sn h i) a = true := c_23
                      refine lv_iconst (v := (nI 1)) hx hb dX5_isSame_519 (by decide) ?_
                      refine lv_goto (tgt := 524) hx hb dX5_isSame_520 (by decide) ?_
                      refine lv_iadd hx hb dX5_isSame_524 ?_
                      refine kr_top (y := nI (t9 + 1)) (nI_add t9 1) ?_
                      refine lv_istore (lv' := [(7, .int (nI (t9 + 1))), (8, .int (nI a)), (6, .int (nI i)), (5, .int (nI op9)), (4, .int (nI ag9)), (3, .int (nI le9)), (2, .int (nI nn)), (0, .ref zs), (1, .ref hM)]) hx hb dX5_isSame_525 hl (by decide) rfl (fun ls hl => ?_)
                      refine lv_iinc (k := 1) (v := (nI (a + 1))) (lv' := [(8, .int (nI (a + 1))), (7, .int (nI (t9 + 1))), (6, .int (nI i)), (5, .int (nI op9)), (4, .int (nI ag9)), (3, .int (nI le9)), (2, .int (nI nn)), (0, .ref zs), (1, .ref hM)]) hx hb dX5_isSame_527 hl rfl (kn_inc a) (by decide) rfl (fun ls hl => ?_)
                      refine lv_goto (tgt := 500) hx hb dX5_isSame_530 (by decide) ?_
                      exact ih500 (t9 + 1) (a + 1) (by omega) (by omega) (by rw [mCnt_t (P := (fun h => vTOpen SS fs sn h i)) (n := a) hc8, ← ht]) _ _ hP hD hS _ (lv_sub hl [0, 1, 2, 3, 4, 5, 6, 7, 8] rfl)
              exact hc_500 (_ + 1) 0 0 (Nat.lt_succ_self _) (by omega) (by rfl) _ _ hP hD hS _ (lv_sub hl [0, 1, 2, 3, 4, 5, 6, 7, 8] rfl)
        exact hc_484 (_ + 1) 0 0 (Nat.lt_succ_self _) (by omega) (by rfl) _ _ hP hD hS _ (lv_sub hl [0, 1, 2, 3, 4, 5, 6] rfl)
      · refine lv_iconst (v := (nI 0)) hx hb dX5_isSame_20 (by decide) ?_
        refine lv_istore (lv' := [(6, .int (nI 0)), (5, .int (nI h)), (4, .int (nI ag9)), (3, .int (nI le9)), (2, .int (nI nn)), (0, .ref zs), (1, .ref hM)]) hx hb dX5_isSame_21 hl (by decide) rfl (fun ls hl => ?_)
        refine lv_iconst (v := (nI 0)) hx hb dX5_isSame_23 (by decide) ?_
        refine lv_istore (lv' := [(7, .int (nI 0)), (6, .int (nI 0)), (5, .int (nI h)), (4, .int (nI ag9)), (3, .int (nI le9)), (2, .int (nI nn)), (0, .ref zs), (1, .ref hM)]) hx hb dX5_isSame_24 hl (by decide) rfl (fun ls hl => ?_)
        refine lv_iconst (v := (nI 0)) hx hb dX5_isSame_26 (by decide) ?_
        refine lv_istore (lv' := [(8, .int (nI 0)), (7, .int (nI 0)), (6, .int (nI 0)), (5, .int (nI h)), (4, .int (nI ag9)), (3, .int (nI le9)), (2, .int (nI nn)), (0, .ref zs), (1, .ref hM)]) hx hb dX5_isSame_27 hl (by decide) rfl (fun ls hl => ?_)
        have hc_29 : ∀ (n : Nat) (k wa9 co9 ag9 : Nat) (M1 L1 : List Nat) (f1 : Nat → va_E), nn - k < n → k ≤ nn → wa9 = mCnt (fun k => decide (zFar (zStH SS fs sn h) fs sn np nn k h < 99999999)) k → co9 = mCnt (fun k => (mPost (fun i => vWay SS fs sn np i) (mSt fs sn op np) h k).isSome) k → ag9 = mSum (fun a => mSum (fun b => vAge mi (SS (a * 10 + b))) nn) h + mSum (fun b => vAge mi (SS (h * 10 + b))) k → kObj G hM nn np mi fs sn ln op SS ar ww M1 f1 → (∀ a ∈ M1, a ∈ L1) → kSim G nn np mi M1 L1 f1 ro rr rp fs sn ln op SS → ∀ (H : Heap) (locs : List Loc), va_P G.1 vwCl ([(zs, .inr (5, [.int (nI mi), .ref za, .ref zw, .ref zq, .ref zp])), (za, .inl (G.2 0, nn, .inl (kI ar))), (zq, .inl (G.2 4, nn, .inr (.inr (.inr (.inr (kRn nn ro)))))), (zp, .inl (G.2 3, np, .inr (.inr (.inr (.inr (kRn np rp)))))), (zw, .inl (G.2 0, nn, .inl (kI ww)))] ++ va_pl L1 f1) H → va_D A ([(zs, .inr (5, [.int (nI mi), .ref za, .ref zw, .ref zq, .ref zp])), (za, .inl (G.2 0, nn, .inl (kI ar))), (zq, .inl (G.2 4, nn, .inr (.inr (.inr (.inr (kRn nn ro)))))), (zp, .inl (G.2 3, np, .inr (.inr (.inr (.inr (kRn np rp)))))), (zw, .inl (G.2 0, nn, .inl (kI ww)))] ++ va_pl L1 f1) → va_S A s.heap H locs → ∀ (ls : Array Slot), lv_has ls 15 [(8, .int (nI k)), (7, .int (nI co9)), (6, .int (nI wa9)), (5, .int (nI h)), (4, .int (nI ag9)), (3, .int (nI le9)), (2, .int (nI nn)), (0, .ref zs), (1, .ref hM)] → W p l e (headSpec wsX5_isSame ({ frames := 6, cells := 1300, slots := 9000, locals := 150 })).room s m [.ref zs, .ref hM].toArray below meth c H locs (176 * h + 24 * k) (1203 * h + 168 * k) (MQ below (va_Qi (fun (r : Int32) (u : List Nat × List Nat × (Nat → va_E)) => r = bI true ∧ kObj G hM nn np mi fs sn ln op SS ar ww u.1 u.2.2 ∧ (∀ a ∈ u.1, a ∈ u.2.1) ∧ kSim G nn np mi u.1 u.2.1 u.2.2 ro rr rp fs sn ln op SS) (fun (u : List Nat × List Nat × (Nat → va_E)) t => kA G A ([(zs, .inr (5, [.int (nI mi), .ref za, .ref zw, .ref zq, .ref zp])), (za, .inl (G.2 0, nn, .inl (kI ar))), (zq, .inl (G.2 4, nn, .inr (.inr (.inr (.inr (kRn nn ro)))))), (zp, .inl (G.2 3, np, .inr (.inr (.inr (.inr (kRn np rp)))))), (zw, .inl (G.2 0, nn, .inl (kI ww)))] ++ va_pl u.2.1 u.2.2) t) A) [.ref zs, .ref hM].toArray s 1300 9000 A) (F0 m 29 ls []) := by
          intro n
          induction n with
          | zero =>
            intro k wa9 co9 ag9 M1 L1 f1 hmz; exact absurd hmz (Nat.not_lt_zero _)
          | succ n ih29 =>
            intro k wa9 co9 ag9 M1 L1 f1 hmz hk hwa hco hag hob hML hsm H locs hP hD hS ls hl
            obtain ⟨hrw, hrr, hrp, hrM, hqM, hpM, hroi, hrpi, hrq⟩ := id hsm
            refine lv_iload hx hb dX5_isSame_29 (lv_at hl 0 rfl) ?_
            refine lv_iload_n hx hb dX5_isSame_31 rfl (lv_at hl 6 rfl) ?_
            refine kb_ge (tgt := 388) hx hb dX5_isSame_32 (by decide) (by omega) (by omega) (fun c_24 => ?_) (fun c_24 => ?_)
            · have hwa9 : wa9 = mCnt (fun o => vWay SS fs sn np h o != 1073741824) nn := by rw [hwa, show k = nn by omega]; exact mCnt_congr nn (fun o ho => (zS_known hV (show h < nn by omega) ho).symm)
              have hco9 : co9 = (mCnt (fun b => h != b && (mPost (fun i => vWay SS fs sn np i) (mSt fs sn op np) h b).isSome) nn) + 1 := by rw [hco, show k = nn by omega]; exact zS_come (show h < nn by omega)
              have hco8 : co9 = mCnt (fun k => (mPost (fun i => vWay SS fs sn np i) (mSt fs sn op np) h k).isSome) nn := by rw [hco, show k = nn by omega]
              have hag9 : ag9 = mSum (fun a => mSum (fun b => vAge mi (SS (a * 10 + b))) nn) (h + 1) := by rw [hag, show k = nn by omega]; rfl
              refine lv_iload_n hx hb dX5_isSame_388 rfl (lv_at hl 5 rfl) ?_
              refine lv_iload hx hb dX5_isSame_389 (lv_at hl 1 rfl) ?_
              refine lv_iconst (v := (nI 1)) hx hb dX5_isSame_391 (by decide) ?_
              refine lv_isub hx hb dX5_isSame_392 ?_
              refine kr_top (y := (nI (mCnt (fun b => h != b && (mPost (fun i => vWay SS fs sn np i) (mSt fs sn op np) h b).isSome) nn))) (by rw [hco9]; exact (pk_sub (Nat.le_add_left 1 _)).trans (by rw [Nat.add_sub_cancel])) ?_
              refine lv_iadd hx hb dX5_isSame_393 ?_
              refine kr_top (y := nI (le9 + (mCnt (fun b => h != b && (mPost (fun i => vWay SS fs sn np i) (mSt fs sn op np) h b).isSome) nn))) (nI_add le9 (mCnt (fun b => h != b && (mPost (fun i => vWay SS fs sn np i) (mSt fs sn op np) h b).isSome) nn)) ?_
              refine lv_istore_n (lv' := [(3, .int (nI (le9 + (mCnt (fun b => h != b && (mPost (fun i => vWay SS fs sn np i) (mSt fs sn op np) h b).isSome) nn)))), (8, .int (nI k)), (7, .int (nI co9)), (6, .int (nI wa9)), (5, .int (nI h)), (4, .int (nI ag9)), (2, .int (nI nn)), (0, .ref zs), (1, .ref hM)]) hx hb dX5_isSame_394 rfl hl (by decide) rfl (fun ls hl => ?_)
              refine lv_iconst (v := (nI 5)) hx hb dX5_isSame_395 (by decide) ?_
              refine kn_newi hx hb (hts _ kX5_isSame_3) hK hP hD hS hA (by decide) (show 176 * h + 24 * k + 1 ≤ 1300 from by omega) (show 1203 * h + 168 * k + 5 ≤ 9000 from by omega) dX5_isSame_396 (fun q_25 H hP hD hS => ?_)
              have hP := va_P.swap hP
              have hD := va_D.swap hD
              have hP : va_P G.1 vwCl ([(zs, .inr (5, [.int (nI mi), .ref za, .ref zw, .ref zq, .ref zp])), (za, .inl (G.2 0, nn, .inl (kI ar))), (zq, .inl (G.2 4, nn, .inr (.inr (.inr (.inr (kRn nn ro)))))), (zp, .inl (G.2 3, np, .inr (.inr (.inr (.inr (kRn np rp)))))), (zw, .inl (G.2 0, nn, .inl (kI ww))), (q_25, .inl (G.2 0, 5, .inl (kI (fun _ => 0))))] ++ va_pl L1 f1) H := hP
              have hD : va_D A ([(zs, .inr (5, [.int (nI mi), .ref za, .ref zw, .ref zq, .ref zp])), (za, .inl (G.2 0, nn, .inl (kI ar))), (zq, .inl (G.2 4, nn, .inr (.inr (.inr (.inr (kRn nn ro)))))), (zp, .inl (G.2 3, np, .inr (.inr (.inr (.inr (kRn np rp)))))), (zw, .inl (G.2 0, nn, .inl (kI ww))), (q_25, .inl (G.2 0, 5, .inl (kI (fun _ => 0))))] ++ va_pl L1 f1) := hD
              refine W.widen (k := 176 * h + 24 * k + 1) (n := 1203 * h + 168 * k + 5) (Nat.le_refl _) (Nat.le_refl _) ?_
              refine lv_dup hx hb dX5_isSame_398 rfl ?_
              refine lv_iconst (v := (nI 0)) hx hb dX5_isSame_399 (by decide) ?_
              refine lv_aload_n hx hb dX5_isSame_400 rfl (lv_at hl 7 rfl) ?_
              refine va_get (D := G.1) (ci := 5) (v := .ref za) (C := RX5) (T := TX5) (N := 5) hx hb hts kX5_isSame_1 hown hK hP 0 rfl rfl 1 (by decide) (hts _ kX5_isSame_0) (fun _ h9 => h9) rfl dX5_isSame_401 ?_
              refine lv_iload hx hb dX5_isSame_404 (lv_at hl 4 rfl) ?_
              refine kr_iald (k := h) (v := (nI (ar h))) hx hb hK hP 1 0 rfl rfl (by omega) (by omega) rfl dX5_isSame_406 ?_
              refine kr_iast (k := 0) (g := (kI (va_up (fun _ => 0) 0 (ar h)))) hx hb hK hP hD hS 5 0 rfl rfl (by decide) (by decide) (kI_up (fun _ => 0) 0 (ar h)) dX5_isSame_407 (fun H locs hP hD hS => ?_)
              have hP : va_P G.1 vwCl ([(zs, .inr (5, [.int (nI mi), .ref za, .ref zw, .ref zq, .ref zp])), (za, .inl (G.2 0, nn, .inl (kI ar))), (zq, .inl (G.2 4, nn, .inr (.inr (.inr (.inr (kRn nn ro)))))), (zp, .inl (G.2 3, np, .inr (.inr (.inr (.inr (kRn np rp)))))), (zw, .inl (G.2 0, nn, .inl (kI ww))), (q_25, .inl (G.2 0, 5, .inl (kI (va_up (fun _ => 0) 0 (ar h)))))] ++ va_pl L1 f1) H := hP
              have hD : va_D A ([(zs, .inr (5, [.int (nI mi), .ref za, .ref zw, .ref zq, .ref zp])), (za, .inl (G.2 0, nn, .inl (kI ar))), (zq, .inl (G.2 4, nn, .inr (.inr (.inr (.inr (kRn nn ro)))))), (zp, .inl (G.2 3, np, .inr (.inr (.inr (.inr (kRn np rp)))))), (zw, .inl (G.2 0, nn, .inl (kI ww))), (q_25, .inl (G.2 0, 5, .inl (kI (va_up (fun _ => 0) 0 (ar h)))))] ++ va_pl L1 f1) := hD
              refine lv_dup hx hb dX5_isSame_408 rfl ?_
              refine lv_iconst (v := (nI 1)) hx hb dX5_isSame_409 (by decide) ?_
              refine lv_aload_n hx hb dX5_isSame_410 rfl (lv_at hl 7 rfl) ?_
              refine lv_iload hx hb dX5_isSame_411 (lv_at hl 4 rfl) ?_
              refine vp_callSi (W.runV (As := [.int (nI h)]) (rest := [.int (nI 1), .ref q_25, .ref q_25]) ⟨hx, hb, hml, hown, hts⟩ (c_X5_sheetsOf l G zs za zw zq zp nn np mi L1 f1 ro rr rp fs sn ln op SS ar ww h hrw hrr hrp (by omega) (by omega) hfs hsn hln hen (by omega) (by omega)) (cwV 1 hts gX5_isSame_X5_sheetsOf rfl rfl rfl (by decide +kernel) ⟨Nat.le_of_ble_eq_true rfl, Nat.le_of_ble_eq_true rfl⟩) (kPre_V (ws := ([(zs, .inr (5, [.int (nI mi), .ref za, .ref zw, .ref zq, .ref zp])), (zq, .inl (G.2 4, nn, .inr (.inr (.inr (.inr (kRn nn ro))))))] ++ va_pl L1 f1)) hK (hP.part (cx := [(zs, .inr (5, [.int (nI mi), .ref za, .ref zw, .ref zq, .ref zp])), (zq, .inl (G.2 4, nn, .inr (.inr (.inr (.inr (kRn nn ro))))))]) [0, 2] rfl) (RX5, TX5, 5) 0 rfl rfl) rfl rfl hl.1 rfl (lv_room (Nat.le_of_ble_eq_true rfl)) dX5_isSame_413 ⟨(show 176 * h + 24 * k + 1 + 0 ≤ 1300 from by omega), (show 1203 * h + 168 * k + 5 + 0 ≤ 9000 from by omega)⟩) (fun r_26 hr_26 => ?_)
              subst hr_26
              refine kr_iast (k := 1) (g := (kI (va_up (va_up (fun _ => 0) 0 (ar h)) 1 (zHas SS nn h)))) hx hb hK hP hD hS 5 0 rfl rfl (by decide) (by decide) (kI_up (va_up (fun _ => 0) 0 (ar h)) 1 (zHas SS nn h)) dX5_isSame_416 (fun H locs hP hD hS => ?_)
              have hP : va_P G.1 vwCl ([(zs, .inr (5, [.int (nI mi), .ref za, .ref zw, .ref zq, .ref zp])), (za, .inl (G.2 0, nn, .inl (kI ar))), (zq, .inl (G.2 4, nn, .inr (.inr (.inr (.inr (kRn nn ro)))))), (zp, .inl (G.2 3, np, .inr (.inr (.inr (.inr (kRn np rp)))))), (zw, .inl (G.2 0, nn, .inl (kI ww))), (q_25, .inl (G.2 0, 5, .inl (kI (va_up (va_up (fun _ => 0) 0 (ar h)) 1 (zHas SS nn h)))))] ++ va_pl L1 f1) H := hP
              have hD : va_D A ([(zs, .inr (5, [.int (nI mi), .ref za, .ref zw, .ref zq, .ref zp])), (za, .inl (G.2 0, nn, .inl (kI ar))), (zq, .inl (G.2 4, nn, .inr (.inr (.inr (.inr (kRn nn ro)))))), (zp, .inl (G.2 3, np, .inr (.inr (.inr (.inr (kRn np rp)))))), (zw, .inl (G.2 0, nn, .inl (kI ww))), (q_25, .inl (G.2 0, 5, .inl (kI (va_up (va_up (fun _ => 0) 0 (ar h)) 1 (zHas SS nn h)))))] ++ va_pl L1 f1) := hD
              refine lv_dup hx hb dX5_isSame_417 rfl ?_
              refine lv_iconst (v := (nI 2)) hx hb dX5_isSame_418 (by decide) ?_
              refine lv_aload_n hx hb dX5_isSame_419 rfl (lv_at hl 7 rfl) ?_
              refine va_get (D := G.1) (ci := 5) (v := .ref zw) (C := RX5) (T := TX5) (N := 5) hx hb hts kX5_isSame_1 hown hK hP 0 rfl rfl 2 (by decide) (hts _ kX5_isSame_5) (fun _ h9 => h9) rfl dX5_isSame_420 ?_
              refine lv_iload hx hb dX5_isSame_423 (lv_at hl 4 rfl) ?_
              refine kr_iald (k := h) (v := (nI (ww h))) hx hb hK hP 4 0 rfl rfl (by omega) (by omega) rfl dX5_isSame_425 ?_
              refine kr_iast (k := 2) (g := (kI (va_up (va_up (va_up (fun _ => 0) 0 (ar h)) 1 (zHas SS nn h)) 2 (ww h)))) hx hb hK hP hD hS 5 0 rfl rfl (by decide) (by decide) (kI_up (va_up (va_up (fun _ => 0) 0 (ar h)) 1 (zHas SS nn h)) 2 (ww h)) dX5_isSame_426 (fun H locs hP hD hS => ?_)
              have hP : va_P G.1 vwCl ([(zs, .inr (5, [.int (nI mi), .ref za, .ref zw, .ref zq, .ref zp])), (za, .inl (G.2 0, nn, .inl (kI ar))), (zq, .inl (G.2 4, nn, .inr (.inr (.inr (.inr (kRn nn ro)))))), (zp, .inl (G.2 3, np, .inr (.inr (.inr (.inr (kRn np rp)))))), (zw, .inl (G.2 0, nn, .inl (kI ww))), (q_25, .inl (G.2 0, 5, .inl (kI (va_up (va_up (va_up (fun _ => 0) 0 (ar h)) 1 (zHas SS nn h)) 2 (ww h)))))] ++ va_pl L1 f1) H := hP
              have hD : va_D A ([(zs, .inr (5, [.int (nI mi), .ref za, .ref zw, .ref zq, .ref zp])), (za, .inl (G.2 0, nn, .inl (kI ar))), (zq, .inl (G.2 4, nn, .inr (.inr (.inr (.inr (kRn nn ro)))))), (zp, .inl (G.2 3, np, .inr (.inr (.inr (.inr (kRn np rp)))))), (zw, .inl (G.2 0, nn, .inl (kI ww))), (q_25, .inl (G.2 0, 5, .inl (kI (va_up (va_up (va_up (fun _ => 0) 0 (ar h)) 1 (zHas SS nn h)) 2 (ww h)))))] ++ va_pl L1 f1) := hD
              refine lv_dup hx hb dX5_isSame_427 rfl ?_
              refine lv_iconst (v := (nI 3)) hx hb dX5_isSame_428 (by decide) ?_
              refine lv_iload hx hb dX5_isSame_429 (lv_at hl 3 rfl) ?_
              refine kr_iast (k := 3) (g := (kI (va_up (va_up (va_up (va_up (fun _ => 0) 0 (ar h)) 1 (zHas SS nn h)) 2 (ww h)) 3 wa9))) hx hb hK hP hD hS 5 0 rfl rfl (by decide) (by decide) (kI_up (va_up (va_up (va_up (fun _ => 0) 0 (ar h)) 1 (zHas SS nn h)) 2 (ww h)) 3 wa9) dX5_isSame_431 (fun H locs hP hD hS => ?_)
              have hP : va_P G.1 vwCl ([(zs, .inr (5, [.int (nI mi), .ref za, .ref zw, .ref zq, .ref zp])), (za, .inl (G.2 0, nn, .inl (kI ar))), (zq, .inl (G.2 4, nn, .inr (.inr (.inr (.inr (kRn nn ro)))))), (zp, .inl (G.2 3, np, .inr (.inr (.inr (.inr (kRn np rp)))))), (zw, .inl (G.2 0, nn, .inl (kI ww))), (q_25, .inl (G.2 0, 5, .inl (kI (va_up (va_up (va_up (va_up (fun _ => 0) 0 (ar h)) 1 (zHas SS nn h)) 2 (ww h)) 3 wa9))))] ++ va_pl L1 f1) H := hP
              have hD : va_D A ([(zs, .inr (5, [.int (nI mi), .ref za, .ref zw, .ref zq, .ref zp])), (za, .inl (G.2 0, nn, .inl (kI ar))), (zq, .inl (G.2 4, nn, .inr (.inr (.inr (.inr (kRn nn ro)))))), (zp, .inl (G.2 3, np, .inr (.inr (.inr (.inr (kRn np rp)))))), (zw, .inl (G.2 0, nn, .inl (kI ww))), (q_25, .inl (G.2 0, 5, .inl (kI (va_up (va_up (va_up (va_up (fun _ => 0) 0 (ar h)) 1 (zHas SS nn h)) 2 (ww h)) 3 wa9))))] ++ va_pl L1 f1) := hD
              refine lv_dup hx hb dX5_isSame_432 rfl ?_
              refine lv_iconst (v := (nI 4)) hx hb dX5_isSame_433 (by decide) ?_
              refine lv_iload hx hb dX5_isSame_434 (lv_at hl 2 rfl) ?_
              refine kr_iast (k := 4) (g := (kI (va_up (va_up (va_up (va_up (va_up (fun _ => 0) 0 (ar h)) 1 (zHas SS nn h)) 2 (ww h)) 3 wa9) 4 co9))) hx hb hK hP hD hS 5 0 rfl rfl (by decide) (by decide) (kI_up (va_up (va_up (va_up (va_up (fun _ => 0) 0 (ar h)) 1 (zHas SS nn h)) 2 (ww h)) 3 wa9) 4 co9) dX5_isSame_436 (fun H locs hP hD hS => ?_)
              have hP : va_P G.1 vwCl ([(zs, .inr (5, [.int (nI mi), .ref za, .ref zw, .ref zq, .ref zp])), (za, .inl (G.2 0, nn, .inl (kI ar))), (zq, .inl (G.2 4, nn, .inr (.inr (.inr (.inr (kRn nn ro)))))), (zp, .inl (G.2 3, np, .inr (.inr (.inr (.inr (kRn np rp)))))), (zw, .inl (G.2 0, nn, .inl (kI ww))), (q_25, .inl (G.2 0, 5, .inl (kI (va_up (va_up (va_up (va_up (va_up (fun _ => 0) 0 (ar h)) 1 (zHas SS nn h)) 2 (ww h)) 3 wa9) 4 co9))))] ++ va_pl L1 f1) H := hP
              have hD : va_D A ([(zs, .inr (5, [.int (nI mi), .ref za, .ref zw, .ref zq, .ref zp])), (za, .inl (G.2 0, nn, .inl (kI ar))), (zq, .inl (G.2 4, nn, .inr (.inr (.inr (.inr (kRn nn ro)))))), (zp, .inl (G.2 3, np, .inr (.inr (.inr (.inr (kRn np rp)))))), (zw, .inl (G.2 0, nn, .inl (kI ww))), (q_25, .inl (G.2 0, 5, .inl (kI (va_up (va_up (va_up (va_up (va_up (fun _ => 0) 0 (ar h)) 1 (zHas SS nn h)) 2 (ww h)) 3 wa9) 4 co9))))] ++ va_pl L1 f1) := hD
              refine lv_astore (lv' := [(8, .ref q_25), (3, .int (nI (le9 + (mCnt (fun b => h != b && (mPost (fun i => vWay SS fs sn np i) (mSt fs sn op np) h b).isSome) nn)))), (7, .int (nI co9)), (6, .int (nI wa9)), (5, .int (nI h)), (4, .int (nI ag9)), (2, .int (nI nn)), (0, .ref zs), (1, .ref hM)]) hx hb dX5_isSame_437 hl (by decide) rfl (fun ls hl => ?_)
              refine lv_iconst (v := (nI 0)) hx hb dX5_isSame_439 (by decide) ?_
              refine lv_istore (lv' := [(9, .int (nI 0)), (8, .ref q_25), (3, .int (nI (le9 + (mCnt (fun b => h != b && (mPost (fun i => vWay SS fs sn np i) (mSt fs sn op np) h b).isSome) nn)))), (7, .int (nI co9)), (6, .int (nI wa9)), (5, .int (nI h)), (4, .int (nI ag9)), (2, .int (nI nn)), (0, .ref zs), (1, .ref hM)]) hx hb dX5_isSame_440 hl (by decide) rfl (fun ls hl => ?_)
              have hc_442 : ∀ (n : Nat) (wh : Nat) (M2 L2 : List Nat) (f2 : Nat → va_E), 5 - wh < n → wh ≤ 5 → kObj G hM nn np mi fs sn ln op SS ar ww M2 f2 → (∀ a ∈ M2, a ∈ L2) → kSim G nn np mi M2 L2 f2 ro rr rp fs sn ln op SS → ∀ (H : Heap) (locs : List Loc), va_P G.1 vwCl ([(zs, .inr (5, [.int (nI mi), .ref za, .ref zw, .ref zq, .ref zp])), (za, .inl (G.2 0, nn, .inl (kI ar))), (zq, .inl (G.2 4, nn, .inr (.inr (.inr (.inr (kRn nn ro)))))), (zp, .inl (G.2 3, np, .inr (.inr (.inr (.inr (kRn np rp)))))), (zw, .inl (G.2 0, nn, .inl (kI ww))), (q_25, .inl (G.2 0, 5, .inl (kI (va_up (va_up (va_up (va_up (va_up (fun _ => 0) 0 (ar h)) 1 (zHas SS nn h)) 2 (ww h)) 3 wa9) 4 co9))))] ++ va_pl L2 f2) H → va_D A ([(zs, .inr (5, [.int (nI mi), .ref za, .ref zw, .ref zq, .ref zp])), (za, .inl (G.2 0, nn, .inl (kI ar))), (zq, .inl (G.2 4, nn, .inr (.inr (.inr (.inr (kRn nn ro)))))), (zp, .inl (G.2 3, np, .inr (.inr (.inr (.inr (kRn np rp)))))), (zw, .inl (G.2 0, nn, .inl (kI ww))), (q_25, .inl (G.2 0, 5, .inl (kI (va_up (va_up (va_up (va_up (va_up (fun _ => 0) 0 (ar h)) 1 (zHas SS nn h)) 2 (ww h)) 3 wa9) 4 co9))))] ++ va_pl L2 f2) → va_S A s.heap H locs → ∀ (ls : Array Slot), lv_has ls 15 [(9, .int (nI wh)), (8, .ref q_25), (3, .int (nI (le9 + (mCnt (fun b => h != b && (mPost (fun i => vWay SS fs sn np i) (mSt fs sn op np) h b).isSome) nn)))), (7, .int (nI co9)), (6, .int (nI wa9)), (5, .int (nI h)), (4, .int (nI ag9)), (2, .int (nI nn)), (0, .ref zs), (1, .ref hM)] → W p l e (headSpec wsX5_isSame ({ frames := 6, cells := 1300, slots := 9000, locals := 150 })).room s m [.ref zs, .ref hM].toArray below meth c H locs (176 * h + 169) (1203 * h + 1181) (MQ below (va_Qi (fun (r : Int32) (u : List Nat × List Nat × (Nat → va_E)) => r = bI true ∧ kObj G hM nn np mi fs sn ln op SS ar ww u.1 u.2.2 ∧ (∀ a ∈ u.1, a ∈ u.2.1) ∧ kSim G nn np mi u.1 u.2.1 u.2.2 ro rr rp fs sn ln op SS) (fun (u : List Nat × List Nat × (Nat → va_E)) t => kA G A ([(zs, .inr (5, [.int (nI mi), .ref za, .ref zw, .ref zq, .ref zp])), (za, .inl (G.2 0, nn, .inl (kI ar))), (zq, .inl (G.2 4, nn, .inr (.inr (.inr (.inr (kRn nn ro)))))), (zp, .inl (G.2 3, np, .inr (.inr (.inr (.inr (kRn np rp)))))), (zw, .inl (G.2 0, nn, .inl (kI ww)))] ++ va_pl u.2.1 u.2.2) t) A) [.ref zs, .ref hM].toArray s 1300 9000 A) (F0 m 442 ls []) := by
                intro n
                induction n with
                | zero =>
                  intro wh M2 L2 f2 hmz; exact absurd hmz (Nat.not_lt_zero _)
                | succ n ih442 =>
                  intro wh M2 L2 f2 hmz hwh hob hML hsm H locs hP hD hS ls hl
                  refine lv_iload hx hb dX5_isSame_442 (lv_at hl 0 rfl) ?_
                  refine lv_iconst (v := (nI 5)) hx hb dX5_isSame_444 (by decide) ?_
                  refine kb_ge (tgt := 472) hx hb dX5_isSame_445 (by decide) (by omega) (by decide) (fun c_27 => ?_) (fun c_27 => ?_)
                  · refine lv_iinc (k := 5) (v := (nI (h + 1))) (lv' := [(5, .int (nI (h + 1))), (9, .int (nI wh)), (8, .ref q_25), (3, .int (nI (le9 + (mCnt (fun b => h != b && (mPost (fun i => vWay SS fs sn np i) (mSt fs sn op np) h b).isSome) nn)))), (7, .int (nI co9)), (6, .int (nI wa9)), (4, .int (nI ag9)), (2, .int (nI nn)), (0, .ref zs), (1, .ref hM)]) hx hb dX5_isSame_472 hl rfl (kn_inc h) (by decide) rfl (fun ls hl => ?_)
                    refine lv_goto (tgt := 14) hx hb dX5_isSame_475 (by decide) ?_
                    refine W.widen (k := 176 * (h + 1)) (n := 1203 * (h + 1)) (by omega) (by omega) ?_
                    have hP : va_P G.1 vwCl ([(zs, .inr (5, [.int (nI mi), .ref za, .ref zw, .ref zq, .ref zp])), (za, .inl (G.2 0, nn, .inl (kI ar))), (zq, .inl (G.2 4, nn, .inr (.inr (.inr (.inr (kRn nn ro)))))), (zp, .inl (G.2 3, np, .inr (.inr (.inr (.inr (kRn np rp)))))), (zw, .inl (G.2 0, nn, .inl (kI ww)))] ++ va_pl L2 f2) _ := hP.part (cx := [(zs, .inr (5, [.int (nI mi), .ref za, .ref zw, .ref zq, .ref zp])), (za, .inl (G.2 0, nn, .inl (kI ar))), (zq, .inl (G.2 4, nn, .inr (.inr (.inr (.inr (kRn nn ro)))))), (zp, .inl (G.2 3, np, .inr (.inr (.inr (.inr (kRn np rp)))))), (zw, .inl (G.2 0, nn, .inl (kI ww)))]) [0, 1, 2, 3, 4] rfl
                    have hD : va_D A ([(zs, .inr (5, [.int (nI mi), .ref za, .ref zw, .ref zq, .ref zp])), (za, .inl (G.2 0, nn, .inl (kI ar))), (zq, .inl (G.2 4, nn, .inr (.inr (.inr (.inr (kRn nn ro)))))), (zp, .inl (G.2 3, np, .inr (.inr (.inr (.inr (kRn np rp)))))), (zw, .inl (G.2 0, nn, .inl (kI ww)))] ++ va_pl L2 f2) := hD.part (cx := [(zs, .inr (5, [.int (nI mi), .ref za, .ref zw, .ref zq, .ref zp])), (za, .inl (G.2 0, nn, .inl (kI ar))), (zq, .inl (G.2 4, nn, .inr (.inr (.inr (.inr (kRn nn ro)))))), (zp, .inl (G.2 3, np, .inr (.inr (.inr (.inr (kRn np rp)))))), (zw, .inl (G.2 0, nn, .inl (kI ww)))]) [0, 1, 2, 3, 4] (by decide) rfl
                    exact ih14 (h + 1) (le9 + (mCnt (fun b => h != b && (mPost (fun i => vWay SS fs sn np i) (mSt fs sn op np) h b).isSome) nn)) ag9 M2 L2 f2 (by omega) (by omega) (by rw [hle]; rfl) (by exact hag9) (by exact hob) (by exact hML) (by exact hsm) _ _ hP hD hS _ (lv_sub hl [0, 6, 3, 7, 8, 9] rfl)
                  · refine lv_aload_n hx hb dX5_isSame_448 rfl (lv_at hl 9 rfl) ?_
                    refine lv_iload hx hb dX5_isSame_449 (lv_at hl 5 rfl) ?_
                    refine lv_iload hx hb dX5_isSame_451 (lv_at hl 0 rfl) ?_
                    have hPc : va_P G.1 vwCl ([] ++ va_pl L2 f2) _ := hP.part (cx := []) [] rfl
                    have hDc : va_D A ([] ++ va_pl L2 f2) := hD.part (cx := []) [] (by decide) rfl
                    have hFc : ∀ zq9 : Nat, va_A ([] ++ va_pl L2 f2) _ zq9 → A zq9 := va_freeP (cx := []) hD hS hA [] rfl
                    refine va_calli (va_runV (As := [.int (nI h), .int (nI wh)]) (rest := []) ⟨hx, hb, hml, hown, hts⟩ (c_X4_told_o l G _ hM nn np mi fs sn ln op SS ar ww M2 L2 f2 h wh hob hML hV (by omega) (by omega) (by omega)) (cwV 2 hts gX5_isSame_X4_told rfl rfl rfl (by decide +kernel) ⟨Nat.le_of_ble_eq_true rfl, Nat.le_of_ble_eq_true rfl⟩) (kO_V hob hML hK hPc hDc) rfl rfl hl.1 rfl (lv_room (Nat.le_of_ble_eq_true rfl)) dX5_isSame_453 ⟨(show 176 * h + 169 + 0 ≤ 1300 from by omega), (show 1203 * h + 1181 + 0 ≤ 9000 from by omega)⟩) hS (fun q _ h => hFc q h) hFc (fun r_28 u t H1 locs ht hvm hw hB hz1 hk1 hS => ?_)
                    obtain ⟨M_453, L_453, f_453⟩ := u
                    obtain ⟨hP1, hD1⟩ := hB
                    rw [ht] at hP1
                    try dsimp only at hw hP1 hD1
                    obtain ⟨hP, hD⟩ := va_joinP (cx := []) (wr := [(zs, .inr (5, [.int (nI mi), .ref za, .ref zw, .ref zq, .ref zp])), (za, .inl (G.2 0, nn, .inl (kI ar))), (zq, .inl (G.2 4, nn, .inr (.inr (.inr (.inr (kRn nn ro)))))), (zp, .inl (G.2 3, np, .inr (.inr (.inr (.inr (kRn np rp)))))), (zw, .inl (G.2 0, nn, .inl (kI ww))), (q_25, .inl (G.2 0, 5, .inl (kI (va_up (va_up (va_up (va_up (va_up (fun _ => 0) 0 (ar h)) 1 (zHas SS nn h)) 2 (ww h)) 3 wa9) 4 co9))))]) (rx := []) hP hD [] [0, 1, 2, 3, 4, 5] rfl rfl (by decide) (by decide) hk1 hFc hP1 hD1
                    clear hPc hDc hFc hP1 hD1 hk1 hz1 ht
                    skip
                    generalize H1 = H at hP hS ⊢
                    have hP : va_P G.1 vwCl ([(zs, .inr (5, [.int (nI mi), .ref za, .ref zw, .ref zq, .ref zp])), (za, .inl (G.2 0, nn, .inl (kI ar))), (zq, .inl (G.2 4, nn, .inr (.inr (.inr (.inr (kRn nn ro)))))), (zp, .inl (G.2 3, np, .inr (.inr (.inr (.inr (kRn np rp)))))), (zw, .inl (G.2 0, nn, .inl (kI ww))), (q_25, .inl (G.2 0, 5, .inl (kI (va_up (va_up (va_up (va_up (va_up (fun _ => 0) 0 (ar h)) 1 (zHas SS nn h)) 2 (ww h)) 3 wa9) 4 co9))))] ++ va_pl L_453 f_453) H := hP
                    have hD : va_D A ([(zs, .inr (5, [.int (nI mi), .ref za, .ref zw, .ref zq, .ref zp])), (za, .inl (G.2 0, nn, .inl (kI ar))), (zq, .inl (G.2 4, nn, .inr (.inr (.inr (.inr (kRn nn ro)))))), (zp, .inl (G.2 3, np, .inr (.inr (.inr (.inr (kRn np rp)))))), (zw, .inl (G.2 0, nn, .inl (kI ww))), (q_25, .inl (G.2 0, 5, .inl (kI (va_up (va_up (va_up (va_up (va_up (fun _ => 0) 0 (ar h)) 1 (zHas SS nn h)) 2 (ww h)) 3 wa9) 4 co9))))] ++ va_pl L_453 f_453) := hD
                    refine W.widen (k := 176 * h + 169) (n := 1203 * h + 1181) (Nat.le_refl _) (Nat.le_refl _) ?_
                    have hw_29 := hw
                    obtain ⟨hr_28, hob, hfr⟩ := hw_29
                    have hML := hfr.1
                    have hsm := hsm.fr hfr
                    obtain ⟨hrw, hrr, hrp, hrM, hqM, hpM, hroi, hrpi, hrq⟩ := id hsm
                    rw [zS_told (a1 := ar h) (a2 := zHas SS nn h) (a3 := ww h) (a4 := wa9) (a5 := co9) rfl (vHas_z hV (show h < 10 by omega) hnn).symm rfl hwa9 hco8 (by omega)] at hr_28
                    subst hr_28
                    refine lv_aload hx hb dX5_isSame_456 (lv_at hl 1 rfl) ?_
                    refine lv_iload hx hb dX5_isSame_458 (lv_at hl 0 rfl) ?_
                    refine kr_iald (k := wh) (v := (kI (va_up (va_up (va_up (va_up (va_up (fun _ => 0) 0 (ar h)) 1 (zHas SS nn h)) 2 (ww h)) 3 wa9) 4 co9) wh)) hx hb hK hP 5 0 rfl rfl (by omega) (by decide) rfl dX5_isSame_460 ?_
                    refine lv_icmp_eq (tgt := 466) hx hb dX5_isSame_461 (by decide) (fun c_30 => ?_) (fun c_30 => ?_)
                    · refine lv_iinc (k := 0) (v := (nI (wh + 1))) (lv' := [(9, .int (nI (wh + 1))), (8, .ref q_25), (3, .int (nI (le9 + (mCnt (fun b => h != b && (mPost (fun i => vWay SS fs sn np i) (mSt fs sn op np) h b).isSome) nn)))), (7, .int (nI co9)), (6, .int (nI wa9)), (5, .int (nI h)), (4, .int (nI ag9)), (2, .int (nI nn)), (0, .ref zs), (1, .ref hM)]) hx hb dX5_isSame_466 hl rfl (kn_inc wh) (by decide) rfl (fun ls hl => ?_)
                      refine lv_goto (tgt := 442) hx hb dX5_isSame_469 (by decide) ?_
                      exact ih442 (wh + 1) M_453 L_453 f_453 (by omega) (by omega) (by exact hob) (by exact hML) (by exact hsm) _ _ hP hD hS _ (lv_sub hl [0, 1, 2, 3, 4, 5, 6, 7, 8, 9] rfl)
                    · exfalso; exact c_30 rfl
              refine W.widen (k := 176 * h + 169) (n := 1203 * h + 1181) (by omega) (by omega) ?_
              exact hc_442 (_ + 1) 0 M1 L1 f1 (Nat.lt_succ_self _) (by omega) (by exact hob) (by exact hML) (by exact hsm) _ _ hP hD hS _ (lv_sub hl [0, 1, 2, 3, 4, 5, 6, 7, 8, 9] rfl)
            · have hc_195 : ∀ (ag8 : Nat), ag8 = mSum (fun a => mSum (fun b => vAge mi (SS (a * 10 + b))) nn) h + mSum (fun b => vAge mi (SS (h * 10 + b))) (k + 1) → ∀ (H : Heap) (locs : List Loc), va_P G.1 vwCl ([(zs, .inr (5, [.int (nI mi), .ref za, .ref zw, .ref zq, .ref zp])), (za, .inl (G.2 0, nn, .inl (kI ar))), (zq, .inl (G.2 4, nn, .inr (.inr (.inr (.inr (kRn nn ro)))))), (zp, .inl (G.2 3, np, .inr (.inr (.inr (.inr (kRn np rp)))))), (zw, .inl (G.2 0, nn, .inl (kI ww)))] ++ va_pl L1 f1) H → va_D A ([(zs, .inr (5, [.int (nI mi), .ref za, .ref zw, .ref zq, .ref zp])), (za, .inl (G.2 0, nn, .inl (kI ar))), (zq, .inl (G.2 4, nn, .inr (.inr (.inr (.inr (kRn nn ro)))))), (zp, .inl (G.2 3, np, .inr (.inr (.inr (.inr (kRn np rp)))))), (zw, .inl (G.2 0, nn, .inl (kI ww)))] ++ va_pl L1 f1) → va_S A s.heap H locs → ∀ (ls : Array Slot), lv_has ls 15 [(8, .int (nI k)), (7, .int (nI co9)), (6, .int (nI wa9)), (5, .int (nI h)), (4, .int (nI ag8)), (3, .int (nI le9)), (2, .int (nI nn)), (0, .ref zs), (1, .ref hM)] → W p l e (headSpec wsX5_isSame ({ frames := 6, cells := 1300, slots := 9000, locals := 150 })).room s m [.ref zs, .ref hM].toArray below meth c H locs (176 * h + 24 * k) (1203 * h + 168 * k) (MQ below (va_Qi (fun (r : Int32) (u : List Nat × List Nat × (Nat → va_E)) => r = bI true ∧ kObj G hM nn np mi fs sn ln op SS ar ww u.1 u.2.2 ∧ (∀ a ∈ u.1, a ∈ u.2.1) ∧ kSim G nn np mi u.1 u.2.1 u.2.2 ro rr rp fs sn ln op SS) (fun (u : List Nat × List Nat × (Nat → va_E)) t => kA G A ([(zs, .inr (5, [.int (nI mi), .ref za, .ref zw, .ref zq, .ref zp])), (za, .inl (G.2 0, nn, .inl (kI ar))), (zq, .inl (G.2 4, nn, .inr (.inr (.inr (.inr (kRn nn ro)))))), (zp, .inl (G.2 3, np, .inr (.inr (.inr (.inr (kRn np rp)))))), (zw, .inl (G.2 0, nn, .inl (kI ww)))] ++ va_pl u.2.1 u.2.2) t) A) [.ref zs, .ref hM].toArray s 1300 9000 A) (F0 m 195 ls []) := by
                intro ag8 hag8 H locs hP hD hS ls hl
                refine lv_aload_n hx hb dX5_isSame_195 rfl (lv_at hl 7 rfl) ?_
                refine lv_iload hx hb dX5_isSame_196 (lv_at hl 3 rfl) ?_
                refine lv_iload hx hb dX5_isSame_198 (lv_at hl 0 rfl) ?_
                have hPc : va_P G.1 vwCl ([(zs, .inr (5, [.int (nI mi), .ref za, .ref zw, .ref zq, .ref zp])), (za, .inl (G.2 0, nn, .inl (kI ar))), (zq, .inl (G.2 4, nn, .inr (.inr (.inr (.inr (kRn nn ro)))))), (zp, .inl (G.2 3, np, .inr (.inr (.inr (.inr (kRn np rp))))))] ++ va_pl L1 f1) _ := hP.part (cx := [(zs, .inr (5, [.int (nI mi), .ref za, .ref zw, .ref zq, .ref zp])), (za, .inl (G.2 0, nn, .inl (kI ar))), (zq, .inl (G.2 4, nn, .inr (.inr (.inr (.inr (kRn nn ro)))))), (zp, .inl (G.2 3, np, .inr (.inr (.inr (.inr (kRn np rp))))))]) [0, 1, 2, 3] rfl
                have hDc : va_D A ([(zs, .inr (5, [.int (nI mi), .ref za, .ref zw, .ref zq, .ref zp])), (za, .inl (G.2 0, nn, .inl (kI ar))), (zq, .inl (G.2 4, nn, .inr (.inr (.inr (.inr (kRn nn ro)))))), (zp, .inl (G.2 3, np, .inr (.inr (.inr (.inr (kRn np rp))))))] ++ va_pl L1 f1) := hD.part (cx := [(zs, .inr (5, [.int (nI mi), .ref za, .ref zw, .ref zq, .ref zp])), (za, .inl (G.2 0, nn, .inl (kI ar))), (zq, .inl (G.2 4, nn, .inr (.inr (.inr (.inr (kRn nn ro)))))), (zp, .inl (G.2 3, np, .inr (.inr (.inr (.inr (kRn np rp))))))]) [0, 1, 2, 3] (by decide) rfl
                have hFc : ∀ zq9 : Nat, va_A ([(zs, .inr (5, [.int (nI mi), .ref za, .ref zw, .ref zq, .ref zp])), (za, .inl (G.2 0, nn, .inl (kI ar))), (zq, .inl (G.2 4, nn, .inr (.inr (.inr (.inr (kRn nn ro)))))), (zp, .inl (G.2 3, np, .inr (.inr (.inr (.inr (kRn np rp))))))] ++ va_pl L1 f1) _ zq9 → A zq9 := va_freeP (cx := [(zs, .inr (5, [.int (nI mi), .ref za, .ref zw, .ref zq, .ref zp])), (za, .inl (G.2 0, nn, .inl (kI ar))), (zq, .inl (G.2 4, nn, .inr (.inr (.inr (.inr (kRn nn ro)))))), (zp, .inl (G.2 3, np, .inr (.inr (.inr (.inr (kRn np rp))))))]) hD hS hA [0, 1, 2, 3] rfl
                refine va_callr (va_runV (As := [.int (nI h), .int (nI k)]) (rest := []) ⟨hx, hb, hml, hown, hts⟩ (c_X5_far l G _ zs za zw zq zp nn np mi L1 f1 ro rr rp fs sn ln op SS ar ww h k hrw hrr hrp (by omega) (by omega) hfs hsn hln hen (by omega) (by omega) (by omega)) (cwV 2 hts gX5_isSame_X5_far rfl rfl rfl (by decide +kernel) ⟨Nat.le_of_ble_eq_true rfl, Nat.le_of_ble_eq_true rfl⟩) (kPreM_V (ws := ([(zs, .inr (5, [.int (nI mi), .ref za, .ref zw, .ref zq, .ref zp])), (za, .inl (G.2 0, nn, .inl (kI ar))), (zq, .inl (G.2 4, nn, .inr (.inr (.inr (.inr (kRn nn ro)))))), (zp, .inl (G.2 3, np, .inr (.inr (.inr (.inr (kRn np rp))))))] ++ va_pl L1 f1)) hK hPc hDc (RX5, TX5, 5) 0 rfl rfl) rfl rfl hl.1 rfl (lv_room (Nat.le_of_ble_eq_true rfl)) dX5_isSame_200 ⟨(show 176 * h + 24 * k + 1 ≤ 1300 from by omega), (show 1203 * h + 168 * k + 7 ≤ 9000 from by omega)⟩) hS (fun q _ h => hFc q h) hFc (fun u r_31 t H1 locs ht hvm hw hB hz1 hk1 hS => ?_)
                obtain ⟨hP1, hD1⟩ := hB
                rw [ht] at hP1
                try dsimp only at hw hP1 hD1
                obtain ⟨hP, hD⟩ := va_joinP (cx := [(zs, .inr (5, [.int (nI mi), .ref za, .ref zw, .ref zq, .ref zp])), (za, .inl (G.2 0, nn, .inl (kI ar))), (zq, .inl (G.2 4, nn, .inr (.inr (.inr (.inr (kRn nn ro)))))), (zp, .inl (G.2 3, np, .inr (.inr (.inr (.inr (kRn np rp))))))]) (wr := [(zw, .inl (G.2 0, nn, .inl (kI ww)))]) (rx := [(zs, .inr (5, [.int (nI mi), .ref za, .ref zw, .ref zq, .ref zp])), (za, .inl (G.2 0, nn, .inl (kI ar))), (zq, .inl (G.2 4, nn, .inr (.inr (.inr (.inr (kRn nn ro)))))), (zp, .inl (G.2 3, np, .inr (.inr (.inr (.inr (kRn np rp)))))), (r_31, .inl (G.2 0, nn, .inl (kI (zFar (zStH SS fs sn h) fs sn np nn k))))]) hP hD [0, 1, 2, 3] [4] rfl rfl (by decide) (by decide) hk1 hFc hP1 hD1
                clear hPc hDc hFc hP1 hD1 hk1 hz1 ht
                skip
                generalize H1 = H at hP hS ⊢
                have hP : va_P G.1 vwCl ([(zw, .inl (G.2 0, nn, .inl (kI ww))), (zs, .inr (5, [.int (nI mi), .ref za, .ref zw, .ref zq, .ref zp])), (za, .inl (G.2 0, nn, .inl (kI ar))), (zq, .inl (G.2 4, nn, .inr (.inr (.inr (.inr (kRn nn ro)))))), (zp, .inl (G.2 3, np, .inr (.inr (.inr (.inr (kRn np rp)))))), (r_31, .inl (G.2 0, nn, .inl (kI (zFar (zStH SS fs sn h) fs sn np nn k))))] ++ va_pl L1 f1) H := hP
                have hD : va_D A ([(zw, .inl (G.2 0, nn, .inl (kI ww))), (zs, .inr (5, [.int (nI mi), .ref za, .ref zw, .ref zq, .ref zp])), (za, .inl (G.2 0, nn, .inl (kI ar))), (zq, .inl (G.2 4, nn, .inr (.inr (.inr (.inr (kRn nn ro)))))), (zp, .inl (G.2 3, np, .inr (.inr (.inr (.inr (kRn np rp)))))), (r_31, .inl (G.2 0, nn, .inl (kI (zFar (zStH SS fs sn h) fs sn np nn k))))] ++ va_pl L1 f1) := hD
                refine W.widen (k := 176 * h + 24 * k + 1) (n := 1203 * h + 168 * k + 7) (Nat.le_refl _) (Nat.le_refl _) ?_
                have hw_32 := hw
                refine lv_iload hx hb dX5_isSame_203 (lv_at hl 3 rfl) ?_
                refine kr_iald (k := h) (v := (nI ((zFar (zStH SS fs sn h) fs sn np nn k) h))) hx hb hK hP 5 0 rfl rfl (by omega) (by omega) rfl dX5_isSame_205 ?_
                have hfl := zFar_le (st := zStH SS fs sn h) (fs := fs) (sn := sn) (np := np) (to := k) (show h < nn by omega)
                refine lv_istore (lv' := [(12, .int (nI ((zFar (zStH SS fs sn h) fs sn np nn k) h))), (8, .int (nI k)), (7, .int (nI co9)), (6, .int (nI wa9)), (5, .int (nI h)), (4, .int (nI ag8)), (3, .int (nI le9)), (2, .int (nI nn)), (0, .ref zs), (1, .ref hM)]) hx hb dX5_isSame_206 hl (by decide) rfl (fun ls hl => ?_)
                have hc_286 : ∀ (M2 L2 : List Nat) (f2 : Nat → va_E), kObj G hM nn np mi fs sn ln op SS ar ww M2 f2 → (∀ a ∈ M2, a ∈ L2) → kSim G nn np mi M2 L2 f2 ro rr rp fs sn ln op SS → ∀ (H : Heap) (locs : List Loc), va_P G.1 vwCl ([(zw, .inl (G.2 0, nn, .inl (kI ww))), (zs, .inr (5, [.int (nI mi), .ref za, .ref zw, .ref zq, .ref zp])), (za, .inl (G.2 0, nn, .inl (kI ar))), (zq, .inl (G.2 4, nn, .inr (.inr (.inr (.inr (kRn nn ro)))))), (zp, .inl (G.2 3, np, .inr (.inr (.inr (.inr (kRn np rp)))))), (r_31, .inl (G.2 0, nn, .inl (kI (zFar (zStH SS fs sn h) fs sn np nn k))))] ++ va_pl L2 f2) H → va_D A ([(zw, .inl (G.2 0, nn, .inl (kI ww))), (zs, .inr (5, [.int (nI mi), .ref za, .ref zw, .ref zq, .ref zp])), (za, .inl (G.2 0, nn, .inl (kI ar))), (zq, .inl (G.2 4, nn, .inr (.inr (.inr (.inr (kRn nn ro)))))), (zp, .inl (G.2 3, np, .inr (.inr (.inr (.inr (kRn np rp)))))), (r_31, .inl (G.2 0, nn, .inl (kI (zFar (zStH SS fs sn h) fs sn np nn k))))] ++ va_pl L2 f2) → va_S A s.heap H locs → ∀ (ls : Array Slot), lv_has ls 15 [(12, .int (nI ((zFar (zStH SS fs sn h) fs sn np nn k) h))), (8, .int (nI k)), (7, .int (nI co9)), (6, .int (nI wa9)), (5, .int (nI h)), (4, .int (nI ag8)), (3, .int (nI le9)), (2, .int (nI nn)), (0, .ref zs), (1, .ref hM)] → W p l e (headSpec wsX5_isSame ({ frames := 6, cells := 1300, slots := 9000, locals := 150 })).room s m [.ref zs, .ref hM].toArray below meth c H locs (176 * h + 24 * k + 2) (1203 * h + 168 * k + 14) (MQ below (va_Qi (fun (r : Int32) (u : List Nat × List Nat × (Nat → va_E)) => r = bI true ∧ kObj G hM nn np mi fs sn ln op SS ar ww u.1 u.2.2 ∧ (∀ a ∈ u.1, a ∈ u.2.1) ∧ kSim G nn np mi u.1 u.2.1 u.2.2 ro rr rp fs sn ln op SS) (fun (u : List Nat × List Nat × (Nat → va_E)) t => kA G A ([(zs, .inr (5, [.int (nI mi), .ref za, .ref zw, .ref zq, .ref zp])), (za, .inl (G.2 0, nn, .inl (kI ar))), (zq, .inl (G.2 4, nn, .inr (.inr (.inr (.inr (kRn nn ro)))))), (zp, .inl (G.2 3, np, .inr (.inr (.inr (.inr (kRn np rp)))))), (zw, .inl (G.2 0, nn, .inl (kI ww)))] ++ va_pl u.2.1 u.2.2) t) A) [.ref zs, .ref hM].toArray s 1300 9000 A) (F0 m 286 ls []) := by
                  intro M2 L2 f2 hob hML hsm H locs hP hD hS ls hl
                  obtain ⟨hrw, hrr, hrp, hrM, hqM, hpM, hroi, hrpi, hrq⟩ := id hsm
                  refine lv_aload_n hx hb dX5_isSame_286 rfl (lv_at hl 8 rfl) ?_
                  refine lv_iload hx hb dX5_isSame_287 (lv_at hl 4 rfl) ?_
                  refine lv_iload hx hb dX5_isSame_289 (lv_at hl 1 rfl) ?_
                  have hPc : va_P G.1 vwCl ([(zs, .inr (5, [.int (nI mi), .ref za, .ref zw, .ref zq, .ref zp])), (za, .inl (G.2 0, nn, .inl (kI ar))), (zq, .inl (G.2 4, nn, .inr (.inr (.inr (.inr (kRn nn ro)))))), (zp, .inl (G.2 3, np, .inr (.inr (.inr (.inr (kRn np rp))))))] ++ va_pl L2 f2) _ := hP.part (cx := [(zs, .inr (5, [.int (nI mi), .ref za, .ref zw, .ref zq, .ref zp])), (za, .inl (G.2 0, nn, .inl (kI ar))), (zq, .inl (G.2 4, nn, .inr (.inr (.inr (.inr (kRn nn ro)))))), (zp, .inl (G.2 3, np, .inr (.inr (.inr (.inr (kRn np rp))))))]) [1, 2, 3, 4] rfl
                  have hDc : va_D A ([(zs, .inr (5, [.int (nI mi), .ref za, .ref zw, .ref zq, .ref zp])), (za, .inl (G.2 0, nn, .inl (kI ar))), (zq, .inl (G.2 4, nn, .inr (.inr (.inr (.inr (kRn nn ro)))))), (zp, .inl (G.2 3, np, .inr (.inr (.inr (.inr (kRn np rp))))))] ++ va_pl L2 f2) := hD.part (cx := [(zs, .inr (5, [.int (nI mi), .ref za, .ref zw, .ref zq, .ref zp])), (za, .inl (G.2 0, nn, .inl (kI ar))), (zq, .inl (G.2 4, nn, .inr (.inr (.inr (.inr (kRn nn ro)))))), (zp, .inl (G.2 3, np, .inr (.inr (.inr (.inr (kRn np rp))))))]) [1, 2, 3, 4] (by decide) rfl
                  have hFc : ∀ zq9 : Nat, va_A ([(zs, .inr (5, [.int (nI mi), .ref za, .ref zw, .ref zq, .ref zp])), (za, .inl (G.2 0, nn, .inl (kI ar))), (zq, .inl (G.2 4, nn, .inr (.inr (.inr (.inr (kRn nn ro)))))), (zp, .inl (G.2 3, np, .inr (.inr (.inr (.inr (kRn np rp))))))] ++ va_pl L2 f2) _ zq9 → A zq9 := va_freeP (cx := [(zs, .inr (5, [.int (nI mi), .ref za, .ref zw, .ref zq, .ref zp])), (za, .inl (G.2 0, nn, .inl (kI ar))), (zq, .inl (G.2 4, nn, .inr (.inr (.inr (.inr (kRn nn ro)))))), (zp, .inl (G.2 3, np, .inr (.inr (.inr (.inr (kRn np rp))))))]) hD hS hA [1, 2, 3, 4] rfl
                  refine va_calli (va_runV (As := [.int (nI h), .int (nI k)]) (rest := []) ⟨hx, hb, hml, hown, hts⟩ (c_X5_post l G _ zs za zw zq zp nn np mi L2 f2 ro rr rp fs sn ln op SS ar ww h k hrw hrr hrp (by omega) (by omega) hfs hsn hln hen (by omega) (by omega) (by omega)) (cwV 2 hts gX5_isSame_X5_post rfl rfl rfl (by decide +kernel) ⟨Nat.le_of_ble_eq_true rfl, Nat.le_of_ble_eq_true rfl⟩) (kPreM_V (ws := ([(zs, .inr (5, [.int (nI mi), .ref za, .ref zw, .ref zq, .ref zp])), (za, .inl (G.2 0, nn, .inl (kI ar))), (zq, .inl (G.2 4, nn, .inr (.inr (.inr (.inr (kRn nn ro)))))), (zp, .inl (G.2 3, np, .inr (.inr (.inr (.inr (kRn np rp))))))] ++ va_pl L2 f2)) hK hPc hDc (RX5, TX5, 5) 0 rfl rfl) rfl rfl hl.1 rfl (lv_room (Nat.le_of_ble_eq_true rfl)) dX5_isSame_291 ⟨(show 176 * h + 24 * k + 2 + 21 ≤ 1300 from by omega), (show 1203 * h + 168 * k + 14 + 147 ≤ 9000 from by omega)⟩) hS (fun q _ h => hFc q h) hFc (fun r_33 u t H1 locs ht hvm hw hB hz1 hk1 hS => ?_)
                  obtain ⟨hP1, hD1⟩ := hB
                  rw [ht] at hP1
                  try dsimp only at hw hP1 hD1
                  obtain ⟨hP, hD⟩ := va_joinP (cx := [(zs, .inr (5, [.int (nI mi), .ref za, .ref zw, .ref zq, .ref zp])), (za, .inl (G.2 0, nn, .inl (kI ar))), (zq, .inl (G.2 4, nn, .inr (.inr (.inr (.inr (kRn nn ro)))))), (zp, .inl (G.2 3, np, .inr (.inr (.inr (.inr (kRn np rp))))))]) (wr := [(zw, .inl (G.2 0, nn, .inl (kI ww))), (r_31, .inl (G.2 0, nn, .inl (kI (zFar (zStH SS fs sn h) fs sn np nn k))))]) (rx := [(zs, .inr (5, [.int (nI mi), .ref za, .ref zw, .ref zq, .ref zp])), (za, .inl (G.2 0, nn, .inl (kI ar))), (zq, .inl (G.2 4, nn, .inr (.inr (.inr (.inr (kRn nn ro)))))), (zp, .inl (G.2 3, np, .inr (.inr (.inr (.inr (kRn np rp))))))]) hP hD [1, 2, 3, 4] [0, 5] rfl rfl (by decide) (by decide) hk1 hFc hP1 hD1
                  clear hPc hDc hFc hP1 hD1 hk1 hz1 ht
                  skip
                  generalize H1 = H at hP hS ⊢
                  have hP : va_P G.1 vwCl ([(zw, .inl (G.2 0, nn, .inl (kI ww))), (r_31, .inl (G.2 0, nn, .inl (kI (zFar (zStH SS fs sn h) fs sn np nn k)))), (zs, .inr (5, [.int (nI mi), .ref za, .ref zw, .ref zq, .ref zp])), (za, .inl (G.2 0, nn, .inl (kI ar))), (zq, .inl (G.2 4, nn, .inr (.inr (.inr (.inr (kRn nn ro)))))), (zp, .inl (G.2 3, np, .inr (.inr (.inr (.inr (kRn np rp))))))] ++ va_pl L2 f2) H := hP
                  have hD : va_D A ([(zw, .inl (G.2 0, nn, .inl (kI ww))), (r_31, .inl (G.2 0, nn, .inl (kI (zFar (zStH SS fs sn h) fs sn np nn k)))), (zs, .inr (5, [.int (nI mi), .ref za, .ref zw, .ref zq, .ref zp])), (za, .inl (G.2 0, nn, .inl (kI ar))), (zq, .inl (G.2 4, nn, .inr (.inr (.inr (.inr (kRn nn ro)))))), (zp, .inl (G.2 3, np, .inr (.inr (.inr (.inr (kRn np rp))))))] ++ va_pl L2 f2) := hD
                  refine W.widen (k := 176 * h + 24 * k + 2 + 21) (n := 1203 * h + 168 * k + 14 + 147) (Nat.le_refl _) (Nat.le_refl _) ?_
                  have hw_34 := hw
                  rw [zS_post hV (show h < nn by omega) (show k < nn by omega)] at hw_34
                  subst hw_34
                  have hc_350 : ∀ (M2 L2 : List Nat) (f2 : Nat → va_E), kObj G hM nn np mi fs sn ln op SS ar ww M2 f2 → (∀ a ∈ M2, a ∈ L2) → kSim G nn np mi M2 L2 f2 ro rr rp fs sn ln op SS → ∀ (H : Heap) (locs : List Loc), va_P G.1 vwCl ([(zw, .inl (G.2 0, nn, .inl (kI ww))), (r_31, .inl (G.2 0, nn, .inl (kI (zFar (zStH SS fs sn h) fs sn np nn k)))), (zs, .inr (5, [.int (nI mi), .ref za, .ref zw, .ref zq, .ref zp])), (za, .inl (G.2 0, nn, .inl (kI ar))), (zq, .inl (G.2 4, nn, .inr (.inr (.inr (.inr (kRn nn ro)))))), (zp, .inl (G.2 3, np, .inr (.inr (.inr (.inr (kRn np rp))))))] ++ va_pl L2 f2) H → va_D A ([(zw, .inl (G.2 0, nn, .inl (kI ww))), (r_31, .inl (G.2 0, nn, .inl (kI (zFar (zStH SS fs sn h) fs sn np nn k)))), (zs, .inr (5, [.int (nI mi), .ref za, .ref zw, .ref zq, .ref zp])), (za, .inl (G.2 0, nn, .inl (kI ar))), (zq, .inl (G.2 4, nn, .inr (.inr (.inr (.inr (kRn nn ro)))))), (zp, .inl (G.2 3, np, .inr (.inr (.inr (.inr (kRn np rp))))))] ++ va_pl L2 f2) → va_S A s.heap H locs → ∀ (ls : Array Slot), lv_has ls 15 [(12, .int (nI ((zFar (zStH SS fs sn h) fs sn np nn k) h))), (8, .int (nI k)), (7, .int (nI co9)), (6, .int (nI wa9)), (5, .int (nI h)), (4, .int (nI ag8)), (3, .int (nI le9)), (2, .int (nI nn)), (0, .ref zs), (1, .ref hM), (13, .int (mOI (mPost (fun i => vWay SS fs sn np i) (mSt fs sn op np) h k)))] → W p l e (headSpec wsX5_isSame ({ frames := 6, cells := 1300, slots := 9000, locals := 150 })).room s m [.ref zs, .ref hM].toArray below meth c H locs (176 * h + 24 * k + 24) (1203 * h + 168 * k + 168) (MQ below (va_Qi (fun (r : Int32) (u : List Nat × List Nat × (Nat → va_E)) => r = bI true ∧ kObj G hM nn np mi fs sn ln op SS ar ww u.1 u.2.2 ∧ (∀ a ∈ u.1, a ∈ u.2.1) ∧ kSim G nn np mi u.1 u.2.1 u.2.2 ro rr rp fs sn ln op SS) (fun (u : List Nat × List Nat × (Nat → va_E)) t => kA G A ([(zs, .inr (5, [.int (nI mi), .ref za, .ref zw, .ref zq, .ref zp])), (za, .inl (G.2 0, nn, .inl (kI ar))), (zq, .inl (G.2 4, nn, .inr (.inr (.inr (.inr (kRn nn ro)))))), (zp, .inl (G.2 3, np, .inr (.inr (.inr (.inr (kRn np rp)))))), (zw, .inl (G.2 0, nn, .inl (kI ww)))] ++ va_pl u.2.1 u.2.2) t) A) [.ref zs, .ref hM].toArray s 1300 9000 A) (F0 m 350 ls []) := by
                    intro M2 L2 f2 hob hML hsm H locs hP hD hS ls hl
                    refine lv_iload hx hb dX5_isSame_350 (lv_at hl 3 rfl) ?_
                    refine lv_iload hx hb dX5_isSame_352 (lv_at hl 0 rfl) ?_
                    refine lv_ldc (v := (99999999)) hx hb hown (hts _ kX5_isSame_6) dX5_isSame_354 ?_
                    refine kr_top (show ((99999999) : Int32) = nI 99999999 from by decide) ?_
                    refine kb_ge (tgt := 363) hx hb dX5_isSame_356 (by decide) (by omega) (by decide) (fun c_35 => ?_) (fun c_35 => ?_)
                    · refine lv_iconst (v := (nI 0)) hx hb dX5_isSame_363 (by decide) ?_
                      refine lv_iadd hx hb dX5_isSame_364 ?_
                      refine kr_top (y := nI (wa9 + 0)) (nI_add wa9 0) ?_
                      refine lv_istore (lv' := [(6, .int (nI (wa9 + 0))), (12, .int (nI ((zFar (zStH SS fs sn h) fs sn np nn k) h))), (8, .int (nI k)), (7, .int (nI co9)), (5, .int (nI h)), (4, .int (nI ag8)), (3, .int (nI le9)), (2, .int (nI nn)), (0, .ref zs), (1, .ref hM), (13, .int (mOI (mPost (fun i => vWay SS fs sn np i) (mSt fs sn op np) h k)))]) hx hb dX5_isSame_365 hl (by decide) rfl (fun ls hl => ?_)
                      refine lv_iload hx hb dX5_isSame_367 (lv_at hl 3 rfl) ?_
                      refine lv_iload hx hb dX5_isSame_369 (lv_at hl 10 rfl) ?_
                      refine lv_if_lt (tgt := 378) hx hb dX5_isSame_371 (by decide) (fun c_36 => ?_) (fun c_36 => ?_)
                      · have hc9 := mPost_n c_36
                        refine lv_iconst (v := (nI 0)) hx hb dX5_isSame_378 (by decide) ?_
                        refine lv_iadd hx hb dX5_isSame_379 ?_
                        refine kr_top (y := nI (co9 + 0)) (nI_add co9 0) ?_
                        refine lv_istore (lv' := [(7, .int (nI (co9 + 0))), (6, .int (nI (wa9 + 0))), (12, .int (nI ((zFar (zStH SS fs sn h) fs sn np nn k) h))), (8, .int (nI k)), (5, .int (nI h)), (4, .int (nI ag8)), (3, .int (nI le9)), (2, .int (nI nn)), (0, .ref zs), (1, .ref hM), (13, .int (mOI (mPost (fun i => vWay SS fs sn np i) (mSt fs sn op np) h k)))]) hx hb dX5_isSame_380 hl (by decide) rfl (fun ls hl => ?_)
                        refine lv_iinc (k := 3) (v := (nI (k + 1))) (lv' := [(8, .int (nI (k + 1))), (7, .int (nI (co9 + 0))), (6, .int (nI (wa9 + 0))), (12, .int (nI ((zFar (zStH SS fs sn h) fs sn np nn k) h))), (5, .int (nI h)), (4, .int (nI ag8)), (3, .int (nI le9)), (2, .int (nI nn)), (0, .ref zs), (1, .ref hM), (13, .int (mOI (mPost (fun i => vWay SS fs sn np i) (mSt fs sn op np) h k)))]) hx hb dX5_isSame_382 hl rfl (kn_inc k) (by decide) rfl (fun ls hl => ?_)
                        refine lv_goto (tgt := 29) hx hb dX5_isSame_385 (by decide) ?_
                        refine W.widen (k := 176 * h + 24 * (k + 1)) (n := 1203 * h + 168 * (k + 1)) (by omega) (by omega) ?_
                        have hP : va_P G.1 vwCl ([(zs, .inr (5, [.int (nI mi), .ref za, .ref zw, .ref zq, .ref zp])), (za, .inl (G.2 0, nn, .inl (kI ar))), (zq, .inl (G.2 4, nn, .inr (.inr (.inr (.inr (kRn nn ro)))))), (zp, .inl (G.2 3, np, .inr (.inr (.inr (.inr (kRn np rp)))))), (zw, .inl (G.2 0, nn, .inl (kI ww)))] ++ va_pl L2 f2) _ := hP.part (cx := [(zs, .inr (5, [.int (nI mi), .ref za, .ref zw, .ref zq, .ref zp])), (za, .inl (G.2 0, nn, .inl (kI ar))), (zq, .inl (G.2 4, nn, .inr (.inr (.inr (.inr (kRn nn ro)))))), (zp, .inl (G.2 3, np, .inr (.inr (.inr (.inr (kRn np rp)))))), (zw, .inl (G.2 0, nn, .inl (kI ww)))]) [2, 3, 4, 5, 0] rfl
                        have hD : va_D A ([(zs, .inr (5, [.int (nI mi), .ref za, .ref zw, .ref zq, .ref zp])), (za, .inl (G.2 0, nn, .inl (kI ar))), (zq, .inl (G.2 4, nn, .inr (.inr (.inr (.inr (kRn nn ro)))))), (zp, .inl (G.2 3, np, .inr (.inr (.inr (.inr (kRn np rp)))))), (zw, .inl (G.2 0, nn, .inl (kI ww)))] ++ va_pl L2 f2) := hD.part (cx := [(zs, .inr (5, [.int (nI mi), .ref za, .ref zw, .ref zq, .ref zp])), (za, .inl (G.2 0, nn, .inl (kI ar))), (zq, .inl (G.2 4, nn, .inr (.inr (.inr (.inr (kRn nn ro)))))), (zp, .inl (G.2 3, np, .inr (.inr (.inr (.inr (kRn np rp)))))), (zw, .inl (G.2 0, nn, .inl (kI ww)))]) [2, 3, 4, 5, 0] (by decide) rfl
                        exact ih29 (k + 1) (wa9 + 0) (co9 + 0) ag8 M2 L2 f2 (by omega) (by omega) (by exact hwa.trans (mCnt_f (P := (fun k => decide (zFar (zStH SS fs sn h) fs sn np nn k h < 99999999))) (n := k) (decide_eq_false (by omega))).symm) (by exact hco.trans (mCnt_f (P := (fun k => (mPost (fun i => vWay SS fs sn np i) (mSt fs sn op np) h k).isSome)) (n := k) hc9).symm) (by exact hag8) (by exact hob) (by exact hML) (by exact hsm) _ _ hP hD hS _ (lv_sub hl [0, 1, 2, 4, 5, 6, 7, 8, 9] rfl)
                      · have hc9 := mPost_s c_36
                        refine lv_iconst (v := (nI 1)) hx hb dX5_isSame_374 (by decide) ?_
                        refine lv_goto (tgt := 379) hx hb dX5_isSame_375 (by decide) ?_
                        refine lv_iadd hx hb dX5_isSame_379 ?_
                        refine kr_top (y := nI (co9 + 1)) (nI_add co9 1) ?_
                        refine lv_istore (lv' := [(7, .int (nI (co9 + 1))), (6, .int (nI (wa9 + 0))), (12, .int (nI ((zFar (zStH SS fs sn h) fs sn np nn k) h))), (8, .int (nI k)), (5, .int (nI h)), (4, .int (nI ag8)), (3, .int (nI le9)), (2, .int (nI nn)), (0, .ref zs), (1, .ref hM), (13, .int (mOI (mPost (fun i => vWay SS fs sn np i) (mSt fs sn op np) h k)))]) hx hb dX5_isSame_380 hl (by decide) rfl (fun ls hl => ?_)
                        refine lv_iinc (k := 3) (v := (nI (k + 1))) (lv' := [(8, .int (nI (k + 1))), (7, .int (nI (co9 + 1))), (6, .int (nI (wa9 + 0))), (12, .int (nI ((zFar (zStH SS fs sn h) fs sn np nn k) h))), (5, .int (nI h)), (4, .int (nI ag8)), (3, .int (nI le9)), (2, .int (nI nn)), (0, .ref zs), (1, .ref hM), (13, .int (mOI (mPost (fun i => vWay SS fs sn np i) (mSt fs sn op np) h k)))]) hx hb dX5_isSame_382 hl rfl (kn_inc k) (by decide) rfl (fun ls hl => ?_)
                        refine lv_goto (tgt := 29) hx hb dX5_isSame_385 (by decide) ?_
                        refine W.widen (k := 176 * h + 24 * (k + 1)) (n := 1203 * h + 168 * (k + 1)) (by omega) (by omega) ?_
                        have hP : va_P G.1 vwCl ([(zs, .inr (5, [.int (nI mi), .ref za, .ref zw, .ref zq, .ref zp])), (za, .inl (G.2 0, nn, .inl (kI ar))), (zq, .inl (G.2 4, nn, .inr (.inr (.inr (.inr (kRn nn ro)))))), (zp, .inl (G.2 3, np, .inr (.inr (.inr (.inr (kRn np rp)))))), (zw, .inl (G.2 0, nn, .inl (kI ww)))] ++ va_pl L2 f2) _ := hP.part (cx := [(zs, .inr (5, [.int (nI mi), .ref za, .ref zw, .ref zq, .ref zp])), (za, .inl (G.2 0, nn, .inl (kI ar))), (zq, .inl (G.2 4, nn, .inr (.inr (.inr (.inr (kRn nn ro)))))), (zp, .inl (G.2 3, np, .inr (.inr (.inr (.inr (kRn np rp)))))), (zw, .inl (G.2 0, nn, .inl (kI ww)))]) [2, 3, 4, 5, 0] rfl
                        have hD : va_D A ([(zs, .inr (5, [.int (nI mi), .ref za, .ref zw, .ref zq, .ref zp])), (za, .inl (G.2 0, nn, .inl (kI ar))), (zq, .inl (G.2 4, nn, .inr (.inr (.inr (.inr (kRn nn ro)))))), (zp, .inl (G.2 3, np, .inr (.inr (.inr (.inr (kRn np rp)))))), (zw, .inl (G.2 0, nn, .inl (kI ww)))] ++ va_pl L2 f2) := hD.part (cx := [(zs, .inr (5, [.int (nI mi), .ref za, .ref zw, .ref zq, .ref zp])), (za, .inl (G.2 0, nn, .inl (kI ar))), (zq, .inl (G.2 4, nn, .inr (.inr (.inr (.inr (kRn nn ro)))))), (zp, .inl (G.2 3, np, .inr (.inr (.inr (.inr (kRn np rp)))))), (zw, .inl (G.2 0, nn, .inl (kI ww)))]) [2, 3, 4, 5, 0] (by decide) rfl
                        exact ih29 (k + 1) (wa9 + 0) (co9 + 1) ag8 M2 L2 f2 (by omega) (by omega) (by exact hwa.trans (mCnt_f (P := (fun k => decide (zFar (zStH SS fs sn h) fs sn np nn k h < 99999999))) (n := k) (decide_eq_false (by omega))).symm) (by rw [mCnt_t hc9, ← hco]) (by exact hag8) (by exact hob) (by exact hML) (by exact hsm) _ _ hP hD hS _ (lv_sub hl [0, 1, 2, 4, 5, 6, 7, 8, 9] rfl)
                    · refine lv_iconst (v := (nI 1)) hx hb dX5_isSame_359 (by decide) ?_
                      refine lv_goto (tgt := 364) hx hb dX5_isSame_360 (by decide) ?_
                      refine lv_iadd hx hb dX5_isSame_364 ?_
                      refine kr_top (y := nI (wa9 + 1)) (nI_add wa9 1) ?_
                      refine lv_istore (lv' := [(6, .int (nI (wa9 + 1))), (12, .int (nI ((zFar (zStH SS fs sn h) fs sn np nn k) h))), (8, .int (nI k)), (7, .int (nI co9)), (5, .int (nI h)), (4, .int (nI ag8)), (3, .int (nI le9)), (2, .int (nI nn)), (0, .ref zs), (1, .ref hM), (13, .int (mOI (mPost (fun i => vWay SS fs sn np i) (mSt fs sn op np) h k)))]) hx hb dX5_isSame_365 hl (by decide) rfl (fun ls hl => ?_)
                      refine lv_iload hx hb dX5_isSame_367 (lv_at hl 3 rfl) ?_
                      refine lv_iload hx hb dX5_isSame_369 (lv_at hl 10 rfl) ?_
                      refine lv_if_lt (tgt := 378) hx hb dX5_isSame_371 (by decide) (fun c_37 => ?_) (fun c_37 => ?_)
                      · have hc9 := mPost_n c_37
                        refine lv_iconst (v := (nI 0)) hx hb dX5_isSame_378 (by decide) ?_
                        refine lv_iadd hx hb dX5_isSame_379 ?_
                        refine kr_top (y := nI (co9 + 0)) (nI_add co9 0) ?_
                        refine lv_istore (lv' := [(7, .int (nI (co9 + 0))), (6, .int (nI (wa9 + 1))), (12, .int (nI ((zFar (zStH SS fs sn h) fs sn np nn k) h))), (8, .int (nI k)), (5, .int (nI h)), (4, .int (nI ag8)), (3, .int (nI le9)), (2, .int (nI nn)), (0, .ref zs), (1, .ref hM), (13, .int (mOI (mPost (fun i => vWay SS fs sn np i) (mSt fs sn op np) h k)))]) hx hb dX5_isSame_380 hl (by decide) rfl (fun ls hl => ?_)
                        refine lv_iinc (k := 3) (v := (nI (k + 1))) (lv' := [(8, .int (nI (k + 1))), (7, .int (nI (co9 + 0))), (6, .int (nI (wa9 + 1))), (12, .int (nI ((zFar (zStH SS fs sn h) fs sn np nn k) h))), (5, .int (nI h)), (4, .int (nI ag8)), (3, .int (nI le9)), (2, .int (nI nn)), (0, .ref zs), (1, .ref hM), (13, .int (mOI (mPost (fun i => vWay SS fs sn np i) (mSt fs sn op np) h k)))]) hx hb dX5_isSame_382 hl rfl (kn_inc k) (by decide) rfl (fun ls hl => ?_)
                        refine lv_goto (tgt := 29) hx hb dX5_isSame_385 (by decide) ?_
                        refine W.widen (k := 176 * h + 24 * (k + 1)) (n := 1203 * h + 168 * (k + 1)) (by omega) (by omega) ?_
                        have hP : va_P G.1 vwCl ([(zs, .inr (5, [.int (nI mi), .ref za, .ref zw, .ref zq, .ref zp])), (za, .inl (G.2 0, nn, .inl (kI ar))), (zq, .inl (G.2 4, nn, .inr (.inr (.inr (.inr (kRn nn ro)))))), (zp, .inl (G.2 3, np, .inr (.inr (.inr (.inr (kRn np rp)))))), (zw, .inl (G.2 0, nn, .inl (kI ww)))] ++ va_pl L2 f2) _ := hP.part (cx := [(zs, .inr (5, [.int (nI mi), .ref za, .ref zw, .ref zq, .ref zp])), (za, .inl (G.2 0, nn, .inl (kI ar))), (zq, .inl (G.2 4, nn, .inr (.inr (.inr (.inr (kRn nn ro)))))), (zp, .inl (G.2 3, np, .inr (.inr (.inr (.inr (kRn np rp)))))), (zw, .inl (G.2 0, nn, .inl (kI ww)))]) [2, 3, 4, 5, 0] rfl
                        have hD : va_D A ([(zs, .inr (5, [.int (nI mi), .ref za, .ref zw, .ref zq, .ref zp])), (za, .inl (G.2 0, nn, .inl (kI ar))), (zq, .inl (G.2 4, nn, .inr (.inr (.inr (.inr (kRn nn ro)))))), (zp, .inl (G.2 3, np, .inr (.inr (.inr (.inr (kRn np rp)))))), (zw, .inl (G.2 0, nn, .inl (kI ww)))] ++ va_pl L2 f2) := hD.part (cx := [(zs, .inr (5, [.int (nI mi), .ref za, .ref zw, .ref zq, .ref zp])), (za, .inl (G.2 0, nn, .inl (kI ar))), (zq, .inl (G.2 4, nn, .inr (.inr (.inr (.inr (kRn nn ro)))))), (zp, .inl (G.2 3, np, .inr (.inr (.inr (.inr (kRn np rp)))))), (zw, .inl (G.2 0, nn, .inl (kI ww)))]) [2, 3, 4, 5, 0] (by decide) rfl
                        exact ih29 (k + 1) (wa9 + 1) (co9 + 0) ag8 M2 L2 f2 (by omega) (by omega) (by rw [mCnt_t (show decide (zFar (zStH SS fs sn h) fs sn np nn k h < 99999999) = true from decide_eq_true (by omega)), ← hwa]) (by exact hco.trans (mCnt_f (P := (fun k => (mPost (fun i => vWay SS fs sn np i) (mSt fs sn op np) h k).isSome)) (n := k) hc9).symm) (by exact hag8) (by exact hob) (by exact hML) (by exact hsm) _ _ hP hD hS _ (lv_sub hl [0, 1, 2, 4, 5, 6, 7, 8, 9] rfl)
                      · have hc9 := mPost_s c_37
                        refine lv_iconst (v := (nI 1)) hx hb dX5_isSame_374 (by decide) ?_
                        refine lv_goto (tgt := 379) hx hb dX5_isSame_375 (by decide) ?_
                        refine lv_iadd hx hb dX5_isSame_379 ?_
                        refine kr_top (y := nI (co9 + 1)) (nI_add co9 1) ?_
                        refine lv_istore (lv' := [(7, .int (nI (co9 + 1))), (6, .int (nI (wa9 + 1))), (12, .int (nI ((zFar (zStH SS fs sn h) fs sn np nn k) h))), (8, .int (nI k)), (5, .int (nI h)), (4, .int (nI ag8)), (3, .int (nI le9)), (2, .int (nI nn)), (0, .ref zs), (1, .ref hM), (13, .int (mOI (mPost (fun i => vWay SS fs sn np i) (mSt fs sn op np) h k)))]) hx hb dX5_isSame_380 hl (by decide) rfl (fun ls hl => ?_)
                        refine lv_iinc (k := 3) (v := (nI (k + 1))) (lv' := [(8, .int (nI (k + 1))), (7, .int (nI (co9 + 1))), (6, .int (nI (wa9 + 1))), (12, .int (nI ((zFar (zStH SS fs sn h) fs sn np nn k) h))), (5, .int (nI h)), (4, .int (nI ag8)), (3, .int (nI le9)), (2, .int (nI nn)), (0, .ref zs), (1, .ref hM), (13, .int (mOI (mPost (fun i => vWay SS fs sn np i) (mSt fs sn op np) h k)))]) hx hb dX5_isSame_382 hl rfl (kn_inc k) (by decide) rfl (fun ls hl => ?_)
                        refine lv_goto (tgt := 29) hx hb dX5_isSame_385 (by decide) ?_
                        refine W.widen (k := 176 * h + 24 * (k + 1)) (n := 1203 * h + 168 * (k + 1)) (by omega) (by omega) ?_
                        have hP : va_P G.1 vwCl ([(zs, .inr (5, [.int (nI mi), .ref za, .ref zw, .ref zq, .ref zp])), (za, .inl (G.2 0, nn, .inl (kI ar))), (zq, .inl (G.2 4, nn, .inr (.inr (.inr (.inr (kRn nn ro)))))), (zp, .inl (G.2 3, np, .inr (.inr (.inr (.inr (kRn np rp)))))), (zw, .inl (G.2 0, nn, .inl (kI ww)))] ++ va_pl L2 f2) _ := hP.part (cx := [(zs, .inr (5, [.int (nI mi), .ref za, .ref zw, .ref zq, .ref zp])), (za, .inl (G.2 0, nn, .inl (kI ar))), (zq, .inl (G.2 4, nn, .inr (.inr (.inr (.inr (kRn nn ro)))))), (zp, .inl (G.2 3, np, .inr (.inr (.inr (.inr (kRn np rp)))))), (zw, .inl (G.2 0, nn, .inl (kI ww)))]) [2, 3, 4, 5, 0] rfl
                        have hD : va_D A ([(zs, .inr (5, [.int (nI mi), .ref za, .ref zw, .ref zq, .ref zp])), (za, .inl (G.2 0, nn, .inl (kI ar))), (zq, .inl (G.2 4, nn, .inr (.inr (.inr (.inr (kRn nn ro)))))), (zp, .inl (G.2 3, np, .inr (.inr (.inr (.inr (kRn np rp)))))), (zw, .inl (G.2 0, nn, .inl (kI ww)))] ++ va_pl L2 f2) := hD.part (cx := [(zs, .inr (5, [.int (nI mi), .ref za, .ref zw, .ref zq, .ref zp])), (za, .inl (G.2 0, nn, .inl (kI ar))), (zq, .inl (G.2 4, nn, .inr (.inr (.inr (.inr (kRn nn ro)))))), (zp, .inl (G.2 3, np, .inr (.inr (.inr (.inr (kRn np rp)))))), (zw, .inl (G.2 0, nn, .inl (kI ww)))]) [2, 3, 4, 5, 0] (by decide) rfl
                        exact ih29 (k + 1) (wa9 + 1) (co9 + 1) ag8 M2 L2 f2 (by omega) (by omega) (by rw [mCnt_t (show decide (zFar (zStH SS fs sn h) fs sn np nn k h < 99999999) = true from decide_eq_true (by omega)), ← hwa]) (by rw [mCnt_t hc9, ← hco]) (by exact hag8) (by exact hob) (by exact hML) (by exact hsm) _ _ hP hD hS _ (lv_sub hl [0, 1, 2, 4, 5, 6, 7, 8, 9] rfl)
                  refine lv_istore (lv' := [(13, .int (mOI (mPost (fun i => vWay SS fs sn np i) (mSt fs sn op np) h k))), (12, .int (nI ((zFar (zStH SS fs sn h) fs sn np nn k) h))), (8, .int (nI k)), (7, .int (nI co9)), (6, .int (nI wa9)), (5, .int (nI h)), (4, .int (nI ag8)), (3, .int (nI le9)), (2, .int (nI nn)), (0, .ref zs), (1, .ref hM)]) hx hb dX5_isSame_294 hl (by decide) rfl (fun ls hl => ?_)
                  refine lv_aload_n hx hb dX5_isSame_296 rfl (lv_at hl 9 rfl) ?_
                  refine lv_iconst (v := (-1)) hx hb dX5_isSame_297 (by decide) ?_
                  refine lv_iload hx hb dX5_isSame_298 (lv_at hl 2 rfl) ?_
                  have hPc : va_P G.1 vwCl ([(zs, .inr (5, [.int (nI mi), .ref za, .ref zw, .ref zq, .ref zp])), (za, .inl (G.2 0, nn, .inl (kI ar))), (zq, .inl (G.2 4, nn, .inr (.inr (.inr (.inr (kRn nn ro)))))), (zp, .inl (G.2 3, np, .inr (.inr (.inr (.inr (kRn np rp))))))] ++ va_pl L2 f2) _ := hP.part (cx := [(zs, .inr (5, [.int (nI mi), .ref za, .ref zw, .ref zq, .ref zp])), (za, .inl (G.2 0, nn, .inl (kI ar))), (zq, .inl (G.2 4, nn, .inr (.inr (.inr (.inr (kRn nn ro)))))), (zp, .inl (G.2 3, np, .inr (.inr (.inr (.inr (kRn np rp))))))]) [2, 3, 4, 5] rfl
                  have hDc : va_D A ([(zs, .inr (5, [.int (nI mi), .ref za, .ref zw, .ref zq, .ref zp])), (za, .inl (G.2 0, nn, .inl (kI ar))), (zq, .inl (G.2 4, nn, .inr (.inr (.inr (.inr (kRn nn ro)))))), (zp, .inl (G.2 3, np, .inr (.inr (.inr (.inr (kRn np rp))))))] ++ va_pl L2 f2) := hD.part (cx := [(zs, .inr (5, [.int (nI mi), .ref za, .ref zw, .ref zq, .ref zp])), (za, .inl (G.2 0, nn, .inl (kI ar))), (zq, .inl (G.2 4, nn, .inr (.inr (.inr (.inr (kRn nn ro)))))), (zp, .inl (G.2 3, np, .inr (.inr (.inr (.inr (kRn np rp))))))]) [2, 3, 4, 5] (by decide) rfl
                  have hFc : ∀ zq9 : Nat, va_A ([(zs, .inr (5, [.int (nI mi), .ref za, .ref zw, .ref zq, .ref zp])), (za, .inl (G.2 0, nn, .inl (kI ar))), (zq, .inl (G.2 4, nn, .inr (.inr (.inr (.inr (kRn nn ro)))))), (zp, .inl (G.2 3, np, .inr (.inr (.inr (.inr (kRn np rp))))))] ++ va_pl L2 f2) _ zq9 → A zq9 := va_freeP (cx := [(zs, .inr (5, [.int (nI mi), .ref za, .ref zw, .ref zq, .ref zp])), (za, .inl (G.2 0, nn, .inl (kI ar))), (zq, .inl (G.2 4, nn, .inr (.inr (.inr (.inr (kRn nn ro)))))), (zp, .inl (G.2 3, np, .inr (.inr (.inr (.inr (kRn np rp))))))]) hD hS hA [2, 3, 4, 5] rfl
                  refine va_callr (va_runV (As := [.int (-1), .int (nI k)]) (rest := []) ⟨hx, hb, hml, hown, hts⟩ (c_X5_far_t l G _ zs za zw zq zp nn np mi L2 f2 ro rr rp fs sn ln op SS ar ww k hrw hrr hrp (by omega) (by omega) hfs hsn hln hen (by omega) (by omega)) (cwV 2 hts gX5_isSame_X5_far rfl rfl rfl (by decide +kernel) ⟨Nat.le_of_ble_eq_true rfl, Nat.le_of_ble_eq_true rfl⟩) (kPreM_V (ws := ([(zs, .inr (5, [.int (nI mi), .ref za, .ref zw, .ref zq, .ref zp])), (za, .inl (G.2 0, nn, .inl (kI ar))), (zq, .inl (G.2 4, nn, .inr (.inr (.inr (.inr (kRn nn ro)))))), (zp, .inl (G.2 3, np, .inr (.inr (.inr (.inr (kRn np rp))))))] ++ va_pl L2 f2)) hK hPc hDc (RX5, TX5, 5) 0 rfl rfl) rfl rfl hl.1 rfl (lv_room (Nat.le_of_ble_eq_true rfl)) dX5_isSame_300 ⟨(show 176 * h + 24 * k + 2 + 21 + 1 ≤ 1300 from by omega), (show 1203 * h + 168 * k + 14 + 147 + 7 ≤ 9000 from by omega)⟩) hS (fun q _ h => hFc q h) hFc (fun u r_38 t H1 locs ht hvm hw hB hz1 hk1 hS => ?_)
                  obtain ⟨hP1, hD1⟩ := hB
                  rw [ht] at hP1
                  try dsimp only at hw hP1 hD1
                  obtain ⟨hP, hD⟩ := va_joinP (cx := [(zs, .inr (5, [.int (nI mi), .ref za, .ref zw, .ref zq, .ref zp])), (za, .inl (G.2 0, nn, .inl (kI ar))), (zq, .inl (G.2 4, nn, .inr (.inr (.inr (.inr (kRn nn ro)))))), (zp, .inl (G.2 3, np, .inr (.inr (.inr (.inr (kRn np rp))))))]) (wr := [(zw, .inl (G.2 0, nn, .inl (kI ww))), (r_31, .inl (G.2 0, nn, .inl (kI (zFar (zStH SS fs sn h) fs sn np nn k))))]) (rx := [(zs, .inr (5, [.int (nI mi), .ref za, .ref zw, .ref zq, .ref zp])), (za, .inl (G.2 0, nn, .inl (kI ar))), (zq, .inl (G.2 4, nn, .inr (.inr (.inr (.inr (kRn nn ro)))))), (zp, .inl (G.2 3, np, .inr (.inr (.inr (.inr (kRn np rp)))))), (r_38, .inl (G.2 0, nn, .inl (kI (zFar (zStT ln op) fs sn np nn k))))]) hP hD [2, 3, 4, 5] [0, 1] rfl rfl (by decide) (by decide) hk1 hFc hP1 hD1
                  clear hPc hDc hFc hP1 hD1 hk1 hz1 ht
                  skip
                  generalize H1 = H at hP hS ⊢
                  have hP : va_P G.1 vwCl ([(zw, .inl (G.2 0, nn, .inl (kI ww))), (r_31, .inl (G.2 0, nn, .inl (kI (zFar (zStH SS fs sn h) fs sn np nn k)))), (zs, .inr (5, [.int (nI mi), .ref za, .ref zw, .ref zq, .ref zp])), (za, .inl (G.2 0, nn, .inl (kI ar))), (zq, .inl (G.2 4, nn, .inr (.inr (.inr (.inr (kRn nn ro)))))), (zp, .inl (G.2 3, np, .inr (.inr (.inr (.inr (kRn np rp)))))), (r_38, .inl (G.2 0, nn, .inl (kI (zFar (zStT ln op) fs sn np nn k))))] ++ va_pl L2 f2) H := hP
                  have hD : va_D A ([(zw, .inl (G.2 0, nn, .inl (kI ww))), (r_31, .inl (G.2 0, nn, .inl (kI (zFar (zStH SS fs sn h) fs sn np nn k)))), (zs, .inr (5, [.int (nI mi), .ref za, .ref zw, .ref zq, .ref zp])), (za, .inl (G.2 0, nn, .inl (kI ar))), (zq, .inl (G.2 4, nn, .inr (.inr (.inr (.inr (kRn nn ro)))))), (zp, .inl (G.2 3, np, .inr (.inr (.inr (.inr (kRn np rp)))))), (r_38, .inl (G.2 0, nn, .inl (kI (zFar (zStT ln op) fs sn np nn k))))] ++ va_pl L2 f2) := hD
                  refine W.widen (k := 176 * h + 24 * k + 2 + 21 + 1) (n := 1203 * h + 168 * k + 14 + 147 + 7) (Nat.le_refl _) (Nat.le_refl _) ?_
                  have hw_39 := hw
                  refine lv_iload hx hb dX5_isSame_303 (lv_at hl 5 rfl) ?_
                  refine kr_iald (k := h) (v := (nI ((zFar (zStT ln op) fs sn np nn k) h))) hx hb hK hP 6 0 rfl rfl (by omega) (by omega) rfl dX5_isSame_305 ?_
                  refine lv_istore (lv' := [(14, .int (nI ((zFar (zStT ln op) fs sn np nn k) h))), (13, .int (mOI (mPost (fun i => vWay SS fs sn np i) (mSt fs sn op np) h k))), (12, .int (nI ((zFar (zStH SS fs sn h) fs sn np nn k) h))), (8, .int (nI k)), (7, .int (nI co9)), (6, .int (nI wa9)), (5, .int (nI h)), (4, .int (nI ag8)), (3, .int (nI le9)), (2, .int (nI nn)), (0, .ref zs), (1, .ref hM)]) hx hb dX5_isSame_306 hl (by decide) rfl (fun ls hl => ?_)
                  have hft := zFar_le (st := zStT ln op) (fs := fs) (sn := sn) (np := np) (to := k) (show h < nn by omega)
                  refine lv_aload_n hx hb dX5_isSame_308 rfl (lv_at hl 11 rfl) ?_
                  refine lv_iload hx hb dX5_isSame_309 (lv_at hl 6 rfl) ?_
                  refine lv_iload hx hb dX5_isSame_311 (lv_at hl 3 rfl) ?_
                  have hPc : va_P G.1 vwCl ([] ++ va_pl L2 f2) _ := hP.part (cx := []) [] rfl
                  have hDc : va_D A ([] ++ va_pl L2 f2) := hD.part (cx := []) [] (by decide) rfl
                  have hFc : ∀ zq9 : Nat, va_A ([] ++ va_pl L2 f2) _ zq9 → A zq9 := va_freeP (cx := []) hD hS hA [] rfl
                  refine va_calli (va_runV (As := [.int (nI h), .int (nI k)]) (rest := []) ⟨hx, hb, hml, hown, hts⟩ (c_X4_post_o l G _ hM nn np mi fs sn ln op SS ar ww M2 L2 f2 h k hob hML hV (by omega) (by omega) (by omega)) (cwV 2 hts gX5_isSame_X4_post rfl rfl rfl (by decide +kernel) ⟨Nat.le_of_ble_eq_true rfl, Nat.le_of_ble_eq_true rfl⟩) (kO_V hob hML hK hPc hDc) rfl rfl hl.1 rfl (lv_room (Nat.le_of_ble_eq_true rfl)) dX5_isSame_313 ⟨(show 176 * h + 24 * k + 2 + 21 + 1 + 0 ≤ 1300 from by omega), (show 1203 * h + 168 * k + 14 + 147 + 7 + 0 ≤ 9000 from by omega)⟩) hS (fun q _ h => hFc q h) hFc (fun r_40 u t H1 locs ht hvm hw hB hz1 hk1 hS => ?_)
                  obtain ⟨M_313, L_313, f_313⟩ := u
                  obtain ⟨hP1, hD1⟩ := hB
                  rw [ht] at hP1
                  try dsimp only at hw hP1 hD1
                  obtain ⟨hP, hD⟩ := va_joinP (cx := []) (wr := [(zw, .inl (G.2 0, nn, .inl (kI ww))), (r_31, .inl (G.2 0, nn, .inl (kI (zFar (zStH SS fs sn h) fs sn np nn k)))), (zs, .inr (5, [.int (nI mi), .ref za, .ref zw, .ref zq, .ref zp])), (za, .inl (G.2 0, nn, .inl (kI ar))), (zq, .inl (G.2 4, nn, .inr (.inr (.inr (.inr (kRn nn ro)))))), (zp, .inl (G.2 3, np, .inr (.inr (.inr (.inr (kRn np rp)))))), (r_38, .inl (G.2 0, nn, .inl (kI (zFar (zStT ln op) fs sn np nn k))))]) (rx := []) hP hD [] [0, 1, 2, 3, 4, 5, 6] rfl rfl (by decide) (by decide) hk1 hFc hP1 hD1
                  clear hPc hDc hFc hP1 hD1 hk1 hz1 ht
                  skip
                  generalize H1 = H at hP hS ⊢
                  have hP : va_P G.1 vwCl ([(zw, .inl (G.2 0, nn, .inl (kI ww))), (r_31, .inl (G.2 0, nn, .inl (kI (zFar (zStH SS fs sn h) fs sn np nn k)))), (zs, .inr (5, [.int (nI mi), .ref za, .ref zw, .ref zq, .ref zp])), (za, .inl (G.2 0, nn, .inl (kI ar))), (zq, .inl (G.2 4, nn, .inr (.inr (.inr (.inr (kRn nn ro)))))), (zp, .inl (G.2 3, np, .inr (.inr (.inr (.inr (kRn np rp)))))), (r_38, .inl (G.2 0, nn, .inl (kI (zFar (zStT ln op) fs sn np nn k))))] ++ va_pl L_313 f_313) H := hP
                  have hD : va_D A ([(zw, .inl (G.2 0, nn, .inl (kI ww))), (r_31, .inl (G.2 0, nn, .inl (kI (zFar (zStH SS fs sn h) fs sn np nn k)))), (zs, .inr (5, [.int (nI mi), .ref za, .ref zw, .ref zq, .ref zp])), (za, .inl (G.2 0, nn, .inl (kI ar))), (zq, .inl (G.2 4, nn, .inr (.inr (.inr (.inr (kRn nn ro)))))), (zp, .inl (G.2 3, np, .inr (.inr (.inr (.inr (kRn np rp)))))), (r_38, .inl (G.2 0, nn, .inl (kI (zFar (zStT ln op) fs sn np nn k))))] ++ va_pl L_313 f_313) := hD
                  refine W.widen (k := 176 * h + 24 * k + 2 + 21 + 1) (n := 1203 * h + 168 * k + 14 + 147 + 7) (Nat.le_refl _) (Nat.le_refl _) ?_
                  have hw_41 := hw
                  obtain ⟨hr_40, hob, hfr⟩ := hw_41
                  have hML := hfr.1
                  have hsm := hsm.fr hfr
                  obtain ⟨hrw, hrr, hrp, hrM, hqM, hpM, hroi, hrpi, hrq⟩ := id hsm
                  subst hr_40
                  refine lv_iload hx hb dX5_isSame_316 (lv_at hl 1 rfl) ?_
                  refine lv_icmp_ne (tgt := 348) hx hb dX5_isSame_318 (by decide) (fun c_42 => ?_) (fun c_42 => ?_)
                  · exfalso; exact c_42 rfl
                  · refine lv_aload_n hx hb dX5_isSame_321 rfl (lv_at hl 11 rfl) ?_
                    refine lv_iload hx hb dX5_isSame_322 (lv_at hl 6 rfl) ?_
                    refine lv_iload hx hb dX5_isSame_324 (lv_at hl 3 rfl) ?_
                    have hPc : va_P G.1 vwCl ([] ++ va_pl L_313 f_313) _ := hP.part (cx := []) [] rfl
                    have hDc : va_D A ([] ++ va_pl L_313 f_313) := hD.part (cx := []) [] (by decide) rfl
                    have hFc : ∀ zq9 : Nat, va_A ([] ++ va_pl L_313 f_313) _ zq9 → A zq9 := va_freeP (cx := []) hD hS hA [] rfl
                    refine va_calli (va_runV (As := [.int (nI h), .int (nI k)]) (rest := []) ⟨hx, hb, hml, hown, hts⟩ (c_X4_truth_o l G _ hM nn np mi fs sn ln op SS ar ww M_313 L_313 f_313 h k hob hML hV (by omega) (by omega) (by omega)) (cwV 2 hts gX5_isSame_X4_truth rfl rfl rfl (by decide +kernel) ⟨Nat.le_of_ble_eq_true rfl, Nat.le_of_ble_eq_true rfl⟩) (kO_V hob hML hK hPc hDc) rfl rfl hl.1 rfl (lv_room (Nat.le_of_ble_eq_true rfl)) dX5_isSame_326 ⟨(show 176 * h + 24 * k + 2 + 21 + 1 + 0 ≤ 1300 from by omega), (show 1203 * h + 168 * k + 14 + 147 + 7 + 0 ≤ 9000 from by omega)⟩) hS (fun q _ h => hFc q h) hFc (fun r_43 u t H1 locs ht hvm hw hB hz1 hk1 hS => ?_)
                    obtain ⟨M_326, L_326, f_326⟩ := u
                    obtain ⟨hP1, hD1⟩ := hB
                    rw [ht] at hP1
                    try dsimp only at hw hP1 hD1
                    obtain ⟨hP, hD⟩ := va_joinP (cx := []) (wr := [(zw, .inl (G.2 0, nn, .inl (kI ww))), (r_31, .inl (G.2 0, nn, .inl (kI (zFar (zStH SS fs sn h) fs sn np nn k)))), (zs, .inr (5, [.int (nI mi), .ref za, .ref zw, .ref zq, .ref zp])), (za, .inl (G.2 0, nn, .inl (kI ar))), (zq, .inl (G.2 4, nn, .inr (.inr (.inr (.inr (kRn nn ro)))))), (zp, .inl (G.2 3, np, .inr (.inr (.inr (.inr (kRn np rp)))))), (r_38, .inl (G.2 0, nn, .inl (kI (zFar (zStT ln op) fs sn np nn k))))]) (rx := []) hP hD [] [0, 1, 2, 3, 4, 5, 6] rfl rfl (by decide) (by decide) hk1 hFc hP1 hD1
                    clear hPc hDc hFc hP1 hD1 hk1 hz1 ht
                    skip
                    generalize H1 = H at hP hS ⊢
                    have hP : va_P G.1 vwCl ([(zw, .inl (G.2 0, nn, .inl (kI ww))), (r_31, .inl (G.2 0, nn, .inl (kI (zFar (zStH SS fs sn h) fs sn np nn k)))), (zs, .inr (5, [.int (nI mi), .ref za, .ref zw, .ref zq, .ref zp])), (za, .inl (G.2 0, nn, .inl (kI ar))), (zq, .inl (G.2 4, nn, .inr (.inr (.inr (.inr (kRn nn ro)))))), (zp, .inl (G.2 3, np, .inr (.inr (.inr (.inr (kRn np rp)))))), (r_38, .inl (G.2 0, nn, .inl (kI (zFar (zStT ln op) fs sn np nn k))))] ++ va_pl L_326 f_326) H := hP
                    have hD : va_D A ([(zw, .inl (G.2 0, nn, .inl (kI ww))), (r_31, .inl (G.2 0, nn, .inl (kI (zFar (zStH SS fs sn h) fs sn np nn k)))), (zs, .inr (5, [.int (nI mi), .ref za, .ref zw, .ref zq, .ref zp])), (za, .inl (G.2 0, nn, .inl (kI ar))), (zq, .inl (G.2 4, nn, .inr (.inr (.inr (.inr (kRn nn ro)))))), (zp, .inl (G.2 3, np, .inr (.inr (.inr (.inr (kRn np rp)))))), (r_38, .inl (G.2 0, nn, .inl (kI (zFar (zStT ln op) fs sn np nn k))))] ++ va_pl L_326 f_326) := hD
                    refine W.widen (k := 176 * h + 24 * k + 2 + 21 + 1) (n := 1203 * h + 168 * k + 14 + 147 + 7) (Nat.le_refl _) (Nat.le_refl _) ?_
                    have hw_44 := hw
                    obtain ⟨hr_43, hob, hfr⟩ := hw_44
                    have hML := hfr.1
                    have hsm := hsm.fr hfr
                    obtain ⟨hrw, hrr, hrp, hrM, hqM, hpM, hroi, hrpi, hrq⟩ := id hsm
                    rw [zS_truth hV (show h < nn by omega) (show k < nn by omega)] at hr_43
                    subst hr_43
                    refine lv_iload hx hb dX5_isSame_329 (lv_at hl 0 rfl) ?_
                    refine lv_ldc (v := (99999999)) hx hb hown (hts _ kX5_isSame_6) dX5_isSame_331 ?_
                    refine kr_top (show ((99999999) : Int32) = nI 99999999 from by decide) ?_
                    refine kb_ge (tgt := 344) hx hb dX5_isSame_333 (by decide) (by omega) (by decide) (fun c_45 => ?_) (fun c_45 => ?_)
                    · refine lv_iconst (v := (-1)) hx hb dX5_isSame_344 (by decide) ?_
                      refine lv_icmp_eq (tgt := 350) hx hb dX5_isSame_345 (by decide) (fun c_46 => ?_) (fun c_46 => ?_)
                      · refine W.widen (k := 176 * h + 24 * k + 24) (n := 1203 * h + 168 * k + 168) (by omega) (by omega) ?_
                        have hP : va_P G.1 vwCl ([(zw, .inl (G.2 0, nn, .inl (kI ww))), (r_31, .inl (G.2 0, nn, .inl (kI (zFar (zStH SS fs sn h) fs sn np nn k)))), (zs, .inr (5, [.int (nI mi), .ref za, .ref zw, .ref zq, .ref zp])), (za, .inl (G.2 0, nn, .inl (kI ar))), (zq, .inl (G.2 4, nn, .inr (.inr (.inr (.inr (kRn nn ro)))))), (zp, .inl (G.2 3, np, .inr (.inr (.inr (.inr (kRn np rp))))))] ++ va_pl L_326 f_326) _ := hP.part (cx := [(zw, .inl (G.2 0, nn, .inl (kI ww))), (r_31, .inl (G.2 0, nn, .inl (kI (zFar (zStH SS fs sn h) fs sn np nn k)))), (zs, .inr (5, [.int (nI mi), .ref za, .ref zw, .ref zq, .ref zp])), (za, .inl (G.2 0, nn, .inl (kI ar))), (zq, .inl (G.2 4, nn, .inr (.inr (.inr (.inr (kRn nn ro)))))), (zp, .inl (G.2 3, np, .inr (.inr (.inr (.inr (kRn np rp))))))]) [0, 1, 2, 3, 4, 5] rfl
                        have hD : va_D A ([(zw, .inl (G.2 0, nn, .inl (kI ww))), (r_31, .inl (G.2 0, nn, .inl (kI (zFar (zStH SS fs sn h) fs sn np nn k)))), (zs, .inr (5, [.int (nI mi), .ref za, .ref zw, .ref zq, .ref zp])), (za, .inl (G.2 0, nn, .inl (kI ar))), (zq, .inl (G.2 4, nn, .inr (.inr (.inr (.inr (kRn nn ro)))))), (zp, .inl (G.2 3, np, .inr (.inr (.inr (.inr (kRn np rp))))))] ++ va_pl L_326 f_326) := hD.part (cx := [(zw, .inl (G.2 0, nn, .inl (kI ww))), (r_31, .inl (G.2 0, nn, .inl (kI (zFar (zStH SS fs sn h) fs sn np nn k)))), (zs, .inr (5, [.int (nI mi), .ref za, .ref zw, .ref zq, .ref zp])), (za, .inl (G.2 0, nn, .inl (kI ar))), (zq, .inl (G.2 4, nn, .inr (.inr (.inr (.inr (kRn nn ro)))))), (zp, .inl (G.2 3, np, .inr (.inr (.inr (.inr (kRn np rp))))))]) [0, 1, 2, 3, 4, 5] (by decide) rfl
                        exact hc_350 M_326 L_326 f_326 (by exact hob) (by exact hML) (by exact hsm) _ _ hP hD hS _ (lv_sub hl [2, 3, 4, 5, 6, 7, 8, 9, 10, 11, 1] rfl)
                      · exfalso; first | exact c_46 (if_pos (by omega)) | exact c_46 (if_neg (by omega))
                    · refine lv_iload hx hb dX5_isSame_336 (lv_at hl 0 rfl) ?_
                      refine lv_bipush (v := (nI 100)) hx hb dX5_isSame_338 (by decide) ?_
                      refine lv_idiv hx hb dX5_isSame_340 (by decide) ?_
                      refine kr_top (y := nI (((zFar (zStT ln op) fs sn np nn k) h) / 100)) (pk_div (by omega) (by decide) (by decide)) ?_
                      refine lv_goto (tgt := 345) hx hb dX5_isSame_341 (by decide) ?_
                      refine lv_icmp_eq (tgt := 350) hx hb dX5_isSame_345 (by decide) (fun c_47 => ?_) (fun c_47 => ?_)
                      · refine W.widen (k := 176 * h + 24 * k + 24) (n := 1203 * h + 168 * k + 168) (by omega) (by omega) ?_
                        have hP : va_P G.1 vwCl ([(zw, .inl (G.2 0, nn, .inl (kI ww))), (r_31, .inl (G.2 0, nn, .inl (kI (zFar (zStH SS fs sn h) fs sn np nn k)))), (zs, .inr (5, [.int (nI mi), .ref za, .ref zw, .ref zq, .ref zp])), (za, .inl (G.2 0, nn, .inl (kI ar))), (zq, .inl (G.2 4, nn, .inr (.inr (.inr (.inr (kRn nn ro)))))), (zp, .inl (G.2 3, np, .inr (.inr (.inr (.inr (kRn np rp))))))] ++ va_pl L_326 f_326) _ := hP.part (cx := [(zw, .inl (G.2 0, nn, .inl (kI ww))), (r_31, .inl (G.2 0, nn, .inl (kI (zFar (zStH SS fs sn h) fs sn np nn k)))), (zs, .inr (5, [.int (nI mi), .ref za, .ref zw, .ref zq, .ref zp])), (za, .inl (G.2 0, nn, .inl (kI ar))), (zq, .inl (G.2 4, nn, .inr (.inr (.inr (.inr (kRn nn ro)))))), (zp, .inl (G.2 3, np, .inr (.inr (.inr (.inr (kRn np rp))))))]) [0, 1, 2, 3, 4, 5] rfl
                        have hD : va_D A ([(zw, .inl (G.2 0, nn, .inl (kI ww))), (r_31, .inl (G.2 0, nn, .inl (kI (zFar (zStH SS fs sn h) fs sn np nn k)))), (zs, .inr (5, [.int (nI mi), .ref za, .ref zw, .ref zq, .ref zp])), (za, .inl (G.2 0, nn, .inl (kI ar))), (zq, .inl (G.2 4, nn, .inr (.inr (.inr (.inr (kRn nn ro)))))), (zp, .inl (G.2 3, np, .inr (.inr (.inr (.inr (kRn np rp))))))] ++ va_pl L_326 f_326) := hD.part (cx := [(zw, .inl (G.2 0, nn, .inl (kI ww))), (r_31, .inl (G.2 0, nn, .inl (kI (zFar (zStH SS fs sn h) fs sn np nn k)))), (zs, .inr (5, [.int (nI mi), .ref za, .ref zw, .ref zq, .ref zp])), (za, .inl (G.2 0, nn, .inl (kI ar))), (zq, .inl (G.2 4, nn, .inr (.inr (.inr (.inr (kRn nn ro)))))), (zp, .inl (G.2 3, np, .inr (.inr (.inr (.inr (kRn np rp))))))]) [0, 1, 2, 3, 4, 5] (by decide) rfl
                        exact hc_350 M_326 L_326 f_326 (by exact hob) (by exact hML) (by exact hsm) _ _ hP hD hS _ (lv_sub hl [2, 3, 4, 5, 6, 7, 8, 9, 10, 11, 1] rfl)
                      · exfalso; first | exact c_47 (if_pos (by omega)) | exact c_47 (if_neg (by omega))
                refine lv_aload_n hx hb dX5_isSame_208 rfl (lv_at hl 9 rfl) ?_
                refine lv_iload hx hb dX5_isSame_209 (lv_at hl 4 rfl) ?_
                refine lv_iload hx hb dX5_isSame_211 (lv_at hl 1 rfl) ?_
                refine lv_iconst (v := (nI 0)) hx hb dX5_isSame_213 (by decide) ?_
                have hPc : va_P G.1 vwCl ([] ++ va_pl L1 f1) _ := hP.part (cx := []) [] rfl
                have hDc : va_D A ([] ++ va_pl L1 f1) := hD.part (cx := []) [] (by decide) rfl
                have hFc : ∀ zq9 : Nat, va_A ([] ++ va_pl L1 f1) _ zq9 → A zq9 := va_freeP (cx := []) hD hS hA [] rfl
                refine va_calli (va_runV (As := [.int (nI h), .int (nI k), .int (nI 0)]) (rest := []) ⟨hx, hb, hml, hown, hts⟩ (c_X4_way_o l G _ hM nn np mi fs sn ln op SS ar ww M1 L1 f1 h k 0 hob hML hV (by omega) (by omega) (by omega) (by omega)) (cwV 3 hts gX5_isSame_X4_way rfl rfl rfl (by decide +kernel) ⟨Nat.le_of_ble_eq_true rfl, Nat.le_of_ble_eq_true rfl⟩) (kO_V hob hML hK hPc hDc) rfl rfl hl.1 rfl (lv_room (Nat.le_of_ble_eq_true rfl)) dX5_isSame_214 ⟨(show 176 * h + 24 * k + 1 + 0 ≤ 1300 from by omega), (show 1203 * h + 168 * k + 7 + 0 ≤ 9000 from by omega)⟩) hS (fun q _ h => hFc q h) hFc (fun r_48 u t H1 locs ht hvm hw hB hz1 hk1 hS => ?_)
                obtain ⟨M_214, L_214, f_214⟩ := u
                obtain ⟨hP1, hD1⟩ := hB
                rw [ht] at hP1
                try dsimp only at hw hP1 hD1
                obtain ⟨hP, hD⟩ := va_joinP (cx := []) (wr := [(zw, .inl (G.2 0, nn, .inl (kI ww))), (zs, .inr (5, [.int (nI mi), .ref za, .ref zw, .ref zq, .ref zp])), (za, .inl (G.2 0, nn, .inl (kI ar))), (zq, .inl (G.2 4, nn, .inr (.inr (.inr (.inr (kRn nn ro)))))), (zp, .inl (G.2 3, np, .inr (.inr (.inr (.inr (kRn np rp)))))), (r_31, .inl (G.2 0, nn, .inl (kI (zFar (zStH SS fs sn h) fs sn np nn k))))]) (rx := []) hP hD [] [0, 1, 2, 3, 4, 5] rfl rfl (by decide) (by decide) hk1 hFc hP1 hD1
                clear hPc hDc hFc hP1 hD1 hk1 hz1 ht
                skip
                generalize H1 = H at hP hS ⊢
                have hP : va_P G.1 vwCl ([(zw, .inl (G.2 0, nn, .inl (kI ww))), (zs, .inr (5, [.int (nI mi), .ref za, .ref zw, .ref zq, .ref zp])), (za, .inl (G.2 0, nn, .inl (kI ar))), (zq, .inl (G.2 4, nn, .inr (.inr (.inr (.inr (kRn nn ro)))))), (zp, .inl (G.2 3, np, .inr (.inr (.inr (.inr (kRn np rp)))))), (r_31, .inl (G.2 0, nn, .inl (kI (zFar (zStH SS fs sn h) fs sn np nn k))))] ++ va_pl L_214 f_214) H := hP
                have hD : va_D A ([(zw, .inl (G.2 0, nn, .inl (kI ww))), (zs, .inr (5, [.int (nI mi), .ref za, .ref zw, .ref zq, .ref zp])), (za, .inl (G.2 0, nn, .inl (kI ar))), (zq, .inl (G.2 4, nn, .inr (.inr (.inr (.inr (kRn nn ro)))))), (zp, .inl (G.2 3, np, .inr (.inr (.inr (.inr (kRn np rp)))))), (r_31, .inl (G.2 0, nn, .inl (kI (zFar (zStH SS fs sn h) fs sn np nn k))))] ++ va_pl L_214 f_214) := hD
                refine W.widen (k := 176 * h + 24 * k + 1) (n := 1203 * h + 168 * k + 7) (Nat.le_refl _) (Nat.le_refl _) ?_
                have hw_49 := hw
                obtain ⟨hr_48, hob, hfr⟩ := hw_49
                have hML := hfr.1
                have hsm := hsm.fr hfr
                obtain ⟨hrw, hrr, hrp, hrM, hqM, hpM, hroi, hrpi, hrq⟩ := id hsm
                rw [zS_way0 hV (show h < nn by omega) (show k < nn by omega)] at hr_48
                subst hr_48
                refine lv_iload hx hb dX5_isSame_217 (lv_at hl 0 rfl) ?_
                refine lv_ldc (v := (99999999)) hx hb hown (hts _ kX5_isSame_6) dX5_isSame_219 ?_
                refine kr_top (show ((99999999) : Int32) = nI 99999999 from by decide) ?_
                refine kb_ge (tgt := 232) hx hb dX5_isSame_221 (by decide) (by omega) (by decide) (fun c_50 => ?_) (fun c_50 => ?_)
                · refine lv_iconst (v := (-1)) hx hb dX5_isSame_232 (by decide) ?_
                  refine lv_icmp_ne (tgt := 284) hx hb dX5_isSame_233 (by decide) (fun c_51 => ?_) (fun c_51 => ?_)
                  · exfalso; first | exact c_51 (if_pos (by omega)) | exact c_51 (if_neg (by omega))
                  · refine lv_aload_n hx hb dX5_isSame_236 rfl (lv_at hl 9 rfl) ?_
                    refine lv_iload hx hb dX5_isSame_237 (lv_at hl 4 rfl) ?_
                    refine lv_iload hx hb dX5_isSame_239 (lv_at hl 1 rfl) ?_
                    refine lv_iconst (v := (nI 1)) hx hb dX5_isSame_241 (by decide) ?_
                    have hPc : va_P G.1 vwCl ([] ++ va_pl L_214 f_214) _ := hP.part (cx := []) [] rfl
                    have hDc : va_D A ([] ++ va_pl L_214 f_214) := hD.part (cx := []) [] (by decide) rfl
                    have hFc : ∀ zq9 : Nat, va_A ([] ++ va_pl L_214 f_214) _ zq9 → A zq9 := va_freeP (cx := []) hD hS hA [] rfl
                    refine va_calli (va_runV (As := [.int (nI h), .int (nI k), .int (nI 1)]) (rest := []) ⟨hx, hb, hml, hown, hts⟩ (c_X4_way_o l G _ hM nn np mi fs sn ln op SS ar ww M_214 L_214 f_214 h k 1 hob hML hV (by omega) (by omega) (by omega) (by omega)) (cwV 3 hts gX5_isSame_X4_way rfl rfl rfl (by decide +kernel) ⟨Nat.le_of_ble_eq_true rfl, Nat.le_of_ble_eq_true rfl⟩) (kO_V hob hML hK hPc hDc) rfl rfl hl.1 rfl (lv_room (Nat.le_of_ble_eq_true rfl)) dX5_isSame_242 ⟨(show 176 * h + 24 * k + 1 + 0 ≤ 1300 from by omega), (show 1203 * h + 168 * k + 7 + 0 ≤ 9000 from by omega)⟩) hS (fun q _ h => hFc q h) hFc (fun r_52 u t H1 locs ht hvm hw hB hz1 hk1 hS => ?_)
                    obtain ⟨M_242, L_242, f_242⟩ := u
                    obtain ⟨hP1, hD1⟩ := hB
                    rw [ht] at hP1
                    try dsimp only at hw hP1 hD1
                    obtain ⟨hP, hD⟩ := va_joinP (cx := []) (wr := [(zw, .inl (G.2 0, nn, .inl (kI ww))), (zs, .inr (5, [.int (nI mi), .ref za, .ref zw, .ref zq, .ref zp])), (za, .inl (G.2 0, nn, .inl (kI ar))), (zq, .inl (G.2 4, nn, .inr (.inr (.inr (.inr (kRn nn ro)))))), (zp, .inl (G.2 3, np, .inr (.inr (.inr (.inr (kRn np rp)))))), (r_31, .inl (G.2 0, nn, .inl (kI (zFar (zStH SS fs sn h) fs sn np nn k))))]) (rx := []) hP hD [] [0, 1, 2, 3, 4, 5] rfl rfl (by decide) (by decide) hk1 hFc hP1 hD1
                    clear hPc hDc hFc hP1 hD1 hk1 hz1 ht
                    skip
                    generalize H1 = H at hP hS ⊢
                    have hP : va_P G.1 vwCl ([(zw, .inl (G.2 0, nn, .inl (kI ww))), (zs, .inr (5, [.int (nI mi), .ref za, .ref zw, .ref zq, .ref zp])), (za, .inl (G.2 0, nn, .inl (kI ar))), (zq, .inl (G.2 4, nn, .inr (.inr (.inr (.inr (kRn nn ro)))))), (zp, .inl (G.2 3, np, .inr (.inr (.inr (.inr (kRn np rp)))))), (r_31, .inl (G.2 0, nn, .inl (kI (zFar (zStH SS fs sn h) fs sn np nn k))))] ++ va_pl L_242 f_242) H := hP
                    have hD : va_D A ([(zw, .inl (G.2 0, nn, .inl (kI ww))), (zs, .inr (5, [.int (nI mi), .ref za, .ref zw, .ref zq, .ref zp])), (za, .inl (G.2 0, nn, .inl (kI ar))), (zq, .inl (G.2 4, nn, .inr (.inr (.inr (.inr (kRn nn ro)))))), (zp, .inl (G.2 3, np, .inr (.inr (.inr (.inr (kRn np rp)))))), (r_31, .inl (G.2 0, nn, .inl (kI (zFar (zStH SS fs sn h) fs sn np nn k))))] ++ va_pl L_242 f_242) := hD
                    refine W.widen (k := 176 * h + 24 * k + 1) (n := 1203 * h + 168 * k + 7) (Nat.le_refl _) (Nat.le_refl _) ?_
                    have hw_53 := hw
                    obtain ⟨hr_52, hob, hfr⟩ := hw_53
                    have hML := hfr.1
                    have hsm := hsm.fr hfr
                    obtain ⟨hrw, hrr, hrp, hrM, hqM, hpM, hroi, hrpi, hrq⟩ := id hsm
                    rw [zS_way1 hV (show h < nn by omega) (show k < nn by omega)] at hr_52
                    subst hr_52
                    refine lv_iload hx hb dX5_isSame_245 (lv_at hl 0 rfl) ?_
                    refine lv_ldc (v := (99999999)) hx hb hown (hts _ kX5_isSame_6) dX5_isSame_247 ?_
                    refine kr_top (show ((99999999) : Int32) = nI 99999999 from by decide) ?_
                    refine kb_ge (tgt := 260) hx hb dX5_isSame_249 (by decide) (by omega) (by decide) (fun c_54 => ?_) (fun c_54 => ?_)
                    · refine lv_iconst (v := (-1)) hx hb dX5_isSame_260 (by decide) ?_
                      refine lv_icmp_ne (tgt := 284) hx hb dX5_isSame_261 (by decide) (fun c_55 => ?_) (fun c_55 => ?_)
                      · exfalso; first | exact c_55 (if_pos (by omega)) | exact c_55 (if_neg (by omega))
                      · refine lv_aload_n hx hb dX5_isSame_264 rfl (lv_at hl 9 rfl) ?_
                        refine lv_iload hx hb dX5_isSame_265 (lv_at hl 4 rfl) ?_
                        refine lv_iload hx hb dX5_isSame_267 (lv_at hl 1 rfl) ?_
                        refine lv_iconst (v := (nI 2)) hx hb dX5_isSame_269 (by decide) ?_
                        have hPc : va_P G.1 vwCl ([] ++ va_pl L_242 f_242) _ := hP.part (cx := []) [] rfl
                        have hDc : va_D A ([] ++ va_pl L_242 f_242) := hD.part (cx := []) [] (by decide) rfl
                        have hFc : ∀ zq9 : Nat, va_A ([] ++ va_pl L_242 f_242) _ zq9 → A zq9 := va_freeP (cx := []) hD hS hA [] rfl
                        refine va_calli (va_runV (As := [.int (nI h), .int (nI k), .int (nI 2)]) (rest := []) ⟨hx, hb, hml, hown, hts⟩ (c_X4_way_o l G _ hM nn np mi fs sn ln op SS ar ww M_242 L_242 f_242 h k 2 hob hML hV (by omega) (by omega) (by omega) (by omega)) (cwV 3 hts gX5_isSame_X4_way rfl rfl rfl (by decide +kernel) ⟨Nat.le_of_ble_eq_true rfl, Nat.le_of_ble_eq_true rfl⟩) (kO_V hob hML hK hPc hDc) rfl rfl hl.1 rfl (lv_room (Nat.le_of_ble_eq_true rfl)) dX5_isSame_270 ⟨(show 176 * h + 24 * k + 1 + 0 ≤ 1300 from by omega), (show 1203 * h + 168 * k + 7 + 0 ≤ 9000 from by omega)⟩) hS (fun q _ h => hFc q h) hFc (fun r_56 u t H1 locs ht hvm hw hB hz1 hk1 hS => ?_)
                        obtain ⟨M_270, L_270, f_270⟩ := u
                        obtain ⟨hP1, hD1⟩ := hB
                        rw [ht] at hP1
                        try dsimp only at hw hP1 hD1
                        obtain ⟨hP, hD⟩ := va_joinP (cx := []) (wr := [(zw, .inl (G.2 0, nn, .inl (kI ww))), (zs, .inr (5, [.int (nI mi), .ref za, .ref zw, .ref zq, .ref zp])), (za, .inl (G.2 0, nn, .inl (kI ar))), (zq, .inl (G.2 4, nn, .inr (.inr (.inr (.inr (kRn nn ro)))))), (zp, .inl (G.2 3, np, .inr (.inr (.inr (.inr (kRn np rp)))))), (r_31, .inl (G.2 0, nn, .inl (kI (zFar (zStH SS fs sn h) fs sn np nn k))))]) (rx := []) hP hD [] [0, 1, 2, 3, 4, 5] rfl rfl (by decide) (by decide) hk1 hFc hP1 hD1
                        clear hPc hDc hFc hP1 hD1 hk1 hz1 ht
                        skip
                        generalize H1 = H at hP hS ⊢
                        have hP : va_P G.1 vwCl ([(zw, .inl (G.2 0, nn, .inl (kI ww))), (zs, .inr (5, [.int (nI mi), .ref za, .ref zw, .ref zq, .ref zp])), (za, .inl (G.2 0, nn, .inl (kI ar))), (zq, .inl (G.2 4, nn, .inr (.inr (.inr (.inr (kRn nn ro)))))), (zp, .inl (G.2 3, np, .inr (.inr (.inr (.inr (kRn np rp)))))), (r_31, .inl (G.2 0, nn, .inl (kI (zFar (zStH SS fs sn h) fs sn np nn k))))] ++ va_pl L_270 f_270) H := hP
                        have hD : va_D A ([(zw, .inl (G.2 0, nn, .inl (kI ww))), (zs, .inr (5, [.int (nI mi), .ref za, .ref zw, .ref zq, .ref zp])), (za, .inl (G.2 0, nn, .inl (kI ar))), (zq, .inl (G.2 4, nn, .inr (.inr (.inr (.inr (kRn nn ro)))))), (zp, .inl (G.2 3, np, .inr (.inr (.inr (.inr (kRn np rp)))))), (r_31, .inl (G.2 0, nn, .inl (kI (zFar (zStH SS fs sn h) fs sn np nn k))))] ++ va_pl L_270 f_270) := hD
                        refine W.widen (k := 176 * h + 24 * k + 1) (n := 1203 * h + 168 * k + 7) (Nat.le_refl _) (Nat.le_refl _) ?_
                        have hw_57 := hw
                        obtain ⟨hr_56, hob, hfr⟩ := hw_57
                        have hML := hfr.1
                        have hsm := hsm.fr hfr
                        obtain ⟨hrw, hrr, hrp, hrM, hqM, hpM, hroi, hrpi, hrq⟩ := id hsm
                        rw [zS_way2 hV (show h < nn by omega) (show k < nn by omega)] at hr_56
                        subst hr_56
                        refine lv_aload_n hx hb dX5_isSame_273 rfl (lv_at hl 8 rfl) ?_
                        refine lv_iload hx hb dX5_isSame_274 (lv_at hl 4 rfl) ?_
                        refine lv_iload hx hb dX5_isSame_276 (lv_at hl 1 rfl) ?_
                        have hPc : va_P G.1 vwCl ([(zs, .inr (5, [.int (nI mi), .ref za, .ref zw, .ref zq, .ref zp])), (za, .inl (G.2 0, nn, .inl (kI ar))), (zq, .inl (G.2 4, nn, .inr (.inr (.inr (.inr (kRn nn ro)))))), (zp, .inl (G.2 3, np, .inr (.inr (.inr (.inr (kRn np rp))))))] ++ va_pl L_270 f_270) _ := hP.part (cx := [(zs, .inr (5, [.int (nI mi), .ref za, .ref zw, .ref zq, .ref zp])), (za, .inl (G.2 0, nn, .inl (kI ar))), (zq, .inl (G.2 4, nn, .inr (.inr (.inr (.inr (kRn nn ro)))))), (zp, .inl (G.2 3, np, .inr (.inr (.inr (.inr (kRn np rp))))))]) [1, 2, 3, 4] rfl
                        have hDc : va_D A ([(zs, .inr (5, [.int (nI mi), .ref za, .ref zw, .ref zq, .ref zp])), (za, .inl (G.2 0, nn, .inl (kI ar))), (zq, .inl (G.2 4, nn, .inr (.inr (.inr (.inr (kRn nn ro)))))), (zp, .inl (G.2 3, np, .inr (.inr (.inr (.inr (kRn np rp))))))] ++ va_pl L_270 f_270) := hD.part (cx := [(zs, .inr (5, [.int (nI mi), .ref za, .ref zw, .ref zq, .ref zp])), (za, .inl (G.2 0, nn, .inl (kI ar))), (zq, .inl (G.2 4, nn, .inr (.inr (.inr (.inr (kRn nn ro)))))), (zp, .inl (G.2 3, np, .inr (.inr (.inr (.inr (kRn np rp))))))]) [1, 2, 3, 4] (by decide) rfl
                        have hFc : ∀ zq9 : Nat, va_A ([(zs, .inr (5, [.int (nI mi), .ref za, .ref zw, .ref zq, .ref zp])), (za, .inl (G.2 0, nn, .inl (kI ar))), (zq, .inl (G.2 4, nn, .inr (.inr (.inr (.inr (kRn nn ro)))))), (zp, .inl (G.2 3, np, .inr (.inr (.inr (.inr (kRn np rp))))))] ++ va_pl L_270 f_270) _ zq9 → A zq9 := va_freeP (cx := [(zs, .inr (5, [.int (nI mi), .ref za, .ref zw, .ref zq, .ref zp])), (za, .inl (G.2 0, nn, .inl (kI ar))), (zq, .inl (G.2 4, nn, .inr (.inr (.inr (.inr (kRn nn ro)))))), (zp, .inl (G.2 3, np, .inr (.inr (.inr (.inr (kRn np rp))))))]) hD hS hA [1, 2, 3, 4] rfl
                        refine va_calli (va_runV (As := [.int (nI h), .int (nI k)]) (rest := [.int (mOI (zFst (zStH SS fs sn h) fs sn np nn h k))]) ⟨hx, hb, hml, hown, hts⟩ (c_X5_first l G _ zs za zw zq zp nn np mi L_270 f_270 ro rr rp fs sn ln op SS ar ww h k hrw hrr hrp (by omega) (by omega) hfs hsn hln hen (by omega) (by omega) (by omega)) (cwV 2 hts gX5_isSame_X5_first rfl rfl rfl (by decide +kernel) ⟨Nat.le_of_ble_eq_true rfl, Nat.le_of_ble_eq_true rfl⟩) (kPreM_V (ws := ([(zs, .inr (5, [.int (nI mi), .ref za, .ref zw, .ref zq, .ref zp])), (za, .inl (G.2 0, nn, .inl (kI ar))), (zq, .inl (G.2 4, nn, .inr (.inr (.inr (.inr (kRn nn ro)))))), (zp, .inl (G.2 3, np, .inr (.inr (.inr (.inr (kRn np rp))))))] ++ va_pl L_270 f_270)) hK hPc hDc (RX5, TX5, 5) 0 rfl rfl) rfl rfl hl.1 rfl (lv_room (Nat.le_of_ble_eq_true rfl)) dX5_isSame_278 ⟨(show 176 * h + 24 * k + 1 + 1 ≤ 1300 from by omega), (show 1203 * h + 168 * k + 7 + 7 ≤ 9000 from by omega)⟩) hS (fun q _ h => hFc q h) hFc (fun r_58 u t H1 locs ht hvm hw hB hz1 hk1 hS => ?_)
                        obtain ⟨hP1, hD1⟩ := hB
                        rw [ht] at hP1
                        try dsimp only at hw hP1 hD1
                        obtain ⟨hP, hD⟩ := va_joinP (cx := [(zs, .inr (5, [.int (nI mi), .ref za, .ref zw, .ref zq, .ref zp])), (za, .inl (G.2 0, nn, .inl (kI ar))), (zq, .inl (G.2 4, nn, .inr (.inr (.inr (.inr (kRn nn ro)))))), (zp, .inl (G.2 3, np, .inr (.inr (.inr (.inr (kRn np rp))))))]) (wr := [(zw, .inl (G.2 0, nn, .inl (kI ww))), (r_31, .inl (G.2 0, nn, .inl (kI (zFar (zStH SS fs sn h) fs sn np nn k))))]) (rx := [(zs, .inr (5, [.int (nI mi), .ref za, .ref zw, .ref zq, .ref zp])), (za, .inl (G.2 0, nn, .inl (kI ar))), (zq, .inl (G.2 4, nn, .inr (.inr (.inr (.inr (kRn nn ro)))))), (zp, .inl (G.2 3, np, .inr (.inr (.inr (.inr (kRn np rp))))))]) hP hD [1, 2, 3, 4] [0, 5] rfl rfl (by decide) (by decide) hk1 hFc hP1 hD1
                        clear hPc hDc hFc hP1 hD1 hk1 hz1 ht
                        skip
                        generalize H1 = H at hP hS ⊢
                        have hP : va_P G.1 vwCl ([(zw, .inl (G.2 0, nn, .inl (kI ww))), (r_31, .inl (G.2 0, nn, .inl (kI (zFar (zStH SS fs sn h) fs sn np nn k)))), (zs, .inr (5, [.int (nI mi), .ref za, .ref zw, .ref zq, .ref zp])), (za, .inl (G.2 0, nn, .inl (kI ar))), (zq, .inl (G.2 4, nn, .inr (.inr (.inr (.inr (kRn nn ro)))))), (zp, .inl (G.2 3, np, .inr (.inr (.inr (.inr (kRn np rp))))))] ++ va_pl L_270 f_270) H := hP
                        have hD : va_D A ([(zw, .inl (G.2 0, nn, .inl (kI ww))), (r_31, .inl (G.2 0, nn, .inl (kI (zFar (zStH SS fs sn h) fs sn np nn k)))), (zs, .inr (5, [.int (nI mi), .ref za, .ref zw, .ref zq, .ref zp])), (za, .inl (G.2 0, nn, .inl (kI ar))), (zq, .inl (G.2 4, nn, .inr (.inr (.inr (.inr (kRn nn ro)))))), (zp, .inl (G.2 3, np, .inr (.inr (.inr (.inr (kRn np rp))))))] ++ va_pl L_270 f_270) := hD
                        refine W.widen (k := 176 * h + 24 * k + 1 + 1) (n := 1203 * h + 168 * k + 7 + 7) (Nat.le_refl _) (Nat.le_refl _) ?_
                        have hw_59 := hw
                        subst hw_59
                        refine lv_icmp_eq (tgt := 286) hx hb dX5_isSame_281 (by decide) (fun c_60 => ?_) (fun c_60 => ?_)
                        · refine W.widen (k := 176 * h + 24 * k + 2) (n := 1203 * h + 168 * k + 14) (by omega) (by omega) ?_
                          have hP : va_P G.1 vwCl ([(zw, .inl (G.2 0, nn, .inl (kI ww))), (zs, .inr (5, [.int (nI mi), .ref za, .ref zw, .ref zq, .ref zp])), (za, .inl (G.2 0, nn, .inl (kI ar))), (zq, .inl (G.2 4, nn, .inr (.inr (.inr (.inr (kRn nn ro)))))), (zp, .inl (G.2 3, np, .inr (.inr (.inr (.inr (kRn np rp)))))), (r_31, .inl (G.2 0, nn, .inl (kI (zFar (zStH SS fs sn h) fs sn np nn k))))] ++ va_pl L_270 f_270) _ := hP.part (cx := [(zw, .inl (G.2 0, nn, .inl (kI ww))), (zs, .inr (5, [.int (nI mi), .ref za, .ref zw, .ref zq, .ref zp])), (za, .inl (G.2 0, nn, .inl (kI ar))), (zq, .inl (G.2 4, nn, .inr (.inr (.inr (.inr (kRn nn ro)))))), (zp, .inl (G.2 3, np, .inr (.inr (.inr (.inr (kRn np rp)))))), (r_31, .inl (G.2 0, nn, .inl (kI (zFar (zStH SS fs sn h) fs sn np nn k))))]) [0, 2, 3, 4, 5, 1] rfl
                          have hD : va_D A ([(zw, .inl (G.2 0, nn, .inl (kI ww))), (zs, .inr (5, [.int (nI mi), .ref za, .ref zw, .ref zq, .ref zp])), (za, .inl (G.2 0, nn, .inl (kI ar))), (zq, .inl (G.2 4, nn, .inr (.inr (.inr (.inr (kRn nn ro)))))), (zp, .inl (G.2 3, np, .inr (.inr (.inr (.inr (kRn np rp)))))), (r_31, .inl (G.2 0, nn, .inl (kI (zFar (zStH SS fs sn h) fs sn np nn k))))] ++ va_pl L_270 f_270) := hD.part (cx := [(zw, .inl (G.2 0, nn, .inl (kI ww))), (zs, .inr (5, [.int (nI mi), .ref za, .ref zw, .ref zq, .ref zp])), (za, .inl (G.2 0, nn, .inl (kI ar))), (zq, .inl (G.2 4, nn, .inr (.inr (.inr (.inr (kRn nn ro)))))), (zp, .inl (G.2 3, np, .inr (.inr (.inr (.inr (kRn np rp)))))), (r_31, .inl (G.2 0, nn, .inl (kI (zFar (zStH SS fs sn h) fs sn np nn k))))]) [0, 2, 3, 4, 5, 1] (by decide) rfl
                          exact hc_286 M_270 L_270 f_270 (by exact hob) (by exact hML) (by exact hsm) _ _ hP hD hS _ (lv_sub hl [0, 1, 2, 3, 4, 5, 6, 7, 8, 9] rfl)
                        · exfalso; exact c_60 rfl
                    · refine lv_iload hx hb dX5_isSame_252 (lv_at hl 0 rfl) ?_
                      refine lv_bipush (v := (nI 100)) hx hb dX5_isSame_254 (by decide) ?_
                      refine lv_irem hx hb dX5_isSame_256 (by decide) ?_
                      refine kr_top (y := nI (((zFar (zStH SS fs sn h) fs sn np nn k) h) % 100)) (pk_rem (by omega) (by decide) (by decide)) ?_
                      refine lv_goto (tgt := 261) hx hb dX5_isSame_257 (by decide) ?_
                      refine lv_icmp_ne (tgt := 284) hx hb dX5_isSame_261 (by decide) (fun c_61 => ?_) (fun c_61 => ?_)
                      · exfalso; first | exact c_61 (if_pos (by omega)) | exact c_61 (if_neg (by omega))
                      · refine lv_aload_n hx hb dX5_isSame_264 rfl (lv_at hl 9 rfl) ?_
                        refine lv_iload hx hb dX5_isSame_265 (lv_at hl 4 rfl) ?_
                        refine lv_iload hx hb dX5_isSame_267 (lv_at hl 1 rfl) ?_
                        refine lv_iconst (v := (nI 2)) hx hb dX5_isSame_269 (by decide) ?_
                        have hPc : va_P G.1 vwCl ([] ++ va_pl L_242 f_242) _ := hP.part (cx := []) [] rfl
                        have hDc : va_D A ([] ++ va_pl L_242 f_242) := hD.part (cx := []) [] (by decide) rfl
                        have hFc : ∀ zq9 : Nat, va_A ([] ++ va_pl L_242 f_242) _ zq9 → A zq9 := va_freeP (cx := []) hD hS hA [] rfl
                        refine va_calli (va_runV (As := [.int (nI h), .int (nI k), .int (nI 2)]) (rest := []) ⟨hx, hb, hml, hown, hts⟩ (c_X4_way_o l G _ hM nn np mi fs sn ln op SS ar ww M_242 L_242 f_242 h k 2 hob hML hV (by omega) (by omega) (by omega) (by omega)) (cwV 3 hts gX5_isSame_X4_way rfl rfl rfl (by decide +kernel) ⟨Nat.le_of_ble_eq_true rfl, Nat.le_of_ble_eq_true rfl⟩) (kO_V hob hML hK hPc hDc) rfl rfl hl.1 rfl (lv_room (Nat.le_of_ble_eq_true rfl)) dX5_isSame_270 ⟨(show 176 * h + 24 * k + 1 + 0 ≤ 1300 from by omega), (show 1203 * h + 168 * k + 7 + 0 ≤ 9000 from by omega)⟩) hS (fun q _ h => hFc q h) hFc (fun r_62 u t H1 locs ht hvm hw hB hz1 hk1 hS => ?_)
                        obtain ⟨M_270, L_270, f_270⟩ := u
                        obtain ⟨hP1, hD1⟩ := hB
                        rw [ht] at hP1
                        try dsimp only at hw hP1 hD1
                        obtain ⟨hP, hD⟩ := va_joinP (cx := []) (wr := [(zw, .inl (G.2 0, nn, .inl (kI ww))), (zs, .inr (5, [.int (nI mi), .ref za, .ref zw, .ref zq, .ref zp])), (za, .inl (G.2 0, nn, .inl (kI ar))), (zq, .inl (G.2 4, nn, .inr (.inr (.inr (.inr (kRn nn ro)))))), (zp, .inl (G.2 3, np, .inr (.inr (.inr (.inr (kRn np rp)))))), (r_31, .inl (G.2 0, nn, .inl (kI (zFar (zStH SS fs sn h) fs sn np nn k))))]) (rx := []) hP hD [] [0, 1, 2, 3, 4, 5] rfl rfl (by decide) (by decide) hk1 hFc hP1 hD1
                        clear hPc hDc hFc hP1 hD1 hk1 hz1 ht
                        skip
                        generalize H1 = H at hP hS ⊢
                        have hP : va_P G.1 vwCl ([(zw, .inl (G.2 0, nn, .inl (kI ww))), (zs, .inr (5, [.int (nI mi), .ref za, .ref zw, .ref zq, .ref zp])), (za, .inl (G.2 0, nn, .inl (kI ar))), (zq, .inl (G.2 4, nn, .inr (.inr (.inr (.inr (kRn nn ro)))))), (zp, .inl (G.2 3, np, .inr (.inr (.inr (.inr (kRn np rp)))))), (r_31, .inl (G.2 0, nn, .inl (kI (zFar (zStH SS fs sn h) fs sn np nn k))))] ++ va_pl L_270 f_270) H := hP
                        have hD : va_D A ([(zw, .inl (G.2 0, nn, .inl (kI ww))), (zs, .inr (5, [.int (nI mi), .ref za, .ref zw, .ref zq, .ref zp])), (za, .inl (G.2 0, nn, .inl (kI ar))), (zq, .inl (G.2 4, nn, .inr (.inr (.inr (.inr (kRn nn ro)))))), (zp, .inl (G.2 3, np, .inr (.inr (.inr (.inr (kRn np rp)))))), (r_31, .inl (G.2 0, nn, .inl (kI (zFar (zStH SS fs sn h) fs sn np nn k))))] ++ va_pl L_270 f_270) := hD
                        refine W.widen (k := 176 * h + 24 * k + 1) (n := 1203 * h + 168 * k + 7) (Nat.le_refl _) (Nat.le_refl _) ?_
                        have hw_63 := hw
                        obtain ⟨hr_62, hob, hfr⟩ := hw_63
                        have hML := hfr.1
                        have hsm := hsm.fr hfr
                        obtain ⟨hrw, hrr, hrp, hrM, hqM, hpM, hroi, hrpi, hrq⟩ := id hsm
                        rw [zS_way2 hV (show h < nn by omega) (show k < nn by omega)] at hr_62
                        subst hr_62
                        refine lv_aload_n hx hb dX5_isSame_273 rfl (lv_at hl 8 rfl) ?_
                        refine lv_iload hx hb dX5_isSame_274 (lv_at hl 4 rfl) ?_
                        refine lv_iload hx hb dX5_isSame_276 (lv_at hl 1 rfl) ?_
                        have hPc : va_P G.1 vwCl ([(zs, .inr (5, [.int (nI mi), .ref za, .ref zw, .ref zq, .ref zp])), (za, .inl (G.2 0, nn, .inl (kI ar))), (zq, .inl (G.2 4, nn, .inr (.inr (.inr (.inr (kRn nn ro)))))), (zp, .inl (G.2 3, np, .inr (.inr (.inr (.inr (kRn np rp))))))] ++ va_pl L_270 f_270) _ := hP.part (cx := [(zs, .inr (5, [.int (nI mi), .ref za, .ref zw, .ref zq, .ref zp])), (za, .inl (G.2 0, nn, .inl (kI ar))), (zq, .inl (G.2 4, nn, .inr (.inr (.inr (.inr (kRn nn ro)))))), (zp, .inl (G.2 3, np, .inr (.inr (.inr (.inr (kRn np rp))))))]) [1, 2, 3, 4] rfl
                        have hDc : va_D A ([(zs, .inr (5, [.int (nI mi), .ref za, .ref zw, .ref zq, .ref zp])), (za, .inl (G.2 0, nn, .inl (kI ar))), (zq, .inl (G.2 4, nn, .inr (.inr (.inr (.inr (kRn nn ro)))))), (zp, .inl (G.2 3, np, .inr (.inr (.inr (.inr (kRn np rp))))))] ++ va_pl L_270 f_270) := hD.part (cx := [(zs, .inr (5, [.int (nI mi), .ref za, .ref zw, .ref zq, .ref zp])), (za, .inl (G.2 0, nn, .inl (kI ar))), (zq, .inl (G.2 4, nn, .inr (.inr (.inr (.inr (kRn nn ro)))))), (zp, .inl (G.2 3, np, .inr (.inr (.inr (.inr (kRn np rp))))))]) [1, 2, 3, 4] (by decide) rfl
                        have hFc : ∀ zq9 : Nat, va_A ([(zs, .inr (5, [.int (nI mi), .ref za, .ref zw, .ref zq, .ref zp])), (za, .inl (G.2 0, nn, .inl (kI ar))), (zq, .inl (G.2 4, nn, .inr (.inr (.inr (.inr (kRn nn ro)))))), (zp, .inl (G.2 3, np, .inr (.inr (.inr (.inr (kRn np rp))))))] ++ va_pl L_270 f_270) _ zq9 → A zq9 := va_freeP (cx := [(zs, .inr (5, [.int (nI mi), .ref za, .ref zw, .ref zq, .ref zp])), (za, .inl (G.2 0, nn, .inl (kI ar))), (zq, .inl (G.2 4, nn, .inr (.inr (.inr (.inr (kRn nn ro)))))), (zp, .inl (G.2 3, np, .inr (.inr (.inr (.inr (kRn np rp))))))]) hD hS hA [1, 2, 3, 4] rfl
                        refine va_calli (va_runV (As := [.int (nI h), .int (nI k)]) (rest := [.int (mOI (zFst (zStH SS fs sn h) fs sn np nn h k))]) ⟨hx, hb, hml, hown, hts⟩ (c_X5_first l G _ zs za zw zq zp nn np mi L_270 f_270 ro rr rp fs sn ln op SS ar ww h k hrw hrr hrp (by omega) (by omega) hfs hsn hln hen (by omega) (by omega) (by omega)) (cwV 2 hts gX5_isSame_X5_first rfl rfl rfl (by decide +kernel) ⟨Nat.le_of_ble_eq_true rfl, Nat.le_of_ble_eq_true rfl⟩) (kPreM_V (ws := ([(zs, .inr (5, [.int (nI mi), .ref za, .ref zw, .ref zq, .ref zp])), (za, .inl (G.2 0, nn, .inl (kI ar))), (zq, .inl (G.2 4, nn, .inr (.inr (.inr (.inr (kRn nn ro)))))), (zp, .inl (G.2 3, np, .inr (.inr (.inr (.inr (kRn np rp))))))] ++ va_pl L_270 f_270)) hK hPc hDc (RX5, TX5, 5) 0 rfl rfl) rfl rfl hl.1 rfl (lv_room (Nat.le_of_ble_eq_true rfl)) dX5_isSame_278 ⟨(show 176 * h + 24 * k + 1 + 1 ≤ 1300 from by omega), (show 1203 * h + 168 * k + 7 + 7 ≤ 9000 from by omega)⟩) hS (fun q _ h => hFc q h) hFc (fun r_64 u t H1 locs ht hvm hw hB hz1 hk1 hS => ?_)
                        obtain ⟨hP1, hD1⟩ := hB
                        rw [ht] at hP1
                        try dsimp only at hw hP1 hD1
                        obtain ⟨hP, hD⟩ := va_joinP (cx := [(zs, .inr (5, [.int (nI mi), .ref za, .ref zw, .ref zq, .ref zp])), (za, .inl (G.2 0, nn, .inl (kI ar))), (zq, .inl (G.2 4, nn, .inr (.inr (.inr (.inr (kRn nn ro)))))), (zp, .inl (G.2 3, np, .inr (.inr (.inr (.inr (kRn np rp))))))]) (wr := [(zw, .inl (G.2 0, nn, .inl (kI ww))), (r_31, .inl (G.2 0, nn, .inl (kI (zFar (zStH SS fs sn h) fs sn np nn k))))]) (rx := [(zs, .inr (5, [.int (nI mi), .ref za, .ref zw, .ref zq, .ref zp])), (za, .inl (G.2 0, nn, .inl (kI ar))), (zq, .inl (G.2 4, nn, .inr (.inr (.inr (.inr (kRn nn ro)))))), (zp, .inl (G.2 3, np, .inr (.inr (.inr (.inr (kRn np rp))))))]) hP hD [1, 2, 3, 4] [0, 5] rfl rfl (by decide) (by decide) hk1 hFc hP1 hD1
                        clear hPc hDc hFc hP1 hD1 hk1 hz1 ht
                        skip
                        generalize H1 = H at hP hS ⊢
                        have hP : va_P G.1 vwCl ([(zw, .inl (G.2 0, nn, .inl (kI ww))), (r_31, .inl (G.2 0, nn, .inl (kI (zFar (zStH SS fs sn h) fs sn np nn k)))), (zs, .inr (5, [.int (nI mi), .ref za, .ref zw, .ref zq, .ref zp])), (za, .inl (G.2 0, nn, .inl (kI ar))), (zq, .inl (G.2 4, nn, .inr (.inr (.inr (.inr (kRn nn ro)))))), (zp, .inl (G.2 3, np, .inr (.inr (.inr (.inr (kRn np rp))))))] ++ va_pl L_270 f_270) H := hP
                        have hD : va_D A ([(zw, .inl (G.2 0, nn, .inl (kI ww))), (r_31, .inl (G.2 0, nn, .inl (kI (zFar (zStH SS fs sn h) fs sn np nn k)))), (zs, .inr (5, [.int (nI mi), .ref za, .ref zw, .ref zq, .ref zp])), (za, .inl (G.2 0, nn, .inl (kI ar))), (zq, .inl (G.2 4, nn, .inr (.inr (.inr (.inr (kRn nn ro)))))), (zp, .inl (G.2 3, np, .inr (.inr (.inr (.inr (kRn np rp))))))] ++ va_pl L_270 f_270) := hD
                        refine W.widen (k := 176 * h + 24 * k + 1 + 1) (n := 1203 * h + 168 * k + 7 + 7) (Nat.le_refl _) (Nat.le_refl _) ?_
                        have hw_65 := hw
                        subst hw_65
                        refine lv_icmp_eq (tgt := 286) hx hb dX5_isSame_281 (by decide) (fun c_66 => ?_) (fun c_66 => ?_)
                        · refine W.widen (k := 176 * h + 24 * k + 2) (n := 1203 * h + 168 * k + 14) (by omega) (by omega) ?_
                          have hP : va_P G.1 vwCl ([(zw, .inl (G.2 0, nn, .inl (kI ww))), (zs, .inr (5, [.int (nI mi), .ref za, .ref zw, .ref zq, .ref zp])), (za, .inl (G.2 0, nn, .inl (kI ar))), (zq, .inl (G.2 4, nn, .inr (.inr (.inr (.inr (kRn nn ro)))))), (zp, .inl (G.2 3, np, .inr (.inr (.inr (.inr (kRn np rp)))))), (r_31, .inl (G.2 0, nn, .inl (kI (zFar (zStH SS fs sn h) fs sn np nn k))))] ++ va_pl L_270 f_270) _ := hP.part (cx := [(zw, .inl (G.2 0, nn, .inl (kI ww))), (zs, .inr (5, [.int (nI mi), .ref za, .ref zw, .ref zq, .ref zp])), (za, .inl (G.2 0, nn, .inl (kI ar))), (zq, .inl (G.2 4, nn, .inr (.inr (.inr (.inr (kRn nn ro)))))), (zp, .inl (G.2 3, np, .inr (.inr (.inr (.inr (kRn np rp)))))), (r_31, .inl (G.2 0, nn, .inl (kI (zFar (zStH SS fs sn h) fs sn np nn k))))]) [0, 2, 3, 4, 5, 1] rfl
                          have hD : va_D A ([(zw, .inl (G.2 0, nn, .inl (kI ww))), (zs, .inr (5, [.int (nI mi), .ref za, .ref zw, .ref zq, .ref zp])), (za, .inl (G.2 0, nn, .inl (kI ar))), (zq, .inl (G.2 4, nn, .inr (.inr (.inr (.inr (kRn nn ro)))))), (zp, .inl (G.2 3, np, .inr (.inr (.inr (.inr (kRn np rp)))))), (r_31, .inl (G.2 0, nn, .inl (kI (zFar (zStH SS fs sn h) fs sn np nn k))))] ++ va_pl L_270 f_270) := hD.part (cx := [(zw, .inl (G.2 0, nn, .inl (kI ww))), (zs, .inr (5, [.int (nI mi), .ref za, .ref zw, .ref zq, .ref zp])), (za, .inl (G.2 0, nn, .inl (kI ar))), (zq, .inl (G.2 4, nn, .inr (.inr (.inr (.inr (kRn nn ro)))))), (zp, .inl (G.2 3, np, .inr (.inr (.inr (.inr (kRn np rp)))))), (r_31, .inl (G.2 0, nn, .inl (kI (zFar (zStH SS fs sn h) fs sn np nn k))))]) [0, 2, 3, 4, 5, 1] (by decide) rfl
                          exact hc_286 M_270 L_270 f_270 (by exact hob) (by exact hML) (by exact hsm) _ _ hP hD hS _ (lv_sub hl [0, 1, 2, 3, 4, 5, 6, 7, 8, 9] rfl)
                        · exfalso; exact c_66 rfl
                · refine lv_iload hx hb dX5_isSame_224 (lv_at hl 0 rfl) ?_
                  refine lv_bipush (v := (nI 100)) hx hb dX5_isSame_226 (by decide) ?_
                  refine lv_idiv hx hb dX5_isSame_228 (by decide) ?_
                  refine kr_top (y := nI (((zFar (zStH SS fs sn h) fs sn np nn k) h) / 100)) (pk_div (by omega) (by decide) (by decide)) ?_
                  refine lv_goto (tgt := 233) hx hb dX5_isSame_229 (by decide) ?_
                  refine lv_icmp_ne (tgt := 284) hx hb dX5_isSame_233 (by decide) (fun c_67 => ?_) (fun c_67 => ?_)
                  · exfalso; first | exact c_67 (if_pos (by omega)) | exact c_67 (if_neg (by omega))
                  · refine lv_aload_n hx hb dX5_isSame_236 rfl (lv_at hl 9 rfl) ?_
                    refine lv_iload hx hb dX5_isSame_237 (lv_at hl 4 rfl) ?_
                    refine lv_iload hx hb dX5_isSame_239 (lv_at hl 1 rfl) ?_
                    refine lv_iconst (v := (nI 1)) hx hb dX5_isSame_241 (by decide) ?_
                    have hPc : va_P G.1 vwCl ([] ++ va_pl L_214 f_214) _ := hP.part (cx := []) [] rfl
                    have hDc : va_D A ([] ++ va_pl L_214 f_214) := hD.part (cx := []) [] (by decide) rfl
                    have hFc : ∀ zq9 : Nat, va_A ([] ++ va_pl L_214 f_214) _ zq9 → A zq9 := va_freeP (cx := []) hD hS hA [] rfl
                    refine va_calli (va_runV (As := [.int (nI h), .int (nI k), .int (nI 1)]) (rest := []) ⟨hx, hb, hml, hown, hts⟩ (c_X4_way_o l G _ hM nn np mi fs sn ln op SS ar ww M_214 L_214 f_214 h k 1 hob hML hV (by omega) (by omega) (by omega) (by omega)) (cwV 3 hts gX5_isSame_X4_way rfl rfl rfl (by decide +kernel) ⟨Nat.le_of_ble_eq_true rfl, Nat.le_of_ble_eq_true rfl⟩) (kO_V hob hML hK hPc hDc) rfl rfl hl.1 rfl (lv_room (Nat.le_of_ble_eq_true rfl)) dX5_isSame_242 ⟨(show 176 * h + 24 * k + 1 + 0 ≤ 1300 from by omega), (show 1203 * h + 168 * k + 7 + 0 ≤ 9000 from by omega)⟩) hS (fun q _ h => hFc q h) hFc (fun r_68 u t H1 locs ht hvm hw hB hz1 hk1 hS => ?_)
                    obtain ⟨M_242, L_242, f_242⟩ := u
                    obtain ⟨hP1, hD1⟩ := hB
                    rw [ht] at hP1
                    try dsimp only at hw hP1 hD1
                    obtain ⟨hP, hD⟩ := va_joinP (cx := []) (wr := [(zw, .inl (G.2 0, nn, .inl (kI ww))), (zs, .inr (5, [.int (nI mi), .ref za, .ref zw, .ref zq, .ref zp])), (za, .inl (G.2 0, nn, .inl (kI ar))), (zq, .inl (G.2 4, nn, .inr (.inr (.inr (.inr (kRn nn ro)))))), (zp, .inl (G.2 3, np, .inr (.inr (.inr (.inr (kRn np rp)))))), (r_31, .inl (G.2 0, nn, .inl (kI (zFar (zStH SS fs sn h) fs sn np nn k))))]) (rx := []) hP hD [] [0, 1, 2, 3, 4, 5] rfl rfl (by decide) (by decide) hk1 hFc hP1 hD1
                    clear hPc hDc hFc hP1 hD1 hk1 hz1 ht
                    skip
                    generalize H1 = H at hP hS ⊢
                    have hP : va_P G.1 vwCl ([(zw, .inl (G.2 0, nn, .inl (kI ww))), (zs, .inr (5, [.int (nI mi), .ref za, .ref zw, .ref zq, .ref zp])), (za, .inl (G.2 0, nn, .inl (kI ar))), (zq, .inl (G.2 4, nn, .inr (.inr (.inr (.inr (kRn nn ro)))))), (zp, .inl (G.2 3, np, .inr (.inr (.inr (.inr (kRn np rp)))))), (r_31, .inl (G.2 0, nn, .inl (kI (zFar (zStH SS fs sn h) fs sn np nn k))))] ++ va_pl L_242 f_242) H := hP
                    have hD : va_D A ([(zw, .inl (G.2 0, nn, .inl (kI ww))), (zs, .inr (5, [.int (nI mi), .ref za, .ref zw, .ref zq, .ref zp])), (za, .inl (G.2 0, nn, .inl (kI ar))), (zq, .inl (G.2 4, nn, .inr (.inr (.inr (.inr (kRn nn ro)))))), (zp, .inl (G.2 3, np, .inr (.inr (.inr (.inr (kRn np rp)))))), (r_31, .inl (G.2 0, nn, .inl (kI (zFar (zStH SS fs sn h) fs sn np nn k))))] ++ va_pl L_242 f_242) := hD
                    refine W.widen (k := 176 * h + 24 * k + 1) (n := 1203 * h + 168 * k + 7) (Nat.le_refl _) (Nat.le_refl _) ?_
                    have hw_69 := hw
                    obtain ⟨hr_68, hob, hfr⟩ := hw_69
                    have hML := hfr.1
                    have hsm := hsm.fr hfr
                    obtain ⟨hrw, hrr, hrp, hrM, hqM, hpM, hroi, hrpi, hrq⟩ := id hsm
                    rw [zS_way1 hV (show h < nn by omega) (show k < nn by omega)] at hr_68
                    subst hr_68
                    refine lv_iload hx hb dX5_isSame_245 (lv_at hl 0 rfl) ?_
                    refine lv_ldc (v := (99999999)) hx hb hown (hts _ kX5_isSame_6) dX5_isSame_247 ?_
                    refine kr_top (show ((99999999) : Int32) = nI 99999999 from by decide) ?_
                    refine kb_ge (tgt := 260) hx hb dX5_isSame_249 (by decide) (by omega) (by decide) (fun c_70 => ?_) (fun c_70 => ?_)
                    · refine lv_iconst (v := (-1)) hx hb dX5_isSame_260 (by decide) ?_
                      refine lv_icmp_ne (tgt := 284) hx hb dX5_isSame_261 (by decide) (fun c_71 => ?_) (fun c_71 => ?_)
                      · exfalso; first | exact c_71 (if_pos (by omega)) | exact c_71 (if_neg (by omega))
                      · refine lv_aload_n hx hb dX5_isSame_264 rfl (lv_at hl 9 rfl) ?_
                        refine lv_iload hx hb dX5_isSame_265 (lv_at hl 4 rfl) ?_
                        refine lv_iload hx hb dX5_isSame_267 (lv_at hl 1 rfl) ?_
                        refine lv_iconst (v := (nI 2)) hx hb dX5_isSame_269 (by decide) ?_
                        have hPc : va_P G.1 vwCl ([] ++ va_pl L_242 f_242) _ := hP.part (cx := []) [] rfl
                        have hDc : va_D A ([] ++ va_pl L_242 f_242) := hD.part (cx := []) [] (by decide) rfl
                        have hFc : ∀ zq9 : Nat, va_A ([] ++ va_pl L_242 f_242) _ zq9 → A zq9 := va_freeP (cx := []) hD hS hA [] rfl
                        refine va_calli (va_runV (As := [.int (nI h), .int (nI k), .int (nI 2)]) (rest := []) ⟨hx, hb, hml, hown, hts⟩ (c_X4_way_o l G _ hM nn np mi fs sn ln op SS ar ww M_242 L_242 f_242 h k 2 hob hML hV (by omega) (by omega) (by omega) (by omega)) (cwV 3 hts gX5_isSame_X4_way rfl rfl rfl (by decide +kernel) ⟨Nat.le_of_ble_eq_true rfl, Nat.le_of_ble_eq_true rfl⟩) (kO_V hob hML hK hPc hDc) rfl rfl hl.1 rfl (lv_room (Nat.le_of_ble_eq_true rfl)) dX5_isSame_270 ⟨(show 176 * h + 24 * k + 1 + 0 ≤ 1300 from by omega), (show 1203 * h + 168 * k + 7 + 0 ≤ 9000 from by omega)⟩) hS (fun q _ h => hFc q h) hFc (fun r_72 u t H1 locs ht hvm hw hB hz1 hk1 hS => ?_)
                        obtain ⟨M_270, L_270, f_270⟩ := u
                        obtain ⟨hP1, hD1⟩ := hB
                        rw [ht] at hP1
                        try dsimp only at hw hP1 hD1
                        obtain ⟨hP, hD⟩ := va_joinP (cx := []) (wr := [(zw, .inl (G.2 0, nn, .inl (kI ww))), (zs, .inr (5, [.int (nI mi), .ref za, .ref zw, .ref zq, .ref zp])), (za, .inl (G.2 0, nn, .inl (kI ar))), (zq, .inl (G.2 4, nn, .inr (.inr (.inr (.inr (kRn nn ro)))))), (zp, .inl (G.2 3, np, .inr (.inr (.inr (.inr (kRn np rp)))))), (r_31, .inl (G.2 0, nn, .inl (kI (zFar (zStH SS fs sn h) fs sn np nn k))))]) (rx := []) hP hD [] [0, 1, 2, 3, 4, 5] rfl rfl (by decide) (by decide) hk1 hFc hP1 hD1
                        clear hPc hDc hFc hP1 hD1 hk1 hz1 ht
                        skip
                        generalize H1 = H at hP hS ⊢
                        have hP : va_P G.1 vwCl ([(zw, .inl (G.2 0, nn, .inl (kI ww))), (zs, .inr (5, [.int (nI mi), .ref za, .ref zw, .ref zq, .ref zp])), (za, .inl (G.2 0, nn, .inl (kI ar))), (zq, .inl (G.2 4, nn, .inr (.inr (.inr (.inr (kRn nn ro)))))), (zp, .inl (G.2 3, np, .inr (.inr (.inr (.inr (kRn np rp)))))), (r_31, .inl (G.2 0, nn, .inl (kI (zFar (zStH SS fs sn h) fs sn np nn k))))] ++ va_pl L_270 f_270) H := hP
                        have hD : va_D A ([(zw, .inl (G.2 0, nn, .inl (kI ww))), (zs, .inr (5, [.int (nI mi), .ref za, .ref zw, .ref zq, .ref zp])), (za, .inl (G.2 0, nn, .inl (kI ar))), (zq, .inl (G.2 4, nn, .inr (.inr (.inr (.inr (kRn nn ro)))))), (zp, .inl (G.2 3, np, .inr (.inr (.inr (.inr (kRn np rp)))))), (r_31, .inl (G.2 0, nn, .inl (kI (zFar (zStH SS fs sn h) fs sn np nn k))))] ++ va_pl L_270 f_270) := hD
                        refine W.widen (k := 176 * h + 24 * k + 1) (n := 1203 * h + 168 * k + 7) (Nat.le_refl _) (Nat.le_refl _) ?_
                        have hw_73 := hw
                        obtain ⟨hr_72, hob, hfr⟩ := hw_73
                        have hML := hfr.1
                        have hsm := hsm.fr hfr
                        obtain ⟨hrw, hrr, hrp, hrM, hqM, hpM, hroi, hrpi, hrq⟩ := id hsm
                        rw [zS_way2 hV (show h < nn by omega) (show k < nn by omega)] at hr_72
                        subst hr_72
                        refine lv_aload_n hx hb dX5_isSame_273 rfl (lv_at hl 8 rfl) ?_
                        refine lv_iload hx hb dX5_isSame_274 (lv_at hl 4 rfl) ?_
                        refine lv_iload hx hb dX5_isSame_276 (lv_at hl 1 rfl) ?_
                        have hPc : va_P G.1 vwCl ([(zs, .inr (5, [.int (nI mi), .ref za, .ref zw, .ref zq, .ref zp])), (za, .inl (G.2 0, nn, .inl (kI ar))), (zq, .inl (G.2 4, nn, .inr (.inr (.inr (.inr (kRn nn ro)))))), (zp, .inl (G.2 3, np, .inr (.inr (.inr (.inr (kRn np rp))))))] ++ va_pl L_270 f_270) _ := hP.part (cx := [(zs, .inr (5, [.int (nI mi), .ref za, .ref zw, .ref zq, .ref zp])), (za, .inl (G.2 0, nn, .inl (kI ar))), (zq, .inl (G.2 4, nn, .inr (.inr (.inr (.inr (kRn nn ro)))))), (zp, .inl (G.2 3, np, .inr (.inr (.inr (.inr (kRn np rp))))))]) [1, 2, 3, 4] rfl
                        have hDc : va_D A ([(zs, .inr (5, [.int (nI mi), .ref za, .ref zw, .ref zq, .ref zp])), (za, .inl (G.2 0, nn, .inl (kI ar))), (zq, .inl (G.2 4, nn, .inr (.inr (.inr (.inr (kRn nn ro)))))), (zp, .inl (G.2 3, np, .inr (.inr (.inr (.inr (kRn np rp))))))] ++ va_pl L_270 f_270) := hD.part (cx := [(zs, .inr (5, [.int (nI mi), .ref za, .ref zw, .ref zq, .ref zp])), (za, .inl (G.2 0, nn, .inl (kI ar))), (zq, .inl (G.2 4, nn, .inr (.inr (.inr (.inr (kRn nn ro)))))), (zp, .inl (G.2 3, np, .inr (.inr (.inr (.inr (kRn np rp))))))]) [1, 2, 3, 4] (by decide) rfl
                        have hFc : ∀ zq9 : Nat, va_A ([(zs, .inr (5, [.int (nI mi), .ref za, .ref zw, .ref zq, .ref zp])), (za, .inl (G.2 0, nn, .inl (kI ar))), (zq, .inl (G.2 4, nn, .inr (.inr (.inr (.inr (kRn nn ro)))))), (zp, .inl (G.2 3, np, .inr (.inr (.inr (.inr (kRn np rp))))))] ++ va_pl L_270 f_270) _ zq9 → A zq9 := va_freeP (cx := [(zs, .inr (5, [.int (nI mi), .ref za, .ref zw, .ref zq, .ref zp])), (za, .inl (G.2 0, nn, .inl (kI ar))), (zq, .inl (G.2 4, nn, .inr (.inr (.inr (.inr (kRn nn ro)))))), (zp, .inl (G.2 3, np, .inr (.inr (.inr (.inr (kRn np rp))))))]) hD hS hA [1, 2, 3, 4] rfl
                        refine va_calli (va_runV (As := [.int (nI h), .int (nI k)]) (rest := [.int (mOI (zFst (zStH SS fs sn h) fs sn np nn h k))]) ⟨hx, hb, hml, hown, hts⟩ (c_X5_first l G _ zs za zw zq zp nn np mi L_270 f_270 ro rr rp fs sn ln op SS ar ww h k hrw hrr hrp (by omega) (by omega) hfs hsn hln hen (by omega) (by omega) (by omega)) (cwV 2 hts gX5_isSame_X5_first rfl rfl rfl (by decide +kernel) ⟨Nat.le_of_ble_eq_true rfl, Nat.le_of_ble_eq_true rfl⟩) (kPreM_V (ws := ([(zs, .inr (5, [.int (nI mi), .ref za, .ref zw, .ref zq, .ref zp])), (za, .inl (G.2 0, nn, .inl (kI ar))), (zq, .inl (G.2 4, nn, .inr (.inr (.inr (.inr (kRn nn ro)))))), (zp, .inl (G.2 3, np, .inr (.inr (.inr (.inr (kRn np rp))))))] ++ va_pl L_270 f_270)) hK hPc hDc (RX5, TX5, 5) 0 rfl rfl) rfl rfl hl.1 rfl (lv_room (Nat.le_of_ble_eq_true rfl)) dX5_isSame_278 ⟨(show 176 * h + 24 * k + 1 + 1 ≤ 1300 from by omega), (show 1203 * h + 168 * k + 7 + 7 ≤ 9000 from by omega)⟩) hS (fun q _ h => hFc q h) hFc (fun r_74 u t H1 locs ht hvm hw hB hz1 hk1 hS => ?_)
                        obtain ⟨hP1, hD1⟩ := hB
                        rw [ht] at hP1
                        try dsimp only at hw hP1 hD1
                        obtain ⟨hP, hD⟩ := va_joinP (cx := [(zs, .inr (5, [.int (nI mi), .ref za, .ref zw, .ref zq, .ref zp])), (za, .inl (G.2 0, nn, .inl (kI ar))), (zq, .inl (G.2 4, nn, .inr (.inr (.inr (.inr (kRn nn ro)))))), (zp, .inl (G.2 3, np, .inr (.inr (.inr (.inr (kRn np rp))))))]) (wr := [(zw, .inl (G.2 0, nn, .inl (kI ww))), (r_31, .inl (G.2 0, nn, .inl (kI (zFar (zStH SS fs sn h) fs sn np nn k))))]) (rx := [(zs, .inr (5, [.int (nI mi), .ref za, .ref zw, .ref zq, .ref zp])), (za, .inl (G.2 0, nn, .inl (kI ar))), (zq, .inl (G.2 4, nn, .inr (.inr (.inr (.inr (kRn nn ro)))))), (zp, .inl (G.2 3, np, .inr (.inr (.inr (.inr (kRn np rp))))))]) hP hD [1, 2, 3, 4] [0, 5] rfl rfl (by decide) (by decide) hk1 hFc hP1 hD1
                        clear hPc hDc hFc hP1 hD1 hk1 hz1 ht
                        skip
                        generalize H1 = H at hP hS ⊢
                        have hP : va_P G.1 vwCl ([(zw, .inl (G.2 0, nn, .inl (kI ww))), (r_31, .inl (G.2 0, nn, .inl (kI (zFar (zStH SS fs sn h) fs sn np nn k)))), (zs, .inr (5, [.int (nI mi), .ref za, .ref zw, .ref zq, .ref zp])), (za, .inl (G.2 0, nn, .inl (kI ar))), (zq, .inl (G.2 4, nn, .inr (.inr (.inr (.inr (kRn nn ro)))))), (zp, .inl (G.2 3, np, .inr (.inr (.inr (.inr (kRn np rp))))))] ++ va_pl L_270 f_270) H := hP
                        have hD : va_D A ([(zw, .inl (G.2 0, nn, .inl (kI ww))), (r_31, .inl (G.2 0, nn, .inl (kI (zFar (zStH SS fs sn h) fs sn np nn k)))), (zs, .inr (5, [.int (nI mi), .ref za, .ref zw, .ref zq, .ref zp])), (za, .inl (G.2 0, nn, .inl (kI ar))), (zq, .inl (G.2 4, nn, .inr (.inr (.inr (.inr (kRn nn ro)))))), (zp, .inl (G.2 3, np, .inr (.inr (.inr (.inr (kRn np rp))))))] ++ va_pl L_270 f_270) := hD
                        refine W.widen (k := 176 * h + 24 * k + 1 + 1) (n := 1203 * h + 168 * k + 7 + 7) (Nat.le_refl _) (Nat.le_refl _) ?_
                        have hw_75 := hw
                        subst hw_75
                        refine lv_icmp_eq (tgt := 286) hx hb dX5_isSame_281 (by decide) (fun c_76 => ?_) (fun c_76 => ?_)
                        · refine W.widen (k := 176 * h + 24 * k + 2) (n := 1203 * h + 168 * k + 14) (by omega) (by omega) ?_
                          have hP : va_P G.1 vwCl ([(zw, .inl (G.2 0, nn, .inl (kI ww))), (zs, .inr (5, [.int (nI mi), .ref za, .ref zw, .ref zq, .ref zp])), (za, .inl (G.2 0, nn, .inl (kI ar))), (zq, .inl (G.2 4, nn, .inr (.inr (.inr (.inr (kRn nn ro)))))), (zp, .inl (G.2 3, np, .inr (.inr (.inr (.inr (kRn np rp)))))), (r_31, .inl (G.2 0, nn, .inl (kI (zFar (zStH SS fs sn h) fs sn np nn k))))] ++ va_pl L_270 f_270) _ := hP.part (cx := [(zw, .inl (G.2 0, nn, .inl (kI ww))), (zs, .inr (5, [.int (nI mi), .ref za, .ref zw, .ref zq, .ref zp])), (za, .inl (G.2 0, nn, .inl (kI ar))), (zq, .inl (G.2 4, nn, .inr (.inr (.inr (.inr (kRn nn ro)))))), (zp, .inl (G.2 3, np, .inr (.inr (.inr (.inr (kRn np rp)))))), (r_31, .inl (G.2 0, nn, .inl (kI (zFar (zStH SS fs sn h) fs sn np nn k))))]) [0, 2, 3, 4, 5, 1] rfl
                          have hD : va_D A ([(zw, .inl (G.2 0, nn, .inl (kI ww))), (zs, .inr (5, [.int (nI mi), .ref za, .ref zw, .ref zq, .ref zp])), (za, .inl (G.2 0, nn, .inl (kI ar))), (zq, .inl (G.2 4, nn, .inr (.inr (.inr (.inr (kRn nn ro)))))), (zp, .inl (G.2 3, np, .inr (.inr (.inr (.inr (kRn np rp)))))), (r_31, .inl (G.2 0, nn, .inl (kI (zFar (zStH SS fs sn h) fs sn np nn k))))] ++ va_pl L_270 f_270) := hD.part (cx := [(zw, .inl (G.2 0, nn, .inl (kI ww))), (zs, .inr (5, [.int (nI mi), .ref za, .ref zw, .ref zq, .ref zp])), (za, .inl (G.2 0, nn, .inl (kI ar))), (zq, .inl (G.2 4, nn, .inr (.inr (.inr (.inr (kRn nn ro)))))), (zp, .inl (G.2 3, np, .inr (.inr (.inr (.inr (kRn np rp)))))), (r_31, .inl (G.2 0, nn, .inl (kI (zFar (zStH SS fs sn h) fs sn np nn k))))]) [0, 2, 3, 4, 5, 1] (by decide) rfl
                          exact hc_286 M_270 L_270 f_270 (by exact hob) (by exact hML) (by exact hsm) _ _ hP hD hS _ (lv_sub hl [0, 1, 2, 3, 4, 5, 6, 7, 8, 9] rfl)
                        · exfalso; exact c_76 rfl
                    · refine lv_iload hx hb dX5_isSame_252 (lv_at hl 0 rfl) ?_
                      refine lv_bipush (v := (nI 100)) hx hb dX5_isSame_254 (by decide) ?_
                      refine lv_irem hx hb dX5_isSame_256 (by decide) ?_
                      refine kr_top (y := nI (((zFar (zStH SS fs sn h) fs sn np nn k) h) % 100)) (pk_rem (by omega) (by decide) (by decide)) ?_
                      refine lv_goto (tgt := 261) hx hb dX5_isSame_257 (by decide) ?_
                      refine lv_icmp_ne (tgt := 284) hx hb dX5_isSame_261 (by decide) (fun c_77 => ?_) (fun c_77 => ?_)
                      · exfalso; first | exact c_77 (if_pos (by omega)) | exact c_77 (if_neg (by omega))
                      · refine lv_aload_n hx hb dX5_isSame_264 rfl (lv_at hl 9 rfl) ?_
                        refine lv_iload hx hb dX5_isSame_265 (lv_at hl 4 rfl) ?_
                        refine lv_iload hx hb dX5_isSame_267 (lv_at hl 1 rfl) ?_
                        refine lv_iconst (v := (nI 2)) hx hb dX5_isSame_269 (by decide) ?_
                        have hPc : va_P G.1 vwCl ([] ++ va_pl L_242 f_242) _ := hP.part (cx := []) [] rfl
                        have hDc : va_D A ([] ++ va_pl L_242 f_242) := hD.part (cx := []) [] (by decide) rfl
                        have hFc : ∀ zq9 : Nat, va_A ([] ++ va_pl L_242 f_242) _ zq9 → A zq9 := va_freeP (cx := []) hD hS hA [] rfl
                        refine va_calli (va_runV (As := [.int (nI h), .int (nI k), .int (nI 2)]) (rest := []) ⟨hx, hb, hml, hown, hts⟩ (c_X4_way_o l G _ hM nn np mi fs sn ln op SS ar ww M_242 L_242 f_242 h k 2 hob hML hV (by omega) (by omega) (by omega) (by omega)) (cwV 3 hts gX5_isSame_X4_way rfl rfl rfl (by decide +kernel) ⟨Nat.le_of_ble_eq_true rfl, Nat.le_of_ble_eq_true rfl⟩) (kO_V hob hML hK hPc hDc) rfl rfl hl.1 rfl (lv_room (Nat.le_of_ble_eq_true rfl)) dX5_isSame_270 ⟨(show 176 * h + 24 * k + 1 + 0 ≤ 1300 from by omega), (show 1203 * h + 168 * k + 7 + 0 ≤ 9000 from by omega)⟩) hS (fun q _ h => hFc q h) hFc (fun r_78 u t H1 locs ht hvm hw hB hz1 hk1 hS => ?_)
                        obtain ⟨M_270, L_270, f_270⟩ := u
                        obtain ⟨hP1, hD1⟩ := hB
                        rw [ht] at hP1
                        try dsimp only at hw hP1 hD1
                        obtain ⟨hP, hD⟩ := va_joinP (cx := []) (wr := [(zw, .inl (G.2 0, nn, .inl (kI ww))), (zs, .inr (5, [.int (nI mi), .ref za, .ref zw, .ref zq, .ref zp])), (za, .inl (G.2 0, nn, .inl (kI ar))), (zq, .inl (G.2 4, nn, .inr (.inr (.inr (.inr (kRn nn ro)))))), (zp, .inl (G.2 3, np, .inr (.inr (.inr (.inr (kRn np rp)))))), (r_31, .inl (G.2 0, nn, .inl (kI (zFar (zStH SS fs sn h) fs sn np nn k))))]) (rx := []) hP hD [] [0, 1, 2, 3, 4, 5] rfl rfl (by decide) (by decide) hk1 hFc hP1 hD1
                        clear hPc hDc hFc hP1 hD1 hk1 hz1 ht
                        skip
                        generalize H1 = H at hP hS ⊢
                        have hP : va_P G.1 vwCl ([(zw, .inl (G.2 0, nn, .inl (kI ww))), (zs, .inr (5, [.int (nI mi), .ref za, .ref zw, .ref zq, .ref zp])), (za, .inl (G.2 0, nn, .inl (kI ar))), (zq, .inl (G.2 4, nn, .inr (.inr (.inr (.inr (kRn nn ro)))))), (zp, .inl (G.2 3, np, .inr (.inr (.inr (.inr (kRn np rp)))))), (r_31, .inl (G.2 0, nn, .inl (kI (zFar (zStH SS fs sn h) fs sn np nn k))))] ++ va_pl L_270 f_270) H := hP
                        have hD : va_D A ([(zw, .inl (G.2 0, nn, .inl (kI ww))), (zs, .inr (5, [.int (nI mi), .ref za, .ref zw, .ref zq, .ref zp])), (za, .inl (G.2 0, nn, .inl (kI ar))), (zq, .inl (G.2 4, nn, .inr (.inr (.inr (.inr (kRn nn ro)))))), (zp, .inl (G.2 3, np, .inr (.inr (.inr (.inr (kRn np rp)))))), (r_31, .inl (G.2 0, nn, .inl (kI (zFar (zStH SS fs sn h) fs sn np nn k))))] ++ va_pl L_270 f_270) := hD
                        refine W.widen (k := 176 * h + 24 * k + 1) (n := 1203 * h + 168 * k + 7) (Nat.le_refl _) (Nat.le_refl _) ?_
                        have hw_79 := hw
                        obtain ⟨hr_78, hob, hfr⟩ := hw_79
                        have hML := hfr.1
                        have hsm := hsm.fr hfr
                        obtain ⟨hrw, hrr, hrp, hrM, hqM, hpM, hroi, hrpi, hrq⟩ := id hsm
                        rw [zS_way2 hV (show h < nn by omega) (show k < nn by omega)] at hr_78
                        subst hr_78
                        refine lv_aload_n hx hb dX5_isSame_273 rfl (lv_at hl 8 rfl) ?_
                        refine lv_iload hx hb dX5_isSame_274 (lv_at hl 4 rfl) ?_
                        refine lv_iload hx hb dX5_isSame_276 (lv_at hl 1 rfl) ?_
                        have hPc : va_P G.1 vwCl ([(zs, .inr (5, [.int (nI mi), .ref za, .ref zw, .ref zq, .ref zp])), (za, .inl (G.2 0, nn, .inl (kI ar))), (zq, .inl (G.2 4, nn, .inr (.inr (.inr (.inr (kRn nn ro)))))), (zp, .inl (G.2 3, np, .inr (.inr (.inr (.inr (kRn np rp))))))] ++ va_pl L_270 f_270) _ := hP.part (cx := [(zs, .inr (5, [.int (nI mi), .ref za, .ref zw, .ref zq, .ref zp])), (za, .inl (G.2 0, nn, .inl (kI ar))), (zq, .inl (G.2 4, nn, .inr (.inr (.inr (.inr (kRn nn ro)))))), (zp, .inl (G.2 3, np, .inr (.inr (.inr (.inr (kRn np rp))))))]) [1, 2, 3, 4] rfl
                        have hDc : va_D A ([(zs, .inr (5, [.int (nI mi), .ref za, .ref zw, .ref zq, .ref zp])), (za, .inl (G.2 0, nn, .inl (kI ar))), (zq, .inl (G.2 4, nn, .inr (.inr (.inr (.inr (kRn nn ro)))))), (zp, .inl (G.2 3, np, .inr (.inr (.inr (.inr (kRn np rp))))))] ++ va_pl L_270 f_270) := hD.part (cx := [(zs, .inr (5, [.int (nI mi), .ref za, .ref zw, .ref zq, .ref zp])), (za, .inl (G.2 0, nn, .inl (kI ar))), (zq, .inl (G.2 4, nn, .inr (.inr (.inr (.inr (kRn nn ro)))))), (zp, .inl (G.2 3, np, .inr (.inr (.inr (.inr (kRn np rp))))))]) [1, 2, 3, 4] (by decide) rfl
                        have hFc : ∀ zq9 : Nat, va_A ([(zs, .inr (5, [.int (nI mi), .ref za, .ref zw, .ref zq, .ref zp])), (za, .inl (G.2 0, nn, .inl (kI ar))), (zq, .inl (G.2 4, nn, .inr (.inr (.inr (.inr (kRn nn ro)))))), (zp, .inl (G.2 3, np, .inr (.inr (.inr (.inr (kRn np rp))))))] ++ va_pl L_270 f_270) _ zq9 → A zq9 := va_freeP (cx := [(zs, .inr (5, [.int (nI mi), .ref za, .ref zw, .ref zq, .ref zp])), (za, .inl (G.2 0, nn, .inl (kI ar))), (zq, .inl (G.2 4, nn, .inr (.inr (.inr (.inr (kRn nn ro)))))), (zp, .inl (G.2 3, np, .inr (.inr (.inr (.inr (kRn np rp))))))]) hD hS hA [1, 2, 3, 4] rfl
                        refine va_calli (va_runV (As := [.int (nI h), .int (nI k)]) (rest := [.int (mOI (zFst (zStH SS fs sn h) fs sn np nn h k))]) ⟨hx, hb, hml, hown, hts⟩ (c_X5_first l G _ zs za zw zq zp nn np mi L_270 f_270 ro rr rp fs sn ln op SS ar ww h k hrw hrr hrp (by omega) (by omega) hfs hsn hln hen (by omega) (by omega) (by omega)) (cwV 2 hts gX5_isSame_X5_first rfl rfl rfl (by decide +kernel) ⟨Nat.le_of_ble_eq_true rfl, Nat.le_of_ble_eq_true rfl⟩) (kPreM_V (ws := ([(zs, .inr (5, [.int (nI mi), .ref za, .ref zw, .ref zq, .ref zp])), (za, .inl (G.2 0, nn, .inl (kI ar))), (zq, .inl (G.2 4, nn, .inr (.inr (.inr (.inr (kRn nn ro)))))), (zp, .inl (G.2 3, np, .inr (.inr (.inr (.inr (kRn np rp))))))] ++ va_pl L_270 f_270)) hK hPc hDc (RX5, TX5, 5) 0 rfl rfl) rfl rfl hl.1 rfl (lv_room (Nat.le_of_ble_eq_true rfl)) dX5_isSame_278 ⟨(show 176 * h + 24 * k + 1 + 1 ≤ 1300 from by omega), (show 1203 * h + 168 * k + 7 + 7 ≤ 9000 from by omega)⟩) hS (fun q _ h => hFc q h) hFc (fun r_80 u t H1 locs ht hvm hw hB hz1 hk1 hS => ?_)
                        obtain ⟨hP1, hD1⟩ := hB
                        rw [ht] at hP1
                        try dsimp only at hw hP1 hD1
                        obtain ⟨hP, hD⟩ := va_joinP (cx := [(zs, .inr (5, [.int (nI mi), .ref za, .ref zw, .ref zq, .ref zp])), (za, .inl (G.2 0, nn, .inl (kI ar))), (zq, .inl (G.2 4, nn, .inr (.inr (.inr (.inr (kRn nn ro)))))), (zp, .inl (G.2 3, np, .inr (.inr (.inr (.inr (kRn np rp))))))]) (wr := [(zw, .inl (G.2 0, nn, .inl (kI ww))), (r_31, .inl (G.2 0, nn, .inl (kI (zFar (zStH SS fs sn h) fs sn np nn k))))]) (rx := [(zs, .inr (5, [.int (nI mi), .ref za, .ref zw, .ref zq, .ref zp])), (za, .inl (G.2 0, nn, .inl (kI ar))), (zq, .inl (G.2 4, nn, .inr (.inr (.inr (.inr (kRn nn ro)))))), (zp, .inl (G.2 3, np, .inr (.inr (.inr (.inr (kRn np rp))))))]) hP hD [1, 2, 3, 4] [0, 5] rfl rfl (by decide) (by decide) hk1 hFc hP1 hD1
                        clear hPc hDc hFc hP1 hD1 hk1 hz1 ht
                        skip
                        generalize H1 = H at hP hS ⊢
                        have hP : va_P G.1 vwCl ([(zw, .inl (G.2 0, nn, .inl (kI ww))), (r_31, .inl (G.2 0, nn, .inl (kI (zFar (zStH SS fs sn h) fs sn np nn k)))), (zs, .inr (5, [.int (nI mi), .ref za, .ref zw, .ref zq, .ref zp])), (za, .inl (G.2 0, nn, .inl (kI ar))), (zq, .inl (G.2 4, nn, .inr (.inr (.inr (.inr (kRn nn ro)))))), (zp, .inl (G.2 3, np, .inr (.inr (.inr (.inr (kRn np rp))))))] ++ va_pl L_270 f_270) H := hP
                        have hD : va_D A ([(zw, .inl (G.2 0, nn, .inl (kI ww))), (r_31, .inl (G.2 0, nn, .inl (kI (zFar (zStH SS fs sn h) fs sn np nn k)))), (zs, .inr (5, [.int (nI mi), .ref za, .ref zw, .ref zq, .ref zp])), (za, .inl (G.2 0, nn, .inl (kI ar))), (zq, .inl (G.2 4, nn, .inr (.inr (.inr (.inr (kRn nn ro)))))), (zp, .inl (G.2 3, np, .inr (.inr (.inr (.inr (kRn np rp))))))] ++ va_pl L_270 f_270) := hD
                        refine W.widen (k := 176 * h + 24 * k + 1 + 1) (n := 1203 * h + 168 * k + 7 + 7) (Nat.le_refl _) (Nat.le_refl _) ?_
                        have hw_81 := hw
                        subst hw_81
                        refine lv_icmp_eq (tgt := 286) hx hb dX5_isSame_281 (by decide) (fun c_82 => ?_) (fun c_82 => ?_)
                        · refine W.widen (k := 176 * h + 24 * k + 2) (n := 1203 * h + 168 * k + 14) (by omega) (by omega) ?_
                          have hP : va_P G.1 vwCl ([(zw, .inl (G.2 0, nn, .inl (kI ww))), (zs, .inr (5, [.int (nI mi), .ref za, .ref zw, .ref zq, .ref zp])), (za, .inl (G.2 0, nn, .inl (kI ar))), (zq, .inl (G.2 4, nn, .inr (.inr (.inr (.inr (kRn nn ro)))))), (zp, .inl (G.2 3, np, .inr (.inr (.inr (.inr (kRn np rp)))))), (r_31, .inl (G.2 0, nn, .inl (kI (zFar (zStH SS fs sn h) fs sn np nn k))))] ++ va_pl L_270 f_270) _ := hP.part (cx := [(zw, .inl (G.2 0, nn, .inl (kI ww))), (zs, .inr (5, [.int (nI mi), .ref za, .ref zw, .ref zq, .ref zp])), (za, .inl (G.2 0, nn, .inl (kI ar))), (zq, .inl (G.2 4, nn, .inr (.inr (.inr (.inr (kRn nn ro)))))), (zp, .inl (G.2 3, np, .inr (.inr (.inr (.inr (kRn np rp)))))), (r_31, .inl (G.2 0, nn, .inl (kI (zFar (zStH SS fs sn h) fs sn np nn k))))]) [0, 2, 3, 4, 5, 1] rfl
                          have hD : va_D A ([(zw, .inl (G.2 0, nn, .inl (kI ww))), (zs, .inr (5, [.int (nI mi), .ref za, .ref zw, .ref zq, .ref zp])), (za, .inl (G.2 0, nn, .inl (kI ar))), (zq, .inl (G.2 4, nn, .inr (.inr (.inr (.inr (kRn nn ro)))))), (zp, .inl (G.2 3, np, .inr (.inr (.inr (.inr (kRn np rp)))))), (r_31, .inl (G.2 0, nn, .inl (kI (zFar (zStH SS fs sn h) fs sn np nn k))))] ++ va_pl L_270 f_270) := hD.part (cx := [(zw, .inl (G.2 0, nn, .inl (kI ww))), (zs, .inr (5, [.int (nI mi), .ref za, .ref zw, .ref zq, .ref zp])), (za, .inl (G.2 0, nn, .inl (kI ar))), (zq, .inl (G.2 4, nn, .inr (.inr (.inr (.inr (kRn nn ro)))))), (zp, .inl (G.2 3, np, .inr (.inr (.inr (.inr (kRn np rp)))))), (r_31, .inl (G.2 0, nn, .inl (kI (zFar (zStH SS fs sn h) fs sn np nn k))))]) [0, 2, 3, 4, 5, 1] (by decide) rfl
                          exact hc_286 M_270 L_270 f_270 (by exact hob) (by exact hML) (by exact hsm) _ _ hP hD hS _ (lv_sub hl [0, 1, 2, 3, 4, 5, 6, 7, 8, 9] rfl)
                        · exfalso; exact c_82 rfl
              refine lv_aload_n hx hb dX5_isSame_35 rfl (lv_at hl 7 rfl) ?_
              refine va_get (D := G.1) (ci := 5) (v := .ref zq) (C := RX5) (T := TX5) (N := 5) hx hb hts kX5_isSame_1 hown hK hP 0 rfl rfl 3 (by decide) (hts _ kX5_isSame_7) (fun _ h9 => h9) rfl dX5_isSame_36 ?_
              refine lv_iload hx hb dX5_isSame_39 (lv_at hl 3 rfl) ?_
              refine kr_aldA (k := h) (v := .ref (ro h)) hx hb hK hP 2 4 rfl rfl (by omega) (by omega) (kRn_at (by omega)) dX5_isSame_41 ?_
              refine lv_iload hx hb dX5_isSame_42 (lv_at hl 0 rfl) ?_
              refine kp_aldA (k := k) (v := .ref (rr h k)) hx hb hK hP 3 (hrw h (by omega)).1 (hrw h (by omega)).2 rfl (by omega) (by omega) (kRn_at (by omega)) dX5_isSame_44 ?_
              obtain ⟨hmz_83, lnz_83, gzz_83, hfz_83, hvz_83⟩ := hrr h k (by omega) (by omega)
              have hnz_83 := zVal_len hvz_83
              refine lv_astore (lv' := [(9, .ref (rr h k)), (8, .int (nI k)), (7, .int (nI co9)), (6, .int (nI wa9)), (5, .int (nI h)), (4, .int (nI ag9)), (3, .int (nI le9)), (2, .int (nI nn)), (0, .ref zs), (1, .ref hM)]) hx hb dX5_isSame_45 hl (by decide) rfl (fun ls hl => ?_)
              refine lv_iconst (v := (nI 0)) hx hb dX5_isSame_47 (by decide) ?_
              refine lv_istore (lv' := [(10, .int (nI 0)), (9, .ref (rr h k)), (8, .int (nI k)), (7, .int (nI co9)), (6, .int (nI wa9)), (5, .int (nI h)), (4, .int (nI ag9)), (3, .int (nI le9)), (2, .int (nI nn)), (0, .ref zs), (1, .ref hM)]) hx hb dX5_isSame_48 hl (by decide) rfl (fun ls hl => ?_)
              refine lv_iconst (v := (nI 0)) hx hb dX5_isSame_50 (by decide) ?_
              refine lv_istore (lv' := [(11, .int (nI 0)), (10, .int (nI 0)), (9, .ref (rr h k)), (8, .int (nI k)), (7, .int (nI co9)), (6, .int (nI wa9)), (5, .int (nI h)), (4, .int (nI ag9)), (3, .int (nI le9)), (2, .int (nI nn)), (0, .ref zs), (1, .ref hM)]) hx hb dX5_isSame_51 hl (by decide) rfl (fun ls hl => ?_)
              have hc_53 : ∀ (n : Nat) (q9 i : Nat), np - i < n → i ≤ np → q9 = mCnt (fun p => decide (0 < vLen (SS (h * 10 + k)) p)) i → ∀ (H : Heap) (locs : List Loc), va_P G.1 vwCl ([(zs, .inr (5, [.int (nI mi), .ref za, .ref zw, .ref zq, .ref zp])), (za, .inl (G.2 0, nn, .inl (kI ar))), (zq, .inl (G.2 4, nn, .inr (.inr (.inr (.inr (kRn nn ro)))))), (zp, .inl (G.2 3, np, .inr (.inr (.inr (.inr (kRn np rp)))))), (zw, .inl (G.2 0, nn, .inl (kI ww)))] ++ va_pl L1 f1) H → va_D A ([(zs, .inr (5, [.int (nI mi), .ref za, .ref zw, .ref zq, .ref zp])), (za, .inl (G.2 0, nn, .inl (kI ar))), (zq, .inl (G.2 4, nn, .inr (.inr (.inr (.inr (kRn nn ro)))))), (zp, .inl (G.2 3, np, .inr (.inr (.inr (.inr (kRn np rp)))))), (zw, .inl (G.2 0, nn, .inl (kI ww)))] ++ va_pl L1 f1) → va_S A s.heap H locs → ∀ (ls : Array Slot), lv_has ls 15 [(11, .int (nI i)), (10, .int (nI q9)), (9, .ref (rr h k)), (8, .int (nI k)), (7, .int (nI co9)), (6, .int (nI wa9)), (5, .int (nI h)), (4, .int (nI ag9)), (3, .int (nI le9)), (2, .int (nI nn)), (0, .ref zs), (1, .ref hM)] → W p l e (headSpec wsX5_isSame ({ frames := 6, cells := 1300, slots := 9000, locals := 150 })).room s m [.ref zs, .ref hM].toArray below meth c H locs (176 * h + 24 * k) (1203 * h + 168 * k) (MQ below (va_Qi (fun (r : Int32) (u : List Nat × List Nat × (Nat → va_E)) => r = bI true ∧ kObj G hM nn np mi fs sn ln op SS ar ww u.1 u.2.2 ∧ (∀ a ∈ u.1, a ∈ u.2.1) ∧ kSim G nn np mi u.1 u.2.1 u.2.2 ro rr rp fs sn ln op SS) (fun (u : List Nat × List Nat × (Nat → va_E)) t => kA G A ([(zs, .inr (5, [.int (nI mi), .ref za, .ref zw, .ref zq, .ref zp])), (za, .inl (G.2 0, nn, .inl (kI ar))), (zq, .inl (G.2 4, nn, .inr (.inr (.inr (.inr (kRn nn ro)))))), (zp, .inl (G.2 3, np, .inr (.inr (.inr (.inr (kRn np rp)))))), (zw, .inl (G.2 0, nn, .inl (kI ww)))] ++ va_pl u.2.1 u.2.2) t) A) [.ref zs, .ref hM].toArray s 1300 9000 A) (F0 m 53 ls []) := by
                intro n
                induction n with
                | zero =>
                  intro q9 i hmz; exact absurd hmz (Nat.not_lt_zero _)
                | succ n ih53 =>
                  intro q9 i hmz hi hq H locs hP hD hS ls hl
                  refine lv_iload hx hb dX5_isSame_53 (lv_at hl 0 rfl) ?_
                  refine lv_aload_n hx hb dX5_isSame_55 rfl (lv_at hl 10 rfl) ?_
                  refine va_get (D := G.1) (ci := 5) (v := .ref zp) (C := RX5) (T := TX5) (N := 5) hx hb hts kX5_isSame_1 hown hK hP 0 rfl rfl 4 (by decide) (hts _ kX5_isSame_2) (fun _ h9 => h9) rfl dX5_isSame_56 ?_
                  refine va_alen (v := nI np) hx hb hK hP 3 3 rfl rfl rfl dX5_isSame_59 ?_
                  refine kb_ge (tgt := 89) hx hb dX5_isSame_60 (by decide) (by omega) (by omega) (fun c_84 => ?_) (fun c_84 => ?_)
                  · have hq9 : q9 = mCnt (fun p => decide (0 < vLen (SS (h * 10 + k)) p)) np := by rw [hq, show i = np by omega]
                    refine lv_aload hx hb dX5_isSame_89 (lv_at hl 2 rfl) ?_
                    refine kp_alenf hx hb hK hP hmz_83 hfz_83 dX5_isSame_91 ?_
                    refine kb_le0 (tgt := 99) hx hb dX5_isSame_92 (by decide) (by omega) (fun c_85 => ?_) (fun c_85 => ?_)
                    · refine lv_iconst (v := (nI 0)) hx hb dX5_isSame_99 (by decide) ?_
                      refine lv_istore (lv' := [(11, .int (nI 0)), (10, .int (nI q9)), (9, .ref (rr h k)), (8, .int (nI k)), (7, .int (nI co9)), (6, .int (nI wa9)), (5, .int (nI h)), (4, .int (nI ag9)), (3, .int (nI le9)), (2, .int (nI nn)), (0, .ref zs), (1, .ref hM)]) hx hb dX5_isSame_100 hl (by decide) rfl (fun ls hl => ?_)
                      refine lv_aload_n hx hb dX5_isSame_102 rfl (lv_at hl 11 rfl) ?_
                      refine lv_iload hx hb dX5_isSame_103 (lv_at hl 6 rfl) ?_
                      refine lv_iload hx hb dX5_isSame_105 (lv_at hl 3 rfl) ?_
                      refine lv_iconst (v := (nI 0)) hx hb dX5_isSame_107 (by decide) ?_
                      refine vp_callSi (W.runV (As := [.int (nI h), .int (nI k), .int (nI 0)]) (rest := []) ⟨hx, hb, hml, hown, hts⟩ (c_X4_sheet_o l G hM nn np mi fs sn ln op SS ar ww M1 L1 f1 h k 0 hob hML hV (by omega) (by omega) (by omega) (by omega)) (cwV 3 hts gX5_isSame_X4_sheet rfl rfl rfl (by decide +kernel) ⟨Nat.le_of_ble_eq_true rfl, Nat.le_of_ble_eq_true rfl⟩) (kO_VR hob hML hK (hP.part (cx := []) [] rfl)) rfl rfl hl.1 rfl (lv_room (Nat.le_of_ble_eq_true rfl)) dX5_isSame_108 ⟨(show 176 * h + 24 * k + 0 ≤ 1300 from by omega), (show 1203 * h + 168 * k + 0 ≤ 9000 from by omega)⟩) (fun r_86 hr_86 => ?_)
                      rw [zS_sheet0 hvz_83, if_neg (by omega)] at hr_86
                      subst hr_86
                      refine lv_iload hx hb dX5_isSame_111 (lv_at hl 0 rfl) ?_
                      refine kb_eq0 (tgt := 123) hx hb dX5_isSame_113 (by decide) (by decide) (fun c_87 => ?_) (fun c_87 => ?_)
                      · refine lv_iconst (v := (-1)) hx hb dX5_isSame_123 (by decide) ?_
                        refine lv_icmp_ne (tgt := 175) hx hb dX5_isSame_124 (by decide) (fun c_88 => ?_) (fun c_88 => ?_)
                        · exfalso; exact absurd rfl c_88
                        · refine lv_aload_n hx hb dX5_isSame_127 rfl (lv_at hl 11 rfl) ?_
                          refine lv_iload hx hb dX5_isSame_128 (lv_at hl 6 rfl) ?_
                          refine lv_iload hx hb dX5_isSame_130 (lv_at hl 3 rfl) ?_
                          refine lv_iconst (v := (nI 1)) hx hb dX5_isSame_132 (by decide) ?_
                          refine vp_callSi (W.runV (As := [.int (nI h), .int (nI k), .int (nI 1)]) (rest := []) ⟨hx, hb, hml, hown, hts⟩ (c_X4_sheet_o l G hM nn np mi fs sn ln op SS ar ww M1 L1 f1 h k 1 hob hML hV (by omega) (by omega) (by omega) (by omega)) (cwV 3 hts gX5_isSame_X4_sheet rfl rfl rfl (by decide +kernel) ⟨Nat.le_of_ble_eq_true rfl, Nat.le_of_ble_eq_true rfl⟩) (kO_VR hob hML hK (hP.part (cx := []) [] rfl)) rfl rfl hl.1 rfl (lv_room (Nat.le_of_ble_eq_true rfl)) dX5_isSame_133 ⟨(show 176 * h + 24 * k + 0 ≤ 1300 from by omega), (show 1203 * h + 168 * k + 0 ≤ 9000 from by omega)⟩) (fun r_89 hr_89 => ?_)
                          rw [zS_sheet1 hvz_83, if_neg (by omega)] at hr_89
                          subst hr_89
                          refine lv_iload hx hb dX5_isSame_136 (lv_at hl 0 rfl) ?_
                          refine kb_eq0 (tgt := 148) hx hb dX5_isSame_138 (by decide) (by decide) (fun c_90 => ?_) (fun c_90 => ?_)
                          · refine lv_iconst (v := (-1)) hx hb dX5_isSame_148 (by decide) ?_
                            refine lv_icmp_ne (tgt := 175) hx hb dX5_isSame_149 (by decide) (fun c_91 => ?_) (fun c_91 => ?_)
                            · exfalso; exact absurd rfl c_91
                            · refine lv_aload_n hx hb dX5_isSame_152 rfl (lv_at hl 11 rfl) ?_
                              refine lv_iload hx hb dX5_isSame_153 (lv_at hl 6 rfl) ?_
                              refine lv_iload hx hb dX5_isSame_155 (lv_at hl 3 rfl) ?_
                              refine lv_iconst (v := (nI 2)) hx hb dX5_isSame_157 (by decide) ?_
                              refine vp_callSi (W.runV (As := [.int (nI h), .int (nI k), .int (nI 2)]) (rest := []) ⟨hx, hb, hml, hown, hts⟩ (c_X4_sheet_o l G hM nn np mi fs sn ln op SS ar ww M1 L1 f1 h k 2 hob hML hV (by omega) (by omega) (by omega) (by omega)) (cwV 3 hts gX5_isSame_X4_sheet rfl rfl rfl (by decide +kernel) ⟨Nat.le_of_ble_eq_true rfl, Nat.le_of_ble_eq_true rfl⟩) (kO_VR hob hML hK (hP.part (cx := []) [] rfl)) rfl rfl hl.1 rfl (lv_room (Nat.le_of_ble_eq_true rfl)) dX5_isSame_158 ⟨(show 176 * h + 24 * k + 0 ≤ 1300 from by omega), (show 1203 * h + 168 * k + 0 ≤ 9000 from by omega)⟩) (fun r_92 hr_92 => ?_)
                              rw [zS_sheet2 hV hvz_83, if_neg (by omega)] at hr_92
                              subst hr_92
                              refine lv_iload hx hb dX5_isSame_161 (lv_at hl 0 rfl) ?_
                              refine kb_eq0 (tgt := 171) hx hb dX5_isSame_163 (by decide) (by decide) (fun c_93 => ?_) (fun c_93 => ?_)
                              · refine lv_iconst (v := (-1)) hx hb dX5_isSame_171 (by decide) ?_
                                refine lv_icmp_eq (tgt := 177) hx hb dX5_isSame_172 (by decide) (fun c_94 => ?_) (fun c_94 => ?_)
                                · refine lv_iload hx hb dX5_isSame_177 (lv_at hl 7 rfl) ?_
                                  refine lv_iload hx hb dX5_isSame_179 (lv_at hl 0 rfl) ?_
                                  refine kb_eq0 (tgt := 191) hx hb dX5_isSame_181 (by decide) (by decide) (fun c_95 => ?_) (fun c_95 => ?_)
                                  · refine lv_iconst (v := (nI 0)) hx hb dX5_isSame_191 (by decide) ?_
                                    refine lv_iadd hx hb dX5_isSame_192 ?_
                                    refine kr_top (y := nI (ag9 + 0)) (nI_add ag9 0) ?_
                                    refine lv_istore (lv' := [(4, .int (nI (ag9 + 0))), (11, .int (nI 0)), (10, .int (nI q9)), (9, .ref (rr h k)), (8, .int (nI k)), (7, .int (nI co9)), (6, .int (nI wa9)), (5, .int (nI h)), (3, .int (nI le9)), (2, .int (nI nn)), (0, .ref zs), (1, .ref hM)]) hx hb dX5_isSame_193 hl (by decide) rfl (fun ls hl => ?_)
                                    exact hc_195 (ag9 + 0) (by rw [mSum_succ, zS_age hvz_83, if_neg (by omega), hag]; rfl) _ _ hP hD hS _ (lv_sub hl [4, 5, 6, 7, 0, 8, 9, 10, 11] rfl)
                                  · exfalso; omega
                                · exfalso; exact absurd rfl c_94
                              · exfalso; omega
                          · exfalso; omega
                      · exfalso; omega
                    · refine lv_iconst (v := (nI 1)) hx hb dX5_isSame_95 (by decide) ?_
                      refine lv_goto (tgt := 100) hx hb dX5_isSame_96 (by decide) ?_
                      refine lv_istore (lv' := [(11, .int (nI 1)), (10, .int (nI q9)), (9, .ref (rr h k)), (8, .int (nI k)), (7, .int (nI co9)), (6, .int (nI wa9)), (5, .int (nI h)), (4, .int (nI ag9)), (3, .int (nI le9)), (2, .int (nI nn)), (0, .ref zs), (1, .ref hM)]) hx hb dX5_isSame_100 hl (by decide) rfl (fun ls hl => ?_)
                      have hl2 := (zVal_s hvz_83 (by omega)).choose_spec.2.1
                      have hl3 := zVal_0 (show mi < 2 ^ 31 by omega) hvz_83 (by omega)
                      refine lv_aload_n hx hb dX5_isSame_102 rfl (lv_at hl 11 rfl) ?_
                      refine lv_iload hx hb dX5_isSame_103 (lv_at hl 6 rfl) ?_
                      refine lv_iload hx hb dX5_isSame_105 (lv_at hl 3 rfl) ?_
                      refine lv_iconst (v := (nI 0)) hx hb dX5_isSame_107 (by decide) ?_
                      refine vp_callSi (W.runV (As := [.int (nI h), .int (nI k), .int (nI 0)]) (rest := []) ⟨hx, hb, hml, hown, hts⟩ (c_X4_sheet_o l G hM nn np mi fs sn ln op SS ar ww M1 L1 f1 h k 0 hob hML hV (by omega) (by omega) (by omega) (by omega)) (cwV 3 hts gX5_isSame_X4_sheet rfl rfl rfl (by decide +kernel) ⟨Nat.le_of_ble_eq_true rfl, Nat.le_of_ble_eq_true rfl⟩) (kO_VR hob hML hK (hP.part (cx := []) [] rfl)) rfl rfl hl.1 rfl (lv_room (Nat.le_of_ble_eq_true rfl)) dX5_isSame_108 ⟨(show 176 * h + 24 * k + 0 ≤ 1300 from by omega), (show 1203 * h + 168 * k + 0 ≤ 9000 from by omega)⟩) (fun r_96 hr_96 => ?_)
                      rw [zS_sheet0 hvz_83, if_pos (by omega)] at hr_96
                      subst hr_96
                      refine lv_iload hx hb dX5_isSame_111 (lv_at hl 0 rfl) ?_
                      refine kb_eq0 (tgt := 123) hx hb dX5_isSame_113 (by decide) (by decide) (fun c_97 => ?_) (fun c_97 => ?_)
                      · exfalso; omega
                      · refine lv_aload hx hb dX5_isSame_116 (lv_at hl 2 rfl) ?_
                        refine lv_iconst (v := (nI 0)) hx hb dX5_isSame_118 (by decide) ?_
                        refine kp_ialf (k := 0) (v := (nI (gzz_83 0))) hx hb hK hP hmz_83 hfz_83 (by omega) (by omega) rfl dX5_isSame_119 ?_
                        refine lv_goto (tgt := 124) hx hb dX5_isSame_120 (by decide) ?_
                        refine kb_ne (tgt := 175) hx hb dX5_isSame_124 (by decide) (by omega) (by omega) (fun c_98 => ?_) (fun c_98 => ?_)
                        · exfalso; exact absurd rfl c_98
                        · refine lv_aload_n hx hb dX5_isSame_127 rfl (lv_at hl 11 rfl) ?_
                          refine lv_iload hx hb dX5_isSame_128 (lv_at hl 6 rfl) ?_
                          refine lv_iload hx hb dX5_isSame_130 (lv_at hl 3 rfl) ?_
                          refine lv_iconst (v := (nI 1)) hx hb dX5_isSame_132 (by decide) ?_
                          refine vp_callSi (W.runV (As := [.int (nI h), .int (nI k), .int (nI 1)]) (rest := []) ⟨hx, hb, hml, hown, hts⟩ (c_X4_sheet_o l G hM nn np mi fs sn ln op SS ar ww M1 L1 f1 h k 1 hob hML hV (by omega) (by omega) (by omega) (by omega)) (cwV 3 hts gX5_isSame_X4_sheet rfl rfl rfl (by decide +kernel) ⟨Nat.le_of_ble_eq_true rfl, Nat.le_of_ble_eq_true rfl⟩) (kO_VR hob hML hK (hP.part (cx := []) [] rfl)) rfl rfl hl.1 rfl (lv_room (Nat.le_of_ble_eq_true rfl)) dX5_isSame_133 ⟨(show 176 * h + 24 * k + 0 ≤ 1300 from by omega), (show 1203 * h + 168 * k + 0 ≤ 9000 from by omega)⟩) (fun r_99 hr_99 => ?_)
                          rw [zS_sheet1 hvz_83, if_pos (by omega)] at hr_99
                          subst hr_99
                          refine lv_iload hx hb dX5_isSame_136 (lv_at hl 0 rfl) ?_
                          refine kb_eq0 (tgt := 148) hx hb dX5_isSame_138 (by decide) (by decide) (fun c_100 => ?_) (fun c_100 => ?_)
                          · exfalso; omega
                          · refine lv_aload hx hb dX5_isSame_141 (lv_at hl 2 rfl) ?_
                            refine lv_iconst (v := (nI 1)) hx hb dX5_isSame_143 (by decide) ?_
                            refine kp_ialf (k := 1) (v := (nI (gzz_83 1))) hx hb hK hP hmz_83 hfz_83 (by omega) (by omega) rfl dX5_isSame_144 ?_
                            refine lv_goto (tgt := 149) hx hb dX5_isSame_145 (by decide) ?_
                            refine kb_ne (tgt := 175) hx hb dX5_isSame_149 (by decide) (by omega) (by omega) (fun c_101 => ?_) (fun c_101 => ?_)
                            · exfalso; exact absurd rfl c_101
                            · refine lv_aload_n hx hb dX5_isSame_152 rfl (lv_at hl 11 rfl) ?_
                              refine lv_iload hx hb dX5_isSame_153 (lv_at hl 6 rfl) ?_
                              refine lv_iload hx hb dX5_isSame_155 (lv_at hl 3 rfl) ?_
                              refine lv_iconst (v := (nI 2)) hx hb dX5_isSame_157 (by decide) ?_
                              refine vp_callSi (W.runV (As := [.int (nI h), .int (nI k), .int (nI 2)]) (rest := []) ⟨hx, hb, hml, hown, hts⟩ (c_X4_sheet_o l G hM nn np mi fs sn ln op SS ar ww M1 L1 f1 h k 2 hob hML hV (by omega) (by omega) (by omega) (by omega)) (cwV 3 hts gX5_isSame_X4_sheet rfl rfl rfl (by decide +kernel) ⟨Nat.le_of_ble_eq_true rfl, Nat.le_of_ble_eq_true rfl⟩) (kO_VR hob hML hK (hP.part (cx := []) [] rfl)) rfl rfl hl.1 rfl (lv_room (Nat.le_of_ble_eq_true rfl)) dX5_isSame_158 ⟨(show 176 * h + 24 * k + 0 ≤ 1300 from by omega), (show 1203 * h + 168 * k + 0 ≤ 9000 from by omega)⟩) (fun r_102 hr_102 => ?_)
                              rw [zS_sheet2 hV hvz_83, if_pos (by omega), ← hq9] at hr_102
                              subst hr_102
                              refine lv_iload hx hb dX5_isSame_161 (lv_at hl 0 rfl) ?_
                              refine kb_eq0 (tgt := 171) hx hb dX5_isSame_163 (by decide) (by decide) (fun c_103 => ?_) (fun c_103 => ?_)
                              · exfalso; omega
                              · refine lv_iload hx hb dX5_isSame_166 (lv_at hl 1 rfl) ?_
                                refine lv_goto (tgt := 172) hx hb dX5_isSame_168 (by decide) ?_
                                refine kb_eq (tgt := 177) hx hb dX5_isSame_172 (by decide) (by have := mCnt_le (fun p => decide (0 < vLen (SS (h * 10 + k)) p)) np; omega) (by have := mCnt_le (fun p => decide (0 < vLen (SS (h * 10 + k)) p)) np; omega) (fun c_104 => ?_) (fun c_104 => ?_)
                                · refine lv_iload hx hb dX5_isSame_177 (lv_at hl 7 rfl) ?_
                                  refine lv_iload hx hb dX5_isSame_179 (lv_at hl 0 rfl) ?_
                                  refine kb_eq0 (tgt := 191) hx hb dX5_isSame_181 (by decide) (by decide) (fun c_105 => ?_) (fun c_105 => ?_)
                                  · exfalso; omega
                                  · refine lv_aload hx hb dX5_isSame_184 (lv_at hl 2 rfl) ?_
                                    refine lv_iconst (v := (nI 1)) hx hb dX5_isSame_186 (by decide) ?_
                                    refine kp_ialf (k := 1) (v := (nI (gzz_83 1))) hx hb hK hP hmz_83 hfz_83 (by omega) (by omega) rfl dX5_isSame_187 ?_
                                    refine lv_goto (tgt := 192) hx hb dX5_isSame_188 (by decide) ?_
                                    refine lv_iadd hx hb dX5_isSame_192 ?_
                                    refine kr_top (y := nI (ag9 + (gzz_83 1))) (nI_add ag9 (gzz_83 1)) ?_
                                    refine lv_istore (lv' := [(4, .int (nI (ag9 + (gzz_83 1)))), (11, .int (nI 1)), (10, .int (nI q9)), (9, .ref (rr h k)), (8, .int (nI k)), (7, .int (nI co9)), (6, .int (nI wa9)), (5, .int (nI h)), (3, .int (nI le9)), (2, .int (nI nn)), (0, .ref zs), (1, .ref hM)]) hx hb dX5_isSame_193 hl (by decide) rfl (fun ls hl => ?_)
                                    exact hc_195 (ag9 + (gzz_83 1)) (by rw [mSum_succ, zS_age hvz_83, if_pos (by omega), hag]; omega) _ _ hP hD hS _ (lv_sub hl [4, 5, 6, 7, 0, 8, 9, 10, 11] rfl)
                                · exfalso; exact absurd rfl c_104
                  · refine lv_iload hx hb dX5_isSame_63 (lv_at hl 1 rfl) ?_
                    refine lv_aload hx hb dX5_isSame_65 (lv_at hl 2 rfl) ?_
                    refine lv_iload hx hb dX5_isSame_67 (lv_at hl 0 rfl) ?_
                    refine vp_callSi (W.runS (As := [.ref (rr h k), .int (nI i)]) (rest := [.int (nI q9)]) ⟨hx, hb, hml, hown, hts⟩ (c_X5_told l G (rr h k) lnz_83 gzz_83 i (by omega) (by omega)) (va_cwS 2 hts gX5_isSame_X5_told rfl rfl rfl (by decide +kernel) ⟨Nat.le_of_ble_eq_true rfl, Nat.le_of_ble_eq_true rfl⟩) (kPre_S (ws := [((rr h k), .inl (G.2 0, lnz_83, .inl (kI gzz_83)))]) hK (kp_one hP hmz_83 hfz_83)) rfl rfl hl.1 rfl (lv_room (Nat.le_of_ble_eq_true rfl)) dX5_isSame_69 ⟨(show 176 * h + 24 * k + 0 ≤ 1300 from by omega), (show 1203 * h + 168 * k + 0 ≤ 9000 from by omega)⟩) (fun r_106 hr_106 => ?_)
                    rw [zVal_told hvz_83] at hr_106
                    subst hr_106
                    refine kb_le0 (tgt := 79) hx hb dX5_isSame_72 (by decide) (by exact Nat.lt_trans (zVal_lt (by assumption)) (by decide)) (fun c_107 => ?_) (fun c_107 => ?_)
                    · have hd9 : decide (0 < vLen (SS (h * 10 + k)) i) = false := decide_eq_false (by omega)
                      refine lv_iconst (v := (nI 0)) hx hb dX5_isSame_79 (by decide) ?_
                      refine lv_iadd hx hb dX5_isSame_80 ?_
                      refine kr_top (y := nI (q9 + 0)) (nI_add q9 0) ?_
                      refine lv_istore (lv' := [(10, .int (nI (q9 + 0))), (11, .int (nI i)), (9, .ref (rr h k)), (8, .int (nI k)), (7, .int (nI co9)), (6, .int (nI wa9)), (5, .int (nI h)), (4, .int (nI ag9)), (3, .int (nI le9)), (2, .int (nI nn)), (0, .ref zs), (1, .ref hM)]) hx hb dX5_isSame_81 hl (by decide) rfl (fun ls hl => ?_)
                      refine lv_iinc (k := 1) (v := (nI (i + 1))) (lv' := [(11, .int (nI (i + 1))), (10, .int (nI (q9 + 0))), (9, .ref (rr h k)), (8, .int (nI k)), (7, .int (nI co9)), (6, .int (nI wa9)), (5, .int (nI h)), (4, .int (nI ag9)), (3, .int (nI le9)), (2, .int (nI nn)), (0, .ref zs), (1, .ref hM)]) hx hb dX5_isSame_83 hl rfl (kn_inc i) (by decide) rfl (fun ls hl => ?_)
                      refine lv_goto (tgt := 53) hx hb dX5_isSame_86 (by decide) ?_
                      exact ih53 (q9 + 0) (i + 1) (by omega) (by omega) (by rw [mCnt_f hd9, ← hq]; rfl) _ _ hP hD hS _ (lv_sub hl [0, 1, 2, 3, 4, 5, 6, 7, 8, 9, 10, 11] rfl)
                    · have hd9 : decide (0 < vLen (SS (h * 10 + k)) i) = true := decide_eq_true (by omega)
                      refine lv_iconst (v := (nI 1)) hx hb dX5_isSame_75 (by decide) ?_
                      refine lv_goto (tgt := 80) hx hb dX5_isSame_76 (by decide) ?_
                      refine lv_iadd hx hb dX5_isSame_80 ?_
                      refine kr_top (y := nI (q9 + 1)) (nI_add q9 1) ?_
                      refine lv_istore (lv' := [(10, .int (nI (q9 + 1))), (11, .int (nI i)), (9, .ref (rr h k)), (8, .int (nI k)), (7, .int (nI co9)), (6, .int (nI wa9)), (5, .int (nI h)), (4, .int (nI ag9)), (3, .int (nI le9)), (2, .int (nI nn)), (0, .ref zs), (1, .ref hM)]) hx hb dX5_isSame_81 hl (by decide) rfl (fun ls hl => ?_)
                      refine lv_iinc (k := 1) (v := (nI (i + 1))) (lv' := [(11, .int (nI (i + 1))), (10, .int (nI (q9 + 1))), (9, .ref (rr h k)), (8, .int (nI k)), (7, .int (nI co9)), (6, .int (nI wa9)), (5, .int (nI h)), (4, .int (nI ag9)), (3, .int (nI le9)), (2, .int (nI nn)), (0, .ref zs), (1, .ref hM)]) hx hb dX5_isSame_83 hl rfl (kn_inc i) (by decide) rfl (fun ls hl => ?_)
                      refine lv_goto (tgt := 53) hx hb dX5_isSame_86 (by decide) ?_
                      exact ih53 (q9 + 1) (i + 1) (by omega) (by omega) (by rw [mCnt_t hd9, ← hq]) _ _ hP hD hS _ (lv_sub hl [0, 1, 2, 3, 4, 5, 6, 7, 8, 9, 10, 11] rfl)
              exact hc_53 (_ + 1) 0 0 (Nat.lt_succ_self _) (by omega) (by rfl) _ _ hP hD hS _ (lv_sub hl [0, 1, 2, 3, 4, 5, 6, 7, 8, 9, 10, 11] rfl)
        refine W.widen (k := 176 * h + 24 * 0) (n := 1203 * h + 168 * 0) (by omega) (by omega) ?_
        exact hc_29 (_ + 1) 0 0 0 ag9 M1 L1 f1 (Nat.lt_succ_self _) (by omega) (by rfl) (by rfl) (by exact hag) (by exact hob) (by exact hML) (by exact hsm) _ _ hP hD hS _ (lv_sub hl [0, 1, 2, 3, 4, 5, 6, 7, 8] rfl)
  refine W.widen (k := 176 * 0) (n := 1203 * 0) (by omega) (by omega) ?_
  exact hc_14 (_ + 1) 0 0 0 M L f (Nat.lt_succ_self _) (by omega) (by rfl) (by rfl) (by exact hob) (by exact hML) (by exact hsm) _ _ hP hD hS _ (lv_sub hl [0, 1, 2, 3, 4, 5] rfl)
