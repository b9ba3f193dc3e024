theorem kX5_first_0 : Cond.constant RX5 54 (99999999) ∈ wsX5_first := by decide +kernel
theorem kX5_first_1 : Cond.fieldLink RX5 25 "PassNotesLaw$Sim" "passes" "[[I" ∈ wsX5_first := by decide +kernel
theorem kX5_first_2 : ∀ w ∈ wsX50, w ∈ wsX5_first := by decide +kernel
set_option maxHeartbeats 4000000 in
set_option maxRecDepth 100000 in
theorem c_X5_first (l : Launch) (G : kG) (sz : Nat) (zs za zw zq zp nn np mi : Nat) (L : List Nat) (f : Nat → va_E) (ro : Nat → Nat) (rr : Nat → Nat → Nat) (rp : Nat → Nat) (fs sn ln : Nat → Nat) (op : Nat → Bool) (SS : Nat → Option mS) (ar ww : Nat → Nat) (h to : Nat) (hrw : ∀ i, i < nn → ro i ∈ L ∧ f (ro i) = .inl (G.2 3, nn, .inr (.inr (.inr (.inr (kRn nn (rr i))))))) (hrr : ∀ i j, i < nn → j < nn → zRow G L f (rr i j) mi (SS (i * 10 + j))) (hrp : ∀ i, i < np → rp i ∈ L ∧ f (rp i) = .inl (G.2 0, 4, .inl (kI (zP fs sn ln op i)))) (hn7 : nn ≤ 7) (hnp : np ≤ 20) (hfs : ∀ j, fs j < 10) (hsn : ∀ j, sn j < 10) (hln : ∀ j, ln j < 100) (hen : ∀ j, j < np → fs j < nn ∧ sn j < nn) (hmi : mi < 2 ^ 31) (hh : h < nn) (hto : to < nn) : Met l yX5_first wsX5_first ({ frames := 4, cells := 1, slots := 7, locals := 93 }) (kPreM G ([(zs, .inr (5, [.int (nI mi), .ref za, .ref zw, .ref zq, .ref zp])), (za, .inl (G.2 0, nn, .inl (kI ar))), (zq, .inl (G.2 4, nn, .inr (.inr (.inr (.inr (kRn nn ro)))))), (zp, .inl (G.2 3, np, .inr (.inr (.inr (.inr (kRn np rp))))))] ++ va_pl L f) sz [.ref zs, .int (nI h), .int (nI to)]) (va_Qi (fun (r : Int32) (u : Unit) => r = (mOI (zFst (zStH SS fs sn h) fs sn np nn h to))) (fun (u : Unit) t => kA G (va_A ([(zs, .inr (5, [.int (nI mi), .ref za, .ref zw, .ref zq, .ref zp])), (za, .inl (G.2 0, nn, .inl (kI ar))), (zq, .inl (G.2 4, nn, .inr (.inr (.inr (.inr (kRn nn ro)))))), (zp, .inl (G.2 3, np, .inr (.inr (.inr (.inr (kRn np rp))))))] ++ va_pl L f) sz) ([(zs, .inr (5, [.int (nI mi), .ref za, .ref zw, .ref zq, .ref zp])), (za, .inl (G.2 0, nn, .inl (kI ar))), (zq, .inl (G.2 4, nn, .inr (.inr (.inr (.inr (kRn nn ro)))))), (zp, .inl (G.2 3, np, .inr (.inr (.inr (.inr (kRn np rp))))))] ++ va_pl L f) t) (va_A ([(zs, .inr (5, [.int (nI mi), .ref za, .ref zw, .ref zq, .ref zp])), (za, .inl (G.2 0, nn, .inl (kI ar))), (zq, .inl (G.2 4, nn, .inr (.inr (.inr (.inr (kRn nn ro)))))), (zp, .inl (G.2 3, np, .inr (.inr (.inr (.inr (kRn np rp))))))] ++ va_pl L f) sz)) 1 7 (va_A ([(zs, .inr (5, [.int (nI mi), .ref za, .ref zw, .ref zq, .ref zp])), (za, .inl (G.2 0, nn, .inl (kI ar))), (zq, .inl (G.2 4, nn, .inr (.inr (.inr (.inr (kRn nn ro)))))), (zp, .inl (G.2 3, np, .inr (.inr (.inr (.inr (kRn np rp))))))] ++ va_pl L f) sz) := by
  refine Met.ofW (cc := cX5_first) (maxL := 8) (ret := (some .int)) (by decide) rfl ?_
  intro p e s m args below meth c s₁ B hml hv
  obtain ⟨rfl, hsz, hP, hK, hD0⟩ := hv
  have hx := B.exec
  have hb := B.bytes
  have hr := B.returns
  have hts := atoms_spec (ws := wsX5_first) B.pre
  have hown : s.vm.findClass RX5 = some m.cls := findClass_of_methodNamed B.named
  have hlocks := B.notSynchronized
  have hK : va_K G.1 vwCl (kT G) s := hK
  subst hsz
  have hD := hD0.self (sz := s.heap.size)
  generalize hAe : va_A ([(zs, .inr (5, [.int (nI mi), .ref za, .ref zw, .ref zq, .ref zp])), (za, .inl (G.2 0, nn, .inl (kI ar))), (zq, .inl (G.2 4, nn, .inr (.inr (.inr (.inr (kRn nn ro)))))), (zp, .inl (G.2 3, np, .inr (.inr (.inr (.inr (kRn np rp))))))] ++ va_pl L f) s.heap.size = A at hD ⊢
  have hA : ∀ q : Nat, s.heap.size ≤ q → A q := fun q h => by rw [← hAe]; exact Or.inr h
  have hS : va_S A s.heap s.heap [] := va_S.rf
  have hP : va_P G.1 vwCl ([(zs, .inr (5, [.int (nI mi), .ref za, .ref zw, .ref zq, .ref zp])), (za, .inl (G.2 0, nn, .inl (kI ar))), (zq, .inl (G.2 4, nn, .inr (.inr (.inr (.inr (kRn nn ro)))))), (zp, .inl (G.2 3, np, .inr (.inr (.inr (.inr (kRn np rp))))))] ++ va_pl L f) s.heap := hP
  have hl := lv_entry ([.ref zs, .int (nI h), .int (nI to)]) (n := 8) (Nat.le_of_ble_eq_true rfl)
  rw [lg_entry_eq]
  generalize (lg_sl ([.ref zs, .int (nI h), .int (nI to)]) ++ List.replicate (8 - (lg_sl ([.ref zs, .int (nI h), .int (nI to)])).length) Slot.unset).toArray = ls at hl ⊢
  have hl : lv_has ls 8 [(0, .ref zs), (1, .int (nI h)), (2, .int (nI to))] := hl
  refine lv_iload_n hx hb dX5_first_0 rfl (lv_at hl 1 rfl) ?_
  refine lv_iload_n hx hb dX5_first_1 rfl (lv_at hl 2 rfl) ?_
  refine kb_ne (tgt := 7) hx hb dX5_first_2 (by decide) (by omega) (by omega) (fun c_1 => ?_) (fun c_1 => ?_)
  · have hne := c_1
    refine lv_aload_n hx hb dX5_first_7 rfl (lv_at hl 0 rfl) ?_
    refine lv_iload_n hx hb dX5_first_8 rfl (lv_at hl 1 rfl) ?_
    refine lv_iload_n hx hb dX5_first_9 rfl (lv_at hl 2 rfl) ?_
    have hPc : va_P G.1 vwCl ([(zs, .inr (5, [.int (nI mi), .ref za, .ref zw, .ref zq, .ref zp])), (za, .inl (G.2 0, nn, .inl (kI ar))), (zq, .inl (G.2 4, nn, .inr (.inr (.inr (.inr (kRn nn ro)))))), (zp, .inl (G.2 3, np, .inr (.inr (.inr (.inr (kRn np rp))))))] ++ va_pl L f) _ := hP.part (cx := [(zs, .inr (5, [.int (nI mi), .ref za, .ref zw, .ref zq, .ref zp])), (za, .inl (G.2 0, nn, .inl (kI ar))), (zq, .inl (G.2 4, nn, .inr (.inr (.inr (.inr (kRn nn ro)))))), (zp, .inl (G.2 3, np, .inr (.inr (.inr (.inr (kRn np rp))))))]) [0, 1, 2, 3] rfl
    have hDc : va_D A ([(zs, .inr (5, [.int (nI mi), .ref za, .ref zw, .ref zq, .ref zp])), (za, .inl (G.2 0, nn, .inl (kI ar))), (zq, .inl (G.2 4, nn, .inr (.inr (.inr (.inr (kRn nn ro)))))), (zp, .inl (G.2 3, np, .inr (.inr (.inr (.inr (kRn np rp))))))] ++ va_pl L f) := hD.part (cx := [(zs, .inr (5, [.int (nI mi), .ref za, .ref zw, .ref zq, .ref zp])), (za, .inl (G.2 0, nn, .inl (kI ar))), (zq, .inl (G.2 4, nn, .inr (.inr (.inr (.inr (kRn nn ro)))))), (zp, .inl (G.2 3, np, .inr (.inr (.inr (.inr (kRn np rp))))))]) [0, 1, 2, 3] (by decide) rfl
    have hFc : ∀ zq9 : Nat, va_A ([(zs, .inr (5, [.int (nI mi), .ref za, .ref zw, .ref zq, .ref zp])), (za, .inl (G.2 0, nn, .inl (kI ar))), (zq, .inl (G.2 4, nn, .inr (.inr (.inr (.inr (kRn nn ro)))))), (zp, .inl (G.2 3, np, .inr (.inr (.inr (.inr (kRn np rp))))))] ++ va_pl L f) _ zq9 → A zq9 := va_freeP (cx := [(zs, .inr (5, [.int (nI mi), .ref za, .ref zw, .ref zq, .ref zp])), (za, .inl (G.2 0, nn, .inl (kI ar))), (zq, .inl (G.2 4, nn, .inr (.inr (.inr (.inr (kRn nn ro)))))), (zp, .inl (G.2 3, np, .inr (.inr (.inr (.inr (kRn np rp))))))]) hD hS hA [0, 1, 2, 3] rfl
    refine va_callr (va_runV (As := [.int (nI h), .int (nI to)]) (rest := []) ⟨hx, hb, hml, hown, hts⟩ (c_X5_far l G _ zs za zw zq zp nn np mi L f ro rr rp fs sn ln op SS ar ww h to hrw hrr hrp (by omega) (by omega) hfs hsn hln hen (by omega) (by omega) (by omega)) (cwV 2 hts gX5_first_X5_far rfl rfl rfl (by decide +kernel) ⟨Nat.le_of_ble_eq_true rfl, Nat.le_of_ble_eq_true rfl⟩) (kPreM_V (ws := ([(zs, .inr (5, [.int (nI mi), .ref za, .ref zw, .ref zq, .ref zp])), (za, .inl (G.2 0, nn, .inl (kI ar))), (zq, .inl (G.2 4, nn, .inr (.inr (.inr (.inr (kRn nn ro)))))), (zp, .inl (G.2 3, np, .inr (.inr (.inr (.inr (kRn np rp))))))] ++ va_pl L f)) hK hPc hDc (RX5, TX5, 5) 0 rfl rfl) rfl rfl hl.1 rfl (lv_room (Nat.le_of_ble_eq_true rfl)) dX5_first_10 ⟨Nat.le_of_ble_eq_true rfl, Nat.le_of_ble_eq_true rfl⟩) hS (fun q _ h => hFc q h) hFc (fun u r_2 t H1 locs ht hvm hw hB hz1 hk1 hS => ?_)
    obtain ⟨hP1, hD1⟩ := hB
    rw [ht] at hP1
    try dsimp only at hw hP1 hD1
    obtain ⟨hP, hD⟩ := va_joinP (cx := [(zs, .inr (5, [.int (nI mi), .ref za, .ref zw, .ref zq, .ref zp])), (za, .inl (G.2 0, nn, .inl (kI ar))), (zq, .inl (G.2 4, nn, .inr (.inr (.inr (.inr (kRn nn ro)))))), (zp, .inl (G.2 3, np, .inr (.inr (.inr (.inr (kRn np rp))))))]) (wr := []) (rx := [(zs, .inr (5, [.int (nI mi), .ref za, .ref zw, .ref zq, .ref zp])), (za, .inl (G.2 0, nn, .inl (kI ar))), (zq, .inl (G.2 4, nn, .inr (.inr (.inr (.inr (kRn nn ro)))))), (zp, .inl (G.2 3, np, .inr (.inr (.inr (.inr (kRn np rp)))))), (r_2, .inl (G.2 0, nn, .inl (kI (zFar (zStH SS fs sn h) fs sn np nn to))))]) hP hD [0, 1, 2, 3] [] rfl rfl (by decide) (by decide) hk1 hFc hP1 hD1
    clear hPc hDc hFc hP1 hD1 hk1 hz1 ht
    skip
    generalize H1 = H at hP hS ⊢
    have hP : va_P G.1 vwCl ([(zs, .inr (5, [.int (nI mi), .ref za, .ref zw, .ref zq, .ref zp])), (za, .inl (G.2 0, nn, .inl (kI ar))), (zq, .inl (G.2 4, nn, .inr (.inr (.inr (.inr (kRn nn ro)))))), (zp, .inl (G.2 3, np, .inr (.inr (.inr (.inr (kRn np rp)))))), (r_2, .inl (G.2 0, nn, .inl (kI (zFar (zStH SS fs sn h) fs sn np nn to))))] ++ va_pl L f) H := hP
    have hD : va_D A ([(zs, .inr (5, [.int (nI mi), .ref za, .ref zw, .ref zq, .ref zp])), (za, .inl (G.2 0, nn, .inl (kI ar))), (zq, .inl (G.2 4, nn, .inr (.inr (.inr (.inr (kRn nn ro)))))), (zp, .inl (G.2 3, np, .inr (.inr (.inr (.inr (kRn np rp)))))), (r_2, .inl (G.2 0, nn, .inl (kI (zFar (zStH SS fs sn h) fs sn np nn to))))] ++ va_pl L f) := hD
    refine W.widen (k := 1) (n := 7) (Nat.le_of_ble_eq_true rfl) (Nat.le_of_ble_eq_true rfl) ?_
    have hw_3 := hw
    refine lv_astore_n (lv' := [(3, .ref r_2), (0, .ref zs), (1, .int (nI h)), (2, .int (nI to))]) hx hb dX5_first_13 rfl hl (by decide) rfl (fun ls hl => ?_)
    refine lv_iconst (v := (-1)) hx hb dX5_first_14 (by decide) ?_
    refine lv_istore (lv' := [(4, .int (-1)), (3, .ref r_2), (0, .ref zs), (1, .int (nI h)), (2, .int (nI to))]) hx hb dX5_first_15 hl (by decide) rfl (fun ls hl => ?_)
    have hfh := zFar_le (st := (zStH SS fs sn h)) (fs := fs) (sn := sn) (np := np) (to := to) hh
    refine lv_aload_n hx hb dX5_first_17 rfl (lv_at hl 1 rfl) ?_
    refine lv_iload_n hx hb dX5_first_18 rfl (lv_at hl 3 rfl) ?_
    refine kr_iald (k := h) (v := (nI ((zFar (zStH SS fs sn h) fs sn np nn to) h))) hx hb hK hP 4 0 rfl rfl (by omega) (by omega) rfl dX5_first_19 ?_
    refine lv_ldc (v := (99999999)) hx hb hown (hts _ kX5_first_0) dX5_first_20 ?_
    refine kr_top (show ((99999999) : Int32) = nI 99999999 from by decide) ?_
    refine kb_lt (tgt := 28) hx hb dX5_first_22 (by decide) (by omega) (by decide) (fun c_4 => ?_) (fun c_4 => ?_)
    · have hlt := c_4
      refine lv_iconst (v := (nI 0)) hx hb dX5_first_28 (by decide) ?_
      refine lv_istore (lv' := [(5, .int (nI 0)), (4, .int (-1)), (3, .ref r_2), (0, .ref zs), (1, .int (nI h)), (2, .int (nI to))]) hx hb dX5_first_29 hl (by decide) rfl (fun ls hl => ?_)
      have hc_31 : ∀ (n : Nat) (i : Nat) (o : Option Nat), np - i < n → i ≤ np → o = zBst (zStH SS fs sn h) fs sn (zFar (zStH SS fs sn h) fs sn np nn to) h i → (∀ b, o = some b → b < nn) → ∀ (H : Heap) (locs : List Loc), va_P G.1 vwCl ([(zs, .inr (5, [.int (nI mi), .ref za, .ref zw, .ref zq, .ref zp])), (za, .inl (G.2 0, nn, .inl (kI ar))), (zq, .inl (G.2 4, nn, .inr (.inr (.inr (.inr (kRn nn ro)))))), (zp, .inl (G.2 3, np, .inr (.inr (.inr (.inr (kRn np rp)))))), (r_2, .inl (G.2 0, nn, .inl (kI (zFar (zStH SS fs sn h) fs sn np nn to))))] ++ va_pl L f) H → va_D A ([(zs, .inr (5, [.int (nI mi), .ref za, .ref zw, .ref zq, .ref zp])), (za, .inl (G.2 0, nn, .inl (kI ar))), (zq, .inl (G.2 4, nn, .inr (.inr (.inr (.inr (kRn nn ro)))))), (zp, .inl (G.2 3, np, .inr (.inr (.inr (.inr (kRn np rp)))))), (r_2, .inl (G.2 0, nn, .inl (kI (zFar (zStH SS fs sn h) fs sn np nn to))))] ++ va_pl L f) → va_S A s.heap H locs → ∀ (ls : Array Slot), lv_has ls 8 [(5, .int (nI i)), (4, .int (mOI o)), (3, .ref r_2), (0, .ref zs), (1, .int (nI h)), (2, .int (nI to))] → W p l e (headSpec wsX5_first ({ frames := 4, cells := 1, slots := 7, locals := 93 })).room s m [.ref zs, .int (nI h), .int (nI to)].toArray below meth c H locs 1 7 (MQ below (va_Qi (fun (r : Int32) (u : Unit) => r = (mOI (zFst (zStH SS fs sn h) fs sn np nn h to))) (fun (u : Unit) t => kA G A ([(zs, .inr (5, [.int (nI mi), .ref za, .ref zw, .ref zq, .ref zp])), (za, .inl (G.2 0, nn, .inl (kI ar))), (zq, .inl (G.2 4, nn, .inr (.inr (.inr (.inr (kRn nn ro)))))), (zp, .inl (G.2 3, np, .inr (.inr (.inr (.inr (kRn np rp))))))] ++ va_pl L f) t) A) [.ref zs, .int (nI h), .int (nI to)].toArray s 1 7 A) (F0 m 31 ls []) := by
        intro n
        induction n with
        | zero =>
          intro i o hmz; exact absurd hmz (Nat.not_lt_zero _)
        | succ n ih31 =>
          intro i o hmz hi ho hob H locs hP hD hS ls hl
          refine lv_iload hx hb dX5_first_31 (lv_at hl 0 rfl) ?_
          refine lv_aload_n hx hb dX5_first_33 rfl (lv_at hl 3 rfl) ?_
          refine va_get (D := G.1) (ci := 5) (v := .ref zp) (C := RX5) (T := TX5) (N := 5) hx hb hts kX5_first_2 hown hK hP 0 rfl rfl 4 (by decide) (hts _ kX5_first_1) (fun _ h9 => h9) rfl dX5_first_34 ?_
          refine va_alen (v := nI np) hx hb hK hP 3 3 rfl rfl rfl dX5_first_37 ?_
          refine kb_ge (tgt := 126) hx hb dX5_first_38 (by decide) (by omega) (by omega) (fun c_5 => ?_) (fun c_5 => ?_)
          · refine lv_iload hx hb dX5_first_126 (lv_at hl 1 rfl) ?_
            have hP9 : va_P G.1 vwCl ([(zs, .inr (5, [.int (nI mi), .ref za, .ref zw, .ref zq, .ref zp])), (za, .inl (G.2 0, nn, .inl (kI ar))), (zq, .inl (G.2 4, nn, .inr (.inr (.inr (.inr (kRn nn ro)))))), (zp, .inl (G.2 3, np, .inr (.inr (.inr (.inr (kRn np rp))))))] ++ va_pl L f) _ := hP.part (cx := [(zs, .inr (5, [.int (nI mi), .ref za, .ref zw, .ref zq, .ref zp])), (za, .inl (G.2 0, nn, .inl (kI ar))), (zq, .inl (G.2 4, nn, .inr (.inr (.inr (.inr (kRn nn ro)))))), (zp, .inl (G.2 3, np, .inr (.inr (.inr (.inr (kRn np rp))))))]) [0, 1, 2, 3] rfl
            have hD9 : va_D A ([(zs, .inr (5, [.int (nI mi), .ref za, .ref zw, .ref zq, .ref zp])), (za, .inl (G.2 0, nn, .inl (kI ar))), (zq, .inl (G.2 4, nn, .inr (.inr (.inr (.inr (kRn nn ro)))))), (zp, .inl (G.2 3, np, .inr (.inr (.inr (.inr (kRn np rp))))))] ++ va_pl L f) := hD.part (cx := [(zs, .inr (5, [.int (nI mi), .ref za, .ref zw, .ref zq, .ref zp])), (za, .inl (G.2 0, nn, .inl (kI ar))), (zq, .inl (G.2 4, nn, .inr (.inr (.inr (.inr (kRn nn ro)))))), (zp, .inl (G.2 3, np, .inr (.inr (.inr (.inr (kRn np rp))))))]) [0, 1, 2, 3] (by decide) rfl
            exact km_iret (v := (mOI o)) (post := fun (r : Int32) (u : Unit) => r = (mOI (zFst (zStH SS fs sn h) fs sn np nn h to))) (wo := fun (u : Unit) => ([(zs, .inr (5, [.int (nI mi), .ref za, .ref zw, .ref zq, .ref zp])), (za, .inl (G.2 0, nn, .inl (kI ar))), (zq, .inl (G.2 4, nn, .inr (.inr (.inr (.inr (kRn nn ro)))))), (zp, .inl (G.2 3, np, .inr (.inr (.inr (.inr (kRn np rp))))))] ++ va_pl L f)) () hx hb hr hlocks hS hP9 hD9 (by rw [zNx_some hne hlt, ho, show i = np by omega]) dX5_first_128
          · obtain ⟨o0, hoo⟩ : ∃ z, z = o := ⟨_, rfl⟩
            have ho0 := hoo.trans ho
            refine lv_iconst (v := (nI 0)) hx hb dX5_first_41 (by decide) ?_
            refine lv_istore (lv' := [(6, .int (nI 0)), (5, .int (nI i)), (4, .int (mOI o)), (3, .ref r_2), (0, .ref zs), (1, .int (nI h)), (2, .int (nI to))]) hx hb dX5_first_42 hl (by decide) rfl (fun ls hl => ?_)
            have hc_44 : ∀ (n : Nat) (sd : Nat) (o : Option Nat), 2 - sd < n → sd ≤ 2 → o = zBs (zStH SS fs sn h) fs sn (zFar (zStH SS fs sn h) fs sn np nn to) h i o0 sd → (∀ b, o = some b → b < nn) → ∀ (H : Heap) (locs : List Loc), va_P G.1 vwCl ([(zs, .inr (5, [.int (nI mi), .ref za, .ref zw, .ref zq, .ref zp])), (za, .inl (G.2 0, nn, .inl (kI ar))), (zq, .inl (G.2 4, nn, .inr (.inr (.inr (.inr (kRn nn ro)))))), (zp, .inl (G.2 3, np, .inr (.inr (.inr (.inr (kRn np rp)))))), (r_2, .inl (G.2 0, nn, .inl (kI (zFar (zStH SS fs sn h) fs sn np nn to))))] ++ va_pl L f) H → va_D A ([(zs, .inr (5, [.int (nI mi), .ref za, .ref zw, .ref zq, .ref zp])), (za, .inl (G.2 0, nn, .inl (kI ar))), (zq, .inl (G.2 4, nn, .inr (.inr (.inr (.inr (kRn nn ro)))))), (zp, .inl (G.2 3, np, .inr (.inr (.inr (.inr (kRn np rp)))))), (r_2, .inl (G.2 0, nn, .inl (kI (zFar (zStH SS fs sn h) fs sn np nn to))))] ++ va_pl L f) → va_S A s.heap H locs → ∀ (ls : Array Slot), lv_has ls 8 [(6, .int (nI sd)), (5, .int (nI i)), (4, .int (mOI o)), (3, .ref r_2), (0, .ref zs), (1, .int (nI h)), (2, .int (nI to))] → W p l e (headSpec wsX5_first ({ frames := 4, cells := 1, slots := 7, locals := 93 })).room s m [.ref zs, .int (nI h), .int (nI to)].toArray below meth c H locs 1 7 (MQ below (va_Qi (fun (r : Int32) (u : Unit) => r = (mOI (zFst (zStH SS fs sn h) fs sn np nn h to))) (fun (u : Unit) t => kA G A ([(zs, .inr (5, [.int (nI mi), .ref za, .ref zw, .ref zq, .ref zp])), (za, .inl (G.2 0, nn, .inl (kI ar))), (zq, .inl (G.2 4, nn, .inr (.inr (.inr (.inr (kRn nn ro)))))), (zp, .inl (G.2 3, np, .inr (.inr (.inr (.inr (kRn np rp))))))] ++ va_pl L f) t) A) [.ref zs, .int (nI h), .int (nI to)].toArray s 1 7 A) (F0 m 44 ls []) := by
              intro n
              induction n with
              | zero =>
                intro sd o hmz; exact absurd hmz (Nat.not_lt_zero _)
              | succ n ih44 =>
                intro sd o hmz hsd ho hob H locs hP hD hS ls hl
                refine lv_iload hx hb dX5_first_44 (lv_at hl 0 rfl) ?_
                refine lv_iconst (v := (nI 2)) hx hb dX5_first_46 (by decide) ?_
                refine kb_ge (tgt := 120) hx hb dX5_first_47 (by decide) (by omega) (by decide) (fun c_6 => ?_) (fun c_6 => ?_)
                · refine lv_iinc (k := 1) (v := (nI (i + 1))) (lv' := [(5, .int (nI (i + 1))), (6, .int (nI sd)), (4, .int (mOI o)), (3, .ref r_2), (0, .ref zs), (1, .int (nI h)), (2, .int (nI to))]) hx hb dX5_first_120 hl rfl (kn_inc i) (by decide) rfl (fun ls hl => ?_)
                  refine lv_goto (tgt := 31) hx hb dX5_first_123 (by decide) ?_
                  exact ih31 (i + 1) o (by omega) (by omega) (by rw [zBst_s, ho, ho0, show sd = 2 by omega]) (by exact hob) _ _ hP hD hS _ (lv_sub hl [0, 2, 3, 4, 5, 6] rfl)
                · have hei := hen i (by omega)
                  have hs9 : (zStH SS fs sn h) i sd ≤ 99999999 := zStH_le (fun k => by have := hen i (by omega); obtain ⟨_, len9, g9, _, hv9⟩ := hrr h (zEnd fs sn i k) (by omega) (by unfold zEnd; split <;> omega); exact zVal_lt hv9)
                  have hz1 : zEnd fs sn i sd < nn := by unfold zEnd; split <;> omega
                  have hz2 : zEnd fs sn i (1 - sd) < nn := by unfold zEnd; split <;> omega
                  have hf2 := zFar_le (st := (zStH SS fs sn h)) (fs := fs) (sn := sn) (np := np) (to := to) hz2
                  refine lv_aload_n hx hb dX5_first_50 rfl (lv_at hl 4 rfl) ?_
                  refine va_get (D := G.1) (ci := 5) (v := .ref zp) (C := RX5) (T := TX5) (N := 5) hx hb hts kX5_first_2 hown hK hP 0 rfl rfl 4 (by decide) (hts _ kX5_first_1) (fun _ h9 => h9) rfl dX5_first_51 ?_
                  refine lv_iload hx hb dX5_first_54 (lv_at hl 1 rfl) ?_
                  refine kr_aldA (k := i) (v := .ref (rp i)) hx hb hK hP 3 3 rfl rfl (by omega) (by omega) (kRn_at (by omega)) dX5_first_56 ?_
                  refine lv_iconst (v := (nI 1)) hx hb dX5_first_57 (by decide) ?_
                  refine lv_iload hx hb dX5_first_58 (lv_at hl 0 rfl) ?_
                  refine lv_isub hx hb dX5_first_60 ?_
                  refine kr_top (y := nI (1 - sd)) (pk_sub (by omega)) ?_
                  refine kp_ialf (k := (1 - sd)) (v := (nI (zEnd fs sn i (1 - sd)))) hx hb hK hP (hrp i (by omega)).1 (hrp i (by omega)).2 (by omega) (by decide) (congrArg nI (zP_end (by omega))) dX5_first_61 ?_
                  refine lv_istore (lv' := [(7, .int (nI (zEnd fs sn i (1 - sd)))), (6, .int (nI sd)), (5, .int (nI i)), (4, .int (mOI o)), (3, .ref r_2), (0, .ref zs), (1, .int (nI h)), (2, .int (nI to))]) hx hb dX5_first_62 hl (by decide) rfl (fun ls hl => ?_)
                  refine lv_aload_n hx hb dX5_first_64 rfl (lv_at hl 5 rfl) ?_
                  refine va_get (D := G.1) (ci := 5) (v := .ref zp) (C := RX5) (T := TX5) (N := 5) hx hb hts kX5_first_2 hown hK hP 0 rfl rfl 4 (by decide) (hts _ kX5_first_1) (fun _ h9 => h9) rfl dX5_first_65 ?_
                  refine lv_iload hx hb dX5_first_68 (lv_at hl 2 rfl) ?_
                  refine kr_aldA (k := i) (v := .ref (rp i)) hx hb hK hP 3 3 rfl rfl (by omega) (by omega) (kRn_at (by omega)) dX5_first_70 ?_
                  refine lv_iload hx hb dX5_first_71 (lv_at hl 1 rfl) ?_
                  refine kp_ialf (k := sd) (v := (nI (zEnd fs sn i sd))) hx hb hK hP (hrp i (by omega)).1 (hrp i (by omega)).2 (by omega) (by decide) (congrArg nI (zP_end (by omega))) dX5_first_73 ?_
                  refine lv_iload_n hx hb dX5_first_74 rfl (lv_at hl 6 rfl) ?_
                  refine kb_ne (tgt := 114) hx hb dX5_first_75 (by decide) (by omega) (by omega) (fun c_7 => ?_) (fun c_7 => ?_)
                  · have hq1 := c_7
                    refine lv_iinc (k := 1) (v := (nI (sd + 1))) (lv' := [(6, .int (nI (sd + 1))), (7, .int (nI (zEnd fs sn i (1 - sd)))), (5, .int (nI i)), (4, .int (mOI o)), (3, .ref r_2), (0, .ref zs), (1, .int (nI h)), (2, .int (nI to))]) hx hb dX5_first_114 hl rfl (kn_inc sd) (by decide) rfl (fun ls hl => ?_)
                    refine lv_goto (tgt := 44) hx hb dX5_first_117 (by decide) ?_
                    exact ih44 (sd + 1) o (by omega) (by omega) (by rw [zBs_s, ← ho, zBst1_a hq1]) (by exact hob) _ _ hP hD hS _ (lv_sub hl [0, 2, 3, 4, 5, 6, 7] rfl)
                  · have hq1 := c_7
                    refine lv_aload_n hx hb dX5_first_78 rfl (lv_at hl 5 rfl) ?_
                    refine lv_iload_n hx hb dX5_first_79 rfl (lv_at hl 6 rfl) ?_
                    refine lv_iload hx hb dX5_first_80 (lv_at hl 2 rfl) ?_
                    refine lv_iload hx hb dX5_first_82 (lv_at hl 1 rfl) ?_
                    refine vp_callSi (W.runV (As := [.int (nI h), .int (nI i), .int (nI sd)]) (rest := []) ⟨hx, hb, hml, hown, hts⟩ (c_X5_step l G zs za zw zq zp nn np mi L f ro rr rp fs sn ln op SS ar ww h i sd hrw hrr hrp (by omega) (by omega) hfs hsn hln hen (by omega) (by omega) (by omega) (by omega)) (cwV 3 hts gX5_first_X5_step rfl rfl rfl (by decide +kernel) ⟨Nat.le_of_ble_eq_true rfl, Nat.le_of_ble_eq_true rfl⟩) (kPre_V (ws := ([(zs, .inr (5, [.int (nI mi), .ref za, .ref zw, .ref zq, .ref zp])), (zq, .inl (G.2 4, nn, .inr (.inr (.inr (.inr (kRn nn ro)))))), (zp, .inl (G.2 3, np, .inr (.inr (.inr (.inr (kRn np rp))))))] ++ va_pl L f)) hK (hP.part (cx := [(zs, .inr (5, [.int (nI mi), .ref za, .ref zw, .ref zq, .ref zp])), (zq, .inl (G.2 4, nn, .inr (.inr (.inr (.inr (kRn nn ro)))))), (zp, .inl (G.2 3, np, .inr (.inr (.inr (.inr (kRn np rp))))))]) [0, 2, 3] rfl) (RX5, TX5, 5) 0 rfl rfl) rfl rfl hl.1 rfl (lv_room (Nat.le_of_ble_eq_true rfl)) dX5_first_84 ⟨Nat.le_of_ble_eq_true rfl, Nat.le_of_ble_eq_true rfl⟩) (fun r_8 hr_8 => ?_)
                    subst hr_8
                    refine lv_aload_n hx hb dX5_first_87 rfl (lv_at hl 4 rfl) ?_
                    refine lv_iload hx hb dX5_first_88 (lv_at hl 0 rfl) ?_
                    refine kr_iald (k := (zEnd fs sn i (1 - sd))) (v := (nI ((zFar (zStH SS fs sn h) fs sn np nn to) (zEnd fs sn i (1 - sd))))) hx hb hK hP 4 0 rfl rfl (by omega) (by omega) rfl dX5_first_90 ?_
                    refine lv_iadd hx hb dX5_first_91 ?_
                    refine kr_top (y := nI ((zStH SS fs sn h i sd) + ((zFar (zStH SS fs sn h) fs sn np nn to) (zEnd fs sn i (1 - sd))))) (nI_add (zStH SS fs sn h i sd) ((zFar (zStH SS fs sn h) fs sn np nn to) (zEnd fs sn i (1 - sd)))) ?_
                    refine lv_aload_n hx hb dX5_first_92 rfl (lv_at hl 4 rfl) ?_
                    refine lv_iload_n hx hb dX5_first_93 rfl (lv_at hl 6 rfl) ?_
                    refine kr_iald (k := h) (v := (nI ((zFar (zStH SS fs sn h) fs sn np nn to) h))) hx hb hK hP 4 0 rfl rfl (by omega) (by omega) rfl dX5_first_94 ?_
                    refine kb_ne (tgt := 114) hx hb dX5_first_95 (by decide) (by omega) (by omega) (fun c_9 => ?_) (fun c_9 => ?_)
                    · have hq2 := c_9
                      refine lv_iinc (k := 1) (v := (nI (sd + 1))) (lv' := [(6, .int (nI (sd + 1))), (7, .int (nI (zEnd fs sn i (1 - sd)))), (5, .int (nI i)), (4, .int (mOI o)), (3, .ref r_2), (0, .ref zs), (1, .int (nI h)), (2, .int (nI to))]) hx hb dX5_first_114 hl rfl (kn_inc sd) (by decide) rfl (fun ls hl => ?_)
                      refine lv_goto (tgt := 44) hx hb dX5_first_117 (by decide) ?_
                      exact ih44 (sd + 1) o (by omega) (by omega) (by rw [zBs_s, ← ho, zBst1_b hq2]) (by exact hob) _ _ hP hD hS _ (lv_sub hl [0, 2, 3, 4, 5, 6, 7] rfl)
                    · have hq2 := c_9
                      refine lv_iload hx hb dX5_first_98 (lv_at hl 3 rfl) ?_
                      have hob2 : ∀ b, o = some b → b < 2 ^ 31 := fun b hb => Nat.lt_trans (hob b hb) (by omega)
                      refine lv_if_lt (tgt := 110) hx hb dX5_first_100 (by decide) (fun c_10 => ?_) (fun c_10 => ?_)
                      · have hon := mOI_none c_10 hob2
                        refine lv_iload hx hb dX5_first_110 (lv_at hl 0 rfl) ?_
                        refine lv_istore (lv' := [(4, .int (nI (zEnd fs sn i (1 - sd)))), (7, .int (nI (zEnd fs sn i (1 - sd)))), (6, .int (nI sd)), (5, .int (nI i)), (3, .ref r_2), (0, .ref zs), (1, .int (nI h)), (2, .int (nI to))]) hx hb dX5_first_112 hl (by decide) rfl (fun ls hl => ?_)
                        refine lv_iinc (k := 2) (v := (nI (sd + 1))) (lv' := [(6, .int (nI (sd + 1))), (4, .int (nI (zEnd fs sn i (1 - sd)))), (7, .int (nI (zEnd fs sn i (1 - sd)))), (5, .int (nI i)), (3, .ref r_2), (0, .ref zs), (1, .int (nI h)), (2, .int (nI to))]) hx hb dX5_first_114 hl rfl (kn_inc sd) (by decide) rfl (fun ls hl => ?_)
                        refine lv_goto (tgt := 44) hx hb dX5_first_117 (by decide) ?_
                        exact ih44 (sd + 1) (some (zEnd fs sn i (1 - sd))) (by omega) (by omega) (by rw [zBs_s, ← ho, zBst1_t hq1 hq2 (fun b hb => by rw [hon] at hb; cases hb)]) (by intro b hb; cases hb; exact hz2) _ _ hP hD hS _ (lv_sub hl [0, 3, 1, 4, 5, 6, 7] rfl)
                      · obtain ⟨b9, hb9, hb8⟩ := mOI_some c_10 hob2
                        refine lv_iload hx hb dX5_first_103 (lv_at hl 0 rfl) ?_
                        refine lv_iload hx hb dX5_first_105 (lv_at hl 3 rfl) ?_
                        refine lv_icmp_ge (tgt := 114) hx hb dX5_first_107 (by decide) (fun c_11 => ?_) (fun c_11 => ?_)
                        · have hle9 := (mOI_le hb9 (hob2 b9 hb9) (by omega)).mp c_11
                          refine lv_iinc (k := 1) (v := (nI (sd + 1))) (lv' := [(6, .int (nI (sd + 1))), (7, .int (nI (zEnd fs sn i (1 - sd)))), (5, .int (nI i)), (4, .int (mOI o)), (3, .ref r_2), (0, .ref zs), (1, .int (nI h)), (2, .int (nI to))]) hx hb dX5_first_114 hl rfl (kn_inc sd) (by decide) rfl (fun ls hl => ?_)
                          refine lv_goto (tgt := 44) hx hb dX5_first_117 (by decide) ?_
                          exact ih44 (sd + 1) o (by omega) (by omega) (by rw [zBs_s, ← ho, zBst1_c hb9 hle9]) (by exact hob) _ _ hP hD hS _ (lv_sub hl [0, 2, 3, 4, 5, 6, 7] rfl)
                        · have hle9 : ¬ b9 ≤ zEnd fs sn i (1 - sd) := fun z => c_11 ((mOI_le hb9 (hob2 b9 hb9) (by omega)).mpr z)
                          refine lv_iload hx hb dX5_first_110 (lv_at hl 0 rfl) ?_
                          refine lv_istore (lv' := [(4, .int (nI (zEnd fs sn i (1 - sd)))), (7, .int (nI (zEnd fs sn i (1 - sd)))), (6, .int (nI sd)), (5, .int (nI i)), (3, .ref r_2), (0, .ref zs), (1, .int (nI h)), (2, .int (nI to))]) hx hb dX5_first_112 hl (by decide) rfl (fun ls hl => ?_)
                          refine lv_iinc (k := 2) (v := (nI (sd + 1))) (lv' := [(6, .int (nI (sd + 1))), (4, .int (nI (zEnd fs sn i (1 - sd)))), (7, .int (nI (zEnd fs sn i (1 - sd)))), (5, .int (nI i)), (3, .ref r_2), (0, .ref zs), (1, .int (nI h)), (2, .int (nI to))]) hx hb dX5_first_114 hl rfl (kn_inc sd) (by decide) rfl (fun ls hl => ?_)
                          refine lv_goto (tgt := 44) hx hb dX5_first_117 (by decide) ?_
                          exact ih44 (sd + 1) (some (zEnd fs sn i (1 - sd))) (by omega) (by omega) (by rw [zBs_s, ← ho, zBst1_t hq1 hq2 (fun b hb => by rw [hb9] at hb; cases hb; omega)]) (by intro b hb; cases hb; exact hz2) _ _ hP hD hS _ (lv_sub hl [0, 3, 1, 4, 5, 6, 7] rfl)
            exact hc_44 (_ + 1) 0 o (Nat.lt_succ_self _) (by omega) (by exact hoo.symm) (by exact hob) _ _ hP hD hS _ (lv_sub hl [0, 1, 2, 3, 4, 5, 6] rfl)
      exact hc_31 (_ + 1) 0 none (Nat.lt_succ_self _) (by omega) (by rfl) (by intro b hb; cases hb) _ _ hP hD hS _ (lv_sub hl [0, 1, 2, 3, 4, 5] rfl)
    · have hge := c_4
      refine lv_iload hx hb dX5_first_25 (lv_at hl 0 rfl) ?_
      have hP9 : va_P G.1 vwCl ([(zs, .inr (5, [.int (nI mi), .ref za, .ref zw, .ref zq, .ref zp])), (za, .inl (G.2 0, nn, .inl (kI ar))), (zq, .inl (G.2 4, nn, .inr (.inr (.inr (.inr (kRn nn ro)))))), (zp, .inl (G.2 3, np, .inr (.inr (.inr (.inr (kRn np rp))))))] ++ va_pl L f) _ := hP.part (cx := [(zs, .inr (5, [.int (nI mi), .ref za, .ref zw, .ref zq, .ref zp])), (za, .inl (G.2 0, nn, .inl (kI ar))), (zq, .inl (G.2 4, nn, .inr (.inr (.inr (.inr (kRn nn ro)))))), (zp, .inl (G.2 3, np, .inr (.inr (.inr (.inr (kRn np rp))))))]) [0, 1, 2, 3] rfl
      have hD9 : va_D A ([(zs, .inr (5, [.int (nI mi), .ref za, .ref zw, .ref zq, .ref zp])), (za, .inl (G.2 0, nn, .inl (kI ar))), (zq, .inl (G.2 4, nn, .inr (.inr (.inr (.inr (kRn nn ro)))))), (zp, .inl (G.2 3, np, .inr (.inr (.inr (.inr (kRn np rp))))))] ++ va_pl L f) := hD.part (cx := [(zs, .inr (5, [.int (nI mi), .ref za, .ref zw, .ref zq, .ref zp])), (za, .inl (G.2 0, nn, .inl (kI ar))), (zq, .inl (G.2 4, nn, .inr (.inr (.inr (.inr (kRn nn ro)))))), (zp, .inl (G.2 3, np, .inr (.inr (.inr (.inr (kRn np rp))))))]) [0, 1, 2, 3] (by decide) rfl
      exact km_iret (v := (-1)) (post := fun (r : Int32) (u : Unit) => r = (mOI (zFst (zStH SS fs sn h) fs sn np nn h to))) (wo := fun (u : Unit) => ([(zs, .inr (5, [.int (nI mi), .ref za, .ref zw, .ref zq, .ref zp])), (za, .inl (G.2 0, nn, .inl (kI ar))), (zq, .inl (G.2 4, nn, .inr (.inr (.inr (.inr (kRn nn ro)))))), (zp, .inl (G.2 3, np, .inr (.inr (.inr (.inr (kRn np rp))))))] ++ va_pl L f)) () hx hb hr hlocks hS hP9 hD9 (by rw [zNx_none hne hge]; rfl) dX5_first_27
  · have heq := c_1
    refine lv_iload_n hx hb dX5_first_5 rfl (lv_at hl 1 rfl) ?_
    have hP9 : va_P G.1 vwCl ([(zs, .inr (5, [.int (nI mi), .ref za, .ref zw, .ref zq, .ref zp])), (za, .inl (G.2 0, nn, .inl (kI ar))), (zq, .inl (G.2 4, nn, .inr (.inr (.inr (.inr (kRn nn ro)))))), (zp, .inl (G.2 3, np, .inr (.inr (.inr (.inr (kRn np rp))))))] ++ va_pl L f) _ := hP.part (cx := [(zs, .inr (5, [.int (nI mi), .ref za, .ref zw, .ref zq, .ref zp])), (za, .inl (G.2 0, nn, .inl (kI ar))), (zq, .inl (G.2 4, nn, .inr (.inr (.inr (.inr (kRn nn ro)))))), (zp, .inl (G.2 3, np, .inr (.inr (.inr (.inr (kRn np rp))))))]) [0, 1, 2, 3] rfl
    have hD9 : va_D A ([(zs, .inr (5, [.int (nI mi), .ref za, .ref zw, .ref zq, .ref zp])), (za, .inl (G.2 0, nn, .inl (kI ar))), (zq, .inl (G.2 4, nn, .inr (.inr (.inr (.inr (kRn nn ro)))))), (zp, .inl (G.2 3, np, .inr (.inr (.inr (.inr (kRn np rp))))))] ++ va_pl L f) := hD.part (cx := [(zs, .inr (5, [.int (nI mi), .ref za, .ref zw, .ref zq, .ref zp])), (za, .inl (G.2 0, nn, .inl (kI ar))), (zq, .inl (G.2 4, nn, .inr (.inr (.inr (.inr (kRn nn ro)))))), (zp, .inl (G.2 3, np, .inr (.inr (.inr (.inr (kRn np rp))))))]) [0, 1, 2, 3] (by decide) rfl
    refine W.widen (k := 1) (n := 7) (Nat.le_of_ble_eq_true rfl) (Nat.le_of_ble_eq_true rfl) ?_
    exact km_iret (v := (nI h)) (post := fun (r : Int32) (u : Unit) => r = (mOI (zFst (zStH SS fs sn h) fs sn np nn h to))) (wo := fun (u : Unit) => ([(zs, .inr (5, [.int (nI mi), .ref za, .ref zw, .ref zq, .ref zp])), (za, .inl (G.2 0, nn, .inl (kI ar))), (zq, .inl (G.2 4, nn, .inr (.inr (.inr (.inr (kRn nn ro)))))), (zp, .inl (G.2 3, np, .inr (.inr (.inr (.inr (kRn np rp))))))] ++ va_pl L f)) () hx hb hr hlocks hS hP9 hD9 (by rw [zNx_self heq]; rfl) dX5_first_6
