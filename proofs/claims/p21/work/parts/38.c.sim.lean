theorem mJ_dec {fs sn : Nat → Nat} {op : Nat → Bool} {x y i : Nat} : mJoin fs sn op x y i = decide (op i = true ∧ ((fs i = x ∧ sn i = y) ∨ (fs i = y ∧ sn i = x))) := by
  unfold mJoin
  rw [Bool.eq_iff_iff]
  simp only [Bool.and_eq_true, Bool.or_eq_true, beq_iff_eq, decide_eq_true_iff]

theorem kX5_post_0 : Cond.fieldLink RX5 25 "PassNotesLaw$Sim" "passes" "[[I" ∈ wsX5_post := by decide +kernel
theorem kX5_post_1 : ∀ w ∈ wsX50, w ∈ wsX5_post := by decide +kernel
set_option maxHeartbeats 4000000 in
set_option maxRecDepth 100000 in
theorem c_X5_post (l : Launch) (G : kG) (sz : Nat) (zs za zw zq zp nn np mi : Nat) (L : List Nat) (f : Nat → va_E) (ro : Nat → Nat) (rr : Nat → Nat → Nat) (rp : Nat → Nat) (fs sn ln : Nat → Nat) (op : Nat → Bool) (SS : Nat → Option mS) (ar ww : Nat → Nat) (a b : Nat) (hrw : ∀ i, i < nn → ro i ∈ L ∧ f (ro i) = .inl (G.2 3, nn, .inr (.inr (.inr (.inr (kRn nn (rr i))))))) (hrr : ∀ i j, i < nn → j < nn → zRow G L f (rr i j) mi (SS (i * 10 + j))) (hrp : ∀ i, i < np → rp i ∈ L ∧ f (rp i) = .inl (G.2 0, 4, .inl (kI (zP fs sn ln op i)))) (hn7 : nn ≤ 7) (hnp : np ≤ 20) (hfs : ∀ j, fs j < 10) (hsn : ∀ j, sn j < 10) (hln : ∀ j, ln j < 100) (hen : ∀ j, j < np → fs j < nn ∧ sn j < nn) (hmi : mi < 2 ^ 31) (ha : a < nn) (hb2 : b < nn) : Met l yX5_post wsX5_post ({ frames := 5, cells := 21, slots := 147, locals := 120 }) (kPreM G ([(zs, .inr (5, [.int (nI mi), .ref za, .ref zw, .ref zq, .ref zp])), (za, .inl (G.2 0, nn, .inl (kI ar))), (zq, .inl (G.2 4, nn, .inr (.inr (.inr (.inr (kRn nn ro)))))), (zp, .inl (G.2 3, np, .inr (.inr (.inr (.inr (kRn np rp))))))] ++ va_pl L f) sz [.ref zs, .int (nI a), .int (nI b)]) (va_Qi (fun (r : Int32) (u : Unit) => r = (mOI (zLet (fun a b => zFst (zStH SS fs sn a) fs sn np nn a b) (mSt fs sn op np) b 21 0 a))) (fun (u : Unit) t => kA G (va_A ([(zs, .inr (5, [.int (nI mi), .ref za, .ref zw, .ref zq, .ref zp])), (za, .inl (G.2 0, nn, .inl (kI ar))), (zq, .inl (G.2 4, nn, .inr (.inr (.inr (.inr (kRn nn ro)))))), (zp, .inl (G.2 3, np, .inr (.inr (.inr (.inr (kRn np rp))))))] ++ va_pl L f) sz) ([(zs, .inr (5, [.int (nI mi), .ref za, .ref zw, .ref zq, .ref zp])), (za, .inl (G.2 0, nn, .inl (kI ar))), (zq, .inl (G.2 4, nn, .inr (.inr (.inr (.inr (kRn nn ro)))))), (zp, .inl (G.2 3, np, .inr (.inr (.inr (.inr (kRn np rp))))))] ++ va_pl L f) t) (va_A ([(zs, .inr (5, [.int (nI mi), .ref za, .ref zw, .ref zq, .ref zp])), (za, .inl (G.2 0, nn, .inl (kI ar))), (zq, .inl (G.2 4, nn, .inr (.inr (.inr (.inr (kRn nn ro)))))), (zp, .inl (G.2 3, np, .inr (.inr (.inr (.inr (kRn np rp))))))] ++ va_pl L f) sz)) 21 147 (va_A ([(zs, .inr (5, [.int (nI mi), .ref za, .ref zw, .ref zq, .ref zp])), (za, .inl (G.2 0, nn, .inl (kI ar))), (zq, .inl (G.2 4, nn, .inr (.inr (.inr (.inr (kRn nn ro)))))), (zp, .inl (G.2 3, np, .inr (.inr (.inr (.inr (kRn np rp))))))] ++ va_pl L f) sz) := by
  refine Met.ofW (cc := cX5_post) (maxL := 11) (ret := (some .int)) (by decide) rfl ?_
  intro p e s m args below meth c s₁ B hml hv
  obtain ⟨rfl, hsz, hP, hK, hD0⟩ := hv
  have hx := B.exec
  have hb := B.bytes
  have hr := B.returns
  have hts := atoms_spec (ws := wsX5_post) B.pre
  have hown : s.vm.findClass RX5 = some m.cls := findClass_of_methodNamed B.named
  have hlocks := B.notSynchronized
  have hK : va_K G.1 vwCl (kT G) s := hK
  subst hsz
  have hD := hD0.self (sz := s.heap.size)
  generalize hAe : va_A ([(zs, .inr (5, [.int (nI mi), .ref za, .ref zw, .ref zq, .ref zp])), (za, .inl (G.2 0, nn, .inl (kI ar))), (zq, .inl (G.2 4, nn, .inr (.inr (.inr (.inr (kRn nn ro)))))), (zp, .inl (G.2 3, np, .inr (.inr (.inr (.inr (kRn np rp))))))] ++ va_pl L f) s.heap.size = A at hD ⊢
  have hA : ∀ q : Nat, s.heap.size ≤ q → A q := fun q h => by rw [← hAe]; exact Or.inr h
  have hS : va_S A s.heap s.heap [] := va_S.rf
  have hP : va_P G.1 vwCl ([(zs, .inr (5, [.int (nI mi), .ref za, .ref zw, .ref zq, .ref zp])), (za, .inl (G.2 0, nn, .inl (kI ar))), (zq, .inl (G.2 4, nn, .inr (.inr (.inr (.inr (kRn nn ro)))))), (zp, .inl (G.2 3, np, .inr (.inr (.inr (.inr (kRn np rp))))))] ++ va_pl L f) s.heap := hP
  have hl := lv_entry ([.ref zs, .int (nI a), .int (nI b)]) (n := 11) (Nat.le_of_ble_eq_true rfl)
  rw [lg_entry_eq]
  generalize (lg_sl ([.ref zs, .int (nI a), .int (nI b)]) ++ List.replicate (11 - (lg_sl ([.ref zs, .int (nI a), .int (nI b)])).length) Slot.unset).toArray = ls at hl ⊢
  have hl : lv_has ls 11 [(0, .ref zs), (1, .int (nI a)), (2, .int (nI b))] := hl
  refine lv_iload_n hx hb dX5_post_0 rfl (lv_at hl 1 rfl) ?_
  refine lv_istore_n (lv' := [(3, .int (nI a)), (0, .ref zs), (1, .int (nI a)), (2, .int (nI b))]) hx hb dX5_post_1 rfl hl (by decide) rfl (fun ls hl => ?_)
  refine lv_iconst (v := (nI 0)) hx hb dX5_post_2 (by decide) ?_
  refine lv_istore (lv' := [(4, .int (nI 0)), (3, .int (nI a)), (0, .ref zs), (1, .int (nI a)), (2, .int (nI b))]) hx hb dX5_post_3 hl (by decide) rfl (fun ls hl => ?_)
  have hc_5 : ∀ (n : Nat) (x k : Nat), 21 - k < n → k ≤ 21 → x < nn → zLet (fun a b => zFst (zStH SS fs sn a) fs sn np nn a b) (mSt fs sn op np) b (21 - k) k x = (zLet (fun a b => zFst (zStH SS fs sn a) fs sn np nn a b) (mSt fs sn op np) b 21 0 a) → ∀ (H : Heap) (locs : List Loc), va_P G.1 vwCl ([(zs, .inr (5, [.int (nI mi), .ref za, .ref zw, .ref zq, .ref zp])), (za, .inl (G.2 0, nn, .inl (kI ar))), (zq, .inl (G.2 4, nn, .inr (.inr (.inr (.inr (kRn nn ro)))))), (zp, .inl (G.2 3, np, .inr (.inr (.inr (.inr (kRn np rp))))))] ++ va_pl L f) H → va_D A ([(zs, .inr (5, [.int (nI mi), .ref za, .ref zw, .ref zq, .ref zp])), (za, .inl (G.2 0, nn, .inl (kI ar))), (zq, .inl (G.2 4, nn, .inr (.inr (.inr (.inr (kRn nn ro)))))), (zp, .inl (G.2 3, np, .inr (.inr (.inr (.inr (kRn np rp))))))] ++ va_pl L f) → va_S A s.heap H locs → ∀ (ls : Array Slot), lv_has ls 11 [(4, .int (nI k)), (3, .int (nI x)), (0, .ref zs), (1, .int (nI a)), (2, .int (nI b))] → W p l e (headSpec wsX5_post ({ frames := 5, cells := 21, slots := 147, locals := 120 })).room s m [.ref zs, .int (nI a), .int (nI b)].toArray below meth c H locs k (7 * k) (MQ below (va_Qi (fun (r : Int32) (u : Unit) => r = (mOI (zLet (fun a b => zFst (zStH SS fs sn a) fs sn np nn a b) (mSt fs sn op np) b 21 0 a))) (fun (u : Unit) t => kA G A ([(zs, .inr (5, [.int (nI mi), .ref za, .ref zw, .ref zq, .ref zp])), (za, .inl (G.2 0, nn, .inl (kI ar))), (zq, .inl (G.2 4, nn, .inr (.inr (.inr (.inr (kRn nn ro)))))), (zp, .inl (G.2 3, np, .inr (.inr (.inr (.inr (kRn np rp))))))] ++ va_pl L f) t) A) [.ref zs, .int (nI a), .int (nI b)].toArray s 21 147 A) (F0 m 5 ls []) := by
    intro n
    induction n with
    | zero =>
      intro x k hmz; exact absurd hmz (Nat.not_lt_zero _)
    | succ n ih5 =>
      intro x k hmz hk hx1 hle H locs hP hD hS ls hl
      refine lv_iload hx hb dX5_post_5 (lv_at hl 0 rfl) ?_
      refine lv_bipush (v := (nI 20)) hx hb dX5_post_7 (by decide) ?_
      refine kb_gt (tgt := 138) hx hb dX5_post_9 (by decide) (by omega) (by decide) (fun c_1 => ?_) (fun c_1 => ?_)
      · rw [show 21 - k = 0 by omega] at hle
        refine lv_iconst (v := (-1)) hx hb dX5_post_138 (by decide) ?_
        have hP9 : va_P G.1 vwCl ([(zs, .inr (5, [.int (nI mi), .ref za, .ref zw, .ref zq, .ref zp])), (za, .inl (G.2 0, nn, .inl (kI ar))), (zq, .inl (G.2 4, nn, .inr (.inr (.inr (.inr (kRn nn ro)))))), (zp, .inl (G.2 3, np, .inr (.inr (.inr (.inr (kRn np rp))))))] ++ va_pl L f) _ := hP.part (cx := [(zs, .inr (5, [.int (nI mi), .ref za, .ref zw, .ref zq, .ref zp])), (za, .inl (G.2 0, nn, .inl (kI ar))), (zq, .inl (G.2 4, nn, .inr (.inr (.inr (.inr (kRn nn ro)))))), (zp, .inl (G.2 3, np, .inr (.inr (.inr (.inr (kRn np rp))))))]) [0, 1, 2, 3] rfl
        have hD9 : va_D A ([(zs, .inr (5, [.int (nI mi), .ref za, .ref zw, .ref zq, .ref zp])), (za, .inl (G.2 0, nn, .inl (kI ar))), (zq, .inl (G.2 4, nn, .inr (.inr (.inr (.inr (kRn nn ro)))))), (zp, .inl (G.2 3, np, .inr (.inr (.inr (.inr (kRn np rp))))))] ++ va_pl L f) := hD.part (cx := [(zs, .inr (5, [.int (nI mi), .ref za, .ref zw, .ref zq, .ref zp])), (za, .inl (G.2 0, nn, .inl (kI ar))), (zq, .inl (G.2 4, nn, .inr (.inr (.inr (.inr (kRn nn ro)))))), (zp, .inl (G.2 3, np, .inr (.inr (.inr (.inr (kRn np rp))))))]) [0, 1, 2, 3] (by decide) rfl
        refine W.widen (k := 21) (n := 147) (by omega) (by omega) ?_
        exact km_iret (v := (-1)) (post := fun (r : Int32) (u : Unit) => r = (mOI (zLet (fun a b => zFst (zStH SS fs sn a) fs sn np nn a b) (mSt fs sn op np) b 21 0 a))) (wo := fun (u : Unit) => ([(zs, .inr (5, [.int (nI mi), .ref za, .ref zw, .ref zq, .ref zp])), (za, .inl (G.2 0, nn, .inl (kI ar))), (zq, .inl (G.2 4, nn, .inr (.inr (.inr (.inr (kRn nn ro)))))), (zp, .inl (G.2 3, np, .inr (.inr (.inr (.inr (kRn np rp))))))] ++ va_pl L f)) () hx hb hr hlocks hS hP9 hD9 (congrArg mOI hle) dX5_post_139
      · refine lv_iload_n hx hb dX5_post_12 rfl (lv_at hl 1 rfl) ?_
        refine lv_iload_n hx hb dX5_post_13 rfl (lv_at hl 4 rfl) ?_
        refine kb_ne (tgt := 20) hx hb dX5_post_14 (by decide) (by omega) (by omega) (fun c_2 => ?_) (fun c_2 => ?_)
        · have hne := c_2
          obtain ⟨k9, hk9⟩ : ∃ k9, 21 - k = k9 + 1 := ⟨20 - k, by omega⟩
          rw [hk9] at hle
          refine lv_aload_n hx hb dX5_post_20 rfl (lv_at hl 2 rfl) ?_
          refine lv_iload_n hx hb dX5_post_21 rfl (lv_at hl 1 rfl) ?_
          refine lv_iload_n hx hb dX5_post_22 rfl (lv_at hl 4 rfl) ?_
          have hPc : va_P G.1 vwCl ([(zs, .inr (5, [.int (nI mi), .ref za, .ref zw, .ref zq, .ref zp])), (za, .inl (G.2 0, nn, .inl (kI ar))), (zq, .inl (G.2 4, nn, .inr (.inr (.inr (.inr (kRn nn ro)))))), (zp, .inl (G.2 3, np, .inr (.inr (.inr (.inr (kRn np rp))))))] ++ va_pl L f) _ := hP.part (cx := [(zs, .inr (5, [.int (nI mi), .ref za, .ref zw, .ref zq, .ref zp])), (za, .inl (G.2 0, nn, .inl (kI ar))), (zq, .inl (G.2 4, nn, .inr (.inr (.inr (.inr (kRn nn ro)))))), (zp, .inl (G.2 3, np, .inr (.inr (.inr (.inr (kRn np rp))))))]) [0, 1, 2, 3] rfl
          have hDc : va_D A ([(zs, .inr (5, [.int (nI mi), .ref za, .ref zw, .ref zq, .ref zp])), (za, .inl (G.2 0, nn, .inl (kI ar))), (zq, .inl (G.2 4, nn, .inr (.inr (.inr (.inr (kRn nn ro)))))), (zp, .inl (G.2 3, np, .inr (.inr (.inr (.inr (kRn np rp))))))] ++ va_pl L f) := hD.part (cx := [(zs, .inr (5, [.int (nI mi), .ref za, .ref zw, .ref zq, .ref zp])), (za, .inl (G.2 0, nn, .inl (kI ar))), (zq, .inl (G.2 4, nn, .inr (.inr (.inr (.inr (kRn nn ro)))))), (zp, .inl (G.2 3, np, .inr (.inr (.inr (.inr (kRn np rp))))))]) [0, 1, 2, 3] (by decide) rfl
          have hFc : ∀ zq9 : Nat, va_A ([(zs, .inr (5, [.int (nI mi), .ref za, .ref zw, .ref zq, .ref zp])), (za, .inl (G.2 0, nn, .inl (kI ar))), (zq, .inl (G.2 4, nn, .inr (.inr (.inr (.inr (kRn nn ro)))))), (zp, .inl (G.2 3, np, .inr (.inr (.inr (.inr (kRn np rp))))))] ++ va_pl L f) _ zq9 → A zq9 := va_freeP (cx := [(zs, .inr (5, [.int (nI mi), .ref za, .ref zw, .ref zq, .ref zp])), (za, .inl (G.2 0, nn, .inl (kI ar))), (zq, .inl (G.2 4, nn, .inr (.inr (.inr (.inr (kRn nn ro)))))), (zp, .inl (G.2 3, np, .inr (.inr (.inr (.inr (kRn np rp))))))]) hD hS hA [0, 1, 2, 3] rfl
          refine va_calli (va_runV (As := [.int (nI x), .int (nI b)]) (rest := []) ⟨hx, hb, hml, hown, hts⟩ (c_X5_first l G _ zs za zw zq zp nn np mi L f ro rr rp fs sn ln op SS ar ww x b hrw hrr hrp (by omega) (by omega) hfs hsn hln hen (by omega) (by omega) (by omega)) (cwV 2 hts gX5_post_X5_first rfl rfl rfl (by decide +kernel) ⟨Nat.le_of_ble_eq_true rfl, Nat.le_of_ble_eq_true rfl⟩) (kPreM_V (ws := ([(zs, .inr (5, [.int (nI mi), .ref za, .ref zw, .ref zq, .ref zp])), (za, .inl (G.2 0, nn, .inl (kI ar))), (zq, .inl (G.2 4, nn, .inr (.inr (.inr (.inr (kRn nn ro)))))), (zp, .inl (G.2 3, np, .inr (.inr (.inr (.inr (kRn np rp))))))] ++ va_pl L f)) hK hPc hDc (RX5, TX5, 5) 0 rfl rfl) rfl rfl hl.1 rfl (lv_room (Nat.le_of_ble_eq_true rfl)) dX5_post_23 ⟨(show k + 1 ≤ 21 from by omega), (show 7 * k + 7 ≤ 147 from by omega)⟩) hS (fun q _ h => hFc q h) hFc (fun r_3 u t H1 locs ht hvm hw hB hz1 hk1 hS => ?_)
          obtain ⟨hP1, hD1⟩ := hB
          rw [ht] at hP1
          try dsimp only at hw hP1 hD1
          obtain ⟨hP, hD⟩ := va_joinP (cx := [(zs, .inr (5, [.int (nI mi), .ref za, .ref zw, .ref zq, .ref zp])), (za, .inl (G.2 0, nn, .inl (kI ar))), (zq, .inl (G.2 4, nn, .inr (.inr (.inr (.inr (kRn nn ro)))))), (zp, .inl (G.2 3, np, .inr (.inr (.inr (.inr (kRn np rp))))))]) (wr := []) (rx := [(zs, .inr (5, [.int (nI mi), .ref za, .ref zw, .ref zq, .ref zp])), (za, .inl (G.2 0, nn, .inl (kI ar))), (zq, .inl (G.2 4, nn, .inr (.inr (.inr (.inr (kRn nn ro)))))), (zp, .inl (G.2 3, np, .inr (.inr (.inr (.inr (kRn np rp))))))]) hP hD [0, 1, 2, 3] [] rfl rfl (by decide) (by decide) hk1 hFc hP1 hD1
          clear hPc hDc hFc hP1 hD1 hk1 hz1 ht
          skip
          generalize H1 = H at hP hS ⊢
          have hP : va_P G.1 vwCl ([(zs, .inr (5, [.int (nI mi), .ref za, .ref zw, .ref zq, .ref zp])), (za, .inl (G.2 0, nn, .inl (kI ar))), (zq, .inl (G.2 4, nn, .inr (.inr (.inr (.inr (kRn nn ro)))))), (zp, .inl (G.2 3, np, .inr (.inr (.inr (.inr (kRn np rp))))))] ++ va_pl L f) H := hP
          have hD : va_D A ([(zs, .inr (5, [.int (nI mi), .ref za, .ref zw, .ref zq, .ref zp])), (za, .inl (G.2 0, nn, .inl (kI ar))), (zq, .inl (G.2 4, nn, .inr (.inr (.inr (.inr (kRn nn ro)))))), (zp, .inl (G.2 3, np, .inr (.inr (.inr (.inr (kRn np rp))))))] ++ va_pl L f) := hD
          refine W.widen (k := k + 1) (n := 7 * k + 7) (Nat.le_refl _) (Nat.le_refl _) ?_
          have hw_4 := hw
          subst hw_4
          rcases hnx : zFst (zStH SS fs sn x) fs sn np nn x b with _ | y9
          · refine kr_top (show mOI none = (-1) from rfl) ?_
            refine lv_istore (lv' := [(5, .int (-1)), (4, .int (nI k)), (3, .int (nI x)), (0, .ref zs), (1, .int (nI a)), (2, .int (nI b))]) hx hb dX5_post_26 hl (by decide) rfl (fun ls hl => ?_)
            refine lv_iconst (v := (nI 0)) hx hb dX5_post_28 (by decide) ?_
            refine lv_istore (lv' := [(6, .int (nI 0)), (5, .int (-1)), (4, .int (nI k)), (3, .int (nI x)), (0, .ref zs), (1, .int (nI a)), (2, .int (nI b))]) hx hb dX5_post_29 hl (by decide) rfl (fun ls hl => ?_)
            refine lv_aload_n hx hb dX5_post_31 rfl (lv_at hl 4 rfl) ?_
            refine va_get (D := G.1) (ci := 5) (v := .ref zp) (C := RX5) (T := TX5) (N := 5) hx hb hts kX5_post_1 hown hK hP 0 rfl rfl 4 (by decide) (hts _ kX5_post_0) (fun _ h9 => h9) rfl dX5_post_32 ?_
            refine lv_astore (lv' := [(7, .ref zp), (6, .int (nI 0)), (5, .int (-1)), (4, .int (nI k)), (3, .int (nI x)), (0, .ref zs), (1, .int (nI a)), (2, .int (nI b))]) hx hb dX5_post_35 hl (by decide) rfl (fun ls hl => ?_)
            refine lv_aload hx hb dX5_post_37 (lv_at hl 0 rfl) ?_
            refine va_alen (v := nI np) hx hb hK hP 3 3 rfl rfl rfl dX5_post_39 ?_
            refine lv_istore (lv' := [(8, .int (nI np)), (7, .ref zp), (6, .int (nI 0)), (5, .int (-1)), (4, .int (nI k)), (3, .int (nI x)), (0, .ref zs), (1, .int (nI a)), (2, .int (nI b))]) hx hb dX5_post_40 hl (by decide) rfl (fun ls hl => ?_)
            refine lv_iconst (v := (nI 0)) hx hb dX5_post_42 (by decide) ?_
            refine lv_istore (lv' := [(9, .int (nI 0)), (8, .int (nI np)), (7, .ref zp), (6, .int (nI 0)), (5, .int (-1)), (4, .int (nI k)), (3, .int (nI x)), (0, .ref zs), (1, .int (nI a)), (2, .int (nI b))]) hx hb dX5_post_43 hl (by decide) rfl (fun ls hl => ?_)
            have hc_45 : ∀ (n : Nat) (i : Nat) (tt : Bool), np - i < n → i ≤ np → ∀ (H : Heap) (locs : List Loc), va_P G.1 vwCl ([(zs, .inr (5, [.int (nI mi), .ref za, .ref zw, .ref zq, .ref zp])), (za, .inl (G.2 0, nn, .inl (kI ar))), (zq, .inl (G.2 4, nn, .inr (.inr (.inr (.inr (kRn nn ro)))))), (zp, .inl (G.2 3, np, .inr (.inr (.inr (.inr (kRn np rp))))))] ++ va_pl L f) H → va_D A ([(zs, .inr (5, [.int (nI mi), .ref za, .ref zw, .ref zq, .ref zp])), (za, .inl (G.2 0, nn, .inl (kI ar))), (zq, .inl (G.2 4, nn, .inr (.inr (.inr (.inr (kRn nn ro)))))), (zp, .inl (G.2 3, np, .inr (.inr (.inr (.inr (kRn np rp))))))] ++ va_pl L f) → va_S A s.heap H locs → ∀ (ls : Array Slot), lv_has ls 11 [(9, .int (nI i)), (8, .int (nI np)), (7, .ref zp), (6, .int (bI tt)), (5, .int (-1)), (4, .int (nI k)), (3, .int (nI x)), (0, .ref zs), (1, .int (nI a)), (2, .int (nI b))] → W p l e (headSpec wsX5_post ({ frames := 5, cells := 21, slots := 147, locals := 120 })).room s m [.ref zs, .int (nI a), .int (nI b)].toArray below meth c H locs (k + 1) (7 * k + 7) (MQ below (va_Qi (fun (r : Int32) (u : Unit) => r = (mOI (zLet (fun a b => zFst (zStH SS fs sn a) fs sn np nn a b) (mSt fs sn op np) b 21 0 a))) (fun (u : Unit) t => kA G A ([(zs, .inr (5, [.int (nI mi), .ref za, .ref zw, .ref zq, .ref zp])), (za, .inl (G.2 0, nn, .inl (kI ar))), (zq, .inl (G.2 4, nn, .inr (.inr (.inr (.inr (kRn nn ro)))))), (zp, .inl (G.2 3, np, .inr (.inr (.inr (.inr (kRn np rp))))))] ++ va_pl L f) t) A) [.ref zs, .int (nI a), .int (nI b)].toArray s 21 147 A) (F0 m 45 ls []) := by
              intro n
              induction n with
              | zero =>
                intro i tt hmz; exact absurd hmz (Nat.not_lt_zero _)
              | succ n ih45 =>
                intro i tt hmz hi H locs hP hD hS ls hl
                refine lv_iload hx hb dX5_post_45 (lv_at hl 0 rfl) ?_
                refine lv_iload hx hb dX5_post_47 (lv_at hl 1 rfl) ?_
                refine kb_ge (tgt := 117) hx hb dX5_post_49 (by decide) (by omega) (by omega) (fun c_5 => ?_) (fun c_5 => ?_)
                · refine lv_iload hx hb dX5_post_117 (lv_at hl 4 rfl) ?_
                  refine lv_if_lt (tgt := 127) hx hb dX5_post_119 (by decide) (fun c_6 => ?_) (fun c_6 => ?_)
                  · have hle2 := (zLet_n (nx := (fun a b => zFst (zStH SS fs sn a) fs sn np nn a b)) (st := (mSt fs sn op np)) (n := k9) (k := k) hne hnx).symm.trans hle
                    refine lv_iconst (v := (-1)) hx hb dX5_post_127 (by decide) ?_
                    have hP9 : va_P G.1 vwCl ([(zs, .inr (5, [.int (nI mi), .ref za, .ref zw, .ref zq, .ref zp])), (za, .inl (G.2 0, nn, .inl (kI ar))), (zq, .inl (G.2 4, nn, .inr (.inr (.inr (.inr (kRn nn ro)))))), (zp, .inl (G.2 3, np, .inr (.inr (.inr (.inr (kRn np rp))))))] ++ va_pl L f) _ := hP.part (cx := [(zs, .inr (5, [.int (nI mi), .ref za, .ref zw, .ref zq, .ref zp])), (za, .inl (G.2 0, nn, .inl (kI ar))), (zq, .inl (G.2 4, nn, .inr (.inr (.inr (.inr (kRn nn ro)))))), (zp, .inl (G.2 3, np, .inr (.inr (.inr (.inr (kRn np rp))))))]) [0, 1, 2, 3] rfl
                    have hD9 : va_D A ([(zs, .inr (5, [.int (nI mi), .ref za, .ref zw, .ref zq, .ref zp])), (za, .inl (G.2 0, nn, .inl (kI ar))), (zq, .inl (G.2 4, nn, .inr (.inr (.inr (.inr (kRn nn ro)))))), (zp, .inl (G.2 3, np, .inr (.inr (.inr (.inr (kRn np rp))))))] ++ va_pl L f) := hD.part (cx := [(zs, .inr (5, [.int (nI mi), .ref za, .ref zw, .ref zq, .ref zp])), (za, .inl (G.2 0, nn, .inl (kI ar))), (zq, .inl (G.2 4, nn, .inr (.inr (.inr (.inr (kRn nn ro)))))), (zp, .inl (G.2 3, np, .inr (.inr (.inr (.inr (kRn np rp))))))]) [0, 1, 2, 3] (by decide) rfl
                    refine W.widen (k := 21) (n := 147) (by omega) (by omega) ?_
                    exact km_iret (v := (-1)) (post := fun (r : Int32) (u : Unit) => r = (mOI (zLet (fun a b => zFst (zStH SS fs sn a) fs sn np nn a b) (mSt fs sn op np) b 21 0 a))) (wo := fun (u : Unit) => ([(zs, .inr (5, [.int (nI mi), .ref za, .ref zw, .ref zq, .ref zp])), (za, .inl (G.2 0, nn, .inl (kI ar))), (zq, .inl (G.2 4, nn, .inr (.inr (.inr (.inr (kRn nn ro)))))), (zp, .inl (G.2 3, np, .inr (.inr (.inr (.inr (kRn np rp))))))] ++ va_pl L f)) () hx hb hr hlocks hS hP9 hD9 (congrArg mOI hle2) dX5_post_128
                  · exfalso; exact absurd (by decide) c_6
                · refine lv_aload hx hb dX5_post_52 (lv_at hl 2 rfl) ?_
                  refine lv_iload hx hb dX5_post_54 (lv_at hl 0 rfl) ?_
                  refine kr_aldA (k := i) (v := .ref (rp i)) hx hb hK hP 3 3 rfl rfl (by omega) (by omega) (kRn_at (by omega)) dX5_post_56 ?_
                  refine lv_astore (lv' := [(10, .ref (rp i)), (9, .int (nI i)), (8, .int (nI np)), (7, .ref zp), (6, .int (bI tt)), (5, .int (-1)), (4, .int (nI k)), (3, .int (nI x)), (0, .ref zs), (1, .int (nI a)), (2, .int (nI b))]) hx hb dX5_post_57 hl (by decide) rfl (fun ls hl => ?_)
                  have hei := hen i (by omega)
                  refine lv_iload hx hb dX5_post_59 (lv_at hl 4 rfl) ?_
                  refine lv_aload hx hb dX5_post_61 (lv_at hl 0 rfl) ?_
                  refine lv_iconst (v := (nI 3)) hx hb dX5_post_63 (by decide) ?_
                  refine kp_ialf (k := 3) (v := (bI (op i))) hx hb hK hP (hrp i (by omega)).1 (hrp i (by omega)).2 (by decide) (by decide) zP_3 dX5_post_64 ?_
                  refine lv_iconst (v := (nI 1)) hx hb dX5_post_65 (by decide) ?_
                  refine kb_ne1 (tgt := 107) hx hb dX5_post_66 (by decide) (fun c_7 => ?_) (fun c_7 => ?_)
                  · have hj66 := c_7
                    refine lv_iconst (v := (nI 0)) hx hb dX5_post_107 (by decide) ?_
                    refine lv_ior hx hb dX5_post_108 ?_
                    refine kr_top (y := bI (tt || false)) (kB_or tt false) ?_
                    refine lv_istore (lv' := [(6, .int (bI (tt || false))), (10, .ref (rp i)), (9, .int (nI i)), (8, .int (nI np)), (7, .ref zp), (5, .int (-1)), (4, .int (nI k)), (3, .int (nI x)), (0, .ref zs), (1, .int (nI a)), (2, .int (nI b))]) hx hb dX5_post_109 hl (by decide) rfl (fun ls hl => ?_)
                    refine lv_iinc (k := 2) (v := (nI (i + 1))) (lv' := [(9, .int (nI (i + 1))), (6, .int (bI (tt || false))), (10, .ref (rp i)), (8, .int (nI np)), (7, .ref zp), (5, .int (-1)), (4, .int (nI k)), (3, .int (nI x)), (0, .ref zs), (1, .int (nI a)), (2, .int (nI b))]) hx hb dX5_post_111 hl rfl (kn_inc i) (by decide) rfl (fun ls hl => ?_)
                    refine lv_goto (tgt := 45) hx hb dX5_post_114 (by decide) ?_
                    exact ih45 (i + 1) (tt || false) (by omega) (by omega) _ _ hP hD hS _ (lv_sub hl [0, 3, 4, 1, 5, 6, 7, 8, 9, 10] rfl)
                  · have hj66 := c_7
                    refine lv_aload hx hb dX5_post_69 (lv_at hl 0 rfl) ?_
                    refine lv_iconst (v := (nI 0)) hx hb dX5_post_71 (by decide) ?_
                    refine kp_ialf (k := 0) (v := (nI (fs i))) hx hb hK hP (hrp i (by omega)).1 (hrp i (by omega)).2 (by decide) (by decide) rfl dX5_post_72 ?_
                    refine lv_iload_n hx hb dX5_post_73 rfl (lv_at hl 7 rfl) ?_
                    refine kb_ne (tgt := 86) hx hb dX5_post_74 (by decide) (by omega) (by omega) (fun c_8 => ?_) (fun c_8 => ?_)
                    · have hj74 := c_8
                      refine lv_aload hx hb dX5_post_86 (lv_at hl 0 rfl) ?_
                      refine lv_iconst (v := (nI 1)) hx hb dX5_post_88 (by decide) ?_
                      refine kp_ialf (k := 1) (v := (nI (sn i))) hx hb hK hP (hrp i (by omega)).1 (hrp i (by omega)).2 (by decide) (by decide) rfl dX5_post_89 ?_
                      refine lv_iload_n hx hb dX5_post_90 rfl (lv_at hl 7 rfl) ?_
                      refine kb_ne (tgt := 107) hx hb dX5_post_91 (by decide) (by omega) (by omega) (fun c_9 => ?_) (fun c_9 => ?_)
                      · have hj91 := c_9
                        refine lv_iconst (v := (nI 0)) hx hb dX5_post_107 (by decide) ?_
                        refine lv_ior hx hb dX5_post_108 ?_
                        refine kr_top (y := bI (tt || false)) (kB_or tt false) ?_
                        refine lv_istore (lv' := [(6, .int (bI (tt || false))), (10, .ref (rp i)), (9, .int (nI i)), (8, .int (nI np)), (7, .ref zp), (5, .int (-1)), (4, .int (nI k)), (3, .int (nI x)), (0, .ref zs), (1, .int (nI a)), (2, .int (nI b))]) hx hb dX5_post_109 hl (by decide) rfl (fun ls hl => ?_)
                        refine lv_iinc (k := 2) (v := (nI (i + 1))) (lv' := [(9, .int (nI (i + 1))), (6, .int (bI (tt || false))), (10, .ref (rp i)), (8, .int (nI np)), (7, .ref zp), (5, .int (-1)), (4, .int (nI k)), (3, .int (nI x)), (0, .ref zs), (1, .int (nI a)), (2, .int (nI b))]) hx hb dX5_post_111 hl rfl (kn_inc i) (by decide) rfl (fun ls hl => ?_)
                        refine lv_goto (tgt := 45) hx hb dX5_post_114 (by decide) ?_
                        exact ih45 (i + 1) (tt || false) (by omega) (by omega) _ _ hP hD hS _ (lv_sub hl [0, 3, 4, 1, 5, 6, 7, 8, 9, 10] rfl)
                      · have hj91 := c_9
                        refine lv_aload hx hb dX5_post_94 (lv_at hl 0 rfl) ?_
                        refine lv_iconst (v := (nI 0)) hx hb dX5_post_96 (by decide) ?_
                        refine kp_ialf (k := 0) (v := (nI (fs i))) hx hb hK hP (hrp i (by omega)).1 (hrp i (by omega)).2 (by decide) (by decide) rfl dX5_post_97 ?_
                        refine lv_iload hx hb dX5_post_98 (lv_at hl 5 rfl) ?_
                        refine lv_icmp_ne (tgt := 107) hx hb dX5_post_100 (by decide) (fun c_10 => ?_) (fun c_10 => ?_)
                        · have hj100 := c_10
                          refine lv_iconst (v := (nI 0)) hx hb dX5_post_107 (by decide) ?_
                          refine lv_ior hx hb dX5_post_108 ?_
                          refine kr_top (y := bI (tt || false)) (kB_or tt false) ?_
                          refine lv_istore (lv' := [(6, .int (bI (tt || false))), (10, .ref (rp i)), (9, .int (nI i)), (8, .int (nI np)), (7, .ref zp), (5, .int (-1)), (4, .int (nI k)), (3, .int (nI x)), (0, .ref zs), (1, .int (nI a)), (2, .int (nI b))]) hx hb dX5_post_109 hl (by decide) rfl (fun ls hl => ?_)
                          refine lv_iinc (k := 2) (v := (nI (i + 1))) (lv' := [(9, .int (nI (i + 1))), (6, .int (bI (tt || false))), (10, .ref (rp i)), (8, .int (nI np)), (7, .ref zp), (5, .int (-1)), (4, .int (nI k)), (3, .int (nI x)), (0, .ref zs), (1, .int (nI a)), (2, .int (nI b))]) hx hb dX5_post_111 hl rfl (kn_inc i) (by decide) rfl (fun ls hl => ?_)
                          refine lv_goto (tgt := 45) hx hb dX5_post_114 (by decide) ?_
                          exact ih45 (i + 1) (tt || false) (by omega) (by omega) _ _ hP hD hS _ (lv_sub hl [0, 3, 4, 1, 5, 6, 7, 8, 9, 10] rfl)
                        · have hj100 := c_10
                          refine lv_iconst (v := (nI 1)) hx hb dX5_post_103 (by decide) ?_
                          refine lv_goto (tgt := 108) hx hb dX5_post_104 (by decide) ?_
                          refine lv_ior hx hb dX5_post_108 ?_
                          refine kr_top (y := bI (tt || true)) (kB_or tt true) ?_
                          refine lv_istore (lv' := [(6, .int (bI (tt || true))), (10, .ref (rp i)), (9, .int (nI i)), (8, .int (nI np)), (7, .ref zp), (5, .int (-1)), (4, .int (nI k)), (3, .int (nI x)), (0, .ref zs), (1, .int (nI a)), (2, .int (nI b))]) hx hb dX5_post_109 hl (by decide) rfl (fun ls hl => ?_)
                          refine lv_iinc (k := 2) (v := (nI (i + 1))) (lv' := [(9, .int (nI (i + 1))), (6, .int (bI (tt || true))), (10, .ref (rp i)), (8, .int (nI np)), (7, .ref zp), (5, .int (-1)), (4, .int (nI k)), (3, .int (nI x)), (0, .ref zs), (1, .int (nI a)), (2, .int (nI b))]) hx hb dX5_post_111 hl rfl (kn_inc i) (by decide) rfl (fun ls hl => ?_)
                          refine lv_goto (tgt := 45) hx hb dX5_post_114 (by decide) ?_
                          exact ih45 (i + 1) (tt || true) (by omega) (by omega) _ _ hP hD hS _ (lv_sub hl [0, 3, 4, 1, 5, 6, 7, 8, 9, 10] rfl)
                    · have hj74 := c_8
                      refine lv_aload hx hb dX5_post_77 (lv_at hl 0 rfl) ?_
                      refine lv_iconst (v := (nI 1)) hx hb dX5_post_79 (by decide) ?_
                      refine kp_ialf (k := 1) (v := (nI (sn i))) hx hb hK hP (hrp i (by omega)).1 (hrp i (by omega)).2 (by decide) (by decide) rfl dX5_post_80 ?_
                      refine lv_iload hx hb dX5_post_81 (lv_at hl 5 rfl) ?_
                      refine lv_icmp_eq (tgt := 103) hx hb dX5_post_83 (by decide) (fun c_11 => ?_) (fun c_11 => ?_)
                      · have hj83 := c_11
                        refine lv_iconst (v := (nI 1)) hx hb dX5_post_103 (by decide) ?_
                        refine lv_goto (tgt := 108) hx hb dX5_post_104 (by decide) ?_
                        refine lv_ior hx hb dX5_post_108 ?_
                        refine kr_top (y := bI (tt || true)) (kB_or tt true) ?_
                        refine lv_istore (lv' := [(6, .int (bI (tt || true))), (10, .ref (rp i)), (9, .int (nI i)), (8, .int (nI np)), (7, .ref zp), (5, .int (-1)), (4, .int (nI k)), (3, .int (nI x)), (0, .ref zs), (1, .int (nI a)), (2, .int (nI b))]) hx hb dX5_post_109 hl (by decide) rfl (fun ls hl => ?_)
                        refine lv_iinc (k := 2) (v := (nI (i + 1))) (lv' := [(9, .int (nI (i + 1))), (6, .int (bI (tt || true))), (10, .ref (rp i)), (8, .int (nI np)), (7, .ref zp), (5, .int (-1)), (4, .int (nI k)), (3, .int (nI x)), (0, .ref zs), (1, .int (nI a)), (2, .int (nI b))]) hx hb dX5_post_111 hl rfl (kn_inc i) (by decide) rfl (fun ls hl => ?_)
                        refine lv_goto (tgt := 45) hx hb dX5_post_114 (by decide) ?_
                        exact ih45 (i + 1) (tt || true) (by omega) (by omega) _ _ hP hD hS _ (lv_sub hl [0, 3, 4, 1, 5, 6, 7, 8, 9, 10] rfl)
                      · have hj83 := c_11
                        refine lv_aload hx hb dX5_post_86 (lv_at hl 0 rfl) ?_
                        refine lv_iconst (v := (nI 1)) hx hb dX5_post_88 (by decide) ?_
                        refine kp_ialf (k := 1) (v := (nI (sn i))) hx hb hK hP (hrp i (by omega)).1 (hrp i (by omega)).2 (by decide) (by decide) rfl dX5_post_89 ?_
                        refine lv_iload_n hx hb dX5_post_90 rfl (lv_at hl 7 rfl) ?_
                        refine kb_ne (tgt := 107) hx hb dX5_post_91 (by decide) (by omega) (by omega) (fun c_12 => ?_) (fun c_12 => ?_)
                        · have hj91 := c_12
                          refine lv_iconst (v := (nI 0)) hx hb dX5_post_107 (by decide) ?_
                          refine lv_ior hx hb dX5_post_108 ?_
                          refine kr_top (y := bI (tt || false)) (kB_or tt false) ?_
                          refine lv_istore (lv' := [(6, .int (bI (tt || false))), (10, .ref (rp i)), (9, .int (nI i)), (8, .int (nI np)), (7, .ref zp), (5, .int (-1)), (4, .int (nI k)), (3, .int (nI x)), (0, .ref zs), (1, .int (nI a)), (2, .int (nI b))]) hx hb dX5_post_109 hl (by decide) rfl (fun ls hl => ?_)
                          refine lv_iinc (k := 2) (v := (nI (i + 1))) (lv' := [(9, .int (nI (i + 1))), (6, .int (bI (tt || false))), (10, .ref (rp i)), (8, .int (nI np)), (7, .ref zp), (5, .int (-1)), (4, .int (nI k)), (3, .int (nI x)), (0, .ref zs), (1, .int (nI a)), (2, .int (nI b))]) hx hb dX5_post_111 hl rfl (kn_inc i) (by decide) rfl (fun ls hl => ?_)
                          refine lv_goto (tgt := 45) hx hb dX5_post_114 (by decide) ?_
                          exact ih45 (i + 1) (tt || false) (by omega) (by omega) _ _ hP hD hS _ (lv_sub hl [0, 3, 4, 1, 5, 6, 7, 8, 9, 10] rfl)
                        · have hj91 := c_12
                          refine lv_aload hx hb dX5_post_94 (lv_at hl 0 rfl) ?_
                          refine lv_iconst (v := (nI 0)) hx hb dX5_post_96 (by decide) ?_
                          refine kp_ialf (k := 0) (v := (nI (fs i))) hx hb hK hP (hrp i (by omega)).1 (hrp i (by omega)).2 (by decide) (by decide) rfl dX5_post_97 ?_
                          refine lv_iload hx hb dX5_post_98 (lv_at hl 5 rfl) ?_
                          refine lv_icmp_ne (tgt := 107) hx hb dX5_post_100 (by decide) (fun c_13 => ?_) (fun c_13 => ?_)
                          · have hj100 := c_13
                            refine lv_iconst (v := (nI 0)) hx hb dX5_post_107 (by decide) ?_
                            refine lv_ior hx hb dX5_post_108 ?_
                            refine kr_top (y := bI (tt || false)) (kB_or tt false) ?_
                            refine lv_istore (lv' := [(6, .int (bI (tt || false))), (10, .ref (rp i)), (9, .int (nI i)), (8, .int (nI np)), (7, .ref zp), (5, .int (-1)), (4, .int (nI k)), (3, .int (nI x)), (0, .ref zs), (1, .int (nI a)), (2, .int (nI b))]) hx hb dX5_post_109 hl (by decide) rfl (fun ls hl => ?_)
                            refine lv_iinc (k := 2) (v := (nI (i + 1))) (lv' := [(9, .int (nI (i + 1))), (6, .int (bI (tt || false))), (10, .ref (rp i)), (8, .int (nI np)), (7, .ref zp), (5, .int (-1)), (4, .int (nI k)), (3, .int (nI x)), (0, .ref zs), (1, .int (nI a)), (2, .int (nI b))]) hx hb dX5_post_111 hl rfl (kn_inc i) (by decide) rfl (fun ls hl => ?_)
                            refine lv_goto (tgt := 45) hx hb dX5_post_114 (by decide) ?_
                            exact ih45 (i + 1) (tt || false) (by omega) (by omega) _ _ hP hD hS _ (lv_sub hl [0, 3, 4, 1, 5, 6, 7, 8, 9, 10] rfl)
                          · have hj100 := c_13
                            refine lv_iconst (v := (nI 1)) hx hb dX5_post_103 (by decide) ?_
                            refine lv_goto (tgt := 108) hx hb dX5_post_104 (by decide) ?_
                            refine lv_ior hx hb dX5_post_108 ?_
                            refine kr_top (y := bI (tt || true)) (kB_or tt true) ?_
                            refine lv_istore (lv' := [(6, .int (bI (tt || true))), (10, .ref (rp i)), (9, .int (nI i)), (8, .int (nI np)), (7, .ref zp), (5, .int (-1)), (4, .int (nI k)), (3, .int (nI x)), (0, .ref zs), (1, .int (nI a)), (2, .int (nI b))]) hx hb dX5_post_109 hl (by decide) rfl (fun ls hl => ?_)
                            refine lv_iinc (k := 2) (v := (nI (i + 1))) (lv' := [(9, .int (nI (i + 1))), (6, .int (bI (tt || true))), (10, .ref (rp i)), (8, .int (nI np)), (7, .ref zp), (5, .int (-1)), (4, .int (nI k)), (3, .int (nI x)), (0, .ref zs), (1, .int (nI a)), (2, .int (nI b))]) hx hb dX5_post_111 hl rfl (kn_inc i) (by decide) rfl (fun ls hl => ?_)
                            refine lv_goto (tgt := 45) hx hb dX5_post_114 (by decide) ?_
                            exact ih45 (i + 1) (tt || true) (by omega) (by omega) _ _ hP hD hS _ (lv_sub hl [0, 3, 4, 1, 5, 6, 7, 8, 9, 10] rfl)
            exact hc_45 (_ + 1) 0 false (Nat.lt_succ_self _) (by omega) _ _ hP hD hS _ (lv_sub hl [0, 1, 2, 3, 4, 5, 6, 7, 8, 9] rfl)
          · refine kr_top (show mOI (some y9) = nI y9 from rfl) ?_
            have hy9 : y9 < nn := zFst_lt hx1 (fun p k hp => by have := hen p (by omega); unfold zEnd; split <;> omega) hnx
            refine lv_istore (lv' := [(5, .int (nI y9)), (4, .int (nI k)), (3, .int (nI x)), (0, .ref zs), (1, .int (nI a)), (2, .int (nI b))]) hx hb dX5_post_26 hl (by decide) rfl (fun ls hl => ?_)
            refine lv_iconst (v := (nI 0)) hx hb dX5_post_28 (by decide) ?_
            refine lv_istore (lv' := [(6, .int (nI 0)), (5, .int (nI y9)), (4, .int (nI k)), (3, .int (nI x)), (0, .ref zs), (1, .int (nI a)), (2, .int (nI b))]) hx hb dX5_post_29 hl (by decide) rfl (fun ls hl => ?_)
            refine lv_aload_n hx hb dX5_post_31 rfl (lv_at hl 4 rfl) ?_
            refine va_get (D := G.1) (ci := 5) (v := .ref zp) (C := RX5) (T := TX5) (N := 5) hx hb hts kX5_post_1 hown hK hP 0 rfl rfl 4 (by decide) (hts _ kX5_post_0) (fun _ h9 => h9) rfl dX5_post_32 ?_
            refine lv_astore (lv' := [(7, .ref zp), (6, .int (nI 0)), (5, .int (nI y9)), (4, .int (nI k)), (3, .int (nI x)), (0, .ref zs), (1, .int (nI a)), (2, .int (nI b))]) hx hb dX5_post_35 hl (by decide) rfl (fun ls hl => ?_)
            refine lv_aload hx hb dX5_post_37 (lv_at hl 0 rfl) ?_
            refine va_alen (v := nI np) hx hb hK hP 3 3 rfl rfl rfl dX5_post_39 ?_
            refine lv_istore (lv' := [(8, .int (nI np)), (7, .ref zp), (6, .int (nI 0)), (5, .int (nI y9)), (4, .int (nI k)), (3, .int (nI x)), (0, .ref zs), (1, .int (nI a)), (2, .int (nI b))]) hx hb dX5_post_40 hl (by decide) rfl (fun ls hl => ?_)
            refine lv_iconst (v := (nI 0)) hx hb dX5_post_42 (by decide) ?_
            refine lv_istore (lv' := [(9, .int (nI 0)), (8, .int (nI np)), (7, .ref zp), (6, .int (nI 0)), (5, .int (nI y9)), (4, .int (nI k)), (3, .int (nI x)), (0, .ref zs), (1, .int (nI a)), (2, .int (nI b))]) hx hb dX5_post_43 hl (by decide) rfl (fun ls hl => ?_)
            have hc_45 : ∀ (n : Nat) (i : Nat) (tt : Bool), np - i < n → i ≤ np → tt = mAny (mJoin fs sn op x y9) i → ∀ (H : Heap) (locs : List Loc), va_P G.1 vwCl ([(zs, .inr (5, [.int (nI mi), .ref za, .ref zw, .ref zq, .ref zp])), (za, .inl (G.2 0, nn, .inl (kI ar))), (zq, .inl (G.2 4, nn, .inr (.inr (.inr (.inr (kRn nn ro)))))), (zp, .inl (G.2 3, np, .inr (.inr (.inr (.inr (kRn np rp))))))] ++ va_pl L f) H → va_D A ([(zs, .inr (5, [.int (nI mi), .ref za, .ref zw, .ref zq, .ref zp])), (za, .inl (G.2 0, nn, .inl (kI ar))), (zq, .inl (G.2 4, nn, .inr (.inr (.inr (.inr (kRn nn ro)))))), (zp, .inl (G.2 3, np, .inr (.inr (.inr (.inr (kRn np rp))))))] ++ va_pl L f) → va_S A s.heap H locs → ∀ (ls : Array Slot), lv_has ls 11 [(9, .int (nI i)), (8, .int (nI np)), (7, .ref zp), (6, .int (bI tt)), (5, .int (nI y9)), (4, .int (nI k)), (3, .int (nI x)), (0, .ref zs), (1, .int (nI a)), (2, .int (nI b))] → W p l e (headSpec wsX5_post ({ frames := 5, cells := 21, slots := 147, locals := 120 })).room s m [.ref zs, .int (nI a), .int (nI b)].toArray below meth c H locs (k + 1) (7 * k + 7) (MQ below (va_Qi (fun (r : Int32) (u : Unit) => r = (mOI (zLet (fun a b => zFst (zStH SS fs sn a) fs sn np nn a b) (mSt fs sn op np) b 21 0 a))) (fun (u : Unit) t => kA G A ([(zs, .inr (5, [.int (nI mi), .ref za, .ref zw, .ref zq, .ref zp])), (za, .inl (G.2 0, nn, .inl (kI ar))), (zq, .inl (G.2 4, nn, .inr (.inr (.inr (.inr (kRn nn ro)))))), (zp, .inl (G.2 3, np, .inr (.inr (.inr (.inr (kRn np rp))))))] ++ va_pl L f) t) A) [.ref zs, .int (nI a), .int (nI b)].toArray s 21 147 A) (F0 m 45 ls []) := by
              intro n
              induction n with
              | zero =>
                intro i tt hmz; exact absurd hmz (Nat.not_lt_zero _)
              | succ n ih45 =>
                intro i tt hmz hi htt H locs hP hD hS ls hl
                refine lv_iload hx hb dX5_post_45 (lv_at hl 0 rfl) ?_
                refine lv_iload hx hb dX5_post_47 (lv_at hl 1 rfl) ?_
                refine kb_ge (tgt := 117) hx hb dX5_post_49 (by decide) (by omega) (by omega) (fun c_14 => ?_) (fun c_14 => ?_)
                · refine lv_iload hx hb dX5_post_117 (lv_at hl 4 rfl) ?_
                  refine kb_lt0 (tgt := 127) hx hb dX5_post_119 (by decide) (by omega) ?_
                  refine lv_iload hx hb dX5_post_122 (lv_at hl 3 rfl) ?_
                  refine kb_neb (tgt := 129) hx hb dX5_post_124 (by decide) (fun c_15 => ?_) (fun c_15 => ?_)
                  · have hst : mSt fs sn op np x y9 = true := by show mAny (mJoin fs sn op x y9) np = true; rw [show np = i by omega, ← htt]; exact c_15
                    refine lv_iload hx hb dX5_post_129 (lv_at hl 4 rfl) ?_
                    refine lv_istore_n (lv' := [(3, .int (nI y9)), (9, .int (nI i)), (8, .int (nI np)), (7, .ref zp), (6, .int (bI tt)), (5, .int (nI y9)), (4, .int (nI k)), (0, .ref zs), (1, .int (nI a)), (2, .int (nI b))]) hx hb dX5_post_131 rfl hl (by decide) rfl (fun ls hl => ?_)
                    refine lv_iinc (k := 6) (v := (nI (k + 1))) (lv' := [(4, .int (nI (k + 1))), (3, .int (nI y9)), (9, .int (nI i)), (8, .int (nI np)), (7, .ref zp), (6, .int (bI tt)), (5, .int (nI y9)), (0, .ref zs), (1, .int (nI a)), (2, .int (nI b))]) hx hb dX5_post_132 hl rfl (kn_inc k) (by decide) rfl (fun ls hl => ?_)
                    refine lv_goto (tgt := 5) hx hb dX5_post_135 (by decide) ?_
                    refine W.widen (k := (k + 1)) (n := 7 * (k + 1)) (by omega) (by omega) ?_
                    exact ih5 y9 (k + 1) (by omega) (by omega) (by exact hy9) (by rw [← hle, zLet_t (nx := (fun a b => zFst (zStH SS fs sn a) fs sn np nn a b)) hne hnx hst]; congr 1; omega) _ _ hP hD hS _ (lv_sub hl [0, 1, 7, 8, 9] rfl)
                  · have hst : mSt fs sn op np x y9 = false := by show mAny (mJoin fs sn op x y9) np = false; rw [show np = i by omega, ← htt]; exact c_15
                    have hle2 := (zLet_f (nx := (fun a b => zFst (zStH SS fs sn a) fs sn np nn a b)) (n := k9) (k := k) hne hnx hst).symm.trans hle
                    refine lv_iconst (v := (-1)) hx hb dX5_post_127 (by decide) ?_
                    have hP9 : va_P G.1 vwCl ([(zs, .inr (5, [.int (nI mi), .ref za, .ref zw, .ref zq, .ref zp])), (za, .inl (G.2 0, nn, .inl (kI ar))), (zq, .inl (G.2 4, nn, .inr (.inr (.inr (.inr (kRn nn ro)))))), (zp, .inl (G.2 3, np, .inr (.inr (.inr (.inr (kRn np rp))))))] ++ va_pl L f) _ := hP.part (cx := [(zs, .inr (5, [.int (nI mi), .ref za, .ref zw, .ref zq, .ref zp])), (za, .inl (G.2 0, nn, .inl (kI ar))), (zq, .inl (G.2 4, nn, .inr (.inr (.inr (.inr (kRn nn ro)))))), (zp, .inl (G.2 3, np, .inr (.inr (.inr (.inr (kRn np rp))))))]) [0, 1, 2, 3] rfl
                    have hD9 : va_D A ([(zs, .inr (5, [.int (nI mi), .ref za, .ref zw, .ref zq, .ref zp])), (za, .inl (G.2 0, nn, .inl (kI ar))), (zq, .inl (G.2 4, nn, .inr (.inr (.inr (.inr (kRn nn ro)))))), (zp, .inl (G.2 3, np, .inr (.inr (.inr (.inr (kRn np rp))))))] ++ va_pl L f) := hD.part (cx := [(zs, .inr (5, [.int (nI mi), .ref za, .ref zw, .ref zq, .ref zp])), (za, .inl (G.2 0, nn, .inl (kI ar))), (zq, .inl (G.2 4, nn, .inr (.inr (.inr (.inr (kRn nn ro)))))), (zp, .inl (G.2 3, np, .inr (.inr (.inr (.inr (kRn np rp))))))]) [0, 1, 2, 3] (by decide) rfl
                    refine W.widen (k := 21) (n := 147) (by omega) (by omega) ?_
                    exact km_iret (v := (-1)) (post := fun (r : Int32) (u : Unit) => r = (mOI (zLet (fun a b => zFst (zStH SS fs sn a) fs sn np nn a b) (mSt fs sn op np) b 21 0 a))) (wo := fun (u : Unit) => ([(zs, .inr (5, [.int (nI mi), .ref za, .ref zw, .ref zq, .ref zp])), (za, .inl (G.2 0, nn, .inl (kI ar))), (zq, .inl (G.2 4, nn, .inr (.inr (.inr (.inr (kRn nn ro)))))), (zp, .inl (G.2 3, np, .inr (.inr (.inr (.inr (kRn np rp))))))] ++ va_pl L f)) () hx hb hr hlocks hS hP9 hD9 (congrArg mOI hle2) dX5_post_128
                · refine lv_aload hx hb dX5_post_52 (lv_at hl 2 rfl) ?_
                  refine lv_iload hx hb dX5_post_54 (lv_at hl 0 rfl) ?_
                  refine kr_aldA (k := i) (v := .ref (rp i)) hx hb hK hP 3 3 rfl rfl (by omega) (by omega) (kRn_at (by omega)) dX5_post_56 ?_
                  refine lv_astore (lv' := [(10, .ref (rp i)), (9, .int (nI i)), (8, .int (nI np)), (7, .ref zp), (6, .int (bI tt)), (5, .int (nI y9)), (4, .int (nI k)), (3, .int (nI x)), (0, .ref zs), (1, .int (nI a)), (2, .int (nI b))]) hx hb dX5_post_57 hl (by decide) rfl (fun ls hl => ?_)
                  have hei := hen i (by omega)
                  refine lv_iload hx hb dX5_post_59 (lv_at hl 4 rfl) ?_
                  refine lv_aload hx hb dX5_post_61 (lv_at hl 0 rfl) ?_
                  refine lv_iconst (v := (nI 3)) hx hb dX5_post_63 (by decide) ?_
                  refine kp_ialf (k := 3) (v := (bI (op i))) hx hb hK hP (hrp i (by omega)).1 (hrp i (by omega)).2 (by decide) (by decide) zP_3 dX5_post_64 ?_
                  refine lv_iconst (v := (nI 1)) hx hb dX5_post_65 (by decide) ?_
                  refine kb_ne1 (tgt := 107) hx hb dX5_post_66 (by decide) (fun c_16 => ?_) (fun c_16 => ?_)
                  · have hj66 := c_16
                    refine lv_iconst (v := (nI 0)) hx hb dX5_post_107 (by decide) ?_
                    refine lv_ior hx hb dX5_post_108 ?_
                    refine kr_top (y := bI (tt || false)) (kB_or tt false) ?_
                    refine lv_istore (lv' := [(6, .int (bI (tt || false))), (10, .ref (rp i)), (9, .int (nI i)), (8, .int (nI np)), (7, .ref zp), (5, .int (nI y9)), (4, .int (nI k)), (3, .int (nI x)), (0, .ref zs), (1, .int (nI a)), (2, .int (nI b))]) hx hb dX5_post_109 hl (by decide) rfl (fun ls hl => ?_)
                    refine lv_iinc (k := 2) (v := (nI (i + 1))) (lv' := [(9, .int (nI (i + 1))), (6, .int (bI (tt || false))), (10, .ref (rp i)), (8, .int (nI np)), (7, .ref zp), (5, .int (nI y9)), (4, .int (nI k)), (3, .int (nI x)), (0, .ref zs), (1, .int (nI a)), (2, .int (nI b))]) hx hb dX5_post_111 hl rfl (kn_inc i) (by decide) rfl (fun ls hl => ?_)
                    refine lv_goto (tgt := 45) hx hb dX5_post_114 (by decide) ?_
                    exact ih45 (i + 1) (tt || false) (by omega) (by omega) (by rw [mAny_succ, ← htt, show mJoin fs sn op x y9 i = false from mJ_dec.trans (decide_eq_false (fun z => by obtain ⟨z1, z2⟩ := z; first | omega | (rw [hj66] at z1; cases z1)))]) _ _ hP hD hS _ (lv_sub hl [0, 3, 4, 1, 5, 6, 7, 8, 9, 10] rfl)
                  · have hj66 := c_16
                    refine lv_aload hx hb dX5_post_69 (lv_at hl 0 rfl) ?_
                    refine lv_iconst (v := (nI 0)) hx hb dX5_post_71 (by decide) ?_
                    refine kp_ialf (k := 0) (v := (nI (fs i))) hx hb hK hP (hrp i (by omega)).1 (hrp i (by omega)).2 (by decide) (by decide) rfl dX5_post_72 ?_
                    refine lv_iload_n hx hb dX5_post_73 rfl (lv_at hl 7 rfl) ?_
                    refine kb_ne (tgt := 86) hx hb dX5_post_74 (by decide) (by omega) (by omega) (fun c_17 => ?_) (fun c_17 => ?_)
                    · have hj74 := c_17
                      refine lv_aload hx hb dX5_post_86 (lv_at hl 0 rfl) ?_
                      refine lv_iconst (v := (nI 1)) hx hb dX5_post_88 (by decide) ?_
                      refine kp_ialf (k := 1) (v := (nI (sn i))) hx hb hK hP (hrp i (by omega)).1 (hrp i (by omega)).2 (by decide) (by decide) rfl dX5_post_89 ?_
                      refine lv_iload_n hx hb dX5_post_90 rfl (lv_at hl 7 rfl) ?_
                      refine kb_ne (tgt := 107) hx hb dX5_post_91 (by decide) (by omega) (by omega) (fun c_18 => ?_) (fun c_18 => ?_)
                      · have hj91 := c_18
                        refine lv_iconst (v := (nI 0)) hx hb dX5_post_107 (by decide) ?_
                        refine lv_ior hx hb dX5_post_108 ?_
                        refine kr_top (y := bI (tt || false)) (kB_or tt false) ?_
                        refine lv_istore (lv' := [(6, .int (bI (tt || false))), (10, .ref (rp i)), (9, .int (nI i)), (8, .int (nI np)), (7, .ref zp), (5, .int (nI y9)), (4, .int (nI k)), (3, .int (nI x)), (0, .ref zs), (1, .int (nI a)), (2, .int (nI b))]) hx hb dX5_post_109 hl (by decide) rfl (fun ls hl => ?_)
                        refine lv_iinc (k := 2) (v := (nI (i + 1))) (lv' := [(9, .int (nI (i + 1))), (6, .int (bI (tt || false))), (10, .ref (rp i)), (8, .int (nI np)), (7, .ref zp), (5, .int (nI y9)), (4, .int (nI k)), (3, .int (nI x)), (0, .ref zs), (1, .int (nI a)), (2, .int (nI b))]) hx hb dX5_post_111 hl rfl (kn_inc i) (by decide) rfl (fun ls hl => ?_)
                        refine lv_goto (tgt := 45) hx hb dX5_post_114 (by decide) ?_
                        exact ih45 (i + 1) (tt || false) (by omega) (by omega) (by rw [mAny_succ, ← htt, show mJoin fs sn op x y9 i = false from mJ_dec.trans (decide_eq_false (fun z => by obtain ⟨z1, z2⟩ := z; first | omega | (rw [hj66] at z1; cases z1)))]) _ _ hP hD hS _ (lv_sub hl [0, 3, 4, 1, 5, 6, 7, 8, 9, 10] rfl)
                      · have hj91 := c_18
                        refine lv_aload hx hb dX5_post_94 (lv_at hl 0 rfl) ?_
                        refine lv_iconst (v := (nI 0)) hx hb dX5_post_96 (by decide) ?_
                        refine kp_ialf (k := 0) (v := (nI (fs i))) hx hb hK hP (hrp i (by omega)).1 (hrp i (by omega)).2 (by decide) (by decide) rfl dX5_post_97 ?_
                        refine lv_iload hx hb dX5_post_98 (lv_at hl 5 rfl) ?_
                        refine kb_ne (tgt := 107) hx hb dX5_post_100 (by decide) (by omega) (by omega) (fun c_19 => ?_) (fun c_19 => ?_)
                        · have hj100 := c_19
                          refine lv_iconst (v := (nI 0)) hx hb dX5_post_107 (by decide) ?_
                          refine lv_ior hx hb dX5_post_108 ?_
                          refine kr_top (y := bI (tt || false)) (kB_or tt false) ?_
                          refine lv_istore (lv' := [(6, .int (bI (tt || false))), (10, .ref (rp i)), (9, .int (nI i)), (8, .int (nI np)), (7, .ref zp), (5, .int (nI y9)), (4, .int (nI k)), (3, .int (nI x)), (0, .ref zs), (1, .int (nI a)), (2, .int (nI b))]) hx hb dX5_post_109 hl (by decide) rfl (fun ls hl => ?_)
                          refine lv_iinc (k := 2) (v := (nI (i + 1))) (lv' := [(9, .int (nI (i + 1))), (6, .int (bI (tt || false))), (10, .ref (rp i)), (8, .int (nI np)), (7, .ref zp), (5, .int (nI y9)), (4, .int (nI k)), (3, .int (nI x)), (0, .ref zs), (1, .int (nI a)), (2, .int (nI b))]) hx hb dX5_post_111 hl rfl (kn_inc i) (by decide) rfl (fun ls hl => ?_)
                          refine lv_goto (tgt := 45) hx hb dX5_post_114 (by decide) ?_
                          exact ih45 (i + 1) (tt || false) (by omega) (by omega) (by rw [mAny_succ, ← htt, show mJoin fs sn op x y9 i = false from mJ_dec.trans (decide_eq_false (fun z => by obtain ⟨z1, z2⟩ := z; first | omega | (rw [hj66] at z1; cases z1)))]) _ _ hP hD hS _ (lv_sub hl [0, 3, 4, 1, 5, 6, 7, 8, 9, 10] rfl)
                        · have hj100 := c_19
                          refine lv_iconst (v := (nI 1)) hx hb dX5_post_103 (by decide) ?_
                          refine lv_goto (tgt := 108) hx hb dX5_post_104 (by decide) ?_
                          refine lv_ior hx hb dX5_post_108 ?_
                          refine kr_top (y := bI (tt || true)) (kB_or tt true) ?_
                          refine lv_istore (lv' := [(6, .int (bI (tt || true))), (10, .ref (rp i)), (9, .int (nI i)), (8, .int (nI np)), (7, .ref zp), (5, .int (nI y9)), (4, .int (nI k)), (3, .int (nI x)), (0, .ref zs), (1, .int (nI a)), (2, .int (nI b))]) hx hb dX5_post_109 hl (by decide) rfl (fun ls hl => ?_)
                          refine lv_iinc (k := 2) (v := (nI (i + 1))) (lv' := [(9, .int (nI (i + 1))), (6, .int (bI (tt || true))), (10, .ref (rp i)), (8, .int (nI np)), (7, .ref zp), (5, .int (nI y9)), (4, .int (nI k)), (3, .int (nI x)), (0, .ref zs), (1, .int (nI a)), (2, .int (nI b))]) hx hb dX5_post_111 hl rfl (kn_inc i) (by decide) rfl (fun ls hl => ?_)
                          refine lv_goto (tgt := 45) hx hb dX5_post_114 (by decide) ?_
                          exact ih45 (i + 1) (tt || true) (by omega) (by omega) (by rw [mAny_succ, ← htt, show mJoin fs sn op x y9 i = true from mJ_dec.trans (decide_eq_true ⟨hj66, by omega⟩)]) _ _ hP hD hS _ (lv_sub hl [0, 3, 4, 1, 5, 6, 7, 8, 9, 10] rfl)
                    · have hj74 := c_17
                      refine lv_aload hx hb dX5_post_77 (lv_at hl 0 rfl) ?_
                      refine lv_iconst (v := (nI 1)) hx hb dX5_post_79 (by decide) ?_
                      refine kp_ialf (k := 1) (v := (nI (sn i))) hx hb hK hP (hrp i (by omega)).1 (hrp i (by omega)).2 (by decide) (by decide) rfl dX5_post_80 ?_
                      refine lv_iload hx hb dX5_post_81 (lv_at hl 5 rfl) ?_
                      refine kb_eq (tgt := 103) hx hb dX5_post_83 (by decide) (by omega) (by omega) (fun c_20 => ?_) (fun c_20 => ?_)
                      · have hj83 := c_20
                        refine lv_iconst (v := (nI 1)) hx hb dX5_post_103 (by decide) ?_
                        refine lv_goto (tgt := 108) hx hb dX5_post_104 (by decide) ?_
                        refine lv_ior hx hb dX5_post_108 ?_
                        refine kr_top (y := bI (tt || true)) (kB_or tt true) ?_
                        refine lv_istore (lv' := [(6, .int (bI (tt || true))), (10, .ref (rp i)), (9, .int (nI i)), (8, .int (nI np)), (7, .ref zp), (5, .int (nI y9)), (4, .int (nI k)), (3, .int (nI x)), (0, .ref zs), (1, .int (nI a)), (2, .int (nI b))]) hx hb dX5_post_109 hl (by decide) rfl (fun ls hl => ?_)
                        refine lv_iinc (k := 2) (v := (nI (i + 1))) (lv' := [(9, .int (nI (i + 1))), (6, .int (bI (tt || true))), (10, .ref (rp i)), (8, .int (nI np)), (7, .ref zp), (5, .int (nI y9)), (4, .int (nI k)), (3, .int (nI x)), (0, .ref zs), (1, .int (nI a)), (2, .int (nI b))]) hx hb dX5_post_111 hl rfl (kn_inc i) (by decide) rfl (fun ls hl => ?_)
                        refine lv_goto (tgt := 45) hx hb dX5_post_114 (by decide) ?_
                        exact ih45 (i + 1) (tt || true) (by omega) (by omega) (by rw [mAny_succ, ← htt, show mJoin fs sn op x y9 i = true from mJ_dec.trans (decide_eq_true ⟨hj66, by omega⟩)]) _ _ hP hD hS _ (lv_sub hl [0, 3, 4, 1, 5, 6, 7, 8, 9, 10] rfl)
                      · have hj83 := c_20
                        refine lv_aload hx hb dX5_post_86 (lv_at hl 0 rfl) ?_
                        refine lv_iconst (v := (nI 1)) hx hb dX5_post_88 (by decide) ?_
                        refine kp_ialf (k := 1) (v := (nI (sn i))) hx hb hK hP (hrp i (by omega)).1 (hrp i (by omega)).2 (by decide) (by decide) rfl dX5_post_89 ?_
                        refine lv_iload_n hx hb dX5_post_90 rfl (lv_at hl 7 rfl) ?_
                        refine kb_ne (tgt := 107) hx hb dX5_post_91 (by decide) (by omega) (by omega) (fun c_21 => ?_) (fun c_21 => ?_)
                        · have hj91 := c_21
                          refine lv_iconst (v := (nI 0)) hx hb dX5_post_107 (by decide) ?_
                          refine lv_ior hx hb dX5_post_108 ?_
                          refine kr_top (y := bI (tt || false)) (kB_or tt false) ?_
                          refine lv_istore (lv' := [(6, .int (bI (tt || false))), (10, .ref (rp i)), (9, .int (nI i)), (8, .int (nI np)), (7, .ref zp), (5, .int (nI y9)), (4, .int (nI k)), (3, .int (nI x)), (0, .ref zs), (1, .int (nI a)), (2, .int (nI b))]) hx hb dX5_post_109 hl (by decide) rfl (fun ls hl => ?_)
                          refine lv_iinc (k := 2) (v := (nI (i + 1))) (lv' := [(9, .int (nI (i + 1))), (6, .int (bI (tt || false))), (10, .ref (rp i)), (8, .int (nI np)), (7, .ref zp), (5, .int (nI y9)), (4, .int (nI k)), (3, .int (nI x)), (0, .ref zs), (1, .int (nI a)), (2, .int (nI b))]) hx hb dX5_post_111 hl rfl (kn_inc i) (by decide) rfl (fun ls hl => ?_)
                          refine lv_goto (tgt := 45) hx hb dX5_post_114 (by decide) ?_
                          exact ih45 (i + 1) (tt || false) (by omega) (by omega) (by rw [mAny_succ, ← htt, show mJoin fs sn op x y9 i = false from mJ_dec.trans (decide_eq_false (fun z => by obtain ⟨z1, z2⟩ := z; first | omega | (rw [hj66] at z1; cases z1)))]) _ _ hP hD hS _ (lv_sub hl [0, 3, 4, 1, 5, 6, 7, 8, 9, 10] rfl)
                        · have hj91 := c_21
                          refine lv_aload hx hb dX5_post_94 (lv_at hl 0 rfl) ?_
                          refine lv_iconst (v := (nI 0)) hx hb dX5_post_96 (by decide) ?_
                          refine kp_ialf (k := 0) (v := (nI (fs i))) hx hb hK hP (hrp i (by omega)).1 (hrp i (by omega)).2 (by decide) (by decide) rfl dX5_post_97 ?_
                          refine lv_iload hx hb dX5_post_98 (lv_at hl 5 rfl) ?_
                          refine kb_ne (tgt := 107) hx hb dX5_post_100 (by decide) (by omega) (by omega) (fun c_22 => ?_) (fun c_22 => ?_)
                          · have hj100 := c_22
                            refine lv_iconst (v := (nI 0)) hx hb dX5_post_107 (by decide) ?_
                            refine lv_ior hx hb dX5_post_108 ?_
                            refine kr_top (y := bI (tt || false)) (kB_or tt false) ?_
                            refine lv_istore (lv' := [(6, .int (bI (tt || false))), (10, .ref (rp i)), (9, .int (nI i)), (8, .int (nI np)), (7, .ref zp), (5, .int (nI y9)), (4, .int (nI k)), (3, .int (nI x)), (0, .ref zs), (1, .int (nI a)), (2, .int (nI b))]) hx hb dX5_post_109 hl (by decide) rfl (fun ls hl => ?_)
                            refine lv_iinc (k := 2) (v := (nI (i + 1))) (lv' := [(9, .int (nI (i + 1))), (6, .int (bI (tt || false))), (10, .ref (rp i)), (8, .int (nI np)), (7, .ref zp), (5, .int (nI y9)), (4, .int (nI k)), (3, .int (nI x)), (0, .ref zs), (1, .int (nI a)), (2, .int (nI b))]) hx hb dX5_post_111 hl rfl (kn_inc i) (by decide) rfl (fun ls hl => ?_)
                            refine lv_goto (tgt := 45) hx hb dX5_post_114 (by decide) ?_
                            exact ih45 (i + 1) (tt || false) (by omega) (by omega) (by rw [mAny_succ, ← htt, show mJoin fs sn op x y9 i = false from mJ_dec.trans (decide_eq_false (fun z => by obtain ⟨z1, z2⟩ := z; first | omega | (rw [hj66] at z1; cases z1)))]) _ _ hP hD hS _ (lv_sub hl [0, 3, 4, 1, 5, 6, 7, 8, 9, 10] rfl)
                          · have hj100 := c_22
                            refine lv_iconst (v := (nI 1)) hx hb dX5_post_103 (by decide) ?_
                            refine lv_goto (tgt := 108) hx hb dX5_post_104 (by decide) ?_
                            refine lv_ior hx hb dX5_post_108 ?_
                            refine kr_top (y := bI (tt || true)) (kB_or tt true) ?_
                            refine lv_istore (lv' := [(6, .int (bI (tt || true))), (10, .ref (rp i)), (9, .int (nI i)), (8, .int (nI np)), (7, .ref zp), (5, .int (nI y9)), (4, .int (nI k)), (3, .int (nI x)), (0, .ref zs), (1, .int (nI a)), (2, .int (nI b))]) hx hb dX5_post_109 hl (by decide) rfl (fun ls hl => ?_)
                            refine lv_iinc (k := 2) (v := (nI (i + 1))) (lv' := [(9, .int (nI (i + 1))), (6, .int (bI (tt || true))), (10, .ref (rp i)), (8, .int (nI np)), (7, .ref zp), (5, .int (nI y9)), (4, .int (nI k)), (3, .int (nI x)), (0, .ref zs), (1, .int (nI a)), (2, .int (nI b))]) hx hb dX5_post_111 hl rfl (kn_inc i) (by decide) rfl (fun ls hl => ?_)
                            refine lv_goto (tgt := 45) hx hb dX5_post_114 (by decide) ?_
                            exact ih45 (i + 1) (tt || true) (by omega) (by omega) (by rw [mAny_succ, ← htt, show mJoin fs sn op x y9 i = true from mJ_dec.trans (decide_eq_true ⟨hj66, by omega⟩)]) _ _ hP hD hS _ (lv_sub hl [0, 3, 4, 1, 5, 6, 7, 8, 9, 10] rfl)
            exact hc_45 (_ + 1) 0 false (Nat.lt_succ_self _) (by omega) (by rfl) _ _ hP hD hS _ (lv_sub hl [0, 1, 2, 3, 4, 5, 6, 7, 8, 9] rfl)
        · obtain ⟨k9, hk9⟩ : ∃ k9, 21 - k = k9 + 1 := ⟨20 - k, by omega⟩
          rw [hk9] at hle
          rw [zLet_at c_2] at hle
          refine lv_iload hx hb dX5_post_17 (lv_at hl 0 rfl) ?_
          have hP9 : va_P G.1 vwCl ([(zs, .inr (5, [.int (nI mi), .ref za, .ref zw, .ref zq, .ref zp])), (za, .inl (G.2 0, nn, .inl (kI ar))), (zq, .inl (G.2 4, nn, .inr (.inr (.inr (.inr (kRn nn ro)))))), (zp, .inl (G.2 3, np, .inr (.inr (.inr (.inr (kRn np rp))))))] ++ va_pl L f) _ := hP.part (cx := [(zs, .inr (5, [.int (nI mi), .ref za, .ref zw, .ref zq, .ref zp])), (za, .inl (G.2 0, nn, .inl (kI ar))), (zq, .inl (G.2 4, nn, .inr (.inr (.inr (.inr (kRn nn ro)))))), (zp, .inl (G.2 3, np, .inr (.inr (.inr (.inr (kRn np rp))))))]) [0, 1, 2, 3] rfl
          have hD9 : va_D A ([(zs, .inr (5, [.int (nI mi), .ref za, .ref zw, .ref zq, .ref zp])), (za, .inl (G.2 0, nn, .inl (kI ar))), (zq, .inl (G.2 4, nn, .inr (.inr (.inr (.inr (kRn nn ro)))))), (zp, .inl (G.2 3, np, .inr (.inr (.inr (.inr (kRn np rp))))))] ++ va_pl L f) := hD.part (cx := [(zs, .inr (5, [.int (nI mi), .ref za, .ref zw, .ref zq, .ref zp])), (za, .inl (G.2 0, nn, .inl (kI ar))), (zq, .inl (G.2 4, nn, .inr (.inr (.inr (.inr (kRn nn ro)))))), (zp, .inl (G.2 3, np, .inr (.inr (.inr (.inr (kRn np rp))))))]) [0, 1, 2, 3] (by decide) rfl
          refine W.widen (k := 21) (n := 147) (by omega) (by omega) ?_
          exact km_iret (v := (nI k)) (post := fun (r : Int32) (u : Unit) => r = (mOI (zLet (fun a b => zFst (zStH SS fs sn a) fs sn np nn a b) (mSt fs sn op np) b 21 0 a))) (wo := fun (u : Unit) => ([(zs, .inr (5, [.int (nI mi), .ref za, .ref zw, .ref zq, .ref zp])), (za, .inl (G.2 0, nn, .inl (kI ar))), (zq, .inl (G.2 4, nn, .inr (.inr (.inr (.inr (kRn nn ro)))))), (zp, .inl (G.2 3, np, .inr (.inr (.inr (.inr (kRn np rp))))))] ++ va_pl L f)) () hx hb hr hlocks hS hP9 hD9 (congrArg mOI hle) dX5_post_19
  refine W.widen (k := 0) (n := 7 * 0) (by omega) (by omega) ?_
  exact hc_5 (_ + 1) a 0 (Nat.lt_succ_self _) (by omega) (by exact ha) (by rfl) _ _ hP hD hS _ (lv_sub hl [0, 1, 2, 3, 4] rfl)
