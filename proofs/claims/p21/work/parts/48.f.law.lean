set_option maxHeartbeats 4000000 in
set_option maxRecDepth 100000 in
theorem l_q1 {p : Program} {l : Launch} {e : Env} {s : State} {m : MethodId} {below : List Frame} {meth : Method} {c : Code} {A : Nat → Prop} {G : kG} {b len : Nat} {xs : Nat → Int32} {hM zs : Nat} {za zw zq zp nn np mi : Nat} {ro : Nat → Nat} {rr : Nat → Nat → Nat} {rp fs sn ln : Nat → Nat} {op : Nat → Bool} {SS : Nat → Option mS} {ar ww : Nat → Nat} (C0 : lCtx p l s m meth c A G b len xs)  {k9 n9 : Nat} (hk9 : k9 + 20000 ≤ 600130) (hn9 : n9 + 200000 ≤ 7301080) {tm : Nat} (ht7 : tm ≤ 7) (K47 : ∀ (x4 : Int32), tm < 7 → lGo p l e s m below meth c A G b hM zs za zw zq zp nn np mi ro rr rp fs sn ln op SS ar ww k9 n9 47 [(0, .ref b), (1, .ref hM), (2, .ref zs), (3, .int (nI tm)), (4, .int x4), (5, .int (nI 0))]) (K1170 : tm = 7 → lGo p l e s m below meth c A G b hM zs za zw zq zp nn np mi ro rr rp fs sn ln op SS ar ww k9 n9 1170 [(0, .ref b), (1, .ref hM), (2, .ref zs), (3, .int (nI tm))]) : lGo p l e s m below meth c A G b hM zs za zw zq zp nn np mi ro rr rp fs sn ln op SS ar ww k9 n9 22 [(0, .ref b), (1, .ref hM), (2, .ref zs), (3, .int (nI tm))] := by
  obtain ⟨hx, hb, hr, hml, hown, hts, hX, hlocks, hK, hZ, hA, hA2, hbA, hlen⟩ := id C0
  intro M L f hob hML hsm H locs hP hD hS ls hl
  refine lv_iload_n hx hb dL_law_22 rfl (lv_at hl 3 rfl) ?_
  refine lv_bipush (v := (nI 7)) hx hb dL_law_23 (by decide) ?_
  refine kb_ge (tgt := 1170) hx hb dL_law_25 (by decide) (by omega) (by decide) (fun c_1 => ?_) (fun c_1 => ?_)
  · exact K1170 (by omega) M L f hob hML hsm _ _ hP hD hS _ (lv_sub hl [0, 1, 2, 3] rfl)
  · refine lv_aload_n hx hb dL_law_28 rfl (lv_at hl 0 rfl) ?_
    refine lv_iload_n hx hb dL_law_29 rfl (lv_at hl 3 rfl) ?_
    refine lv_iconst (v := (nI 4)) hx hb dL_law_30 (by decide) ?_
    refine lv_iadd hx hb dL_law_31 ?_
    refine kr_top (y := nI (tm + 4)) (nI_add tm 4) ?_
    refine vp_callSi (W.runS (As := [.ref b, .int (nI (tm + 4))]) (rest := []) ⟨hx, hb, hml, hown, hts⟩ (c_L_cellX l G b len xs (tm + 4) hlen (by omega)) (va_cwS 2 hts t_L_cell rfl rfl rfl (by decide +kernel) ⟨Nat.le_of_ble_eq_true rfl, Nat.le_of_ble_eq_true rfl⟩) (cX_S hX hbA hS) rfl rfl hl.1 rfl (lv_room (Nat.le_of_ble_eq_true rfl)) dL_law_32 ⟨(show k9 + 0 ≤ 600130 from by omega), (show n9 + 0 ≤ 7301080 from by omega)⟩) (fun r_2 hr_2 => ?_)
    subst hr_2
    refine lv_iconst (v := (nI 2)) hx hb dL_law_35 (by decide) ?_
    refine lv_ishr hx hb dL_law_36 ?_
    refine lv_bipush (v := (nI 59)) hx hb dL_law_37 (by decide) ?_
    refine lv_iload_n hx hb dL_law_39 rfl (lv_at hl 3 rfl) ?_
    refine lv_imul hx hb dL_law_40 ?_
    refine kr_top (y := nI (59 * tm)) (pk_mul 59 tm) ?_
    refine lv_iadd hx hb dL_law_41 ?_
    refine lv_istore (lv' := [(4, .int (((mCell xs len (tm + 4)) >>> ((nI 2) &&& 31)) + (nI (59 * tm)))), (0, .ref b), (1, .ref hM), (2, .ref zs), (3, .int (nI tm))]) hx hb dL_law_42 hl (by decide) rfl (fun ls hl => ?_)
    refine lv_iconst (v := (nI 0)) hx hb dL_law_44 (by decide) ?_
    refine lv_istore (lv' := [(5, .int (nI 0)), (4, .int (((mCell xs len (tm + 4)) >>> ((nI 2) &&& 31)) + (nI (59 * tm)))), (0, .ref b), (1, .ref hM), (2, .ref zs), (3, .int (nI tm))]) hx hb dL_law_45 hl (by decide) rfl (fun ls hl => ?_)
    exact K47 (((mCell xs len (tm + 4)) >>> ((nI 2) &&& 31)) + (nI (59 * tm))) (by omega) M L f hob hML hsm _ _ hP hD hS _ (lv_sub hl [2, 3, 4, 5, 1, 0] rfl)

set_option maxHeartbeats 4000000 in
set_option maxRecDepth 100000 in
theorem l_q2 {p : Program} {l : Launch} {e : Env} {s : State} {m : MethodId} {below : List Frame} {meth : Method} {c : Code} {A : Nat → Prop} {G : kG} {b len : Nat} {xs : Nat → Int32} {hM zs : Nat} {za zw zq zp nn np mi : Nat} {ro : Nat → Nat} {rr : Nat → Nat → Nat} {rp fs sn ln : Nat → Nat} {op : Nat → Bool} {SS : Nat → Option mS} {ar ww : Nat → Nat} (C0 : lCtx p l s m meth c A G b len xs) (hV : vInv ar fs sn ln nn np mi SS ww) (hn7 : nn ≤ 7) (hmi : mi + 2000 < 2 ^ 31) (hw0 : ∀ j, nn ≤ j → ww j = 0) {k9 n9 : Nat} (hk9 : k9 + 20000 ≤ 600130) (hn9 : n9 + 200000 ≤ 7301080) {tm k2 : Nat} {x4 : Int32} (hk2 : k2 ≤ 2) (K47 : ∀ (za4 : Nat) (zw4 : Nat) (zq4 : Nat) (zp4 : Nat) (nn4 : Nat) (np4 : Nat) (mi4 : Nat) (ro4 : Nat → Nat) (rr4 : Nat → Nat → Nat) (rp4 : Nat → Nat) (fs4 : Nat → Nat) (sn4 : Nat → Nat) (ln4 : Nat → Nat) (op4 : Nat → Bool) (SS4 : Nat → Option mS) (ar4 : Nat → Nat) (ww4 : Nat → Nat), k2 < 2 → vInv ar4 fs4 sn4 ln4 nn4 np4 mi4 SS4 ww4 → nn4 ≤ 7 → (∀ j, nn4 ≤ j → ww4 j = 0) → nn ≤ nn4 → mi4 ≤ mi + 25 → lGo p l e s m below meth c A G b hM zs za4 zw4 zq4 zp4 nn4 np4 mi4 ro4 rr4 rp4 fs4 sn4 ln4 op4 SS4 ar4 ww4 (k9 + 4100) (n9 + 46100) 47 [(0, .ref b), (1, .ref hM), (2, .ref zs), (3, .int (nI tm)), (4, .int x4), (5, .int (nI (k2 + 1)))]) (K82 : k2 = 2 → lGo p l e s m below meth c A G b hM zs za zw zq zp nn np mi ro rr rp fs sn ln op SS ar ww k9 n9 82 [(0, .ref b), (1, .ref hM), (2, .ref zs), (3, .int (nI tm))]) : lGo p l e s m below meth c A G b hM zs za zw zq zp nn np mi ro rr rp fs sn ln op SS ar ww k9 n9 47 [(0, .ref b), (1, .ref hM), (2, .ref zs), (3, .int (nI tm)), (4, .int x4), (5, .int (nI k2))] := by
  obtain ⟨hx, hb, hr, hml, hown, hts, hX, hlocks, hK, hZ, hA, hA2, hbA, hlen⟩ := id C0
  intro M L f hob hML hsm H locs hP hD hS ls hl
  refine lv_iload hx hb dL_law_47 (lv_at hl 5 rfl) ?_
  refine lv_iconst (v := (nI 2)) hx hb dL_law_49 (by decide) ?_
  refine kb_ge (tgt := 82) hx hb dL_law_50 (by decide) (by omega) (by decide) (fun c_1 => ?_) (fun c_1 => ?_)
  · exact K82 (by omega) M L f hob hML hsm _ _ hP hD hS _ (lv_sub hl [0, 1, 2, 3] rfl)
  · refine lv_aload_n hx hb dL_law_53 rfl (lv_at hl 1 rfl) ?_
    refine lv_aload_n hx hb dL_law_54 rfl (lv_at hl 2 rfl) ?_
    refine lv_iload hx hb dL_law_55 (lv_at hl 4 rfl) ?_
    refine lv_iconst (v := (nI 2)) hx hb dL_law_57 (by decide) ?_
    refine lv_iload hx hb dL_law_58 (lv_at hl 5 rfl) ?_
    refine lv_imul hx hb dL_law_60 ?_
    refine kr_top (y := nI (2 * k2)) (pk_mul 2 k2) ?_
    refine lv_ishr hx hb dL_law_61 ?_
    refine lv_bipush (v := (nI 23)) hx hb dL_law_62 (by decide) ?_
    refine lv_iload hx hb dL_law_64 (lv_at hl 5 rfl) ?_
    refine lv_imul hx hb dL_law_66 ?_
    refine kr_top (y := nI (23 * k2)) (pk_mul 23 k2) ?_
    refine lv_iadd hx hb dL_law_67 ?_
    have hPc : va_P G.1 vwCl ([(zs, .inr (5, [.int (nI mi), .ref za, .ref zw, .ref zq, .ref zp])), (za, .inl (G.2 0, nn, .inl (kI ar))), (zq, .inl (G.2 4, nn, .inr (.inr (.inr (.inr (kRn nn ro)))))), (zp, .inl (G.2 3, np, .inr (.inr (.inr (.inr (kRn np rp)))))), (zw, .inl (G.2 0, nn, .inl (kI ww)))] ++ va_pl L f) _ := hP.part (cx := [(zs, .inr (5, [.int (nI mi), .ref za, .ref zw, .ref zq, .ref zp])), (za, .inl (G.2 0, nn, .inl (kI ar))), (zq, .inl (G.2 4, nn, .inr (.inr (.inr (.inr (kRn nn ro)))))), (zp, .inl (G.2 3, np, .inr (.inr (.inr (.inr (kRn np rp)))))), (zw, .inl (G.2 0, nn, .inl (kI ww)))]) [0, 1, 2, 3, 4] rfl
    have hDc : va_D A ([(zs, .inr (5, [.int (nI mi), .ref za, .ref zw, .ref zq, .ref zp])), (za, .inl (G.2 0, nn, .inl (kI ar))), (zq, .inl (G.2 4, nn, .inr (.inr (.inr (.inr (kRn nn ro)))))), (zp, .inl (G.2 3, np, .inr (.inr (.inr (.inr (kRn np rp)))))), (zw, .inl (G.2 0, nn, .inl (kI ww)))] ++ va_pl L f) := hD.part (cx := [(zs, .inr (5, [.int (nI mi), .ref za, .ref zw, .ref zq, .ref zp])), (za, .inl (G.2 0, nn, .inl (kI ar))), (zq, .inl (G.2 4, nn, .inr (.inr (.inr (.inr (kRn nn ro)))))), (zp, .inl (G.2 3, np, .inr (.inr (.inr (.inr (kRn np rp)))))), (zw, .inl (G.2 0, nn, .inl (kI ww)))]) [0, 1, 2, 3, 4] (by decide) rfl
    have hFc : ∀ zq9 : Nat, va_A ([(zs, .inr (5, [.int (nI mi), .ref za, .ref zw, .ref zq, .ref zp])), (za, .inl (G.2 0, nn, .inl (kI ar))), (zq, .inl (G.2 4, nn, .inr (.inr (.inr (.inr (kRn nn ro)))))), (zp, .inl (G.2 3, np, .inr (.inr (.inr (.inr (kRn np rp)))))), (zw, .inl (G.2 0, nn, .inl (kI ww)))] ++ va_pl L f) _ zq9 → A zq9 := va_freeP (cx := [(zs, .inr (5, [.int (nI mi), .ref za, .ref zw, .ref zq, .ref zp])), (za, .inl (G.2 0, nn, .inl (kI ar))), (zq, .inl (G.2 4, nn, .inr (.inr (.inr (.inr (kRn nn ro)))))), (zp, .inl (G.2 3, np, .inr (.inr (.inr (.inr (kRn np rp)))))), (zw, .inl (G.2 0, nn, .inl (kI ww)))]) hD hS hA [0, 1, 2, 3, 4] rfl
    refine va_calli (va_runS (As := [.ref hM, .ref zs, .int ((x4 >>> ((nI (2 * k2)) &&& 31)) + (nI (23 * k2)))]) (rest := []) ⟨hx, hb, hml, hown, hts⟩ (c_L_act l G _ hM zs za zw zq zp nn np mi M L f ro rr rp fs sn ln op SS ar ww ((x4 >>> ((nI (2 * k2)) &&& 31)) + (nI (23 * k2))) hob hML hsm hV hn7 hw0 (by omega)) (va_cwS 3 hts t_L_act rfl rfl rfl (by decide +kernel) ⟨Nat.le_of_ble_eq_true rfl, Nat.le_of_ble_eq_true rfl⟩) (kPreZ_S (ws := ([(zs, .inr (5, [.int (nI mi), .ref za, .ref zw, .ref zq, .ref zp])), (za, .inl (G.2 0, nn, .inl (kI ar))), (zq, .inl (G.2 4, nn, .inr (.inr (.inr (.inr (kRn nn ro)))))), (zp, .inl (G.2 3, np, .inr (.inr (.inr (.inr (kRn np rp)))))), (zw, .inl (G.2 0, nn, .inl (kI ww)))] ++ va_pl L f)) hK hPc hDc hZ) rfl rfl hl.1 rfl (lv_room (Nat.le_of_ble_eq_true rfl)) dL_law_68 ⟨(show k9 + 4100 ≤ 600130 from by omega), (show n9 + 46100 ≤ 7301080 from by omega)⟩) hS (fun q _ h => hFc q h) hFc (fun r_2 u t H1 locs ht hvm hw hB hz1 hk1 hS => ?_)
    obtain ⟨za4, zw4, zq4, zp4, nn4, np4, mi4, M4, L4, f4, ro4, rr4, rp4, fs4, sn4, ln4, op4, SS4, ar4, ww4⟩ := u
    obtain ⟨hP1, hD1⟩ := hB
    rw [ht] at hP1
    try dsimp only at hw hP1 hD1
    obtain ⟨hP, hD⟩ := va_joinP (cx := [(zs, .inr (5, [.int (nI mi), .ref za, .ref zw, .ref zq, .ref zp])), (za, .inl (G.2 0, nn, .inl (kI ar))), (zq, .inl (G.2 4, nn, .inr (.inr (.inr (.inr (kRn nn ro)))))), (zp, .inl (G.2 3, np, .inr (.inr (.inr (.inr (kRn np rp)))))), (zw, .inl (G.2 0, nn, .inl (kI ww)))]) (wr := []) (rx := [(zs, .inr (5, [.int (nI mi4), .ref za4, .ref zw4, .ref zq4, .ref zp4])), (za4, .inl (G.2 0, nn4, .inl (kI ar4))), (zq4, .inl (G.2 4, nn4, .inr (.inr (.inr (.inr (kRn nn4 ro4)))))), (zp4, .inl (G.2 3, np4, .inr (.inr (.inr (.inr (kRn np4 rp4)))))), (zw4, .inl (G.2 0, nn4, .inl (kI ww4)))]) hP hD [0, 1, 2, 3, 4] [] rfl rfl (by decide) (by decide) hk1 hFc hP1 hD1
    clear hPc hDc hFc hP1 hD1 hk1 hz1 ht
    skip
    generalize H1 = H at hP hS ⊢
    have hP : va_P G.1 vwCl ([(zs, .inr (5, [.int (nI mi4), .ref za4, .ref zw4, .ref zq4, .ref zp4])), (za4, .inl (G.2 0, nn4, .inl (kI ar4))), (zq4, .inl (G.2 4, nn4, .inr (.inr (.inr (.inr (kRn nn4 ro4)))))), (zp4, .inl (G.2 3, np4, .inr (.inr (.inr (.inr (kRn np4 rp4)))))), (zw4, .inl (G.2 0, nn4, .inl (kI ww4)))] ++ va_pl L4 f4) H := hP
    have hD : va_D A ([(zs, .inr (5, [.int (nI mi4), .ref za4, .ref zw4, .ref zq4, .ref zp4])), (za4, .inl (G.2 0, nn4, .inl (kI ar4))), (zq4, .inl (G.2 4, nn4, .inr (.inr (.inr (.inr (kRn nn4 ro4)))))), (zp4, .inl (G.2 3, np4, .inr (.inr (.inr (.inr (kRn np4 rp4)))))), (zw4, .inl (G.2 0, nn4, .inl (kI ww4)))] ++ va_pl L4 f4) := hD
    refine W.widen (k := k9 + 4100) (n := n9 + 46100) (Nat.le_refl _) (Nat.le_refl _) ?_
    have hw_3 := hw
    obtain ⟨hr_2, a1, a2, a3, a4, a5, a6, a7, a8, a9⟩ := hw_3
    subst hr_2
    refine kb_neb (tgt := 76) hx hb dL_law_71 (by decide) (fun c_4 => ?_) (fun c_4 => ?_)
    · refine lv_iinc (k := 5) (v := (nI (k2 + 1))) (lv' := [(5, .int (nI (k2 + 1))), (0, .ref b), (1, .ref hM), (2, .ref zs), (3, .int (nI tm)), (4, .int x4)]) hx hb dL_law_76 hl rfl (kn_inc k2) (by decide) rfl (fun ls hl => ?_)
      refine lv_goto (tgt := 47) hx hb dL_law_79 (by decide) ?_
      exact K47 za4 zw4 zq4 zp4 nn4 np4 mi4 ro4 rr4 rp4 fs4 sn4 ln4 op4 SS4 ar4 ww4 (by omega) (a4) (a5) (a6) (a9) (a8) M4 L4 f4 a1 a2 a3 _ _ hP hD hS _ (lv_sub hl [1, 2, 3, 4, 5, 0] rfl)
    · exfalso; exact Bool.noConfusion c_4

set_option maxHeartbeats 4000000 in
set_option maxRecDepth 100000 in
theorem l_q3 {p : Program} {l : Launch} {e : Env} {s : State} {m : MethodId} {below : List Frame} {meth : Method} {c : Code} {A : Nat → Prop} {G : kG} {b len : Nat} {xs : Nat → Int32} {hM zs : Nat} {za zw zq zp nn np mi : Nat} {ro : Nat → Nat} {rr : Nat → Nat → Nat} {rp fs sn ln : Nat → Nat} {op : Nat → Bool} {SS : Nat → Option mS} {ar ww : Nat → Nat} (C0 : lCtx p l s m meth c A G b len xs) (hV : vInv ar fs sn ln nn np mi SS ww) (hn7 : nn ≤ 7) (hmi : mi + 2000 < 2 ^ 31) (hw0 : ∀ j, nn ≤ j → ww j = 0) {k9 n9 : Nat} (hk9 : k9 + 20000 ≤ 600130) (hn9 : n9 + 200000 ≤ 7301080) {tm : Nat} (ht7 : tm ≤ 7) (K142 : ∀ (za5 : Nat) (zw5 : Nat) (zq5 : Nat) (zp5 : Nat) (nn5 : Nat) (np5 : Nat) (mi5 : Nat) (ro5 : Nat → Nat) (rr5 : Nat → Nat → Nat) (rp5 : Nat → Nat) (fs5 : Nat → Nat) (sn5 : Nat → Nat) (ln5 : Nat → Nat) (op5 : Nat → Bool) (SS5 : Nat → Option mS) (ar5 : Nat → Nat) (ww5 : Nat → Nat) (qb : Bool), vInv ar5 fs5 sn5 ln5 nn5 np5 mi5 SS5 ww5 → nn5 ≤ 7 → (∀ j, nn5 ≤ j → ww5 j = 0) → nn ≤ nn5 → mi5 ≤ mi + 10 → (qb = true → (∀ j, j < nn5 → ar5 j = 0) → ∀ x y, x < nn5 → y < nn5 → vWay SS5 fs5 sn5 np5 x y = mTruth fs5 sn5 ln5 op5 np5 x y) → lGo p l e s m below meth c A G b hM zs za5 zw5 zq5 zp5 nn5 np5 mi5 ro5 rr5 rp5 fs5 sn5 ln5 op5 SS5 ar5 ww5 (k9 + 2330) (n9 + 26680) 142 [(0, .ref b), (1, .ref hM), (2, .ref zs), (3, .int (nI tm)), (5, .int (bI qb))]) : lGo p l e s m below meth c A G b hM zs za zw zq zp nn np mi ro rr rp fs sn ln op SS ar ww k9 n9 82 [(0, .ref b), (1, .ref hM), (2, .ref zs), (3, .int (nI tm))] := by
  obtain ⟨hx, hb, hr, hml, hown, hts, hX, hlocks, hK, hZ, hA, hA2, hbA, hlen⟩ := id C0
  intro M L f hob hML hsm H locs hP hD hS ls hl
  obtain ⟨hrw, hrr, hrp, hrM, hqM, hpM, hroi, hrpi, hrq⟩ := id hsm
  obtain ⟨⟨hfs, hsn, hln, hen9, hnn, hnp⟩, har, hiS, hiU, hv100, hwz, hwm⟩ := id hV
  have hen : ∀ j, j < np → fs j < nn ∧ sn j < nn := fun j hj => ⟨(hen9 j hj).1, (hen9 j hj).2.1⟩
  refine lv_iload_n hx hb dL_law_82 rfl (lv_at hl 3 rfl) ?_
  refine lv_iconst (v := (nI 3)) hx hb dL_law_83 (by decide) ?_
  refine lv_irem hx hb dL_law_84 (by decide) ?_
  refine kr_top (y := nI (tm % 3)) (pk_rem (by omega) (by decide) (by decide)) ?_
  refine lv_iconst (v := (nI 2)) hx hb dL_law_85 (by decide) ?_
  refine kb_ne (tgt := 93) hx hb dL_law_86 (by decide) (by omega) (by decide) (fun c_1 => ?_) (fun c_1 => ?_)
  · refine lv_iconst (v := (nI 0)) hx hb dL_law_93 (by decide) ?_
    refine lv_istore (lv' := [(5, .int (nI 0)), (0, .ref b), (1, .ref hM), (2, .ref zs), (3, .int (nI tm))]) hx hb dL_law_94 hl (by decide) rfl (fun ls hl => ?_)
    refine lv_iload hx hb dL_law_96 (lv_at hl 0 rfl) ?_
    refine kb_eq0 (tgt := 142) hx hb dL_law_98 (by decide) (by decide) (fun c_2 => ?_) (fun c_2 => ?_)
    · refine W.widen (k := k9 + 2330) (n := n9 + 26680) (by omega) (by omega) ?_
      exact K142 za zw zq zp nn np mi ro rr rp fs sn ln op SS ar ww false (hV) (hn7) (hw0) (by omega) (by omega) (fun z => absurd z (by decide)) M L f hob hML hsm _ _ hP hD hS _ (lv_sub hl [1, 2, 3, 4, 0] rfl)
    · exfalso; omega
  · refine lv_iconst (v := (nI 1)) hx hb dL_law_89 (by decide) ?_
    refine lv_goto (tgt := 94) hx hb dL_law_90 (by decide) ?_
    refine lv_istore (lv' := [(5, .int (nI 1)), (0, .ref b), (1, .ref hM), (2, .ref zs), (3, .int (nI tm))]) hx hb dL_law_94 hl (by decide) rfl (fun ls hl => ?_)
    refine lv_iload hx hb dL_law_96 (lv_at hl 0 rfl) ?_
    refine kb_eq0 (tgt := 142) hx hb dL_law_98 (by decide) (by decide) (fun c_3 => ?_) (fun c_3 => ?_)
    · exfalso; omega
    · refine lv_iconst (v := (nI 0)) hx hb dL_law_101 (by decide) ?_
      refine lv_istore (lv' := [(6, .int (nI 0)), (5, .int (nI 1)), (0, .ref b), (1, .ref hM), (2, .ref zs), (3, .int (nI tm))]) hx hb dL_law_102 hl (by decide) rfl (fun ls hl => ?_)
      refine lv_iconst (v := (nI 0)) hx hb dL_law_104 (by decide) ?_
      refine lv_istore (lv' := [(7, .int (nI 0)), (6, .int (nI 0)), (5, .int (nI 1)), (0, .ref b), (1, .ref hM), (2, .ref zs), (3, .int (nI tm))]) hx hb dL_law_105 hl (by decide) rfl (fun ls hl => ?_)
      have hc_107 : ∀ (n : Nat) (i k zq1 : Nat) (L1 : List Nat) (F1 : Nat → va_E) (ro1 : Nat → Nat) (rr1 : Nat → Nat → Nat) (S1 : Nat → Option mS) (w1 : Nat → Nat), 10 - i < n → i ≤ 10 → (S1, w1, k) = (vMins ar fs sn ln op nn np mi (SS, ww, 0) i) → kSim G nn np (mi + i) M L1 F1 ro1 rr1 rp fs sn ln op S1 → (∀ a ∈ M, a ∈ L1 ∧ F1 a = f a) → vInv ar fs sn ln nn np (mi + i) S1 w1 → ∀ (H : Heap) (locs : List Loc), va_P G.1 vwCl ([(zs, .inr (5, [.int (nI (mi + i)), .ref za, .ref zw, .ref zq1, .ref zp])), (za, .inl (G.2 0, nn, .inl (kI ar))), (zq1, .inl (G.2 4, nn, .inr (.inr (.inr (.inr (kRn nn ro1)))))), (zp, .inl (G.2 3, np, .inr (.inr (.inr (.inr (kRn np rp)))))), (zw, .inl (G.2 0, nn, .inl (kI w1)))] ++ va_pl L1 F1) H → va_D A ([(zs, .inr (5, [.int (nI (mi + i)), .ref za, .ref zw, .ref zq1, .ref zp])), (za, .inl (G.2 0, nn, .inl (kI ar))), (zq1, .inl (G.2 4, nn, .inr (.inr (.inr (.inr (kRn nn ro1)))))), (zp, .inl (G.2 3, np, .inr (.inr (.inr (.inr (kRn np rp)))))), (zw, .inl (G.2 0, nn, .inl (kI w1)))] ++ va_pl L1 F1) → va_S A s.heap H locs → ∀ (ls : Array Slot), lv_has ls 25 [(7, .int (nI i)), (6, .int (nI k)), (5, .int (nI 1)), (0, .ref b), (1, .ref hM), (2, .ref zs), (3, .int (nI tm))] → W p l e room_1 s m #[Value.ref b] below meth c H locs (k9 + 113 * i) (n9 + 1288 * i) (lw_Z below #[Value.ref b] s) (F0 m 107 ls []) := by
        intro n
        induction n with
        | zero =>
          intro i k zq1 L1 F1 ro1 rr1 S1 w1 hmz; exact absurd hmz (Nat.not_lt_zero _)
        | succ n ih107 =>
          intro i k zq1 L1 F1 ro1 rr1 S1 w1 hmz hi hst hs1 hx1 hV1 H locs hP hD hS ls hl
          refine lv_iload hx hb dL_law_107 (lv_at hl 0 rfl) ?_
          refine lv_bipush (v := (nI 10)) hx hb dL_law_109 (by decide) ?_
          refine kb_ge (tgt := 129) hx hb dL_law_111 (by decide) (by omega) (by decide) (fun c_4 => ?_) (fun c_4 => ?_)
          · have hi9 : i = 10 := by omega
            rw [hi9] at hst hs1 hV1 hP hD
            have hS9 : S1 = (vMins ar fs sn ln op nn np mi (SS, ww, 0) 10).1 := congrArg (fun z : vST => z.1) hst
            have hw9 : w1 = (vMins ar fs sn ln op nn np mi (SS, ww, 0) 10).2.1 := congrArg (fun z : vST => z.2.1) hst
            have hk9b : k = (vMins ar fs sn ln op nn np mi (SS, ww, 0) 10).2.2 := congrArg (fun z : vST => z.2.2) hst
            clear hst
            subst hS9
            subst hw9
            subst hk9b
            have hP : va_P G.1 vwCl ([(zs, .inr (5, [.int (nI (mi + 10)), .ref za, .ref zw, .ref zq1, .ref zp])), (za, .inl (G.2 0, nn, .inl (kI ar))), (zq1, .inl (G.2 4, nn, .inr (.inr (.inr (.inr (kRn nn ro1)))))), (zp, .inl (G.2 3, np, .inr (.inr (.inr (.inr (kRn np rp)))))), (zw, .inl (G.2 0, nn, .inl (kI (vMins ar fs sn ln op nn np mi (SS, ww, 0) 10).2.1)))] ++ va_pl L1 F1) H := hP
            have hD : va_D A ([(zs, .inr (5, [.int (nI (mi + 10)), .ref za, .ref zw, .ref zq1, .ref zp])), (za, .inl (G.2 0, nn, .inl (kI ar))), (zq1, .inl (G.2 4, nn, .inr (.inr (.inr (.inr (kRn nn ro1)))))), (zp, .inl (G.2 3, np, .inr (.inr (.inr (.inr (kRn np rp)))))), (zw, .inl (G.2 0, nn, .inl (kI (vMins ar fs sn ln op nn np mi (SS, ww, 0) 10).2.1)))] ++ va_pl L1 F1) := hD
            have hl : lv_has ls 25 [(7, .int (nI i)), (6, .int (nI ((vMins ar fs sn ln op nn np mi (SS, ww, 0) 10).2.2))), (5, .int (nI 1)), (0, .ref b), (1, .ref hM), (2, .ref zs), (3, .int (nI tm))] := hl
            have hob1 := hob.congr (f' := F1) (fun a ha => (hx1 a ha).2)
            have hML1 : ∀ a ∈ M, a ∈ L1 := fun a ha => (hx1 a ha).1
            refine lv_aload_n hx hb dL_law_129 rfl (lv_at hl 4 rfl) ?_
            refine lv_bipush (v := (nI 10)) hx hb dL_law_130 (by decide) ?_
            have hPc : va_P G.1 vwCl ([] ++ va_pl L1 F1) _ := hP.part (cx := []) [] rfl
            have hDc : va_D A ([] ++ va_pl L1 F1) := hD.part (cx := []) [] (by decide) rfl
            have hFc : ∀ zq9 : Nat, va_A ([] ++ va_pl L1 F1) _ zq9 → A zq9 := va_freeP (cx := []) hD hS hA [] rfl
            refine va_calli (va_runV (As := [.int (nI 10)]) (rest := []) ⟨hx, hb, hml, hown, hts⟩ (c_X4_go_o l G _ hM nn np mi fs sn ln op SS ar ww M L1 F1 10 hob1 hML1 hV (by omega) (by omega) (by omega)) (cwV 1 hts t_X4_go rfl rfl rfl (by decide +kernel) ⟨Nat.le_of_ble_eq_true rfl, Nat.le_of_ble_eq_true rfl⟩) (kO_V hob1 hML1 hK hPc hDc) rfl rfl hl.1 rfl (lv_room (Nat.le_of_ble_eq_true rfl)) dL_law_132 ⟨(show k9 + 113 * i + 1200 ≤ 600130 from by omega), (show n9 + 1288 * i + 13800 ≤ 7301080 from by omega)⟩) hS (fun q _ h => hFc q h) hFc (fun r_5 u t H1 locs ht hvm hw hB hz1 hk1 hS => ?_)
            obtain ⟨M3, L3, F3⟩ := u
            obtain ⟨hP1, hD1⟩ := hB
            rw [ht] at hP1
            try dsimp only at hw hP1 hD1
            obtain ⟨hP, hD⟩ := va_joinP (cx := []) (wr := [(zs, .inr (5, [.int (nI (mi + 10)), .ref za, .ref zw, .ref zq1, .ref zp])), (za, .inl (G.2 0, nn, .inl (kI ar))), (zq1, .inl (G.2 4, nn, .inr (.inr (.inr (.inr (kRn nn ro1)))))), (zp, .inl (G.2 3, np, .inr (.inr (.inr (.inr (kRn np rp)))))), (zw, .inl (G.2 0, nn, .inl (kI (vMins ar fs sn ln op nn np mi (SS, ww, 0) 10).2.1)))]) (rx := []) hP hD [] [0, 1, 2, 3, 4] rfl rfl (by decide) (by decide) hk1 hFc hP1 hD1
            clear hPc hDc hFc hP1 hD1 hk1 hz1 ht
            skip
            generalize H1 = H at hP hS ⊢
            have hP : va_P G.1 vwCl ([(zs, .inr (5, [.int (nI (mi + 10)), .ref za, .ref zw, .ref zq1, .ref zp])), (za, .inl (G.2 0, nn, .inl (kI ar))), (zq1, .inl (G.2 4, nn, .inr (.inr (.inr (.inr (kRn nn ro1)))))), (zp, .inl (G.2 3, np, .inr (.inr (.inr (.inr (kRn np rp)))))), (zw, .inl (G.2 0, nn, .inl (kI (vMins ar fs sn ln op nn np mi (SS, ww, 0) 10).2.1)))] ++ va_pl L3 F3) H := hP
            have hD : va_D A ([(zs, .inr (5, [.int (nI (mi + 10)), .ref za, .ref zw, .ref zq1, .ref zp])), (za, .inl (G.2 0, nn, .inl (kI ar))), (zq1, .inl (G.2 4, nn, .inr (.inr (.inr (.inr (kRn nn ro1)))))), (zp, .inl (G.2 3, np, .inr (.inr (.inr (.inr (kRn np rp)))))), (zw, .inl (G.2 0, nn, .inl (kI (vMins ar fs sn ln op nn np mi (SS, ww, 0) 10).2.1)))] ++ va_pl L3 F3) := hD
            refine W.widen (k := k9 + 113 * i + 1200) (n := n9 + 1288 * i + 13800) (Nat.le_refl _) (Nat.le_refl _) ?_
            have hw_6 := hw
            obtain ⟨hr_5, hob2, hfr2⟩ := hw_6
            subst hr_5
            refine lv_iload hx hb dL_law_135 (lv_at hl 1 rfl) ?_
            refine lv_icmp_eq (tgt := 142) hx hb dL_law_137 (by decide) (fun c_7 => ?_) (fun c_7 => ?_)
            · refine W.widen (k := k9 + 2330) (n := n9 + 26680) (by omega) (by omega) ?_
              exact K142 za zw zq1 zp nn np (mi + 10) ro1 rr1 rp fs sn ln op ((vMins ar fs sn ln op nn np mi (SS, ww, 0) 10).1) ar ((vMins ar fs sn ln op nn np mi (SS, ww, 0) 10).2.1) true (hV.go) (hn7) ((vMins_w0 hnn hw0 10)) (by omega) (by omega) (fun _ hA5 => lTen hV hA5) M3 L3 F3 hob2 hfr2.1 (hs1.fr hfr2) _ _ hP hD hS _ (lv_sub hl [3, 4, 5, 6, 2] rfl)
            · exfalso; exact c_7 rfl
          · obtain ⟨hrw, hrr, hrp, hrM, hqM, hpM, hroi, hrpi, hrq⟩ := id hs1
            refine lv_iload hx hb dL_law_114 (lv_at hl 1 rfl) ?_
            refine lv_aload_n hx hb dL_law_116 rfl (lv_at hl 5 rfl) ?_
            have hPc : va_P G.1 vwCl ([(zs, .inr (5, [.int (nI (mi + i)), .ref za, .ref zw, .ref zq1, .ref zp])), (za, .inl (G.2 0, nn, .inl (kI ar))), (zq1, .inl (G.2 4, nn, .inr (.inr (.inr (.inr (kRn nn ro1)))))), (zp, .inl (G.2 3, np, .inr (.inr (.inr (.inr (kRn np rp)))))), (zw, .inl (G.2 0, nn, .inl (kI w1)))] ++ va_pl L1 F1) _ := hP.part (cx := [(zs, .inr (5, [.int (nI (mi + i)), .ref za, .ref zw, .ref zq1, .ref zp])), (za, .inl (G.2 0, nn, .inl (kI ar))), (zq1, .inl (G.2 4, nn, .inr (.inr (.inr (.inr (kRn nn ro1)))))), (zp, .inl (G.2 3, np, .inr (.inr (.inr (.inr (kRn np rp)))))), (zw, .inl (G.2 0, nn, .inl (kI w1)))]) [0, 1, 2, 3, 4] rfl
            have hDc : va_D A ([(zs, .inr (5, [.int (nI (mi + i)), .ref za, .ref zw, .ref zq1, .ref zp])), (za, .inl (G.2 0, nn, .inl (kI ar))), (zq1, .inl (G.2 4, nn, .inr (.inr (.inr (.inr (kRn nn ro1)))))), (zp, .inl (G.2 3, np, .inr (.inr (.inr (.inr (kRn np rp)))))), (zw, .inl (G.2 0, nn, .inl (kI w1)))] ++ va_pl L1 F1) := hD.part (cx := [(zs, .inr (5, [.int (nI (mi + i)), .ref za, .ref zw, .ref zq1, .ref zp])), (za, .inl (G.2 0, nn, .inl (kI ar))), (zq1, .inl (G.2 4, nn, .inr (.inr (.inr (.inr (kRn nn ro1)))))), (zp, .inl (G.2 3, np, .inr (.inr (.inr (.inr (kRn np rp)))))), (zw, .inl (G.2 0, nn, .inl (kI w1)))]) [0, 1, 2, 3, 4] (by decide) rfl
            have hFc : ∀ zq9 : Nat, va_A ([(zs, .inr (5, [.int (nI (mi + i)), .ref za, .ref zw, .ref zq1, .ref zp])), (za, .inl (G.2 0, nn, .inl (kI ar))), (zq1, .inl (G.2 4, nn, .inr (.inr (.inr (.inr (kRn nn ro1)))))), (zp, .inl (G.2 3, np, .inr (.inr (.inr (.inr (kRn np rp)))))), (zw, .inl (G.2 0, nn, .inl (kI w1)))] ++ va_pl L1 F1) _ zq9 → A zq9 := va_freeP (cx := [(zs, .inr (5, [.int (nI (mi + i)), .ref za, .ref zw, .ref zq1, .ref zp])), (za, .inl (G.2 0, nn, .inl (kI ar))), (zq1, .inl (G.2 4, nn, .inr (.inr (.inr (.inr (kRn nn ro1)))))), (zp, .inl (G.2 3, np, .inr (.inr (.inr (.inr (kRn np rp)))))), (zw, .inl (G.2 0, nn, .inl (kI w1)))]) hD hS hA [0, 1, 2, 3, 4] rfl
            refine va_calli (va_runV (As := []) (rest := [.int (nI k)]) ⟨hx, hb, hml, hown, hts⟩ (c_X5_go l G _ zs za zw zq1 zp nn np (mi + i) L1 F1 ro1 rr1 rp fs sn ln op S1 ar w1 hrw hrr hrp (by omega) (by omega) hfs hsn hln hen (by omega) hV1 hroi (by omega)) (cwV 0 hts t_X5_go rfl rfl rfl (by decide +kernel) ⟨Nat.le_of_ble_eq_true rfl, Nat.le_of_ble_eq_true rfl⟩) (kPreZ_V (ws := ([(zs, .inr (5, [.int (nI (mi + i)), .ref za, .ref zw, .ref zq1, .ref zp])), (za, .inl (G.2 0, nn, .inl (kI ar))), (zq1, .inl (G.2 4, nn, .inr (.inr (.inr (.inr (kRn nn ro1)))))), (zp, .inl (G.2 3, np, .inr (.inr (.inr (.inr (kRn np rp)))))), (zw, .inl (G.2 0, nn, .inl (kI w1)))] ++ va_pl L1 F1)) hK hPc hDc hZ (RX5, TX5, 5) 0 rfl rfl) rfl rfl hl.1 rfl (lv_room (Nat.le_of_ble_eq_true rfl)) dL_law_117 ⟨(show k9 + 113 * i + 113 ≤ 600130 from by omega), (show n9 + 1288 * i + 1288 ≤ 7301080 from by omega)⟩) hS (fun q _ h => hFc q h) hFc (fun r_8 u t H1 locs ht hvm hw hB hz1 hk1 hS => ?_)
            obtain ⟨zq2, ro2, rr2, L2, F2⟩ := u
            obtain ⟨hP1, hD1⟩ := hB
            rw [ht] at hP1
            try dsimp only at hw hP1 hD1
            obtain ⟨hP, hD⟩ := va_joinP (cx := [(zs, .inr (5, [.int (nI (mi + i)), .ref za, .ref zw, .ref zq1, .ref zp])), (za, .inl (G.2 0, nn, .inl (kI ar))), (zq1, .inl (G.2 4, nn, .inr (.inr (.inr (.inr (kRn nn ro1)))))), (zp, .inl (G.2 3, np, .inr (.inr (.inr (.inr (kRn np rp)))))), (zw, .inl (G.2 0, nn, .inl (kI w1)))]) (wr := []) (rx := [(zs, .inr (5, [.int (nI ((mi + i) + 1)), .ref za, .ref zw, .ref zq2, .ref zp])), (za, .inl (G.2 0, nn, .inl (kI ar))), (zq2, .inl (G.2 4, nn, .inr (.inr (.inr (.inr (kRn nn ro2)))))), (zp, .inl (G.2 3, np, .inr (.inr (.inr (.inr (kRn np rp)))))), (zw, .inl (G.2 0, nn, .inl (kI (vMin ar fs sn ln op nn np (mi + i) (S1, w1, 0)).2.1)))]) hP hD [0, 1, 2, 3, 4] [] rfl rfl (by decide) (by decide) hk1 hFc hP1 hD1
            clear hPc hDc hFc hP1 hD1 hk1 hz1 ht
            skip
            generalize H1 = H at hP hS ⊢
            have hP : va_P G.1 vwCl ([(zs, .inr (5, [.int (nI ((mi + i) + 1)), .ref za, .ref zw, .ref zq2, .ref zp])), (za, .inl (G.2 0, nn, .inl (kI ar))), (zq2, .inl (G.2 4, nn, .inr (.inr (.inr (.inr (kRn nn ro2)))))), (zp, .inl (G.2 3, np, .inr (.inr (.inr (.inr (kRn np rp)))))), (zw, .inl (G.2 0, nn, .inl (kI (vMin ar fs sn ln op nn np (mi + i) (S1, w1, 0)).2.1)))] ++ va_pl L2 F2) H := hP
            have hD : va_D A ([(zs, .inr (5, [.int (nI ((mi + i) + 1)), .ref za, .ref zw, .ref zq2, .ref zp])), (za, .inl (G.2 0, nn, .inl (kI ar))), (zq2, .inl (G.2 4, nn, .inr (.inr (.inr (.inr (kRn nn ro2)))))), (zp, .inl (G.2 3, np, .inr (.inr (.inr (.inr (kRn np rp)))))), (zw, .inl (G.2 0, nn, .inl (kI (vMin ar fs sn ln op nn np (mi + i) (S1, w1, 0)).2.1)))] ++ va_pl L2 F2) := hD
            refine W.widen (k := k9 + 113 * i + 113) (n := n9 + 1288 * i + 1288) (Nat.le_refl _) (Nat.le_refl _) ?_
            have hw_9 := hw
            obtain ⟨hr_8, hw_9⟩ := hw_9
            subst hr_8
            obtain ⟨q1, q2, q3, q4, q5, q6⟩ := hw_9
            obtain ⟨hs2, hx2⟩ := hs1.go (fun a ha => (hx1 a ha).1) q1 q2 q3 q4 q5 q6
            refine lv_iadd hx hb dL_law_120 ?_
            refine kr_top (y := nI (k + ((vMin ar fs sn ln op nn np (mi + i) (S1, w1, 0)).2.2))) (nI_add k ((vMin ar fs sn ln op nn np (mi + i) (S1, w1, 0)).2.2)) ?_
            refine lv_istore (lv' := [(6, .int (nI (k + ((vMin ar fs sn ln op nn np (mi + i) (S1, w1, 0)).2.2)))), (7, .int (nI i)), (5, .int (nI 1)), (0, .ref b), (1, .ref hM), (2, .ref zs), (3, .int (nI tm))]) hx hb dL_law_121 hl (by decide) rfl (fun ls hl => ?_)
            refine lv_iinc (k := 1) (v := (nI (i + 1))) (lv' := [(7, .int (nI (i + 1))), (6, .int (nI (k + ((vMin ar fs sn ln op nn np (mi + i) (S1, w1, 0)).2.2)))), (5, .int (nI 1)), (0, .ref b), (1, .ref hM), (2, .ref zs), (3, .int (nI tm))]) hx hb dL_law_123 hl rfl (kn_inc i) (by decide) rfl (fun ls hl => ?_)
            refine lv_goto (tgt := 107) hx hb dL_law_126 (by decide) ?_
            refine W.widen (k := k9 + 113 * (i + 1)) (n := n9 + 1288 * (i + 1)) (by omega) (by omega) ?_
            exact ih107 (i + 1) (k + ((vMin ar fs sn ln op nn np (mi + i) (S1, w1, 0)).2.2)) zq2 L2 F2 ro2 rr2 ((vMin ar fs sn ln op nn np (mi + i) (S1, w1, 0)).1) ((vMin ar fs sn ln op nn np (mi + i) (S1, w1, 0)).2.1) (by omega) (by omega) (by first | (rw [vMins_s, ← hst]; done) | (rw [vMins_s, ← hst]; rfl)) (by exact hs2) (by exact fun a ha => ⟨(q1 a (hx1 a ha).1).1, (hx2 a ha).trans (hx1 a ha).2⟩) (by exact vInv_min hV1) _ _ hP hD hS _ (lv_sub hl [0, 1, 2, 3, 4, 5, 6] rfl)
      refine W.widen (k := k9 + 113 * 0) (n := n9 + 1288 * 0) (by omega) (by omega) ?_
      exact hc_107 (_ + 1) 0 0 zq L f ro rr SS ww (Nat.lt_succ_self _) (by omega) (by rfl) (by exact hsm) (by exact fun a ha => ⟨hML a ha, rfl⟩) (by exact hV) _ _ hP hD hS _ (lv_sub hl [0, 1, 2, 3, 4, 5, 6] rfl)

set_option maxHeartbeats 4000000 in
set_option maxRecDepth 100000 in
theorem l_qe {p : Program} {l : Launch} {e : Env} {s : State} {m : MethodId} {below : List Frame} {meth : Method} {c : Code} {A : Nat → Prop} {G : kG} {b len : Nat} {xs : Nat → Int32} {hM zs : Nat} {za zw zq zp nn np mi : Nat} {ro : Nat → Nat} {rr : Nat → Nat → Nat} {rp fs sn ln : Nat → Nat} {op : Nat → Bool} {SS : Nat → Option mS} {ar ww : Nat → Nat} (C0 : lCtx p l s m meth c A G b len xs) (hV : vInv ar fs sn ln nn np mi SS ww) (hn7 : nn ≤ 7) (hmi : mi + 2000 < 2 ^ 31) (hw0 : ∀ j, nn ≤ j → ww j = 0) {k9 n9 : Nat} (hk9 : k9 + 20000 ≤ 600130) (hn9 : n9 + 200000 ≤ 7301080) {tm : Nat}  : lGo p l e s m below meth c A G b hM zs za zw zq zp nn np mi ro rr rp fs sn ln op SS ar ww k9 n9 1170 [(0, .ref b), (1, .ref hM), (2, .ref zs), (3, .int (nI tm))] := by
  obtain ⟨hx, hb, hr, hml, hown, hts, hX, hlocks, hK, hZ, hA, hA2, hbA, hlen⟩ := id C0
  intro M L f hob hML hsm H locs hP hD hS ls hl
  refine lv_aload_n hx hb dL_law_1170 rfl (lv_at hl 2 rfl) ?_
  refine lv_aload_n hx hb dL_law_1171 rfl (lv_at hl 1 rfl) ?_
  have hPc : va_P G.1 vwCl ([(zs, .inr (5, [.int (nI mi), .ref za, .ref zw, .ref zq, .ref zp])), (za, .inl (G.2 0, nn, .inl (kI ar))), (zq, .inl (G.2 4, nn, .inr (.inr (.inr (.inr (kRn nn ro)))))), (zp, .inl (G.2 3, np, .inr (.inr (.inr (.inr (kRn np rp)))))), (zw, .inl (G.2 0, nn, .inl (kI ww)))] ++ va_pl L f) _ := hP.part (cx := [(zs, .inr (5, [.int (nI mi), .ref za, .ref zw, .ref zq, .ref zp])), (za, .inl (G.2 0, nn, .inl (kI ar))), (zq, .inl (G.2 4, nn, .inr (.inr (.inr (.inr (kRn nn ro)))))), (zp, .inl (G.2 3, np, .inr (.inr (.inr (.inr (kRn np rp)))))), (zw, .inl (G.2 0, nn, .inl (kI ww)))]) [0, 1, 2, 3, 4] rfl
  have hDc : va_D A ([(zs, .inr (5, [.int (nI mi), .ref za, .ref zw, .ref zq, .ref zp])), (za, .inl (G.2 0, nn, .inl (kI ar))), (zq, .inl (G.2 4, nn, .inr (.inr (.inr (.inr (kRn nn ro)))))), (zp, .inl (G.2 3, np, .inr (.inr (.inr (.inr (kRn np rp)))))), (zw, .inl (G.2 0, nn, .inl (kI ww)))] ++ va_pl L f) := hD.part (cx := [(zs, .inr (5, [.int (nI mi), .ref za, .ref zw, .ref zq, .ref zp])), (za, .inl (G.2 0, nn, .inl (kI ar))), (zq, .inl (G.2 4, nn, .inr (.inr (.inr (.inr (kRn nn ro)))))), (zp, .inl (G.2 3, np, .inr (.inr (.inr (.inr (kRn np rp)))))), (zw, .inl (G.2 0, nn, .inl (kI ww)))]) [0, 1, 2, 3, 4] (by decide) rfl
  have hFc : ∀ zq9 : Nat, va_A ([(zs, .inr (5, [.int (nI mi), .ref za, .ref zw, .ref zq, .ref zp])), (za, .inl (G.2 0, nn, .inl (kI ar))), (zq, .inl (G.2 4, nn, .inr (.inr (.inr (.inr (kRn nn ro)))))), (zp, .inl (G.2 3, np, .inr (.inr (.inr (.inr (kRn np rp)))))), (zw, .inl (G.2 0, nn, .inl (kI ww)))] ++ va_pl L f) _ zq9 → A zq9 := va_freeP (cx := [(zs, .inr (5, [.int (nI mi), .ref za, .ref zw, .ref zq, .ref zp])), (za, .inl (G.2 0, nn, .inl (kI ar))), (zq, .inl (G.2 4, nn, .inr (.inr (.inr (.inr (kRn nn ro)))))), (zp, .inl (G.2 3, np, .inr (.inr (.inr (.inr (kRn np rp)))))), (zw, .inl (G.2 0, nn, .inl (kI ww)))]) hD hS hA [0, 1, 2, 3, 4] rfl
  refine va_calli (va_runV (As := [.ref hM]) (rest := []) ⟨hx, hb, hml, hown, hts⟩ (c_X5_isSame l G _ zs hM za zw zq zp nn np mi M L f ro rr rp fs sn ln op SS ar ww hob hML hsm hV hn7 hw0 (by omega)) (cwV 1 hts t_X5_isSame rfl rfl rfl (by decide +kernel) ⟨Nat.le_of_ble_eq_true rfl, Nat.le_of_ble_eq_true rfl⟩) (kPreM_V (ws := ([(zs, .inr (5, [.int (nI mi), .ref za, .ref zw, .ref zq, .ref zp])), (za, .inl (G.2 0, nn, .inl (kI ar))), (zq, .inl (G.2 4, nn, .inr (.inr (.inr (.inr (kRn nn ro)))))), (zp, .inl (G.2 3, np, .inr (.inr (.inr (.inr (kRn np rp)))))), (zw, .inl (G.2 0, nn, .inl (kI ww)))] ++ va_pl L f)) hK hPc hDc (RX5, TX5, 5) 0 rfl rfl) rfl rfl hl.1 rfl (lv_room (Nat.le_of_ble_eq_true rfl)) dL_law_1172 ⟨(show k9 + 1300 ≤ 600130 from by omega), (show n9 + 9000 ≤ 7301080 from by omega)⟩) hS (fun q _ h => hFc q h) hFc (fun r_1 u t H1 locs ht hvm hw hB hz1 hk1 hS => ?_)
  obtain ⟨M'_2, L'_3, f'_4⟩ := u
  obtain ⟨hP1, hD1⟩ := hB
  rw [ht] at hP1
  try dsimp only at hw hP1 hD1
  obtain ⟨hP, hD⟩ := va_joinP (cx := [(zs, .inr (5, [.int (nI mi), .ref za, .ref zw, .ref zq, .ref zp])), (za, .inl (G.2 0, nn, .inl (kI ar))), (zq, .inl (G.2 4, nn, .inr (.inr (.inr (.inr (kRn nn ro)))))), (zp, .inl (G.2 3, np, .inr (.inr (.inr (.inr (kRn np rp)))))), (zw, .inl (G.2 0, nn, .inl (kI ww)))]) (wr := []) (rx := [(zs, .inr (5, [.int (nI mi), .ref za, .ref zw, .ref zq, .ref zp])), (za, .inl (G.2 0, nn, .inl (kI ar))), (zq, .inl (G.2 4, nn, .inr (.inr (.inr (.inr (kRn nn ro)))))), (zp, .inl (G.2 3, np, .inr (.inr (.inr (.inr (kRn np rp)))))), (zw, .inl (G.2 0, nn, .inl (kI ww)))]) hP hD [0, 1, 2, 3, 4] [] rfl rfl (by decide) (by decide) hk1 hFc hP1 hD1
  clear hPc hDc hFc hP1 hD1 hk1 hz1 ht
  skip
  generalize H1 = H at hP hS ⊢
  have hP : va_P G.1 vwCl ([(zs, .inr (5, [.int (nI mi), .ref za, .ref zw, .ref zq, .ref zp])), (za, .inl (G.2 0, nn, .inl (kI ar))), (zq, .inl (G.2 4, nn, .inr (.inr (.inr (.inr (kRn nn ro)))))), (zp, .inl (G.2 3, np, .inr (.inr (.inr (.inr (kRn np rp)))))), (zw, .inl (G.2 0, nn, .inl (kI ww)))] ++ va_pl L'_3 f'_4) H := hP
  have hD : va_D A ([(zs, .inr (5, [.int (nI mi), .ref za, .ref zw, .ref zq, .ref zp])), (za, .inl (G.2 0, nn, .inl (kI ar))), (zq, .inl (G.2 4, nn, .inr (.inr (.inr (.inr (kRn nn ro)))))), (zp, .inl (G.2 3, np, .inr (.inr (.inr (.inr (kRn np rp)))))), (zw, .inl (G.2 0, nn, .inl (kI ww)))] ++ va_pl L'_3 f'_4) := hD
  refine W.widen (k := k9 + 1300) (n := n9 + 9000) (Nat.le_refl _) (Nat.le_refl _) ?_
  have hw_5 := hw
  have hr_1 := hw_5.1
  subst hr_1
  refine kr_top (show bI true = 1 from rfl) ?_
  refine W.widen (k := 600130) (n := 7301080) (by omega) (by omega) ?_
  refine va_forget (fun q hq => hA2 _ (hS.2.2 q hq)) ?_
  refine W.base ?_
  exact lw_ret (Drawn.sameBut.refl s.drawn lw_cs) hx hb hr hlocks dL_law_1175
