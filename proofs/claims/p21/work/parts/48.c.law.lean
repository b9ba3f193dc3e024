set_option maxHeartbeats 4000000 in
set_option maxRecDepth 100000 in
theorem l_p3 {p : Program} {l : Launch} {e : Env} {s : State} {m : MethodId} {below : List Frame} {meth : Method} {c : Code} {A : Nat → Prop} {G : kG} {b len : Nat} {xs : Nat → Int32} {hM zs : Nat} {za zw zq zp nn np mi : Nat} {ro : Nat → Nat} {rr : Nat → Nat → Nat} {rp fs sn ln : Nat → Nat} {op : Nat → Bool} {SS : Nat → Option mS} {ar ww : Nat → Nat} (C0 : lCtx p l s m meth c A G b len xs) (hV : vInv ar fs sn ln nn np mi SS ww) (hn7 : nn ≤ 7) (hmi : mi + 1000 < 2 ^ 31) {k9 n9 : Nat} (hk9 : k9 + 20000 ≤ 600130) (hn9 : n9 + 200000 ≤ 7301080) {tm a bb x10 x11 x13 x14 x15 : Nat} {qb x9 : Bool} {x6 : Int64} (ha : a < nn) (hbb : bb < nn) (K829 : lGo p l e s m below meth c A G b hM zs za zw zq zp nn np mi ro rr rp fs sn ln op SS ar ww k9 n9 829 [(0, .ref b), (1, .ref hM), (2, .ref zs), (3, .int (nI tm)), (5, .int (bI qb)), (6, .long x6), (8, .int (nI nn)), (9, .int (bI x9)), (10, .int (nI x10)), (11, .int (nI x11)), (12, .int (nI a)), (13, .int (nI x13)), (14, .int (nI x14)), (15, .int (nI x15)), (16, .int (nI bb)), (19, .int (mWayA (vWay SS fs sn np a bb) 0)), (20, .int (mWayA (vWay SS fs sn np a bb) 1)), (22, .int (mOI (mPost (fun i => vWay SS fs sn np i) (mSt fs sn op np) a bb))), (23, .int (mTruthA (mTruth fs sn ln op np a bb)))]) : lGo p l e s m below meth c A G b hM zs za zw zq zp nn np mi ro rr rp fs sn ln op SS ar ww k9 n9 722 [(0, .ref b), (1, .ref hM), (2, .ref zs), (3, .int (nI tm)), (5, .int (bI qb)), (6, .long x6), (8, .int (nI nn)), (9, .int (bI x9)), (10, .int (nI x10)), (11, .int (nI x11)), (12, .int (nI a)), (13, .int (nI x13)), (14, .int (nI x14)), (15, .int (nI x15)), (16, .int (nI bb)), (19, .int (mWayA (vWay SS fs sn np a bb) 0)), (20, .int (mWayA (vWay SS fs sn np a bb) 1)), (22, .int (mOI (mPost (fun i => vWay SS fs sn np i) (mSt fs sn op np) a bb))), (23, .int (mTruthA (mTruth fs sn ln op np a bb)))] := by
  obtain ⟨hx, hb, hr, hml, hown, hts, hX, hlocks, hK, hZ, hA, hA2, hbA, hlen⟩ := id C0
  intro M L f hob hML hsm H locs hP hD hS ls hl
  have hc_762 : lGo p l e s m below meth c A G b hM zs za zw zq zp nn np mi ro rr rp fs sn ln op SS ar ww k9 n9 762 [(0, .ref b), (1, .ref hM), (2, .ref zs), (3, .int (nI tm)), (5, .int (bI qb)), (6, .long x6), (8, .int (nI nn)), (9, .int (bI x9)), (10, .int (nI x10)), (11, .int (nI x11)), (12, .int (nI a)), (13, .int (nI x13)), (14, .int (nI x14)), (15, .int (nI x15)), (16, .int (nI bb)), (19, .int (mWayA (vWay SS fs sn np a bb) 0)), (20, .int (mWayA (vWay SS fs sn np a bb) 1)), (22, .int (mOI (mPost (fun i => vWay SS fs sn np i) (mSt fs sn op np) a bb))), (23, .int (mTruthA (mTruth fs sn ln op np a bb)))] := by
    intro M_762 L_762 f_762 hob hML hsm H locs hP hD hS ls hl
    refine lv_iconst (v := (nI 0)) hx hb dL_law_762 (by decide) ?_
    refine lv_istore (lv' := [(24, .int (nI 0)), (0, .ref b), (1, .ref hM), (2, .ref zs), (3, .int (nI tm)), (5, .int (bI qb)), (6, .long x6), (8, .int (nI nn)), (9, .int (bI x9)), (10, .int (nI x10)), (11, .int (nI x11)), (12, .int (nI a)), (13, .int (nI x13)), (14, .int (nI x14)), (15, .int (nI x15)), (16, .int (nI bb)), (19, .int (mWayA (vWay SS fs sn np a bb) 0)), (20, .int (mWayA (vWay SS fs sn np a bb) 1)), (22, .int (mOI (mPost (fun i => vWay SS fs sn np i) (mSt fs sn op np) a bb))), (23, .int (mTruthA (mTruth fs sn ln op np a bb)))]) hx hb dL_law_763 hl (by decide) rfl (fun ls hl => ?_)
    have hc_765 : ∀ (n : Nat) (cc : Nat), nn - cc < n → cc ≤ nn → lGo p l e s m below meth c A G b hM zs za zw zq zp nn np mi ro rr rp fs sn ln op SS ar ww k9 n9 765 [(0, .ref b), (1, .ref hM), (2, .ref zs), (3, .int (nI tm)), (5, .int (bI qb)), (6, .long x6), (8, .int (nI nn)), (9, .int (bI x9)), (10, .int (nI x10)), (11, .int (nI x11)), (12, .int (nI a)), (13, .int (nI x13)), (14, .int (nI x14)), (15, .int (nI x15)), (16, .int (nI bb)), (19, .int (mWayA (vWay SS fs sn np a bb) 0)), (20, .int (mWayA (vWay SS fs sn np a bb) 1)), (22, .int (mOI (mPost (fun i => vWay SS fs sn np i) (mSt fs sn op np) a bb))), (23, .int (mTruthA (mTruth fs sn ln op np a bb))), (24, .int (nI cc))] := by
      intro n
      induction n with
      | zero =>
        intro cc hmz; exact absurd hmz (Nat.not_lt_zero _)
      | succ n ih765 =>
        intro cc hmz hcc
        intro M_765 L_765 f_765 hob hML hsm H locs hP hD hS ls hl
        refine lv_iload hx hb dL_law_765 (lv_at hl 19 rfl) ?_
        refine lv_iload hx hb dL_law_767 (lv_at hl 6 rfl) ?_
        refine kb_ge (tgt := 829) hx hb dL_law_769 (by decide) (by omega) (by omega) (fun c_1 => ?_) (fun c_1 => ?_)
        · exact K829 M_765 L_765 f_765 hob hML hsm _ _ hP hD hS _ (lv_sub hl [0, 1, 2, 3, 4, 5, 6, 7, 8, 9, 10, 11, 12, 13, 14, 15, 16, 17, 18] rfl)
        · refine lv_aload_n hx hb dL_law_772 rfl (lv_at hl 1 rfl) ?_
          refine lv_iload hx hb dL_law_773 (lv_at hl 10 rfl) ?_
          refine lv_iload hx hb dL_law_775 (lv_at hl 19 rfl) ?_
          refine lo_i (va_runV (As := [.int (nI a), .int (nI cc)]) (rest := []) ⟨hx, hb, hml, hown, hts⟩ (c_X4_truth_o l G _ hM nn np mi fs sn ln op SS ar ww M_765 L_765 f_765 a cc hob hML hV (by omega) (by omega) (by omega)) (cwV 2 hts t_X4_truth rfl rfl rfl (by decide +kernel) ⟨Nat.le_of_ble_eq_true rfl, Nat.le_of_ble_eq_true rfl⟩) (kO_V hob hML hK (hP.part (cx := []) [] rfl) (hD.part (cx := []) [] (by decide) rfl)) rfl rfl hl.1 rfl (lv_room (Nat.le_of_ble_eq_true rfl)) dL_law_777 ⟨(show k9 + 0 ≤ 600130 from by omega), (show n9 + 0 ≤ 7301080 from by omega)⟩) hP hD hS hA (fun M_777 L_777 f_777 H locs hob hfr hP hD hS => ?_)
          have hML := hfr.1
          have hsm := hsm.fr hfr
          refine W.widen (k := k9) (n := n9) (Nat.le_refl _) (Nat.le_refl _) ?_
          refine lv_if_lt (tgt := 823) hx hb dL_law_780 (by decide) (fun c_2 => ?_) (fun c_2 => ?_)
          · refine lv_iinc (k := 19) (v := (nI (cc + 1))) (lv' := [(24, .int (nI (cc + 1))), (0, .ref b), (1, .ref hM), (2, .ref zs), (3, .int (nI tm)), (5, .int (bI qb)), (6, .long x6), (8, .int (nI nn)), (9, .int (bI x9)), (10, .int (nI x10)), (11, .int (nI x11)), (12, .int (nI a)), (13, .int (nI x13)), (14, .int (nI x14)), (15, .int (nI x15)), (16, .int (nI bb)), (19, .int (mWayA (vWay SS fs sn np a bb) 0)), (20, .int (mWayA (vWay SS fs sn np a bb) 1)), (22, .int (mOI (mPost (fun i => vWay SS fs sn np i) (mSt fs sn op np) a bb))), (23, .int (mTruthA (mTruth fs sn ln op np a bb)))]) hx hb dL_law_823 hl rfl (kn_inc cc) (by decide) rfl (fun ls hl => ?_)
            refine lv_goto (tgt := 765) hx hb dL_law_826 (by decide) ?_
            exact ih765 (cc + 1) (by omega) (by omega) M_777 L_777 f_777 hob hML hsm _ _ hP hD hS _ (lv_sub hl [1, 2, 3, 4, 5, 6, 7, 8, 9, 10, 11, 12, 13, 14, 15, 16, 17, 18, 19, 0] rfl)
          · obtain ⟨x1, y1⟩ := lT_s c_2
            refine lv_aload_n hx hb dL_law_783 rfl (lv_at hl 1 rfl) ?_
            refine lv_iload hx hb dL_law_784 (lv_at hl 19 rfl) ?_
            refine lv_iload hx hb dL_law_786 (lv_at hl 14 rfl) ?_
            refine lo_i (va_runV (As := [.int (nI cc), .int (nI bb)]) (rest := []) ⟨hx, hb, hml, hown, hts⟩ (c_X4_truth_o l G _ hM nn np mi fs sn ln op SS ar ww M_777 L_777 f_777 cc bb hob hML hV (by omega) (by omega) (by omega)) (cwV 2 hts t_X4_truth rfl rfl rfl (by decide +kernel) ⟨Nat.le_of_ble_eq_true rfl, Nat.le_of_ble_eq_true rfl⟩) (kO_V hob hML hK (hP.part (cx := []) [] rfl) (hD.part (cx := []) [] (by decide) rfl)) rfl rfl hl.1 rfl (lv_room (Nat.le_of_ble_eq_true rfl)) dL_law_788 ⟨(show k9 + 0 ≤ 600130 from by omega), (show n9 + 0 ≤ 7301080 from by omega)⟩) hP hD hS hA (fun M_788 L_788 f_788 H locs hob hfr hP hD hS => ?_)
            have hML := hfr.1
            have hsm := hsm.fr hfr
            refine W.widen (k := k9) (n := n9) (Nat.le_refl _) (Nat.le_refl _) ?_
            refine lv_if_lt (tgt := 823) hx hb dL_law_791 (by decide) (fun c_3 => ?_) (fun c_3 => ?_)
            · refine lv_iinc (k := 19) (v := (nI (cc + 1))) (lv' := [(24, .int (nI (cc + 1))), (0, .ref b), (1, .ref hM), (2, .ref zs), (3, .int (nI tm)), (5, .int (bI qb)), (6, .long x6), (8, .int (nI nn)), (9, .int (bI x9)), (10, .int (nI x10)), (11, .int (nI x11)), (12, .int (nI a)), (13, .int (nI x13)), (14, .int (nI x14)), (15, .int (nI x15)), (16, .int (nI bb)), (19, .int (mWayA (vWay SS fs sn np a bb) 0)), (20, .int (mWayA (vWay SS fs sn np a bb) 1)), (22, .int (mOI (mPost (fun i => vWay SS fs sn np i) (mSt fs sn op np) a bb))), (23, .int (mTruthA (mTruth fs sn ln op np a bb)))]) hx hb dL_law_823 hl rfl (kn_inc cc) (by decide) rfl (fun ls hl => ?_)
              refine lv_goto (tgt := 765) hx hb dL_law_826 (by decide) ?_
              exact ih765 (cc + 1) (by omega) (by omega) M_788 L_788 f_788 hob hML hsm _ _ hP hD hS _ (lv_sub hl [1, 2, 3, 4, 5, 6, 7, 8, 9, 10, 11, 12, 13, 14, 15, 16, 17, 18, 19, 0] rfl)
            · obtain ⟨x2, y2⟩ := lT_s c_3
              refine lv_iload hx hb dL_law_794 (lv_at hl 18 rfl) ?_
              refine lv_if_lt (tgt := 821) hx hb dL_law_796 (by decide) (fun c_4 => ?_) (fun c_4 => ?_)
              · exfalso; exact lTri1 (op := op) hV ha hbb (show cc < nn by omega) x1 x2 c_4
              · refine lv_iload hx hb dL_law_799 (lv_at hl 18 rfl) ?_
                refine lv_aload_n hx hb dL_law_801 rfl (lv_at hl 1 rfl) ?_
                refine lv_iload hx hb dL_law_802 (lv_at hl 10 rfl) ?_
                refine lv_iload hx hb dL_law_804 (lv_at hl 19 rfl) ?_
                refine lo_i (va_runV (As := [.int (nI a), .int (nI cc)]) (rest := [.int (mTruthA (mTruth fs sn ln op np a bb))]) ⟨hx, hb, hml, hown, hts⟩ (c_X4_truth_o l G _ hM nn np mi fs sn ln op SS ar ww M_788 L_788 f_788 a cc hob hML hV (by omega) (by omega) (by omega)) (cwV 2 hts t_X4_truth rfl rfl rfl (by decide +kernel) ⟨Nat.le_of_ble_eq_true rfl, Nat.le_of_ble_eq_true rfl⟩) (kO_V hob hML hK (hP.part (cx := []) [] rfl) (hD.part (cx := []) [] (by decide) rfl)) rfl rfl hl.1 rfl (lv_room (Nat.le_of_ble_eq_true rfl)) dL_law_806 ⟨(show k9 + 0 ≤ 600130 from by omega), (show n9 + 0 ≤ 7301080 from by omega)⟩) hP hD hS hA (fun M_806 L_806 f_806 H locs hob hfr hP hD hS => ?_)
                have hML := hfr.1
                have hsm := hsm.fr hfr
                refine W.widen (k := k9) (n := n9) (Nat.le_refl _) (Nat.le_refl _) ?_
                refine kr_top (show mTruthA (mTruth fs sn ln op np a cc) = (nI ((mTruth fs sn ln op np a cc) / 256)) from y1) ?_
                refine lv_aload_n hx hb dL_law_809 rfl (lv_at hl 1 rfl) ?_
                refine lv_iload hx hb dL_law_810 (lv_at hl 19 rfl) ?_
                refine lv_iload hx hb dL_law_812 (lv_at hl 14 rfl) ?_
                refine lo_i (va_runV (As := [.int (nI cc), .int (nI bb)]) (rest := [.int (nI ((mTruth fs sn ln op np a cc) / 256)), .int (mTruthA (mTruth fs sn ln op np a bb))]) ⟨hx, hb, hml, hown, hts⟩ (c_X4_truth_o l G _ hM nn np mi fs sn ln op SS ar ww M_806 L_806 f_806 cc bb hob hML hV (by omega) (by omega) (by omega)) (cwV 2 hts t_X4_truth rfl rfl rfl (by decide +kernel) ⟨Nat.le_of_ble_eq_true rfl, Nat.le_of_ble_eq_true rfl⟩) (kO_V hob hML hK (hP.part (cx := []) [] rfl) (hD.part (cx := []) [] (by decide) rfl)) rfl rfl hl.1 rfl (lv_room (Nat.le_of_ble_eq_true rfl)) dL_law_814 ⟨(show k9 + 0 ≤ 600130 from by omega), (show n9 + 0 ≤ 7301080 from by omega)⟩) hP hD hS hA (fun M_814 L_814 f_814 H locs hob hfr hP hD hS => ?_)
                have hML := hfr.1
                have hsm := hsm.fr hfr
                refine W.widen (k := k9) (n := n9) (Nat.le_refl _) (Nat.le_refl _) ?_
                refine kr_top (show mTruthA (mTruth fs sn ln op np cc bb) = (nI ((mTruth fs sn ln op np cc bb) / 256)) from y2) ?_
                refine lv_iadd hx hb dL_law_817 ?_
                refine kr_top (y := nI (((mTruth fs sn ln op np a cc) / 256) + ((mTruth fs sn ln op np cc bb) / 256))) (nI_add ((mTruth fs sn ln op np a cc) / 256) ((mTruth fs sn ln op np cc bb) / 256)) ?_
                refine lv_icmp_le (tgt := 823) hx hb dL_law_818 (by decide) (fun c_5 => ?_) (fun c_5 => ?_)
                · refine lv_iinc (k := 19) (v := (nI (cc + 1))) (lv' := [(24, .int (nI (cc + 1))), (0, .ref b), (1, .ref hM), (2, .ref zs), (3, .int (nI tm)), (5, .int (bI qb)), (6, .long x6), (8, .int (nI nn)), (9, .int (bI x9)), (10, .int (nI x10)), (11, .int (nI x11)), (12, .int (nI a)), (13, .int (nI x13)), (14, .int (nI x14)), (15, .int (nI x15)), (16, .int (nI bb)), (19, .int (mWayA (vWay SS fs sn np a bb) 0)), (20, .int (mWayA (vWay SS fs sn np a bb) 1)), (22, .int (mOI (mPost (fun i => vWay SS fs sn np i) (mSt fs sn op np) a bb))), (23, .int (mTruthA (mTruth fs sn ln op np a bb)))]) hx hb dL_law_823 hl rfl (kn_inc cc) (by decide) rfl (fun ls hl => ?_)
                  refine lv_goto (tgt := 765) hx hb dL_law_826 (by decide) ?_
                  exact ih765 (cc + 1) (by omega) (by omega) M_814 L_814 f_814 hob hML hsm _ _ hP hD hS _ (lv_sub hl [1, 2, 3, 4, 5, 6, 7, 8, 9, 10, 11, 12, 13, 14, 15, 16, 17, 18, 19, 0] rfl)
                · exfalso; exact c_5 (lTri (op := op) hV ha hbb (show cc < nn by omega) x1 x2).2
    exact hc_765 (_ + 1) 0 (Nat.lt_succ_self _) (by omega) M_762 L_762 f_762 hob hML hsm _ _ hP hD hS _ (lv_sub hl [1, 2, 3, 4, 5, 6, 7, 8, 9, 10, 11, 12, 13, 14, 15, 16, 17, 18, 19, 0] rfl)
  refine lv_aload_n hx hb dL_law_722 rfl (lv_at hl 1 rfl) ?_
  refine lv_iload hx hb dL_law_723 (lv_at hl 14 rfl) ?_
  refine lv_iload hx hb dL_law_725 (lv_at hl 10 rfl) ?_
  refine lo_i (va_runV (As := [.int (nI bb), .int (nI a)]) (rest := []) ⟨hx, hb, hml, hown, hts⟩ (c_X4_truth_o l G _ hM nn np mi fs sn ln op SS ar ww M L f bb a hob hML hV (by omega) (by omega) (by omega)) (cwV 2 hts t_X4_truth rfl rfl rfl (by decide +kernel) ⟨Nat.le_of_ble_eq_true rfl, Nat.le_of_ble_eq_true rfl⟩) (kO_V hob hML hK (hP.part (cx := []) [] rfl) (hD.part (cx := []) [] (by decide) rfl)) rfl rfl hl.1 rfl (lv_room (Nat.le_of_ble_eq_true rfl)) dL_law_727 ⟨(show k9 + 0 ≤ 600130 from by omega), (show n9 + 0 ≤ 7301080 from by omega)⟩) hP hD hS hA (fun M_727 L_727 f_727 H locs hob hfr hP hD hS => ?_)
  have hML := hfr.1
  have hsm := hsm.fr hfr
  refine W.widen (k := k9) (n := n9) (Nat.le_refl _) (Nat.le_refl _) ?_
  refine kr_top (show mTruthA (mTruth fs sn ln op np bb a) = (mTruthA (mTruth fs sn ln op np a bb)) from lSym hV ha hbb) ?_
  refine lv_iload hx hb dL_law_730 (lv_at hl 18 rfl) ?_
  refine lv_icmp_ne (tgt := 760) hx hb dL_law_732 (by decide) (fun c_6 => ?_) (fun c_6 => ?_)
  · exfalso; exact c_6 rfl
  · refine lv_iload hx hb dL_law_735 (lv_at hl 18 rfl) ?_
    refine lv_if_ne (tgt := 744) hx hb dL_law_737 (by decide) (fun c_7 => ?_) (fun c_7 => ?_)
    · have hq9 : a ≠ bb := fun z => c_7 ((lT0 hV ha hbb).mpr z)
      refine lv_iconst (v := (nI 0)) hx hb dL_law_744 (by decide) ?_
      refine lv_iload hx hb dL_law_745 (lv_at hl 10 rfl) ?_
      refine lv_iload hx hb dL_law_747 (lv_at hl 14 rfl) ?_
      refine kb_ne (tgt := 756) hx hb dL_law_749 (by decide) (by omega) (by omega) (fun c_8 => ?_) (fun c_8 => ?_)
      · refine lv_iconst (v := (nI 0)) hx hb dL_law_756 (by decide) ?_
        refine kb_eq (tgt := 762) hx hb dL_law_757 (by decide) (by decide) (by decide) (fun c_9 => ?_) (fun c_9 => ?_)
        · exact hc_762 M_727 L_727 f_727 hob hML hsm _ _ hP hD hS _ (lv_sub hl [0, 1, 2, 3, 4, 5, 6, 7, 8, 9, 10, 11, 12, 13, 14, 15, 16, 17, 18] rfl)
        · exfalso; omega
      · exfalso; omega
    · have hq9 : a = bb := (lT0 hV ha hbb).mp c_7
      refine lv_iconst (v := (nI 1)) hx hb dL_law_740 (by decide) ?_
      refine lv_goto (tgt := 745) hx hb dL_law_741 (by decide) ?_
      refine lv_iload hx hb dL_law_745 (lv_at hl 10 rfl) ?_
      refine lv_iload hx hb dL_law_747 (lv_at hl 14 rfl) ?_
      refine kb_ne (tgt := 756) hx hb dL_law_749 (by decide) (by omega) (by omega) (fun c_10 => ?_) (fun c_10 => ?_)
      · exfalso; omega
      · refine lv_iconst (v := (nI 1)) hx hb dL_law_752 (by decide) ?_
        refine lv_goto (tgt := 757) hx hb dL_law_753 (by decide) ?_
        refine kb_eq (tgt := 762) hx hb dL_law_757 (by decide) (by decide) (by decide) (fun c_11 => ?_) (fun c_11 => ?_)
        · exact hc_762 M_727 L_727 f_727 hob hML hsm _ _ hP hD hS _ (lv_sub hl [0, 1, 2, 3, 4, 5, 6, 7, 8, 9, 10, 11, 12, 13, 14, 15, 16, 17, 18] rfl)
        · exfalso; omega

set_option maxHeartbeats 4000000 in
set_option maxRecDepth 100000 in
theorem l_p4 {p : Program} {l : Launch} {e : Env} {s : State} {m : MethodId} {below : List Frame} {meth : Method} {c : Code} {A : Nat → Prop} {G : kG} {b len : Nat} {xs : Nat → Int32} {hM zs : Nat} {za zw zq zp nn np mi : Nat} {ro : Nat → Nat} {rr : Nat → Nat → Nat} {rp fs sn ln : Nat → Nat} {op : Nat → Bool} {SS : Nat → Option mS} {ar ww : Nat → Nat} (C0 : lCtx p l s m meth c A G b len xs) (hV : vInv ar fs sn ln nn np mi SS ww) (hn7 : nn ≤ 7) (hmi : mi + 1000 < 2 ^ 31) {k9 n9 : Nat} (hk9 : k9 + 20000 ≤ 600130) (hn9 : n9 + 200000 ≤ 7301080) {tm a bb x10 x11 x13 x14 x15 : Nat} {qb x9 : Bool} {x6 : Int64} (ha : a < nn) (hbb : bb < nn) (hQ : qb = true → x9 = true → ∀ x y, x < nn → y < nn → vWay SS fs sn np x y = mTruth fs sn ln op np x y) (K883 : lGo p l e s m below meth c A G b hM zs za zw zq zp nn np mi ro rr rp fs sn ln op SS ar ww k9 n9 883 [(0, .ref b), (1, .ref hM), (2, .ref zs), (3, .int (nI tm)), (5, .int (bI qb)), (6, .long x6), (8, .int (nI nn)), (9, .int (bI x9)), (10, .int (nI x10)), (11, .int (nI x11)), (12, .int (nI a)), (13, .int (nI x13)), (14, .int (nI x14)), (15, .int (nI x15)), (16, .int (nI bb)), (19, .int (mWayA (vWay SS fs sn np a bb) 0)), (20, .int (mWayA (vWay SS fs sn np a bb) 1)), (22, .int (mOI (mPost (fun i => vWay SS fs sn np i) (mSt fs sn op np) a bb))), (23, .int (mTruthA (mTruth fs sn ln op np a bb)))]) : lGo p l e s m below meth c A G b hM zs za zw zq zp nn np mi ro rr rp fs sn ln op SS ar ww k9 n9 829 [(0, .ref b), (1, .ref hM), (2, .ref zs), (3, .int (nI tm)), (5, .int (bI qb)), (6, .long x6), (8, .int (nI nn)), (9, .int (bI x9)), (10, .int (nI x10)), (11, .int (nI x11)), (12, .int (nI a)), (13, .int (nI x13)), (14, .int (nI x14)), (15, .int (nI x15)), (16, .int (nI bb)), (19, .int (mWayA (vWay SS fs sn np a bb) 0)), (20, .int (mWayA (vWay SS fs sn np a bb) 1)), (22, .int (mOI (mPost (fun i => vWay SS fs sn np i) (mSt fs sn op np) a bb))), (23, .int (mTruthA (mTruth fs sn ln op np a bb)))] := by
  obtain ⟨hx, hb, hr, hml, hown, hts, hX, hlocks, hK, hZ, hA, hA2, hbA, hlen⟩ := id C0
  intro M L f hob hML hsm H locs hP hD hS ls hl
  refine lv_iload hx hb dL_law_829 (lv_at hl 4 rfl) ?_
  refine kb_eqb (tgt := 883) hx hb dL_law_831 (by decide) (fun c_1 => ?_) (fun c_1 => ?_)
  · exact K883 M L f hob hML hsm _ _ hP hD hS _ (lv_sub hl [0, 1, 2, 3, 4, 5, 6, 7, 8, 9, 10, 11, 12, 13, 14, 15, 16, 17, 18] rfl)
  · have hb9 := c_1
    refine lv_iload hx hb dL_law_834 (lv_at hl 7 rfl) ?_
    refine kb_eqb (tgt := 883) hx hb dL_law_836 (by decide) (fun c_2 => ?_) (fun c_2 => ?_)
    · exact K883 M L f hob hML hsm _ _ hP hD hS _ (lv_sub hl [0, 1, 2, 3, 4, 5, 6, 7, 8, 9, 10, 11, 12, 13, 14, 15, 16, 17, 18] rfl)
    · have hq9 := hQ hb9 c_2
      refine lv_iload hx hb dL_law_839 (lv_at hl 15 rfl) ?_
      refine lv_iload hx hb dL_law_841 (lv_at hl 18 rfl) ?_
      refine lv_icmp_ne (tgt := 881) hx hb dL_law_843 (by decide) (fun c_3 => ?_) (fun c_3 => ?_)
      · exfalso; exact c_3 (lQw (hq9 a bb ha hbb))
      · have hl0 := hl
        rcases lQ (op := op) hV ha hbb hq9 with ⟨q8, t8, e1, e2, e3, e4, e5⟩ | ⟨e1, e2, e3⟩
        · rw [e1, e2, e3] at hl
          have hl : lv_has ls 25 [(0, .ref b), (1, .ref hM), (2, .ref zs), (3, .int (nI tm)), (5, .int (bI qb)), (6, .long x6), (8, .int (nI nn)), (9, .int (bI x9)), (10, .int (nI x10)), (11, .int (nI x11)), (12, .int (nI a)), (13, .int (nI x13)), (14, .int (nI x14)), (15, .int (nI x15)), (16, .int (nI bb)), (19, .int (mWayA (vWay SS fs sn np a bb) 0)), (20, .int (nI q8)), (22, .int (nI q8)), (23, .int (nI t8))] := hl
          refine lv_iload hx hb dL_law_846 (lv_at hl 17 rfl) ?_
          refine kb_lt0 (tgt := 855) hx hb dL_law_848 (by decide) (by omega) ?_
          refine lv_iconst (v := (nI 1)) hx hb dL_law_851 (by decide) ?_
          refine lv_goto (tgt := 856) hx hb dL_law_852 (by decide) ?_
          refine lv_iload hx hb dL_law_856 (lv_at hl 18 rfl) ?_
          refine kb_lt0 (tgt := 865) hx hb dL_law_858 (by decide) (by omega) ?_
          refine lv_iconst (v := (nI 1)) hx hb dL_law_861 (by decide) ?_
          refine lv_goto (tgt := 866) hx hb dL_law_862 (by decide) ?_
          refine kb_ne (tgt := 881) hx hb dL_law_866 (by decide) (by decide) (by decide) (fun c_4 => ?_) (fun c_4 => ?_)
          · exfalso; omega
          · refine lv_iload hx hb dL_law_869 (lv_at hl 16 rfl) ?_
            refine kb_lt0 (tgt := 883) hx hb dL_law_871 (by decide) (by omega) ?_
            refine lv_iload hx hb dL_law_874 (lv_at hl 17 rfl) ?_
            refine lv_iload hx hb dL_law_876 (lv_at hl 16 rfl) ?_
            refine kb_eq (tgt := 883) hx hb dL_law_878 (by decide) (by omega) (by omega) (fun c_5 => ?_) (fun c_5 => ?_)
            · have hl := hl0
              exact K883 M L f hob hML hsm _ _ hP hD hS _ (lv_sub hl [0, 1, 2, 3, 4, 5, 6, 7, 8, 9, 10, 11, 12, 13, 14, 15, 16, 17, 18] rfl)
            · exfalso; exact c_5 rfl
        · rw [e1, e2, e3] at hl
          have hl : lv_has ls 25 [(0, .ref b), (1, .ref hM), (2, .ref zs), (3, .int (nI tm)), (5, .int (bI qb)), (6, .long x6), (8, .int (nI nn)), (9, .int (bI x9)), (10, .int (nI x10)), (11, .int (nI x11)), (12, .int (nI a)), (13, .int (nI x13)), (14, .int (nI x14)), (15, .int (nI x15)), (16, .int (nI bb)), (19, .int (mWayA (vWay SS fs sn np a bb) 0)), (20, .int (-1)), (22, .int (-1)), (23, .int (-1))] := hl
          refine lv_iload hx hb dL_law_846 (lv_at hl 17 rfl) ?_
          refine lv_if_lt (tgt := 855) hx hb dL_law_848 (by decide) (fun c_6 => ?_) (fun c_6 => ?_)
          · refine lv_iconst (v := (nI 0)) hx hb dL_law_855 (by decide) ?_
            refine lv_iload hx hb dL_law_856 (lv_at hl 18 rfl) ?_
            refine lv_if_lt (tgt := 865) hx hb dL_law_858 (by decide) (fun c_7 => ?_) (fun c_7 => ?_)
            · refine lv_iconst (v := (nI 0)) hx hb dL_law_865 (by decide) ?_
              refine kb_ne (tgt := 881) hx hb dL_law_866 (by decide) (by decide) (by decide) (fun c_8 => ?_) (fun c_8 => ?_)
              · exfalso; omega
              · refine lv_iload hx hb dL_law_869 (lv_at hl 16 rfl) ?_
                refine lv_if_lt (tgt := 883) hx hb dL_law_871 (by decide) (fun c_9 => ?_) (fun c_9 => ?_)
                · have hl := hl0
                  exact K883 M L f hob hML hsm _ _ hP hD hS _ (lv_sub hl [0, 1, 2, 3, 4, 5, 6, 7, 8, 9, 10, 11, 12, 13, 14, 15, 16, 17, 18] rfl)
                · exfalso; exact c_9 (by decide)
            · exfalso; exact c_7 (by decide)
          · exfalso; exact c_6 (by decide)

set_option maxHeartbeats 4000000 in
set_option maxRecDepth 100000 in
theorem l_p5 {p : Program} {l : Launch} {e : Env} {s : State} {m : MethodId} {below : List Frame} {meth : Method} {c : Code} {A : Nat → Prop} {G : kG} {b len : Nat} {xs : Nat → Int32} {hM zs : Nat} {za zw zq zp nn np mi : Nat} {ro : Nat → Nat} {rr : Nat → Nat → Nat} {rp fs sn ln : Nat → Nat} {op : Nat → Bool} {SS : Nat → Option mS} {ar ww : Nat → Nat} (C0 : lCtx p l s m meth c A G b len xs) (hV : vInv ar fs sn ln nn np mi SS ww) (hn7 : nn ≤ 7) (hmi : mi + 1000 < 2 ^ 31) {k9 n9 : Nat} (hk9 : k9 + 20000 ≤ 600130) (hn9 : n9 + 200000 ≤ 7301080) {tm a bb x10 x13 : Nat} {qb x9 : Bool} {x6 : Int64} (ha : a < nn) (hbb : bb < nn) (K222 : lGo p l e s m below meth c A G b hM zs za zw zq zp nn np mi ro rr rp fs sn ln op SS ar ww k9 n9 222 [(0, .ref b), (1, .ref hM), (2, .ref zs), (3, .int (nI tm)), (5, .int (bI qb)), (6, .long x6), (8, .int (nI nn)), (9, .int (bI x9)), (10, .int (nI x10)), (11, .int (nI (mSum (fun a => mCnt (fun b => a != b && (mTruth fs sn ln op np a b != 1073741824)) nn) a + mCnt (fun k => a != k && (mTruth fs sn ln op np a k != 1073741824)) (bb + 1)))), (12, .int (nI a)), (13, .int (nI x13)), (14, .int (nI (mCnt (fun k => vWay SS fs sn np a k != 1073741824) (bb + 1)))), (15, .int (nI (mCnt (fun k => (mPost (fun i => vWay SS fs sn np i) (mSt fs sn op np) a k).isSome) (bb + 1)))), (16, .int (nI (bb + 1)))]) : lGo p l e s m below meth c A G b hM zs za zw zq zp nn np mi ro rr rp fs sn ln op SS ar ww k9 n9 883 [(0, .ref b), (1, .ref hM), (2, .ref zs), (3, .int (nI tm)), (5, .int (bI qb)), (6, .long x6), (8, .int (nI nn)), (9, .int (bI x9)), (10, .int (nI x10)), (11, .int (nI (mSum (fun a => mCnt (fun b => a != b && (mTruth fs sn ln op np a b != 1073741824)) nn) a + mCnt (fun k => a != k && (mTruth fs sn ln op np a k != 1073741824)) bb))), (12, .int (nI a)), (13, .int (nI x13)), (14, .int (nI (mCnt (fun k => vWay SS fs sn np a k != 1073741824) bb))), (15, .int (nI (mCnt (fun k => (mPost (fun i => vWay SS fs sn np i) (mSt fs sn op np) a k).isSome) bb))), (16, .int (nI bb)), (19, .int (mWayA (vWay SS fs sn np a bb) 0)), (20, .int (mWayA (vWay SS fs sn np a bb) 1)), (22, .int (mOI (mPost (fun i => vWay SS fs sn np i) (mSt fs sn op np) a bb))), (23, .int (mTruthA (mTruth fs sn ln op np a bb)))] := by
  obtain ⟨hx, hb, hr, hml, hown, hts, hX, hlocks, hK, hZ, hA, hA2, hbA, hlen⟩ := id C0
  intro M L f hob hML hsm H locs hP hD hS ls hl
  have hc_898 : lGo p l e s m below meth c A G b hM zs za zw zq zp nn np mi ro rr rp fs sn ln op SS ar ww k9 n9 898 [(0, .ref b), (1, .ref hM), (2, .ref zs), (3, .int (nI tm)), (5, .int (bI qb)), (6, .long x6), (8, .int (nI nn)), (9, .int (bI x9)), (10, .int (nI x10)), (11, .int (nI (mSum (fun a => mCnt (fun b => a != b && (mTruth fs sn ln op np a b != 1073741824)) nn) a + mCnt (fun k => a != k && (mTruth fs sn ln op np a k != 1073741824)) bb))), (12, .int (nI a)), (13, .int (nI x13)), (14, .int (nI (mCnt (fun k => vWay SS fs sn np a k != 1073741824) (bb + 1)))), (15, .int (nI (mCnt (fun k => (mPost (fun i => vWay SS fs sn np i) (mSt fs sn op np) a k).isSome) bb))), (16, .int (nI bb)), (19, .int (mWayA (vWay SS fs sn np a bb) 0)), (20, .int (mWayA (vWay SS fs sn np a bb) 1)), (22, .int (mOI (mPost (fun i => vWay SS fs sn np i) (mSt fs sn op np) a bb))), (23, .int (mTruthA (mTruth fs sn ln op np a bb)))] := by
    intro M_898 L_898 f_898 hob hML hsm H locs hP hD hS ls hl
    have hc_913 : lGo p l e s m below meth c A G b hM zs za zw zq zp nn np mi ro rr rp fs sn ln op SS ar ww k9 n9 913 [(0, .ref b), (1, .ref hM), (2, .ref zs), (3, .int (nI tm)), (5, .int (bI qb)), (6, .long x6), (8, .int (nI nn)), (9, .int (bI x9)), (10, .int (nI x10)), (11, .int (nI (mSum (fun a => mCnt (fun b => a != b && (mTruth fs sn ln op np a b != 1073741824)) nn) a + mCnt (fun k => a != k && (mTruth fs sn ln op np a k != 1073741824)) bb))), (12, .int (nI a)), (13, .int (nI x13)), (14, .int (nI (mCnt (fun k => vWay SS fs sn np a k != 1073741824) (bb + 1)))), (15, .int (nI (mCnt (fun k => (mPost (fun i => vWay SS fs sn np i) (mSt fs sn op np) a k).isSome) (bb + 1)))), (16, .int (nI bb)), (19, .int (mWayA (vWay SS fs sn np a bb) 0)), (20, .int (mWayA (vWay SS fs sn np a bb) 1)), (22, .int (mOI (mPost (fun i => vWay SS fs sn np i) (mSt fs sn op np) a bb))), (23, .int (mTruthA (mTruth fs sn ln op np a bb)))] := by
      intro M_913 L_913 f_913 hob hML hsm H locs hP hD hS ls hl
      have hc_935 : lGo p l e s m below meth c A G b hM zs za zw zq zp nn np mi ro rr rp fs sn ln op SS ar ww k9 n9 935 [(0, .ref b), (1, .ref hM), (2, .ref zs), (3, .int (nI tm)), (5, .int (bI qb)), (6, .long x6), (8, .int (nI nn)), (9, .int (bI x9)), (10, .int (nI x10)), (11, .int (nI (mSum (fun a => mCnt (fun b => a != b && (mTruth fs sn ln op np a b != 1073741824)) nn) a + mCnt (fun k => a != k && (mTruth fs sn ln op np a k != 1073741824)) (bb + 1)))), (12, .int (nI a)), (13, .int (nI x13)), (14, .int (nI (mCnt (fun k => vWay SS fs sn np a k != 1073741824) (bb + 1)))), (15, .int (nI (mCnt (fun k => (mPost (fun i => vWay SS fs sn np i) (mSt fs sn op np) a k).isSome) (bb + 1)))), (16, .int (nI bb)), (19, .int (mWayA (vWay SS fs sn np a bb) 0)), (20, .int (mWayA (vWay SS fs sn np a bb) 1)), (22, .int (mOI (mPost (fun i => vWay SS fs sn np i) (mSt fs sn op np) a bb))), (23, .int (mTruthA (mTruth fs sn ln op np a bb)))] := by
        intro M_935 L_935 f_935 hob hML hsm H locs hP hD hS ls hl
        refine lv_iinc (k := 14) (v := (nI (bb + 1))) (lv' := [(16, .int (nI (bb + 1))), (0, .ref b), (1, .ref hM), (2, .ref zs), (3, .int (nI tm)), (5, .int (bI qb)), (6, .long x6), (8, .int (nI nn)), (9, .int (bI x9)), (10, .int (nI x10)), (11, .int (nI (mSum (fun a => mCnt (fun b => a != b && (mTruth fs sn ln op np a b != 1073741824)) nn) a + mCnt (fun k => a != k && (mTruth fs sn ln op np a k != 1073741824)) (bb + 1)))), (12, .int (nI a)), (13, .int (nI x13)), (14, .int (nI (mCnt (fun k => vWay SS fs sn np a k != 1073741824) (bb + 1)))), (15, .int (nI (mCnt (fun k => (mPost (fun i => vWay SS fs sn np i) (mSt fs sn op np) a k).isSome) (bb + 1)))), (19, .int (mWayA (vWay SS fs sn np a bb) 0)), (20, .int (mWayA (vWay SS fs sn np a bb) 1)), (22, .int (mOI (mPost (fun i => vWay SS fs sn np i) (mSt fs sn op np) a bb))), (23, .int (mTruthA (mTruth fs sn ln op np a bb)))]) hx hb dL_law_935 hl rfl (kn_inc bb) (by decide) rfl (fun ls hl => ?_)
        refine lv_goto (tgt := 222) hx hb dL_law_938 (by decide) ?_
        exact K222 M_935 L_935 f_935 hob hML hsm _ _ hP hD hS _ (lv_sub hl [1, 2, 3, 4, 5, 6, 7, 8, 9, 10, 11, 12, 13, 14, 0] rfl)
      refine lv_iload hx hb dL_law_913 (lv_at hl 9 rfl) ?_
      refine lv_iload hx hb dL_law_915 (lv_at hl 10 rfl) ?_
      refine lv_iload hx hb dL_law_917 (lv_at hl 14 rfl) ?_
      refine kb_eq (tgt := 931) hx hb dL_law_919 (by decide) (by omega) (by omega) (fun c_1 => ?_) (fun c_1 => ?_)
      · have hz9 : (fun k => a != k && (mTruth fs sn ln op np a k != 1073741824)) bb = false := by show (a != bb && _) = false; rw [show (a != bb) = false by simp [c_1]]; rfl
        refine lv_iconst (v := (nI 0)) hx hb dL_law_931 (by decide) ?_
        refine lv_iadd hx hb dL_law_932 ?_
        refine kr_top (y := (nI (mSum (fun a => mCnt (fun b => a != b && (mTruth fs sn ln op np a b != 1073741824)) nn) a + mCnt (fun k => a != k && (mTruth fs sn ln op np a k != 1073741824)) (bb + 1)))) ((nI_add _ _).trans (congrArg nI (show mSum (fun a => mCnt (fun b => a != b && (mTruth fs sn ln op np a b != 1073741824)) nn) a + mCnt (fun k => a != k && (mTruth fs sn ln op np a k != 1073741824)) bb + 0 = mSum (fun a => mCnt (fun b => a != b && (mTruth fs sn ln op np a b != 1073741824)) nn) a + mCnt (fun k => a != k && (mTruth fs sn ln op np a k != 1073741824)) (bb + 1) from by rw [mCnt_f (P := (fun k => a != k && (mTruth fs sn ln op np a k != 1073741824))) (n := bb) hz9]; exact Nat.add_zero _))) ?_
        refine lv_istore (lv' := [(11, .int (nI (mSum (fun a => mCnt (fun b => a != b && (mTruth fs sn ln op np a b != 1073741824)) nn) a + mCnt (fun k => a != k && (mTruth fs sn ln op np a k != 1073741824)) (bb + 1)))), (0, .ref b), (1, .ref hM), (2, .ref zs), (3, .int (nI tm)), (5, .int (bI qb)), (6, .long x6), (8, .int (nI nn)), (9, .int (bI x9)), (10, .int (nI x10)), (12, .int (nI a)), (13, .int (nI x13)), (14, .int (nI (mCnt (fun k => vWay SS fs sn np a k != 1073741824) (bb + 1)))), (15, .int (nI (mCnt (fun k => (mPost (fun i => vWay SS fs sn np i) (mSt fs sn op np) a k).isSome) (bb + 1)))), (16, .int (nI bb)), (19, .int (mWayA (vWay SS fs sn np a bb) 0)), (20, .int (mWayA (vWay SS fs sn np a bb) 1)), (22, .int (mOI (mPost (fun i => vWay SS fs sn np i) (mSt fs sn op np) a bb))), (23, .int (mTruthA (mTruth fs sn ln op np a bb)))]) hx hb dL_law_933 hl (by decide) rfl (fun ls hl => ?_)
        exact hc_935 M_913 L_913 f_913 hob hML hsm _ _ hP hD hS _ (lv_sub hl [1, 2, 3, 4, 5, 6, 7, 8, 9, 0, 10, 11, 12, 13, 14, 15, 16, 17, 18] rfl)
      · have hn8 : a ≠ bb := c_1
        refine lv_iload hx hb dL_law_922 (lv_at hl 18 rfl) ?_
        refine lv_if_lt (tgt := 931) hx hb dL_law_924 (by decide) (fun c_2 => ?_) (fun c_2 => ?_)
        · have hz9 : (fun k => a != k && (mTruth fs sn ln op np a k != 1073741824)) bb = false := by show (a != bb && (mTruth fs sn ln op np a bb != 1073741824)) = false; rw [lT_n (lSmall hV.1.2.2.2.2.1 (lBestT (op := op) hV ha hbb)) c_2]; simp
          refine lv_iconst (v := (nI 0)) hx hb dL_law_931 (by decide) ?_
          refine lv_iadd hx hb dL_law_932 ?_
          refine kr_top (y := (nI (mSum (fun a => mCnt (fun b => a != b && (mTruth fs sn ln op np a b != 1073741824)) nn) a + mCnt (fun k => a != k && (mTruth fs sn ln op np a k != 1073741824)) (bb + 1)))) ((nI_add _ _).trans (congrArg nI (show mSum (fun a => mCnt (fun b => a != b && (mTruth fs sn ln op np a b != 1073741824)) nn) a + mCnt (fun k => a != k && (mTruth fs sn ln op np a k != 1073741824)) bb + 0 = mSum (fun a => mCnt (fun b => a != b && (mTruth fs sn ln op np a b != 1073741824)) nn) a + mCnt (fun k => a != k && (mTruth fs sn ln op np a k != 1073741824)) (bb + 1) from by rw [mCnt_f (P := (fun k => a != k && (mTruth fs sn ln op np a k != 1073741824))) (n := bb) hz9]; exact Nat.add_zero _))) ?_
          refine lv_istore (lv' := [(11, .int (nI (mSum (fun a => mCnt (fun b => a != b && (mTruth fs sn ln op np a b != 1073741824)) nn) a + mCnt (fun k => a != k && (mTruth fs sn ln op np a k != 1073741824)) (bb + 1)))), (0, .ref b), (1, .ref hM), (2, .ref zs), (3, .int (nI tm)), (5, .int (bI qb)), (6, .long x6), (8, .int (nI nn)), (9, .int (bI x9)), (10, .int (nI x10)), (12, .int (nI a)), (13, .int (nI x13)), (14, .int (nI (mCnt (fun k => vWay SS fs sn np a k != 1073741824) (bb + 1)))), (15, .int (nI (mCnt (fun k => (mPost (fun i => vWay SS fs sn np i) (mSt fs sn op np) a k).isSome) (bb + 1)))), (16, .int (nI bb)), (19, .int (mWayA (vWay SS fs sn np a bb) 0)), (20, .int (mWayA (vWay SS fs sn np a bb) 1)), (22, .int (mOI (mPost (fun i => vWay SS fs sn np i) (mSt fs sn op np) a bb))), (23, .int (mTruthA (mTruth fs sn ln op np a bb)))]) hx hb dL_law_933 hl (by decide) rfl (fun ls hl => ?_)
          exact hc_935 M_913 L_913 f_913 hob hML hsm _ _ hP hD hS _ (lv_sub hl [1, 2, 3, 4, 5, 6, 7, 8, 9, 0, 10, 11, 12, 13, 14, 15, 16, 17, 18] rfl)
        · have hz9 : (fun k => a != k && (mTruth fs sn ln op np a k != 1073741824)) bb = true := by show (a != bb && (mTruth fs sn ln op np a bb != 1073741824)) = true; rw [bne_iff_ne.mpr hn8, bne_iff_ne.mpr (lT_s c_2).1]; rfl
          refine lv_iconst (v := (nI 1)) hx hb dL_law_927 (by decide) ?_
          refine lv_goto (tgt := 932) hx hb dL_law_928 (by decide) ?_
          refine lv_iadd hx hb dL_law_932 ?_
          refine kr_top (y := (nI (mSum (fun a => mCnt (fun b => a != b && (mTruth fs sn ln op np a b != 1073741824)) nn) a + mCnt (fun k => a != k && (mTruth fs sn ln op np a k != 1073741824)) (bb + 1)))) ((nI_add _ _).trans (congrArg nI (show mSum (fun a => mCnt (fun b => a != b && (mTruth fs sn ln op np a b != 1073741824)) nn) a + mCnt (fun k => a != k && (mTruth fs sn ln op np a k != 1073741824)) bb + 1 = mSum (fun a => mCnt (fun b => a != b && (mTruth fs sn ln op np a b != 1073741824)) nn) a + mCnt (fun k => a != k && (mTruth fs sn ln op np a k != 1073741824)) (bb + 1) from by rw [mCnt_t (P := (fun k => a != k && (mTruth fs sn ln op np a k != 1073741824))) (n := bb) hz9]; exact Nat.add_assoc _ _ _))) ?_
          refine lv_istore (lv' := [(11, .int (nI (mSum (fun a => mCnt (fun b => a != b && (mTruth fs sn ln op np a b != 1073741824)) nn) a + mCnt (fun k => a != k && (mTruth fs sn ln op np a k != 1073741824)) (bb + 1)))), (0, .ref b), (1, .ref hM), (2, .ref zs), (3, .int (nI tm)), (5, .int (bI qb)), (6, .long x6), (8, .int (nI nn)), (9, .int (bI x9)), (10, .int (nI x10)), (12, .int (nI a)), (13, .int (nI x13)), (14, .int (nI (mCnt (fun k => vWay SS fs sn np a k != 1073741824) (bb + 1)))), (15, .int (nI (mCnt (fun k => (mPost (fun i => vWay SS fs sn np i) (mSt fs sn op np) a k).isSome) (bb + 1)))), (16, .int (nI bb)), (19, .int (mWayA (vWay SS fs sn np a bb) 0)), (20, .int (mWayA (vWay SS fs sn np a bb) 1)), (22, .int (mOI (mPost (fun i => vWay SS fs sn np i) (mSt fs sn op np) a bb))), (23, .int (mTruthA (mTruth fs sn ln op np a bb)))]) hx hb dL_law_933 hl (by decide) rfl (fun ls hl => ?_)
          exact hc_935 M_913 L_913 f_913 hob hML hsm _ _ hP hD hS _ (lv_sub hl [1, 2, 3, 4, 5, 6, 7, 8, 9, 0, 10, 11, 12, 13, 14, 15, 16, 17, 18] rfl)
    refine lv_iload hx hb dL_law_898 (lv_at hl 13 rfl) ?_
    refine lv_iload hx hb dL_law_900 (lv_at hl 17 rfl) ?_
    refine lv_if_lt (tgt := 909) hx hb dL_law_902 (by decide) (fun c_3 => ?_) (fun c_3 => ?_)
    · have hz9 : (fun k => (mPost (fun i => vWay SS fs sn np i) (mSt fs sn op np) a k).isSome) bb = false := mPost_n c_3
      refine lv_iconst (v := (nI 0)) hx hb dL_law_909 (by decide) ?_
      refine lv_iadd hx hb dL_law_910 ?_
      refine kr_top (y := (nI (mCnt (fun k => (mPost (fun i => vWay SS fs sn np i) (mSt fs sn op np) a k).isSome) (bb + 1)))) ((nI_add _ _).trans (congrArg nI (mCnt_f (P := (fun k => (mPost (fun i => vWay SS fs sn np i) (mSt fs sn op np) a k).isSome)) (n := bb) hz9).symm)) ?_
      refine lv_istore (lv' := [(15, .int (nI (mCnt (fun k => (mPost (fun i => vWay SS fs sn np i) (mSt fs sn op np) a k).isSome) (bb + 1)))), (0, .ref b), (1, .ref hM), (2, .ref zs), (3, .int (nI tm)), (5, .int (bI qb)), (6, .long x6), (8, .int (nI nn)), (9, .int (bI x9)), (10, .int (nI x10)), (11, .int (nI (mSum (fun a => mCnt (fun b => a != b && (mTruth fs sn ln op np a b != 1073741824)) nn) a + mCnt (fun k => a != k && (mTruth fs sn ln op np a k != 1073741824)) bb))), (12, .int (nI a)), (13, .int (nI x13)), (14, .int (nI (mCnt (fun k => vWay SS fs sn np a k != 1073741824) (bb + 1)))), (16, .int (nI bb)), (19, .int (mWayA (vWay SS fs sn np a bb) 0)), (20, .int (mWayA (vWay SS fs sn np a bb) 1)), (22, .int (mOI (mPost (fun i => vWay SS fs sn np i) (mSt fs sn op np) a bb))), (23, .int (mTruthA (mTruth fs sn ln op np a bb)))]) hx hb dL_law_911 hl (by decide) rfl (fun ls hl => ?_)
      exact hc_913 M_898 L_898 f_898 hob hML hsm _ _ hP hD hS _ (lv_sub hl [1, 2, 3, 4, 5, 6, 7, 8, 9, 10, 11, 12, 13, 0, 14, 15, 16, 17, 18] rfl)
    · have hz9 : (fun k => (mPost (fun i => vWay SS fs sn np i) (mSt fs sn op np) a k).isSome) bb = true := mPost_s c_3
      refine lv_iconst (v := (nI 1)) hx hb dL_law_905 (by decide) ?_
      refine lv_goto (tgt := 910) hx hb dL_law_906 (by decide) ?_
      refine lv_iadd hx hb dL_law_910 ?_
      refine kr_top (y := (nI (mCnt (fun k => (mPost (fun i => vWay SS fs sn np i) (mSt fs sn op np) a k).isSome) (bb + 1)))) ((nI_add _ _).trans (congrArg nI (mCnt_t (P := (fun k => (mPost (fun i => vWay SS fs sn np i) (mSt fs sn op np) a k).isSome)) (n := bb) hz9).symm)) ?_
      refine lv_istore (lv' := [(15, .int (nI (mCnt (fun k => (mPost (fun i => vWay SS fs sn np i) (mSt fs sn op np) a k).isSome) (bb + 1)))), (0, .ref b), (1, .ref hM), (2, .ref zs), (3, .int (nI tm)), (5, .int (bI qb)), (6, .long x6), (8, .int (nI nn)), (9, .int (bI x9)), (10, .int (nI x10)), (11, .int (nI (mSum (fun a => mCnt (fun b => a != b && (mTruth fs sn ln op np a b != 1073741824)) nn) a + mCnt (fun k => a != k && (mTruth fs sn ln op np a k != 1073741824)) bb))), (12, .int (nI a)), (13, .int (nI x13)), (14, .int (nI (mCnt (fun k => vWay SS fs sn np a k != 1073741824) (bb + 1)))), (16, .int (nI bb)), (19, .int (mWayA (vWay SS fs sn np a bb) 0)), (20, .int (mWayA (vWay SS fs sn np a bb) 1)), (22, .int (mOI (mPost (fun i => vWay SS fs sn np i) (mSt fs sn op np) a bb))), (23, .int (mTruthA (mTruth fs sn ln op np a bb)))]) hx hb dL_law_911 hl (by decide) rfl (fun ls hl => ?_)
      exact hc_913 M_898 L_898 f_898 hob hML hsm _ _ hP hD hS _ (lv_sub hl [1, 2, 3, 4, 5, 6, 7, 8, 9, 10, 11, 12, 13, 0, 14, 15, 16, 17, 18] rfl)
  refine lv_iload hx hb dL_law_883 (lv_at hl 12 rfl) ?_
  refine lv_iload hx hb dL_law_885 (lv_at hl 15 rfl) ?_
  refine lv_if_lt (tgt := 894) hx hb dL_law_887 (by decide) (fun c_4 => ?_) (fun c_4 => ?_)
  · have hz9 : (fun k => vWay SS fs sn np a k != 1073741824) bb = false := by show (vWay SS fs sn np a bb != 1073741824) = false; rw [lW_n (lSmall hV.1.2.2.2.2.1 (lBestH hV ha hbb)) c_4]; rfl
    refine lv_iconst (v := (nI 0)) hx hb dL_law_894 (by decide) ?_
    refine lv_iadd hx hb dL_law_895 ?_
    refine kr_top (y := (nI (mCnt (fun k => vWay SS fs sn np a k != 1073741824) (bb + 1)))) ((nI_add _ _).trans (congrArg nI (mCnt_f (P := (fun k => vWay SS fs sn np a k != 1073741824)) (n := bb) hz9).symm)) ?_
    refine lv_istore (lv' := [(14, .int (nI (mCnt (fun k => vWay SS fs sn np a k != 1073741824) (bb + 1)))), (0, .ref b), (1, .ref hM), (2, .ref zs), (3, .int (nI tm)), (5, .int (bI qb)), (6, .long x6), (8, .int (nI nn)), (9, .int (bI x9)), (10, .int (nI x10)), (11, .int (nI (mSum (fun a => mCnt (fun b => a != b && (mTruth fs sn ln op np a b != 1073741824)) nn) a + mCnt (fun k => a != k && (mTruth fs sn ln op np a k != 1073741824)) bb))), (12, .int (nI a)), (13, .int (nI x13)), (15, .int (nI (mCnt (fun k => (mPost (fun i => vWay SS fs sn np i) (mSt fs sn op np) a k).isSome) bb))), (16, .int (nI bb)), (19, .int (mWayA (vWay SS fs sn np a bb) 0)), (20, .int (mWayA (vWay SS fs sn np a bb) 1)), (22, .int (mOI (mPost (fun i => vWay SS fs sn np i) (mSt fs sn op np) a bb))), (23, .int (mTruthA (mTruth fs sn ln op np a bb)))]) hx hb dL_law_896 hl (by decide) rfl (fun ls hl => ?_)
    exact hc_898 M L f hob hML hsm _ _ hP hD hS _ (lv_sub hl [1, 2, 3, 4, 5, 6, 7, 8, 9, 10, 11, 12, 0, 13, 14, 15, 16, 17, 18] rfl)
  · have hz9 : (fun k => vWay SS fs sn np a k != 1073741824) bb = true := bne_iff_ne.mpr (lW_s c_4)
    refine lv_iconst (v := (nI 1)) hx hb dL_law_890 (by decide) ?_
    refine lv_goto (tgt := 895) hx hb dL_law_891 (by decide) ?_
    refine lv_iadd hx hb dL_law_895 ?_
    refine kr_top (y := (nI (mCnt (fun k => vWay SS fs sn np a k != 1073741824) (bb + 1)))) ((nI_add _ _).trans (congrArg nI (mCnt_t (P := (fun k => vWay SS fs sn np a k != 1073741824)) (n := bb) hz9).symm)) ?_
    refine lv_istore (lv' := [(14, .int (nI (mCnt (fun k => vWay SS fs sn np a k != 1073741824) (bb + 1)))), (0, .ref b), (1, .ref hM), (2, .ref zs), (3, .int (nI tm)), (5, .int (bI qb)), (6, .long x6), (8, .int (nI nn)), (9, .int (bI x9)), (10, .int (nI x10)), (11, .int (nI (mSum (fun a => mCnt (fun b => a != b && (mTruth fs sn ln op np a b != 1073741824)) nn) a + mCnt (fun k => a != k && (mTruth fs sn ln op np a k != 1073741824)) bb))), (12, .int (nI a)), (13, .int (nI x13)), (15, .int (nI (mCnt (fun k => (mPost (fun i => vWay SS fs sn np i) (mSt fs sn op np) a k).isSome) bb))), (16, .int (nI bb)), (19, .int (mWayA (vWay SS fs sn np a bb) 0)), (20, .int (mWayA (vWay SS fs sn np a bb) 1)), (22, .int (mOI (mPost (fun i => vWay SS fs sn np i) (mSt fs sn op np) a bb))), (23, .int (mTruthA (mTruth fs sn ln op np a bb)))]) hx hb dL_law_896 hl (by decide) rfl (fun ls hl => ?_)
    exact hc_898 M L f hob hML hsm _ _ hP hD hS _ (lv_sub hl [1, 2, 3, 4, 5, 6, 7, 8, 9, 10, 11, 12, 0, 13, 14, 15, 16, 17, 18] rfl)
