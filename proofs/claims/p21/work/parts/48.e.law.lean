set_option maxHeartbeats 4000000 in
set_option maxRecDepth 100000 in
theorem l_pz {p : Program} {l : Launch} {e : Env} {s : State} {m : MethodId} {below : List Frame} {meth : Method} {c : Code} {A : Nat → Prop} {G : kG} {b len : Nat} {xs : Nat → Int32} {hM zs : Nat} {za zw zq zp nn np mi : Nat} {ro : Nat → Nat} {rr : Nat → Nat → Nat} {rp fs sn ln : Nat → Nat} {op : Nat → Bool} {SS : Nat → Option mS} {ar ww : Nat → Nat} (C0 : lCtx p l s m meth c A G b len xs) (hV : vInv ar fs sn ln nn np mi SS ww) (hn7 : nn ≤ 7) (hmi : mi + 1000 < 2 ^ 31) {k9 n9 : Nat} (hk9 : k9 + 20000 ≤ 600130) (hn9 : n9 + 200000 ≤ 7301080) {tm : Nat} {qb : Bool}  (K22 : lGo p l e s m below meth c A G b hM zs za zw zq zp nn np mi ro rr rp fs sn ln op SS ar ww (k9 + 2000) (n9 + 23000) 22 [(0, .ref b), (1, .ref hM), (2, .ref zs), (3, .int (nI (tm + 1)))]) : lGo p l e s m below meth c A G b hM zs za zw zq zp nn np mi ro rr rp fs sn ln op SS ar ww k9 n9 1001 [(0, .ref b), (1, .ref hM), (2, .ref zs), (3, .int (nI tm)), (5, .int (bI qb)), (6, .long (vDig mi nn np fs sn ln op SS ar ww)), (8, .int (nI nn)), (9, .int (bI (!mAny (fun j => decide (0 < ar j)) nn))), (10, .int (nI (mSum (fun a => mCnt (fun b => a != b && (mPost (fun i => vWay SS fs sn np i) (mSt fs sn op np) a b).isSome) nn) nn))), (11, .int (nI (mSum (fun a => mCnt (fun b => a != b && (mTruth fs sn ln op np a b != 1073741824)) nn) nn)))] := by
  obtain ⟨hx, hb, hr, hml, hown, hts, hX, hlocks, hK, hZ, hA, hA2, hbA, hlen⟩ := id C0
  intro M L f hob hML hsm H locs hP hD hS ls hl
  have hl1 : mSum (fun a => mCnt (fun b => a != b && (mPost (fun i => vWay SS fs sn np i) (mSt fs sn op np) a b).isSome) nn) nn ≤ 49 := lPairsLe hn7 _
  have hl2 : mSum (fun a => mCnt (fun b => a != b && (mTruth fs sn ln op np a b != 1073741824)) nn) nn ≤ 49 := lPairsLe hn7 _
  have hl3 : mSum (fun a => mCnt (fun b => a != b && (mPost (fun i => vWay SS fs sn np i) (mSt fs sn op np) a b).isSome) nn) nn ≤ mSum (fun a => mCnt (fun b => a != b && (mTruth fs sn ln op np a b != 1073741824)) nn) nn := lLP (op := op) hV
  have hnp := hV.1.2.2.2.2.2
  refine lv_aload_n hx hb dL_law_1001 rfl (lv_at hl 1 rfl) ?_
  refine lv_iconst (v := (nI 5)) hx hb dL_law_1002 (by decide) ?_
  refine lo_i (va_runV (As := [.int (nI 5)]) (rest := []) ⟨hx, hb, hml, hown, hts⟩ (c_X4_count_o l G _ hM nn np mi fs sn ln op SS ar ww M L f 5 hob hML hV (by omega) (by omega)) (cwV 1 hts t_X4_count rfl rfl rfl (by decide +kernel) ⟨Nat.le_of_ble_eq_true rfl, Nat.le_of_ble_eq_true rfl⟩) (kO_V hob hML hK (hP.part (cx := []) [] rfl) (hD.part (cx := []) [] (by decide) rfl)) rfl rfl hl.1 rfl (lv_room (Nat.le_of_ble_eq_true rfl)) dL_law_1003 ⟨(show k9 + 0 ≤ 600130 from by omega), (show n9 + 0 ≤ 7301080 from by omega)⟩) hP hD hS hA (fun M_1003 L_1003 f_1003 H locs hob hfr hP hD hS => ?_)
  have hML := hfr.1
  have hsm := hsm.fr hfr
  refine W.widen (k := k9) (n := n9) (Nat.le_refl _) (Nat.le_refl _) ?_
  refine kr_top (show vCount mi nn np op fs sn SS (fun i => vWay SS fs sn np i) (mSt fs sn op np) 5 = (nI (mSum (fun a => mCnt (fun b => a != b && (mPost (fun i => vWay SS fs sn np i) (mSt fs sn op np) a b).isSome) nn) nn)) from rfl) ?_
  refine lv_iload hx hb dL_law_1006 (lv_at hl 8 rfl) ?_
  refine kb_ne (tgt := 1029) hx hb dL_law_1008 (by decide) (by omega) (by omega) (fun c_1 => ?_) (fun c_1 => ?_)
  · exfalso; exact c_1 rfl
  · refine lv_aload_n hx hb dL_law_1011 rfl (lv_at hl 1 rfl) ?_
    refine lv_bipush (v := (nI 6)) hx hb dL_law_1012 (by decide) ?_
    refine lo_i (va_runV (As := [.int (nI 6)]) (rest := []) ⟨hx, hb, hml, hown, hts⟩ (c_X4_count_o l G _ hM nn np mi fs sn ln op SS ar ww M_1003 L_1003 f_1003 6 hob hML hV (by omega) (by omega)) (cwV 1 hts t_X4_count rfl rfl rfl (by decide +kernel) ⟨Nat.le_of_ble_eq_true rfl, Nat.le_of_ble_eq_true rfl⟩) (kO_V hob hML hK (hP.part (cx := []) [] rfl) (hD.part (cx := []) [] (by decide) rfl)) rfl rfl hl.1 rfl (lv_room (Nat.le_of_ble_eq_true rfl)) dL_law_1014 ⟨(show k9 + 0 ≤ 600130 from by omega), (show n9 + 0 ≤ 7301080 from by omega)⟩) hP hD hS hA (fun M_1014 L_1014 f_1014 H locs hob hfr hP hD hS => ?_)
    have hML := hfr.1
    have hsm := hsm.fr hfr
    refine W.widen (k := k9) (n := n9) (Nat.le_refl _) (Nat.le_refl _) ?_
    refine kr_top (show vCount mi nn np op fs sn SS (fun i => vWay SS fs sn np i) (mSt fs sn op np) 6 = (nI (mSum (fun a => mCnt (fun b => a != b && (mTruth fs sn ln op np a b != 1073741824)) nn) nn)) from congrArg nI (lJoin hV)) ?_
    refine lv_iload hx hb dL_law_1017 (lv_at hl 9 rfl) ?_
    refine kb_ne (tgt := 1029) hx hb dL_law_1019 (by decide) (by omega) (by omega) (fun c_2 => ?_) (fun c_2 => ?_)
    · exfalso; exact c_2 rfl
    · refine lv_iload hx hb dL_law_1022 (lv_at hl 8 rfl) ?_
      refine lv_iload hx hb dL_law_1024 (lv_at hl 9 rfl) ?_
      refine kb_le (tgt := 1031) hx hb dL_law_1026 (by decide) (by omega) (by omega) (fun c_3 => ?_) (fun c_3 => ?_)
      · refine lv_aload_n hx hb dL_law_1031 rfl (lv_at hl 1 rfl) ?_
        refine lo_i (va_runV (As := []) (rest := []) ⟨hx, hb, hml, hown, hts⟩ (c_X4_settles_o l G _ hM nn np mi fs sn ln op SS ar ww M_1014 L_1014 f_1014 hob hML hV (by omega)) (cwV 0 hts t_X4_settles rfl rfl rfl (by decide +kernel) ⟨Nat.le_of_ble_eq_true rfl, Nat.le_of_ble_eq_true rfl⟩) (kO_V hob hML hK (hP.part (cx := []) [] rfl) (hD.part (cx := []) [] (by decide) rfl)) rfl rfl hl.1 rfl (lv_room (Nat.le_of_ble_eq_true rfl)) dL_law_1032 ⟨(show k9 + 800 ≤ 600130 from by omega), (show n9 + 9200 ≤ 7301080 from by omega)⟩) hP hD hS hA (fun M_1032 L_1032 f_1032 H locs hob hfr hP hD hS => ?_)
        have hML := hfr.1
        have hsm := hsm.fr hfr
        refine W.widen (k := k9 + 800) (n := n9 + 9200) (Nat.le_refl _) (Nat.le_refl _) ?_
        refine lv_istore (lv' := [(12, .int (mOI (vSettles ar fs sn ln op nn np mi SS ww))), (0, .ref b), (1, .ref hM), (2, .ref zs), (3, .int (nI tm)), (5, .int (bI qb)), (6, .long (vDig mi nn np fs sn ln op SS ar ww)), (8, .int (nI nn)), (9, .int (bI (!mAny (fun j => decide (0 < ar j)) nn))), (10, .int (nI (mSum (fun a => mCnt (fun b => a != b && (mPost (fun i => vWay SS fs sn np i) (mSt fs sn op np) a b).isSome) nn) nn))), (11, .int (nI (mSum (fun a => mCnt (fun b => a != b && (mTruth fs sn ln op np a b != 1073741824)) nn) nn)))]) hx hb dL_law_1035 hl (by decide) rfl (fun ls hl => ?_)
        rcases lSet (op := op) hV with ⟨e1, e2, e3⟩ | ⟨e1, e2⟩ | ⟨g9, e1, e2, e3, e4, e5⟩
        · rw [e1] at hl
          have hl : lv_has ls 25 [(12, .int (-1)), (0, .ref b), (1, .ref hM), (2, .ref zs), (3, .int (nI tm)), (5, .int (bI qb)), (6, .long (vDig mi nn np fs sn ln op SS ar ww)), (8, .int (nI nn)), (9, .int (bI (!mAny (fun j => decide (0 < ar j)) nn))), (10, .int (nI (mSum (fun a => mCnt (fun b => a != b && (mPost (fun i => vWay SS fs sn np i) (mSt fs sn op np) a b).isSome) nn) nn))), (11, .int (nI (mSum (fun a => mCnt (fun b => a != b && (mTruth fs sn ln op np a b != 1073741824)) nn) nn)))] := hl
          have hc_1104 : lGo p l e s m below meth c A G b hM zs za zw zq zp nn np mi ro rr rp fs sn ln op SS ar ww (k9 + 2000) (n9 + 23000) 1104 [(0, .ref b), (1, .ref hM), (2, .ref zs), (3, .int (nI tm)), (5, .int (bI qb)), (6, .long (vDig mi nn np fs sn ln op SS ar ww)), (8, .int (nI nn)), (9, .int (bI (!mAny (fun j => decide (0 < ar j)) nn)))] := by
            intro M_1104 L_1104 f_1104 hob hML hsm H locs hP hD hS ls hl
            refine lv_aload_n hx hb dL_law_1104 rfl (lv_at hl 1 rfl) ?_
            refine vp_callSi (W.runV (As := []) (rest := []) ⟨hx, hb, hml, hown, hts⟩ (c_X4_advise_o l G hM nn np mi fs sn ln op SS ar ww M_1104 L_1104 f_1104 hob hML hV (by omega)) (cwV 0 hts t_X4_advise rfl rfl rfl (by decide +kernel) ⟨Nat.le_of_ble_eq_true rfl, Nat.le_of_ble_eq_true rfl⟩) (kO_VR hob hML hK (hP.part (cx := []) [] rfl)) rfl rfl hl.1 rfl (lv_room (Nat.le_of_ble_eq_true rfl)) dL_law_1105 ⟨(show k9 + 2000 + 0 ≤ 600130 from by omega), (show n9 + 23000 + 0 ≤ 7301080 from by omega)⟩) (fun r_4 hr_4 => ?_)
            rcases hr_4 with ⟨i1, i2⟩ | ⟨q8, i1, i2, i3⟩
            · subst i1
              refine lv_istore (lv' := [(13, .int (-1)), (0, .ref b), (1, .ref hM), (2, .ref zs), (3, .int (nI tm)), (5, .int (bI qb)), (6, .long (vDig mi nn np fs sn ln op SS ar ww)), (8, .int (nI nn)), (9, .int (bI (!mAny (fun j => decide (0 < ar j)) nn)))]) hx hb dL_law_1108 hl (by decide) rfl (fun ls hl => ?_)
              refine lv_iload hx hb dL_law_1110 (lv_at hl 0 rfl) ?_
              refine lv_if_ge (tgt := 1119) hx hb dL_law_1112 (by decide) (fun c_5 => ?_) (fun c_5 => ?_)
              · exfalso; exact absurd c_5 (by decide)
              · refine lv_iconst (v := (nI 1)) hx hb dL_law_1115 (by decide) ?_
                refine lv_goto (tgt := 1120) hx hb dL_law_1116 (by decide) ?_
                refine lv_aload_n hx hb dL_law_1120 rfl (lv_at hl 2 rfl) ?_
                refine lv_iconst (v := (nI 3)) hx hb dL_law_1121 (by decide) ?_
                refine lo_i (va_runV (As := [.int (nI 3)]) (rest := [.int (nI 1)]) ⟨hx, hb, hml, hown, hts⟩ (c_X4_count_o l G _ hM nn np mi fs sn ln op SS ar ww M_1104 L_1104 f_1104 3 hob hML hV (by omega) (by omega)) (cwV 1 hts t_X4_count rfl rfl rfl (by decide +kernel) ⟨Nat.le_of_ble_eq_true rfl, Nat.le_of_ble_eq_true rfl⟩) (kO_V hob hML hK (hP.part (cx := []) [] rfl) (hD.part (cx := []) [] (by decide) rfl)) rfl rfl hl.1 rfl (lv_room (Nat.le_of_ble_eq_true rfl)) dL_law_1122 ⟨(show k9 + 2000 + 0 ≤ 600130 from by omega), (show n9 + 23000 + 0 ≤ 7301080 from by omega)⟩) hP hD hS hA (fun M_1122 L_1122 f_1122 H locs hob hfr hP hD hS => ?_)
                have hML := hfr.1
                have hsm := hsm.fr hfr
                refine W.widen (k := k9 + 2000) (n := n9 + 23000) (Nat.le_refl _) (Nat.le_refl _) ?_
                refine kr_top (show vCount mi nn np op fs sn SS (fun i => vWay SS fs sn np i) (mSt fs sn op np) 3 = (nI (mCnt op np)) from rfl) ?_
                refine kb_ne0 (tgt := 1132) hx hb dL_law_1125 (by decide) (by have := mCnt_le op np; omega) (fun c_6 => ?_) (fun c_6 => ?_)
                · exfalso; have := mCnt_zero np i2; omega
                · refine lv_iconst (v := (nI 1)) hx hb dL_law_1128 (by decide) ?_
                  refine lv_goto (tgt := 1133) hx hb dL_law_1129 (by decide) ?_
                  refine kb_ne (tgt := 1162) hx hb dL_law_1133 (by decide) (by decide) (by decide) (fun c_7 => ?_) (fun c_7 => ?_)
                  · exfalso; omega
                  · refine lv_iload hx hb dL_law_1136 (lv_at hl 0 rfl) ?_
                    refine lv_if_lt (tgt := 1152) hx hb dL_law_1138 (by decide) (fun c_8 => ?_) (fun c_8 => ?_)
                    · refine lv_aload_n hx hb dL_law_1152 rfl (lv_at hl 2 rfl) ?_
                      refine lo_l (va_runV (As := []) (rest := []) ⟨hx, hb, hml, hown, hts⟩ (c_X4_digest_o l G _ hM nn np mi fs sn ln op SS ar ww M_1122 L_1122 f_1122 hob hML hV (by omega)) (cwV 0 hts t_X4_digest rfl rfl rfl (by decide +kernel) ⟨Nat.le_of_ble_eq_true rfl, Nat.le_of_ble_eq_true rfl⟩) (kO_V hob hML hK (hP.part (cx := []) [] rfl) (hD.part (cx := []) [] (by decide) rfl)) rfl rfl hl.1 rfl (lv_room (Nat.le_of_ble_eq_true rfl)) dL_law_1153 ⟨(show k9 + 2000 + 0 ≤ 600130 from by omega), (show n9 + 23000 + 0 ≤ 7301080 from by omega)⟩) hP hD hS hA (fun M_1153 L_1153 f_1153 H locs hob hfr hP hD hS => ?_)
                      have hML := hfr.1
                      have hsm := hsm.fr hfr
                      refine W.widen (k := k9 + 2000) (n := n9 + 23000) (Nat.le_refl _) (Nat.le_refl _) ?_
                      refine lv_lload hx hb dL_law_1156 (lv_at hl 6 rfl) ?_
                      refine W.lcmp hx hb dL_law_1158 ?_
                      refine kr_top (show lg_cmp (vDig mi nn np fs sn ln op SS ar ww) (vDig mi nn np fs sn ln op SS ar ww) = nI 0 from lLcmp _) ?_
                      refine kb_eq0 (tgt := 1164) hx hb dL_law_1159 (by decide) (by decide) (fun c_9 => ?_) (fun c_9 => ?_)
                      · refine lv_iinc (k := 4) (v := (nI (tm + 1))) (lv' := [(3, .int (nI (tm + 1))), (13, .int (-1)), (0, .ref b), (1, .ref hM), (2, .ref zs), (5, .int (bI qb)), (6, .long (vDig mi nn np fs sn ln op SS ar ww)), (8, .int (nI nn)), (9, .int (bI (!mAny (fun j => decide (0 < ar j)) nn)))]) hx hb dL_law_1164 hl rfl (kn_inc tm) (by decide) rfl (fun ls hl => ?_)
                        refine lv_goto (tgt := 22) hx hb dL_law_1167 (by decide) ?_
                        exact K22 M_1153 L_1153 f_1153 hob hML hsm _ _ hP hD hS _ (lv_sub hl [2, 3, 4, 0] rfl)
                      · exfalso; omega
                    · exfalso; exact c_8 (by decide)
            · subst i3
              refine lv_istore (lv' := [(13, .int (nI q8)), (0, .ref b), (1, .ref hM), (2, .ref zs), (3, .int (nI tm)), (5, .int (bI qb)), (6, .long (vDig mi nn np fs sn ln op SS ar ww)), (8, .int (nI nn)), (9, .int (bI (!mAny (fun j => decide (0 < ar j)) nn)))]) hx hb dL_law_1108 hl (by decide) rfl (fun ls hl => ?_)
              refine lv_iload hx hb dL_law_1110 (lv_at hl 0 rfl) ?_
              refine kb_ge0 (tgt := 1119) hx hb dL_law_1112 (by decide) (by omega) ?_
              refine lv_iconst (v := (nI 0)) hx hb dL_law_1119 (by decide) ?_
              refine lv_aload_n hx hb dL_law_1120 rfl (lv_at hl 2 rfl) ?_
              refine lv_iconst (v := (nI 3)) hx hb dL_law_1121 (by decide) ?_
              refine lo_i (va_runV (As := [.int (nI 3)]) (rest := [.int (nI 0)]) ⟨hx, hb, hml, hown, hts⟩ (c_X4_count_o l G _ hM nn np mi fs sn ln op SS ar ww M_1104 L_1104 f_1104 3 hob hML hV (by omega) (by omega)) (cwV 1 hts t_X4_count rfl rfl rfl (by decide +kernel) ⟨Nat.le_of_ble_eq_true rfl, Nat.le_of_ble_eq_true rfl⟩) (kO_V hob hML hK (hP.part (cx := []) [] rfl) (hD.part (cx := []) [] (by decide) rfl)) rfl rfl hl.1 rfl (lv_room (Nat.le_of_ble_eq_true rfl)) dL_law_1122 ⟨(show k9 + 2000 + 0 ≤ 600130 from by omega), (show n9 + 23000 + 0 ≤ 7301080 from by omega)⟩) hP hD hS hA (fun M_1122 L_1122 f_1122 H locs hob hfr hP hD hS => ?_)
              have hML := hfr.1
              have hsm := hsm.fr hfr
              refine W.widen (k := k9 + 2000) (n := n9 + 23000) (Nat.le_refl _) (Nat.le_refl _) ?_
              refine kr_top (show vCount mi nn np op fs sn SS (fun i => vWay SS fs sn np i) (mSt fs sn op np) 3 = (nI (mCnt op np)) from rfl) ?_
              refine kb_ne0 (tgt := 1132) hx hb dL_law_1125 (by decide) (by have := mCnt_le op np; omega) (fun c_10 => ?_) (fun c_10 => ?_)
              · refine lv_iconst (v := (nI 0)) hx hb dL_law_1132 (by decide) ?_
                refine kb_ne (tgt := 1162) hx hb dL_law_1133 (by decide) (by decide) (by decide) (fun c_11 => ?_) (fun c_11 => ?_)
                · exfalso; omega
                · refine lv_iload hx hb dL_law_1136 (lv_at hl 0 rfl) ?_
                  refine kb_lt0 (tgt := 1152) hx hb dL_law_1138 (by decide) (by omega) ?_
                  refine lv_aload_n hx hb dL_law_1141 rfl (lv_at hl 2 rfl) ?_
                  refine lv_iload hx hb dL_law_1142 (lv_at hl 0 rfl) ?_
                  refine lv_iconst (v := (nI 3)) hx hb dL_law_1144 (by decide) ?_
                  refine vp_callSi (W.runV (As := [.int (nI q8), .int (nI 3)]) (rest := []) ⟨hx, hb, hml, hown, hts⟩ (c_X4_about_o l G hM nn np mi fs sn ln op SS ar ww M_1122 L_1122 f_1122 q8 3 hob hML hV (by omega) (by omega) (by omega)) (cwV 2 hts t_X4_about rfl rfl rfl (by decide +kernel) ⟨Nat.le_of_ble_eq_true rfl, Nat.le_of_ble_eq_true rfl⟩) (kO_VR hob hML hK (hP.part (cx := []) [] rfl)) rfl rfl hl.1 rfl (lv_room (Nat.le_of_ble_eq_true rfl)) dL_law_1145 ⟨(show k9 + 2000 + 0 ≤ 600130 from by omega), (show n9 + 23000 + 0 ≤ 7301080 from by omega)⟩) (fun r_12 hr_12 => ?_)
                  refine kr_top (show r_12 = mAbout fs sn ln op (fun p => mCnt (fun h => vTOpen SS fs sn h p) nn) q8 3 from hr_12) ?_
                  refine kr_top (show mAbout fs sn ln op (fun p => mCnt (fun h => vTOpen SS fs sn h p) nn) q8 3 = (nI 1) from (show _ = bI (op q8) from rfl).trans (by rw [i2]; rfl)) ?_
                  refine lv_iconst (v := (nI 1)) hx hb dL_law_1148 (by decide) ?_
                  refine kb_ne (tgt := 1162) hx hb dL_law_1149 (by decide) (by decide) (by decide) (fun c_13 => ?_) (fun c_13 => ?_)
                  · exfalso; omega
                  · refine lv_aload_n hx hb dL_law_1152 rfl (lv_at hl 2 rfl) ?_
                    refine lo_l (va_runV (As := []) (rest := []) ⟨hx, hb, hml, hown, hts⟩ (c_X4_digest_o l G _ hM nn np mi fs sn ln op SS ar ww M_1122 L_1122 f_1122 hob hML hV (by omega)) (cwV 0 hts t_X4_digest rfl rfl rfl (by decide +kernel) ⟨Nat.le_of_ble_eq_true rfl, Nat.le_of_ble_eq_true rfl⟩) (kO_V hob hML hK (hP.part (cx := []) [] rfl) (hD.part (cx := []) [] (by decide) rfl)) rfl rfl hl.1 rfl (lv_room (Nat.le_of_ble_eq_true rfl)) dL_law_1153 ⟨(show k9 + 2000 + 0 ≤ 600130 from by omega), (show n9 + 23000 + 0 ≤ 7301080 from by omega)⟩) hP hD hS hA (fun M_1153 L_1153 f_1153 H locs hob hfr hP hD hS => ?_)
                    have hML := hfr.1
                    have hsm := hsm.fr hfr
                    refine W.widen (k := k9 + 2000) (n := n9 + 23000) (Nat.le_refl _) (Nat.le_refl _) ?_
                    refine lv_lload hx hb dL_law_1156 (lv_at hl 6 rfl) ?_
                    refine W.lcmp hx hb dL_law_1158 ?_
                    refine kr_top (show lg_cmp (vDig mi nn np fs sn ln op SS ar ww) (vDig mi nn np fs sn ln op SS ar ww) = nI 0 from lLcmp _) ?_
                    refine kb_eq0 (tgt := 1164) hx hb dL_law_1159 (by decide) (by decide) (fun c_14 => ?_) (fun c_14 => ?_)
                    · refine lv_iinc (k := 4) (v := (nI (tm + 1))) (lv' := [(3, .int (nI (tm + 1))), (13, .int (nI q8)), (0, .ref b), (1, .ref hM), (2, .ref zs), (5, .int (bI qb)), (6, .long (vDig mi nn np fs sn ln op SS ar ww)), (8, .int (nI nn)), (9, .int (bI (!mAny (fun j => decide (0 < ar j)) nn)))]) hx hb dL_law_1164 hl rfl (kn_inc tm) (by decide) rfl (fun ls hl => ?_)
                      refine lv_goto (tgt := 22) hx hb dL_law_1167 (by decide) ?_
                      exact K22 M_1153 L_1153 f_1153 hob hML hsm _ _ hP hD hS _ (lv_sub hl [2, 3, 4, 0] rfl)
                    · exfalso; omega
              · exfalso; have := mCnt_pos i2 np i1; omega
          refine lv_iload hx hb dL_law_1037 (lv_at hl 0 rfl) ?_
          refine lv_iconst (v := (-1)) hx hb dL_law_1039 (by decide) ?_
          refine lv_icmp_lt (tgt := 1102) hx hb dL_law_1040 (by decide) (fun c_15 => ?_) (fun c_15 => ?_)
          · exfalso; first | omega | (exact absurd c_15 (by decide)) | (exact lI_m1 (by omega) c_15)
          · refine lv_iload hx hb dL_law_1043 (lv_at hl 0 rfl) ?_
            refine lv_bipush (v := (nI 40)) hx hb dL_law_1045 (by decide) ?_
            refine lv_icmp_gt (tgt := 1102) hx hb dL_law_1047 (by decide) (fun c_16 => ?_) (fun c_16 => ?_)
            · exfalso; first | omega | (exact absurd c_16 (by decide)) | (exact lI_m1 (by omega) c_16)
            · refine lv_iload hx hb dL_law_1050 (lv_at hl 0 rfl) ?_
              refine lv_if_ne (tgt := 1059) hx hb dL_law_1052 (by decide) (fun c_17 => ?_) (fun c_17 => ?_)
              · refine lv_iconst (v := (nI 0)) hx hb dL_law_1059 (by decide) ?_
                refine lv_iload hx hb dL_law_1060 (lv_at hl 9 rfl) ?_
                refine lv_iload hx hb dL_law_1062 (lv_at hl 10 rfl) ?_
                refine kb_ne (tgt := 1071) hx hb dL_law_1064 (by decide) (by omega) (by omega) (fun c_18 => ?_) (fun c_18 => ?_)
                · refine lv_iconst (v := (nI 0)) hx hb dL_law_1071 (by decide) ?_
                  refine kb_ne (tgt := 1102) hx hb dL_law_1072 (by decide) (by decide) (by decide) (fun c_19 => ?_) (fun c_19 => ?_)
                  · exfalso; omega
                  · refine lv_iload hx hb dL_law_1075 (lv_at hl 0 rfl) ?_
                    refine lv_if_le (tgt := 1092) hx hb dL_law_1077 (by decide) (fun c_20 => ?_) (fun c_20 => ?_)
                    · refine lv_iload hx hb dL_law_1092 (lv_at hl 8 rfl) ?_
                      refine kb_eqb (tgt := 1104) hx hb dL_law_1094 (by decide) (fun c_21 => ?_) (fun c_21 => ?_)
                      · refine W.widen (k := k9 + 2000) (n := n9 + 23000) (by omega) (by omega) ?_
                        exact hc_1104 M_1032 L_1032 f_1032 hob hML hsm _ _ hP hD hS _ (lv_sub hl [1, 2, 3, 4, 5, 6, 7, 8] rfl)
                      · exfalso; exact e3 (lNoA (x9 := (!mAny (fun j => decide (0 < ar j)) nn)) rfl c_21)
                    · exfalso; exact c_20 (by decide)
                · exfalso; omega
              · exfalso; exact absurd c_17 (by decide)
        · rw [e1] at hl
          have hl : lv_has ls 25 [(12, .int (nI 0)), (0, .ref b), (1, .ref hM), (2, .ref zs), (3, .int (nI tm)), (5, .int (bI qb)), (6, .long (vDig mi nn np fs sn ln op SS ar ww)), (8, .int (nI nn)), (9, .int (bI (!mAny (fun j => decide (0 < ar j)) nn))), (10, .int (nI (mSum (fun a => mCnt (fun b => a != b && (mPost (fun i => vWay SS fs sn np i) (mSt fs sn op np) a b).isSome) nn) nn))), (11, .int (nI (mSum (fun a => mCnt (fun b => a != b && (mTruth fs sn ln op np a b != 1073741824)) nn) nn)))] := hl
          have hc_1104 : lGo p l e s m below meth c A G b hM zs za zw zq zp nn np mi ro rr rp fs sn ln op SS ar ww (k9 + 2000) (n9 + 23000) 1104 [(0, .ref b), (1, .ref hM), (2, .ref zs), (3, .int (nI tm)), (5, .int (bI qb)), (6, .long (vDig mi nn np fs sn ln op SS ar ww)), (8, .int (nI nn)), (9, .int (bI (!mAny (fun j => decide (0 < ar j)) nn)))] := by
            intro M_1104 L_1104 f_1104 hob hML hsm H locs hP hD hS ls hl
            refine lv_aload_n hx hb dL_law_1104 rfl (lv_at hl 1 rfl) ?_
            refine vp_callSi (W.runV (As := []) (rest := []) ⟨hx, hb, hml, hown, hts⟩ (c_X4_advise_o l G hM nn np mi fs sn ln op SS ar ww M_1104 L_1104 f_1104 hob hML hV (by omega)) (cwV 0 hts t_X4_advise rfl rfl rfl (by decide +kernel) ⟨Nat.le_of_ble_eq_true rfl, Nat.le_of_ble_eq_true rfl⟩) (kO_VR hob hML hK (hP.part (cx := []) [] rfl)) rfl rfl hl.1 rfl (lv_room (Nat.le_of_ble_eq_true rfl)) dL_law_1105 ⟨(show k9 + 2000 + 0 ≤ 600130 from by omega), (show n9 + 23000 + 0 ≤ 7301080 from by omega)⟩) (fun r_22 hr_22 => ?_)
            rcases hr_22 with ⟨i1, i2⟩ | ⟨q8, i1, i2, i3⟩
            · subst i1
              refine lv_istore (lv' := [(13, .int (-1)), (0, .ref b), (1, .ref hM), (2, .ref zs), (3, .int (nI tm)), (5, .int (bI qb)), (6, .long (vDig mi nn np fs sn ln op SS ar ww)), (8, .int (nI nn)), (9, .int (bI (!mAny (fun j => decide (0 < ar j)) nn)))]) hx hb dL_law_1108 hl (by decide) rfl (fun ls hl => ?_)
              refine lv_iload hx hb dL_law_1110 (lv_at hl 0 rfl) ?_
              refine lv_if_ge (tgt := 1119) hx hb dL_law_1112 (by decide) (fun c_23 => ?_) (fun c_23 => ?_)
              · exfalso; exact absurd c_23 (by decide)
              · refine lv_iconst (v := (nI 1)) hx hb dL_law_1115 (by decide) ?_
                refine lv_goto (tgt := 1120) hx hb dL_law_1116 (by decide) ?_
                refine lv_aload_n hx hb dL_law_1120 rfl (lv_at hl 2 rfl) ?_
                refine lv_iconst (v := (nI 3)) hx hb dL_law_1121 (by decide) ?_
                refine lo_i (va_runV (As := [.int (nI 3)]) (rest := [.int (nI 1)]) ⟨hx, hb, hml, hown, hts⟩ (c_X4_count_o l G _ hM nn np mi fs sn ln op SS ar ww M_1104 L_1104 f_1104 3 hob hML hV (by omega) (by omega)) (cwV 1 hts t_X4_count rfl rfl rfl (by decide +kernel) ⟨Nat.le_of_ble_eq_true rfl, Nat.le_of_ble_eq_true rfl⟩) (kO_V hob hML hK (hP.part (cx := []) [] rfl) (hD.part (cx := []) [] (by decide) rfl)) rfl rfl hl.1 rfl (lv_room (Nat.le_of_ble_eq_true rfl)) dL_law_1122 ⟨(show k9 + 2000 + 0 ≤ 600130 from by omega), (show n9 + 23000 + 0 ≤ 7301080 from by omega)⟩) hP hD hS hA (fun M_1122 L_1122 f_1122 H locs hob hfr hP hD hS => ?_)
                have hML := hfr.1
                have hsm := hsm.fr hfr
                refine W.widen (k := k9 + 2000) (n := n9 + 23000) (Nat.le_refl _) (Nat.le_refl _) ?_
                refine kr_top (show vCount mi nn np op fs sn SS (fun i => vWay SS fs sn np i) (mSt fs sn op np) 3 = (nI (mCnt op np)) from rfl) ?_
                refine kb_ne0 (tgt := 1132) hx hb dL_law_1125 (by decide) (by have := mCnt_le op np; omega) (fun c_24 => ?_) (fun c_24 => ?_)
                · exfalso; have := mCnt_zero np i2; omega
                · refine lv_iconst (v := (nI 1)) hx hb dL_law_1128 (by decide) ?_
                  refine lv_goto (tgt := 1133) hx hb dL_law_1129 (by decide) ?_
                  refine kb_ne (tgt := 1162) hx hb dL_law_1133 (by decide) (by decide) (by decide) (fun c_25 => ?_) (fun c_25 => ?_)
                  · exfalso; omega
                  · refine lv_iload hx hb dL_law_1136 (lv_at hl 0 rfl) ?_
                    refine lv_if_lt (tgt := 1152) hx hb dL_law_1138 (by decide) (fun c_26 => ?_) (fun c_26 => ?_)
                    · refine lv_aload_n hx hb dL_law_1152 rfl (lv_at hl 2 rfl) ?_
                      refine lo_l (va_runV (As := []) (rest := []) ⟨hx, hb, hml, hown, hts⟩ (c_X4_digest_o l G _ hM nn np mi fs sn ln op SS ar ww M_1122 L_1122 f_1122 hob hML hV (by omega)) (cwV 0 hts t_X4_digest rfl rfl rfl (by decide +kernel) ⟨Nat.le_of_ble_eq_true rfl, Nat.le_of_ble_eq_true rfl⟩) (kO_V hob hML hK (hP.part (cx := []) [] rfl) (hD.part (cx := []) [] (by decide) rfl)) rfl rfl hl.1 rfl (lv_room (Nat.le_of_ble_eq_true rfl)) dL_law_1153 ⟨(show k9 + 2000 + 0 ≤ 600130 from by omega), (show n9 + 23000 + 0 ≤ 7301080 from by omega)⟩) hP hD hS hA (fun M_1153 L_1153 f_1153 H locs hob hfr hP hD hS => ?_)
                      have hML := hfr.1
                      have hsm := hsm.fr hfr
                      refine W.widen (k := k9 + 2000) (n := n9 + 23000) (Nat.le_refl _) (Nat.le_refl _) ?_
                      refine lv_lload hx hb dL_law_1156 (lv_at hl 6 rfl) ?_
                      refine W.lcmp hx hb dL_law_1158 ?_
                      refine kr_top (show lg_cmp (vDig mi nn np fs sn ln op SS ar ww) (vDig mi nn np fs sn ln op SS ar ww) = nI 0 from lLcmp _) ?_
                      refine kb_eq0 (tgt := 1164) hx hb dL_law_1159 (by decide) (by decide) (fun c_27 => ?_) (fun c_27 => ?_)
                      · refine lv_iinc (k := 4) (v := (nI (tm + 1))) (lv' := [(3, .int (nI (tm + 1))), (13, .int (-1)), (0, .ref b), (1, .ref hM), (2, .ref zs), (5, .int (bI qb)), (6, .long (vDig mi nn np fs sn ln op SS ar ww)), (8, .int (nI nn)), (9, .int (bI (!mAny (fun j => decide (0 < ar j)) nn)))]) hx hb dL_law_1164 hl rfl (kn_inc tm) (by decide) rfl (fun ls hl => ?_)
                        refine lv_goto (tgt := 22) hx hb dL_law_1167 (by decide) ?_
                        exact K22 M_1153 L_1153 f_1153 hob hML hsm _ _ hP hD hS _ (lv_sub hl [2, 3, 4, 0] rfl)
                      · exfalso; omega
                    · exfalso; exact c_26 (by decide)
            · subst i3
              refine lv_istore (lv' := [(13, .int (nI q8)), (0, .ref b), (1, .ref hM), (2, .ref zs), (3, .int (nI tm)), (5, .int (bI qb)), (6, .long (vDig mi nn np fs sn ln op SS ar ww)), (8, .int (nI nn)), (9, .int (bI (!mAny (fun j => decide (0 < ar j)) nn)))]) hx hb dL_law_1108 hl (by decide) rfl (fun ls hl => ?_)
              refine lv_iload hx hb dL_law_1110 (lv_at hl 0 rfl) ?_
              refine kb_ge0 (tgt := 1119) hx hb dL_law_1112 (by decide) (by omega) ?_
              refine lv_iconst (v := (nI 0)) hx hb dL_law_1119 (by decide) ?_
              refine lv_aload_n hx hb dL_law_1120 rfl (lv_at hl 2 rfl) ?_
              refine lv_iconst (v := (nI 3)) hx hb dL_law_1121 (by decide) ?_
              refine lo_i (va_runV (As := [.int (nI 3)]) (rest := [.int (nI 0)]) ⟨hx, hb, hml, hown, hts⟩ (c_X4_count_o l G _ hM nn np mi fs sn ln op SS ar ww M_1104 L_1104 f_1104 3 hob hML hV (by omega) (by omega)) (cwV 1 hts t_X4_count rfl rfl rfl (by decide +kernel) ⟨Nat.le_of_ble_eq_true rfl, Nat.le_of_ble_eq_true rfl⟩) (kO_V hob hML hK (hP.part (cx := []) [] rfl) (hD.part (cx := []) [] (by decide) rfl)) rfl rfl hl.1 rfl (lv_room (Nat.le_of_ble_eq_true rfl)) dL_law_1122 ⟨(show k9 + 2000 + 0 ≤ 600130 from by omega), (show n9 + 23000 + 0 ≤ 7301080 from by omega)⟩) hP hD hS hA (fun M_1122 L_1122 f_1122 H locs hob hfr hP hD hS => ?_)
              have hML := hfr.1
              have hsm := hsm.fr hfr
              refine W.widen (k := k9 + 2000) (n := n9 + 23000) (Nat.le_refl _) (Nat.le_refl _) ?_
              refine kr_top (show vCount mi nn np op fs sn SS (fun i => vWay SS fs sn np i) (mSt fs sn op np) 3 = (nI (mCnt op np)) from rfl) ?_
              refine kb_ne0 (tgt := 1132) hx hb dL_law_1125 (by decide) (by have := mCnt_le op np; omega) (fun c_28 => ?_) (fun c_28 => ?_)
              · refine lv_iconst (v := (nI 0)) hx hb dL_law_1132 (by decide) ?_
                refine kb_ne (tgt := 1162) hx hb dL_law_1133 (by decide) (by decide) (by decide) (fun c_29 => ?_) (fun c_29 => ?_)
                · exfalso; omega
                · refine lv_iload hx hb dL_law_1136 (lv_at hl 0 rfl) ?_
                  refine kb_lt0 (tgt := 1152) hx hb dL_law_1138 (by decide) (by omega) ?_
                  refine lv_aload_n hx hb dL_law_1141 rfl (lv_at hl 2 rfl) ?_
                  refine lv_iload hx hb dL_law_1142 (lv_at hl 0 rfl) ?_
                  refine lv_iconst (v := (nI 3)) hx hb dL_law_1144 (by decide) ?_
                  refine vp_callSi (W.runV (As := [.int (nI q8), .int (nI 3)]) (rest := []) ⟨hx, hb, hml, hown, hts⟩ (c_X4_about_o l G hM nn np mi fs sn ln op SS ar ww M_1122 L_1122 f_1122 q8 3 hob hML hV (by omega) (by omega) (by omega)) (cwV 2 hts t_X4_about rfl rfl rfl (by decide +kernel) ⟨Nat.le_of_ble_eq_true rfl, Nat.le_of_ble_eq_true rfl⟩) (kO_VR hob hML hK (hP.part (cx := []) [] rfl)) rfl rfl hl.1 rfl (lv_room (Nat.le_of_ble_eq_true rfl)) dL_law_1145 ⟨(show k9 + 2000 + 0 ≤ 600130 from by omega), (show n9 + 23000 + 0 ≤ 7301080 from by omega)⟩) (fun r_30 hr_30 => ?_)
                  refine kr_top (show r_30 = mAbout fs sn ln op (fun p => mCnt (fun h => vTOpen SS fs sn h p) nn) q8 3 from hr_30) ?_
                  refine kr_top (show mAbout fs sn ln op (fun p => mCnt (fun h => vTOpen SS fs sn h p) nn) q8 3 = (nI 1) from (show _ = bI (op q8) from rfl).trans (by rw [i2]; rfl)) ?_
                  refine lv_iconst (v := (nI 1)) hx hb dL_law_1148 (by decide) ?_
                  refine kb_ne (tgt := 1162) hx hb dL_law_1149 (by decide) (by decide) (by decide) (fun c_31 => ?_) (fun c_31 => ?_)
                  · exfalso; omega
                  · refine lv_aload_n hx hb dL_law_1152 rfl (lv_at hl 2 rfl) ?_
                    refine lo_l (va_runV (As := []) (rest := []) ⟨hx, hb, hml, hown, hts⟩ (c_X4_digest_o l G _ hM nn np mi fs sn ln op SS ar ww M_1122 L_1122 f_1122 hob hML hV (by omega)) (cwV 0 hts t_X4_digest rfl rfl rfl (by decide +kernel) ⟨Nat.le_of_ble_eq_true rfl, Nat.le_of_ble_eq_true rfl⟩) (kO_V hob hML hK (hP.part (cx := []) [] rfl) (hD.part (cx := []) [] (by decide) rfl)) rfl rfl hl.1 rfl (lv_room (Nat.le_of_ble_eq_true rfl)) dL_law_1153 ⟨(show k9 + 2000 + 0 ≤ 600130 from by omega), (show n9 + 23000 + 0 ≤ 7301080 from by omega)⟩) hP hD hS hA (fun M_1153 L_1153 f_1153 H locs hob hfr hP hD hS => ?_)
                    have hML := hfr.1
                    have hsm := hsm.fr hfr
                    refine W.widen (k := k9 + 2000) (n := n9 + 23000) (Nat.le_refl _) (Nat.le_refl _) ?_
                    refine lv_lload hx hb dL_law_1156 (lv_at hl 6 rfl) ?_
                    refine W.lcmp hx hb dL_law_1158 ?_
                    refine kr_top (show lg_cmp (vDig mi nn np fs sn ln op SS ar ww) (vDig mi nn np fs sn ln op SS ar ww) = nI 0 from lLcmp _) ?_
                    refine kb_eq0 (tgt := 1164) hx hb dL_law_1159 (by decide) (by decide) (fun c_32 => ?_) (fun c_32 => ?_)
                    · refine lv_iinc (k := 4) (v := (nI (tm + 1))) (lv' := [(3, .int (nI (tm + 1))), (13, .int (nI q8)), (0, .ref b), (1, .ref hM), (2, .ref zs), (5, .int (bI qb)), (6, .long (vDig mi nn np fs sn ln op SS ar ww)), (8, .int (nI nn)), (9, .int (bI (!mAny (fun j => decide (0 < ar j)) nn)))]) hx hb dL_law_1164 hl rfl (kn_inc tm) (by decide) rfl (fun ls hl => ?_)
                      refine lv_goto (tgt := 22) hx hb dL_law_1167 (by decide) ?_
                      exact K22 M_1153 L_1153 f_1153 hob hML hsm _ _ hP hD hS _ (lv_sub hl [2, 3, 4, 0] rfl)
                    · exfalso; omega
              · exfalso; have := mCnt_pos i2 np i1; omega
          refine lv_iload hx hb dL_law_1037 (lv_at hl 0 rfl) ?_
          refine lv_iconst (v := (-1)) hx hb dL_law_1039 (by decide) ?_
          refine lv_icmp_lt (tgt := 1102) hx hb dL_law_1040 (by decide) (fun c_33 => ?_) (fun c_33 => ?_)
          · exfalso; first | omega | (exact absurd c_33 (by decide)) | (exact lI_m1 (by omega) c_33)
          · refine lv_iload hx hb dL_law_1043 (lv_at hl 0 rfl) ?_
            refine lv_bipush (v := (nI 40)) hx hb dL_law_1045 (by decide) ?_
            refine kb_gt (tgt := 1102) hx hb dL_law_1047 (by decide) (by decide) (by decide) (fun c_34 => ?_) (fun c_34 => ?_)
            · exfalso; first | omega | (exact absurd c_34 (by decide)) | (exact lI_m1 (by omega) c_34)
            · refine lv_iload hx hb dL_law_1050 (lv_at hl 0 rfl) ?_
              refine kb_ne0 (tgt := 1059) hx hb dL_law_1052 (by decide) (by decide) (fun c_35 => ?_) (fun c_35 => ?_)
              · exfalso; omega
              · refine lv_iconst (v := (nI 1)) hx hb dL_law_1055 (by decide) ?_
                refine lv_goto (tgt := 1060) hx hb dL_law_1056 (by decide) ?_
                refine lv_iload hx hb dL_law_1060 (lv_at hl 9 rfl) ?_
                refine lv_iload hx hb dL_law_1062 (lv_at hl 10 rfl) ?_
                refine kb_ne (tgt := 1071) hx hb dL_law_1064 (by decide) (by omega) (by omega) (fun c_36 => ?_) (fun c_36 => ?_)
                · exfalso; omega
                · refine lv_iconst (v := (nI 1)) hx hb dL_law_1067 (by decide) ?_
                  refine lv_goto (tgt := 1072) hx hb dL_law_1068 (by decide) ?_
                  refine kb_ne (tgt := 1102) hx hb dL_law_1072 (by decide) (by decide) (by decide) (fun c_37 => ?_) (fun c_37 => ?_)
                  · exfalso; omega
                  · refine lv_iload hx hb dL_law_1075 (lv_at hl 0 rfl) ?_
                    refine kb_le0 (tgt := 1092) hx hb dL_law_1077 (by decide) (by decide) (fun c_38 => ?_) (fun c_38 => ?_)
                    · refine lv_iload hx hb dL_law_1092 (lv_at hl 8 rfl) ?_
                      refine kb_eqb (tgt := 1104) hx hb dL_law_1094 (by decide) (fun c_39 => ?_) (fun c_39 => ?_)
                      · refine W.widen (k := k9 + 2000) (n := n9 + 23000) (by omega) (by omega) ?_
                        exact hc_1104 M_1032 L_1032 f_1032 hob hML hsm _ _ hP hD hS _ (lv_sub hl [1, 2, 3, 4, 5, 6, 7, 8] rfl)
                      · refine lv_iload hx hb dL_law_1097 (lv_at hl 0 rfl) ?_
                        refine kb_ge0 (tgt := 1104) hx hb dL_law_1099 (by decide) (by decide) ?_
                        refine W.widen (k := k9 + 2000) (n := n9 + 23000) (by omega) (by omega) ?_
                        exact hc_1104 M_1032 L_1032 f_1032 hob hML hsm _ _ hP hD hS _ (lv_sub hl [1, 2, 3, 4, 5, 6, 7, 8] rfl)
                    · exfalso; omega
        · rw [e1] at hl
          have hl : lv_has ls 25 [(12, .int (nI g9)), (0, .ref b), (1, .ref hM), (2, .ref zs), (3, .int (nI tm)), (5, .int (bI qb)), (6, .long (vDig mi nn np fs sn ln op SS ar ww)), (8, .int (nI nn)), (9, .int (bI (!mAny (fun j => decide (0 < ar j)) nn))), (10, .int (nI (mSum (fun a => mCnt (fun b => a != b && (mPost (fun i => vWay SS fs sn np i) (mSt fs sn op np) a b).isSome) nn) nn))), (11, .int (nI (mSum (fun a => mCnt (fun b => a != b && (mTruth fs sn ln op np a b != 1073741824)) nn) nn)))] := hl
          have hc_1104 : lGo p l e s m below meth c A G b hM zs za zw zq zp nn np mi ro rr rp fs sn ln op SS ar ww (k9 + 2000) (n9 + 23000) 1104 [(0, .ref b), (1, .ref hM), (2, .ref zs), (3, .int (nI tm)), (5, .int (bI qb)), (6, .long (vDig mi nn np fs sn ln op SS ar ww)), (8, .int (nI nn)), (9, .int (bI (!mAny (fun j => decide (0 < ar j)) nn)))] := by
            intro M_1104 L_1104 f_1104 hob hML hsm H locs hP hD hS ls hl
            refine lv_aload_n hx hb dL_law_1104 rfl (lv_at hl 1 rfl) ?_
            refine vp_callSi (W.runV (As := []) (rest := []) ⟨hx, hb, hml, hown, hts⟩ (c_X4_advise_o l G hM nn np mi fs sn ln op SS ar ww M_1104 L_1104 f_1104 hob hML hV (by omega)) (cwV 0 hts t_X4_advise rfl rfl rfl (by decide +kernel) ⟨Nat.le_of_ble_eq_true rfl, Nat.le_of_ble_eq_true rfl⟩) (kO_VR hob hML hK (hP.part (cx := []) [] rfl)) rfl rfl hl.1 rfl (lv_room (Nat.le_of_ble_eq_true rfl)) dL_law_1105 ⟨(show k9 + 2000 + 0 ≤ 600130 from by omega), (show n9 + 23000 + 0 ≤ 7301080 from by omega)⟩) (fun r_40 hr_40 => ?_)
            rcases hr_40 with ⟨i1, i2⟩ | ⟨q8, i1, i2, i3⟩
            · subst i1
              refine lv_istore (lv' := [(13, .int (-1)), (0, .ref b), (1, .ref hM), (2, .ref zs), (3, .int (nI tm)), (5, .int (bI qb)), (6, .long (vDig mi nn np fs sn ln op SS ar ww)), (8, .int (nI nn)), (9, .int (bI (!mAny (fun j => decide (0 < ar j)) nn)))]) hx hb dL_law_1108 hl (by decide) rfl (fun ls hl => ?_)
              refine lv_iload hx hb dL_law_1110 (lv_at hl 0 rfl) ?_
              refine lv_if_ge (tgt := 1119) hx hb dL_law_1112 (by decide) (fun c_41 => ?_) (fun c_41 => ?_)
              · exfalso; exact absurd c_41 (by decide)
              · refine lv_iconst (v := (nI 1)) hx hb dL_law_1115 (by decide) ?_
                refine lv_goto (tgt := 1120) hx hb dL_law_1116 (by decide) ?_
                refine lv_aload_n hx hb dL_law_1120 rfl (lv_at hl 2 rfl) ?_
                refine lv_iconst (v := (nI 3)) hx hb dL_law_1121 (by decide) ?_
                refine lo_i (va_runV (As := [.int (nI 3)]) (rest := [.int (nI 1)]) ⟨hx, hb, hml, hown, hts⟩ (c_X4_count_o l G _ hM nn np mi fs sn ln op SS ar ww M_1104 L_1104 f_1104 3 hob hML hV (by omega) (by omega)) (cwV 1 hts t_X4_count rfl rfl rfl (by decide +kernel) ⟨Nat.le_of_ble_eq_true rfl, Nat.le_of_ble_eq_true rfl⟩) (kO_V hob hML hK (hP.part (cx := []) [] rfl) (hD.part (cx := []) [] (by decide) rfl)) rfl rfl hl.1 rfl (lv_room (Nat.le_of_ble_eq_true rfl)) dL_law_1122 ⟨(show k9 + 2000 + 0 ≤ 600130 from by omega), (show n9 + 23000 + 0 ≤ 7301080 from by omega)⟩) hP hD hS hA (fun M_1122 L_1122 f_1122 H locs hob hfr hP hD hS => ?_)
                have hML := hfr.1
                have hsm := hsm.fr hfr
                refine W.widen (k := k9 + 2000) (n := n9 + 23000) (Nat.le_refl _) (Nat.le_refl _) ?_
                refine kr_top (show vCount mi nn np op fs sn SS (fun i => vWay SS fs sn np i) (mSt fs sn op np) 3 = (nI (mCnt op np)) from rfl) ?_
                refine kb_ne0 (tgt := 1132) hx hb dL_law_1125 (by decide) (by have := mCnt_le op np; omega) (fun c_42 => ?_) (fun c_42 => ?_)
                · exfalso; have := mCnt_zero np i2; omega
                · refine lv_iconst (v := (nI 1)) hx hb dL_law_1128 (by decide) ?_
                  refine lv_goto (tgt := 1133) hx hb dL_law_1129 (by decide) ?_
                  refine kb_ne (tgt := 1162) hx hb dL_law_1133 (by decide) (by decide) (by decide) (fun c_43 => ?_) (fun c_43 => ?_)
                  · exfalso; omega
                  · refine lv_iload hx hb dL_law_1136 (lv_at hl 0 rfl) ?_
                    refine lv_if_lt (tgt := 1152) hx hb dL_law_1138 (by decide) (fun c_44 => ?_) (fun c_44 => ?_)
                    · refine lv_aload_n hx hb dL_law_1152 rfl (lv_at hl 2 rfl) ?_
                      refine lo_l (va_runV (As := []) (rest := []) ⟨hx, hb, hml, hown, hts⟩ (c_X4_digest_o l G _ hM nn np mi fs sn ln op SS ar ww M_1122 L_1122 f_1122 hob hML hV (by omega)) (cwV 0 hts t_X4_digest rfl rfl rfl (by decide +kernel) ⟨Nat.le_of_ble_eq_true rfl, Nat.le_of_ble_eq_true rfl⟩) (kO_V hob hML hK (hP.part (cx := []) [] rfl) (hD.part (cx := []) [] (by decide) rfl)) rfl rfl hl.1 rfl (lv_room (Nat.le_of_ble_eq_true rfl)) dL_law_1153 ⟨(show k9 + 2000 + 0 ≤ 600130 from by omega), (show n9 + 23000 + 0 ≤ 7301080 from by omega)⟩) hP hD hS hA (fun M_1153 L_1153 f_1153 H locs hob hfr hP hD hS => ?_)
                      have hML := hfr.1
                      have hsm := hsm.fr hfr
                      refine W.widen (k := k9 + 2000) (n := n9 + 23000) (Nat.le_refl _) (Nat.le_refl _) ?_
                      refine lv_lload hx hb dL_law_1156 (lv_at hl 6 rfl) ?_
                      refine W.lcmp hx hb dL_law_1158 ?_
                      refine kr_top (show lg_cmp (vDig mi nn np fs sn ln op SS ar ww) (vDig mi nn np fs sn ln op SS ar ww) = nI 0 from lLcmp _) ?_
                      refine kb_eq0 (tgt := 1164) hx hb dL_law_1159 (by decide) (by decide) (fun c_45 => ?_) (fun c_45 => ?_)
                      · refine lv_iinc (k := 4) (v := (nI (tm + 1))) (lv' := [(3, .int (nI (tm + 1))), (13, .int (-1)), (0, .ref b), (1, .ref hM), (2, .ref zs), (5, .int (bI qb)), (6, .long (vDig mi nn np fs sn ln op SS ar ww)), (8, .int (nI nn)), (9, .int (bI (!mAny (fun j => decide (0 < ar j)) nn)))]) hx hb dL_law_1164 hl rfl (kn_inc tm) (by decide) rfl (fun ls hl => ?_)
                        refine lv_goto (tgt := 22) hx hb dL_law_1167 (by decide) ?_
                        exact K22 M_1153 L_1153 f_1153 hob hML hsm _ _ hP hD hS _ (lv_sub hl [2, 3, 4, 0] rfl)
                      · exfalso; omega
                    · exfalso; exact c_44 (by decide)
            · subst i3
              refine lv_istore (lv' := [(13, .int (nI q8)), (0, .ref b), (1, .ref hM), (2, .ref zs), (3, .int (nI tm)), (5, .int (bI qb)), (6, .long (vDig mi nn np fs sn ln op SS ar ww)), (8, .int (nI nn)), (9, .int (bI (!mAny (fun j => decide (0 < ar j)) nn)))]) hx hb dL_law_1108 hl (by decide) rfl (fun ls hl => ?_)
              refine lv_iload hx hb dL_law_1110 (lv_at hl 0 rfl) ?_
              refine kb_ge0 (tgt := 1119) hx hb dL_law_1112 (by decide) (by omega) ?_
              refine lv_iconst (v := (nI 0)) hx hb dL_law_1119 (by decide) ?_
              refine lv_aload_n hx hb dL_law_1120 rfl (lv_at hl 2 rfl) ?_
              refine lv_iconst (v := (nI 3)) hx hb dL_law_1121 (by decide) ?_
              refine lo_i (va_runV (As := [.int (nI 3)]) (rest := [.int (nI 0)]) ⟨hx, hb, hml, hown, hts⟩ (c_X4_count_o l G _ hM nn np mi fs sn ln op SS ar ww M_1104 L_1104 f_1104 3 hob hML hV (by omega) (by omega)) (cwV 1 hts t_X4_count rfl rfl rfl (by decide +kernel) ⟨Nat.le_of_ble_eq_true rfl, Nat.le_of_ble_eq_true rfl⟩) (kO_V hob hML hK (hP.part (cx := []) [] rfl) (hD.part (cx := []) [] (by decide) rfl)) rfl rfl hl.1 rfl (lv_room (Nat.le_of_ble_eq_true rfl)) dL_law_1122 ⟨(show k9 + 2000 + 0 ≤ 600130 from by omega), (show n9 + 23000 + 0 ≤ 7301080 from by omega)⟩) hP hD hS hA (fun M_1122 L_1122 f_1122 H locs hob hfr hP hD hS => ?_)
              have hML := hfr.1
              have hsm := hsm.fr hfr
              refine W.widen (k := k9 + 2000) (n := n9 + 23000) (Nat.le_refl _) (Nat.le_refl _) ?_
              refine kr_top (show vCount mi nn np op fs sn SS (fun i => vWay SS fs sn np i) (mSt fs sn op np) 3 = (nI (mCnt op np)) from rfl) ?_
              refine kb_ne0 (tgt := 1132) hx hb dL_law_1125 (by decide) (by have := mCnt_le op np; omega) (fun c_46 => ?_) (fun c_46 => ?_)
              · refine lv_iconst (v := (nI 0)) hx hb dL_law_1132 (by decide) ?_
                refine kb_ne (tgt := 1162) hx hb dL_law_1133 (by decide) (by decide) (by decide) (fun c_47 => ?_) (fun c_47 => ?_)
                · exfalso; omega
                · refine lv_iload hx hb dL_law_1136 (lv_at hl 0 rfl) ?_
                  refine kb_lt0 (tgt := 1152) hx hb dL_law_1138 (by decide) (by omega) ?_
                  refine lv_aload_n hx hb dL_law_1141 rfl (lv_at hl 2 rfl) ?_
                  refine lv_iload hx hb dL_law_1142 (lv_at hl 0 rfl) ?_
                  refine lv_iconst (v := (nI 3)) hx hb dL_law_1144 (by decide) ?_
                  refine vp_callSi (W.runV (As := [.int (nI q8), .int (nI 3)]) (rest := []) ⟨hx, hb, hml, hown, hts⟩ (c_X4_about_o l G hM nn np mi fs sn ln op SS ar ww M_1122 L_1122 f_1122 q8 3 hob hML hV (by omega) (by omega) (by omega)) (cwV 2 hts t_X4_about rfl rfl rfl (by decide +kernel) ⟨Nat.le_of_ble_eq_true rfl, Nat.le_of_ble_eq_true rfl⟩) (kO_VR hob hML hK (hP.part (cx := []) [] rfl)) rfl rfl hl.1 rfl (lv_room (Nat.le_of_ble_eq_true rfl)) dL_law_1145 ⟨(show k9 + 2000 + 0 ≤ 600130 from by omega), (show n9 + 23000 + 0 ≤ 7301080 from by omega)⟩) (fun r_48 hr_48 => ?_)
                  refine kr_top (show r_48 = mAbout fs sn ln op (fun p => mCnt (fun h => vTOpen SS fs sn h p) nn) q8 3 from hr_48) ?_
                  refine kr_top (show mAbout fs sn ln op (fun p => mCnt (fun h => vTOpen SS fs sn h p) nn) q8 3 = (nI 1) from (show _ = bI (op q8) from rfl).trans (by rw [i2]; rfl)) ?_
                  refine lv_iconst (v := (nI 1)) hx hb dL_law_1148 (by decide) ?_
                  refine kb_ne (tgt := 1162) hx hb dL_law_1149 (by decide) (by decide) (by decide) (fun c_49 => ?_) (fun c_49 => ?_)
                  · exfalso; omega
                  · refine lv_aload_n hx hb dL_law_1152 rfl (lv_at hl 2 rfl) ?_
                    refine lo_l (va_runV (As := []) (rest := []) ⟨hx, hb, hml, hown, hts⟩ (c_X4_digest_o l G _ hM nn np mi fs sn ln op SS ar ww M_1122 L_1122 f_1122 hob hML hV (by omega)) (cwV 0 hts t_X4_digest rfl rfl rfl (by decide +kernel) ⟨Nat.le_of_ble_eq_true rfl, Nat.le_of_ble_eq_true rfl⟩) (kO_V hob hML hK (hP.part (cx := []) [] rfl) (hD.part (cx := []) [] (by decide) rfl)) rfl rfl hl.1 rfl (lv_room (Nat.le_of_ble_eq_true rfl)) dL_law_1153 ⟨(show k9 + 2000 + 0 ≤ 600130 from by omega), (show n9 + 23000 + 0 ≤ 7301080 from by omega)⟩) hP hD hS hA (fun M_1153 L_1153 f_1153 H locs hob hfr hP hD hS => ?_)
                    have hML := hfr.1
                    have hsm := hsm.fr hfr
                    refine W.widen (k := k9 + 2000) (n := n9 + 23000) (Nat.le_refl _) (Nat.le_refl _) ?_
                    refine lv_lload hx hb dL_law_1156 (lv_at hl 6 rfl) ?_
                    refine W.lcmp hx hb dL_law_1158 ?_
                    refine kr_top (show lg_cmp (vDig mi nn np fs sn ln op SS ar ww) (vDig mi nn np fs sn ln op SS ar ww) = nI 0 from lLcmp _) ?_
                    refine kb_eq0 (tgt := 1164) hx hb dL_law_1159 (by decide) (by decide) (fun c_50 => ?_) (fun c_50 => ?_)
                    · refine lv_iinc (k := 4) (v := (nI (tm + 1))) (lv' := [(3, .int (nI (tm + 1))), (13, .int (nI q8)), (0, .ref b), (1, .ref hM), (2, .ref zs), (5, .int (bI qb)), (6, .long (vDig mi nn np fs sn ln op SS ar ww)), (8, .int (nI nn)), (9, .int (bI (!mAny (fun j => decide (0 < ar j)) nn)))]) hx hb dL_law_1164 hl rfl (kn_inc tm) (by decide) rfl (fun ls hl => ?_)
                      refine lv_goto (tgt := 22) hx hb dL_law_1167 (by decide) ?_
                      exact K22 M_1153 L_1153 f_1153 hob hML hsm _ _ hP hD hS _ (lv_sub hl [2, 3, 4, 0] rfl)
                    · exfalso; omega
              · exfalso; have := mCnt_pos i2 np i1; omega
          refine lv_iload hx hb dL_law_1037 (lv_at hl 0 rfl) ?_
          refine lv_iconst (v := (-1)) hx hb dL_law_1039 (by decide) ?_
          refine lv_icmp_lt (tgt := 1102) hx hb dL_law_1040 (by decide) (fun c_51 => ?_) (fun c_51 => ?_)
          · exfalso; first | omega | (exact absurd c_51 (by decide)) | (exact lI_m1 (by omega) c_51)
          · refine lv_iload hx hb dL_law_1043 (lv_at hl 0 rfl) ?_
            refine lv_bipush (v := (nI 40)) hx hb dL_law_1045 (by decide) ?_
            refine kb_gt (tgt := 1102) hx hb dL_law_1047 (by decide) (by omega) (by decide) (fun c_52 => ?_) (fun c_52 => ?_)
            · exfalso; first | omega | (exact absurd c_52 (by decide)) | (exact lI_m1 (by omega) c_52)
            · refine lv_iload hx hb dL_law_1050 (lv_at hl 0 rfl) ?_
              refine kb_ne0 (tgt := 1059) hx hb dL_law_1052 (by decide) (by omega) (fun c_53 => ?_) (fun c_53 => ?_)
              · refine lv_iconst (v := (nI 0)) hx hb dL_law_1059 (by decide) ?_
                refine lv_iload hx hb dL_law_1060 (lv_at hl 9 rfl) ?_
                refine lv_iload hx hb dL_law_1062 (lv_at hl 10 rfl) ?_
                refine kb_ne (tgt := 1071) hx hb dL_law_1064 (by decide) (by omega) (by omega) (fun c_54 => ?_) (fun c_54 => ?_)
                · refine lv_iconst (v := (nI 0)) hx hb dL_law_1071 (by decide) ?_
                  refine kb_ne (tgt := 1102) hx hb dL_law_1072 (by decide) (by decide) (by decide) (fun c_55 => ?_) (fun c_55 => ?_)
                  · exfalso; omega
                  · refine lv_iload hx hb dL_law_1075 (lv_at hl 0 rfl) ?_
                    refine kb_le0 (tgt := 1092) hx hb dL_law_1077 (by decide) (by omega) (fun c_56 => ?_) (fun c_56 => ?_)
                    · exfalso; omega
                    · refine lv_aload_n hx hb dL_law_1080 rfl (lv_at hl 2 rfl) ?_
                      refine lv_iload hx hb dL_law_1081 (lv_at hl 0 rfl) ?_
                      refine lv_iconst (v := (nI 5)) hx hb dL_law_1083 (by decide) ?_
                      refine lo_i (va_runV (As := [.int (nI g9), .int (nI 5)]) (rest := []) ⟨hx, hb, hml, hown, hts⟩ (c_X4_foresee_o l G _ hM nn np mi fs sn ln op SS ar ww M_1032 L_1032 f_1032 g9 hob hML hV (by omega) (by omega) (by omega)) (cwV 2 hts t_X4_foresee rfl rfl rfl (by decide +kernel) ⟨Nat.le_of_ble_eq_true rfl, Nat.le_of_ble_eq_true rfl⟩) (kO_V hob hML hK (hP.part (cx := []) [] rfl) (hD.part (cx := []) [] (by decide) rfl)) rfl rfl hl.1 rfl (lv_room (Nat.le_of_ble_eq_true rfl)) dL_law_1084 ⟨(show k9 + 800 + 1200 ≤ 600130 from by omega), (show n9 + 9200 + 13800 ≤ 7301080 from by omega)⟩) hP hD hS hA (fun M_1084 L_1084 f_1084 H locs hob hfr hP hD hS => ?_)
                      have hML := hfr.1
                      have hsm := hsm.fr hfr
                      refine W.widen (k := k9 + 800 + 1200) (n := n9 + 9200 + 13800) (Nat.le_refl _) (Nat.le_refl _) ?_
                      refine kr_top (show nI (vPairs (vMins ar fs sn ln op nn np mi (SS, ww, 0) g9).1 fs sn op nn np) = (nI (mSum (fun a => mCnt (fun b => a != b && (mTruth fs sn ln op np a b != 1073741824)) nn) nn)) from congrArg nI e5) ?_
                      refine lv_iload hx hb dL_law_1087 (lv_at hl 10 rfl) ?_
                      refine kb_ne (tgt := 1102) hx hb dL_law_1089 (by decide) (by omega) (by omega) (fun c_57 => ?_) (fun c_57 => ?_)
                      · exfalso; exact c_57 rfl
                      · refine lv_iload hx hb dL_law_1092 (lv_at hl 8 rfl) ?_
                        refine kb_eqb (tgt := 1104) hx hb dL_law_1094 (by decide) (fun c_58 => ?_) (fun c_58 => ?_)
                        · refine W.widen (k := k9 + 2000) (n := n9 + 23000) (by omega) (by omega) ?_
                          exact hc_1104 M_1084 L_1084 f_1084 hob hML hsm _ _ hP hD hS _ (lv_sub hl [1, 2, 3, 4, 5, 6, 7, 8] rfl)
                        · refine lv_iload hx hb dL_law_1097 (lv_at hl 0 rfl) ?_
                          refine kb_ge0 (tgt := 1104) hx hb dL_law_1099 (by decide) (by omega) ?_
                          refine W.widen (k := k9 + 2000) (n := n9 + 23000) (by omega) (by omega) ?_
                          exact hc_1104 M_1084 L_1084 f_1084 hob hML hsm _ _ hP hD hS _ (lv_sub hl [1, 2, 3, 4, 5, 6, 7, 8] rfl)
                · exfalso; omega
              · exfalso; omega
      · exfalso; omega
