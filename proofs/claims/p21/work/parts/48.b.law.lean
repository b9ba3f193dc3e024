set_option maxHeartbeats 4000000 in
set_option maxRecDepth 100000 in
theorem l_p2 {p : Program} {l : Launch} {e : Env} {s : State} {m : MethodId} {below : List Frame} {meth : Method} {c : Code} {A : Nat → Prop} {G : kG} {b len : Nat} {xs : Nat → Int32} {hM zs : Nat} {za zw zq zp nn np mi : Nat} {ro : Nat → Nat} {rr : Nat → Nat → Nat} {rp fs sn ln : Nat → Nat} {op : Nat → Bool} {SS : Nat → Option mS} {ar ww : Nat → Nat} (C0 : lCtx p l s m meth c A G b len xs) (hV : vInv ar fs sn ln nn np mi SS ww) (hn7 : nn ≤ 7) (hmi : mi + 1000 < 2 ^ 31) {k9 n9 : Nat} (hk9 : k9 + 20000 ≤ 600130) (hn9 : n9 + 200000 ≤ 7301080) {tm a bb x10 x11 x13 x14 x15 : Nat} {qb x9 : Bool} {x6 : Int64} (ha : a < nn) (hbb : bb < nn) (K722 : lGo p l e s m below meth c A G b hM zs za zw zq zp nn np mi ro rr rp fs sn ln op SS ar ww k9 n9 722 [(0, .ref b), (1, .ref hM), (2, .ref zs), (3, .int (nI tm)), (5, .int (bI qb)), (6, .long x6), (8, .int (nI nn)), (9, .int (bI x9)), (10, .int (nI x10)), (11, .int (nI x11)), (12, .int (nI a)), (13, .int (nI x13)), (14, .int (nI x14)), (15, .int (nI x15)), (16, .int (nI bb)), (19, .int (mWayA (vWay SS fs sn np a bb) 0)), (20, .int (mWayA (vWay SS fs sn np a bb) 1)), (22, .int (mOI (mPost (fun i => vWay SS fs sn np i) (mSt fs sn op np) a bb))), (23, .int (mTruthA (mTruth fs sn ln op np a bb)))]) : lGo p l e s m below meth c A G b hM zs za zw zq zp nn np mi ro rr rp fs sn ln op SS ar ww k9 n9 435 [(0, .ref b), (1, .ref hM), (2, .ref zs), (3, .int (nI tm)), (5, .int (bI qb)), (6, .long x6), (8, .int (nI nn)), (9, .int (bI x9)), (10, .int (nI x10)), (11, .int (nI x11)), (12, .int (nI a)), (13, .int (nI x13)), (14, .int (nI x14)), (15, .int (nI x15)), (16, .int (nI bb))] := by
  obtain ⟨hx, hb, hr, hml, hown, hts, hX, hlocks, hK, hZ, hA, hA2, hbA, hlen⟩ := id C0
  intro M L f hob hML hsm H locs hP hD hS ls hl
  refine lv_aload_n hx hb dL_law_435 rfl (lv_at hl 1 rfl) ?_
  refine lv_iload hx hb dL_law_436 (lv_at hl 10 rfl) ?_
  refine lv_iload hx hb dL_law_438 (lv_at hl 14 rfl) ?_
  refine lv_iconst (v := (nI 0)) hx hb dL_law_440 (by decide) ?_
  refine lo_i (va_runV (As := [.int (nI a), .int (nI bb), .int (nI 0)]) (rest := []) ⟨hx, hb, hml, hown, hts⟩ (c_X4_way_o l G _ hM nn np mi fs sn ln op SS ar ww M L f a bb 0 hob hML hV (by omega) (by omega) (by omega) (by omega)) (cwV 3 hts t_X4_way rfl rfl rfl (by decide +kernel) ⟨Nat.le_of_ble_eq_true rfl, Nat.le_of_ble_eq_true rfl⟩) (kO_V hob hML hK (hP.part (cx := []) [] rfl) (hD.part (cx := []) [] (by decide) rfl)) rfl rfl hl.1 rfl (lv_room (Nat.le_of_ble_eq_true rfl)) dL_law_441 ⟨(show k9 + 0 ≤ 600130 from by omega), (show n9 + 0 ≤ 7301080 from by omega)⟩) hP hD hS hA (fun M_441 L_441 f_441 H locs hob hfr hP hD hS => ?_)
  have hML := hfr.1
  have hsm := hsm.fr hfr
  refine W.widen (k := k9) (n := n9) (Nat.le_refl _) (Nat.le_refl _) ?_
  refine lv_istore (lv' := [(19, .int (mWayA (vWay SS fs sn np a bb) 0)), (0, .ref b), (1, .ref hM), (2, .ref zs), (3, .int (nI tm)), (5, .int (bI qb)), (6, .long x6), (8, .int (nI nn)), (9, .int (bI x9)), (10, .int (nI x10)), (11, .int (nI x11)), (12, .int (nI a)), (13, .int (nI x13)), (14, .int (nI x14)), (15, .int (nI x15)), (16, .int (nI bb))]) hx hb dL_law_444 hl (by decide) rfl (fun ls hl => ?_)
  refine lv_aload_n hx hb dL_law_446 rfl (lv_at hl 2 rfl) ?_
  refine lv_iload hx hb dL_law_447 (lv_at hl 11 rfl) ?_
  refine lv_iload hx hb dL_law_449 (lv_at hl 15 rfl) ?_
  refine lv_iconst (v := (nI 1)) hx hb dL_law_451 (by decide) ?_
  refine lo_i (va_runV (As := [.int (nI a), .int (nI bb), .int (nI 1)]) (rest := []) ⟨hx, hb, hml, hown, hts⟩ (c_X4_way_o l G _ hM nn np mi fs sn ln op SS ar ww M_441 L_441 f_441 a bb 1 hob hML hV (by omega) (by omega) (by omega) (by omega)) (cwV 3 hts t_X4_way rfl rfl rfl (by decide +kernel) ⟨Nat.le_of_ble_eq_true rfl, Nat.le_of_ble_eq_true rfl⟩) (kO_V hob hML hK (hP.part (cx := []) [] rfl) (hD.part (cx := []) [] (by decide) rfl)) rfl rfl hl.1 rfl (lv_room (Nat.le_of_ble_eq_true rfl)) dL_law_452 ⟨(show k9 + 0 ≤ 600130 from by omega), (show n9 + 0 ≤ 7301080 from by omega)⟩) hP hD hS hA (fun M_452 L_452 f_452 H locs hob hfr hP hD hS => ?_)
  have hML := hfr.1
  have hsm := hsm.fr hfr
  refine W.widen (k := k9) (n := n9) (Nat.le_refl _) (Nat.le_refl _) ?_
  refine lv_istore (lv' := [(20, .int (mWayA (vWay SS fs sn np a bb) 1)), (19, .int (mWayA (vWay SS fs sn np a bb) 0)), (0, .ref b), (1, .ref hM), (2, .ref zs), (3, .int (nI tm)), (5, .int (bI qb)), (6, .long x6), (8, .int (nI nn)), (9, .int (bI x9)), (10, .int (nI x10)), (11, .int (nI x11)), (12, .int (nI a)), (13, .int (nI x13)), (14, .int (nI x14)), (15, .int (nI x15)), (16, .int (nI bb))]) hx hb dL_law_455 hl (by decide) rfl (fun ls hl => ?_)
  refine lv_aload_n hx hb dL_law_457 rfl (lv_at hl 3 rfl) ?_
  refine lv_iload hx hb dL_law_458 (lv_at hl 12 rfl) ?_
  refine lv_iload hx hb dL_law_460 (lv_at hl 16 rfl) ?_
  refine lv_iconst (v := (nI 2)) hx hb dL_law_462 (by decide) ?_
  refine lo_i (va_runV (As := [.int (nI a), .int (nI bb), .int (nI 2)]) (rest := []) ⟨hx, hb, hml, hown, hts⟩ (c_X4_way_o l G _ hM nn np mi fs sn ln op SS ar ww M_452 L_452 f_452 a bb 2 hob hML hV (by omega) (by omega) (by omega) (by omega)) (cwV 3 hts t_X4_way rfl rfl rfl (by decide +kernel) ⟨Nat.le_of_ble_eq_true rfl, Nat.le_of_ble_eq_true rfl⟩) (kO_V hob hML hK (hP.part (cx := []) [] rfl) (hD.part (cx := []) [] (by decide) rfl)) rfl rfl hl.1 rfl (lv_room (Nat.le_of_ble_eq_true rfl)) dL_law_463 ⟨(show k9 + 0 ≤ 600130 from by omega), (show n9 + 0 ≤ 7301080 from by omega)⟩) hP hD hS hA (fun M_463 L_463 f_463 H locs hob hfr hP hD hS => ?_)
  have hML := hfr.1
  have hsm := hsm.fr hfr
  refine W.widen (k := k9) (n := n9) (Nat.le_refl _) (Nat.le_refl _) ?_
  refine lv_istore (lv' := [(21, .int (mWayA (vWay SS fs sn np a bb) 2)), (20, .int (mWayA (vWay SS fs sn np a bb) 1)), (19, .int (mWayA (vWay SS fs sn np a bb) 0)), (0, .ref b), (1, .ref hM), (2, .ref zs), (3, .int (nI tm)), (5, .int (bI qb)), (6, .long x6), (8, .int (nI nn)), (9, .int (bI x9)), (10, .int (nI x10)), (11, .int (nI x11)), (12, .int (nI a)), (13, .int (nI x13)), (14, .int (nI x14)), (15, .int (nI x15)), (16, .int (nI bb))]) hx hb dL_law_466 hl (by decide) rfl (fun ls hl => ?_)
  refine lv_aload_n hx hb dL_law_468 rfl (lv_at hl 4 rfl) ?_
  refine lv_iload hx hb dL_law_469 (lv_at hl 13 rfl) ?_
  refine lv_iload hx hb dL_law_471 (lv_at hl 17 rfl) ?_
  refine lo_i (va_runV (As := [.int (nI a), .int (nI bb)]) (rest := []) ⟨hx, hb, hml, hown, hts⟩ (c_X4_post_o l G _ hM nn np mi fs sn ln op SS ar ww M_463 L_463 f_463 a bb hob hML hV (by omega) (by omega) (by omega)) (cwV 2 hts t_X4_post rfl rfl rfl (by decide +kernel) ⟨Nat.le_of_ble_eq_true rfl, Nat.le_of_ble_eq_true rfl⟩) (kO_V hob hML hK (hP.part (cx := []) [] rfl) (hD.part (cx := []) [] (by decide) rfl)) rfl rfl hl.1 rfl (lv_room (Nat.le_of_ble_eq_true rfl)) dL_law_473 ⟨(show k9 + 0 ≤ 600130 from by omega), (show n9 + 0 ≤ 7301080 from by omega)⟩) hP hD hS hA (fun M_473 L_473 f_473 H locs hob hfr hP hD hS => ?_)
  have hML := hfr.1
  have hsm := hsm.fr hfr
  refine W.widen (k := k9) (n := n9) (Nat.le_refl _) (Nat.le_refl _) ?_
  refine lv_istore (lv' := [(22, .int (mOI (mPost (fun i => vWay SS fs sn np i) (mSt fs sn op np) a bb))), (21, .int (mWayA (vWay SS fs sn np a bb) 2)), (20, .int (mWayA (vWay SS fs sn np a bb) 1)), (19, .int (mWayA (vWay SS fs sn np a bb) 0)), (0, .ref b), (1, .ref hM), (2, .ref zs), (3, .int (nI tm)), (5, .int (bI qb)), (6, .long x6), (8, .int (nI nn)), (9, .int (bI x9)), (10, .int (nI x10)), (11, .int (nI x11)), (12, .int (nI a)), (13, .int (nI x13)), (14, .int (nI x14)), (15, .int (nI x15)), (16, .int (nI bb))]) hx hb dL_law_476 hl (by decide) rfl (fun ls hl => ?_)
  refine lv_aload_n hx hb dL_law_478 rfl (lv_at hl 5 rfl) ?_
  refine lv_iload hx hb dL_law_479 (lv_at hl 14 rfl) ?_
  refine lv_iload hx hb dL_law_481 (lv_at hl 18 rfl) ?_
  refine lo_i (va_runV (As := [.int (nI a), .int (nI bb)]) (rest := []) ⟨hx, hb, hml, hown, hts⟩ (c_X4_truth_o l G _ hM nn np mi fs sn ln op SS ar ww M_473 L_473 f_473 a bb hob hML hV (by omega) (by omega) (by omega)) (cwV 2 hts t_X4_truth rfl rfl rfl (by decide +kernel) ⟨Nat.le_of_ble_eq_true rfl, Nat.le_of_ble_eq_true rfl⟩) (kO_V hob hML hK (hP.part (cx := []) [] rfl) (hD.part (cx := []) [] (by decide) rfl)) rfl rfl hl.1 rfl (lv_room (Nat.le_of_ble_eq_true rfl)) dL_law_483 ⟨(show k9 + 0 ≤ 600130 from by omega), (show n9 + 0 ≤ 7301080 from by omega)⟩) hP hD hS hA (fun M_483 L_483 f_483 H locs hob hfr hP hD hS => ?_)
  have hML := hfr.1
  have hsm := hsm.fr hfr
  refine W.widen (k := k9) (n := n9) (Nat.le_refl _) (Nat.le_refl _) ?_
  refine lv_istore (lv' := [(23, .int (mTruthA (mTruth fs sn ln op np a bb))), (22, .int (mOI (mPost (fun i => vWay SS fs sn np i) (mSt fs sn op np) a bb))), (21, .int (mWayA (vWay SS fs sn np a bb) 2)), (20, .int (mWayA (vWay SS fs sn np a bb) 1)), (19, .int (mWayA (vWay SS fs sn np a bb) 0)), (0, .ref b), (1, .ref hM), (2, .ref zs), (3, .int (nI tm)), (5, .int (bI qb)), (6, .long x6), (8, .int (nI nn)), (9, .int (bI x9)), (10, .int (nI x10)), (11, .int (nI x11)), (12, .int (nI a)), (13, .int (nI x13)), (14, .int (nI x14)), (15, .int (nI x15)), (16, .int (nI bb))]) hx hb dL_law_486 hl (by decide) rfl (fun ls hl => ?_)
  have hl0 := hl
  rcases lPair (op := op) hV ha hbb with ⟨hab, e1, e2, e3, e4, e5⟩ | ⟨hab, e1, e2, e3, e4⟩ | ⟨hab, hW, e4⟩ | ⟨hab, hW, k8, t8, e4, e5, j1, j2, j3, j4⟩
  · rw [e1, e2, e3, e4, e5] at hl
    have hl : lv_has ls 25 [(23, .int (nI 0)), (22, .int (nI 0)), (21, .int (nI a)), (20, .int (nI 0)), (19, .int (nI 0)), (0, .ref b), (1, .ref hM), (2, .ref zs), (3, .int (nI tm)), (5, .int (bI qb)), (6, .long x6), (8, .int (nI nn)), (9, .int (bI x9)), (10, .int (nI x10)), (11, .int (nI x11)), (12, .int (nI a)), (13, .int (nI x13)), (14, .int (nI x14)), (15, .int (nI x15)), (16, .int (nI bb))] := hl
    refine lv_iload hx hb dL_law_488 (lv_at hl 4 rfl) ?_
    refine kb_ge0 (tgt := 497) hx hb dL_law_490 (by decide) (by decide) ?_
    refine lv_iconst (v := (nI 0)) hx hb dL_law_497 (by decide) ?_
    refine lv_iload hx hb dL_law_498 (lv_at hl 3 rfl) ?_
    refine kb_ge0 (tgt := 507) hx hb dL_law_500 (by decide) (by decide) ?_
    refine lv_iconst (v := (nI 0)) hx hb dL_law_507 (by decide) ?_
    refine kb_ne (tgt := 607) hx hb dL_law_508 (by decide) (by decide) (by decide) (fun c_1 => ?_) (fun c_1 => ?_)
    · exfalso; omega
    · refine lv_iload hx hb dL_law_511 (lv_at hl 4 rfl) ?_
      refine kb_ge0 (tgt := 520) hx hb dL_law_513 (by decide) (by decide) ?_
      refine lv_iconst (v := (nI 0)) hx hb dL_law_520 (by decide) ?_
      refine lv_iload hx hb dL_law_521 (lv_at hl 2 rfl) ?_
      refine kb_ge0 (tgt := 530) hx hb dL_law_523 (by decide) (by omega) ?_
      refine lv_iconst (v := (nI 0)) hx hb dL_law_530 (by decide) ?_
      refine kb_ne (tgt := 607) hx hb dL_law_531 (by decide) (by decide) (by decide) (fun c_2 => ?_) (fun c_2 => ?_)
      · exfalso; omega
      · refine lv_iload hx hb dL_law_534 (lv_at hl 3 rfl) ?_
        refine lv_iload hx hb dL_law_536 (lv_at hl 11 rfl) ?_
        refine kb_ge (tgt := 607) hx hb dL_law_538 (by decide) (by decide) (by omega) (fun c_3 => ?_) (fun c_3 => ?_)
        · exfalso; omega
        · refine lv_iload hx hb dL_law_541 (lv_at hl 4 rfl) ?_
          refine lv_iload hx hb dL_law_543 (lv_at hl 3 rfl) ?_
          refine kb_ge (tgt := 553) hx hb dL_law_545 (by decide) (by decide) (by decide) (fun c_4 => ?_) (fun c_4 => ?_)
          · refine lv_iload hx hb dL_law_553 (lv_at hl 3 rfl) ?_
            refine kb_ne0 (tgt := 562) hx hb dL_law_555 (by decide) (by decide) (fun c_5 => ?_) (fun c_5 => ?_)
            · exfalso; omega
            · refine lv_iconst (v := (nI 1)) hx hb dL_law_558 (by decide) ?_
              refine lv_goto (tgt := 563) hx hb dL_law_559 (by decide) ?_
              refine lv_iload hx hb dL_law_563 (lv_at hl 15 rfl) ?_
              refine lv_iload hx hb dL_law_565 (lv_at hl 19 rfl) ?_
              refine kb_ne (tgt := 574) hx hb dL_law_567 (by decide) (by omega) (by omega) (fun c_6 => ?_) (fun c_6 => ?_)
              · exfalso; omega
              · refine lv_iconst (v := (nI 1)) hx hb dL_law_570 (by decide) ?_
                refine lv_goto (tgt := 575) hx hb dL_law_571 (by decide) ?_
                refine kb_ne (tgt := 607) hx hb dL_law_575 (by decide) (by decide) (by decide) (fun c_7 => ?_) (fun c_7 => ?_)
                · exfalso; omega
                · refine lv_iload hx hb dL_law_578 (lv_at hl 15 rfl) ?_
                  refine lv_iload hx hb dL_law_580 (lv_at hl 19 rfl) ?_
                  refine kb_ne (tgt := 609) hx hb dL_law_582 (by decide) (by omega) (by omega) (fun c_8 => ?_) (fun c_8 => ?_)
                  · exfalso; omega
                  · refine lv_iload hx hb dL_law_585 (lv_at hl 4 rfl) ?_
                    refine kb_ne0 (tgt := 607) hx hb dL_law_587 (by decide) (by decide) (fun c_9 => ?_) (fun c_9 => ?_)
                    · exfalso; omega
                    · refine lv_iload hx hb dL_law_590 (lv_at hl 2 rfl) ?_
                      refine lv_iload hx hb dL_law_592 (lv_at hl 15 rfl) ?_
                      refine kb_ne (tgt := 607) hx hb dL_law_594 (by decide) (by omega) (by omega) (fun c_10 => ?_) (fun c_10 => ?_)
                      · exfalso; omega
                      · refine lv_iload hx hb dL_law_597 (lv_at hl 1 rfl) ?_
                        refine kb_ne0 (tgt := 607) hx hb dL_law_599 (by decide) (by decide) (fun c_11 => ?_) (fun c_11 => ?_)
                        · exfalso; omega
                        · refine lv_iload hx hb dL_law_602 (lv_at hl 0 rfl) ?_
                          refine kb_eq0 (tgt := 609) hx hb dL_law_604 (by decide) (by decide) (fun c_12 => ?_) (fun c_12 => ?_)
                          · refine lv_iload hx hb dL_law_609 (lv_at hl 15 rfl) ?_
                            refine lv_iload hx hb dL_law_611 (lv_at hl 19 rfl) ?_
                            refine kb_eq (tgt := 686) hx hb dL_law_613 (by decide) (by omega) (by omega) (fun c_13 => ?_) (fun c_13 => ?_)
                            · refine lv_iload hx hb dL_law_686 (lv_at hl 1 rfl) ?_
                              refine lv_bipush (v := (nI 20)) hx hb dL_law_688 (by decide) ?_
                              refine kb_gt (tgt := 720) hx hb dL_law_690 (by decide) (by decide) (by decide) (fun c_14 => ?_) (fun c_14 => ?_)
                              · exfalso; omega
                              · refine lv_iload hx hb dL_law_693 (lv_at hl 1 rfl) ?_
                                refine kb_lt0 (tgt := 722) hx hb dL_law_695 (by decide) (by decide) ?_
                                refine lv_iload hx hb dL_law_698 (lv_at hl 4 rfl) ?_
                                refine kb_lt0 (tgt := 720) hx hb dL_law_700 (by decide) (by decide) ?_
                                refine lv_iload hx hb dL_law_703 (lv_at hl 0 rfl) ?_
                                refine kb_lt0 (tgt := 720) hx hb dL_law_705 (by decide) (by decide) ?_
                                refine lv_iload hx hb dL_law_708 (lv_at hl 15 rfl) ?_
                                refine lv_iload hx hb dL_law_710 (lv_at hl 19 rfl) ?_
                                refine kb_eq (tgt := 722) hx hb dL_law_712 (by decide) (by omega) (by omega) (fun c_15 => ?_) (fun c_15 => ?_)
                                · have hl := hl0
                                  exact K722 M_483 L_483 f_483 hob hML hsm _ _ hP hD hS _ (lv_sub hl [5, 6, 7, 8, 9, 10, 11, 12, 13, 14, 15, 16, 17, 18, 19, 4, 3, 1, 0] rfl)
                                · exfalso; omega
                            · exfalso; omega
                          · exfalso; omega
          · exfalso; omega
  · rw [e1, e2, e3, e4] at hl
    have hl : lv_has ls 25 [(23, .int (mTruthA (mTruth fs sn ln op np a bb))), (22, .int (-1)), (21, .int (-1)), (20, .int (-1)), (19, .int (-1)), (0, .ref b), (1, .ref hM), (2, .ref zs), (3, .int (nI tm)), (5, .int (bI qb)), (6, .long x6), (8, .int (nI nn)), (9, .int (bI x9)), (10, .int (nI x10)), (11, .int (nI x11)), (12, .int (nI a)), (13, .int (nI x13)), (14, .int (nI x14)), (15, .int (nI x15)), (16, .int (nI bb))] := hl
    refine lv_iload hx hb dL_law_488 (lv_at hl 4 rfl) ?_
    refine lv_if_ge (tgt := 497) hx hb dL_law_490 (by decide) (fun c_16 => ?_) (fun c_16 => ?_)
    · exfalso; exact absurd c_16 (by decide)
    · refine lv_iconst (v := (nI 1)) hx hb dL_law_493 (by decide) ?_
      refine lv_goto (tgt := 498) hx hb dL_law_494 (by decide) ?_
      refine lv_iload hx hb dL_law_498 (lv_at hl 3 rfl) ?_
      refine lv_if_ge (tgt := 507) hx hb dL_law_500 (by decide) (fun c_17 => ?_) (fun c_17 => ?_)
      · exfalso; exact absurd c_17 (by decide)
      · refine lv_iconst (v := (nI 1)) hx hb dL_law_503 (by decide) ?_
        refine lv_goto (tgt := 508) hx hb dL_law_504 (by decide) ?_
        refine kb_ne (tgt := 607) hx hb dL_law_508 (by decide) (by decide) (by decide) (fun c_18 => ?_) (fun c_18 => ?_)
        · exfalso; omega
        · refine lv_iload hx hb dL_law_511 (lv_at hl 4 rfl) ?_
          refine lv_if_ge (tgt := 520) hx hb dL_law_513 (by decide) (fun c_19 => ?_) (fun c_19 => ?_)
          · exfalso; exact absurd c_19 (by decide)
          · refine lv_iconst (v := (nI 1)) hx hb dL_law_516 (by decide) ?_
            refine lv_goto (tgt := 521) hx hb dL_law_517 (by decide) ?_
            refine lv_iload hx hb dL_law_521 (lv_at hl 2 rfl) ?_
            refine lv_if_ge (tgt := 530) hx hb dL_law_523 (by decide) (fun c_20 => ?_) (fun c_20 => ?_)
            · exfalso; exact absurd c_20 (by decide)
            · refine lv_iconst (v := (nI 1)) hx hb dL_law_526 (by decide) ?_
              refine lv_goto (tgt := 531) hx hb dL_law_527 (by decide) ?_
              refine kb_ne (tgt := 607) hx hb dL_law_531 (by decide) (by decide) (by decide) (fun c_21 => ?_) (fun c_21 => ?_)
              · exfalso; omega
              · refine lv_iload hx hb dL_law_534 (lv_at hl 3 rfl) ?_
                refine lv_iload hx hb dL_law_536 (lv_at hl 11 rfl) ?_
                refine lv_icmp_ge (tgt := 607) hx hb dL_law_538 (by decide) (fun c_22 => ?_) (fun c_22 => ?_)
                · exfalso; exact lI_ml (by omega) c_22
                · refine lv_iload hx hb dL_law_541 (lv_at hl 4 rfl) ?_
                  refine lv_iload hx hb dL_law_543 (lv_at hl 3 rfl) ?_
                  refine lv_icmp_ge (tgt := 553) hx hb dL_law_545 (by decide) (fun c_23 => ?_) (fun c_23 => ?_)
                  · refine lv_iload hx hb dL_law_553 (lv_at hl 3 rfl) ?_
                    refine lv_if_ne (tgt := 562) hx hb dL_law_555 (by decide) (fun c_24 => ?_) (fun c_24 => ?_)
                    · refine lv_iconst (v := (nI 0)) hx hb dL_law_562 (by decide) ?_
                      refine lv_iload hx hb dL_law_563 (lv_at hl 15 rfl) ?_
                      refine lv_iload hx hb dL_law_565 (lv_at hl 19 rfl) ?_
                      refine kb_ne (tgt := 574) hx hb dL_law_567 (by decide) (by omega) (by omega) (fun c_25 => ?_) (fun c_25 => ?_)
                      · refine lv_iconst (v := (nI 0)) hx hb dL_law_574 (by decide) ?_
                        refine kb_ne (tgt := 607) hx hb dL_law_575 (by decide) (by decide) (by decide) (fun c_26 => ?_) (fun c_26 => ?_)
                        · exfalso; omega
                        · refine lv_iload hx hb dL_law_578 (lv_at hl 15 rfl) ?_
                          refine lv_iload hx hb dL_law_580 (lv_at hl 19 rfl) ?_
                          refine kb_ne (tgt := 609) hx hb dL_law_582 (by decide) (by omega) (by omega) (fun c_27 => ?_) (fun c_27 => ?_)
                          · refine lv_iload hx hb dL_law_609 (lv_at hl 15 rfl) ?_
                            refine lv_iload hx hb dL_law_611 (lv_at hl 19 rfl) ?_
                            refine kb_eq (tgt := 686) hx hb dL_law_613 (by decide) (by omega) (by omega) (fun c_28 => ?_) (fun c_28 => ?_)
                            · exfalso; omega
                            · refine lv_iload hx hb dL_law_616 (lv_at hl 4 rfl) ?_
                              refine lv_if_lt (tgt := 686) hx hb dL_law_618 (by decide) (fun c_29 => ?_) (fun c_29 => ?_)
                              · refine lv_iload hx hb dL_law_686 (lv_at hl 1 rfl) ?_
                                refine lv_bipush (v := (nI 20)) hx hb dL_law_688 (by decide) ?_
                                refine lv_icmp_gt (tgt := 720) hx hb dL_law_690 (by decide) (fun c_30 => ?_) (fun c_30 => ?_)
                                · exfalso; exact absurd c_30 (by decide)
                                · refine lv_iload hx hb dL_law_693 (lv_at hl 1 rfl) ?_
                                  refine lv_if_lt (tgt := 722) hx hb dL_law_695 (by decide) (fun c_31 => ?_) (fun c_31 => ?_)
                                  · have hl := hl0
                                    exact K722 M_483 L_483 f_483 hob hML hsm _ _ hP hD hS _ (lv_sub hl [5, 6, 7, 8, 9, 10, 11, 12, 13, 14, 15, 16, 17, 18, 19, 4, 3, 1, 0] rfl)
                                  · exfalso; exact c_31 (by decide)
                              · exfalso; exact c_29 (by decide)
                          · exfalso; omega
                      · exfalso; omega
                    · exfalso; exact absurd c_24 (by decide)
                  · exfalso; exact c_23 (by decide)
  · obtain ⟨d9, q9, g9, v1, v2, v3, e1, e2, e3, k1, k2, k3, k4, k5, k6, k7, s1, s2, s3, u1, u2, u3⟩ := lKnown hV ha hbb hab hW
    rw [e1, e2, e3, e4] at hl
    have hl : lv_has ls 25 [(23, .int (mTruthA (mTruth fs sn ln op np a bb))), (22, .int (-1)), (21, .int (nI g9)), (20, .int (nI q9)), (19, .int (nI d9)), (0, .ref b), (1, .ref hM), (2, .ref zs), (3, .int (nI tm)), (5, .int (bI qb)), (6, .long x6), (8, .int (nI nn)), (9, .int (bI x9)), (10, .int (nI x10)), (11, .int (nI x11)), (12, .int (nI a)), (13, .int (nI x13)), (14, .int (nI x14)), (15, .int (nI x15)), (16, .int (nI bb))] := hl
    refine lv_iload hx hb dL_law_488 (lv_at hl 4 rfl) ?_
    refine kb_ge0 (tgt := 497) hx hb dL_law_490 (by decide) (by omega) ?_
    refine lv_iconst (v := (nI 0)) hx hb dL_law_497 (by decide) ?_
    refine lv_iload hx hb dL_law_498 (lv_at hl 3 rfl) ?_
    refine kb_ge0 (tgt := 507) hx hb dL_law_500 (by decide) (by omega) ?_
    refine lv_iconst (v := (nI 0)) hx hb dL_law_507 (by decide) ?_
    refine kb_ne (tgt := 607) hx hb dL_law_508 (by decide) (by decide) (by decide) (fun c_32 => ?_) (fun c_32 => ?_)
    · exfalso; omega
    · refine lv_iload hx hb dL_law_511 (lv_at hl 4 rfl) ?_
      refine kb_ge0 (tgt := 520) hx hb dL_law_513 (by decide) (by omega) ?_
      refine lv_iconst (v := (nI 0)) hx hb dL_law_520 (by decide) ?_
      refine lv_iload hx hb dL_law_521 (lv_at hl 2 rfl) ?_
      refine kb_ge0 (tgt := 530) hx hb dL_law_523 (by decide) (by omega) ?_
      refine lv_iconst (v := (nI 0)) hx hb dL_law_530 (by decide) ?_
      refine kb_ne (tgt := 607) hx hb dL_law_531 (by decide) (by decide) (by decide) (fun c_33 => ?_) (fun c_33 => ?_)
      · exfalso; omega
      · refine lv_iload hx hb dL_law_534 (lv_at hl 3 rfl) ?_
        refine lv_iload hx hb dL_law_536 (lv_at hl 11 rfl) ?_
        refine kb_ge (tgt := 607) hx hb dL_law_538 (by decide) (by omega) (by omega) (fun c_34 => ?_) (fun c_34 => ?_)
        · exfalso; omega
        · refine lv_iload hx hb dL_law_541 (lv_at hl 4 rfl) ?_
          refine lv_iload hx hb dL_law_543 (lv_at hl 3 rfl) ?_
          refine kb_ge (tgt := 553) hx hb dL_law_545 (by decide) (by omega) (by omega) (fun c_35 => ?_) (fun c_35 => ?_)
          · refine lv_iload hx hb dL_law_553 (lv_at hl 3 rfl) ?_
            refine kb_ne0 (tgt := 562) hx hb dL_law_555 (by decide) (by omega) (fun c_36 => ?_) (fun c_36 => ?_)
            · refine lv_iconst (v := (nI 0)) hx hb dL_law_562 (by decide) ?_
              refine lv_iload hx hb dL_law_563 (lv_at hl 15 rfl) ?_
              refine lv_iload hx hb dL_law_565 (lv_at hl 19 rfl) ?_
              refine kb_ne (tgt := 574) hx hb dL_law_567 (by decide) (by omega) (by omega) (fun c_37 => ?_) (fun c_37 => ?_)
              · refine lv_iconst (v := (nI 0)) hx hb dL_law_574 (by decide) ?_
                refine kb_ne (tgt := 607) hx hb dL_law_575 (by decide) (by decide) (by decide) (fun c_38 => ?_) (fun c_38 => ?_)
                · exfalso; omega
                · refine lv_iload hx hb dL_law_578 (lv_at hl 15 rfl) ?_
                  refine lv_iload hx hb dL_law_580 (lv_at hl 19 rfl) ?_
                  refine kb_ne (tgt := 609) hx hb dL_law_582 (by decide) (by omega) (by omega) (fun c_39 => ?_) (fun c_39 => ?_)
                  · refine lv_iload hx hb dL_law_609 (lv_at hl 15 rfl) ?_
                    refine lv_iload hx hb dL_law_611 (lv_at hl 19 rfl) ?_
                    refine kb_eq (tgt := 686) hx hb dL_law_613 (by decide) (by omega) (by omega) (fun c_40 => ?_) (fun c_40 => ?_)
                    · exfalso; omega
                    · refine lv_iload hx hb dL_law_616 (lv_at hl 4 rfl) ?_
                      refine kb_lt0 (tgt := 686) hx hb dL_law_618 (by decide) (by omega) ?_
                      refine lv_iload hx hb dL_law_621 (lv_at hl 2 rfl) ?_
                      refine lv_iload hx hb dL_law_623 (lv_at hl 15 rfl) ?_
                      refine kb_eq (tgt := 684) hx hb dL_law_625 (by decide) (by omega) (by omega) (fun c_41 => ?_) (fun c_41 => ?_)
                      · exfalso; omega
                      · refine lv_iload hx hb dL_law_628 (lv_at hl 2 rfl) ?_
                        refine lv_iload hx hb dL_law_630 (lv_at hl 11 rfl) ?_
                        refine kb_ge (tgt := 684) hx hb dL_law_632 (by decide) (by omega) (by omega) (fun c_42 => ?_) (fun c_42 => ?_)
                        · exfalso; omega
                        · refine lv_iload hx hb dL_law_635 (lv_at hl 3 rfl) ?_
                          refine lv_iconst (v := (nI 1)) hx hb dL_law_637 (by decide) ?_
                          refine kb_ne (tgt := 648) hx hb dL_law_638 (by decide) (by omega) (by decide) (fun c_43 => ?_) (fun c_43 => ?_)
                          · refine lv_aload_n hx hb dL_law_648 rfl (lv_at hl 6 rfl) ?_
                            refine lv_iload hx hb dL_law_649 (lv_at hl 15 rfl) ?_
                            refine lv_iload hx hb dL_law_651 (lv_at hl 15 rfl) ?_
                            refine lv_iconst (v := (nI 0)) hx hb dL_law_653 (by decide) ?_
                            refine vp_callSi (W.runV (As := [.int (nI a), .int (nI a), .int (nI 0)]) (rest := []) ⟨hx, hb, hml, hown, hts⟩ (c_X4_sheet_o l G hM nn np mi fs sn ln op SS ar ww M_483 L_483 f_483 a a 0 hob hML hV (by omega) (by omega) (by omega) (by omega)) (cwV 3 hts t_X4_sheet rfl rfl rfl (by decide +kernel) ⟨Nat.le_of_ble_eq_true rfl, Nat.le_of_ble_eq_true rfl⟩) (kO_VR hob hML hK (hP.part (cx := []) [] rfl)) rfl rfl hl.1 rfl (lv_room (Nat.le_of_ble_eq_true rfl)) dL_law_654 ⟨(show k9 + 0 ≤ 600130 from by omega), (show n9 + 0 ≤ 7301080 from by omega)⟩) (fun r_44 hr_44 => ?_)
                            refine kr_top (show r_44 = vSheetA mi (SS (a * 10 + a)) 0 from hr_44) ?_
                            refine kr_top (show vSheetA mi (SS (a * 10 + a)) 0 = (nI v1.1) from by rw [s1]; rfl) ?_
                            refine kb_lt0 (tgt := 684) hx hb dL_law_657 (by decide) (by omega) ?_
                            refine lv_aload_n hx hb dL_law_660 rfl (lv_at hl 6 rfl) ?_
                            refine lv_iload hx hb dL_law_661 (lv_at hl 15 rfl) ?_
                            refine lv_iload hx hb dL_law_663 (lv_at hl 19 rfl) ?_
                            refine lv_iconst (v := (nI 0)) hx hb dL_law_665 (by decide) ?_
                            refine vp_callSi (W.runV (As := [.int (nI a), .int (nI bb), .int (nI 0)]) (rest := []) ⟨hx, hb, hml, hown, hts⟩ (c_X4_sheet_o l G hM nn np mi fs sn ln op SS ar ww M_483 L_483 f_483 a bb 0 hob hML hV (by omega) (by omega) (by omega) (by omega)) (cwV 3 hts t_X4_sheet rfl rfl rfl (by decide +kernel) ⟨Nat.le_of_ble_eq_true rfl, Nat.le_of_ble_eq_true rfl⟩) (kO_VR hob hML hK (hP.part (cx := []) [] rfl)) rfl rfl hl.1 rfl (lv_room (Nat.le_of_ble_eq_true rfl)) dL_law_666 ⟨(show k9 + 0 ≤ 600130 from by omega), (show n9 + 0 ≤ 7301080 from by omega)⟩) (fun r_45 hr_45 => ?_)
                            refine kr_top (show r_45 = vSheetA mi (SS (a * 10 + bb)) 0 from hr_45) ?_
                            refine kr_top (show vSheetA mi (SS (a * 10 + bb)) 0 = (nI v2.1) from by rw [s2]; rfl) ?_
                            refine kb_lt0 (tgt := 684) hx hb dL_law_669 (by decide) (by omega) ?_
                            refine lv_aload_n hx hb dL_law_672 rfl (lv_at hl 6 rfl) ?_
                            refine lv_iload hx hb dL_law_673 (lv_at hl 15 rfl) ?_
                            refine lv_iload hx hb dL_law_675 (lv_at hl 2 rfl) ?_
                            refine lv_iconst (v := (nI 0)) hx hb dL_law_677 (by decide) ?_
                            refine vp_callSi (W.runV (As := [.int (nI a), .int (nI g9), .int (nI 0)]) (rest := []) ⟨hx, hb, hml, hown, hts⟩ (c_X4_sheet_o l G hM nn np mi fs sn ln op SS ar ww M_483 L_483 f_483 a g9 0 hob hML hV (by omega) (by omega) (by omega) (by omega)) (cwV 3 hts t_X4_sheet rfl rfl rfl (by decide +kernel) ⟨Nat.le_of_ble_eq_true rfl, Nat.le_of_ble_eq_true rfl⟩) (kO_VR hob hML hK (hP.part (cx := []) [] rfl)) rfl rfl hl.1 rfl (lv_room (Nat.le_of_ble_eq_true rfl)) dL_law_678 ⟨(show k9 + 0 ≤ 600130 from by omega), (show n9 + 0 ≤ 7301080 from by omega)⟩) (fun r_46 hr_46 => ?_)
                            refine kr_top (show r_46 = vSheetA mi (SS (a * 10 + g9)) 0 from hr_46) ?_
                            refine kr_top (show vSheetA mi (SS (a * 10 + g9)) 0 = (nI v3.1) from by rw [s3]; rfl) ?_
                            refine kb_ge0 (tgt := 686) hx hb dL_law_681 (by decide) (by omega) ?_
                            refine lv_iload hx hb dL_law_686 (lv_at hl 1 rfl) ?_
                            refine lv_bipush (v := (nI 20)) hx hb dL_law_688 (by decide) ?_
                            refine lv_icmp_gt (tgt := 720) hx hb dL_law_690 (by decide) (fun c_47 => ?_) (fun c_47 => ?_)
                            · exfalso; exact absurd c_47 (by decide)
                            · refine lv_iload hx hb dL_law_693 (lv_at hl 1 rfl) ?_
                              refine lv_if_lt (tgt := 722) hx hb dL_law_695 (by decide) (fun c_48 => ?_) (fun c_48 => ?_)
                              · have hl := hl0
                                exact K722 M_483 L_483 f_483 hob hML hsm _ _ hP hD hS _ (lv_sub hl [5, 6, 7, 8, 9, 10, 11, 12, 13, 14, 15, 16, 17, 18, 19, 4, 3, 1, 0] rfl)
                              · exfalso; exact c_48 (by decide)
                          · refine lv_iload hx hb dL_law_641 (lv_at hl 2 rfl) ?_
                            refine lv_iload hx hb dL_law_643 (lv_at hl 19 rfl) ?_
                            refine kb_ne (tgt := 684) hx hb dL_law_645 (by decide) (by omega) (by omega) (fun c_49 => ?_) (fun c_49 => ?_)
                            · exfalso; omega
                            · refine lv_aload_n hx hb dL_law_648 rfl (lv_at hl 6 rfl) ?_
                              refine lv_iload hx hb dL_law_649 (lv_at hl 15 rfl) ?_
                              refine lv_iload hx hb dL_law_651 (lv_at hl 15 rfl) ?_
                              refine lv_iconst (v := (nI 0)) hx hb dL_law_653 (by decide) ?_
                              refine vp_callSi (W.runV (As := [.int (nI a), .int (nI a), .int (nI 0)]) (rest := []) ⟨hx, hb, hml, hown, hts⟩ (c_X4_sheet_o l G hM nn np mi fs sn ln op SS ar ww M_483 L_483 f_483 a a 0 hob hML hV (by omega) (by omega) (by omega) (by omega)) (cwV 3 hts t_X4_sheet rfl rfl rfl (by decide +kernel) ⟨Nat.le_of_ble_eq_true rfl, Nat.le_of_ble_eq_true rfl⟩) (kO_VR hob hML hK (hP.part (cx := []) [] rfl)) rfl rfl hl.1 rfl (lv_room (Nat.le_of_ble_eq_true rfl)) dL_law_654 ⟨(show k9 + 0 ≤ 600130 from by omega), (show n9 + 0 ≤ 7301080 from by omega)⟩) (fun r_50 hr_50 => ?_)
                              refine kr_top (show r_50 = vSheetA mi (SS (a * 10 + a)) 0 from hr_50) ?_
                              refine kr_top (show vSheetA mi (SS (a * 10 + a)) 0 = (nI v1.1) from by rw [s1]; rfl) ?_
                              refine kb_lt0 (tgt := 684) hx hb dL_law_657 (by decide) (by omega) ?_
                              refine lv_aload_n hx hb dL_law_660 rfl (lv_at hl 6 rfl) ?_
                              refine lv_iload hx hb dL_law_661 (lv_at hl 15 rfl) ?_
                              refine lv_iload hx hb dL_law_663 (lv_at hl 19 rfl) ?_
                              refine lv_iconst (v := (nI 0)) hx hb dL_law_665 (by decide) ?_
                              refine vp_callSi (W.runV (As := [.int (nI a), .int (nI bb), .int (nI 0)]) (rest := []) ⟨hx, hb, hml, hown, hts⟩ (c_X4_sheet_o l G hM nn np mi fs sn ln op SS ar ww M_483 L_483 f_483 a bb 0 hob hML hV (by omega) (by omega) (by omega) (by omega)) (cwV 3 hts t_X4_sheet rfl rfl rfl (by decide +kernel) ⟨Nat.le_of_ble_eq_true rfl, Nat.le_of_ble_eq_true rfl⟩) (kO_VR hob hML hK (hP.part (cx := []) [] rfl)) rfl rfl hl.1 rfl (lv_room (Nat.le_of_ble_eq_true rfl)) dL_law_666 ⟨(show k9 + 0 ≤ 600130 from by omega), (show n9 + 0 ≤ 7301080 from by omega)⟩) (fun r_51 hr_51 => ?_)
                              refine kr_top (show r_51 = vSheetA mi (SS (a * 10 + bb)) 0 from hr_51) ?_
                              refine kr_top (show vSheetA mi (SS (a * 10 + bb)) 0 = (nI v2.1) from by rw [s2]; rfl) ?_
                              refine kb_lt0 (tgt := 684) hx hb dL_law_669 (by decide) (by omega) ?_
                              refine lv_aload_n hx hb dL_law_672 rfl (lv_at hl 6 rfl) ?_
                              refine lv_iload hx hb dL_law_673 (lv_at hl 15 rfl) ?_
                              refine lv_iload hx hb dL_law_675 (lv_at hl 2 rfl) ?_
                              refine lv_iconst (v := (nI 0)) hx hb dL_law_677 (by decide) ?_
                              refine vp_callSi (W.runV (As := [.int (nI a), .int (nI g9), .int (nI 0)]) (rest := []) ⟨hx, hb, hml, hown, hts⟩ (c_X4_sheet_o l G hM nn np mi fs sn ln op SS ar ww M_483 L_483 f_483 a g9 0 hob hML hV (by omega) (by omega) (by omega) (by omega)) (cwV 3 hts t_X4_sheet rfl rfl rfl (by decide +kernel) ⟨Nat.le_of_ble_eq_true rfl, Nat.le_of_ble_eq_true rfl⟩) (kO_VR hob hML hK (hP.part (cx := []) [] rfl)) rfl rfl hl.1 rfl (lv_room (Nat.le_of_ble_eq_true rfl)) dL_law_678 ⟨(show k9 + 0 ≤ 600130 from by omega), (show n9 + 0 ≤ 7301080 from by omega)⟩) (fun r_52 hr_52 => ?_)
                              refine kr_top (show r_52 = vSheetA mi (SS (a * 10 + g9)) 0 from hr_52) ?_
                              refine kr_top (show vSheetA mi (SS (a * 10 + g9)) 0 = (nI v3.1) from by rw [s3]; rfl) ?_
                              refine kb_ge0 (tgt := 686) hx hb dL_law_681 (by decide) (by omega) ?_
                              refine lv_iload hx hb dL_law_686 (lv_at hl 1 rfl) ?_
                              refine lv_bipush (v := (nI 20)) hx hb dL_law_688 (by decide) ?_
                              refine lv_icmp_gt (tgt := 720) hx hb dL_law_690 (by decide) (fun c_53 => ?_) (fun c_53 => ?_)
                              · exfalso; exact absurd c_53 (by decide)
                              · refine lv_iload hx hb dL_law_693 (lv_at hl 1 rfl) ?_
                                refine lv_if_lt (tgt := 722) hx hb dL_law_695 (by decide) (fun c_54 => ?_) (fun c_54 => ?_)
                                · have hl := hl0
                                  exact K722 M_483 L_483 f_483 hob hML hsm _ _ hP hD hS _ (lv_sub hl [5, 6, 7, 8, 9, 10, 11, 12, 13, 14, 15, 16, 17, 18, 19, 4, 3, 1, 0] rfl)
                                · exfalso; exact c_54 (by decide)
                  · exfalso; omega
              · exfalso; omega
            · exfalso; omega
          · exfalso; omega
  · obtain ⟨d9, q9, g9, v1, v2, v3, e1, e2, e3, k1, k2, k3, k4, k5, k6, k7, s1, s2, s3, u1, u2, u3⟩ := lKnown hV ha hbb hab hW
    rw [e1, e2, e3, e4, e5] at hl
    have hl : lv_has ls 25 [(23, .int (nI t8)), (22, .int (nI k8)), (21, .int (nI g9)), (20, .int (nI q9)), (19, .int (nI d9)), (0, .ref b), (1, .ref hM), (2, .ref zs), (3, .int (nI tm)), (5, .int (bI qb)), (6, .long x6), (8, .int (nI nn)), (9, .int (bI x9)), (10, .int (nI x10)), (11, .int (nI x11)), (12, .int (nI a)), (13, .int (nI x13)), (14, .int (nI x14)), (15, .int (nI x15)), (16, .int (nI bb))] := hl
    refine lv_iload hx hb dL_law_488 (lv_at hl 4 rfl) ?_
    refine kb_ge0 (tgt := 497) hx hb dL_law_490 (by decide) (by omega) ?_
    refine lv_iconst (v := (nI 0)) hx hb dL_law_497 (by decide) ?_
    refine lv_iload hx hb dL_law_498 (lv_at hl 3 rfl) ?_
    refine kb_ge0 (tgt := 507) hx hb dL_law_500 (by decide) (by omega) ?_
    refine lv_iconst (v := (nI 0)) hx hb dL_law_507 (by decide) ?_
    refine kb_ne (tgt := 607) hx hb dL_law_508 (by decide) (by decide) (by decide) (fun c_55 => ?_) (fun c_55 => ?_)
    · exfalso; omega
    · refine lv_iload hx hb dL_law_511 (lv_at hl 4 rfl) ?_
      refine kb_ge0 (tgt := 520) hx hb dL_law_513 (by decide) (by omega) ?_
      refine lv_iconst (v := (nI 0)) hx hb dL_law_520 (by decide) ?_
      refine lv_iload hx hb dL_law_521 (lv_at hl 2 rfl) ?_
      refine kb_ge0 (tgt := 530) hx hb dL_law_523 (by decide) (by omega) ?_
      refine lv_iconst (v := (nI 0)) hx hb dL_law_530 (by decide) ?_
      refine kb_ne (tgt := 607) hx hb dL_law_531 (by decide) (by decide) (by decide) (fun c_56 => ?_) (fun c_56 => ?_)
      · exfalso; omega
      · refine lv_iload hx hb dL_law_534 (lv_at hl 3 rfl) ?_
        refine lv_iload hx hb dL_law_536 (lv_at hl 11 rfl) ?_
        refine kb_ge (tgt := 607) hx hb dL_law_538 (by decide) (by omega) (by omega) (fun c_57 => ?_) (fun c_57 => ?_)
        · exfalso; omega
        · refine lv_iload hx hb dL_law_541 (lv_at hl 4 rfl) ?_
          refine lv_iload hx hb dL_law_543 (lv_at hl 3 rfl) ?_
          refine kb_ge (tgt := 553) hx hb dL_law_545 (by decide) (by omega) (by omega) (fun c_58 => ?_) (fun c_58 => ?_)
          · refine lv_iload hx hb dL_law_553 (lv_at hl 3 rfl) ?_
            refine kb_ne0 (tgt := 562) hx hb dL_law_555 (by decide) (by omega) (fun c_59 => ?_) (fun c_59 => ?_)
            · refine lv_iconst (v := (nI 0)) hx hb dL_law_562 (by decide) ?_
              refine lv_iload hx hb dL_law_563 (lv_at hl 15 rfl) ?_
              refine lv_iload hx hb dL_law_565 (lv_at hl 19 rfl) ?_
              refine kb_ne (tgt := 574) hx hb dL_law_567 (by decide) (by omega) (by omega) (fun c_60 => ?_) (fun c_60 => ?_)
              · refine lv_iconst (v := (nI 0)) hx hb dL_law_574 (by decide) ?_
                refine kb_ne (tgt := 607) hx hb dL_law_575 (by decide) (by decide) (by decide) (fun c_61 => ?_) (fun c_61 => ?_)
                · exfalso; omega
                · refine lv_iload hx hb dL_law_578 (lv_at hl 15 rfl) ?_
                  refine lv_iload hx hb dL_law_580 (lv_at hl 19 rfl) ?_
                  refine kb_ne (tgt := 609) hx hb dL_law_582 (by decide) (by omega) (by omega) (fun c_62 => ?_) (fun c_62 => ?_)
                  · refine lv_iload hx hb dL_law_609 (lv_at hl 15 rfl) ?_
                    refine lv_iload hx hb dL_law_611 (lv_at hl 19 rfl) ?_
                    refine kb_eq (tgt := 686) hx hb dL_law_613 (by decide) (by omega) (by omega) (fun c_63 => ?_) (fun c_63 => ?_)
                    · exfalso; omega
                    · refine lv_iload hx hb dL_law_616 (lv_at hl 4 rfl) ?_
                      refine kb_lt0 (tgt := 686) hx hb dL_law_618 (by decide) (by omega) ?_
                      refine lv_iload hx hb dL_law_621 (lv_at hl 2 rfl) ?_
                      refine lv_iload hx hb dL_law_623 (lv_at hl 15 rfl) ?_
                      refine kb_eq (tgt := 684) hx hb dL_law_625 (by decide) (by omega) (by omega) (fun c_64 => ?_) (fun c_64 => ?_)
                      · exfalso; omega
                      · refine lv_iload hx hb dL_law_628 (lv_at hl 2 rfl) ?_
                        refine lv_iload hx hb dL_law_630 (lv_at hl 11 rfl) ?_
                        refine kb_ge (tgt := 684) hx hb dL_law_632 (by decide) (by omega) (by omega) (fun c_65 => ?_) (fun c_65 => ?_)
                        · exfalso; omega
                        · refine lv_iload hx hb dL_law_635 (lv_at hl 3 rfl) ?_
                          refine lv_iconst (v := (nI 1)) hx hb dL_law_637 (by decide) ?_
                          refine kb_ne (tgt := 648) hx hb dL_law_638 (by decide) (by omega) (by decide) (fun c_66 => ?_) (fun c_66 => ?_)
                          · refine lv_aload_n hx hb dL_law_648 rfl (lv_at hl 6 rfl) ?_
                            refine lv_iload hx hb dL_law_649 (lv_at hl 15 rfl) ?_
                            refine lv_iload hx hb dL_law_651 (lv_at hl 15 rfl) ?_
                            refine lv_iconst (v := (nI 0)) hx hb dL_law_653 (by decide) ?_
                            refine vp_callSi (W.runV (As := [.int (nI a), .int (nI a), .int (nI 0)]) (rest := []) ⟨hx, hb, hml, hown, hts⟩ (c_X4_sheet_o l G hM nn np mi fs sn ln op SS ar ww M_483 L_483 f_483 a a 0 hob hML hV (by omega) (by omega) (by omega) (by omega)) (cwV 3 hts t_X4_sheet rfl rfl rfl (by decide +kernel) ⟨Nat.le_of_ble_eq_true rfl, Nat.le_of_ble_eq_true rfl⟩) (kO_VR hob hML hK (hP.part (cx := []) [] rfl)) rfl rfl hl.1 rfl (lv_room (Nat.le_of_ble_eq_true rfl)) dL_law_654 ⟨(show k9 + 0 ≤ 600130 from by omega), (show n9 + 0 ≤ 7301080 from by omega)⟩) (fun r_67 hr_67 => ?_)
                            refine kr_top (show r_67 = vSheetA mi (SS (a * 10 + a)) 0 from hr_67) ?_
                            refine kr_top (show vSheetA mi (SS (a * 10 + a)) 0 = (nI v1.1) from by rw [s1]; rfl) ?_
                            refine kb_lt0 (tgt := 684) hx hb dL_law_657 (by decide) (by omega) ?_
                            refine lv_aload_n hx hb dL_law_660 rfl (lv_at hl 6 rfl) ?_
                            refine lv_iload hx hb dL_law_661 (lv_at hl 15 rfl) ?_
                            refine lv_iload hx hb dL_law_663 (lv_at hl 19 rfl) ?_
                            refine lv_iconst (v := (nI 0)) hx hb dL_law_665 (by decide) ?_
                            refine vp_callSi (W.runV (As := [.int (nI a), .int (nI bb), .int (nI 0)]) (rest := []) ⟨hx, hb, hml, hown, hts⟩ (c_X4_sheet_o l G hM nn np mi fs sn ln op SS ar ww M_483 L_483 f_483 a bb 0 hob hML hV (by omega) (by omega) (by omega) (by omega)) (cwV 3 hts t_X4_sheet rfl rfl rfl (by decide +kernel) ⟨Nat.le_of_ble_eq_true rfl, Nat.le_of_ble_eq_true rfl⟩) (kO_VR hob hML hK (hP.part (cx := []) [] rfl)) rfl rfl hl.1 rfl (lv_room (Nat.le_of_ble_eq_true rfl)) dL_law_666 ⟨(show k9 + 0 ≤ 600130 from by omega), (show n9 + 0 ≤ 7301080 from by omega)⟩) (fun r_68 hr_68 => ?_)
                            refine kr_top (show r_68 = vSheetA mi (SS (a * 10 + bb)) 0 from hr_68) ?_
                            refine kr_top (show vSheetA mi (SS (a * 10 + bb)) 0 = (nI v2.1) from by rw [s2]; rfl) ?_
                            refine kb_lt0 (tgt := 684) hx hb dL_law_669 (by decide) (by omega) ?_
                            refine lv_aload_n hx hb dL_law_672 rfl (lv_at hl 6 rfl) ?_
                            refine lv_iload hx hb dL_law_673 (lv_at hl 15 rfl) ?_
                            refine lv_iload hx hb dL_law_675 (lv_at hl 2 rfl) ?_
                            refine lv_iconst (v := (nI 0)) hx hb dL_law_677 (by decide) ?_
                            refine vp_callSi (W.runV (As := [.int (nI a), .int (nI g9), .int (nI 0)]) (rest := []) ⟨hx, hb, hml, hown, hts⟩ (c_X4_sheet_o l G hM nn np mi fs sn ln op SS ar ww M_483 L_483 f_483 a g9 0 hob hML hV (by omega) (by omega) (by omega) (by omega)) (cwV 3 hts t_X4_sheet rfl rfl rfl (by decide +kernel) ⟨Nat.le_of_ble_eq_true rfl, Nat.le_of_ble_eq_true rfl⟩) (kO_VR hob hML hK (hP.part (cx := []) [] rfl)) rfl rfl hl.1 rfl (lv_room (Nat.le_of_ble_eq_true rfl)) dL_law_678 ⟨(show k9 + 0 ≤ 600130 from by omega), (show n9 + 0 ≤ 7301080 from by omega)⟩) (fun r_69 hr_69 => ?_)
                            refine kr_top (show r_69 = vSheetA mi (SS (a * 10 + g9)) 0 from hr_69) ?_
                            refine kr_top (show vSheetA mi (SS (a * 10 + g9)) 0 = (nI v3.1) from by rw [s3]; rfl) ?_
                            refine kb_ge0 (tgt := 686) hx hb dL_law_681 (by decide) (by omega) ?_
                            refine lv_iload hx hb dL_law_686 (lv_at hl 1 rfl) ?_
                            refine lv_bipush (v := (nI 20)) hx hb dL_law_688 (by decide) ?_
                            refine kb_gt (tgt := 720) hx hb dL_law_690 (by decide) (by omega) (by decide) (fun c_70 => ?_) (fun c_70 => ?_)
                            · exfalso; omega
                            · refine lv_iload hx hb dL_law_693 (lv_at hl 1 rfl) ?_
                              refine kb_lt0 (tgt := 722) hx hb dL_law_695 (by decide) (by omega) ?_
                              refine lv_iload hx hb dL_law_698 (lv_at hl 4 rfl) ?_
                              refine kb_lt0 (tgt := 720) hx hb dL_law_700 (by decide) (by omega) ?_
                              refine lv_iload hx hb dL_law_703 (lv_at hl 0 rfl) ?_
                              refine kb_lt0 (tgt := 720) hx hb dL_law_705 (by decide) (by omega) ?_
                              refine lv_iload hx hb dL_law_708 (lv_at hl 15 rfl) ?_
                              refine lv_iload hx hb dL_law_710 (lv_at hl 19 rfl) ?_
                              refine kb_eq (tgt := 722) hx hb dL_law_712 (by decide) (by omega) (by omega) (fun c_71 => ?_) (fun c_71 => ?_)
                              · exfalso; omega
                              · refine lv_iload hx hb dL_law_715 (lv_at hl 1 rfl) ?_
                                refine kb_ne0 (tgt := 722) hx hb dL_law_717 (by decide) (by omega) (fun c_72 => ?_) (fun c_72 => ?_)
                                · have hl := hl0
                                  exact K722 M_483 L_483 f_483 hob hML hsm _ _ hP hD hS _ (lv_sub hl [5, 6, 7, 8, 9, 10, 11, 12, 13, 14, 15, 16, 17, 18, 19, 4, 3, 1, 0] rfl)
                                · exfalso; omega
                          · refine lv_iload hx hb dL_law_641 (lv_at hl 2 rfl) ?_
                            refine lv_iload hx hb dL_law_643 (lv_at hl 19 rfl) ?_
                            refine kb_ne (tgt := 684) hx hb dL_law_645 (by decide) (by omega) (by omega) (fun c_73 => ?_) (fun c_73 => ?_)
                            · exfalso; omega
                            · refine lv_aload_n hx hb dL_law_648 rfl (lv_at hl 6 rfl) ?_
                              refine lv_iload hx hb dL_law_649 (lv_at hl 15 rfl) ?_
                              refine lv_iload hx hb dL_law_651 (lv_at hl 15 rfl) ?_
                              refine lv_iconst (v := (nI 0)) hx hb dL_law_653 (by decide) ?_
                              refine vp_callSi (W.runV (As := [.int (nI a), .int (nI a), .int (nI 0)]) (rest := []) ⟨hx, hb, hml, hown, hts⟩ (c_X4_sheet_o l G hM nn np mi fs sn ln op SS ar ww M_483 L_483 f_483 a a 0 hob hML hV (by omega) (by omega) (by omega) (by omega)) (cwV 3 hts t_X4_sheet rfl rfl rfl (by decide +kernel) ⟨Nat.le_of_ble_eq_true rfl, Nat.le_of_ble_eq_true rfl⟩) (kO_VR hob hML hK (hP.part (cx := []) [] rfl)) rfl rfl hl.1 rfl (lv_room (Nat.le_of_ble_eq_true rfl)) dL_law_654 ⟨(show k9 + 0 ≤ 600130 from by omega), (show n9 + 0 ≤ 7301080 from by omega)⟩) (fun r_74 hr_74 => ?_)
                              refine kr_top (show r_74 = vSheetA mi (SS (a * 10 + a)) 0 from hr_74) ?_
                              refine kr_top (show vSheetA mi (SS (a * 10 + a)) 0 = (nI v1.1) from by rw [s1]; rfl) ?_
                              refine kb_lt0 (tgt := 684) hx hb dL_law_657 (by decide) (by omega) ?_
                              refine lv_aload_n hx hb dL_law_660 rfl (lv_at hl 6 rfl) ?_
                              refine lv_iload hx hb dL_law_661 (lv_at hl 15 rfl) ?_
                              refine lv_iload hx hb dL_law_663 (lv_at hl 19 rfl) ?_
                              refine lv_iconst (v := (nI 0)) hx hb dL_law_665 (by decide) ?_
                              refine vp_callSi (W.runV (As := [.int (nI a), .int (nI bb), .int (nI 0)]) (rest := []) ⟨hx, hb, hml, hown, hts⟩ (c_X4_sheet_o l G hM nn np mi fs sn ln op SS ar ww M_483 L_483 f_483 a bb 0 hob hML hV (by omega) (by omega) (by omega) (by omega)) (cwV 3 hts t_X4_sheet rfl rfl rfl (by decide +kernel) ⟨Nat.le_of_ble_eq_true rfl, Nat.le_of_ble_eq_true rfl⟩) (kO_VR hob hML hK (hP.part (cx := []) [] rfl)) rfl rfl hl.1 rfl (lv_room (Nat.le_of_ble_eq_true rfl)) dL_law_666 ⟨(show k9 + 0 ≤ 600130 from by omega), (show n9 + 0 ≤ 7301080 from by omega)⟩) (fun r_75 hr_75 => ?_)
                              refine kr_top (show r_75 = vSheetA mi (SS (a * 10 + bb)) 0 from hr_75) ?_
                              refine kr_top (show vSheetA mi (SS (a * 10 + bb)) 0 = (nI v2.1) from by rw [s2]; rfl) ?_
                              refine kb_lt0 (tgt := 684) hx hb dL_law_669 (by decide) (by omega) ?_
                              refine lv_aload_n hx hb dL_law_672 rfl (lv_at hl 6 rfl) ?_
                              refine lv_iload hx hb dL_law_673 (lv_at hl 15 rfl) ?_
                              refine lv_iload hx hb dL_law_675 (lv_at hl 2 rfl) ?_
                              refine lv_iconst (v := (nI 0)) hx hb dL_law_677 (by decide) ?_
                              refine vp_callSi (W.runV (As := [.int (nI a), .int (nI g9), .int (nI 0)]) (rest := []) ⟨hx, hb, hml, hown, hts⟩ (c_X4_sheet_o l G hM nn np mi fs sn ln op SS ar ww M_483 L_483 f_483 a g9 0 hob hML hV (by omega) (by omega) (by omega) (by omega)) (cwV 3 hts t_X4_sheet rfl rfl rfl (by decide +kernel) ⟨Nat.le_of_ble_eq_true rfl, Nat.le_of_ble_eq_true rfl⟩) (kO_VR hob hML hK (hP.part (cx := []) [] rfl)) rfl rfl hl.1 rfl (lv_room (Nat.le_of_ble_eq_true rfl)) dL_law_678 ⟨(show k9 + 0 ≤ 600130 from by omega), (show n9 + 0 ≤ 7301080 from by omega)⟩) (fun r_76 hr_76 => ?_)
                              refine kr_top (show r_76 = vSheetA mi (SS (a * 10 + g9)) 0 from hr_76) ?_
                              refine kr_top (show vSheetA mi (SS (a * 10 + g9)) 0 = (nI v3.1) from by rw [s3]; rfl) ?_
                              refine kb_ge0 (tgt := 686) hx hb dL_law_681 (by decide) (by omega) ?_
                              refine lv_iload hx hb dL_law_686 (lv_at hl 1 rfl) ?_
                              refine lv_bipush (v := (nI 20)) hx hb dL_law_688 (by decide) ?_
                              refine kb_gt (tgt := 720) hx hb dL_law_690 (by decide) (by omega) (by decide) (fun c_77 => ?_) (fun c_77 => ?_)
                              · exfalso; omega
                              · refine lv_iload hx hb dL_law_693 (lv_at hl 1 rfl) ?_
                                refine kb_lt0 (tgt := 722) hx hb dL_law_695 (by decide) (by omega) ?_
                                refine lv_iload hx hb dL_law_698 (lv_at hl 4 rfl) ?_
                                refine kb_lt0 (tgt := 720) hx hb dL_law_700 (by decide) (by omega) ?_
                                refine lv_iload hx hb dL_law_703 (lv_at hl 0 rfl) ?_
                                refine kb_lt0 (tgt := 720) hx hb dL_law_705 (by decide) (by omega) ?_
                                refine lv_iload hx hb dL_law_708 (lv_at hl 15 rfl) ?_
                                refine lv_iload hx hb dL_law_710 (lv_at hl 19 rfl) ?_
                                refine kb_eq (tgt := 722) hx hb dL_law_712 (by decide) (by omega) (by omega) (fun c_78 => ?_) (fun c_78 => ?_)
                                · exfalso; omega
                                · refine lv_iload hx hb dL_law_715 (lv_at hl 1 rfl) ?_
                                  refine kb_ne0 (tgt := 722) hx hb dL_law_717 (by decide) (by omega) (fun c_79 => ?_) (fun c_79 => ?_)
                                  · have hl := hl0
                                    exact K722 M_483 L_483 f_483 hob hML hsm _ _ hP hD hS _ (lv_sub hl [5, 6, 7, 8, 9, 10, 11, 12, 13, 14, 15, 16, 17, 18, 19, 4, 3, 1, 0] rfl)
                                  · exfalso; omega
                  · exfalso; omega
              · exfalso; omega
            · exfalso; omega
          · exfalso; omega
