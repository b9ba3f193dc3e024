set_option maxHeartbeats 4000000 in
set_option maxRecDepth 100000 in
theorem l_p1 {p : Program} {l : Launch} {e : Env} {s : State} {m : MethodId} {below : List Frame} {meth : Method} {c : Code} {A : Nat → Prop} {G : kG} {b len : Nat} {xs : Nat → Int32} {hM zs : Nat} {za zw zq zp nn np mi : Nat} {ro : Nat → Nat} {rr : Nat → Nat → Nat} {rp fs sn ln : Nat → Nat} {op : Nat → Bool} {SS : Nat → Option mS} {ar ww : Nat → Nat} (C0 : lCtx p l s m meth c A G b len xs) (hV : vInv ar fs sn ln nn np mi SS ww) (hn7 : nn ≤ 7) (hmi : mi + 1000 < 2 ^ 31) {k9 n9 : Nat} (hk9 : k9 + 20000 ≤ 600130) (hn9 : n9 + 200000 ≤ 7301080) {tm a bb x10 x11 x14 x15 : Nat} {qb x9 : Bool} {x6 : Int64} (ha : a < nn) (hbb : bb < nn) (K435 : lGo p l e s m below meth c A G b hM zs za zw zq zp nn np mi ro rr rp fs sn ln op SS ar ww k9 n9 435 [(0, .ref b), (1, .ref hM), (2, .ref zs), (3, .int (nI tm)), (5, .int (bI qb)), (6, .long x6), (8, .int (nI nn)), (9, .int (bI x9)), (10, .int (nI x10)), (11, .int (nI x11)), (12, .int (nI a)), (13, .int (nI (mCnt (fun k => (SS (a * 10 + k)).isSome) (bb + 1)))), (14, .int (nI x14)), (15, .int (nI x15)), (16, .int (nI bb))]) : lGo p l e s m below meth c A G b hM zs za zw zq zp nn np mi ro rr rp fs sn ln op SS ar ww k9 n9 229 [(0, .ref b), (1, .ref hM), (2, .ref zs), (3, .int (nI tm)), (5, .int (bI qb)), (6, .long x6), (8, .int (nI nn)), (9, .int (bI x9)), (10, .int (nI x10)), (11, .int (nI x11)), (12, .int (nI a)), (13, .int (nI (mCnt (fun k => (SS (a * 10 + k)).isSome) bb))), (14, .int (nI x14)), (15, .int (nI x15)), (16, .int (nI bb))] := by
  obtain ⟨hx, hb, hr, hml, hown, hts, hX, hlocks, hK, hZ, hA, hA2, hbA, hlen⟩ := id C0
  intro M L f hob hML hsm H locs hP hD hS ls hl
  have har := hV.2.1
  have hwa9 := hV.2.2.2.2.2.2 a
  have hwb9 := hV.2.2.2.2.2.2 bb
  rcases hs0 : SS (a * 10 + bb) with _ | v9
  · refine lv_aload_n hx hb dL_law_229 rfl (lv_at hl 1 rfl) ?_
    refine lv_iload hx hb dL_law_230 (lv_at hl 10 rfl) ?_
    refine lv_iload hx hb dL_law_232 (lv_at hl 14 rfl) ?_
    refine lv_iconst (v := (nI 0)) hx hb dL_law_234 (by decide) ?_
    refine vp_callSi (W.runV (As := [.int (nI a), .int (nI bb), .int (nI 0)]) (rest := []) ⟨hx, hb, hml, hown, hts⟩ (c_X4_sheet_o l G hM nn np mi fs sn ln op SS ar ww M L f a bb 0 hob hML hV (by omega) (by omega) (by omega) (by omega)) (cwV 3 hts t_X4_sheet rfl rfl rfl (by decide +kernel) ⟨Nat.le_of_ble_eq_true rfl, Nat.le_of_ble_eq_true rfl⟩) (kO_VR hob hML hK (hP.part (cx := []) [] rfl)) rfl rfl hl.1 rfl (lv_room (Nat.le_of_ble_eq_true rfl)) dL_law_235 ⟨(show k9 + 0 ≤ 600130 from by omega), (show n9 + 0 ≤ 7301080 from by omega)⟩) (fun r_1 hr_1 => ?_)
    refine kr_top (show r_1 = vSheetA mi (SS (a * 10 + bb)) 0 from hr_1) ?_
    refine kr_top (show vSheetA mi (SS (a * 10 + bb)) 0 = (-1) from by rw [hs0]; rfl) ?_
    refine lv_istore (lv' := [(17, .int (-1)), (0, .ref b), (1, .ref hM), (2, .ref zs), (3, .int (nI tm)), (5, .int (bI qb)), (6, .long x6), (8, .int (nI nn)), (9, .int (bI x9)), (10, .int (nI x10)), (11, .int (nI x11)), (12, .int (nI a)), (13, .int (nI (mCnt (fun k => (SS (a * 10 + k)).isSome) bb))), (14, .int (nI x14)), (15, .int (nI x15)), (16, .int (nI bb))]) hx hb dL_law_238 hl (by decide) rfl (fun ls hl => ?_)
    refine lv_aload_n hx hb dL_law_240 rfl (lv_at hl 2 rfl) ?_
    refine lv_iload hx hb dL_law_241 (lv_at hl 11 rfl) ?_
    refine lv_iload hx hb dL_law_243 (lv_at hl 15 rfl) ?_
    refine lv_iconst (v := (nI 1)) hx hb dL_law_245 (by decide) ?_
    refine vp_callSi (W.runV (As := [.int (nI a), .int (nI bb), .int (nI 1)]) (rest := []) ⟨hx, hb, hml, hown, hts⟩ (c_X4_sheet_o l G hM nn np mi fs sn ln op SS ar ww M L f a bb 1 hob hML hV (by omega) (by omega) (by omega) (by omega)) (cwV 3 hts t_X4_sheet rfl rfl rfl (by decide +kernel) ⟨Nat.le_of_ble_eq_true rfl, Nat.le_of_ble_eq_true rfl⟩) (kO_VR hob hML hK (hP.part (cx := []) [] rfl)) rfl rfl hl.1 rfl (lv_room (Nat.le_of_ble_eq_true rfl)) dL_law_246 ⟨(show k9 + 0 ≤ 600130 from by omega), (show n9 + 0 ≤ 7301080 from by omega)⟩) (fun r_2 hr_2 => ?_)
    refine kr_top (show r_2 = vSheetA mi (SS (a * 10 + bb)) 1 from hr_2) ?_
    refine kr_top (show vSheetA mi (SS (a * 10 + bb)) 1 = (-1) from by rw [hs0]; rfl) ?_
    refine lv_istore (lv' := [(18, .int (-1)), (17, .int (-1)), (0, .ref b), (1, .ref hM), (2, .ref zs), (3, .int (nI tm)), (5, .int (bI qb)), (6, .long x6), (8, .int (nI nn)), (9, .int (bI x9)), (10, .int (nI x10)), (11, .int (nI x11)), (12, .int (nI a)), (13, .int (nI (mCnt (fun k => (SS (a * 10 + k)).isSome) bb))), (14, .int (nI x14)), (15, .int (nI x15)), (16, .int (nI bb))]) hx hb dL_law_249 hl (by decide) rfl (fun ls hl => ?_)
    refine lv_iload hx hb dL_law_251 (lv_at hl 1 rfl) ?_
    refine lv_if_eq (tgt := 334) hx hb dL_law_253 (by decide) (fun c_3 => ?_) (fun c_3 => ?_)
    · exfalso; first | omega | (exact absurd c_3 (by decide)) | (exact lI_m1 (by omega) c_3)
    · refine lv_iload hx hb dL_law_256 (lv_at hl 1 rfl) ?_
      refine lv_iconst (v := (-1)) hx hb dL_law_258 (by decide) ?_
      refine lv_icmp_lt (tgt := 334) hx hb dL_law_259 (by decide) (fun c_4 => ?_) (fun c_4 => ?_)
      · exfalso; first | omega | (exact absurd c_4 (by decide)) | (exact lI_m1 (by omega) c_4)
      · refine lv_iload hx hb dL_law_262 (lv_at hl 1 rfl) ?_
        refine lv_aload_n hx hb dL_law_264 rfl (lv_at hl 3 rfl) ?_
        refine lv_iload hx hb dL_law_265 (lv_at hl 16 rfl) ?_
        refine lv_iconst (v := (nI 2)) hx hb dL_law_267 (by decide) ?_
        refine lo_i (va_runV (As := [.int (nI bb), .int (nI 2)]) (rest := [.int (-1)]) ⟨hx, hb, hml, hown, hts⟩ (c_X4_told_o l G _ hM nn np mi fs sn ln op SS ar ww M L f bb 2 hob hML hV (by omega) (by omega) (by omega)) (cwV 2 hts t_X4_told rfl rfl rfl (by decide +kernel) ⟨Nat.le_of_ble_eq_true rfl, Nat.le_of_ble_eq_true rfl⟩) (kO_V hob hML hK (hP.part (cx := []) [] rfl) (hD.part (cx := []) [] (by decide) rfl)) rfl rfl hl.1 rfl (lv_room (Nat.le_of_ble_eq_true rfl)) dL_law_268 ⟨(show k9 + 0 ≤ 600130 from by omega), (show n9 + 0 ≤ 7301080 from by omega)⟩) hP hD hS hA (fun M_268 L_268 f_268 H locs hob hfr hP hD hS => ?_)
        have hML := hfr.1
        have hsm := hsm.fr hfr
        refine W.widen (k := k9) (n := n9) (Nat.le_refl _) (Nat.le_refl _) ?_
        refine kr_top (show vTold ar SS ww (fun i => vWay SS fs sn np i) (mSt fs sn op np) nn bb 2 = (nI (ww bb)) from rfl) ?_
        refine lv_icmp_gt (tgt := 334) hx hb dL_law_271 (by decide) (fun c_5 => ?_) (fun c_5 => ?_)
        · exfalso; first | omega | (exact absurd c_5 (by decide)) | (exact lI_m1 (by omega) c_5)
        · refine lv_iload hx hb dL_law_274 (lv_at hl 1 rfl) ?_
          refine lv_if_ge (tgt := 283) hx hb dL_law_276 (by decide) (fun c_6 => ?_) (fun c_6 => ?_)
          · exfalso; exact absurd c_6 (by decide)
          · refine lv_iconst (v := (nI 1)) hx hb dL_law_279 (by decide) ?_
            refine lv_goto (tgt := 284) hx hb dL_law_280 (by decide) ?_
            refine lv_iload hx hb dL_law_284 (lv_at hl 0 rfl) ?_
            refine lv_if_ge (tgt := 293) hx hb dL_law_286 (by decide) (fun c_7 => ?_) (fun c_7 => ?_)
            · exfalso; exact absurd c_7 (by decide)
            · refine lv_iconst (v := (nI 1)) hx hb dL_law_289 (by decide) ?_
              refine lv_goto (tgt := 294) hx hb dL_law_290 (by decide) ?_
              refine kb_ne (tgt := 334) hx hb dL_law_294 (by decide) (by decide) (by decide) (fun c_8 => ?_) (fun c_8 => ?_)
              · exfalso; omega
              · refine lv_iload hx hb dL_law_297 (lv_at hl 0 rfl) ?_
                refine lv_bipush (v := (nI 30)) hx hb dL_law_299 (by decide) ?_
                refine lv_icmp_gt (tgt := 334) hx hb dL_law_301 (by decide) (fun c_9 => ?_) (fun c_9 => ?_)
                · exfalso; first | omega | (exact absurd c_9 (by decide)) | (exact lI_m1 (by omega) c_9)
                · refine lv_aload_n hx hb dL_law_304 rfl (lv_at hl 3 rfl) ?_
                  refine lv_iload hx hb dL_law_305 (lv_at hl 12 rfl) ?_
                  refine lv_iload hx hb dL_law_307 (lv_at hl 16 rfl) ?_
                  refine lv_iconst (v := (nI 2)) hx hb dL_law_309 (by decide) ?_
                  refine vp_callSi (W.runV (As := [.int (nI a), .int (nI bb), .int (nI 2)]) (rest := []) ⟨hx, hb, hml, hown, hts⟩ (c_X4_sheet_o l G hM nn np mi fs sn ln op SS ar ww M_268 L_268 f_268 a bb 2 hob hML hV (by omega) (by omega) (by omega) (by omega)) (cwV 3 hts t_X4_sheet rfl rfl rfl (by decide +kernel) ⟨Nat.le_of_ble_eq_true rfl, Nat.le_of_ble_eq_true rfl⟩) (kO_VR hob hML hK (hP.part (cx := []) [] rfl)) rfl rfl hl.1 rfl (lv_room (Nat.le_of_ble_eq_true rfl)) dL_law_310 ⟨(show k9 + 0 ≤ 600130 from by omega), (show n9 + 0 ≤ 7301080 from by omega)⟩) (fun r_10 hr_10 => ?_)
                  refine kr_top (show r_10 = vSheetA mi (SS (a * 10 + bb)) 2 from hr_10) ?_
                  refine kr_top (show vSheetA mi (SS (a * 10 + bb)) 2 = (-1) from by rw [hs0]; rfl) ?_
                  refine lv_if_ge (tgt := 320) hx hb dL_law_313 (by decide) (fun c_11 => ?_) (fun c_11 => ?_)
                  · exfalso; exact absurd c_11 (by decide)
                  · refine lv_iconst (v := (nI 1)) hx hb dL_law_316 (by decide) ?_
                    refine lv_goto (tgt := 321) hx hb dL_law_317 (by decide) ?_
                    refine lv_iload hx hb dL_law_321 (lv_at hl 1 rfl) ?_
                    refine lv_if_ge (tgt := 330) hx hb dL_law_323 (by decide) (fun c_12 => ?_) (fun c_12 => ?_)
                    · exfalso; exact absurd c_12 (by decide)
                    · refine lv_iconst (v := (nI 1)) hx hb dL_law_326 (by decide) ?_
                      refine lv_goto (tgt := 331) hx hb dL_law_327 (by decide) ?_
                      refine kb_eq (tgt := 336) hx hb dL_law_331 (by decide) (by decide) (by decide) (fun c_13 => ?_) (fun c_13 => ?_)
                      · have hc_387 : lGo p l e s m below meth c A G b hM zs za zw zq zp nn np mi ro rr rp fs sn ln op SS ar ww k9 n9 387 [(0, .ref b), (1, .ref hM), (2, .ref zs), (3, .int (nI tm)), (5, .int (bI qb)), (6, .long x6), (8, .int (nI nn)), (9, .int (bI x9)), (10, .int (nI x10)), (11, .int (nI x11)), (12, .int (nI a)), (13, .int (nI (mCnt (fun k => (SS (a * 10 + k)).isSome) bb))), (14, .int (nI x14)), (15, .int (nI x15)), (16, .int (nI bb)), (17, .int (-1)), (18, .int (-1))] := by
                          intro M_387 L_387 f_387 hob hML hsm H locs hP hD hS ls hl
                          have hc_420 : lGo p l e s m below meth c A G b hM zs za zw zq zp nn np mi ro rr rp fs sn ln op SS ar ww k9 n9 420 [(0, .ref b), (1, .ref hM), (2, .ref zs), (3, .int (nI tm)), (5, .int (bI qb)), (6, .long x6), (8, .int (nI nn)), (9, .int (bI x9)), (10, .int (nI x10)), (11, .int (nI x11)), (12, .int (nI a)), (13, .int (nI (mCnt (fun k => (SS (a * 10 + k)).isSome) bb))), (14, .int (nI x14)), (15, .int (nI x15)), (16, .int (nI bb)), (17, .int (-1)), (18, .int (-1))] := by
                            intro M_420 L_420 f_420 hob hML hsm H locs hP hD hS ls hl
                            refine lv_iload hx hb dL_law_420 (lv_at hl 11 rfl) ?_
                            refine lv_iload hx hb dL_law_422 (lv_at hl 15 rfl) ?_
                            refine lv_if_le (tgt := 431) hx hb dL_law_424 (by decide) (fun c_14 => ?_) (fun c_14 => ?_)
                            · refine lv_iconst (v := (nI 0)) hx hb dL_law_431 (by decide) ?_
                              refine lv_iadd hx hb dL_law_432 ?_
                              refine kr_top (y := (nI (mCnt (fun k => (SS (a * 10 + k)).isSome) (bb + 1)))) ((nI_add _ _).trans (congrArg nI (mCnt_f (P := (fun k => (SS (a * 10 + k)).isSome)) (n := bb) (show (SS (a * 10 + bb)).isSome = false from by rw [hs0]; rfl)).symm)) ?_
                              refine lv_istore (lv' := [(13, .int (nI (mCnt (fun k => (SS (a * 10 + k)).isSome) (bb + 1)))), (0, .ref b), (1, .ref hM), (2, .ref zs), (3, .int (nI tm)), (5, .int (bI qb)), (6, .long x6), (8, .int (nI nn)), (9, .int (bI x9)), (10, .int (nI x10)), (11, .int (nI x11)), (12, .int (nI a)), (14, .int (nI x14)), (15, .int (nI x15)), (16, .int (nI bb)), (17, .int (-1)), (18, .int (-1))]) hx hb dL_law_433 hl (by decide) rfl (fun ls hl => ?_)
                              exact K435 M_420 L_420 f_420 hob hML hsm _ _ hP hD hS _ (lv_sub hl [1, 2, 3, 4, 5, 6, 7, 8, 9, 10, 11, 0, 12, 13, 14] rfl)
                            · exfalso; exact c_14 (by decide)
                          refine lv_iload hx hb dL_law_387 (lv_at hl 10 rfl) ?_
                          refine lv_iload hx hb dL_law_389 (lv_at hl 14 rfl) ?_
                          refine kb_ne (tgt := 420) hx hb dL_law_391 (by decide) (by omega) (by omega) (fun c_15 => ?_) (fun c_15 => ?_)
                          · exact hc_420 M_387 L_387 f_387 hob hML hsm _ _ hP hD hS _ (lv_sub hl [0, 1, 2, 3, 4, 5, 6, 7, 8, 9, 10, 11, 12, 13, 14, 15, 16] rfl)
                          · refine lv_iload hx hb dL_law_394 (lv_at hl 15 rfl) ?_
                            refine lv_if_le (tgt := 420) hx hb dL_law_396 (by decide) (fun c_16 => ?_) (fun c_16 => ?_)
                            · exact hc_420 M_387 L_387 f_387 hob hML hsm _ _ hP hD hS _ (lv_sub hl [0, 1, 2, 3, 4, 5, 6, 7, 8, 9, 10, 11, 12, 13, 14, 15, 16] rfl)
                            · exfalso; exact c_16 (by decide)
                        refine lv_iload hx hb dL_law_336 (lv_at hl 1 rfl) ?_
                        refine lv_if_le (tgt := 387) hx hb dL_law_338 (by decide) (fun c_17 => ?_) (fun c_17 => ?_)
                        · exact hc_387 M_268 L_268 f_268 hob hML hsm _ _ hP hD hS _ (lv_sub hl [2, 3, 4, 5, 6, 7, 8, 9, 10, 11, 12, 13, 14, 15, 16, 1, 0] rfl)
                        · exfalso; exact c_17 (by decide)
                      · exfalso; omega
  · obtain ⟨f1, f2, f3, f4, f5, f6, f7⟩ := lS_s hV ha hbb hs0
    refine lv_aload_n hx hb dL_law_229 rfl (lv_at hl 1 rfl) ?_
    refine lv_iload hx hb dL_law_230 (lv_at hl 10 rfl) ?_
    refine lv_iload hx hb dL_law_232 (lv_at hl 14 rfl) ?_
    refine lv_iconst (v := (nI 0)) hx hb dL_law_234 (by decide) ?_
    refine vp_callSi (W.runV (As := [.int (nI a), .int (nI bb), .int (nI 0)]) (rest := []) ⟨hx, hb, hml, hown, hts⟩ (c_X4_sheet_o l G hM nn np mi fs sn ln op SS ar ww M L f a bb 0 hob hML hV (by omega) (by omega) (by omega) (by omega)) (cwV 3 hts t_X4_sheet rfl rfl rfl (by decide +kernel) ⟨Nat.le_of_ble_eq_true rfl, Nat.le_of_ble_eq_true rfl⟩) (kO_VR hob hML hK (hP.part (cx := []) [] rfl)) rfl rfl hl.1 rfl (lv_room (Nat.le_of_ble_eq_true rfl)) dL_law_235 ⟨(show k9 + 0 ≤ 600130 from by omega), (show n9 + 0 ≤ 7301080 from by omega)⟩) (fun r_18 hr_18 => ?_)
    refine kr_top (show r_18 = vSheetA mi (SS (a * 10 + bb)) 0 from hr_18) ?_
    refine kr_top (show vSheetA mi (SS (a * 10 + bb)) 0 = (nI v9.1) from by rw [hs0]; rfl) ?_
    refine lv_istore (lv' := [(17, .int (nI v9.1)), (0, .ref b), (1, .ref hM), (2, .ref zs), (3, .int (nI tm)), (5, .int (bI qb)), (6, .long x6), (8, .int (nI nn)), (9, .int (bI x9)), (10, .int (nI x10)), (11, .int (nI x11)), (12, .int (nI a)), (13, .int (nI (mCnt (fun k => (SS (a * 10 + k)).isSome) bb))), (14, .int (nI x14)), (15, .int (nI x15)), (16, .int (nI bb))]) hx hb dL_law_238 hl (by decide) rfl (fun ls hl => ?_)
    refine lv_aload_n hx hb dL_law_240 rfl (lv_at hl 2 rfl) ?_
    refine lv_iload hx hb dL_law_241 (lv_at hl 11 rfl) ?_
    refine lv_iload hx hb dL_law_243 (lv_at hl 15 rfl) ?_
    refine lv_iconst (v := (nI 1)) hx hb dL_law_245 (by decide) ?_
    refine vp_callSi (W.runV (As := [.int (nI a), .int (nI bb), .int (nI 1)]) (rest := []) ⟨hx, hb, hml, hown, hts⟩ (c_X4_sheet_o l G hM nn np mi fs sn ln op SS ar ww M L f a bb 1 hob hML hV (by omega) (by omega) (by omega) (by omega)) (cwV 3 hts t_X4_sheet rfl rfl rfl (by decide +kernel) ⟨Nat.le_of_ble_eq_true rfl, Nat.le_of_ble_eq_true rfl⟩) (kO_VR hob hML hK (hP.part (cx := []) [] rfl)) rfl rfl hl.1 rfl (lv_room (Nat.le_of_ble_eq_true rfl)) dL_law_246 ⟨(show k9 + 0 ≤ 600130 from by omega), (show n9 + 0 ≤ 7301080 from by omega)⟩) (fun r_19 hr_19 => ?_)
    refine kr_top (show r_19 = vSheetA mi (SS (a * 10 + bb)) 1 from hr_19) ?_
    refine kr_top (show vSheetA mi (SS (a * 10 + bb)) 1 = (nI (mi - v9.2.1)) from by rw [hs0]; rfl) ?_
    refine lv_istore (lv' := [(18, .int (nI (mi - v9.2.1))), (17, .int (nI v9.1)), (0, .ref b), (1, .ref hM), (2, .ref zs), (3, .int (nI tm)), (5, .int (bI qb)), (6, .long x6), (8, .int (nI nn)), (9, .int (bI x9)), (10, .int (nI x10)), (11, .int (nI x11)), (12, .int (nI a)), (13, .int (nI (mCnt (fun k => (SS (a * 10 + k)).isSome) bb))), (14, .int (nI x14)), (15, .int (nI x15)), (16, .int (nI bb))]) hx hb dL_law_249 hl (by decide) rfl (fun ls hl => ?_)
    refine lv_iload hx hb dL_law_251 (lv_at hl 1 rfl) ?_
    refine kb_eq0 (tgt := 334) hx hb dL_law_253 (by decide) (by omega) (fun c_20 => ?_) (fun c_20 => ?_)
    · exfalso; first | omega | (exact absurd c_20 (by decide)) | (exact lI_m1 (by omega) c_20)
    · refine lv_iload hx hb dL_law_256 (lv_at hl 1 rfl) ?_
      refine lv_iconst (v := (-1)) hx hb dL_law_258 (by decide) ?_
      refine lv_icmp_lt (tgt := 334) hx hb dL_law_259 (by decide) (fun c_21 => ?_) (fun c_21 => ?_)
      · exfalso; first | omega | (exact absurd c_21 (by decide)) | (exact lI_m1 (by omega) c_21)
      · refine lv_iload hx hb dL_law_262 (lv_at hl 1 rfl) ?_
        refine lv_aload_n hx hb dL_law_264 rfl (lv_at hl 3 rfl) ?_
        refine lv_iload hx hb dL_law_265 (lv_at hl 16 rfl) ?_
        refine lv_iconst (v := (nI 2)) hx hb dL_law_267 (by decide) ?_
        refine lo_i (va_runV (As := [.int (nI bb), .int (nI 2)]) (rest := [.int (nI v9.1)]) ⟨hx, hb, hml, hown, hts⟩ (c_X4_told_o l G _ hM nn np mi fs sn ln op SS ar ww M L f bb 2 hob hML hV (by omega) (by omega) (by omega)) (cwV 2 hts t_X4_told rfl rfl rfl (by decide +kernel) ⟨Nat.le_of_ble_eq_true rfl, Nat.le_of_ble_eq_true rfl⟩) (kO_V hob hML hK (hP.part (cx := []) [] rfl) (hD.part (cx := []) [] (by decide) rfl)) rfl rfl hl.1 rfl (lv_room (Nat.le_of_ble_eq_true rfl)) dL_law_268 ⟨(show k9 + 0 ≤ 600130 from by omega), (show n9 + 0 ≤ 7301080 from by omega)⟩) hP hD hS hA (fun M_268 L_268 f_268 H locs hob hfr hP hD hS => ?_)
        have hML := hfr.1
        have hsm := hsm.fr hfr
        refine W.widen (k := k9) (n := n9) (Nat.le_refl _) (Nat.le_refl _) ?_
        refine kr_top (show vTold ar SS ww (fun i => vWay SS fs sn np i) (mSt fs sn op np) nn bb 2 = (nI (ww bb)) from rfl) ?_
        refine kb_gt (tgt := 334) hx hb dL_law_271 (by decide) (by omega) (by omega) (fun c_22 => ?_) (fun c_22 => ?_)
        · exfalso; first | omega | (exact absurd c_22 (by decide)) | (exact lI_m1 (by omega) c_22)
        · refine lv_iload hx hb dL_law_274 (lv_at hl 1 rfl) ?_
          refine kb_ge0 (tgt := 283) hx hb dL_law_276 (by decide) (by omega) ?_
          refine lv_iconst (v := (nI 0)) hx hb dL_law_283 (by decide) ?_
          refine lv_iload hx hb dL_law_284 (lv_at hl 0 rfl) ?_
          refine kb_ge0 (tgt := 293) hx hb dL_law_286 (by decide) (by omega) ?_
          refine lv_iconst (v := (nI 0)) hx hb dL_law_293 (by decide) ?_
          refine kb_ne (tgt := 334) hx hb dL_law_294 (by decide) (by decide) (by decide) (fun c_23 => ?_) (fun c_23 => ?_)
          · exfalso; omega
          · refine lv_iload hx hb dL_law_297 (lv_at hl 0 rfl) ?_
            refine lv_bipush (v := (nI 30)) hx hb dL_law_299 (by decide) ?_
            refine kb_gt (tgt := 334) hx hb dL_law_301 (by decide) (by omega) (by decide) (fun c_24 => ?_) (fun c_24 => ?_)
            · exfalso; first | omega | (exact absurd c_24 (by decide)) | (exact lI_m1 (by omega) c_24)
            · refine lv_aload_n hx hb dL_law_304 rfl (lv_at hl 3 rfl) ?_
              refine lv_iload hx hb dL_law_305 (lv_at hl 12 rfl) ?_
              refine lv_iload hx hb dL_law_307 (lv_at hl 16 rfl) ?_
              refine lv_iconst (v := (nI 2)) hx hb dL_law_309 (by decide) ?_
              refine vp_callSi (W.runV (As := [.int (nI a), .int (nI bb), .int (nI 2)]) (rest := []) ⟨hx, hb, hml, hown, hts⟩ (c_X4_sheet_o l G hM nn np mi fs sn ln op SS ar ww M_268 L_268 f_268 a bb 2 hob hML hV (by omega) (by omega) (by omega) (by omega)) (cwV 3 hts t_X4_sheet rfl rfl rfl (by decide +kernel) ⟨Nat.le_of_ble_eq_true rfl, Nat.le_of_ble_eq_true rfl⟩) (kO_VR hob hML hK (hP.part (cx := []) [] rfl)) rfl rfl hl.1 rfl (lv_room (Nat.le_of_ble_eq_true rfl)) dL_law_310 ⟨(show k9 + 0 ≤ 600130 from by omega), (show n9 + 0 ≤ 7301080 from by omega)⟩) (fun r_25 hr_25 => ?_)
              refine kr_top (show r_25 = vSheetA mi (SS (a * 10 + bb)) 2 from hr_25) ?_
              refine kr_top (show vSheetA mi (SS (a * 10 + bb)) 2 = (nI (mCnt (fun q => decide (0 < v9.2.2 q)) 20)) from by rw [hs0]; rfl) ?_
              refine kb_ge0 (tgt := 320) hx hb dL_law_313 (by decide) (by have := mCnt_le (fun q => decide (0 < v9.2.2 q)) 20; omega) ?_
              refine lv_iconst (v := (nI 0)) hx hb dL_law_320 (by decide) ?_
              refine lv_iload hx hb dL_law_321 (lv_at hl 1 rfl) ?_
              refine kb_ge0 (tgt := 330) hx hb dL_law_323 (by decide) (by omega) ?_
              refine lv_iconst (v := (nI 0)) hx hb dL_law_330 (by decide) ?_
              refine kb_eq (tgt := 336) hx hb dL_law_331 (by decide) (by decide) (by decide) (fun c_26 => ?_) (fun c_26 => ?_)
              · have hc_387 : lGo p l e s m below meth c A G b hM zs za zw zq zp nn np mi ro rr rp fs sn ln op SS ar ww k9 n9 387 [(0, .ref b), (1, .ref hM), (2, .ref zs), (3, .int (nI tm)), (5, .int (bI qb)), (6, .long x6), (8, .int (nI nn)), (9, .int (bI x9)), (10, .int (nI x10)), (11, .int (nI x11)), (12, .int (nI a)), (13, .int (nI (mCnt (fun k => (SS (a * 10 + k)).isSome) bb))), (14, .int (nI x14)), (15, .int (nI x15)), (16, .int (nI bb)), (17, .int (nI v9.1)), (18, .int (nI (mi - v9.2.1)))] := by
                  intro M_387 L_387 f_387 hob hML hsm H locs hP hD hS ls hl
                  have hc_420 : lGo p l e s m below meth c A G b hM zs za zw zq zp nn np mi ro rr rp fs sn ln op SS ar ww k9 n9 420 [(0, .ref b), (1, .ref hM), (2, .ref zs), (3, .int (nI tm)), (5, .int (bI qb)), (6, .long x6), (8, .int (nI nn)), (9, .int (bI x9)), (10, .int (nI x10)), (11, .int (nI x11)), (12, .int (nI a)), (13, .int (nI (mCnt (fun k => (SS (a * 10 + k)).isSome) bb))), (14, .int (nI x14)), (15, .int (nI x15)), (16, .int (nI bb)), (17, .int (nI v9.1)), (18, .int (nI (mi - v9.2.1)))] := by
                    intro M_420 L_420 f_420 hob hML hsm H locs hP hD hS ls hl
                    refine lv_iload hx hb dL_law_420 (lv_at hl 11 rfl) ?_
                    refine lv_iload hx hb dL_law_422 (lv_at hl 15 rfl) ?_
                    refine kb_le0 (tgt := 431) hx hb dL_law_424 (by decide) (by omega) (fun c_27 => ?_) (fun c_27 => ?_)
                    · exfalso; omega
                    · refine lv_iconst (v := (nI 1)) hx hb dL_law_427 (by decide) ?_
                      refine lv_goto (tgt := 432) hx hb dL_law_428 (by decide) ?_
                      refine lv_iadd hx hb dL_law_432 ?_
                      refine kr_top (y := (nI (mCnt (fun k => (SS (a * 10 + k)).isSome) (bb + 1)))) ((nI_add _ _).trans (congrArg nI (mCnt_t (P := (fun k => (SS (a * 10 + k)).isSome)) (n := bb) (show (SS (a * 10 + bb)).isSome = true from by rw [hs0]; rfl)).symm)) ?_
                      refine lv_istore (lv' := [(13, .int (nI (mCnt (fun k => (SS (a * 10 + k)).isSome) (bb + 1)))), (0, .ref b), (1, .ref hM), (2, .ref zs), (3, .int (nI tm)), (5, .int (bI qb)), (6, .long x6), (8, .int (nI nn)), (9, .int (bI x9)), (10, .int (nI x10)), (11, .int (nI x11)), (12, .int (nI a)), (14, .int (nI x14)), (15, .int (nI x15)), (16, .int (nI bb)), (17, .int (nI v9.1)), (18, .int (nI (mi - v9.2.1)))]) hx hb dL_law_433 hl (by decide) rfl (fun ls hl => ?_)
                      exact K435 M_420 L_420 f_420 hob hML hsm _ _ hP hD hS _ (lv_sub hl [1, 2, 3, 4, 5, 6, 7, 8, 9, 10, 11, 0, 12, 13, 14] rfl)
                  refine lv_iload hx hb dL_law_387 (lv_at hl 10 rfl) ?_
                  refine lv_iload hx hb dL_law_389 (lv_at hl 14 rfl) ?_
                  refine kb_ne (tgt := 420) hx hb dL_law_391 (by decide) (by omega) (by omega) (fun c_28 => ?_) (fun c_28 => ?_)
                  · exact hc_420 M_387 L_387 f_387 hob hML hsm _ _ hP hD hS _ (lv_sub hl [0, 1, 2, 3, 4, 5, 6, 7, 8, 9, 10, 11, 12, 13, 14, 15, 16] rfl)
                  · refine lv_iload hx hb dL_law_394 (lv_at hl 15 rfl) ?_
                    refine kb_le0 (tgt := 420) hx hb dL_law_396 (by decide) (by omega) (fun c_29 => ?_) (fun c_29 => ?_)
                    · exfalso; omega
                    · refine lv_iload hx hb dL_law_399 (lv_at hl 15 rfl) ?_
                      refine lv_aload_n hx hb dL_law_401 rfl (lv_at hl 1 rfl) ?_
                      refine lv_iload hx hb dL_law_402 (lv_at hl 10 rfl) ?_
                      refine lv_iconst (v := (nI 2)) hx hb dL_law_404 (by decide) ?_
                      refine lo_i (va_runV (As := [.int (nI a), .int (nI 2)]) (rest := [.int (nI v9.1)]) ⟨hx, hb, hml, hown, hts⟩ (c_X4_told_o l G _ hM nn np mi fs sn ln op SS ar ww M_387 L_387 f_387 a 2 hob hML hV (by omega) (by omega) (by omega)) (cwV 2 hts t_X4_told rfl rfl rfl (by decide +kernel) ⟨Nat.le_of_ble_eq_true rfl, Nat.le_of_ble_eq_true rfl⟩) (kO_V hob hML hK (hP.part (cx := []) [] rfl) (hD.part (cx := []) [] (by decide) rfl)) rfl rfl hl.1 rfl (lv_room (Nat.le_of_ble_eq_true rfl)) dL_law_405 ⟨(show k9 + 0 ≤ 600130 from by omega), (show n9 + 0 ≤ 7301080 from by omega)⟩) hP hD hS hA (fun M_405 L_405 f_405 H locs hob hfr hP hD hS => ?_)
                      have hML := hfr.1
                      have hsm := hsm.fr hfr
                      refine W.widen (k := k9) (n := n9) (Nat.le_refl _) (Nat.le_refl _) ?_
                      refine kr_top (show vTold ar SS ww (fun i => vWay SS fs sn np i) (mSt fs sn op np) nn a 2 = (nI (ww a)) from rfl) ?_
                      refine kb_ne (tgt := 418) hx hb dL_law_408 (by decide) (by omega) (by omega) (fun c_30 => ?_) (fun c_30 => ?_)
                      · exfalso; omega
                      · refine lv_iload hx hb dL_law_411 (lv_at hl 16 rfl) ?_
                        refine lv_bipush (v := (nI 20)) hx hb dL_law_413 (by decide) ?_
                        refine kb_le (tgt := 420) hx hb dL_law_415 (by decide) (by omega) (by decide) (fun c_31 => ?_) (fun c_31 => ?_)
                        · exact hc_420 M_405 L_405 f_405 hob hML hsm _ _ hP hD hS _ (lv_sub hl [0, 1, 2, 3, 4, 5, 6, 7, 8, 9, 10, 11, 12, 13, 14, 15, 16] rfl)
                        · exfalso; omega
                refine lv_iload hx hb dL_law_336 (lv_at hl 1 rfl) ?_
                refine kb_le0 (tgt := 387) hx hb dL_law_338 (by decide) (by omega) (fun c_32 => ?_) (fun c_32 => ?_)
                · exfalso; omega
                · refine lv_iload hx hb dL_law_341 (lv_at hl 12 rfl) ?_
                  refine lv_iload hx hb dL_law_343 (lv_at hl 16 rfl) ?_
                  refine kb_eq (tgt := 387) hx hb dL_law_345 (by decide) (by omega) (by omega) (fun c_33 => ?_) (fun c_33 => ?_)
                  · exact hc_387 M_268 L_268 f_268 hob hML hsm _ _ hP hD hS _ (lv_sub hl [2, 3, 4, 5, 6, 7, 8, 9, 10, 11, 12, 13, 14, 15, 16, 1, 0] rfl)
                  · refine lv_aload_n hx hb dL_law_348 rfl (lv_at hl 3 rfl) ?_
                    refine lv_iload hx hb dL_law_349 (lv_at hl 12 rfl) ?_
                    refine lv_iconst (v := (nI 0)) hx hb dL_law_351 (by decide) ?_
                    refine lo_i (va_runV (As := [.int (nI a), .int (nI 0)]) (rest := []) ⟨hx, hb, hml, hown, hts⟩ (c_X4_told_o l G _ hM nn np mi fs sn ln op SS ar ww M_268 L_268 f_268 a 0 hob hML hV (by omega) (by omega) (by omega)) (cwV 2 hts t_X4_told rfl rfl rfl (by decide +kernel) ⟨Nat.le_of_ble_eq_true rfl, Nat.le_of_ble_eq_true rfl⟩) (kO_V hob hML hK (hP.part (cx := []) [] rfl) (hD.part (cx := []) [] (by decide) rfl)) rfl rfl hl.1 rfl (lv_room (Nat.le_of_ble_eq_true rfl)) dL_law_352 ⟨(show k9 + 0 ≤ 600130 from by omega), (show n9 + 0 ≤ 7301080 from by omega)⟩) hP hD hS hA (fun M_352 L_352 f_352 H locs hob hfr hP hD hS => ?_)
                    have hML := hfr.1
                    have hsm := hsm.fr hfr
                    refine W.widen (k := k9) (n := n9) (Nat.le_refl _) (Nat.le_refl _) ?_
                    refine kr_top (show vTold ar SS ww (fun i => vWay SS fs sn np i) (mSt fs sn op np) nn a 0 = (nI (ar a)) from rfl) ?_
                    refine kb_eq0 (tgt := 387) hx hb dL_law_355 (by decide) (by have := har a; have := har bb; omega) (fun c_34 => ?_) (fun c_34 => ?_)
                    · exact hc_387 M_352 L_352 f_352 hob hML hsm _ _ hP hD hS _ (lv_sub hl [2, 3, 4, 5, 6, 7, 8, 9, 10, 11, 12, 13, 14, 15, 16, 1, 0] rfl)
                    · refine lv_aload_n hx hb dL_law_358 rfl (lv_at hl 3 rfl) ?_
                      refine lv_iload hx hb dL_law_359 (lv_at hl 16 rfl) ?_
                      refine lv_iconst (v := (nI 0)) hx hb dL_law_361 (by decide) ?_
                      refine lo_i (va_runV (As := [.int (nI bb), .int (nI 0)]) (rest := []) ⟨hx, hb, hml, hown, hts⟩ (c_X4_told_o l G _ hM nn np mi fs sn ln op SS ar ww M_352 L_352 f_352 bb 0 hob hML hV (by omega) (by omega) (by omega)) (cwV 2 hts t_X4_told rfl rfl rfl (by decide +kernel) ⟨Nat.le_of_ble_eq_true rfl, Nat.le_of_ble_eq_true rfl⟩) (kO_V hob hML hK (hP.part (cx := []) [] rfl) (hD.part (cx := []) [] (by decide) rfl)) rfl rfl hl.1 rfl (lv_room (Nat.le_of_ble_eq_true rfl)) dL_law_362 ⟨(show k9 + 0 ≤ 600130 from by omega), (show n9 + 0 ≤ 7301080 from by omega)⟩) hP hD hS hA (fun M_362 L_362 f_362 H locs hob hfr hP hD hS => ?_)
                      have hML := hfr.1
                      have hsm := hsm.fr hfr
                      refine W.widen (k := k9) (n := n9) (Nat.le_refl _) (Nat.le_refl _) ?_
                      refine kr_top (show vTold ar SS ww (fun i => vWay SS fs sn np i) (mSt fs sn op np) nn bb 0 = (nI (ar bb)) from rfl) ?_
                      refine kb_eq0 (tgt := 387) hx hb dL_law_365 (by decide) (by have := har a; have := har bb; omega) (fun c_35 => ?_) (fun c_35 => ?_)
                      · exact hc_387 M_362 L_362 f_362 hob hML hsm _ _ hP hD hS _ (lv_sub hl [2, 3, 4, 5, 6, 7, 8, 9, 10, 11, 12, 13, 14, 15, 16, 1, 0] rfl)
                      · refine lv_aload_n hx hb dL_law_368 rfl (lv_at hl 3 rfl) ?_
                        refine lv_iload hx hb dL_law_369 (lv_at hl 12 rfl) ?_
                        refine lv_iconst (v := (nI 0)) hx hb dL_law_371 (by decide) ?_
                        refine lo_i (va_runV (As := [.int (nI a), .int (nI 0)]) (rest := []) ⟨hx, hb, hml, hown, hts⟩ (c_X4_told_o l G _ hM nn np mi fs sn ln op SS ar ww M_362 L_362 f_362 a 0 hob hML hV (by omega) (by omega) (by omega)) (cwV 2 hts t_X4_told rfl rfl rfl (by decide +kernel) ⟨Nat.le_of_ble_eq_true rfl, Nat.le_of_ble_eq_true rfl⟩) (kO_V hob hML hK (hP.part (cx := []) [] rfl) (hD.part (cx := []) [] (by decide) rfl)) rfl rfl hl.1 rfl (lv_room (Nat.le_of_ble_eq_true rfl)) dL_law_372 ⟨(show k9 + 0 ≤ 600130 from by omega), (show n9 + 0 ≤ 7301080 from by omega)⟩) hP hD hS hA (fun M_372 L_372 f_372 H locs hob hfr hP hD hS => ?_)
                        have hML := hfr.1
                        have hsm := hsm.fr hfr
                        refine W.widen (k := k9) (n := n9) (Nat.le_refl _) (Nat.le_refl _) ?_
                        refine kr_top (show vTold ar SS ww (fun i => vWay SS fs sn np i) (mSt fs sn op np) nn a 0 = (nI (ar a)) from rfl) ?_
                        refine lv_aload_n hx hb dL_law_375 rfl (lv_at hl 3 rfl) ?_
                        refine lv_iload hx hb dL_law_376 (lv_at hl 16 rfl) ?_
                        refine lv_iconst (v := (nI 0)) hx hb dL_law_378 (by decide) ?_
                        refine lo_i (va_runV (As := [.int (nI bb), .int (nI 0)]) (rest := [.int (nI (ar a))]) ⟨hx, hb, hml, hown, hts⟩ (c_X4_told_o l G _ hM nn np mi fs sn ln op SS ar ww M_372 L_372 f_372 bb 0 hob hML hV (by omega) (by omega) (by omega)) (cwV 2 hts t_X4_told rfl rfl rfl (by decide +kernel) ⟨Nat.le_of_ble_eq_true rfl, Nat.le_of_ble_eq_true rfl⟩) (kO_V hob hML hK (hP.part (cx := []) [] rfl) (hD.part (cx := []) [] (by decide) rfl)) rfl rfl hl.1 rfl (lv_room (Nat.le_of_ble_eq_true rfl)) dL_law_379 ⟨(show k9 + 0 ≤ 600130 from by omega), (show n9 + 0 ≤ 7301080 from by omega)⟩) hP hD hS hA (fun M_379 L_379 f_379 H locs hob hfr hP hD hS => ?_)
                        have hML := hfr.1
                        have hsm := hsm.fr hfr
                        refine W.widen (k := k9) (n := n9) (Nat.le_refl _) (Nat.le_refl _) ?_
                        refine kr_top (show vTold ar SS ww (fun i => vWay SS fs sn np i) (mSt fs sn op np) nn bb 0 = (nI (ar bb)) from rfl) ?_
                        refine kb_eq (tgt := 387) hx hb dL_law_382 (by decide) (by have := har a; have := har bb; omega) (by have := har a; have := har bb; omega) (fun c_36 => ?_) (fun c_36 => ?_)
                        · exact hc_387 M_379 L_379 f_379 hob hML hsm _ _ hP hD hS _ (lv_sub hl [2, 3, 4, 5, 6, 7, 8, 9, 10, 11, 12, 13, 14, 15, 16, 1, 0] rfl)
                        · exfalso; omega
              · exfalso; omega
