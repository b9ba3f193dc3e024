set_option maxHeartbeats 4000000 in
set_option maxRecDepth 100000 in
theorem l_pA {p : Program} {l : Launch} {e : Env} {s : State} {m : MethodId} {below : List Frame} {meth : Method} {c : Code} {A : Nat → Prop} {G : kG} {b len : Nat} {xs : Nat → Int32} {hM zs : Nat} {za zw zq zp nn np mi : Nat} {ro : Nat → Nat} {rr : Nat → Nat → Nat} {rp fs sn ln : Nat → Nat} {op : Nat → Bool} {SS : Nat → Option mS} {ar ww : Nat → Nat} (C0 : lCtx p l s m meth c A G b len xs) (hV : vInv ar fs sn ln nn np mi SS ww) (hn7 : nn ≤ 7) (hmi : mi + 1000 < 2 ^ 31) {k9 n9 : Nat} (hk9 : k9 + 20000 ≤ 600130) (hn9 : n9 + 200000 ≤ 7301080) {tm : Nat} {qb : Bool}  (K203 : lGo p l e s m below meth c A G b hM zs za zw zq zp nn np mi ro rr rp fs sn ln op SS ar ww k9 n9 203 [(0, .ref b), (1, .ref hM), (2, .ref zs), (3, .int (nI tm)), (5, .int (bI qb)), (6, .long (vDig mi nn np fs sn ln op SS ar ww)), (8, .int (nI nn)), (9, .int (bI (!mAny (fun j => decide (0 < ar j)) nn))), (10, .int (nI (mSum (fun a => mCnt (fun b => a != b && (mPost (fun i => vWay SS fs sn np i) (mSt fs sn op np) a b).isSome) nn) 0))), (11, .int (nI (mSum (fun a => mCnt (fun b => a != b && (mTruth fs sn ln op np a b != 1073741824)) nn) 0))), (12, .int (nI 0))]) : lGo p l e s m below meth c A G b hM zs za zw zq zp nn np mi ro rr rp fs sn ln op SS ar ww k9 n9 142 [(0, .ref b), (1, .ref hM), (2, .ref zs), (3, .int (nI tm)), (5, .int (bI qb))] := by
  obtain ⟨hx, hb, hr, hml, hown, hts, hX, hlocks, hK, hZ, hA, hA2, hbA, hlen⟩ := id C0
  intro M L f hob hML hsm H locs hP hD hS ls hl
  refine lv_aload_n hx hb dL_law_142 rfl (lv_at hl 1 rfl) ?_
  refine lo_l (va_runV (As := []) (rest := []) ⟨hx, hb, hml, hown, hts⟩ (c_X4_digest_o l G _ hM nn np mi fs sn ln op SS ar ww M L f hob hML hV (by omega)) (cwV 0 hts t_X4_digest rfl rfl rfl (by decide +kernel) ⟨Nat.le_of_ble_eq_true rfl, Nat.le_of_ble_eq_true rfl⟩) (kO_V hob hML hK (hP.part (cx := []) [] rfl) (hD.part (cx := []) [] (by decide) rfl)) rfl rfl hl.1 rfl (lv_room (Nat.le_of_ble_eq_true rfl)) dL_law_143 ⟨(show k9 + 0 ≤ 600130 from by omega), (show n9 + 0 ≤ 7301080 from by omega)⟩) hP hD hS hA (fun M_143 L_143 f_143 H locs hob hfr hP hD hS => ?_)
  have hML := hfr.1
  have hsm := hsm.fr hfr
  refine W.widen (k := k9) (n := n9) (Nat.le_refl _) (Nat.le_refl _) ?_
  refine lv_lstore (lv' := [(6, .long (vDig mi nn np fs sn ln op SS ar ww)), (0, .ref b), (1, .ref hM), (2, .ref zs), (3, .int (nI tm)), (5, .int (bI qb))]) hx hb dL_law_146 hl (by decide) rfl (fun ls hl => ?_)
  refine lv_aload_n hx hb dL_law_148 rfl (lv_at hl 2 rfl) ?_
  refine lv_iconst (v := (nI 1)) hx hb dL_law_149 (by decide) ?_
  refine lo_i (va_runV (As := [.int (nI 1)]) (rest := []) ⟨hx, hb, hml, hown, hts⟩ (c_X4_count_o l G _ hM nn np mi fs sn ln op SS ar ww M_143 L_143 f_143 1 hob hML hV (by omega) (by omega)) (cwV 1 hts t_X4_count rfl rfl rfl (by decide +kernel) ⟨Nat.le_of_ble_eq_true rfl, Nat.le_of_ble_eq_true rfl⟩) (kO_V hob hML hK (hP.part (cx := []) [] rfl) (hD.part (cx := []) [] (by decide) rfl)) rfl rfl hl.1 rfl (lv_room (Nat.le_of_ble_eq_true rfl)) dL_law_150 ⟨(show k9 + 0 ≤ 600130 from by omega), (show n9 + 0 ≤ 7301080 from by omega)⟩) hP hD hS hA (fun M_150 L_150 f_150 H locs hob hfr hP hD hS => ?_)
  have hML := hfr.1
  have hsm := hsm.fr hfr
  refine W.widen (k := k9) (n := n9) (Nat.le_refl _) (Nat.le_refl _) ?_
  refine kr_top (show vCount mi nn np op fs sn SS (fun i => vWay SS fs sn np i) (mSt fs sn op np) 1 = (nI nn) from rfl) ?_
  refine lv_istore (lv' := [(8, .int (nI nn)), (6, .long (vDig mi nn np fs sn ln op SS ar ww)), (0, .ref b), (1, .ref hM), (2, .ref zs), (3, .int (nI tm)), (5, .int (bI qb))]) hx hb dL_law_153 hl (by decide) rfl (fun ls hl => ?_)
  refine lv_iconst (v := (nI 1)) hx hb dL_law_155 (by decide) ?_
  refine lv_istore (lv' := [(9, .int (nI 1)), (8, .int (nI nn)), (6, .long (vDig mi nn np fs sn ln op SS ar ww)), (0, .ref b), (1, .ref hM), (2, .ref zs), (3, .int (nI tm)), (5, .int (bI qb))]) hx hb dL_law_156 hl (by decide) rfl (fun ls hl => ?_)
  refine lv_iconst (v := (nI 0)) hx hb dL_law_158 (by decide) ?_
  refine lv_istore (lv' := [(10, .int (nI 0)), (9, .int (nI 1)), (8, .int (nI nn)), (6, .long (vDig mi nn np fs sn ln op SS ar ww)), (0, .ref b), (1, .ref hM), (2, .ref zs), (3, .int (nI tm)), (5, .int (bI qb))]) hx hb dL_law_159 hl (by decide) rfl (fun ls hl => ?_)
  have hc_161 : ∀ (n : Nat) (hh : Nat), nn - hh < n → hh ≤ nn → lGo p l e s m below meth c A G b hM zs za zw zq zp nn np mi ro rr rp fs sn ln op SS ar ww k9 n9 161 [(0, .ref b), (1, .ref hM), (2, .ref zs), (3, .int (nI tm)), (5, .int (bI qb)), (6, .long (vDig mi nn np fs sn ln op SS ar ww)), (8, .int (nI nn)), (9, .int (bI (!mAny (fun j => decide (0 < ar j)) hh))), (10, .int (nI hh))] := by
    intro n
    induction n with
    | zero =>
      intro hh hmz; exact absurd hmz (Nat.not_lt_zero _)
    | succ n ih161 =>
      intro hh hmz hhh
      intro M_161 L_161 f_161 hob hML hsm H locs hP hD hS ls hl
      refine lv_iload hx hb dL_law_161 (lv_at hl 8 rfl) ?_
      refine lv_iload hx hb dL_law_163 (lv_at hl 6 rfl) ?_
      refine kb_ge (tgt := 194) hx hb dL_law_165 (by decide) (by omega) (by omega) (fun c_1 => ?_) (fun c_1 => ?_)
      · rw [show hh = nn by omega] at hl
        have hl : lv_has ls 25 [(0, .ref b), (1, .ref hM), (2, .ref zs), (3, .int (nI tm)), (5, .int (bI qb)), (6, .long (vDig mi nn np fs sn ln op SS ar ww)), (8, .int (nI nn)), (9, .int (bI (!mAny (fun j => decide (0 < ar j)) nn))), (10, .int (nI nn))] := hl
        refine lv_iconst (v := (nI 0)) hx hb dL_law_194 (by decide) ?_
        refine lv_istore (lv' := [(10, .int (nI 0)), (0, .ref b), (1, .ref hM), (2, .ref zs), (3, .int (nI tm)), (5, .int (bI qb)), (6, .long (vDig mi nn np fs sn ln op SS ar ww)), (8, .int (nI nn)), (9, .int (bI (!mAny (fun j => decide (0 < ar j)) nn)))]) hx hb dL_law_195 hl (by decide) rfl (fun ls hl => ?_)
        refine lv_iconst (v := (nI 0)) hx hb dL_law_197 (by decide) ?_
        refine lv_istore (lv' := [(11, .int (nI 0)), (10, .int (nI 0)), (0, .ref b), (1, .ref hM), (2, .ref zs), (3, .int (nI tm)), (5, .int (bI qb)), (6, .long (vDig mi nn np fs sn ln op SS ar ww)), (8, .int (nI nn)), (9, .int (bI (!mAny (fun j => decide (0 < ar j)) nn)))]) hx hb dL_law_198 hl (by decide) rfl (fun ls hl => ?_)
        refine lv_iconst (v := (nI 0)) hx hb dL_law_200 (by decide) ?_
        refine lv_istore (lv' := [(12, .int (nI 0)), (11, .int (nI 0)), (10, .int (nI 0)), (0, .ref b), (1, .ref hM), (2, .ref zs), (3, .int (nI tm)), (5, .int (bI qb)), (6, .long (vDig mi nn np fs sn ln op SS ar ww)), (8, .int (nI nn)), (9, .int (bI (!mAny (fun j => decide (0 < ar j)) nn)))]) hx hb dL_law_201 hl (by decide) rfl (fun ls hl => ?_)
        exact K203 M_161 L_161 f_161 hob hML hsm _ _ hP hD hS _ (lv_sub hl [3, 4, 5, 6, 7, 8, 9, 10, 2, 1, 0] rfl)
      · refine lv_iload hx hb dL_law_168 (lv_at hl 7 rfl) ?_
        refine lv_aload_n hx hb dL_law_170 rfl (lv_at hl 1 rfl) ?_
        refine lv_iload hx hb dL_law_171 (lv_at hl 8 rfl) ?_
        refine lv_iconst (v := (nI 0)) hx hb dL_law_173 (by decide) ?_
        refine lo_i (va_runV (As := [.int (nI hh), .int (nI 0)]) (rest := [.int (bI (!mAny (fun j => decide (0 < ar j)) hh))]) ⟨hx, hb, hml, hown, hts⟩ (c_X4_told_o l G _ hM nn np mi fs sn ln op SS ar ww M_161 L_161 f_161 hh 0 hob hML hV (by omega) (by omega) (by omega)) (cwV 2 hts t_X4_told rfl rfl rfl (by decide +kernel) ⟨Nat.le_of_ble_eq_true rfl, Nat.le_of_ble_eq_true rfl⟩) (kO_V hob hML hK (hP.part (cx := []) [] rfl) (hD.part (cx := []) [] (by decide) rfl)) rfl rfl hl.1 rfl (lv_room (Nat.le_of_ble_eq_true rfl)) dL_law_174 ⟨(show k9 + 0 ≤ 600130 from by omega), (show n9 + 0 ≤ 7301080 from by omega)⟩) hP hD hS hA (fun M_174 L_174 f_174 H locs hob hfr hP hD hS => ?_)
        have hML := hfr.1
        have hsm := hsm.fr hfr
        refine W.widen (k := k9) (n := n9) (Nat.le_refl _) (Nat.le_refl _) ?_
        refine kr_top (show vTold ar SS ww (fun i => vWay SS fs sn np i) (mSt fs sn op np) nn hh 0 = (nI (ar hh)) from rfl) ?_
        refine kb_ne0 (tgt := 184) hx hb dL_law_177 (by decide) (by have := hV.2.1 hh; omega) (fun c_2 => ?_) (fun c_2 => ?_)
        · have hz9 : (fun j => decide (0 < ar j)) hh = true := decide_eq_true c_2
          refine lv_iconst (v := (nI 0)) hx hb dL_law_184 (by decide) ?_
          refine lv_iand hx hb dL_law_185 ?_
          refine kr_top (y := (bI (!mAny (fun j => decide (0 < ar j)) (hh + 1)))) (lAnd0 (P := (fun j => decide (0 < ar j))) (h := hh) hz9) ?_
          refine lv_istore (lv' := [(9, .int (bI (!mAny (fun j => decide (0 < ar j)) (hh + 1)))), (0, .ref b), (1, .ref hM), (2, .ref zs), (3, .int (nI tm)), (5, .int (bI qb)), (6, .long (vDig mi nn np fs sn ln op SS ar ww)), (8, .int (nI nn)), (10, .int (nI hh))]) hx hb dL_law_186 hl (by decide) rfl (fun ls hl => ?_)
          refine lv_iinc (k := 8) (v := (nI (hh + 1))) (lv' := [(10, .int (nI (hh + 1))), (9, .int (bI (!mAny (fun j => decide (0 < ar j)) (hh + 1)))), (0, .ref b), (1, .ref hM), (2, .ref zs), (3, .int (nI tm)), (5, .int (bI qb)), (6, .long (vDig mi nn np fs sn ln op SS ar ww)), (8, .int (nI nn))]) hx hb dL_law_188 hl rfl (kn_inc hh) (by decide) rfl (fun ls hl => ?_)
          refine lv_goto (tgt := 161) hx hb dL_law_191 (by decide) ?_
          exact ih161 (hh + 1) (by omega) (by omega) M_174 L_174 f_174 hob hML hsm _ _ hP hD hS _ (lv_sub hl [2, 3, 4, 5, 6, 7, 8, 1, 0] rfl)
        · have hz9 : (fun j => decide (0 < ar j)) hh = false := decide_eq_false (by omega)
          refine lv_iconst (v := (nI 1)) hx hb dL_law_180 (by decide) ?_
          refine lv_goto (tgt := 185) hx hb dL_law_181 (by decide) ?_
          refine lv_iand hx hb dL_law_185 ?_
          refine kr_top (y := (bI (!mAny (fun j => decide (0 < ar j)) (hh + 1)))) (lAnd1 (P := (fun j => decide (0 < ar j))) (h := hh) hz9) ?_
          refine lv_istore (lv' := [(9, .int (bI (!mAny (fun j => decide (0 < ar j)) (hh + 1)))), (0, .ref b), (1, .ref hM), (2, .ref zs), (3, .int (nI tm)), (5, .int (bI qb)), (6, .long (vDig mi nn np fs sn ln op SS ar ww)), (8, .int (nI nn)), (10, .int (nI hh))]) hx hb dL_law_186 hl (by decide) rfl (fun ls hl => ?_)
          refine lv_iinc (k := 8) (v := (nI (hh + 1))) (lv' := [(10, .int (nI (hh + 1))), (9, .int (bI (!mAny (fun j => decide (0 < ar j)) (hh + 1)))), (0, .ref b), (1, .ref hM), (2, .ref zs), (3, .int (nI tm)), (5, .int (bI qb)), (6, .long (vDig mi nn np fs sn ln op SS ar ww)), (8, .int (nI nn))]) hx hb dL_law_188 hl rfl (kn_inc hh) (by decide) rfl (fun ls hl => ?_)
          refine lv_goto (tgt := 161) hx hb dL_law_191 (by decide) ?_
          exact ih161 (hh + 1) (by omega) (by omega) M_174 L_174 f_174 hob hML hsm _ _ hP hD hS _ (lv_sub hl [2, 3, 4, 5, 6, 7, 8, 1, 0] rfl)
  exact hc_161 (_ + 1) 0 (Nat.lt_succ_self _) (by omega) M_150 L_150 f_150 hob hML hsm _ _ hP hD hS _ (lv_sub hl [4, 5, 6, 7, 8, 3, 2, 1, 0] rfl)

set_option maxHeartbeats 4000000 in
set_option maxRecDepth 100000 in
theorem l_b {p : Program} {l : Launch} {e : Env} {s : State} {m : MethodId} {below : List Frame} {meth : Method} {c : Code} {A : Nat → Prop} {G : kG} {b len : Nat} {xs : Nat → Int32} {hM zs : Nat} {za zw zq zp nn np mi : Nat} {ro : Nat → Nat} {rr : Nat → Nat → Nat} {rp fs sn ln : Nat → Nat} {op : Nat → Bool} {SS : Nat → Option mS} {ar ww : Nat → Nat} (C0 : lCtx p l s m meth c A G b len xs) (hV : vInv ar fs sn ln nn np mi SS ww) (hn7 : nn ≤ 7) (hmi : mi + 1000 < 2 ^ 31) {k9 n9 : Nat} (hk9 : k9 + 20000 ≤ 600130) (hn9 : n9 + 200000 ≤ 7301080) {tm a x10 : Nat} {qb x9 : Bool} {x6 : Int64} (ha : a < nn) (hQ : qb = true → x9 = true → ∀ x y, x < nn → y < nn → vWay SS fs sn np x y = mTruth fs sn ln op np x y) (K941 : lGo p l e s m below meth c A G b hM zs za zw zq zp nn np mi ro rr rp fs sn ln op SS ar ww k9 n9 941 [(0, .ref b), (1, .ref hM), (2, .ref zs), (3, .int (nI tm)), (5, .int (bI qb)), (6, .long x6), (8, .int (nI nn)), (9, .int (bI x9)), (10, .int (nI x10)), (11, .int (nI (mSum (fun a => mCnt (fun b => a != b && (mTruth fs sn ln op np a b != 1073741824)) nn) a + mCnt (fun k => a != k && (mTruth fs sn ln op np a k != 1073741824)) nn))), (12, .int (nI a)), (13, .int (nI (mCnt (fun k => (SS (a * 10 + k)).isSome) nn))), (14, .int (nI (mCnt (fun k => vWay SS fs sn np a k != 1073741824) nn))), (15, .int (nI (mCnt (fun k => (mPost (fun i => vWay SS fs sn np i) (mSt fs sn op np) a k).isSome) nn))), (16, .int (nI nn))]) : lGo p l e s m below meth c A G b hM zs za zw zq zp nn np mi ro rr rp fs sn ln op SS ar ww k9 n9 222 [(0, .ref b), (1, .ref hM), (2, .ref zs), (3, .int (nI tm)), (5, .int (bI qb)), (6, .long x6), (8, .int (nI nn)), (9, .int (bI x9)), (10, .int (nI x10)), (11, .int (nI (mSum (fun a => mCnt (fun b => a != b && (mTruth fs sn ln op np a b != 1073741824)) nn) a + mCnt (fun k => a != k && (mTruth fs sn ln op np a k != 1073741824)) 0))), (12, .int (nI a)), (13, .int (nI (mCnt (fun k => (SS (a * 10 + k)).isSome) 0))), (14, .int (nI (mCnt (fun k => vWay SS fs sn np a k != 1073741824) 0))), (15, .int (nI (mCnt (fun k => (mPost (fun i => vWay SS fs sn np i) (mSt fs sn op np) a k).isSome) 0))), (16, .int (nI 0))] := by
  obtain ⟨hx, hb, hr, hml, hown, hts, hX, hlocks, hK, hZ, hA, hA2, hbA, hlen⟩ := id C0
  intro M L f hob hML hsm H locs hP hD hS ls hl
  have hc_222 : ∀ (n : Nat) (bb : Nat), nn - bb < n → bb ≤ nn → lGo p l e s m below meth c A G b hM zs za zw zq zp nn np mi ro rr rp fs sn ln op SS ar ww k9 n9 222 [(0, .ref b), (1, .ref hM), (2, .ref zs), (3, .int (nI tm)), (5, .int (bI qb)), (6, .long x6), (8, .int (nI nn)), (9, .int (bI x9)), (10, .int (nI x10)), (11, .int (nI (mSum (fun a => mCnt (fun b => a != b && (mTruth fs sn ln op np a b != 1073741824)) nn) a + mCnt (fun k => a != k && (mTruth fs sn ln op np a k != 1073741824)) bb))), (12, .int (nI a)), (13, .int (nI (mCnt (fun k => (SS (a * 10 + k)).isSome) bb))), (14, .int (nI (mCnt (fun k => vWay SS fs sn np a k != 1073741824) bb))), (15, .int (nI (mCnt (fun k => (mPost (fun i => vWay SS fs sn np i) (mSt fs sn op np) a k).isSome) bb))), (16, .int (nI bb))] := by
    intro n
    induction n with
    | zero =>
      intro bb hmz; exact absurd hmz (Nat.not_lt_zero _)
    | succ n ih222 =>
      intro bb hmz hb9
      intro M_222 L_222 f_222 hob hML hsm H locs hP hD hS ls hl
      refine lv_iload hx hb dL_law_222 (lv_at hl 14 rfl) ?_
      refine lv_iload hx hb dL_law_224 (lv_at hl 6 rfl) ?_
      refine kb_ge (tgt := 941) hx hb dL_law_226 (by decide) (by omega) (by omega) (fun c_1 => ?_) (fun c_1 => ?_)
      · rw [show bb = nn by omega] at hl
        have hl : lv_has ls 25 [(0, .ref b), (1, .ref hM), (2, .ref zs), (3, .int (nI tm)), (5, .int (bI qb)), (6, .long x6), (8, .int (nI nn)), (9, .int (bI x9)), (10, .int (nI x10)), (11, .int (nI (mSum (fun a => mCnt (fun b => a != b && (mTruth fs sn ln op np a b != 1073741824)) nn) a + mCnt (fun k => a != k && (mTruth fs sn ln op np a k != 1073741824)) nn))), (12, .int (nI a)), (13, .int (nI (mCnt (fun k => (SS (a * 10 + k)).isSome) nn))), (14, .int (nI (mCnt (fun k => vWay SS fs sn np a k != 1073741824) nn))), (15, .int (nI (mCnt (fun k => (mPost (fun i => vWay SS fs sn np i) (mSt fs sn op np) a k).isSome) nn))), (16, .int (nI nn))] := hl
        exact K941 M_222 L_222 f_222 hob hML hsm _ _ hP hD hS _ (lv_sub hl [0, 1, 2, 3, 4, 5, 6, 7, 8, 9, 10, 11, 12, 13, 14] rfl)
      · have hbb : bb < nn := by omega
        have K229 := l_p1 C0 hV hn7 hmi hk9 hn9 ha hbb (l_p2 C0 hV hn7 hmi hk9 hn9 ha hbb (l_p3 C0 hV hn7 hmi hk9 hn9 ha hbb (l_p4 C0 hV hn7 hmi hk9 hn9 ha hbb hQ (l_p5 C0 hV hn7 hmi hk9 hn9 ha hbb (ih222 (bb + 1) (by omega) (by omega))))))
        exact K229 M_222 L_222 f_222 hob hML hsm _ _ hP hD hS _ (lv_sub hl [0, 1, 2, 3, 4, 5, 6, 7, 8, 9, 10, 11, 12, 13, 14] rfl)
  exact hc_222 (_ + 1) 0 (Nat.lt_succ_self _) (by omega) M L f hob hML hsm _ _ hP hD hS _ (lv_sub hl [0, 1, 2, 3, 4, 5, 6, 7, 8, 9, 10, 11, 12, 13, 14] rfl)

set_option maxHeartbeats 4000000 in
set_option maxRecDepth 100000 in
theorem l_a {p : Program} {l : Launch} {e : Env} {s : State} {m : MethodId} {below : List Frame} {meth : Method} {c : Code} {A : Nat → Prop} {G : kG} {b len : Nat} {xs : Nat → Int32} {hM zs : Nat} {za zw zq zp nn np mi : Nat} {ro : Nat → Nat} {rr : Nat → Nat → Nat} {rp fs sn ln : Nat → Nat} {op : Nat → Bool} {SS : Nat → Option mS} {ar ww : Nat → Nat} (C0 : lCtx p l s m meth c A G b len xs) (hV : vInv ar fs sn ln nn np mi SS ww) (hn7 : nn ≤ 7) (hmi : mi + 1000 < 2 ^ 31) {k9 n9 : Nat} (hk9 : k9 + 20000 ≤ 600130) (hn9 : n9 + 200000 ≤ 7301080) {tm : Nat} {qb x9 : Bool} {x6 : Int64} (hQ : qb = true → x9 = true → ∀ x y, x < nn → y < nn → vWay SS fs sn np x y = mTruth fs sn ln op np x y) (K1001 : lGo p l e s m below meth c A G b hM zs za zw zq zp nn np mi ro rr rp fs sn ln op SS ar ww k9 n9 1001 [(0, .ref b), (1, .ref hM), (2, .ref zs), (3, .int (nI tm)), (5, .int (bI qb)), (6, .long x6), (8, .int (nI nn)), (9, .int (bI x9)), (10, .int (nI (mSum (fun a => mCnt (fun b => a != b && (mPost (fun i => vWay SS fs sn np i) (mSt fs sn op np) a b).isSome) nn) nn))), (11, .int (nI (mSum (fun a => mCnt (fun b => a != b && (mTruth fs sn ln op np a b != 1073741824)) nn) nn)))]) : lGo p l e s m below meth c A G b hM zs za zw zq zp nn np mi ro rr rp fs sn ln op SS ar ww k9 n9 203 [(0, .ref b), (1, .ref hM), (2, .ref zs), (3, .int (nI tm)), (5, .int (bI qb)), (6, .long x6), (8, .int (nI nn)), (9, .int (bI x9)), (10, .int (nI (mSum (fun a => mCnt (fun b => a != b && (mPost (fun i => vWay SS fs sn np i) (mSt fs sn op np) a b).isSome) nn) 0))), (11, .int (nI (mSum (fun a => mCnt (fun b => a != b && (mTruth fs sn ln op np a b != 1073741824)) nn) 0))), (12, .int (nI 0))] := by
  obtain ⟨hx, hb, hr, hml, hown, hts, hX, hlocks, hK, hZ, hA, hA2, hbA, hlen⟩ := id C0
  intro M L f hob hML hsm H locs hP hD hS ls hl
  have hc_203 : ∀ (n : Nat) (a : Nat), nn - a < n → a ≤ nn → lGo p l e s m below meth c A G b hM zs za zw zq zp nn np mi ro rr rp fs sn ln op SS ar ww k9 n9 203 [(0, .ref b), (1, .ref hM), (2, .ref zs), (3, .int (nI tm)), (5, .int (bI qb)), (6, .long x6), (8, .int (nI nn)), (9, .int (bI x9)), (10, .int (nI (mSum (fun a => mCnt (fun b => a != b && (mPost (fun i => vWay SS fs sn np i) (mSt fs sn op np) a b).isSome) nn) a))), (11, .int (nI (mSum (fun a => mCnt (fun b => a != b && (mTruth fs sn ln op np a b != 1073741824)) nn) a))), (12, .int (nI a))] := by
    intro n
    induction n with
    | zero =>
      intro a hmz; exact absurd hmz (Nat.not_lt_zero _)
    | succ n ih203 =>
      intro a hmz ha9
      intro M_203 L_203 f_203 hob hML hsm H locs hP hD hS ls hl
      refine lv_iload hx hb dL_law_203 (lv_at hl 10 rfl) ?_
      refine lv_iload hx hb dL_law_205 (lv_at hl 6 rfl) ?_
      refine kb_ge (tgt := 1001) hx hb dL_law_207 (by decide) (by omega) (by omega) (fun c_1 => ?_) (fun c_1 => ?_)
      · rw [show a = nn by omega] at hl
        have hl : lv_has ls 25 [(0, .ref b), (1, .ref hM), (2, .ref zs), (3, .int (nI tm)), (5, .int (bI qb)), (6, .long x6), (8, .int (nI nn)), (9, .int (bI x9)), (10, .int (nI (mSum (fun a => mCnt (fun b => a != b && (mPost (fun i => vWay SS fs sn np i) (mSt fs sn op np) a b).isSome) nn) nn))), (11, .int (nI (mSum (fun a => mCnt (fun b => a != b && (mTruth fs sn ln op np a b != 1073741824)) nn) nn))), (12, .int (nI nn))] := hl
        exact K1001 M_203 L_203 f_203 hob hML hsm _ _ hP hD hS _ (lv_sub hl [0, 1, 2, 3, 4, 5, 6, 7, 8, 9] rfl)
      · have ha : a < nn := by omega
        have hc_941 : lGo p l e s m below meth c A G b hM zs za zw zq zp nn np mi ro rr rp fs sn ln op SS ar ww k9 n9 941 [(0, .ref b), (1, .ref hM), (2, .ref zs), (3, .int (nI tm)), (5, .int (bI qb)), (6, .long x6), (8, .int (nI nn)), (9, .int (bI x9)), (10, .int (nI (mSum (fun a => mCnt (fun b => a != b && (mPost (fun i => vWay SS fs sn np i) (mSt fs sn op np) a b).isSome) nn) a))), (11, .int (nI (mSum (fun a => mCnt (fun b => a != b && (mTruth fs sn ln op np a b != 1073741824)) nn) a + mCnt (fun k => a != k && (mTruth fs sn ln op np a k != 1073741824)) nn))), (12, .int (nI a)), (13, .int (nI (mCnt (fun k => (SS (a * 10 + k)).isSome) nn))), (14, .int (nI (mCnt (fun k => vWay SS fs sn np a k != 1073741824) nn))), (15, .int (nI (mCnt (fun k => (mPost (fun i => vWay SS fs sn np i) (mSt fs sn op np) a k).isSome) nn))), (16, .int (nI nn))] := by
          intro M_941 L_941 f_941 hob hML hsm H locs hP hD hS ls hl
          refine lv_aload_n hx hb dL_law_941 rfl (lv_at hl 1 rfl) ?_
          refine lv_iload hx hb dL_law_942 (lv_at hl 10 rfl) ?_
          refine lv_iconst (v := (nI 1)) hx hb dL_law_944 (by decide) ?_
          refine lo_i (va_runV (As := [.int (nI a), .int (nI 1)]) (rest := []) ⟨hx, hb, hml, hown, hts⟩ (c_X4_told_o l G _ hM nn np mi fs sn ln op SS ar ww M_941 L_941 f_941 a 1 hob hML hV (by omega) (by omega) (by omega)) (cwV 2 hts t_X4_told rfl rfl rfl (by decide +kernel) ⟨Nat.le_of_ble_eq_true rfl, Nat.le_of_ble_eq_true rfl⟩) (kO_V hob hML hK (hP.part (cx := []) [] rfl) (hD.part (cx := []) [] (by decide) rfl)) rfl rfl hl.1 rfl (lv_room (Nat.le_of_ble_eq_true rfl)) dL_law_945 ⟨(show k9 + 0 ≤ 600130 from by omega), (show n9 + 0 ≤ 7301080 from by omega)⟩) hP hD hS hA (fun M_945 L_945 f_945 H locs hob hfr hP hD hS => ?_)
          have hML := hfr.1
          have hsm := hsm.fr hfr
          refine W.widen (k := k9) (n := n9) (Nat.le_refl _) (Nat.le_refl _) ?_
          refine kr_top (show vTold ar SS ww (fun i => vWay SS fs sn np i) (mSt fs sn op np) nn a 1 = (nI (mCnt (fun k => (SS (a * 10 + k)).isSome) nn)) from congrArg nI (vHas_z hV (show a < 10 by omega) (show nn ≤ 10 by omega))) ?_
          refine lv_iload hx hb dL_law_948 (lv_at hl 11 rfl) ?_
          refine kb_ne (tgt := 984) hx hb dL_law_950 (by decide) (by have := mCnt_le (fun k => (SS (a * 10 + k)).isSome) nn; omega) (by have := mCnt_le (fun k => (SS (a * 10 + k)).isSome) nn; omega) (fun c_2 => ?_) (fun c_2 => ?_)
          · exfalso; exact c_2 rfl
          · refine lv_aload_n hx hb dL_law_953 rfl (lv_at hl 1 rfl) ?_
            refine lv_iload hx hb dL_law_954 (lv_at hl 10 rfl) ?_
            refine lv_iconst (v := (nI 3)) hx hb dL_law_956 (by decide) ?_
            refine lo_i (va_runV (As := [.int (nI a), .int (nI 3)]) (rest := []) ⟨hx, hb, hml, hown, hts⟩ (c_X4_told_o l G _ hM nn np mi fs sn ln op SS ar ww M_945 L_945 f_945 a 3 hob hML hV (by omega) (by omega) (by omega)) (cwV 2 hts t_X4_told rfl rfl rfl (by decide +kernel) ⟨Nat.le_of_ble_eq_true rfl, Nat.le_of_ble_eq_true rfl⟩) (kO_V hob hML hK (hP.part (cx := []) [] rfl) (hD.part (cx := []) [] (by decide) rfl)) rfl rfl hl.1 rfl (lv_room (Nat.le_of_ble_eq_true rfl)) dL_law_957 ⟨(show k9 + 0 ≤ 600130 from by omega), (show n9 + 0 ≤ 7301080 from by omega)⟩) hP hD hS hA (fun M_957 L_957 f_957 H locs hob hfr hP hD hS => ?_)
            have hML := hfr.1
            have hsm := hsm.fr hfr
            refine W.widen (k := k9) (n := n9) (Nat.le_refl _) (Nat.le_refl _) ?_
            refine kr_top (show vTold ar SS ww (fun i => vWay SS fs sn np i) (mSt fs sn op np) nn a 3 = (nI (mCnt (fun k => vWay SS fs sn np a k != 1073741824) nn)) from rfl) ?_
            refine lv_iload hx hb dL_law_960 (lv_at hl 12 rfl) ?_
            refine kb_ne (tgt := 984) hx hb dL_law_962 (by decide) (by have := mCnt_le (fun k => vWay SS fs sn np a k != 1073741824) nn; omega) (by have := mCnt_le (fun k => vWay SS fs sn np a k != 1073741824) nn; omega) (fun c_3 => ?_) (fun c_3 => ?_)
            · exfalso; exact c_3 rfl
            · refine lv_aload_n hx hb dL_law_965 rfl (lv_at hl 1 rfl) ?_
              refine lv_iload hx hb dL_law_966 (lv_at hl 10 rfl) ?_
              refine lv_iconst (v := (nI 4)) hx hb dL_law_968 (by decide) ?_
              refine lo_i (va_runV (As := [.int (nI a), .int (nI 4)]) (rest := []) ⟨hx, hb, hml, hown, hts⟩ (c_X4_told_o l G _ hM nn np mi fs sn ln op SS ar ww M_957 L_957 f_957 a 4 hob hML hV (by omega) (by omega) (by omega)) (cwV 2 hts t_X4_told rfl rfl rfl (by decide +kernel) ⟨Nat.le_of_ble_eq_true rfl, Nat.le_of_ble_eq_true rfl⟩) (kO_V hob hML hK (hP.part (cx := []) [] rfl) (hD.part (cx := []) [] (by decide) rfl)) rfl rfl hl.1 rfl (lv_room (Nat.le_of_ble_eq_true rfl)) dL_law_969 ⟨(show k9 + 0 ≤ 600130 from by omega), (show n9 + 0 ≤ 7301080 from by omega)⟩) hP hD hS hA (fun M_969 L_969 f_969 H locs hob hfr hP hD hS => ?_)
              have hML := hfr.1
              have hsm := hsm.fr hfr
              refine W.widen (k := k9) (n := n9) (Nat.le_refl _) (Nat.le_refl _) ?_
              refine kr_top (show vTold ar SS ww (fun i => vWay SS fs sn np i) (mSt fs sn op np) nn a 4 = (nI (mCnt (fun k => (mPost (fun i => vWay SS fs sn np i) (mSt fs sn op np) a k).isSome) nn)) from rfl) ?_
              refine lv_iload hx hb dL_law_972 (lv_at hl 13 rfl) ?_
              refine kb_ne (tgt := 984) hx hb dL_law_974 (by decide) (by have := mCnt_le (fun k => (mPost (fun i => vWay SS fs sn np i) (mSt fs sn op np) a k).isSome) nn; omega) (by have := mCnt_le (fun k => (mPost (fun i => vWay SS fs sn np i) (mSt fs sn op np) a k).isSome) nn; omega) (fun c_4 => ?_) (fun c_4 => ?_)
              · exfalso; exact c_4 rfl
              · refine lv_iload hx hb dL_law_977 (lv_at hl 13 rfl) ?_
                refine lv_iload hx hb dL_law_979 (lv_at hl 12 rfl) ?_
                refine kb_le (tgt := 986) hx hb dL_law_981 (by decide) (by have := mCnt_le (fun k => vWay SS fs sn np a k != 1073741824) nn; have := mCnt_le (fun k => (mPost (fun i => vWay SS fs sn np i) (mSt fs sn op np) a k).isSome) nn; omega) (by have := mCnt_le (fun k => vWay SS fs sn np a k != 1073741824) nn; have := mCnt_le (fun k => (mPost (fun i => vWay SS fs sn np i) (mSt fs sn op np) a k).isSome) nn; omega) (fun c_5 => ?_) (fun c_5 => ?_)
                · refine lv_iload hx hb dL_law_986 (lv_at hl 8 rfl) ?_
                  refine lv_iload hx hb dL_law_988 (lv_at hl 13 rfl) ?_
                  refine lv_iconst (v := (nI 1)) hx hb dL_law_990 (by decide) ?_
                  refine lv_isub hx hb dL_law_991 ?_
                  refine kr_top (y := (nI (mCnt (fun b => a != b && (mPost (fun i => vWay SS fs sn np i) (mSt fs sn op np) a b).isSome) nn))) (by rw [show mCnt (fun k => (mPost (fun i => vWay SS fs sn np i) (mSt fs sn op np) a k).isSome) nn = (mCnt (fun b => a != b && (mPost (fun i => vWay SS fs sn np i) (mSt fs sn op np) a b).isSome) nn) + 1 from zS_come ha]; exact (pk_sub (Nat.le_add_left 1 _)).trans (by rw [Nat.add_sub_cancel])) ?_
                  refine lv_iadd hx hb dL_law_992 ?_
                  refine kr_top (y := (nI (mSum (fun a => mCnt (fun b => a != b && (mPost (fun i => vWay SS fs sn np i) (mSt fs sn op np) a b).isSome) nn) (a + 1)))) (nI_add _ _) ?_
                  refine lv_istore (lv' := [(10, .int (nI (mSum (fun a => mCnt (fun b => a != b && (mPost (fun i => vWay SS fs sn np i) (mSt fs sn op np) a b).isSome) nn) (a + 1)))), (0, .ref b), (1, .ref hM), (2, .ref zs), (3, .int (nI tm)), (5, .int (bI qb)), (6, .long x6), (8, .int (nI nn)), (9, .int (bI x9)), (11, .int (nI (mSum (fun a => mCnt (fun b => a != b && (mTruth fs sn ln op np a b != 1073741824)) nn) a + mCnt (fun k => a != k && (mTruth fs sn ln op np a k != 1073741824)) nn))), (12, .int (nI a)), (13, .int (nI (mCnt (fun k => (SS (a * 10 + k)).isSome) nn))), (14, .int (nI (mCnt (fun k => vWay SS fs sn np a k != 1073741824) nn))), (15, .int (nI (mCnt (fun k => (mPost (fun i => vWay SS fs sn np i) (mSt fs sn op np) a k).isSome) nn))), (16, .int (nI nn))]) hx hb dL_law_993 hl (by decide) rfl (fun ls hl => ?_)
                  refine lv_iinc (k := 10) (v := (nI (a + 1))) (lv' := [(12, .int (nI (a + 1))), (10, .int (nI (mSum (fun a => mCnt (fun b => a != b && (mPost (fun i => vWay SS fs sn np i) (mSt fs sn op np) a b).isSome) nn) (a + 1)))), (0, .ref b), (1, .ref hM), (2, .ref zs), (3, .int (nI tm)), (5, .int (bI qb)), (6, .long x6), (8, .int (nI nn)), (9, .int (bI x9)), (11, .int (nI (mSum (fun a => mCnt (fun b => a != b && (mTruth fs sn ln op np a b != 1073741824)) nn) a + mCnt (fun k => a != k && (mTruth fs sn ln op np a k != 1073741824)) nn))), (13, .int (nI (mCnt (fun k => (SS (a * 10 + k)).isSome) nn))), (14, .int (nI (mCnt (fun k => vWay SS fs sn np a k != 1073741824) nn))), (15, .int (nI (mCnt (fun k => (mPost (fun i => vWay SS fs sn np i) (mSt fs sn op np) a k).isSome) nn))), (16, .int (nI nn))]) hx hb dL_law_995 hl rfl (kn_inc a) (by decide) rfl (fun ls hl => ?_)
                  refine lv_goto (tgt := 203) hx hb dL_law_998 (by decide) ?_
                  exact ih203 (a + 1) (by omega) (by omega) M_969 L_969 f_969 hob hML hsm _ _ hP hD hS _ (lv_sub hl [2, 3, 4, 5, 6, 7, 8, 9, 1, 10, 0] rfl)
                · exfalso; have := lCW (op := op) hV ha; omega
        refine lv_iconst (v := (nI 0)) hx hb dL_law_210 (by decide) ?_
        refine lv_istore (lv' := [(13, .int (nI 0)), (0, .ref b), (1, .ref hM), (2, .ref zs), (3, .int (nI tm)), (5, .int (bI qb)), (6, .long x6), (8, .int (nI nn)), (9, .int (bI x9)), (10, .int (nI (mSum (fun a => mCnt (fun b => a != b && (mPost (fun i => vWay SS fs sn np i) (mSt fs sn op np) a b).isSome) nn) a))), (11, .int (nI (mSum (fun a => mCnt (fun b => a != b && (mTruth fs sn ln op np a b != 1073741824)) nn) a))), (12, .int (nI a))]) hx hb dL_law_211 hl (by decide) rfl (fun ls hl => ?_)
        have K222 := l_b C0 hV hn7 hmi hk9 hn9 ha hQ hc_941
        refine lv_iconst (v := (nI 0)) hx hb dL_law_213 (by decide) ?_
        refine lv_istore (lv' := [(14, .int (nI 0)), (13, .int (nI 0)), (0, .ref b), (1, .ref hM), (2, .ref zs), (3, .int (nI tm)), (5, .int (bI qb)), (6, .long x6), (8, .int (nI nn)), (9, .int (bI x9)), (10, .int (nI (mSum (fun a => mCnt (fun b => a != b && (mPost (fun i => vWay SS fs sn np i) (mSt fs sn op np) a b).isSome) nn) a))), (11, .int (nI (mSum (fun a => mCnt (fun b => a != b && (mTruth fs sn ln op np a b != 1073741824)) nn) a))), (12, .int (nI a))]) hx hb dL_law_214 hl (by decide) rfl (fun ls hl => ?_)
        refine lv_iconst (v := (nI 0)) hx hb dL_law_216 (by decide) ?_
        refine lv_istore (lv' := [(15, .int (nI 0)), (14, .int (nI 0)), (13, .int (nI 0)), (0, .ref b), (1, .ref hM), (2, .ref zs), (3, .int (nI tm)), (5, .int (bI qb)), (6, .long x6), (8, .int (nI nn)), (9, .int (bI x9)), (10, .int (nI (mSum (fun a => mCnt (fun b => a != b && (mPost (fun i => vWay SS fs sn np i) (mSt fs sn op np) a b).isSome) nn) a))), (11, .int (nI (mSum (fun a => mCnt (fun b => a != b && (mTruth fs sn ln op np a b != 1073741824)) nn) a))), (12, .int (nI a))]) hx hb dL_law_217 hl (by decide) rfl (fun ls hl => ?_)
        refine lv_iconst (v := (nI 0)) hx hb dL_law_219 (by decide) ?_
        refine lv_istore (lv' := [(16, .int (nI 0)), (15, .int (nI 0)), (14, .int (nI 0)), (13, .int (nI 0)), (0, .ref b), (1, .ref hM), (2, .ref zs), (3, .int (nI tm)), (5, .int (bI qb)), (6, .long x6), (8, .int (nI nn)), (9, .int (bI x9)), (10, .int (nI (mSum (fun a => mCnt (fun b => a != b && (mPost (fun i => vWay SS fs sn np i) (mSt fs sn op np) a b).isSome) nn) a))), (11, .int (nI (mSum (fun a => mCnt (fun b => a != b && (mTruth fs sn ln op np a b != 1073741824)) nn) a))), (12, .int (nI a))]) hx hb dL_law_220 hl (by decide) rfl (fun ls hl => ?_)
        exact K222 M_203 L_203 f_203 hob hML hsm _ _ hP hD hS _ (lv_sub hl [4, 5, 6, 7, 8, 9, 10, 11, 12, 13, 14, 3, 2, 1, 0] rfl)
  exact hc_203 (_ + 1) 0 (Nat.lt_succ_self _) (by omega) M L f hob hML hsm _ _ hP hD hS _ (lv_sub hl [0, 1, 2, 3, 4, 5, 6, 7, 8, 9, 10] rfl)
