theorem kJ6_bitCount_0f7a4_0 : Cond.constant RJ6 265 (1431655765) ∈ wsJ6_bitCount_0f7a4 := by decide +kernel
theorem kJ6_bitCount_0f7a4_1 : Cond.constant RJ6 266 (858993459) ∈ wsJ6_bitCount_0f7a4 := by decide +kernel
theorem kJ6_bitCount_0f7a4_2 : Cond.constant RJ6 267 (252645135) ∈ wsJ6_bitCount_0f7a4 := by decide +kernel
set_option maxHeartbeats 4000000 in
set_option maxRecDepth 100000 in
theorem c_J6_bitCount_0f7a4 (l : Launch) (G : kG) (x : Nat) (hxb : x < 2 ^ 10) : Met l yJ6_bitCount_0f7a4 wsJ6_bitCount_0f7a4 ({ frames := 0, cells := 0, slots := 0, locals := 0 }) (kPre G [] [.int (nI x)]) (vp_Si (fun r : Int32 => r = (nI (mPop x)))) 0 0 (fun _ => False) := by
  refine Met.ofW (cc := cJ6_bitCount_0f7a4) (maxL := 1) (ret := (some .int)) (by decide) rfl ?_
  intro p e s m args below meth c s₁ B hml hv
  obtain ⟨rfl, hP, hK⟩ := hv
  have hx := B.exec
  have hb := B.bytes
  have hr := B.returns
  have hts := atoms_spec (ws := wsJ6_bitCount_0f7a4) B.pre
  have hown : s.vm.findClass RJ6 = some m.cls := findClass_of_methodNamed B.named
  have hlocks := B.notSynchronized
  have hK : va_K G.1 vwCl (kT G) s := hK
  have hP : va_P G.1 vwCl [] s.heap := hP
  have hl := lv_entry ([.int (nI x)]) (n := 1) (Nat.le_of_ble_eq_true rfl)
  rw [lg_entry_eq]
  generalize (lg_sl ([.int (nI x)]) ++ List.replicate (1 - (lg_sl ([.int (nI x)])).length) Slot.unset).toArray = ls at hl ⊢
  have hl : lv_has ls 1 [(0, .int (nI x))] := hl
  refine lv_iload_n hx hb dJ6_bitCount_0f7a4_0 rfl (lv_at hl 0 rfl) ?_
  refine lv_iload_n hx hb dJ6_bitCount_0f7a4_1 rfl (lv_at hl 0 rfl) ?_
  refine lv_iconst (v := (nI 1)) hx hb dJ6_bitCount_0f7a4_2 (by decide) ?_
  refine lv_iushr (v := ((nI x).toUInt32 >>> ((nI 1).toUInt32 &&& Int32.toUInt32 31)).toInt32) hx hb dJ6_bitCount_0f7a4_3 rfl ?_
  refine lv_ldcw (v := (1431655765)) hx hb hown (hts _ kJ6_bitCount_0f7a4_0) dJ6_bitCount_0f7a4_4 ?_
  refine kr_top (show ((1431655765) : Int32) = nI 1431655765 from by decide) ?_
  refine lv_iand hx hb dJ6_bitCount_0f7a4_7 ?_
  refine lv_isub hx hb dJ6_bitCount_0f7a4_8 ?_
  refine kr_top (y := (pb1 (nI x))) (rfl) ?_
  refine lv_istore_n (lv' := [(0, .int (pb1 (nI x)))]) hx hb dJ6_bitCount_0f7a4_9 rfl hl (by decide) rfl (fun ls hl => ?_)
  refine lv_iload_n hx hb dJ6_bitCount_0f7a4_10 rfl (lv_at hl 0 rfl) ?_
  refine lv_ldcw (v := (858993459)) hx hb hown (hts _ kJ6_bitCount_0f7a4_1) dJ6_bitCount_0f7a4_11 ?_
  refine kr_top (show ((858993459) : Int32) = nI 858993459 from by decide) ?_
  refine lv_iand hx hb dJ6_bitCount_0f7a4_14 ?_
  refine lv_iload_n hx hb dJ6_bitCount_0f7a4_15 rfl (lv_at hl 0 rfl) ?_
  refine lv_iconst (v := (nI 2)) hx hb dJ6_bitCount_0f7a4_16 (by decide) ?_
  refine lv_iushr (v := ((pb1 (nI x)).toUInt32 >>> ((nI 2).toUInt32 &&& Int32.toUInt32 31)).toInt32) hx hb dJ6_bitCount_0f7a4_17 rfl ?_
  refine lv_ldcw (v := (858993459)) hx hb hown (hts _ kJ6_bitCount_0f7a4_1) dJ6_bitCount_0f7a4_18 ?_
  refine kr_top (show ((858993459) : Int32) = nI 858993459 from by decide) ?_
  refine lv_iand hx hb dJ6_bitCount_0f7a4_21 ?_
  refine lv_iadd hx hb dJ6_bitCount_0f7a4_22 ?_
  refine kr_top (y := (pb2 (pb1 (nI x)))) (rfl) ?_
  refine lv_istore_n (lv' := [(0, .int (pb2 (pb1 (nI x))))]) hx hb dJ6_bitCount_0f7a4_23 rfl hl (by decide) rfl (fun ls hl => ?_)
  refine lv_iload_n hx hb dJ6_bitCount_0f7a4_24 rfl (lv_at hl 0 rfl) ?_
  refine lv_iload_n hx hb dJ6_bitCount_0f7a4_25 rfl (lv_at hl 0 rfl) ?_
  refine lv_iconst (v := (nI 4)) hx hb dJ6_bitCount_0f7a4_26 (by decide) ?_
  refine lv_iushr (v := ((pb2 (pb1 (nI x))).toUInt32 >>> ((nI 4).toUInt32 &&& Int32.toUInt32 31)).toInt32) hx hb dJ6_bitCount_0f7a4_27 rfl ?_
  refine lv_iadd hx hb dJ6_bitCount_0f7a4_28 ?_
  refine lv_ldcw (v := (252645135)) hx hb hown (hts _ kJ6_bitCount_0f7a4_2) dJ6_bitCount_0f7a4_29 ?_
  refine kr_top (show ((252645135) : Int32) = nI 252645135 from by decide) ?_
  refine lv_iand hx hb dJ6_bitCount_0f7a4_32 ?_
  refine kr_top (y := (pb3 (pb2 (pb1 (nI x))))) (rfl) ?_
  refine lv_istore_n (lv' := [(0, .int (pb3 (pb2 (pb1 (nI x)))))]) hx hb dJ6_bitCount_0f7a4_33 rfl hl (by decide) rfl (fun ls hl => ?_)
  refine lv_iload_n hx hb dJ6_bitCount_0f7a4_34 rfl (lv_at hl 0 rfl) ?_
  refine lv_iload_n hx hb dJ6_bitCount_0f7a4_35 rfl (lv_at hl 0 rfl) ?_
  refine lv_bipush (v := (nI 8)) hx hb dJ6_bitCount_0f7a4_36 (by decide) ?_
  refine lv_iushr (v := ((pb3 (pb2 (pb1 (nI x)))).toUInt32 >>> ((nI 8).toUInt32 &&& Int32.toUInt32 31)).toInt32) hx hb dJ6_bitCount_0f7a4_38 rfl ?_
  refine lv_iadd hx hb dJ6_bitCount_0f7a4_39 ?_
  refine kr_top (y := (pb4 (pb3 (pb2 (pb1 (nI x)))))) (rfl) ?_
  refine lv_istore_n (lv' := [(0, .int (pb4 (pb3 (pb2 (pb1 (nI x))))))]) hx hb dJ6_bitCount_0f7a4_40 rfl hl (by decide) rfl (fun ls hl => ?_)
  refine lv_iload_n hx hb dJ6_bitCount_0f7a4_41 rfl (lv_at hl 0 rfl) ?_
  refine lv_iload_n hx hb dJ6_bitCount_0f7a4_42 rfl (lv_at hl 0 rfl) ?_
  refine lv_bipush (v := (nI 16)) hx hb dJ6_bitCount_0f7a4_43 (by decide) ?_
  refine lv_iushr (v := ((pb4 (pb3 (pb2 (pb1 (nI x))))).toUInt32 >>> ((nI 16).toUInt32 &&& Int32.toUInt32 31)).toInt32) hx hb dJ6_bitCount_0f7a4_45 rfl ?_
  refine lv_iadd hx hb dJ6_bitCount_0f7a4_46 ?_
  refine kr_top (y := (pb5 (pb4 (pb3 (pb2 (pb1 (nI x))))))) (rfl) ?_
  refine lv_istore_n (lv' := [(0, .int (pb5 (pb4 (pb3 (pb2 (pb1 (nI x)))))))]) hx hb dJ6_bitCount_0f7a4_47 rfl hl (by decide) rfl (fun ls hl => ?_)
  refine lv_iload_n hx hb dJ6_bitCount_0f7a4_48 rfl (lv_at hl 0 rfl) ?_
  refine lv_bipush (v := (nI 63)) hx hb dJ6_bitCount_0f7a4_49 (by decide) ?_
  refine lv_iand hx hb dJ6_bitCount_0f7a4_51 ?_
  exact kr_iret hx hb hr hlocks (by exact mPop_ok x hxb) dJ6_bitCount_0f7a4_52

theorem kX1_groupOf_0 : Cond.fieldLink RX1 32 "PassNotes$Land" "passes" "I" ∈ wsX1_groupOf := by decide +kernel
theorem kX1_groupOf_1 : ∀ w ∈ wsX10, w ∈ wsX1_groupOf := by decide +kernel
theorem kX1_groupOf_2 : Cond.fieldLink RX1 15 "PassNotes$Land" "firsts" "[I" ∈ wsX1_groupOf := by decide +kernel
theorem kX1_groupOf_3 : Cond.fieldLink RX1 18 "PassNotes$Land" "seconds" "[I" ∈ wsX1_groupOf := by decide +kernel
theorem kX1_groupOf_4 : Cond.fieldLink RX1 24 "PassNotes$Land" "opens" "[Z" ∈ wsX1_groupOf := by decide +kernel
set_option maxHeartbeats 4000000 in
set_option maxRecDepth 100000 in
theorem c_X1_groupOf (l : Launch) (G : kG) (hL a0 a1 a2 a3 a4 : Nat) (nh np : Nat) (fs sn : Nat → Nat) (op : Nat → Bool) (h : Nat) (x : Int32) (hfs : ∀ j, fs j < 10) (hsn : ∀ j, sn j < 10) (hh : h < 10) (hnp : np ≤ 20) : Met l yX1_groupOf wsX1_groupOf ({ frames := 0, cells := 0, slots := 0, locals := 0 }) (kPre G [(hL, .inr (1, [.ref a0, .ref a1, .ref a2, .ref a3, .ref a4, .int (nI nh), .int (nI np)])), (a1, .inl (G.2 0, 20, .inl (kI fs))), (a2, .inl (G.2 0, 20, .inl (kI sn))), (a4, .inl (G.2 1, 20, .inl (kB op)))] [.ref hL, .int (nI h), .int x]) (vp_Si (fun r : Int32 => r = (nI (gIter fs sn op x np (2 ^ h) 10)))) 0 0 (fun _ => False) := by
  refine Met.ofW (cc := cX1_groupOf) (maxL := 9) (ret := (some .int)) (by decide) rfl ?_
  intro p e s m args below meth c s₁ B hml hv
  obtain ⟨rfl, hP, hK⟩ := hv
  have hx := B.exec
  have hb := B.bytes
  have hr := B.returns
  have hts := atoms_spec (ws := wsX1_groupOf) B.pre
  have hown : s.vm.findClass RX1 = some m.cls := findClass_of_methodNamed B.named
  have hlocks := B.notSynchronized
  have hK : va_K G.1 vwCl (kT G) s := hK
  have hP : va_P G.1 vwCl [(hL, .inr (1, [.ref a0, .ref a1, .ref a2, .ref a3, .ref a4, .int (nI nh), .int (nI np)])), (a1, .inl (G.2 0, 20, .inl (kI fs))), (a2, .inl (G.2 0, 20, .inl (kI sn))), (a4, .inl (G.2 1, 20, .inl (kB op)))] s.heap := hP
  have hl := lv_entry ([.ref hL, .int (nI h), .int x]) (n := 9) (Nat.le_of_ble_eq_true rfl)
  rw [lg_entry_eq]
  generalize (lg_sl ([.ref hL, .int (nI h), .int x]) ++ List.replicate (9 - (lg_sl ([.ref hL, .int (nI h), .int x])).length) Slot.unset).toArray = ls at hl ⊢
  have hl : lv_has ls 9 [(0, .ref hL), (1, .int (nI h)), (2, .int x)] := hl
  refine lv_iconst (v := (nI 1)) hx hb dX1_groupOf_0 (by decide) ?_
  refine lv_iload_n hx hb dX1_groupOf_1 rfl (lv_at hl 1 rfl) ?_
  refine lv_ishl hx hb dX1_groupOf_2 ?_
  refine kr_top (y := (nI (2 ^ h))) (kn_shl1 _ hh) ?_
  refine lv_istore_n (lv' := [(3, .int (nI (2 ^ h))), (0, .ref hL), (1, .int (nI h)), (2, .int x)]) hx hb dX1_groupOf_3 rfl hl (by decide) rfl (fun ls hl => ?_)
  refine lv_iconst (v := (nI 1)) hx hb dX1_groupOf_4 (by decide) ?_
  refine lv_istore (lv' := [(4, .int (nI 1)), (3, .int (nI (2 ^ h))), (0, .ref hL), (1, .int (nI h)), (2, .int x)]) hx hb dX1_groupOf_5 hl (by decide) rfl (fun ls hl => ?_)
  refine lv_iconst (v := (nI 0)) hx hb dX1_groupOf_7 (by decide) ?_
  refine lv_istore (lv' := [(5, .int (nI 0)), (4, .int (nI 1)), (3, .int (nI (2 ^ h))), (0, .ref hL), (1, .int (nI h)), (2, .int x)]) hx hb dX1_groupOf_8 hl (by decide) rfl (fun ls hl => ?_)
  have hc_10 : ∀ (n : Nat) (rd : Nat) (tt : Bool) (g : Nat), 10 - rd < n → rd ≤ 10 → g = gIter fs sn op x np (2 ^ h) rd → g < 2 ^ 10 → (tt = false → gPass fs sn op x g np = g) → ∀ (ls : Array Slot), lv_has ls 9 [(5, .int (nI rd)), (4, .int (bI tt)), (3, .int (nI g)), (0, .ref hL), (1, .int (nI h)), (2, .int x)] → W p l e (headSpec wsX1_groupOf ({ frames := 0, cells := 0, slots := 0, locals := 0 })).room s m [.ref hL, .int (nI h), .int x].toArray below meth c s.heap [] 0 0 (MQ below (vp_Si (fun r : Int32 => r = (nI (gIter fs sn op x np (2 ^ h) 10)))) [.ref hL, .int (nI h), .int x].toArray s 0 0 (fun _ => False)) (F0 m 10 ls []) := by
    intro n
    induction n with
    | zero =>
      intro rd tt g hmz; exact absurd hmz (Nat.not_lt_zero _)
    | succ n ih10 =>
      intro rd tt g hmz hr2 hg hgb ht ls hl
      refine lv_iload hx hb dX1_groupOf_10 (lv_at hl 0 rfl) ?_
      refine lv_bipush (v := (nI 10)) hx hb dX1_groupOf_12 (by decide) ?_
      refine kb_ge (tgt := 111) hx hb dX1_groupOf_14 (by decide) (by omega) (by decide) (fun c_1 => ?_) (fun c_1 => ?_)
      · obtain rfl : rd = 10 := by omega
        have hfin := hg
        refine lv_iload_n hx hb dX1_groupOf_111 rfl (lv_at hl 2 rfl) ?_
        exact kr_iret hx hb hr hlocks (congrArg nI hfin) dX1_groupOf_112
      · refine lv_iload hx hb dX1_groupOf_17 (lv_at hl 1 rfl) ?_
        refine kb_eqb (tgt := 111) hx hb dX1_groupOf_19 (by decide) (fun c_2 => ?_) (fun c_2 => ?_)
        · have hfin : g = gIter fs sn op x np (2 ^ h) 10 := by have e := ht c_2; rw [hg] at e; have e2 := gIter_stop e (10 - rd); rw [show rd + (10 - rd) = 10 by omega] at e2; rw [hg]; exact e2.symm
          refine lv_iload_n hx hb dX1_groupOf_111 rfl (lv_at hl 2 rfl) ?_
          exact kr_iret hx hb hr hlocks (congrArg nI hfin) dX1_groupOf_112
        · refine lv_iload_n hx hb dX1_groupOf_22 rfl (lv_at hl 2 rfl) ?_
          refine lv_istore (lv' := [(6, .int (nI g)), (5, .int (nI rd)), (4, .int (bI tt)), (3, .int (nI g)), (0, .ref hL), (1, .int (nI h)), (2, .int x)]) hx hb dX1_groupOf_23 hl (by decide) rfl (fun ls hl => ?_)
          refine lv_iconst (v := (nI 0)) hx hb dX1_groupOf_25 (by decide) ?_
          refine lv_istore (lv' := [(7, .int (nI 0)), (6, .int (nI g)), (5, .int (nI rd)), (4, .int (bI tt)), (3, .int (nI g)), (0, .ref hL), (1, .int (nI h)), (2, .int x)]) hx hb dX1_groupOf_26 hl (by decide) rfl (fun ls hl => ?_)
          have hc_28 : ∀ (n : Nat) (i g2 : Nat), np - i < n → i ≤ np → g2 = gPass fs sn op x g i → g2 < 2 ^ 10 → ∀ (ls : Array Slot), lv_has ls 9 [(7, .int (nI i)), (6, .int (nI g)), (5, .int (nI rd)), (4, .int (bI tt)), (3, .int (nI g2)), (0, .ref hL), (1, .int (nI h)), (2, .int x)] → W p l e (headSpec wsX1_groupOf ({ frames := 0, cells := 0, slots := 0, locals := 0 })).room s m [.ref hL, .int (nI h), .int x].toArray below meth c s.heap [] 0 0 (MQ below (vp_Si (fun r : Int32 => r = (nI (gIter fs sn op x np (2 ^ h) 10)))) [.ref hL, .int (nI h), .int x].toArray s 0 0 (fun _ => False)) (F0 m 28 ls []) := by
            intro n
            induction n with
            | zero =>
              intro i g2 hmz; exact absurd hmz (Nat.not_lt_zero _)
            | succ n ih28 =>
              intro i g2 hmz hi hg2 hgb2 ls hl
              refine lv_iload hx hb dX1_groupOf_28 (lv_at hl 0 rfl) ?_
              refine lv_aload_n hx hb dX1_groupOf_30 rfl (lv_at hl 5 rfl) ?_
              refine va_get (D := G.1) (ci := 1) (v := .int (nI np)) (C := RX1) (T := TX1) (N := 7) hx hb hts kX1_groupOf_1 hown hK hP 0 rfl rfl 6 (by decide) (hts _ kX1_groupOf_0) (fun _ h9 => h9) rfl dX1_groupOf_31 ?_
              refine kb_ge (tgt := 92) hx hb dX1_groupOf_34 (by decide) (by omega) (by omega) (fun c_3 => ?_) (fun c_3 => ?_)
              · refine lv_iload_n hx hb dX1_groupOf_92 rfl (lv_at hl 4 rfl) ?_
                refine lv_iload hx hb dX1_groupOf_93 (lv_at hl 1 rfl) ?_
                refine kb_eq (tgt := 102) hx hb dX1_groupOf_95 (by decide) (by omega) (by omega) (fun c_4 => ?_) (fun c_4 => ?_)
                · refine lv_iconst (v := (nI 0)) hx hb dX1_groupOf_102 (by decide) ?_
                  refine lv_istore (lv' := [(4, .int (nI 0)), (7, .int (nI i)), (6, .int (nI g)), (5, .int (nI rd)), (3, .int (nI g2)), (0, .ref hL), (1, .int (nI h)), (2, .int x)]) hx hb dX1_groupOf_103 hl (by decide) rfl (fun ls hl => ?_)
                  refine lv_iinc (k := 3) (v := (nI (rd + 1))) (lv' := [(5, .int (nI (rd + 1))), (4, .int (nI 0)), (7, .int (nI i)), (6, .int (nI g)), (3, .int (nI g2)), (0, .ref hL), (1, .int (nI h)), (2, .int x)]) hx hb dX1_groupOf_105 hl rfl (kn_inc rd) (by decide) rfl (fun ls hl => ?_)
                  refine lv_goto (tgt := 10) hx hb dX1_groupOf_108 (by decide) ?_
                  exact ih10 (rd + 1) false g2 (by omega) (by omega) (by rw [hg2, show i = np by omega, hg]; rfl) (by exact hgb2) (by intro q; first | (cases q; done) | (obtain rfl : i = np := (by omega); have e : g2 = g := (by assumption); rw [e] at hg2 ⊢; exact hg2.symm)) _ (lv_sub hl [0, 1, 4, 5, 6, 7] rfl)
                · refine lv_iconst (v := (nI 1)) hx hb dX1_groupOf_98 (by decide) ?_
                  refine lv_goto (tgt := 103) hx hb dX1_groupOf_99 (by decide) ?_
                  refine lv_istore (lv' := [(4, .int (nI 1)), (7, .int (nI i)), (6, .int (nI g)), (5, .int (nI rd)), (3, .int (nI g2)), (0, .ref hL), (1, .int (nI h)), (2, .int x)]) hx hb dX1_groupOf_103 hl (by decide) rfl (fun ls hl => ?_)
                  refine lv_iinc (k := 3) (v := (nI (rd + 1))) (lv' := [(5, .int (nI (rd + 1))), (4, .int (nI 1)), (7, .int (nI i)), (6, .int (nI g)), (3, .int (nI g2)), (0, .ref hL), (1, .int (nI h)), (2, .int x)]) hx hb dX1_groupOf_105 hl rfl (kn_inc rd) (by decide) rfl (fun ls hl => ?_)
                  refine lv_goto (tgt := 10) hx hb dX1_groupOf_108 (by decide) ?_
                  exact ih10 (rd + 1) true g2 (by omega) (by omega) (by rw [hg2, show i = np by omega, hg]; rfl) (by exact hgb2) (by intro q; first | (cases q; done) | (obtain rfl : i = np := (by omega); have e : g2 = g := (by assumption); rw [e] at hg2 ⊢; exact hg2.symm)) _ (lv_sub hl [0, 1, 4, 5, 6, 7] rfl)
              · refine lv_iconst (v := (nI 1)) hx hb dX1_groupOf_37 (by decide) ?_
                refine lv_aload_n hx hb dX1_groupOf_38 rfl (lv_at hl 5 rfl) ?_
                refine va_get (D := G.1) (ci := 1) (v := .ref a1) (C := RX1) (T := TX1) (N := 7) hx hb hts kX1_groupOf_1 hown hK hP 0 rfl rfl 1 (by decide) (hts _ kX1_groupOf_2) (fun _ h9 => h9) rfl dX1_groupOf_39 ?_
                refine lv_iload hx hb dX1_groupOf_42 (lv_at hl 0 rfl) ?_
                refine kr_iald (k := i) (v := (nI (fs i))) hx hb hK hP 1 0 rfl rfl (by omega) (by decide) rfl dX1_groupOf_44 ?_
                refine lv_ishl hx hb dX1_groupOf_45 ?_
                refine kr_top (y := (nI (2 ^ fs i))) (kn_shl1 _ (hfs i)) ?_
                refine lv_iconst (v := (nI 1)) hx hb dX1_groupOf_46 (by decide) ?_
                refine lv_aload_n hx hb dX1_groupOf_47 rfl (lv_at hl 5 rfl) ?_
                refine va_get (D := G.1) (ci := 1) (v := .ref a2) (C := RX1) (T := TX1) (N := 7) hx hb hts kX1_groupOf_1 hown hK hP 0 rfl rfl 2 (by decide) (hts _ kX1_groupOf_3) (fun _ h9 => h9) rfl dX1_groupOf_48 ?_
                refine lv_iload hx hb dX1_groupOf_51 (lv_at hl 0 rfl) ?_
                refine kr_iald (k := i) (v := (nI (sn i))) hx hb hK hP 2 0 rfl rfl (by omega) (by decide) rfl dX1_groupOf_53 ?_
                refine lv_ishl hx hb dX1_groupOf_54 ?_
                refine kr_top (y := (nI (2 ^ sn i))) (kn_shl1 _ (hsn i)) ?_
                refine lv_ior hx hb dX1_groupOf_55 ?_
                refine kr_top (y := (nI (mEnds fs sn i))) (fa_or _ _) ?_
                refine lv_istore (lv' := [(8, .int (nI (mEnds fs sn i))), (7, .int (nI i)), (6, .int (nI g)), (5, .int (nI rd)), (4, .int (bI tt)), (3, .int (nI g2)), (0, .ref hL), (1, .int (nI h)), (2, .int x)]) hx hb dX1_groupOf_56 hl (by decide) rfl (fun ls hl => ?_)
                refine lv_aload_n hx hb dX1_groupOf_58 rfl (lv_at hl 6 rfl) ?_
                refine va_get (D := G.1) (ci := 1) (v := .ref a4) (C := RX1) (T := TX1) (N := 7) hx hb hts kX1_groupOf_1 hown hK hP 0 rfl rfl 4 (by decide) (hts _ kX1_groupOf_4) (fun _ h9 => h9) rfl dX1_groupOf_59 ?_
                refine lv_iload hx hb dX1_groupOf_62 (lv_at hl 1 rfl) ?_
                refine kr_zald (k := i) (v := (bI (op i))) hx hb hK hP 3 1 rfl rfl (by omega) (by decide) rfl dX1_groupOf_64 ?_
                refine kb_eqb (tgt := 86) hx hb dX1_groupOf_65 (by decide) (fun c_5 => ?_) (fun c_5 => ?_)
                · have hst : gStep fs sn op x g2 i = g2 := by unfold gStep; rw [if_neg (fun z => by rw [c_5] at z; cases z.1)]
                  refine lv_iinc (k := 1) (v := (nI (i + 1))) (lv' := [(7, .int (nI (i + 1))), (8, .int (nI (mEnds fs sn i))), (6, .int (nI g)), (5, .int (nI rd)), (4, .int (bI tt)), (3, .int (nI g2)), (0, .ref hL), (1, .int (nI h)), (2, .int x)]) hx hb dX1_groupOf_86 hl rfl (kn_inc i) (by decide) rfl (fun ls hl => ?_)
                  refine lv_goto (tgt := 28) hx hb dX1_groupOf_89 (by decide) ?_
                  exact ih28 (i + 1) g2 (by omega) (by omega) (by show _ = gStep fs sn op x (gPass fs sn op x g i) i; rw [← hg2, hst]) (by first | exact hgb2 | exact Nat.or_lt_two_pow hgb2 (mEnds_lt hfs hsn i)) _ (lv_sub hl [0, 2, 3, 4, 5, 6, 7, 8] rfl)
                · have ho := c_5
                  refine lv_iload hx hb dX1_groupOf_68 (lv_at hl 1 rfl) ?_
                  refine lv_iload_n hx hb dX1_groupOf_70 rfl (lv_at hl 8 rfl) ?_
                  refine lv_icmp_eq (tgt := 86) hx hb dX1_groupOf_71 (by decide) (fun c_6 => ?_) (fun c_6 => ?_)
                  · have hst : gStep fs sn op x g2 i = g2 := by unfold gStep; rw [if_neg (fun z => z.2.1 c_6)]
                    refine lv_iinc (k := 1) (v := (nI (i + 1))) (lv' := [(7, .int (nI (i + 1))), (8, .int (nI (mEnds fs sn i))), (6, .int (nI g)), (5, .int (nI rd)), (4, .int (bI tt)), (3, .int (nI g2)), (0, .ref hL), (1, .int (nI h)), (2, .int x)]) hx hb dX1_groupOf_86 hl rfl (kn_inc i) (by decide) rfl (fun ls hl => ?_)
                    refine lv_goto (tgt := 28) hx hb dX1_groupOf_89 (by decide) ?_
                    exact ih28 (i + 1) g2 (by omega) (by omega) (by show _ = gStep fs sn op x (gPass fs sn op x g i) i; rw [← hg2, hst]) (by first | exact hgb2 | exact Nat.or_lt_two_pow hgb2 (mEnds_lt hfs hsn i)) _ (lv_sub hl [0, 2, 3, 4, 5, 6, 7, 8] rfl)
                  · have hnx := c_6
                    refine lv_iload_n hx hb dX1_groupOf_74 rfl (lv_at hl 5 rfl) ?_
                    refine lv_iload hx hb dX1_groupOf_75 (lv_at hl 0 rfl) ?_
                    refine lv_iand hx hb dX1_groupOf_77 ?_
                    refine kr_top (y := (nI (g2 &&& mEnds fs sn i))) (fa_and _ _) ?_
                    refine kb_eq0 (tgt := 86) hx hb dX1_groupOf_78 (by decide) (by exact Nat.lt_of_le_of_lt Nat.and_le_left (by omega)) (fun c_7 => ?_) (fun c_7 => ?_)
                    · have hst : gStep fs sn op x g2 i = g2 := by unfold gStep; rw [if_neg (fun z => z.2.2 c_7)]
                      refine lv_iinc (k := 1) (v := (nI (i + 1))) (lv' := [(7, .int (nI (i + 1))), (8, .int (nI (mEnds fs sn i))), (6, .int (nI g)), (5, .int (nI rd)), (4, .int (bI tt)), (3, .int (nI g2)), (0, .ref hL), (1, .int (nI h)), (2, .int x)]) hx hb dX1_groupOf_86 hl rfl (kn_inc i) (by decide) rfl (fun ls hl => ?_)
                      refine lv_goto (tgt := 28) hx hb dX1_groupOf_89 (by decide) ?_
                      exact ih28 (i + 1) g2 (by omega) (by omega) (by show _ = gStep fs sn op x (gPass fs sn op x g i) i; rw [← hg2, hst]) (by first | exact hgb2 | exact Nat.or_lt_two_pow hgb2 (mEnds_lt hfs hsn i)) _ (lv_sub hl [0, 2, 3, 4, 5, 6, 7, 8] rfl)
                    · have hst : gStep fs sn op x g2 i = g2 ||| mEnds fs sn i := by unfold gStep; rw [if_pos ⟨ho, hnx, Nat.ne_of_gt c_7⟩]
                      refine lv_iload_n hx hb dX1_groupOf_81 rfl (lv_at hl 5 rfl) ?_
                      refine lv_iload hx hb dX1_groupOf_82 (lv_at hl 0 rfl) ?_
                      refine lv_ior hx hb dX1_groupOf_84 ?_
                      refine kr_top (y := (nI (g2 ||| mEnds fs sn i))) (fa_or _ _) ?_
                      refine lv_istore_n (lv' := [(3, .int (nI (g2 ||| mEnds fs sn i))), (8, .int (nI (mEnds fs sn i))), (7, .int (nI i)), (6, .int (nI g)), (5, .int (nI rd)), (4, .int (bI tt)), (0, .ref hL), (1, .int (nI h)), (2, .int x)]) hx hb dX1_groupOf_85 rfl hl (by decide) rfl (fun ls hl => ?_)
                      refine lv_iinc (k := 2) (v := (nI (i + 1))) (lv' := [(7, .int (nI (i + 1))), (3, .int (nI (g2 ||| mEnds fs sn i))), (8, .int (nI (mEnds fs sn i))), (6, .int (nI g)), (5, .int (nI rd)), (4, .int (bI tt)), (0, .ref hL), (1, .int (nI h)), (2, .int x)]) hx hb dX1_groupOf_86 hl rfl (kn_inc i) (by decide) rfl (fun ls hl => ?_)
                      refine lv_goto (tgt := 28) hx hb dX1_groupOf_89 (by decide) ?_
                      exact ih28 (i + 1) (g2 ||| mEnds fs sn i) (by omega) (by omega) (by show _ = gStep fs sn op x (gPass fs sn op x g i) i; rw [← hg2, hst]) (by first | exact hgb2 | exact Nat.or_lt_two_pow hgb2 (mEnds_lt hfs hsn i)) _ (lv_sub hl [0, 3, 4, 5, 1, 6, 7, 8] rfl)
          exact hc_28 (_ + 1) 0 g (Nat.lt_succ_self _) (by omega) (by rfl) (by exact hgb) _ (lv_sub hl [0, 1, 2, 3, 4, 5, 6, 7] rfl)
  exact hc_10 (_ + 1) 0 true (2 ^ h) (Nat.lt_succ_self _) (by omega) (by rfl) (by exact mTwo_lt hh) (by intro q; cases q) _ (lv_sub hl [0, 1, 2, 3, 4, 5] rfl)

theorem kX1_joinedPairs_0 : Cond.fieldLink RX1 28 "PassNotes$Land" "huts" "I" ∈ wsX1_joinedPairs := by decide +kernel
theorem kX1_joinedPairs_1 : ∀ w ∈ wsX10, w ∈ wsX1_joinedPairs := by decide +kernel
set_option maxHeartbeats 4000000 in
set_option maxRecDepth 100000 in
theorem c_X1_joinedPairs (l : Launch) (G : kG) (hL a0 a1 a2 a3 a4 : Nat) (nh np : Nat) (fs sn : Nat → Nat) (op : Nat → Bool) (x : Int32) (hfs : ∀ j, fs j < 10) (hsn : ∀ j, sn j < 10) (hnh : nh ≤ 10) (hnp : np ≤ 20) : Met l yX1_joinedPairs wsX1_joinedPairs ({ frames := 1, cells := 0, slots := 0, locals := 28 }) (kPre G [(hL, .inr (1, [.ref a0, .ref a1, .ref a2, .ref a3, .ref a4, .int (nI nh), .int (nI np)])), (a1, .inl (G.2 0, 20, .inl (kI fs))), (a2, .inl (G.2 0, 20, .inl (kI sn))), (a4, .inl (G.2 1, 20, .inl (kB op)))] [.ref hL, .int x]) (vp_Si (fun r : Int32 => r = (nI ((jAll fs sn op x np nh).1)))) 0 0 (fun _ => False) := by
  refine Met.ofW (cc := cX1_joinedPairs) (maxL := 7) (ret := (some .int)) (by decide) rfl ?_
  intro p e s m args below meth c s₁ B hml hv
  obtain ⟨rfl, hP, hK⟩ := hv
  have hx := B.exec
  have hb := B.bytes
  have hr := B.returns
  have hts := atoms_spec (ws := wsX1_joinedPairs) B.pre
  have hown : s.vm.findClass RX1 = some m.cls := findClass_of_methodNamed B.named
  have hlocks := B.notSynchronized
  have hK : va_K G.1 vwCl (kT G) s := hK
  have hP : va_P G.1 vwCl [(hL, .inr (1, [.ref a0, .ref a1, .ref a2, .ref a3, .ref a4, .int (nI nh), .int (nI np)])), (a1, .inl (G.2 0, 20, .inl (kI fs))), (a2, .inl (G.2 0, 20, .inl (kI sn))), (a4, .inl (G.2 1, 20, .inl (kB op)))] s.heap := hP
  have hl := lv_entry ([.ref hL, .int x]) (n := 7) (Nat.le_of_ble_eq_true rfl)
  rw [lg_entry_eq]
  generalize (lg_sl ([.ref hL, .int x]) ++ List.replicate (7 - (lg_sl ([.ref hL, .int x])).length) Slot.unset).toArray = ls at hl ⊢
  have hl : lv_has ls 7 [(0, .ref hL), (1, .int x)] := hl
  refine lv_iconst (v := (nI 0)) hx hb dX1_joinedPairs_0 (by decide) ?_
  refine lv_istore_n (lv' := [(2, .int (nI 0)), (0, .ref hL), (1, .int x)]) hx hb dX1_joinedPairs_1 rfl hl (by decide) rfl (fun ls hl => ?_)
  refine lv_iconst (v := (nI 0)) hx hb dX1_joinedPairs_2 (by decide) ?_
  refine lv_istore_n (lv' := [(3, .int (nI 0)), (2, .int (nI 0)), (0, .ref hL), (1, .int x)]) hx hb dX1_joinedPairs_3 rfl hl (by decide) rfl (fun ls hl => ?_)
  refine lv_iconst (v := (nI 0)) hx hb dX1_joinedPairs_4 (by decide) ?_
  refine lv_istore (lv' := [(4, .int (nI 0)), (3, .int (nI 0)), (2, .int (nI 0)), (0, .ref hL), (1, .int x)]) hx hb dX1_joinedPairs_5 hl (by decide) rfl (fun ls hl => ?_)
  have hc_7 : ∀ (n : Nat) (i k z : Nat), nh - i < n → i ≤ nh → (k, z) = jAll fs sn op x np i → z < 2 ^ 10 → ∀ (ls : Array Slot), lv_has ls 7 [(4, .int (nI i)), (3, .int (nI z)), (2, .int (nI k)), (0, .ref hL), (1, .int x)] → W p l e (headSpec wsX1_joinedPairs ({ frames := 1, cells := 0, slots := 0, locals := 28 })).room s m [.ref hL, .int x].toArray below meth c s.heap [] 0 0 (MQ below (vp_Si (fun r : Int32 => r = (nI ((jAll fs sn op x np nh).1)))) [.ref hL, .int x].toArray s 0 0 (fun _ => False)) (F0 m 7 ls []) := by
    intro n
    induction n with
    | zero =>
      intro i k z hmz; exact absurd hmz (Nat.not_lt_zero _)
    | succ n ih7 =>
      intro i k z hmz hi hk hz ls hl
      refine lv_iload hx hb dX1_joinedPairs_7 (lv_at hl 0 rfl) ?_
      refine lv_aload_n hx hb dX1_joinedPairs_9 rfl (lv_at hl 3 rfl) ?_
      refine va_get (D := G.1) (ci := 1) (v := .int (nI nh)) (C := RX1) (T := TX1) (N := 7) hx hb hts kX1_joinedPairs_1 hown hK hP 0 rfl rfl 5 (by decide) (hts _ kX1_joinedPairs_0) (fun _ h9 => h9) rfl dX1_joinedPairs_10 ?_
      refine kb_ge (tgt := 62) hx hb dX1_joinedPairs_13 (by decide) (by omega) (by omega) (fun c_1 => ?_) (fun c_1 => ?_)
      · refine lv_iload_n hx hb dX1_joinedPairs_62 rfl (lv_at hl 2 rfl) ?_
        exact kr_iret hx hb hr hlocks (by rw [show nh = i by omega, ← hk]) dX1_joinedPairs_63
      · refine lv_iload_n hx hb dX1_joinedPairs_16 rfl (lv_at hl 1 rfl) ?_
        refine lv_iload hx hb dX1_joinedPairs_17 (lv_at hl 0 rfl) ?_
        refine lv_ishr hx hb dX1_joinedPairs_19 ?_
        refine kr_top (y := (nI (z / 2 ^ i))) (kn_shr (by omega) (by omega)) ?_
        refine lv_iconst (v := (nI 1)) hx hb dX1_joinedPairs_20 (by decide) ?_
        refine lv_iand hx hb dX1_joinedPairs_21 ?_
        refine kr_top (y := (nI (z / 2 ^ i % 2))) (kn_bit _) ?_
        refine kb_ne0 (tgt := 56) hx hb dX1_joinedPairs_22 (by decide) (by omega) (fun c_2 => ?_) (fun c_2 => ?_)
        · have hst : jAll fs sn op x np (i + 1) = (k, z) := by rw [jAll_f (by rw [← hk]; exact c_2), hk]
          refine lv_iinc (k := 0) (v := (nI (i + 1))) (lv' := [(4, .int (nI (i + 1))), (3, .int (nI z)), (2, .int (nI k)), (0, .ref hL), (1, .int x)]) hx hb dX1_joinedPairs_56 hl rfl (kn_inc i) (by decide) rfl (fun ls hl => ?_)
          refine lv_goto (tgt := 7) hx hb dX1_joinedPairs_59 (by decide) ?_
          exact ih7 (i + 1) k z (by omega) (by omega) (by exact hst.symm) (by first | exact hz | exact Nat.or_lt_two_pow hz (gIter_lt hfs hsn (mTwo_lt (by omega)) 10)) _ (lv_sub hl [0, 1, 2, 3, 4] rfl)
        · have hst : jAll fs sn op x np (i + 1) = (k + mPop (gIter fs sn op x np (2 ^ i) 10) * (mPop (gIter fs sn op x np (2 ^ i) 10) - 1), z ||| gIter fs sn op x np (2 ^ i) 10) := by rw [jAll_t (by rw [← hk]; exact c_2), ← hk]
          refine lv_aload_n hx hb dX1_joinedPairs_25 rfl (lv_at hl 3 rfl) ?_
          refine lv_iload hx hb dX1_joinedPairs_26 (lv_at hl 0 rfl) ?_
          refine lv_iload_n hx hb dX1_joinedPairs_28 rfl (lv_at hl 4 rfl) ?_
          refine vp_callSi (W.runV (As := [.int (nI i), .int x]) (rest := []) ⟨hx, hb, hml, hown, hts⟩ (c_X1_groupOf l G hL a0 a1 a2 a3 a4 nh np fs sn op i x hfs hsn (by omega) (by omega)) (cwV 2 hts gX1_joinedPairs_X1_groupOf rfl rfl rfl (by decide +kernel) ⟨Nat.le_of_ble_eq_true rfl, Nat.le_of_ble_eq_true rfl⟩) (kPre_V (ws := [(hL, .inr (1, [.ref a0, .ref a1, .ref a2, .ref a3, .ref a4, .int (nI nh), .int (nI np)])), (a1, .inl (G.2 0, 20, .inl (kI fs))), (a2, .inl (G.2 0, 20, .inl (kI sn))), (a4, .inl (G.2 1, 20, .inl (kB op)))]) hK (hP.sub (ws' := [(hL, .inr (1, [.ref a0, .ref a1, .ref a2, .ref a3, .ref a4, .int (nI nh), .int (nI np)])), (a1, .inl (G.2 0, 20, .inl (kI fs))), (a2, .inl (G.2 0, 20, .inl (kI sn))), (a4, .inl (G.2 1, 20, .inl (kB op)))]) [0, 1, 2, 3] rfl) (RX1, TX1, 7) 0 rfl rfl) rfl rfl hl.1 rfl (lv_room (Nat.le_of_ble_eq_true rfl)) dX1_joinedPairs_29 ⟨Nat.le_of_ble_eq_true rfl, Nat.le_of_ble_eq_true rfl⟩) (fun r_3 hr_3 => ?_)
          subst hr_3
          refine lv_istore (lv' := [(5, .int (nI (gIter fs sn op x np (2 ^ i) 10))), (4, .int (nI i)), (3, .int (nI z)), (2, .int (nI k)), (0, .ref hL), (1, .int x)]) hx hb dX1_joinedPairs_32 hl (by decide) rfl (fun ls hl => ?_)
          refine lv_iload hx hb dX1_joinedPairs_34 (lv_at hl 0 rfl) ?_
          refine vp_callSi (W.runS (As := [.int (nI (gIter fs sn op x np (2 ^ i) 10))]) (rest := []) ⟨hx, hb, hml, hown, hts⟩ (c_J6_bitCount_0f7a4 l G (gIter fs sn op x np (2 ^ i) 10) (gIter_lt hfs hsn (mTwo_lt (by omega)) 10)) (va_cwS 1 hts gX1_joinedPairs_J6_bitCount_0f7a4 rfl rfl rfl (by decide +kernel) ⟨Nat.le_of_ble_eq_true rfl, Nat.le_of_ble_eq_true rfl⟩) (kPre_S (ws := []) hK (hP.sub [] rfl)) rfl rfl hl.1 rfl (lv_room (Nat.le_of_ble_eq_true rfl)) dX1_joinedPairs_36 ⟨Nat.le_of_ble_eq_true rfl, Nat.le_of_ble_eq_true rfl⟩) (fun r_4 hr_4 => ?_)
          subst hr_4
          refine lv_istore (lv' := [(6, .int (nI (mPop (gIter fs sn op x np (2 ^ i) 10)))), (5, .int (nI (gIter fs sn op x np (2 ^ i) 10))), (4, .int (nI i)), (3, .int (nI z)), (2, .int (nI k)), (0, .ref hL), (1, .int x)]) hx hb dX1_joinedPairs_39 hl (by decide) rfl (fun ls hl => ?_)
          refine lv_iload_n hx hb dX1_joinedPairs_41 rfl (lv_at hl 4 rfl) ?_
          refine lv_iload hx hb dX1_joinedPairs_42 (lv_at hl 0 rfl) ?_
          refine lv_iload hx hb dX1_joinedPairs_44 (lv_at hl 0 rfl) ?_
          refine lv_iconst (v := (nI 1)) hx hb dX1_joinedPairs_46 (by decide) ?_
          refine lv_isub hx hb dX1_joinedPairs_47 ?_
          refine kr_top (y := (nI (mPop (gIter fs sn op x np (2 ^ i) 10)) - nI 1)) (rfl) ?_
          refine lv_imul hx hb dX1_joinedPairs_48 ?_
          refine kr_top (y := (nI (mPop (gIter fs sn op x np (2 ^ i) 10) * (mPop (gIter fs sn op x np (2 ^ i) 10) - 1)))) (kn_zz _) ?_
          refine lv_iadd hx hb dX1_joinedPairs_49 ?_
          refine kr_top (y := nI (k + (mPop (gIter fs sn op x np (2 ^ i) 10) * (mPop (gIter fs sn op x np (2 ^ i) 10) - 1)))) (nI_add k (mPop (gIter fs sn op x np (2 ^ i) 10) * (mPop (gIter fs sn op x np (2 ^ i) 10) - 1))) ?_
          refine lv_istore_n (lv' := [(2, .int (nI (k + (mPop (gIter fs sn op x np (2 ^ i) 10) * (mPop (gIter fs sn op x np (2 ^ i) 10) - 1))))), (6, .int (nI (mPop (gIter fs sn op x np (2 ^ i) 10)))), (5, .int (nI (gIter fs sn op x np (2 ^ i) 10))), (4, .int (nI i)), (3, .int (nI z)), (0, .ref hL), (1, .int x)]) hx hb dX1_joinedPairs_50 rfl hl (by decide) rfl (fun ls hl => ?_)
          refine lv_iload_n hx hb dX1_joinedPairs_51 rfl (lv_at hl 4 rfl) ?_
          refine lv_iload hx hb dX1_joinedPairs_52 (lv_at hl 2 rfl) ?_
          refine lv_ior hx hb dX1_joinedPairs_54 ?_
          refine kr_top (y := (nI (z ||| gIter fs sn op x np (2 ^ i) 10))) (fa_or _ _) ?_
          refine lv_istore_n (lv' := [(3, .int (nI (z ||| gIter fs sn op x np (2 ^ i) 10))), (2, .int (nI (k + (mPop (gIter fs sn op x np (2 ^ i) 10) * (mPop (gIter fs sn op x np (2 ^ i) 10) - 1))))), (6, .int (nI (mPop (gIter fs sn op x np (2 ^ i) 10)))), (5, .int (nI (gIter fs sn op x np (2 ^ i) 10))), (4, .int (nI i)), (0, .ref hL), (1, .int x)]) hx hb dX1_joinedPairs_55 rfl hl (by decide) rfl (fun ls hl => ?_)
          refine lv_iinc (k := 4) (v := (nI (i + 1))) (lv' := [(4, .int (nI (i + 1))), (3, .int (nI (z ||| gIter fs sn op x np (2 ^ i) 10))), (2, .int (nI (k + (mPop (gIter fs sn op x np (2 ^ i) 10) * (mPop (gIter fs sn op x np (2 ^ i) 10) - 1))))), (6, .int (nI (mPop (gIter fs sn op x np (2 ^ i) 10)))), (5, .int (nI (gIter fs sn op x np (2 ^ i) 10))), (0, .ref hL), (1, .int x)]) hx hb dX1_joinedPairs_56 hl rfl (kn_inc i) (by decide) rfl (fun ls hl => ?_)
          refine lv_goto (tgt := 7) hx hb dX1_joinedPairs_59 (by decide) ?_
          exact ih7 (i + 1) (k + (mPop (gIter fs sn op x np (2 ^ i) 10) * (mPop (gIter fs sn op x np (2 ^ i) 10) - 1))) (z ||| gIter fs sn op x np (2 ^ i) 10) (by omega) (by omega) (by exact hst.symm) (by first | exact hz | exact Nat.or_lt_two_pow hz (gIter_lt hfs hsn (mTwo_lt (by omega)) 10)) _ (lv_sub hl [0, 1, 2, 5, 6] rfl)
  exact hc_7 (_ + 1) 0 0 0 (Nat.lt_succ_self _) (by omega) (by rfl) (by decide) _ (lv_sub hl [0, 1, 2, 3, 4] rfl)

theorem kX1_draw_0 : Cond.fieldLink RX1 32 "PassNotes$Land" "passes" "I" ∈ wsX1_draw := by decide +kernel
theorem kX1_draw_1 : ∀ w ∈ wsX10, w ∈ wsX1_draw := by decide +kernel
theorem kX1_draw_2 : Cond.fieldLink RX1 24 "PassNotes$Land" "opens" "[Z" ∈ wsX1_draw := by decide +kernel
theorem kX1_draw_3 : Cond.fieldLink RX1 15 "PassNotes$Land" "firsts" "[I" ∈ wsX1_draw := by decide +kernel
theorem kX1_draw_4 : Cond.fieldLink RX1 18 "PassNotes$Land" "seconds" "[I" ∈ wsX1_draw := by decide +kernel
theorem kX1_draw_5 : Cond.fieldLink RX1 21 "PassNotes$Land" "lengths" "[I" ∈ wsX1_draw := by decide +kernel
set_option maxHeartbeats 4000000 in
set_option maxRecDepth 100000 in
theorem c_X1_draw (l : Launch) (G : kG) (sz : Nat) (hL a0 a1 a2 a3 a4 : Nat) (nh np : Nat) (fs sn ln : Nat → Nat) (op : Nat → Bool) (hC f0 f1 f2 k : Nat) (fr to le : Nat → Nat) (hfs : ∀ j, fs j < 10) (hsn : ∀ j, sn j < 10) (hnp : np ≤ 20) : Met l yX1_draw wsX1_draw ({ frames := 1, cells := 0, slots := 0, locals := 23 }) (kPreM G [(hL, .inr (1, [.ref a0, .ref a1, .ref a2, .ref a3, .ref a4, .int (nI nh), .int (nI np)])), (a1, .inl (G.2 0, 20, .inl (kI fs))), (a2, .inl (G.2 0, 20, .inl (kI sn))), (a3, .inl (G.2 0, 20, .inl (kI ln))), (a4, .inl (G.2 1, 20, .inl (kB op))), (hC, .inr (0, [.ref f0, .ref f1, .ref f2, .int (nI k)])), (f0, .inl (G.2 0, 40, .inl (kI fr))), (f1, .inl (G.2 0, 40, .inl (kI to))), (f2, .inl (G.2 0, 40, .inl (kI le)))] sz [.ref hL, .ref hC]) (va_Qv (fun (u : Unit) => True) (fun (u : Unit) t => kA G (va_A [(hL, .inr (1, [.ref a0, .ref a1, .ref a2, .ref a3, .ref a4, .int (nI nh), .int (nI np)])), (a1, .inl (G.2 0, 20, .inl (kI fs))), (a2, .inl (G.2 0, 20, .inl (kI sn))), (a3, .inl (G.2 0, 20, .inl (kI ln))), (a4, .inl (G.2 1, 20, .inl (kB op))), (hC, .inr (0, [.ref f0, .ref f1, .ref f2, .int (nI k)])), (f0, .inl (G.2 0, 40, .inl (kI fr))), (f1, .inl (G.2 0, 40, .inl (kI to))), (f2, .inl (G.2 0, 40, .inl (kI le)))] sz) [(hL, .inr (1, [.ref a0, .ref a1, .ref a2, .ref a3, .ref a4, .int (nI nh), .int (nI np)])), (a1, .inl (G.2 0, 20, .inl (kI fs))), (a2, .inl (G.2 0, 20, .inl (kI sn))), (a3, .inl (G.2 0, 20, .inl (kI ln))), (a4, .inl (G.2 1, 20, .inl (kB op))), (hC, .inr (0, [.ref f0, .ref f1, .ref f2, .int (nI ((mTrue fs sn ln op (0, fr, to, le) np).1))])), (f0, .inl (G.2 0, 40, .inl (kI ((mTrue fs sn ln op (0, fr, to, le) np).2.1)))), (f1, .inl (G.2 0, 40, .inl (kI ((mTrue fs sn ln op (0, fr, to, le) np).2.2.1)))), (f2, .inl (G.2 0, 40, .inl (kI ((mTrue fs sn ln op (0, fr, to, le) np).2.2.2))))] t) (va_A [(hL, .inr (1, [.ref a0, .ref a1, .ref a2, .ref a3, .ref a4, .int (nI nh), .int (nI np)])), (a1, .inl (G.2 0, 20, .inl (kI fs))), (a2, .inl (G.2 0, 20, .inl (kI sn))), (a3, .inl (G.2 0, 20, .inl (kI ln))), (a4, .inl (G.2 1, 20, .inl (kB op))), (hC, .inr (0, [.ref f0, .ref f1, .ref f2, .int (nI k)])), (f0, .inl (G.2 0, 40, .inl (kI fr))), (f1, .inl (G.2 0, 40, .inl (kI to))), (f2, .inl (G.2 0, 40, .inl (kI le)))] sz)) 0 0 (va_A [(hL, .inr (1, [.ref a0, .ref a1, .ref a2, .ref a3, .ref a4, .int (nI nh), .int (nI np)])), (a1, .inl (G.2 0, 20, .inl (kI fs))), (a2, .inl (G.2 0, 20, .inl (kI sn))), (a3, .inl (G.2 0, 20, .inl (kI ln))), (a4, .inl (G.2 1, 20, .inl (kB op))), (hC, .inr (0, [.ref f0, .ref f1, .ref f2, .int (nI k)])), (f0, .inl (G.2 0, 40, .inl (kI fr))), (f1, .inl (G.2 0, 40, .inl (kI to))), (f2, .inl (G.2 0, 40, .inl (kI le)))] sz) := by
  refine Met.ofW (cc := cX1_draw) (maxL := 3) (ret := none) (by decide) rfl ?_
  intro p e s m args below meth c s₁ B hml hv
  obtain ⟨rfl, hsz, hP, hK, hD0⟩ := hv
  have hx := B.exec
  have hb := B.bytes
  have hr := B.returns
  have hts := atoms_spec (ws := wsX1_draw) B.pre
  have hown : s.vm.findClass RX1 = some m.cls := findClass_of_methodNamed B.named
  have hlocks := B.notSynchronized
  have hK : va_K G.1 vwCl (kT G) s := hK
  subst hsz
  have hD := hD0.self (sz := s.heap.size)
  generalize hAe : va_A [(hL, .inr (1, [.ref a0, .ref a1, .ref a2, .ref a3, .ref a4, .int (nI nh), .int (nI np)])), (a1, .inl (G.2 0, 20, .inl (kI fs))), (a2, .inl (G.2 0, 20, .inl (kI sn))), (a3, .inl (G.2 0, 20, .inl (kI ln))), (a4, .inl (G.2 1, 20, .inl (kB op))), (hC, .inr (0, [.ref f0, .ref f1, .ref f2, .int (nI k)])), (f0, .inl (G.2 0, 40, .inl (kI fr))), (f1, .inl (G.2 0, 40, .inl (kI to))), (f2, .inl (G.2 0, 40, .inl (kI le)))] s.heap.size = A at hD ⊢
  have hA : ∀ q : Nat, s.heap.size ≤ q → A q := fun q h => by rw [← hAe]; exact Or.inr h
  have hS : va_S A s.heap s.heap [] := va_S.rf
  have hP : va_P G.1 vwCl [(hL, .inr (1, [.ref a0, .ref a1, .ref a2, .ref a3, .ref a4, .int (nI nh), .int (nI np)])), (a1, .inl (G.2 0, 20, .inl (kI fs))), (a2, .inl (G.2 0, 20, .inl (kI sn))), (a3, .inl (G.2 0, 20, .inl (kI ln))), (a4, .inl (G.2 1, 20, .inl (kB op))), (hC, .inr (0, [.ref f0, .ref f1, .ref f2, .int (nI k)])), (f0, .inl (G.2 0, 40, .inl (kI fr))), (f1, .inl (G.2 0, 40, .inl (kI to))), (f2, .inl (G.2 0, 40, .inl (kI le)))] s.heap := hP
  have hl := lv_entry ([.ref hL, .ref hC]) (n := 3) (Nat.le_of_ble_eq_true rfl)
  rw [lg_entry_eq]
  generalize (lg_sl ([.ref hL, .ref hC]) ++ List.replicate (3 - (lg_sl ([.ref hL, .ref hC])).length) Slot.unset).toArray = ls at hl ⊢
  have hl : lv_has ls 3 [(0, .ref hL), (1, .ref hC)] := hl
  refine lv_aload_n hx hb dX1_draw_0 rfl (lv_at hl 1 rfl) ?_
  have hPc := hP.sub (ws' := [(hC, .inr (0, [.ref f0, .ref f1, .ref f2, .int (nI k)]))]) [5] rfl
  have hDc := hD.sub (ws' := [(hC, .inr (0, [.ref f0, .ref f1, .ref f2, .int (nI k)]))]) [5] (by decide) rfl
  have hFc := va_free (wc := [(hC, .inr (0, [.ref f0, .ref f1, .ref f2, .int (nI k)]))]) hD hS hA [5] rfl
  refine va_callv (va_runV (As := []) (rest := []) ⟨hx, hb, hml, hown, hts⟩ (c_X0_clear l G _ hC f0 f1 f2 k ) (cwV 0 hts gX1_draw_X0_clear rfl rfl rfl (by decide +kernel) ⟨Nat.le_of_ble_eq_true rfl, Nat.le_of_ble_eq_true rfl⟩) (kPreM_V (ws := [(hC, .inr (0, [.ref f0, .ref f1, .ref f2, .int (nI k)]))]) hK hPc hDc (RX0, TX0, 4) 0 rfl rfl) rfl rfl hl.1 rfl (lv_room (Nat.le_of_ble_eq_true rfl)) dX1_draw_1 ⟨Nat.le_of_ble_eq_true rfl, Nat.le_of_ble_eq_true rfl⟩) hS (fun q _ h => hFc q h) hFc (fun u t H1 locs ht hvm hw hB hz1 hk1 hS => ?_)
  obtain ⟨hP1, hD1⟩ := hB
  rw [ht] at hP1
  try dsimp only at hw hP1 hD1
  obtain ⟨hP, hD⟩ := va_join (wr := [(hL, .inr (1, [.ref a0, .ref a1, .ref a2, .ref a3, .ref a4, .int (nI nh), .int (nI np)])), (a1, .inl (G.2 0, 20, .inl (kI fs))), (a2, .inl (G.2 0, 20, .inl (kI sn))), (a3, .inl (G.2 0, 20, .inl (kI ln))), (a4, .inl (G.2 1, 20, .inl (kB op))), (f0, .inl (G.2 0, 40, .inl (kI fr))), (f1, .inl (G.2 0, 40, .inl (kI to))), (f2, .inl (G.2 0, 40, .inl (kI le)))]) (w1 := [(hC, .inr (0, [.ref f0, .ref f1, .ref f2, .int (nI 0)]))]) hP hD [5] [0, 1, 2, 3, 4, 6, 7, 8] rfl rfl (by decide) (by decide) hk1 hFc hP1 hD1
  clear hPc hDc hFc hP1 hD1 hk1 hz1 ht
  skip
  generalize H1 = H at hP hS ⊢
  have hP : va_P G.1 vwCl [(hL, .inr (1, [.ref a0, .ref a1, .ref a2, .ref a3, .ref a4, .int (nI nh), .int (nI np)])), (a1, .inl (G.2 0, 20, .inl (kI fs))), (a2, .inl (G.2 0, 20, .inl (kI sn))), (a3, .inl (G.2 0, 20, .inl (kI ln))), (a4, .inl (G.2 1, 20, .inl (kB op))), (f0, .inl (G.2 0, 40, .inl (kI fr))), (f1, .inl (G.2 0, 40, .inl (kI to))), (f2, .inl (G.2 0, 40, .inl (kI le))), (hC, .inr (0, [.ref f0, .ref f1, .ref f2, .int (nI 0)]))] H := hP
  have hD : va_D A [(hL, .inr (1, [.ref a0, .ref a1, .ref a2, .ref a3, .ref a4, .int (nI nh), .int (nI np)])), (a1, .inl (G.2 0, 20, .inl (kI fs))), (a2, .inl (G.2 0, 20, .inl (kI sn))), (a3, .inl (G.2 0, 20, .inl (kI ln))), (a4, .inl (G.2 1, 20, .inl (kB op))), (f0, .inl (G.2 0, 40, .inl (kI fr))), (f1, .inl (G.2 0, 40, .inl (kI to))), (f2, .inl (G.2 0, 40, .inl (kI le))), (hC, .inr (0, [.ref f0, .ref f1, .ref f2, .int (nI 0)]))] := hD
  refine W.widen (k := 0) (n := 0) (Nat.le_refl _) (Nat.le_refl _) ?_
  have hw_2 := hw
  refine lv_iconst (v := (nI 0)) hx hb dX1_draw_4 (by decide) ?_
  refine lv_istore_n (lv' := [(2, .int (nI 0)), (0, .ref hL), (1, .ref hC)]) hx hb dX1_draw_5 rfl hl (by decide) rfl (fun ls hl => ?_)
  have hc_6 : ∀ (n : Nat) (i : Nat) (ch : mC), np - i < n → i ≤ np → ch = mTrue fs sn ln op (0, fr, to, le) i → ∀ (H : Heap) (locs : List Loc), va_P G.1 vwCl [(hL, .inr (1, [.ref a0, .ref a1, .ref a2, .ref a3, .ref a4, .int (nI nh), .int (nI np)])), (a1, .inl (G.2 0, 20, .inl (kI fs))), (a2, .inl (G.2 0, 20, .inl (kI sn))), (a3, .inl (G.2 0, 20, .inl (kI ln))), (a4, .inl (G.2 1, 20, .inl (kB op))), (f0, .inl (G.2 0, 40, .inl (kI ch.2.1))), (f1, .inl (G.2 0, 40, .inl (kI ch.2.2.1))), (f2, .inl (G.2 0, 40, .inl (kI ch.2.2.2))), (hC, .inr (0, [.ref f0, .ref f1, .ref f2, .int (nI ch.1)]))] H → va_D A [(hL, .inr (1, [.ref a0, .ref a1, .ref a2, .ref a3, .ref a4, .int (nI nh), .int (nI np)])), (a1, .inl (G.2 0, 20, .inl (kI fs))), (a2, .inl (G.2 0, 20, .inl (kI sn))), (a3, .inl (G.2 0, 20, .inl (kI ln))), (a4, .inl (G.2 1, 20, .inl (kB op))), (f0, .inl (G.2 0, 40, .inl (kI ch.2.1))), (f1, .inl (G.2 0, 40, .inl (kI ch.2.2.1))), (f2, .inl (G.2 0, 40, .inl (kI ch.2.2.2))), (hC, .inr (0, [.ref f0, .ref f1, .ref f2, .int (nI ch.1)]))] → va_S A s.heap H locs → ∀ (ls : Array Slot), lv_has ls 3 [(2, .int (nI i)), (0, .ref hL), (1, .ref hC)] → W p l e (headSpec wsX1_draw ({ frames := 1, cells := 0, slots := 0, locals := 23 })).room s m [.ref hL, .ref hC].toArray below meth c H locs 0 0 (MQ below (va_Qv (fun (u : Unit) => True) (fun (u : Unit) t => kA G A [(hL, .inr (1, [.ref a0, .ref a1, .ref a2, .ref a3, .ref a4, .int (nI nh), .int (nI np)])), (a1, .inl (G.2 0, 20, .inl (kI fs))), (a2, .inl (G.2 0, 20, .inl (kI sn))), (a3, .inl (G.2 0, 20, .inl (kI ln))), (a4, .inl (G.2 1, 20, .inl (kB op))), (hC, .inr (0, [.ref f0, .ref f1, .ref f2, .int (nI ((mTrue fs sn ln op (0, fr, to, le) np).1))])), (f0, .inl (G.2 0, 40, .inl (kI ((mTrue fs sn ln op (0, fr, to, le) np).2.1)))), (f1, .inl (G.2 0, 40, .inl (kI ((mTrue fs sn ln op (0, fr, to, le) np).2.2.1)))), (f2, .inl (G.2 0, 40, .inl (kI ((mTrue fs sn ln op (0, fr, to, le) np).2.2.2))))] t) A) [.ref hL, .ref hC].toArray s 0 0 A) (F0 m 6 ls []) := by
    intro n
    induction n with
    | zero =>
      intro i ch hmz; exact absurd hmz (Nat.not_lt_zero _)
    | succ n ih6 =>
      intro i ch hmz hi hch H locs hP hD hS ls hl
      refine lv_iload_n hx hb dX1_draw_6 rfl (lv_at hl 0 rfl) ?_
      refine lv_aload_n hx hb dX1_draw_7 rfl (lv_at hl 1 rfl) ?_
      refine va_get (D := G.1) (ci := 1) (v := .int (nI np)) (C := RX1) (T := TX1) (N := 7) hx hb hts kX1_draw_1 hown hK hP 0 rfl rfl 6 (by decide) (hts _ kX1_draw_0) (fun _ h9 => h9) rfl dX1_draw_8 ?_
      refine kb_ge (tgt := 73) hx hb dX1_draw_11 (by decide) (by omega) (by omega) (fun c_3 => ?_) (fun c_3 => ?_)
      · obtain rfl : np = i := by omega
        subst hch
        have hP9 := hP.sub (ws' := [(hL, .inr (1, [.ref a0, .ref a1, .ref a2, .ref a3, .ref a4, .int (nI nh), .int (nI np)])), (a1, .inl (G.2 0, 20, .inl (kI fs))), (a2, .inl (G.2 0, 20, .inl (kI sn))), (a3, .inl (G.2 0, 20, .inl (kI ln))), (a4, .inl (G.2 1, 20, .inl (kB op))), (hC, .inr (0, [.ref f0, .ref f1, .ref f2, .int (nI ((mTrue fs sn ln op (0, fr, to, le) np).1))])), (f0, .inl (G.2 0, 40, .inl (kI ((mTrue fs sn ln op (0, fr, to, le) np).2.1)))), (f1, .inl (G.2 0, 40, .inl (kI ((mTrue fs sn ln op (0, fr, to, le) np).2.2.1)))), (f2, .inl (G.2 0, 40, .inl (kI ((mTrue fs sn ln op (0, fr, to, le) np).2.2.2))))]) [0, 1, 2, 3, 4, 8, 5, 6, 7] rfl
        have hD9 := hD.sub (ws' := [(hL, .inr (1, [.ref a0, .ref a1, .ref a2, .ref a3, .ref a4, .int (nI nh), .int (nI np)])), (a1, .inl (G.2 0, 20, .inl (kI fs))), (a2, .inl (G.2 0, 20, .inl (kI sn))), (a3, .inl (G.2 0, 20, .inl (kI ln))), (a4, .inl (G.2 1, 20, .inl (kB op))), (hC, .inr (0, [.ref f0, .ref f1, .ref f2, .int (nI ((mTrue fs sn ln op (0, fr, to, le) np).1))])), (f0, .inl (G.2 0, 40, .inl (kI ((mTrue fs sn ln op (0, fr, to, le) np).2.1)))), (f1, .inl (G.2 0, 40, .inl (kI ((mTrue fs sn ln op (0, fr, to, le) np).2.2.1)))), (f2, .inl (G.2 0, 40, .inl (kI ((mTrue fs sn ln op (0, fr, to, le) np).2.2.2))))]) [0, 1, 2, 3, 4, 8, 5, 6, 7] (by decide) rfl
        exact km_vret (post := fun (u : Unit) => True) (wo := fun (u : Unit) => [(hL, .inr (1, [.ref a0, .ref a1, .ref a2, .ref a3, .ref a4, .int (nI nh), .int (nI np)])), (a1, .inl (G.2 0, 20, .inl (kI fs))), (a2, .inl (G.2 0, 20, .inl (kI sn))), (a3, .inl (G.2 0, 20, .inl (kI ln))), (a4, .inl (G.2 1, 20, .inl (kB op))), (hC, .inr (0, [.ref f0, .ref f1, .ref f2, .int (nI ((mTrue fs sn ln op (0, fr, to, le) np).1))])), (f0, .inl (G.2 0, 40, .inl (kI ((mTrue fs sn ln op (0, fr, to, le) np).2.1)))), (f1, .inl (G.2 0, 40, .inl (kI ((mTrue fs sn ln op (0, fr, to, le) np).2.2.1)))), (f2, .inl (G.2 0, 40, .inl (kI ((mTrue fs sn ln op (0, fr, to, le) np).2.2.2))))]) () hx hb hr hlocks hS hP9 hD9 (trivial) dX1_draw_73
      · refine lv_aload_n hx hb dX1_draw_14 rfl (lv_at hl 1 rfl) ?_
        refine va_get (D := G.1) (ci := 1) (v := .ref a4) (C := RX1) (T := TX1) (N := 7) hx hb hts kX1_draw_1 hown hK hP 0 rfl rfl 4 (by decide) (hts _ kX1_draw_2) (fun _ h9 => h9) rfl dX1_draw_15 ?_
        refine lv_iload_n hx hb dX1_draw_18 rfl (lv_at hl 0 rfl) ?_
        refine kr_zald (k := i) (v := (bI (op i))) hx hb hK hP 4 1 rfl rfl (by omega) (by decide) rfl dX1_draw_19 ?_
        refine kb_eqb (tgt := 67) hx hb dX1_draw_20 (by decide) (fun c_4 => ?_) (fun c_4 => ?_)
        · have hst := c_4
          refine lv_iinc (k := 0) (v := (nI (i + 1))) (lv' := [(2, .int (nI (i + 1))), (0, .ref hL), (1, .ref hC)]) hx hb dX1_draw_67 hl rfl (kn_inc i) (by decide) rfl (fun ls hl => ?_)
          refine lv_goto (tgt := 6) hx hb dX1_draw_70 (by decide) ?_
          exact ih6 (i + 1) ch (by omega) (by omega) (by show _ = mTrue1 fs sn ln op (mTrue fs sn ln op (0, fr, to, le) i) i; rw [← hch]; unfold mTrue1; rw [hst]; rfl) _ _ hP hD hS _ (lv_sub hl [0, 1, 2] rfl)
        · have hst := c_4
          have hcl : ch.1 ≤ 2 * i := by rw [hch]; exact mTrue_le rfl i
          refine lv_aload_n hx hb dX1_draw_23 rfl (lv_at hl 2 rfl) ?_
          refine lv_aload_n hx hb dX1_draw_24 rfl (lv_at hl 1 rfl) ?_
          refine va_get (D := G.1) (ci := 1) (v := .ref a1) (C := RX1) (T := TX1) (N := 7) hx hb hts kX1_draw_1 hown hK hP 0 rfl rfl 1 (by decide) (hts _ kX1_draw_3) (fun _ h9 => h9) rfl dX1_draw_25 ?_
          refine lv_iload_n hx hb dX1_draw_28 rfl (lv_at hl 0 rfl) ?_
          refine kr_iald (k := i) (v := (nI (fs i))) hx hb hK hP 1 0 rfl rfl (by omega) (by decide) rfl dX1_draw_29 ?_
          refine lv_aload_n hx hb dX1_draw_30 rfl (lv_at hl 1 rfl) ?_
          refine va_get (D := G.1) (ci := 1) (v := .ref a2) (C := RX1) (T := TX1) (N := 7) hx hb hts kX1_draw_1 hown hK hP 0 rfl rfl 2 (by decide) (hts _ kX1_draw_4) (fun _ h9 => h9) rfl dX1_draw_31 ?_
          refine lv_iload_n hx hb dX1_draw_34 rfl (lv_at hl 0 rfl) ?_
          refine kr_iald (k := i) (v := (nI (sn i))) hx hb hK hP 2 0 rfl rfl (by omega) (by decide) rfl dX1_draw_35 ?_
          refine lv_aload_n hx hb dX1_draw_36 rfl (lv_at hl 1 rfl) ?_
          refine va_get (D := G.1) (ci := 1) (v := .ref a3) (C := RX1) (T := TX1) (N := 7) hx hb hts kX1_draw_1 hown hK hP 0 rfl rfl 3 (by decide) (hts _ kX1_draw_5) (fun _ h9 => h9) rfl dX1_draw_37 ?_
          refine lv_iload_n hx hb dX1_draw_40 rfl (lv_at hl 0 rfl) ?_
          refine kr_iald (k := i) (v := (nI (ln i))) hx hb hK hP 3 0 rfl rfl (by omega) (by decide) rfl dX1_draw_41 ?_
          have hPc := hP.sub (ws' := [(hC, .inr (0, [.ref f0, .ref f1, .ref f2, .int (nI ch.1)])), (f0, .inl (G.2 0, 40, .inl (kI ch.2.1))), (f1, .inl (G.2 0, 40, .inl (kI ch.2.2.1))), (f2, .inl (G.2 0, 40, .inl (kI ch.2.2.2)))]) [8, 5, 6, 7] rfl
          have hDc := hD.sub (ws' := [(hC, .inr (0, [.ref f0, .ref f1, .ref f2, .int (nI ch.1)])), (f0, .inl (G.2 0, 40, .inl (kI ch.2.1))), (f1, .inl (G.2 0, 40, .inl (kI ch.2.2.1))), (f2, .inl (G.2 0, 40, .inl (kI ch.2.2.2)))]) [8, 5, 6, 7] (by decide) rfl
          have hFc := va_free (wc := [(hC, .inr (0, [.ref f0, .ref f1, .ref f2, .int (nI ch.1)])), (f0, .inl (G.2 0, 40, .inl (kI ch.2.1))), (f1, .inl (G.2 0, 40, .inl (kI ch.2.2.1))), (f2, .inl (G.2 0, 40, .inl (kI ch.2.2.2)))]) hD hS hA [8, 5, 6, 7] rfl
          refine va_callv (va_runV (As := [.int (nI (fs i)), .int (nI (sn i)), .int (nI (ln i))]) (rest := []) ⟨hx, hb, hml, hown, hts⟩ (c_X0_addStep l G _ hC f0 f1 f2 ch.1 ch.2.1 ch.2.2.1 ch.2.2.2 (fs i) (sn i) (ln i) (by omega)) (cwV 3 hts gX1_draw_X0_addStep rfl rfl rfl (by decide +kernel) ⟨Nat.le_of_ble_eq_true rfl, Nat.le_of_ble_eq_true rfl⟩) (kPreM_V (ws := [(hC, .inr (0, [.ref f0, .ref f1, .ref f2, .int (nI ch.1)])), (f0, .inl (G.2 0, 40, .inl (kI ch.2.1))), (f1, .inl (G.2 0, 40, .inl (kI ch.2.2.1))), (f2, .inl (G.2 0, 40, .inl (kI ch.2.2.2)))]) hK hPc hDc (RX0, TX0, 4) 0 rfl rfl) rfl rfl hl.1 rfl (lv_room (Nat.le_of_ble_eq_true rfl)) dX1_draw_42 ⟨Nat.le_of_ble_eq_true rfl, Nat.le_of_ble_eq_true rfl⟩) hS (fun q _ h => hFc q h) hFc (fun u t H1 locs ht hvm hw hB hz1 hk1 hS => ?_)
          obtain ⟨hP1, hD1⟩ := hB
          rw [ht] at hP1
          try dsimp only at hw hP1 hD1
          obtain ⟨hP, hD⟩ := va_join (wr := [(hL, .inr (1, [.ref a0, .ref a1, .ref a2, .ref a3, .ref a4, .int (nI nh), .int (nI np)])), (a1, .inl (G.2 0, 20, .inl (kI fs))), (a2, .inl (G.2 0, 20, .inl (kI sn))), (a3, .inl (G.2 0, 20, .inl (kI ln))), (a4, .inl (G.2 1, 20, .inl (kB op)))]) (w1 := [(hC, .inr (0, [.ref f0, .ref f1, .ref f2, .int (nI (ch.1 + 1))])), (f0, .inl (G.2 0, 40, .inl (kI (va_up ch.2.1 ch.1 (fs i))))), (f1, .inl (G.2 0, 40, .inl (kI (va_up ch.2.2.1 ch.1 (sn i))))), (f2, .inl (G.2 0, 40, .inl (kI (va_up ch.2.2.2 ch.1 (ln i)))))]) hP hD [8, 5, 6, 7] [0, 1, 2, 3, 4] rfl rfl (by decide) (by decide) hk1 hFc hP1 hD1
          clear hPc hDc hFc hP1 hD1 hk1 hz1 ht
          skip
          generalize H1 = H at hP hS ⊢
          have hP : va_P G.1 vwCl [(hL, .inr (1, [.ref a0, .ref a1, .ref a2, .ref a3, .ref a4, .int (nI nh), .int (nI np)])), (a1, .inl (G.2 0, 20, .inl (kI fs))), (a2, .inl (G.2 0, 20, .inl (kI sn))), (a3, .inl (G.2 0, 20, .inl (kI ln))), (a4, .inl (G.2 1, 20, .inl (kB op))), (hC, .inr (0, [.ref f0, .ref f1, .ref f2, .int (nI (ch.1 + 1))])), (f0, .inl (G.2 0, 40, .inl (kI (va_up ch.2.1 ch.1 (fs i))))), (f1, .inl (G.2 0, 40, .inl (kI (va_up ch.2.2.1 ch.1 (sn i))))), (f2, .inl (G.2 0, 40, .inl (kI (va_up ch.2.2.2 ch.1 (ln i)))))] H := hP
          have hD : va_D A [(hL, .inr (1, [.ref a0, .ref a1, .ref a2, .ref a3, .ref a4, .int (nI nh), .int (nI np)])), (a1, .inl (G.2 0, 20, .inl (kI fs))), (a2, .inl (G.2 0, 20, .inl (kI sn))), (a3, .inl (G.2 0, 20, .inl (kI ln))), (a4, .inl (G.2 1, 20, .inl (kB op))), (hC, .inr (0, [.ref f0, .ref f1, .ref f2, .int (nI (ch.1 + 1))])), (f0, .inl (G.2 0, 40, .inl (kI (va_up ch.2.1 ch.1 (fs i))))), (f1, .inl (G.2 0, 40, .inl (kI (va_up ch.2.2.1 ch.1 (sn i))))), (f2, .inl (G.2 0, 40, .inl (kI (va_up ch.2.2.2 ch.1 (ln i)))))] := hD
          refine W.widen (k := 0) (n := 0) (Nat.le_refl _) (Nat.le_refl _) ?_
          have hw_6 := hw
          refine lv_aload_n hx hb dX1_draw_45 rfl (lv_at hl 2 rfl) ?_
          refine lv_aload_n hx hb dX1_draw_46 rfl (lv_at hl 1 rfl) ?_
          refine va_get (D := G.1) (ci := 1) (v := .ref a2) (C := RX1) (T := TX1) (N := 7) hx hb hts kX1_draw_1 hown hK hP 0 rfl rfl 2 (by decide) (hts _ kX1_draw_4) (fun _ h9 => h9) rfl dX1_draw_47 ?_
          refine lv_iload_n hx hb dX1_draw_50 rfl (lv_at hl 0 rfl) ?_
          refine kr_iald (k := i) (v := (nI (sn i))) hx hb hK hP 2 0 rfl rfl (by omega) (by decide) rfl dX1_draw_51 ?_
          refine lv_aload_n hx hb dX1_draw_52 rfl (lv_at hl 1 rfl) ?_
          refine va_get (D := G.1) (ci := 1) (v := .ref a1) (C := RX1) (T := TX1) (N := 7) hx hb hts kX1_draw_1 hown hK hP 0 rfl rfl 1 (by decide) (hts _ kX1_draw_3) (fun _ h9 => h9) rfl dX1_draw_53 ?_
          refine lv_iload_n hx hb dX1_draw_56 rfl (lv_at hl 0 rfl) ?_
          refine kr_iald (k := i) (v := (nI (fs i))) hx hb hK hP 1 0 rfl rfl (by omega) (by decide) rfl dX1_draw_57 ?_
          refine lv_aload_n hx hb dX1_draw_58 rfl (lv_at hl 1 rfl) ?_
          refine va_get (D := G.1) (ci := 1) (v := .ref a3) (C := RX1) (T := TX1) (N := 7) hx hb hts kX1_draw_1 hown hK hP 0 rfl rfl 3 (by decide) (hts _ kX1_draw_5) (fun _ h9 => h9) rfl dX1_draw_59 ?_
          refine lv_iload_n hx hb dX1_draw_62 rfl (lv_at hl 0 rfl) ?_
          refine kr_iald (k := i) (v := (nI (ln i))) hx hb hK hP 3 0 rfl rfl (by omega) (by decide) rfl dX1_draw_63 ?_
          have hPc := hP.sub (ws' := [(hC, .inr (0, [.ref f0, .ref f1, .ref f2, .int (nI (ch.1 + 1))])), (f0, .inl (G.2 0, 40, .inl (kI (va_up ch.2.1 ch.1 (fs i))))), (f1, .inl (G.2 0, 40, .inl (kI (va_up ch.2.2.1 ch.1 (sn i))))), (f2, .inl (G.2 0, 40, .inl (kI (va_up ch.2.2.2 ch.1 (ln i)))))]) [5, 6, 7, 8] rfl
          have hDc := hD.sub (ws' := [(hC, .inr (0, [.ref f0, .ref f1, .ref f2, .int (nI (ch.1 + 1))])), (f0, .inl (G.2 0, 40, .inl (kI (va_up ch.2.1 ch.1 (fs i))))), (f1, .inl (G.2 0, 40, .inl (kI (va_up ch.2.2.1 ch.1 (sn i))))), (f2, .inl (G.2 0, 40, .inl (kI (va_up ch.2.2.2 ch.1 (ln i)))))]) [5, 6, 7, 8] (by decide) rfl
          have hFc := va_free (wc := [(hC, .inr (0, [.ref f0, .ref f1, .ref f2, .int (nI (ch.1 + 1))])), (f0, .inl (G.2 0, 40, .inl (kI (va_up ch.2.1 ch.1 (fs i))))), (f1, .inl (G.2 0, 40, .inl (kI (va_up ch.2.2.1 ch.1 (sn i))))), (f2, .inl (G.2 0, 40, .inl (kI (va_up ch.2.2.2 ch.1 (ln i)))))]) hD hS hA [5, 6, 7, 8] rfl
          refine va_callv (va_runV (As := [.int (nI (sn i)), .int (nI (fs i)), .int (nI (ln i))]) (rest := []) ⟨hx, hb, hml, hown, hts⟩ (c_X0_addStep l G _ hC f0 f1 f2 (ch.1 + 1) (va_up ch.2.1 ch.1 (fs i)) (va_up ch.2.2.1 ch.1 (sn i)) (va_up ch.2.2.2 ch.1 (ln i)) (sn i) (fs i) (ln i) (by omega)) (cwV 3 hts gX1_draw_X0_addStep rfl rfl rfl (by decide +kernel) ⟨Nat.le_of_ble_eq_true rfl, Nat.le_of_ble_eq_true rfl⟩) (kPreM_V (ws := [(hC, .inr (0, [.ref f0, .ref f1, .ref f2, .int (nI (ch.1 + 1))])), (f0, .inl (G.2 0, 40, .inl (kI (va_up ch.2.1 ch.1 (fs i))))), (f1, .inl (G.2 0, 40, .inl (kI (va_up ch.2.2.1 ch.1 (sn i))))), (f2, .inl (G.2 0, 40, .inl (kI (va_up ch.2.2.2 ch.1 (ln i)))))]) hK hPc hDc (RX0, TX0, 4) 0 rfl rfl) rfl rfl hl.1 rfl (lv_room (Nat.le_of_ble_eq_true rfl)) dX1_draw_64 ⟨Nat.le_of_ble_eq_true rfl, Nat.le_of_ble_eq_true rfl⟩) hS (fun q _ h => hFc q h) hFc (fun u t H1 locs ht hvm hw hB hz1 hk1 hS => ?_)
          obtain ⟨hP1, hD1⟩ := hB
          rw [ht] at hP1
          try dsimp only at hw hP1 hD1
          obtain ⟨hP, hD⟩ := va_join (wr := [(hL, .inr (1, [.ref a0, .ref a1, .ref a2, .ref a3, .ref a4, .int (nI nh), .int (nI np)])), (a1, .inl (G.2 0, 20, .inl (kI fs))), (a2, .inl (G.2 0, 20, .inl (kI sn))), (a3, .inl (G.2 0, 20, .inl (kI ln))), (a4, .inl (G.2 1, 20, .inl (kB op)))]) (w1 := [(hC, .inr (0, [.ref f0, .ref f1, .ref f2, .int (nI ((ch.1 + 1) + 1))])), (f0, .inl (G.2 0, 40, .inl (kI (va_up (va_up ch.2.1 ch.1 (fs i)) (ch.1 + 1) (sn i))))), (f1, .inl (G.2 0, 40, .inl (kI (va_up (va_up ch.2.2.1 ch.1 (sn i)) (ch.1 + 1) (fs i))))), (f2, .inl (G.2 0, 40, .inl (kI (va_up (va_up ch.2.2.2 ch.1 (ln i)) (ch.1 + 1) (ln i)))))]) hP hD [5, 6, 7, 8] [0, 1, 2, 3, 4] rfl rfl (by decide) (by decide) hk1 hFc hP1 hD1
          clear hPc hDc hFc hP1 hD1 hk1 hz1 ht
          skip
          generalize H1 = H at hP hS ⊢
          have hP : va_P G.1 vwCl [(hL, .inr (1, [.ref a0, .ref a1, .ref a2, .ref a3, .ref a4, .int (nI nh), .int (nI np)])), (a1, .inl (G.2 0, 20, .inl (kI fs))), (a2, .inl (G.2 0, 20, .inl (kI sn))), (a3, .inl (G.2 0, 20, .inl (kI ln))), (a4, .inl (G.2 1, 20, .inl (kB op))), (hC, .inr (0, [.ref f0, .ref f1, .ref f2, .int (nI ((ch.1 + 1) + 1))])), (f0, .inl (G.2 0, 40, .inl (kI (va_up (va_up ch.2.1 ch.1 (fs i)) (ch.1 + 1) (sn i))))), (f1, .inl (G.2 0, 40, .inl (kI (va_up (va_up ch.2.2.1 ch.1 (sn i)) (ch.1 + 1) (fs i))))), (f2, .inl (G.2 0, 40, .inl (kI (va_up (va_up ch.2.2.2 ch.1 (ln i)) (ch.1 + 1) (ln i)))))] H := hP
          have hD : va_D A [(hL, .inr (1, [.ref a0, .ref a1, .ref a2, .ref a3, .ref a4, .int (nI nh), .int (nI np)])), (a1, .inl (G.2 0, 20, .inl (kI fs))), (a2, .inl (G.2 0, 20, .inl (kI sn))), (a3, .inl (G.2 0, 20, .inl (kI ln))), (a4, .inl (G.2 1, 20, .inl (kB op))), (hC, .inr (0, [.ref f0, .ref f1, .ref f2, .int (nI ((ch.1 + 1) + 1))])), (f0, .inl (G.2 0, 40, .inl (kI (va_up (va_up ch.2.1 ch.1 (fs i)) (ch.1 + 1) (sn i))))), (f1, .inl (G.2 0, 40, .inl (kI (va_up (va_up ch.2.2.1 ch.1 (sn i)) (ch.1 + 1) (fs i))))), (f2, .inl (G.2 0, 40, .inl (kI (va_up (va_up ch.2.2.2 ch.1 (ln i)) (ch.1 + 1) (ln i)))))] := hD
          refine W.widen (k := 0) (n := 0) (Nat.le_refl _) (Nat.le_refl _) ?_
          have hw_8 := hw
          refine lv_iinc (k := 0) (v := (nI (i + 1))) (lv' := [(2, .int (nI (i + 1))), (0, .ref hL), (1, .ref hC)]) hx hb dX1_draw_67 hl rfl (kn_inc i) (by decide) rfl (fun ls hl => ?_)
          refine lv_goto (tgt := 6) hx hb dX1_draw_70 (by decide) ?_
          have hP := hP.sub (ws' := [(hL, .inr (1, [.ref a0, .ref a1, .ref a2, .ref a3, .ref a4, .int (nI nh), .int (nI np)])), (a1, .inl (G.2 0, 20, .inl (kI fs))), (a2, .inl (G.2 0, 20, .inl (kI sn))), (a3, .inl (G.2 0, 20, .inl (kI ln))), (a4, .inl (G.2 1, 20, .inl (kB op))), (f0, .inl (G.2 0, 40, .inl (kI (va_up (va_up ch.2.1 ch.1 (fs i)) (ch.1 + 1) (sn i))))), (f1, .inl (G.2 0, 40, .inl (kI (va_up (va_up ch.2.2.1 ch.1 (sn i)) (ch.1 + 1) (fs i))))), (f2, .inl (G.2 0, 40, .inl (kI (va_up (va_up ch.2.2.2 ch.1 (ln i)) (ch.1 + 1) (ln i))))), (hC, .inr (0, [.ref f0, .ref f1, .ref f2, .int (nI ((ch.1 + 1) + 1))]))]) [0, 1, 2, 3, 4, 6, 7, 8, 5] rfl
          have hD := hD.sub (ws' := [(hL, .inr (1, [.ref a0, .ref a1, .ref a2, .ref a3, .ref a4, .int (nI nh), .int (nI np)])), (a1, .inl (G.2 0, 20, .inl (kI fs))), (a2, .inl (G.2 0, 20, .inl (kI sn))), (a3, .inl (G.2 0, 20, .inl (kI ln))), (a4, .inl (G.2 1, 20, .inl (kB op))), (f0, .inl (G.2 0, 40, .inl (kI (va_up (va_up ch.2.1 ch.1 (fs i)) (ch.1 + 1) (sn i))))), (f1, .inl (G.2 0, 40, .inl (kI (va_up (va_up ch.2.2.1 ch.1 (sn i)) (ch.1 + 1) (fs i))))), (f2, .inl (G.2 0, 40, .inl (kI (va_up (va_up ch.2.2.2 ch.1 (ln i)) (ch.1 + 1) (ln i))))), (hC, .inr (0, [.ref f0, .ref f1, .ref f2, .int (nI ((ch.1 + 1) + 1))]))]) [0, 1, 2, 3, 4, 6, 7, 8, 5] (by decide) rfl
          exact ih6 (i + 1) (mAdd (mAdd ch (fs i) (sn i) (ln i)) (sn i) (fs i) (ln i)) (by omega) (by omega) (by show _ = mTrue1 fs sn ln op (mTrue fs sn ln op (0, fr, to, le) i) i; rw [← hch]; unfold mTrue1; rw [hst]; rfl) _ _ hP hD hS _ (lv_sub hl [0, 1, 2] rfl)
  exact hc_6 (_ + 1) 0 ((0, fr, to, le) : mC) (Nat.lt_succ_self _) (by omega) (by rfl) _ _ hP hD hS _ (lv_sub hl [0, 1, 2] rfl)
