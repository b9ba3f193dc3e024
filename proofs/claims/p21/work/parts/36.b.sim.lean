theorem kX5_far_0 : Cond.fieldLink RX5 9 "PassNotesLaw$Sim" "areas" "[I" ∈ wsX5_far := by decide +kernel
theorem kX5_far_1 : ∀ w ∈ wsX50, w ∈ wsX5_far := by decide +kernel
theorem kX5_far_2 : Cond.arrayClass .int ∈ wsX5_far := by decide +kernel
theorem kX5_far_3 : Cond.constant RX5 54 (99999999) ∈ wsX5_far := by decide +kernel
theorem kX5_far_4 : Cond.methodLink RX5 59 Lib.Math.min.name ∈ wsX5_far := by decide +kernel
theorem kX5_far_5 : Cond.static Lib.Math.min.name ∈ wsX5_far := by decide +kernel
theorem kX5_far_6 : Cond.initialized "java/lang/Math" ∈ wsX5_far := by decide +kernel
theorem kX5_far_7 : Cond.code Lib.Math.min.name Lib.Math.min.code 2 (some .int) ∈ wsX5_far := by decide +kernel
theorem kX5_far_8 : Cond.fieldLink RX5 25 "PassNotesLaw$Sim" "passes" "[[I" ∈ wsX5_far := by decide +kernel
set_option maxHeartbeats 4000000 in
set_option maxRecDepth 100000 in
theorem c_X5_far (l : Launch) (G : kG) (sz : Nat) (zs za zw zq zp nn np mi : Nat) (L : List Nat) (f : Nat → va_E) (ro : Nat → Nat) (rr : Nat → Nat → Nat) (rp : Nat → Nat) (fs sn ln : Nat → Nat) (op : Nat → Bool) (SS : Nat → Option mS) (ar ww : Nat → Nat) (h to : Nat) (hrw : ∀ i, i < nn → ro i ∈ L ∧ f (ro i) = .inl (G.2 3, nn, .inr (.inr (.inr (.inr (kRn nn (rr i))))))) (hrr : ∀ i j, i < nn → j < nn → zRow G L f (rr i j) mi (SS (i * 10 + j))) (hrp : ∀ i, i < np → rp i ∈ L ∧ f (rp i) = .inl (G.2 0, 4, .inl (kI (zP fs sn ln op i)))) (hn7 : nn ≤ 7) (hnp : np ≤ 20) (hfs : ∀ j, fs j < 10) (hsn : ∀ j, sn j < 10) (hln : ∀ j, ln j < 100) (hen : ∀ j, j < np → fs j < nn ∧ sn j < nn) (hmi : mi < 2 ^ 31) (hh : h < nn) (hto : to < nn) : Met l yX5_far wsX5_far ({ frames := 3, cells := 1, slots := 7, locals := 66 }) (kPreM G ([(zs, .inr (5, [.int (nI mi), .ref za, .ref zw, .ref zq, .ref zp])), (za, .inl (G.2 0, nn, .inl (kI ar))), (zq, .inl (G.2 4, nn, .inr (.inr (.inr (.inr (kRn nn ro)))))), (zp, .inl (G.2 3, np, .inr (.inr (.inr (.inr (kRn np rp))))))] ++ va_pl L f) sz [.ref zs, .int (nI h), .int (nI to)]) (va_Qr (fun (u : Unit) => True) (fun (u : Unit) (ra : Nat) t => kA G (va_A ([(zs, .inr (5, [.int (nI mi), .ref za, .ref zw, .ref zq, .ref zp])), (za, .inl (G.2 0, nn, .inl (kI ar))), (zq, .inl (G.2 4, nn, .inr (.inr (.inr (.inr (kRn nn ro)))))), (zp, .inl (G.2 3, np, .inr (.inr (.inr (.inr (kRn np rp))))))] ++ va_pl L f) sz) ([(zs, .inr (5, [.int (nI mi), .ref za, .ref zw, .ref zq, .ref zp])), (za, .inl (G.2 0, nn, .inl (kI ar))), (zq, .inl (G.2 4, nn, .inr (.inr (.inr (.inr (kRn nn ro)))))), (zp, .inl (G.2 3, np, .inr (.inr (.inr (.inr (kRn np rp)))))), (ra, .inl (G.2 0, nn, .inl (kI (zFar (zStH SS fs sn h) fs sn np nn to))))] ++ va_pl L f) t) (va_A ([(zs, .inr (5, [.int (nI mi), .ref za, .ref zw, .ref zq, .ref zp])), (za, .inl (G.2 0, nn, .inl (kI ar))), (zq, .inl (G.2 4, nn, .inr (.inr (.inr (.inr (kRn nn ro)))))), (zp, .inl (G.2 3, np, .inr (.inr (.inr (.inr (kRn np rp))))))] ++ va_pl L f) sz)) 1 7 (va_A ([(zs, .inr (5, [.int (nI mi), .ref za, .ref zw, .ref zq, .ref zp])), (za, .inl (G.2 0, nn, .inl (kI ar))), (zq, .inl (G.2 4, nn, .inr (.inr (.inr (.inr (kRn nn ro)))))), (zp, .inl (G.2 3, np, .inr (.inr (.inr (.inr (kRn np rp))))))] ++ va_pl L f) sz) := by
  refine Met.ofW (cc := cX5_far) (maxL := 8) (ret := (some (.array .int))) (by decide) rfl ?_
  intro p e s m args below meth c s₁ B hml hv
  obtain ⟨rfl, hsz, hP, hK, hD0⟩ := hv
  have hx := B.exec
  have hb := B.bytes
  have hr := B.returns
  have hts := atoms_spec (ws := wsX5_far) B.pre
  have hown : s.vm.findClass RX5 = some m.cls := findClass_of_methodNamed B.named
  have hlocks := B.notSynchronized
  have hK : va_K G.1 vwCl (kT G) s := hK
  subst hsz
  have hD := hD0.self (sz := s.heap.size)
  generalize hAe : va_A ([(zs, .inr (5, [.int (nI mi), .ref za, .ref zw, .ref zq, .ref zp])), (za, .inl (G.2 0, nn, .inl (kI ar))), (zq, .inl (G.2 4, nn, .inr (.inr (.inr (.inr (kRn nn ro)))))), (zp, .inl (G.2 3, np, .inr (.inr (.inr (.inr (kRn np rp))))))] ++ va_pl L f) s.heap.size = A at hD ⊢
  have hA : ∀ q : Nat, s.heap.size ≤ q → A q := fun q h => by rw [← hAe]; exact Or.inr h
  have hS : va_S A s.heap s.heap [] := va_S.rf
  have hP : va_P G.1 vwCl ([(zs, .inr (5, [.int (nI mi), .ref za, .ref zw, .ref zq, .ref zp])), (za, .inl (G.2 0, nn, .inl (kI ar))), (zq, .inl (G.2 4, nn, .inr (.inr (.inr (.inr (kRn nn ro)))))), (zp, .inl (G.2 3, np, .inr (.inr (.inr (.inr (kRn np rp))))))] ++ va_pl L f) s.heap := hP
  have hl := lv_entry ([.ref zs, .int (nI h), .int (nI to)]) (n := 8) (Nat.le_of_ble_eq_true rfl)
  rw [lg_entry_eq]
  generalize (lg_sl ([.ref zs, .int (nI h), .int (nI to)]) ++ List.replicate (8 - (lg_sl ([.ref zs, .int (nI h), .int (nI to)])).length) Slot.unset).toArray = ls at hl ⊢
  have hl : lv_has ls 8 [(0, .ref zs), (1, .int (nI h)), (2, .int (nI to))] := hl
  refine lv_aload_n hx hb dX5_far_0 rfl (lv_at hl 0 rfl) ?_
  refine va_get (D := G.1) (ci := 5) (v := .ref za) (C := RX5) (T := TX5) (N := 5) hx hb hts kX5_far_1 hown hK hP 0 rfl rfl 1 (by decide) (hts _ kX5_far_0) (fun _ h9 => h9) rfl dX5_far_1 ?_
  refine va_alen (v := nI nn) hx hb hK hP 1 0 rfl rfl rfl dX5_far_4 ?_
  refine kn_newi hx hb (hts _ kX5_far_2) hK hP hD hS hA (by omega) (Nat.le_of_ble_eq_true rfl) (show 0 + nn ≤ 7 from by omega) dX5_far_5 (fun q_1 H hP hD hS => ?_)
  have hP := va_P.swap hP
  have hD := va_D.swap hD
  have hP : va_P G.1 vwCl ([(zs, .inr (5, [.int (nI mi), .ref za, .ref zw, .ref zq, .ref zp])), (za, .inl (G.2 0, nn, .inl (kI ar))), (zq, .inl (G.2 4, nn, .inr (.inr (.inr (.inr (kRn nn ro)))))), (zp, .inl (G.2 3, np, .inr (.inr (.inr (.inr (kRn np rp)))))), (q_1, .inl (G.2 0, nn, .inl (kI (fun _ => 0))))] ++ va_pl L f) H := hP
  have hD : va_D A ([(zs, .inr (5, [.int (nI mi), .ref za, .ref zw, .ref zq, .ref zp])), (za, .inl (G.2 0, nn, .inl (kI ar))), (zq, .inl (G.2 4, nn, .inr (.inr (.inr (.inr (kRn nn ro)))))), (zp, .inl (G.2 3, np, .inr (.inr (.inr (.inr (kRn np rp)))))), (q_1, .inl (G.2 0, nn, .inl (kI (fun _ => 0))))] ++ va_pl L f) := hD
  refine W.widen (k := 1) (n := 0 + nn) (Nat.le_refl _) (Nat.le_refl _) ?_
  refine lv_astore_n (lv' := [(3, .ref q_1), (0, .ref zs), (1, .int (nI h)), (2, .int (nI to))]) hx hb dX5_far_7 rfl hl (by decide) rfl (fun ls hl => ?_)
  refine lv_iconst (v := (nI 0)) hx hb dX5_far_8 (by decide) ?_
  refine lv_istore (lv' := [(4, .int (nI 0)), (3, .ref q_1), (0, .ref zs), (1, .int (nI h)), (2, .int (nI to))]) hx hb dX5_far_9 hl (by decide) rfl (fun ls hl => ?_)
  have hc_11 : ∀ (n : Nat) (k : Nat) (g : Nat → Nat), nn - k < n → k ≤ nn → g = zFil to k → ∀ (H : Heap) (locs : List Loc), va_P G.1 vwCl ([(zs, .inr (5, [.int (nI mi), .ref za, .ref zw, .ref zq, .ref zp])), (za, .inl (G.2 0, nn, .inl (kI ar))), (zq, .inl (G.2 4, nn, .inr (.inr (.inr (.inr (kRn nn ro)))))), (zp, .inl (G.2 3, np, .inr (.inr (.inr (.inr (kRn np rp)))))), (q_1, .inl (G.2 0, nn, .inl (kI g)))] ++ va_pl L f) H → va_D A ([(zs, .inr (5, [.int (nI mi), .ref za, .ref zw, .ref zq, .ref zp])), (za, .inl (G.2 0, nn, .inl (kI ar))), (zq, .inl (G.2 4, nn, .inr (.inr (.inr (.inr (kRn nn ro)))))), (zp, .inl (G.2 3, np, .inr (.inr (.inr (.inr (kRn np rp)))))), (q_1, .inl (G.2 0, nn, .inl (kI g)))] ++ va_pl L f) → va_S A s.heap H locs → ∀ (ls : Array Slot), lv_has ls 8 [(4, .int (nI k)), (3, .ref q_1), (0, .ref zs), (1, .int (nI h)), (2, .int (nI to))] → W p l e (headSpec wsX5_far ({ frames := 3, cells := 1, slots := 7, locals := 66 })).room s m [.ref zs, .int (nI h), .int (nI to)].toArray below meth c H locs 1 (0 + nn) (MQ below (va_Qr (fun (u : Unit) => True) (fun (u : Unit) (ra : Nat) t => kA G A ([(zs, .inr (5, [.int (nI mi), .ref za, .ref zw, .ref zq, .ref zp])), (za, .inl (G.2 0, nn, .inl (kI ar))), (zq, .inl (G.2 4, nn, .inr (.inr (.inr (.inr (kRn nn ro)))))), (zp, .inl (G.2 3, np, .inr (.inr (.inr (.inr (kRn np rp)))))), (ra, .inl (G.2 0, nn, .inl (kI (zFar (zStH SS fs sn h) fs sn np nn to))))] ++ va_pl L f) t) A) [.ref zs, .int (nI h), .int (nI to)].toArray s 1 7 A) (F0 m 11 ls []) := by
    intro n
    induction n with
    | zero =>
      intro k g hmz; exact absurd hmz (Nat.not_lt_zero _)
    | succ n ih11 =>
      intro k g hmz hk hg H locs hP hD hS ls hl
      refine lv_iload hx hb dX5_far_11 (lv_at hl 0 rfl) ?_
      refine lv_aload_n hx hb dX5_far_13 rfl (lv_at hl 1 rfl) ?_
      refine va_alen (v := nI nn) hx hb hK hP 4 0 rfl rfl rfl dX5_far_14 ?_
      refine kb_ge (tgt := 40) hx hb dX5_far_15 (by decide) (by omega) (by omega) (fun c_2 => ?_) (fun c_2 => ?_)
      · refine lv_iconst (v := (nI 0)) hx hb dX5_far_40 (by decide) ?_
        refine lv_istore (lv' := [(4, .int (nI 0)), (3, .ref q_1), (0, .ref zs), (1, .int (nI h)), (2, .int (nI to))]) hx hb dX5_far_41 hl (by decide) rfl (fun ls hl => ?_)
        have hc_43 : ∀ (n : Nat) (k : Nat) (g : Nat → Nat), nn - k < n → k ≤ nn → g = (zItr (zStH SS fs sn h) fs sn np (zIni nn to) k) → (∀ j, j < nn → g j ≤ 99999999) → ∀ (H : Heap) (locs : List Loc), va_P G.1 vwCl ([(zs, .inr (5, [.int (nI mi), .ref za, .ref zw, .ref zq, .ref zp])), (za, .inl (G.2 0, nn, .inl (kI ar))), (zq, .inl (G.2 4, nn, .inr (.inr (.inr (.inr (kRn nn ro)))))), (zp, .inl (G.2 3, np, .inr (.inr (.inr (.inr (kRn np rp)))))), (q_1, .inl (G.2 0, nn, .inl (kI g)))] ++ va_pl L f) H → va_D A ([(zs, .inr (5, [.int (nI mi), .ref za, .ref zw, .ref zq, .ref zp])), (za, .inl (G.2 0, nn, .inl (kI ar))), (zq, .inl (G.2 4, nn, .inr (.inr (.inr (.inr (kRn nn ro)))))), (zp, .inl (G.2 3, np, .inr (.inr (.inr (.inr (kRn np rp)))))), (q_1, .inl (G.2 0, nn, .inl (kI g)))] ++ va_pl L f) → va_S A s.heap H locs → ∀ (ls : Array Slot), lv_has ls 8 [(4, .int (nI k)), (3, .ref q_1), (0, .ref zs), (1, .int (nI h)), (2, .int (nI to))] → W p l e (headSpec wsX5_far ({ frames := 3, cells := 1, slots := 7, locals := 66 })).room s m [.ref zs, .int (nI h), .int (nI to)].toArray below meth c H locs 1 (0 + nn) (MQ below (va_Qr (fun (u : Unit) => True) (fun (u : Unit) (ra : Nat) t => kA G A ([(zs, .inr (5, [.int (nI mi), .ref za, .ref zw, .ref zq, .ref zp])), (za, .inl (G.2 0, nn, .inl (kI ar))), (zq, .inl (G.2 4, nn, .inr (.inr (.inr (.inr (kRn nn ro)))))), (zp, .inl (G.2 3, np, .inr (.inr (.inr (.inr (kRn np rp)))))), (ra, .inl (G.2 0, nn, .inl (kI (zFar (zStH SS fs sn h) fs sn np nn to))))] ++ va_pl L f) t) A) [.ref zs, .int (nI h), .int (nI to)].toArray s 1 7 A) (F0 m 43 ls []) := by
          intro n
          induction n with
          | zero =>
            intro k g hmz; exact absurd hmz (Nat.not_lt_zero _)
          | succ n ih43 =>
            intro k g hmz hk hg hgb H locs hP hD hS ls hl
            refine lv_iload hx hb dX5_far_43 (lv_at hl 0 rfl) ?_
            refine lv_aload_n hx hb dX5_far_45 rfl (lv_at hl 1 rfl) ?_
            refine va_alen (v := nI nn) hx hb hK hP 4 0 rfl rfl rfl dX5_far_46 ?_
            refine kb_ge (tgt := 137) hx hb dX5_far_47 (by decide) (by omega) (by omega) (fun c_3 => ?_) (fun c_3 => ?_)
            · obtain rfl : nn = k := by omega
              obtain ⟨g2, hgg2⟩ : ∃ z, z = g := ⟨_, rfl⟩
              have hg2 := hgg2.trans hg
              refine lv_iconst (v := (nI 0)) hx hb dX5_far_137 (by decide) ?_
              refine lv_istore (lv' := [(4, .int (nI 0)), (3, .ref q_1), (0, .ref zs), (1, .int (nI h)), (2, .int (nI to))]) hx hb dX5_far_138 hl (by decide) rfl (fun ls hl => ?_)
              have hc_140 : ∀ (n : Nat) (j : Nat) (g : Nat → Nat), nn - j < n → j ≤ nn → g = zClamp g2 j → (∀ j, j < nn → g j ≤ 99999999) → ∀ (H : Heap) (locs : List Loc), va_P G.1 vwCl ([(zs, .inr (5, [.int (nI mi), .ref za, .ref zw, .ref zq, .ref zp])), (za, .inl (G.2 0, nn, .inl (kI ar))), (zq, .inl (G.2 4, nn, .inr (.inr (.inr (.inr (kRn nn ro)))))), (zp, .inl (G.2 3, np, .inr (.inr (.inr (.inr (kRn np rp)))))), (q_1, .inl (G.2 0, nn, .inl (kI g)))] ++ va_pl L f) H → va_D A ([(zs, .inr (5, [.int (nI mi), .ref za, .ref zw, .ref zq, .ref zp])), (za, .inl (G.2 0, nn, .inl (kI ar))), (zq, .inl (G.2 4, nn, .inr (.inr (.inr (.inr (kRn nn ro)))))), (zp, .inl (G.2 3, np, .inr (.inr (.inr (.inr (kRn np rp)))))), (q_1, .inl (G.2 0, nn, .inl (kI g)))] ++ va_pl L f) → va_S A s.heap H locs → ∀ (ls : Array Slot), lv_has ls 8 [(4, .int (nI j)), (3, .ref q_1), (0, .ref zs), (1, .int (nI h)), (2, .int (nI to))] → W p l e (headSpec wsX5_far ({ frames := 3, cells := 1, slots := 7, locals := 66 })).room s m [.ref zs, .int (nI h), .int (nI to)].toArray below meth c H locs 1 (0 + nn) (MQ below (va_Qr (fun (u : Unit) => True) (fun (u : Unit) (ra : Nat) t => kA G A ([(zs, .inr (5, [.int (nI mi), .ref za, .ref zw, .ref zq, .ref zp])), (za, .inl (G.2 0, nn, .inl (kI ar))), (zq, .inl (G.2 4, nn, .inr (.inr (.inr (.inr (kRn nn ro)))))), (zp, .inl (G.2 3, np, .inr (.inr (.inr (.inr (kRn np rp)))))), (ra, .inl (G.2 0, nn, .inl (kI (zFar (zStH SS fs sn h) fs sn np nn to))))] ++ va_pl L f) t) A) [.ref zs, .int (nI h), .int (nI to)].toArray s 1 7 A) (F0 m 140 ls []) := by
                intro n
                induction n with
                | zero =>
                  intro j g hmz; exact absurd hmz (Nat.not_lt_zero _)
                | succ n ih140 =>
                  intro j g hmz hj hg hgb H locs hP hD hS ls hl
                  refine lv_iload hx hb dX5_far_140 (lv_at hl 0 rfl) ?_
                  refine lv_aload_n hx hb dX5_far_142 rfl (lv_at hl 1 rfl) ?_
                  refine va_alen (v := nI nn) hx hb hK hP 4 0 rfl rfl rfl dX5_far_143 ?_
                  refine kb_ge (tgt := 166) hx hb dX5_far_144 (by decide) (by omega) (by omega) (fun c_4 => ?_) (fun c_4 => ?_)
                  · refine lv_aload_n hx hb dX5_far_166 rfl (lv_at hl 1 rfl) ?_
                    obtain rfl : nn = j := by omega
                    subst hg
                    subst hg2
                    have hP9 : va_P G.1 vwCl ([(zs, .inr (5, [.int (nI mi), .ref za, .ref zw, .ref zq, .ref zp])), (za, .inl (G.2 0, nn, .inl (kI ar))), (zq, .inl (G.2 4, nn, .inr (.inr (.inr (.inr (kRn nn ro)))))), (zp, .inl (G.2 3, np, .inr (.inr (.inr (.inr (kRn np rp)))))), (q_1, .inl (G.2 0, nn, .inl (kI (zFar (zStH SS fs sn h) fs sn np nn to))))] ++ va_pl L f) _ := hP.part (cx := [(zs, .inr (5, [.int (nI mi), .ref za, .ref zw, .ref zq, .ref zp])), (za, .inl (G.2 0, nn, .inl (kI ar))), (zq, .inl (G.2 4, nn, .inr (.inr (.inr (.inr (kRn nn ro)))))), (zp, .inl (G.2 3, np, .inr (.inr (.inr (.inr (kRn np rp)))))), (q_1, .inl (G.2 0, nn, .inl (kI (zFar (zStH SS fs sn h) fs sn np nn to))))]) [0, 1, 2, 3, 4] rfl
                    have hD9 : va_D A ([(zs, .inr (5, [.int (nI mi), .ref za, .ref zw, .ref zq, .ref zp])), (za, .inl (G.2 0, nn, .inl (kI ar))), (zq, .inl (G.2 4, nn, .inr (.inr (.inr (.inr (kRn nn ro)))))), (zp, .inl (G.2 3, np, .inr (.inr (.inr (.inr (kRn np rp)))))), (q_1, .inl (G.2 0, nn, .inl (kI (zFar (zStH SS fs sn h) fs sn np nn to))))] ++ va_pl L f) := hD.part (cx := [(zs, .inr (5, [.int (nI mi), .ref za, .ref zw, .ref zq, .ref zp])), (za, .inl (G.2 0, nn, .inl (kI ar))), (zq, .inl (G.2 4, nn, .inr (.inr (.inr (.inr (kRn nn ro)))))), (zp, .inl (G.2 3, np, .inr (.inr (.inr (.inr (kRn np rp)))))), (q_1, .inl (G.2 0, nn, .inl (kI (zFar (zStH SS fs sn h) fs sn np nn to))))]) [0, 1, 2, 3, 4] (by decide) rfl
                    refine W.widen (k := 1) (n := 7) (Nat.le_of_ble_eq_true rfl) (by omega) ?_
                    exact km_nret (post := fun (u : Unit) => True) (wo := fun (u : Unit) (ra : Nat) => ([(zs, .inr (5, [.int (nI mi), .ref za, .ref zw, .ref zq, .ref zp])), (za, .inl (G.2 0, nn, .inl (kI ar))), (zq, .inl (G.2 4, nn, .inr (.inr (.inr (.inr (kRn nn ro)))))), (zp, .inl (G.2 3, np, .inr (.inr (.inr (.inr (kRn np rp)))))), (ra, .inl (G.2 0, nn, .inl (kI (zFar (zStH SS fs sn h) fs sn np nn to))))] ++ va_pl L f)) () hx hb hr (Or.inr ⟨_, rfl⟩) hlocks hS hP9 hD9 (trivial) dX5_far_167
                  · have hb1 := hgb j (by omega)
                    refine lv_aload_n hx hb dX5_far_147 rfl (lv_at hl 1 rfl) ?_
                    refine lv_iload hx hb dX5_far_148 (lv_at hl 0 rfl) ?_
                    refine lv_aload_n hx hb dX5_far_150 rfl (lv_at hl 1 rfl) ?_
                    refine lv_iload hx hb dX5_far_151 (lv_at hl 0 rfl) ?_
                    refine kr_iald (k := j) (v := (nI (g j))) hx hb hK hP 4 0 rfl rfl (by omega) (by omega) rfl dX5_far_153 ?_
                    refine lv_ldc (v := (99999999)) hx hb hown (hts _ kX5_far_3) dX5_far_154 ?_
                    refine kr_top (show ((99999999) : Int32) = nI 99999999 from by decide) ?_
                    refine va_mmin hx hb (by rw [hml]; exact hl.1.symm) hown (hts _ kX5_far_4) (hts _ kX5_far_5) (hts _ kX5_far_6) (hts _ kX5_far_7) (Nat.le_of_ble_eq_true rfl) (Nat.le_of_ble_eq_true rfl) (Nat.le_of_ble_eq_true rfl) (show 0 + nn ≤ 7 from by omega) dX5_far_156 ?_
                    refine kr_top (y := nI (min (g j) 99999999)) (kp_min _ _ (by omega) (by decide)) ?_
                    refine kr_iast (k := j) (g := (kI (va_up g j (min (g j) 99999999)))) hx hb hK hP hD hS 4 0 rfl rfl (by omega) (by omega) (kI_up g j (min (g j) 99999999)) dX5_far_159 (fun H locs hP hD hS => ?_)
                    have hP : va_P G.1 vwCl ([(zs, .inr (5, [.int (nI mi), .ref za, .ref zw, .ref zq, .ref zp])), (za, .inl (G.2 0, nn, .inl (kI ar))), (zq, .inl (G.2 4, nn, .inr (.inr (.inr (.inr (kRn nn ro)))))), (zp, .inl (G.2 3, np, .inr (.inr (.inr (.inr (kRn np rp)))))), (q_1, .inl (G.2 0, nn, .inl (kI (va_up g j (min (g j) 99999999)))))] ++ va_pl L f) H := hP
                    have hD : va_D A ([(zs, .inr (5, [.int (nI mi), .ref za, .ref zw, .ref zq, .ref zp])), (za, .inl (G.2 0, nn, .inl (kI ar))), (zq, .inl (G.2 4, nn, .inr (.inr (.inr (.inr (kRn nn ro)))))), (zp, .inl (G.2 3, np, .inr (.inr (.inr (.inr (kRn np rp)))))), (q_1, .inl (G.2 0, nn, .inl (kI (va_up g j (min (g j) 99999999)))))] ++ va_pl L f) := hD
                    refine lv_iinc (k := 0) (v := (nI (j + 1))) (lv' := [(4, .int (nI (j + 1))), (3, .ref q_1), (0, .ref zs), (1, .int (nI h)), (2, .int (nI to))]) hx hb dX5_far_160 hl rfl (kn_inc j) (by decide) rfl (fun ls hl => ?_)
                    refine lv_goto (tgt := 140) hx hb dX5_far_163 (by decide) ?_
                    exact ih140 (j + 1) (va_up g j (min (g j) 99999999)) (by omega) (by omega) (by rw [hg, zClamp_at]; exact zClamp_up g2 j) (by intro j9 hj9; unfold va_up; split <;> first | exact Nat.min_le_right _ _ | exact hgb j9 hj9) _ _ hP hD hS _ (lv_sub hl [0, 1, 2, 3, 4] rfl)
              exact hc_140 (_ + 1) 0 g (Nat.lt_succ_self _) (by omega) (by rw [hgg2]; exact (zClamp_0 g).symm) (by exact hgb) _ _ hP hD hS _ (lv_sub hl [0, 1, 2, 3, 4] rfl)
            · obtain ⟨g0, hgg0⟩ : ∃ z, z = g := ⟨_, rfl⟩
              have hg0 := hgg0.trans hg
              refine lv_iconst (v := (nI 0)) hx hb dX5_far_50 (by decide) ?_
              refine lv_istore (lv' := [(5, .int (nI 0)), (4, .int (nI k)), (3, .ref q_1), (0, .ref zs), (1, .int (nI h)), (2, .int (nI to))]) hx hb dX5_far_51 hl (by decide) rfl (fun ls hl => ?_)
              have hc_53 : ∀ (n : Nat) (i : Nat) (g : Nat → Nat), np - i < n → i ≤ np → g = (zRnd (zStH SS fs sn h) fs sn g0 i) → (∀ j, j < nn → g j ≤ 99999999) → ∀ (H : Heap) (locs : List Loc), va_P G.1 vwCl ([(zs, .inr (5, [.int (nI mi), .ref za, .ref zw, .ref zq, .ref zp])), (za, .inl (G.2 0, nn, .inl (kI ar))), (zq, .inl (G.2 4, nn, .inr (.inr (.inr (.inr (kRn nn ro)))))), (zp, .inl (G.2 3, np, .inr (.inr (.inr (.inr (kRn np rp)))))), (q_1, .inl (G.2 0, nn, .inl (kI g)))] ++ va_pl L f) H → va_D A ([(zs, .inr (5, [.int (nI mi), .ref za, .ref zw, .ref zq, .ref zp])), (za, .inl (G.2 0, nn, .inl (kI ar))), (zq, .inl (G.2 4, nn, .inr (.inr (.inr (.inr (kRn nn ro)))))), (zp, .inl (G.2 3, np, .inr (.inr (.inr (.inr (kRn np rp)))))), (q_1, .inl (G.2 0, nn, .inl (kI g)))] ++ va_pl L f) → va_S A s.heap H locs → ∀ (ls : Array Slot), lv_has ls 8 [(5, .int (nI i)), (4, .int (nI k)), (3, .ref q_1), (0, .ref zs), (1, .int (nI h)), (2, .int (nI to))] → W p l e (headSpec wsX5_far ({ frames := 3, cells := 1, slots := 7, locals := 66 })).room s m [.ref zs, .int (nI h), .int (nI to)].toArray below meth c H locs 1 (0 + nn) (MQ below (va_Qr (fun (u : Unit) => True) (fun (u : Unit) (ra : Nat) t => kA G A ([(zs, .inr (5, [.int (nI mi), .ref za, .ref zw, .ref zq, .ref zp])), (za, .inl (G.2 0, nn, .inl (kI ar))), (zq, .inl (G.2 4, nn, .inr (.inr (.inr (.inr (kRn nn ro)))))), (zp, .inl (G.2 3, np, .inr (.inr (.inr (.inr (kRn np rp)))))), (ra, .inl (G.2 0, nn, .inl (kI (zFar (zStH SS fs sn h) fs sn np nn to))))] ++ va_pl L f) t) A) [.ref zs, .int (nI h), .int (nI to)].toArray s 1 7 A) (F0 m 53 ls []) := by
                intro n
                induction n with
                | zero =>
                  intro i g hmz; exact absurd hmz (Nat.not_lt_zero _)
                | succ n ih53 =>
                  intro i g hmz hi hg hgb H locs hP hD hS ls hl
                  refine lv_iload hx hb dX5_far_53 (lv_at hl 0 rfl) ?_
                  refine lv_aload_n hx hb dX5_far_55 rfl (lv_at hl 3 rfl) ?_
                  refine va_get (D := G.1) (ci := 5) (v := .ref zp) (C := RX5) (T := TX5) (N := 5) hx hb hts kX5_far_1 hown hK hP 0 rfl rfl 4 (by decide) (hts _ kX5_far_8) (fun _ h9 => h9) rfl dX5_far_56 ?_
                  refine va_alen (v := nI np) hx hb hK hP 3 3 rfl rfl rfl dX5_far_59 ?_
                  refine kb_ge (tgt := 131) hx hb dX5_far_60 (by decide) (by omega) (by omega) (fun c_5 => ?_) (fun c_5 => ?_)
                  · refine lv_iinc (k := 1) (v := (nI (k + 1))) (lv' := [(4, .int (nI (k + 1))), (5, .int (nI i)), (3, .ref q_1), (0, .ref zs), (1, .int (nI h)), (2, .int (nI to))]) hx hb dX5_far_131 hl rfl (kn_inc k) (by decide) rfl (fun ls hl => ?_)
                    refine lv_goto (tgt := 43) hx hb dX5_far_134 (by decide) ?_
                    exact ih43 (k + 1) g (by omega) (by omega) (by rw [hg, show i = np by omega, hg0]; rfl) (by exact hgb) _ _ hP hD hS _ (lv_sub hl [0, 2, 3, 4, 5] rfl)
                  · obtain ⟨g1, hgg1⟩ : ∃ z, z = g := ⟨_, rfl⟩
                    have hg1 := hgg1.trans hg
                    refine lv_iconst (v := (nI 0)) hx hb dX5_far_63 (by decide) ?_
                    refine lv_istore (lv' := [(6, .int (nI 0)), (5, .int (nI i)), (4, .int (nI k)), (3, .ref q_1), (0, .ref zs), (1, .int (nI h)), (2, .int (nI to))]) hx hb dX5_far_64 hl (by decide) rfl (fun ls hl => ?_)
                    have hc_66 : ∀ (n : Nat) (sd : Nat) (g : Nat → Nat), 2 - sd < n → sd ≤ 2 → g = zSd (zStH SS fs sn h) fs sn g1 i sd → (∀ j, j < nn → g j ≤ 99999999) → ∀ (H : Heap) (locs : List Loc), va_P G.1 vwCl ([(zs, .inr (5, [.int (nI mi), .ref za, .ref zw, .ref zq, .ref zp])), (za, .inl (G.2 0, nn, .inl (kI ar))), (zq, .inl (G.2 4, nn, .inr (.inr (.inr (.inr (kRn nn ro)))))), (zp, .inl (G.2 3, np, .inr (.inr (.inr (.inr (kRn np rp)))))), (q_1, .inl (G.2 0, nn, .inl (kI g)))] ++ va_pl L f) H → va_D A ([(zs, .inr (5, [.int (nI mi), .ref za, .ref zw, .ref zq, .ref zp])), (za, .inl (G.2 0, nn, .inl (kI ar))), (zq, .inl (G.2 4, nn, .inr (.inr (.inr (.inr (kRn nn ro)))))), (zp, .inl (G.2 3, np, .inr (.inr (.inr (.inr (kRn np rp)))))), (q_1, .inl (G.2 0, nn, .inl (kI g)))] ++ va_pl L f) → va_S A s.heap H locs → ∀ (ls : Array Slot), lv_has ls 8 [(6, .int (nI sd)), (5, .int (nI i)), (4, .int (nI k)), (3, .ref q_1), (0, .ref zs), (1, .int (nI h)), (2, .int (nI to))] → W p l e (headSpec wsX5_far ({ frames := 3, cells := 1, slots := 7, locals := 66 })).room s m [.ref zs, .int (nI h), .int (nI to)].toArray below meth c H locs 1 (0 + nn) (MQ below (va_Qr (fun (u : Unit) => True) (fun (u : Unit) (ra : Nat) t => kA G A ([(zs, .inr (5, [.int (nI mi), .ref za, .ref zw, .ref zq, .ref zp])), (za, .inl (G.2 0, nn, .inl (kI ar))), (zq, .inl (G.2 4, nn, .inr (.inr (.inr (.inr (kRn nn ro)))))), (zp, .inl (G.2 3, np, .inr (.inr (.inr (.inr (kRn np rp)))))), (ra, .inl (G.2 0, nn, .inl (kI (zFar (zStH SS fs sn h) fs sn np nn to))))] ++ va_pl L f) t) A) [.ref zs, .int (nI h), .int (nI to)].toArray s 1 7 A) (F0 m 66 ls []) := by
                      intro n
                      induction n with
                      | zero =>
                        intro sd g hmz; exact absurd hmz (Nat.not_lt_zero _)
                      | succ n ih66 =>
                        intro sd g hmz hsd hg hgb H locs hP hD hS ls hl
                        refine lv_iload hx hb dX5_far_66 (lv_at hl 0 rfl) ?_
                        refine lv_iconst (v := (nI 2)) hx hb dX5_far_68 (by decide) ?_
                        refine kb_ge (tgt := 125) hx hb dX5_far_69 (by decide) (by omega) (by decide) (fun c_6 => ?_) (fun c_6 => ?_)
                        · refine lv_iinc (k := 1) (v := (nI (i + 1))) (lv' := [(5, .int (nI (i + 1))), (6, .int (nI sd)), (4, .int (nI k)), (3, .ref q_1), (0, .ref zs), (1, .int (nI h)), (2, .int (nI to))]) hx hb dX5_far_125 hl rfl (kn_inc i) (by decide) rfl (fun ls hl => ?_)
                          refine lv_goto (tgt := 53) hx hb dX5_far_128 (by decide) ?_
                          exact ih53 (i + 1) g (by omega) (by omega) (by rw [hg, show sd = 2 by omega, hg1]; rfl) (by exact hgb) _ _ hP hD hS _ (lv_sub hl [0, 2, 3, 4, 5, 6] rfl)
                        · have hei := hen i (by omega)
                          have hs9 : (zStH SS fs sn h) i sd ≤ 99999999 := zStH_le (fun k => by have := hen i (by omega); obtain ⟨_, len9, g9, _, hv9⟩ := hrr h (zEnd fs sn i k) (by omega) (by unfold zEnd; split <;> omega); exact zVal_lt hv9)
                          have hz1 : zEnd fs sn i sd < nn := by unfold zEnd; split <;> omega
                          have hz2 : zEnd fs sn i (1 - sd) < nn := by unfold zEnd; split <;> omega
                          have hb1 := hgb _ hz1
                          have hb2 := hgb _ hz2
                          refine lv_aload_n hx hb dX5_far_72 rfl (lv_at hl 4 rfl) ?_
                          refine va_get (D := G.1) (ci := 5) (v := .ref zp) (C := RX5) (T := TX5) (N := 5) hx hb hts kX5_far_1 hown hK hP 0 rfl rfl 4 (by decide) (hts _ kX5_far_8) (fun _ h9 => h9) rfl dX5_far_73 ?_
                          refine lv_iload hx hb dX5_far_76 (lv_at hl 1 rfl) ?_
                          refine kr_aldA (k := i) (v := .ref (rp i)) hx hb hK hP 3 3 rfl rfl (by omega) (by omega) (kRn_at (by omega)) dX5_far_78 ?_
                          refine lv_iload hx hb dX5_far_79 (lv_at hl 0 rfl) ?_
                          refine kp_ialf (k := sd) (v := (nI (zEnd fs sn i sd))) hx hb hK hP (hrp i (by omega)).1 (hrp i (by omega)).2 (by omega) (by decide) (congrArg nI (zP_end (by omega))) dX5_far_81 ?_
                          refine lv_istore (lv' := [(7, .int (nI (zEnd fs sn i sd))), (6, .int (nI sd)), (5, .int (nI i)), (4, .int (nI k)), (3, .ref q_1), (0, .ref zs), (1, .int (nI h)), (2, .int (nI to))]) hx hb dX5_far_82 hl (by decide) rfl (fun ls hl => ?_)
                          refine lv_aload_n hx hb dX5_far_84 rfl (lv_at hl 4 rfl) ?_
                          refine lv_iload hx hb dX5_far_85 (lv_at hl 0 rfl) ?_
                          refine lv_aload_n hx hb dX5_far_87 rfl (lv_at hl 4 rfl) ?_
                          refine lv_iload hx hb dX5_far_88 (lv_at hl 0 rfl) ?_
                          refine kr_iald (k := (zEnd fs sn i sd)) (v := (nI (g (zEnd fs sn i sd)))) hx hb hK hP 4 0 rfl rfl (by omega) (by omega) rfl dX5_far_90 ?_
                          refine lv_aload_n hx hb dX5_far_91 rfl (lv_at hl 5 rfl) ?_
                          refine lv_iload_n hx hb dX5_far_92 rfl (lv_at hl 6 rfl) ?_
                          refine lv_iload hx hb dX5_far_93 (lv_at hl 2 rfl) ?_
                          refine lv_iload hx hb dX5_far_95 (lv_at hl 1 rfl) ?_
                          refine vp_callSi (W.runV (As := [.int (nI h), .int (nI i), .int (nI sd)]) (rest := [.int (nI (g (zEnd fs sn i sd))), .int (nI (zEnd fs sn i sd)), .ref q_1]) ⟨hx, hb, hml, hown, hts⟩ (c_X5_step l G zs za zw zq zp nn np mi L f ro rr rp fs sn ln op SS ar ww h i sd hrw hrr hrp (by omega) (by omega) hfs hsn hln hen (by omega) (by omega) (by omega) (by omega)) (cwV 3 hts gX5_far_X5_step rfl rfl rfl (by decide +kernel) ⟨Nat.le_of_ble_eq_true rfl, Nat.le_of_ble_eq_true rfl⟩) (kPre_V (ws := ([(zs, .inr (5, [.int (nI mi), .ref za, .ref zw, .ref zq, .ref zp])), (zq, .inl (G.2 4, nn, .inr (.inr (.inr (.inr (kRn nn ro)))))), (zp, .inl (G.2 3, np, .inr (.inr (.inr (.inr (kRn np rp))))))] ++ va_pl L f)) hK (hP.part (cx := [(zs, .inr (5, [.int (nI mi), .ref za, .ref zw, .ref zq, .ref zp])), (zq, .inl (G.2 4, nn, .inr (.inr (.inr (.inr (kRn nn ro)))))), (zp, .inl (G.2 3, np, .inr (.inr (.inr (.inr (kRn np rp))))))]) [0, 2, 3] rfl) (RX5, TX5, 5) 0 rfl rfl) rfl rfl hl.1 rfl (lv_room (Nat.le_of_ble_eq_true rfl)) dX5_far_97 ⟨(show 1 + 0 ≤ 1 from by omega), (show 0 + nn + 0 ≤ 7 from by omega)⟩) (fun r_7 hr_7 => ?_)
                          subst hr_7
                          refine lv_aload_n hx hb dX5_far_100 rfl (lv_at hl 4 rfl) ?_
                          refine lv_aload_n hx hb dX5_far_101 rfl (lv_at hl 5 rfl) ?_
                          refine va_get (D := G.1) (ci := 5) (v := .ref zp) (C := RX5) (T := TX5) (N := 5) hx hb hts kX5_far_1 hown hK hP 0 rfl rfl 4 (by decide) (hts _ kX5_far_8) (fun _ h9 => h9) rfl dX5_far_102 ?_
                          refine lv_iload hx hb dX5_far_105 (lv_at hl 2 rfl) ?_
                          refine kr_aldA (k := i) (v := .ref (rp i)) hx hb hK hP 3 3 rfl rfl (by omega) (by omega) (kRn_at (by omega)) dX5_far_107 ?_
                          refine lv_iconst (v := (nI 1)) hx hb dX5_far_108 (by decide) ?_
                          refine lv_iload hx hb dX5_far_109 (lv_at hl 1 rfl) ?_
                          refine lv_isub hx hb dX5_far_111 ?_
                          refine kr_top (y := nI (1 - sd)) (pk_sub (by omega)) ?_
                          refine kp_ialf (k := (1 - sd)) (v := (nI (zEnd fs sn i (1 - sd)))) hx hb hK hP (hrp i (by omega)).1 (hrp i (by omega)).2 (by omega) (by decide) (congrArg nI (zP_end (by omega))) dX5_far_112 ?_
                          refine kr_iald (k := (zEnd fs sn i (1 - sd))) (v := (nI (g (zEnd fs sn i (1 - sd))))) hx hb hK hP 4 0 rfl rfl (by omega) (by omega) rfl dX5_far_113 ?_
                          refine lv_iadd hx hb dX5_far_114 ?_
                          refine kr_top (y := nI ((zStH SS fs sn h i sd) + (g (zEnd fs sn i (1 - sd))))) (nI_add (zStH SS fs sn h i sd) (g (zEnd fs sn i (1 - sd)))) ?_
                          refine va_mmin hx hb (by rw [hml]; exact hl.1.symm) hown (hts _ kX5_far_4) (hts _ kX5_far_5) (hts _ kX5_far_6) (hts _ kX5_far_7) (Nat.le_of_ble_eq_true rfl) (Nat.le_of_ble_eq_true rfl) (Nat.le_of_ble_eq_true rfl) (show 0 + nn ≤ 7 from by omega) dX5_far_115 ?_
                          refine kr_top (y := nI (min (g (zEnd fs sn i sd)) ((zStH SS fs sn h i sd) + (g (zEnd fs sn i (1 - sd)))))) (kp_min _ _ (by omega) (by omega)) ?_
                          refine kr_iast (k := (zEnd fs sn i sd)) (g := (kI (va_up g (zEnd fs sn i sd) (min (g (zEnd fs sn i sd)) ((zStH SS fs sn h i sd) + (g (zEnd fs sn i (1 - sd)))))))) hx hb hK hP hD hS 4 0 rfl rfl (by omega) (by omega) (kI_up g (zEnd fs sn i sd) (min (g (zEnd fs sn i sd)) ((zStH SS fs sn h i sd) + (g (zEnd fs sn i (1 - sd)))))) dX5_far_118 (fun H locs hP hD hS => ?_)
                          have hP : va_P G.1 vwCl ([(zs, .inr (5, [.int (nI mi), .ref za, .ref zw, .ref zq, .ref zp])), (za, .inl (G.2 0, nn, .inl (kI ar))), (zq, .inl (G.2 4, nn, .inr (.inr (.inr (.inr (kRn nn ro)))))), (zp, .inl (G.2 3, np, .inr (.inr (.inr (.inr (kRn np rp)))))), (q_1, .inl (G.2 0, nn, .inl (kI (va_up g (zEnd fs sn i sd) (min (g (zEnd fs sn i sd)) ((zStH SS fs sn h i sd) + (g (zEnd fs sn i (1 - sd)))))))))] ++ va_pl L f) H := hP
                          have hD : va_D A ([(zs, .inr (5, [.int (nI mi), .ref za, .ref zw, .ref zq, .ref zp])), (za, .inl (G.2 0, nn, .inl (kI ar))), (zq, .inl (G.2 4, nn, .inr (.inr (.inr (.inr (kRn nn ro)))))), (zp, .inl (G.2 3, np, .inr (.inr (.inr (.inr (kRn np rp)))))), (q_1, .inl (G.2 0, nn, .inl (kI (va_up g (zEnd fs sn i sd) (min (g (zEnd fs sn i sd)) ((zStH SS fs sn h i sd) + (g (zEnd fs sn i (1 - sd)))))))))] ++ va_pl L f) := hD
                          refine lv_iinc (k := 1) (v := (nI (sd + 1))) (lv' := [(6, .int (nI (sd + 1))), (7, .int (nI (zEnd fs sn i sd))), (5, .int (nI i)), (4, .int (nI k)), (3, .ref q_1), (0, .ref zs), (1, .int (nI h)), (2, .int (nI to))]) hx hb dX5_far_119 hl rfl (kn_inc sd) (by decide) rfl (fun ls hl => ?_)
                          refine lv_goto (tgt := 66) hx hb dX5_far_122 (by decide) ?_
                          exact ih66 (sd + 1) (va_up g (zEnd fs sn i sd) (min (g (zEnd fs sn i sd)) ((zStH SS fs sn h i sd) + (g (zEnd fs sn i (1 - sd)))))) (by omega) (by omega) (by rw [hg]; rfl) (by intro j hj; show zHalf (zStH SS fs sn h) fs sn g i sd j ≤ _; exact zHalf_b hgb j hj) _ _ hP hD hS _ (lv_sub hl [0, 2, 3, 4, 5, 6, 7] rfl)
                    exact hc_66 (_ + 1) 0 g (Nat.lt_succ_self _) (by omega) (by exact hgg1.symm) (by exact hgb) _ _ hP hD hS _ (lv_sub hl [0, 1, 2, 3, 4, 5, 6] rfl)
              exact hc_53 (_ + 1) 0 g (Nat.lt_succ_self _) (by omega) (by exact hgg0.symm) (by exact hgb) _ _ hP hD hS _ (lv_sub hl [0, 1, 2, 3, 4, 5] rfl)
        exact hc_43 (_ + 1) 0 g (Nat.lt_succ_self _) (by omega) (by rw [hg, show k = nn by omega]; rfl) (by intro j hj; rw [hg]; unfold zFil; split <;> (try split) <;> omega) _ _ hP hD hS _ (lv_sub hl [0, 1, 2, 3, 4] rfl)
      · refine lv_aload_n hx hb dX5_far_18 rfl (lv_at hl 1 rfl) ?_
        refine lv_iload hx hb dX5_far_19 (lv_at hl 0 rfl) ?_
        refine lv_iload hx hb dX5_far_21 (lv_at hl 0 rfl) ?_
        refine lv_iload_n hx hb dX5_far_23 rfl (lv_at hl 4 rfl) ?_
        refine kb_ne (tgt := 31) hx hb dX5_far_24 (by decide) (by omega) (by omega) (fun c_8 => ?_) (fun c_8 => ?_)
        · have hq := c_8
          refine lv_ldc (v := (99999999)) hx hb hown (hts _ kX5_far_3) dX5_far_31 ?_
          refine kr_top (show ((99999999) : Int32) = nI 99999999 from by decide) ?_
          refine kr_iast (k := k) (g := (kI (va_up g k 99999999))) hx hb hK hP hD hS 4 0 rfl rfl (by omega) (by omega) (kI_up g k 99999999) dX5_far_33 (fun H locs hP hD hS => ?_)
          have hP : va_P G.1 vwCl ([(zs, .inr (5, [.int (nI mi), .ref za, .ref zw, .ref zq, .ref zp])), (za, .inl (G.2 0, nn, .inl (kI ar))), (zq, .inl (G.2 4, nn, .inr (.inr (.inr (.inr (kRn nn ro)))))), (zp, .inl (G.2 3, np, .inr (.inr (.inr (.inr (kRn np rp)))))), (q_1, .inl (G.2 0, nn, .inl (kI (va_up g k 99999999))))] ++ va_pl L f) H := hP
          have hD : va_D A ([(zs, .inr (5, [.int (nI mi), .ref za, .ref zw, .ref zq, .ref zp])), (za, .inl (G.2 0, nn, .inl (kI ar))), (zq, .inl (G.2 4, nn, .inr (.inr (.inr (.inr (kRn nn ro)))))), (zp, .inl (G.2 3, np, .inr (.inr (.inr (.inr (kRn np rp)))))), (q_1, .inl (G.2 0, nn, .inl (kI (va_up g k 99999999))))] ++ va_pl L f) := hD
          refine lv_iinc (k := 0) (v := (nI (k + 1))) (lv' := [(4, .int (nI (k + 1))), (3, .ref q_1), (0, .ref zs), (1, .int (nI h)), (2, .int (nI to))]) hx hb dX5_far_34 hl rfl (kn_inc k) (by decide) rfl (fun ls hl => ?_)
          refine lv_goto (tgt := 11) hx hb dX5_far_37 (by decide) ?_
          exact ih11 (k + 1) (va_up g k 99999999) (by omega) (by omega) (by rw [hg]; exact zFil_up (by simp [hq])) _ _ hP hD hS _ (lv_sub hl [0, 1, 2, 3, 4] rfl)
        · have hq := c_8
          refine lv_iconst (v := (nI 0)) hx hb dX5_far_27 (by decide) ?_
          refine lv_goto (tgt := 33) hx hb dX5_far_28 (by decide) ?_
          refine kr_iast (k := k) (g := (kI (va_up g k 0))) hx hb hK hP hD hS 4 0 rfl rfl (by omega) (by omega) (kI_up g k 0) dX5_far_33 (fun H locs hP hD hS => ?_)
          have hP : va_P G.1 vwCl ([(zs, .inr (5, [.int (nI mi), .ref za, .ref zw, .ref zq, .ref zp])), (za, .inl (G.2 0, nn, .inl (kI ar))), (zq, .inl (G.2 4, nn, .inr (.inr (.inr (.inr (kRn nn ro)))))), (zp, .inl (G.2 3, np, .inr (.inr (.inr (.inr (kRn np rp)))))), (q_1, .inl (G.2 0, nn, .inl (kI (va_up g k 0))))] ++ va_pl L f) H := hP
          have hD : va_D A ([(zs, .inr (5, [.int (nI mi), .ref za, .ref zw, .ref zq, .ref zp])), (za, .inl (G.2 0, nn, .inl (kI ar))), (zq, .inl (G.2 4, nn, .inr (.inr (.inr (.inr (kRn nn ro)))))), (zp, .inl (G.2 3, np, .inr (.inr (.inr (.inr (kRn np rp)))))), (q_1, .inl (G.2 0, nn, .inl (kI (va_up g k 0))))] ++ va_pl L f) := hD
          refine lv_iinc (k := 0) (v := (nI (k + 1))) (lv' := [(4, .int (nI (k + 1))), (3, .ref q_1), (0, .ref zs), (1, .int (nI h)), (2, .int (nI to))]) hx hb dX5_far_34 hl rfl (kn_inc k) (by decide) rfl (fun ls hl => ?_)
          refine lv_goto (tgt := 11) hx hb dX5_far_37 (by decide) ?_
          exact ih11 (k + 1) (va_up g k 0) (by omega) (by omega) (by rw [hg]; exact zFil_up (by simp [hq])) _ _ hP hD hS _ (lv_sub hl [0, 1, 2, 3, 4] rfl)
  exact hc_11 (_ + 1) 0 (fun _ => 0) (Nat.lt_succ_self _) (by omega) (by exact (zFil_0 to).symm) _ _ hP hD hS _ (lv_sub hl [0, 1, 2, 3, 4] rfl)

theorem kX5_far_t_0 : Cond.fieldLink RX5 9 "PassNotesLaw$Sim" "areas" "[I" ∈ wsX5_far := by decide +kernel
theorem kX5_far_t_1 : ∀ w ∈ wsX50, w ∈ wsX5_far := by decide +kernel
theorem kX5_far_t_2 : Cond.arrayClass .int ∈ wsX5_far := by decide +kernel
theorem kX5_far_t_3 : Cond.constant RX5 54 (99999999) ∈ wsX5_far := by decide +kernel
theorem kX5_far_t_4 : Cond.methodLink RX5 59 Lib.Math.min.name ∈ wsX5_far := by decide +kernel
theorem kX5_far_t_5 : Cond.static Lib.Math.min.name ∈ wsX5_far := by decide +kernel
theorem kX5_far_t_6 : Cond.initialized "java/lang/Math" ∈ wsX5_far := by decide +kernel
theorem kX5_far_t_7 : Cond.code Lib.Math.min.name Lib.Math.min.code 2 (some .int) ∈ wsX5_far := by decide +kernel
theorem kX5_far_t_8 : Cond.fieldLink RX5 25 "PassNotesLaw$Sim" "passes" "[[I" ∈ wsX5_far := by decide +kernel
set_option maxHeartbeats 4000000 in
set_option maxRecDepth 100000 in
theorem c_X5_far_t (l : Launch) (G : kG) (sz : Nat) (zs za zw zq zp nn np mi : Nat) (L : List Nat) (f : Nat → va_E) (ro : Nat → Nat) (rr : Nat → Nat → Nat) (rp : Nat → Nat) (fs sn ln : Nat → Nat) (op : Nat → Bool) (SS : Nat → Option mS) (ar ww : Nat → Nat) (to : Nat) (hrw : ∀ i, i < nn → ro i ∈ L ∧ f (ro i) = .inl (G.2 3, nn, .inr (.inr (.inr (.inr (kRn nn (rr i))))))) (hrr : ∀ i j, i < nn → j < nn → zRow G L f (rr i j) mi (SS (i * 10 + j))) (hrp : ∀ i, i < np → rp i ∈ L ∧ f (rp i) = .inl (G.2 0, 4, .inl (kI (zP fs sn ln op i)))) (hn7 : nn ≤ 7) (hnp : np ≤ 20) (hfs : ∀ j, fs j < 10) (hsn : ∀ j, sn j < 10) (hln : ∀ j, ln j < 100) (hen : ∀ j, j < np → fs j < nn ∧ sn j < nn) (hmi : mi < 2 ^ 31) (hto : to < nn) : Met l yX5_far wsX5_far ({ frames := 1, cells := 1, slots := 7, locals := 23 }) (kPreM G ([(zs, .inr (5, [.int (nI mi), .ref za, .ref zw, .ref zq, .ref zp])), (za, .inl (G.2 0, nn, .inl (kI ar))), (zq, .inl (G.2 4, nn, .inr (.inr (.inr (.inr (kRn nn ro)))))), (zp, .inl (G.2 3, np, .inr (.inr (.inr (.inr (kRn np rp))))))] ++ va_pl L f) sz [.ref zs, .int (-1), .int (nI to)]) (va_Qr (fun (u : Unit) => True) (fun (u : Unit) (ra : Nat) t => kA G (va_A ([(zs, .inr (5, [.int (nI mi), .ref za, .ref zw, .ref zq, .ref zp])), (za, .inl (G.2 0, nn, .inl (kI ar))), (zq, .inl (G.2 4, nn, .inr (.inr (.inr (.inr (kRn nn ro)))))), (zp, .inl (G.2 3, np, .inr (.inr (.inr (.inr (kRn np rp))))))] ++ va_pl L f) sz) ([(zs, .inr (5, [.int (nI mi), .ref za, .ref zw, .ref zq, .ref zp])), (za, .inl (G.2 0, nn, .inl (kI ar))), (zq, .inl (G.2 4, nn, .inr (.inr (.inr (.inr (kRn nn ro)))))), (zp, .inl (G.2 3, np, .inr (.inr (.inr (.inr (kRn np rp)))))), (ra, .inl (G.2 0, nn, .inl (kI (zFar (zStT ln op) fs sn np nn to))))] ++ va_pl L f) t) (va_A ([(zs, .inr (5, [.int (nI mi), .ref za, .ref zw, .ref zq, .ref zp])), (za, .inl (G.2 0, nn, .inl (kI ar))), (zq, .inl (G.2 4, nn, .inr (.inr (.inr (.inr (kRn nn ro)))))), (zp, .inl (G.2 3, np, .inr (.inr (.inr (.inr (kRn np rp))))))] ++ va_pl L f) sz)) 1 7 (va_A ([(zs, .inr (5, [.int (nI mi), .ref za, .ref zw, .ref zq, .ref zp])), (za, .inl (G.2 0, nn, .inl (kI ar))), (zq, .inl (G.2 4, nn, .inr (.inr (.inr (.inr (kRn nn ro)))))), (zp, .inl (G.2 3, np, .inr (.inr (.inr (.inr (kRn np rp))))))] ++ va_pl L f) sz) := by
  refine Met.ofW (cc := cX5_far) (maxL := 8) (ret := (some (.array .int))) (by decide) rfl ?_
  intro p e s m args below meth c s₁ B hml hv
  obtain ⟨rfl, hsz, hP, hK, hD0⟩ := hv
  have hx := B.exec
  have hb := B.bytes
  have hr := B.returns
  have hts := atoms_spec (ws := wsX5_far) B.pre
  have hown : s.vm.findClass RX5 = some m.cls := findClass_of_methodNamed B.named
  have hlocks := B.notSynchronized
  have hK : va_K G.1 vwCl (kT G) s := hK
  subst hsz
  have hD := hD0.self (sz := s.heap.size)
  generalize hAe : va_A ([(zs, .inr (5, [.int (nI mi), .ref za, .ref zw, .ref zq, .ref zp])), (za, .inl (G.2 0, nn, .inl (kI ar))), (zq, .inl (G.2 4, nn, .inr (.inr (.inr (.inr (kRn nn ro)))))), (zp, .inl (G.2 3, np, .inr (.inr (.inr (.inr (kRn np rp))))))] ++ va_pl L f) s.heap.size = A at hD ⊢
  have hA : ∀ q : Nat, s.heap.size ≤ q → A q := fun q h => by rw [← hAe]; exact Or.inr h
  have hS : va_S A s.heap s.heap [] := va_S.rf
  have hP : va_P G.1 vwCl ([(zs, .inr (5, [.int (nI mi), .ref za, .ref zw, .ref zq, .ref zp])), (za, .inl (G.2 0, nn, .inl (kI ar))), (zq, .inl (G.2 4, nn, .inr (.inr (.inr (.inr (kRn nn ro)))))), (zp, .inl (G.2 3, np, .inr (.inr (.inr (.inr (kRn np rp))))))] ++ va_pl L f) s.heap := hP
  have hl := lv_entry ([.ref zs, .int (-1), .int (nI to)]) (n := 8) (Nat.le_of_ble_eq_true rfl)
  rw [lg_entry_eq]
  generalize (lg_sl ([.ref zs, .int (-1), .int (nI to)]) ++ List.replicate (8 - (lg_sl ([.ref zs, .int (-1), .int (nI to)])).length) Slot.unset).toArray = ls at hl ⊢
  have hl : lv_has ls 8 [(0, .ref zs), (1, .int (-1)), (2, .int (nI to))] := hl
  refine lv_aload_n hx hb dX5_far_0 rfl (lv_at hl 0 rfl) ?_
  refine va_get (D := G.1) (ci := 5) (v := .ref za) (C := RX5) (T := TX5) (N := 5) hx hb hts kX5_far_t_1 hown hK hP 0 rfl rfl 1 (by decide) (hts _ kX5_far_t_0) (fun _ h9 => h9) rfl dX5_far_1 ?_
  refine va_alen (v := nI nn) hx hb hK hP 1 0 rfl rfl rfl dX5_far_4 ?_
  refine kn_newi hx hb (hts _ kX5_far_t_2) hK hP hD hS hA (by omega) (Nat.le_of_ble_eq_true rfl) (show 0 + nn ≤ 7 from by omega) dX5_far_5 (fun q_1 H hP hD hS => ?_)
  have hP := va_P.swap hP
  have hD := va_D.swap hD
  have hP : va_P G.1 vwCl ([(zs, .inr (5, [.int (nI mi), .ref za, .ref zw, .ref zq, .ref zp])), (za, .inl (G.2 0, nn, .inl (kI ar))), (zq, .inl (G.2 4, nn, .inr (.inr (.inr (.inr (kRn nn ro)))))), (zp, .inl (G.2 3, np, .inr (.inr (.inr (.inr (kRn np rp)))))), (q_1, .inl (G.2 0, nn, .inl (kI (fun _ => 0))))] ++ va_pl L f) H := hP
  have hD : va_D A ([(zs, .inr (5, [.int (nI mi), .ref za, .ref zw, .ref zq, .ref zp])), (za, .inl (G.2 0, nn, .inl (kI ar))), (zq, .inl (G.2 4, nn, .inr (.inr (.inr (.inr (kRn nn ro)))))), (zp, .inl (G.2 3, np, .inr (.inr (.inr (.inr (kRn np rp)))))), (q_1, .inl (G.2 0, nn, .inl (kI (fun _ => 0))))] ++ va_pl L f) := hD
  refine W.widen (k := 1) (n := 0 + nn) (Nat.le_refl _) (Nat.le_refl _) ?_
  refine lv_astore_n (lv' := [(3, .ref q_1), (0, .ref zs), (1, .int (-1)), (2, .int (nI to))]) hx hb dX5_far_7 rfl hl (by decide) rfl (fun ls hl => ?_)
  refine lv_iconst (v := (nI 0)) hx hb dX5_far_8 (by decide) ?_
  refine lv_istore (lv' := [(4, .int (nI 0)), (3, .ref q_1), (0, .ref zs), (1, .int (-1)), (2, .int (nI to))]) hx hb dX5_far_9 hl (by decide) rfl (fun ls hl => ?_)
  have hc_11 : ∀ (n : Nat) (k : Nat) (g : Nat → Nat), nn - k < n → k ≤ nn → g = zFil to k → ∀ (H : Heap) (locs : List Loc), va_P G.1 vwCl ([(zs, .inr (5, [.int (nI mi), .ref za, .ref zw, .ref zq, .ref zp])), (za, .inl (G.2 0, nn, .inl (kI ar))), (zq, .inl (G.2 4, nn, .inr (.inr (.inr (.inr (kRn nn ro)))))), (zp, .inl (G.2 3, np, .inr (.inr (.inr (.inr (kRn np rp)))))), (q_1, .inl (G.2 0, nn, .inl (kI g)))] ++ va_pl L f) H → va_D A ([(zs, .inr (5, [.int (nI mi), .ref za, .ref zw, .ref zq, .ref zp])), (za, .inl (G.2 0, nn, .inl (kI ar))), (zq, .inl (G.2 4, nn, .inr (.inr (.inr (.inr (kRn nn ro)))))), (zp, .inl (G.2 3, np, .inr (.inr (.inr (.inr (kRn np rp)))))), (q_1, .inl (G.2 0, nn, .inl (kI g)))] ++ va_pl L f) → va_S A s.heap H locs → ∀ (ls : Array Slot), lv_has ls 8 [(4, .int (nI k)), (3, .ref q_1), (0, .ref zs), (1, .int (-1)), (2, .int (nI to))] → W p l e (headSpec wsX5_far ({ frames := 1, cells := 1, slots := 7, locals := 23 })).room s m [.ref zs, .int (-1), .int (nI to)].toArray below meth c H locs 1 (0 + nn) (MQ below (va_Qr (fun (u : Unit) => True) (fun (u : Unit) (ra : Nat) t => kA G A ([(zs, .inr (5, [.int (nI mi), .ref za, .ref zw, .ref zq, .ref zp])), (za, .inl (G.2 0, nn, .inl (kI ar))), (zq, .inl (G.2 4, nn, .inr (.inr (.inr (.inr (kRn nn ro)))))), (zp, .inl (G.2 3, np, .inr (.inr (.inr (.inr (kRn np rp)))))), (ra, .inl (G.2 0, nn, .inl (kI (zFar (zStT ln op) fs sn np nn to))))] ++ va_pl L f) t) A) [.ref zs, .int (-1), .int (nI to)].toArray s 1 7 A) (F0 m 11 ls []) := by
    intro n
    induction n with
    | zero =>
      intro k g hmz; exact absurd hmz (Nat.not_lt_zero _)
    | succ n ih11 =>
      intro k g hmz hk hg H locs hP hD hS ls hl
      refine lv_iload hx hb dX5_far_11 (lv_at hl 0 rfl) ?_
      refine lv_aload_n hx hb dX5_far_13 rfl (lv_at hl 1 rfl) ?_
      refine va_alen (v := nI nn) hx hb hK hP 4 0 rfl rfl rfl dX5_far_14 ?_
      refine kb_ge (tgt := 40) hx hb dX5_far_15 (by decide) (by omega) (by omega) (fun c_2 => ?_) (fun c_2 => ?_)
      · refine lv_iconst (v := (nI 0)) hx hb dX5_far_40 (by decide) ?_
        refine lv_istore (lv' := [(4, .int (nI 0)), (3, .ref q_1), (0, .ref zs), (1, .int (-1)), (2, .int (nI to))]) hx hb dX5_far_41 hl (by decide) rfl (fun ls hl => ?_)
        have hc_43 : ∀ (n : Nat) (k : Nat) (g : Nat → Nat), nn - k < n → k ≤ nn → g = (zItr (zStT ln op) fs sn np (zIni nn to) k) → (∀ j, j < nn → g j ≤ 99999999) → ∀ (H : Heap) (locs : List Loc), va_P G.1 vwCl ([(zs, .inr (5, [.int (nI mi), .ref za, .ref zw, .ref zq, .ref zp])), (za, .inl (G.2 0, nn, .inl (kI ar))), (zq, .inl (G.2 4, nn, .inr (.inr (.inr (.inr (kRn nn ro)))))), (zp, .inl (G.2 3, np, .inr (.inr (.inr (.inr (kRn np rp)))))), (q_1, .inl (G.2 0, nn, .inl (kI g)))] ++ va_pl L f) H → va_D A ([(zs, .inr (5, [.int (nI mi), .ref za, .ref zw, .ref zq, .ref zp])), (za, .inl (G.2 0, nn, .inl (kI ar))), (zq, .inl (G.2 4, nn, .inr (.inr (.inr (.inr (kRn nn ro)))))), (zp, .inl (G.2 3, np, .inr (.inr (.inr (.inr (kRn np rp)))))), (q_1, .inl (G.2 0, nn, .inl (kI g)))] ++ va_pl L f) → va_S A s.heap H locs → ∀ (ls : Array Slot), lv_has ls 8 [(4, .int (nI k)), (3, .ref q_1), (0, .ref zs), (1, .int (-1)), (2, .int (nI to))] → W p l e (headSpec wsX5_far ({ frames := 1, cells := 1, slots := 7, locals := 23 })).room s m [.ref zs, .int (-1), .int (nI to)].toArray below meth c H locs 1 (0 + nn) (MQ below (va_Qr (fun (u : Unit) => True) (fun (u : Unit) (ra : Nat) t => kA G A ([(zs, .inr (5, [.int (nI mi), .ref za, .ref zw, .ref zq, .ref zp])), (za, .inl (G.2 0, nn, .inl (kI ar))), (zq, .inl (G.2 4, nn, .inr (.inr (.inr (.inr (kRn nn ro)))))), (zp, .inl (G.2 3, np, .inr (.inr (.inr (.inr (kRn np rp)))))), (ra, .inl (G.2 0, nn, .inl (kI (zFar (zStT ln op) fs sn np nn to))))] ++ va_pl L f) t) A) [.ref zs, .int (-1), .int (nI to)].toArray s 1 7 A) (F0 m 43 ls []) := by
          intro n
          induction n with
          | zero =>
            intro k g hmz; exact absurd hmz (Nat.not_lt_zero _)
          | succ n ih43 =>
            intro k g hmz hk hg hgb H locs hP hD hS ls hl
            refine lv_iload hx hb dX5_far_43 (lv_at hl 0 rfl) ?_
            refine lv_aload_n hx hb dX5_far_45 rfl (lv_at hl 1 rfl) ?_
            refine va_alen (v := nI nn) hx hb hK hP 4 0 rfl rfl rfl dX5_far_46 ?_
            refine kb_ge (tgt := 137) hx hb dX5_far_47 (by decide) (by omega) (by omega) (fun c_3 => ?_) (fun c_3 => ?_)
            · obtain rfl : nn = k := by omega
              obtain ⟨g2, hgg2⟩ : ∃ z, z = g := ⟨_, rfl⟩
              have hg2 := hgg2.trans hg
              refine lv_iconst (v := (nI 0)) hx hb dX5_far_137 (by decide) ?_
              refine lv_istore (lv' := [(4, .int (nI 0)), (3, .ref q_1), (0, .ref zs), (1, .int (-1)), (2, .int (nI to))]) hx hb dX5_far_138 hl (by decide) rfl (fun ls hl => ?_)
              have hc_140 : ∀ (n : Nat) (j : Nat) (g : Nat → Nat), nn - j < n → j ≤ nn → g = zClamp g2 j → (∀ j, j < nn → g j ≤ 99999999) → ∀ (H : Heap) (locs : List Loc), va_P G.1 vwCl ([(zs, .inr (5, [.int (nI mi), .ref za, .ref zw, .ref zq, .ref zp])), (za, .inl (G.2 0, nn, .inl (kI ar))), (zq, .inl (G.2 4, nn, .inr (.inr (.inr (.inr (kRn nn ro)))))), (zp, .inl (G.2 3, np, .inr (.inr (.inr (.inr (kRn np rp)))))), (q_1, .inl (G.2 0, nn, .inl (kI g)))] ++ va_pl L f) H → va_D A ([(zs, .inr (5, [.int (nI mi), .ref za, .ref zw, .ref zq, .ref zp])), (za, .inl (G.2 0, nn, .inl (kI ar))), (zq, .inl (G.2 4, nn, .inr (.inr (.inr (.inr (kRn nn ro)))))), (zp, .inl (G.2 3, np, .inr (.inr (.inr (.inr (kRn np rp)))))), (q_1, .inl (G.2 0, nn, .inl (kI g)))] ++ va_pl L f) → va_S A s.heap H locs → ∀ (ls : Array Slot), lv_has ls 8 [(4, .int (nI j)), (3, .ref q_1), (0, .ref zs), (1, .int (-1)), (2, .int (nI to))] → W p l e (headSpec wsX5_far ({ frames := 1, cells := 1, slots := 7, locals := 23 })).room s m [.ref zs, .int (-1), .int (nI to)].toArray below meth c H locs 1 (0 + nn) (MQ below (va_Qr (fun (u : Unit) => True) (fun (u : Unit) (ra : Nat) t => kA G A ([(zs, .inr (5, [.int (nI mi), .ref za, .ref zw, .ref zq, .ref zp])), (za, .inl (G.2 0, nn, .inl (kI ar))), (zq, .inl (G.2 4, nn, .inr (.inr (.inr (.inr (kRn nn ro)))))), (zp, .inl (G.2 3, np, .inr (.inr (.inr (.inr (kRn np rp)))))), (ra, .inl (G.2 0, nn, .inl (kI (zFar (zStT ln op) fs sn np nn to))))] ++ va_pl L f) t) A) [.ref zs, .int (-1), .int (nI to)].toArray s 1 7 A) (F0 m 140 ls []) := by
                intro n
                induction n with
                | zero =>
                  intro j g hmz; exact absurd hmz (Nat.not_lt_zero _)
                | succ n ih140 =>
                  intro j g hmz hj hg hgb H locs hP hD hS ls hl
                  refine lv_iload hx hb dX5_far_140 (lv_at hl 0 rfl) ?_
                  refine lv_aload_n hx hb dX5_far_142 rfl (lv_at hl 1 rfl) ?_
                  refine va_alen (v := nI nn) hx hb hK hP 4 0 rfl rfl rfl dX5_far_143 ?_
                  refine kb_ge (tgt := 166) hx hb dX5_far_144 (by decide) (by omega) (by omega) (fun c_4 => ?_) (fun c_4 => ?_)
                  · refine lv_aload_n hx hb dX5_far_166 rfl (lv_at hl 1 rfl) ?_
                    obtain rfl : nn = j := by omega
                    subst hg
                    subst hg2
                    have hP9 : va_P G.1 vwCl ([(zs, .inr (5, [.int (nI mi), .ref za, .ref zw, .ref zq, .ref zp])), (za, .inl (G.2 0, nn, .inl (kI ar))), (zq, .inl (G.2 4, nn, .inr (.inr (.inr (.inr (kRn nn ro)))))), (zp, .inl (G.2 3, np, .inr (.inr (.inr (.inr (kRn np rp)))))), (q_1, .inl (G.2 0, nn, .inl (kI (zFar (zStT ln op) fs sn np nn to))))] ++ va_pl L f) _ := hP.part (cx := [(zs, .inr (5, [.int (nI mi), .ref za, .ref zw, .ref zq, .ref zp])), (za, .inl (G.2 0, nn, .inl (kI ar))), (zq, .inl (G.2 4, nn, .inr (.inr (.inr (.inr (kRn nn ro)))))), (zp, .inl (G.2 3, np, .inr (.inr (.inr (.inr (kRn np rp)))))), (q_1, .inl (G.2 0, nn, .inl (kI (zFar (zStT ln op) fs sn np nn to))))]) [0, 1, 2, 3, 4] rfl
                    have hD9 : va_D A ([(zs, .inr (5, [.int (nI mi), .ref za, .ref zw, .ref zq, .ref zp])), (za, .inl (G.2 0, nn, .inl (kI ar))), (zq, .inl (G.2 4, nn, .inr (.inr (.inr (.inr (kRn nn ro)))))), (zp, .inl (G.2 3, np, .inr (.inr (.inr (.inr (kRn np rp)))))), (q_1, .inl (G.2 0, nn, .inl (kI (zFar (zStT ln op) fs sn np nn to))))] ++ va_pl L f) := hD.part (cx := [(zs, .inr (5, [.int (nI mi), .ref za, .ref zw, .ref zq, .ref zp])), (za, .inl (G.2 0, nn, .inl (kI ar))), (zq, .inl (G.2 4, nn, .inr (.inr (.inr (.inr (kRn nn ro)))))), (zp, .inl (G.2 3, np, .inr (.inr (.inr (.inr (kRn np rp)))))), (q_1, .inl (G.2 0, nn, .inl (kI (zFar (zStT ln op) fs sn np nn to))))]) [0, 1, 2, 3, 4] (by decide) rfl
                    refine W.widen (k := 1) (n := 7) (Nat.le_of_ble_eq_true rfl) (by omega) ?_
                    exact km_nret (post := fun (u : Unit) => True) (wo := fun (u : Unit) (ra : Nat) => ([(zs, .inr (5, [.int (nI mi), .ref za, .ref zw, .ref zq, .ref zp])), (za, .inl (G.2 0, nn, .inl (kI ar))), (zq, .inl (G.2 4, nn, .inr (.inr (.inr (.inr (kRn nn ro)))))), (zp, .inl (G.2 3, np, .inr (.inr (.inr (.inr (kRn np rp)))))), (ra, .inl (G.2 0, nn, .inl (kI (zFar (zStT ln op) fs sn np nn to))))] ++ va_pl L f)) () hx hb hr (Or.inr ⟨_, rfl⟩) hlocks hS hP9 hD9 (trivial) dX5_far_167
                  · have hb1 := hgb j (by omega)
                    refine lv_aload_n hx hb dX5_far_147 rfl (lv_at hl 1 rfl) ?_
                    refine lv_iload hx hb dX5_far_148 (lv_at hl 0 rfl) ?_
                    refine lv_aload_n hx hb dX5_far_150 rfl (lv_at hl 1 rfl) ?_
                    refine lv_iload hx hb dX5_far_151 (lv_at hl 0 rfl) ?_
                    refine kr_iald (k := j) (v := (nI (g j))) hx hb hK hP 4 0 rfl rfl (by omega) (by omega) rfl dX5_far_153 ?_
                    refine lv_ldc (v := (99999999)) hx hb hown (hts _ kX5_far_t_3) dX5_far_154 ?_
                    refine kr_top (show ((99999999) : Int32) = nI 99999999 from by decide) ?_
                    refine va_mmin hx hb (by rw [hml]; exact hl.1.symm) hown (hts _ kX5_far_t_4) (hts _ kX5_far_t_5) (hts _ kX5_far_t_6) (hts _ kX5_far_t_7) (Nat.le_of_ble_eq_true rfl) (Nat.le_of_ble_eq_true rfl) (Nat.le_of_ble_eq_true rfl) (show 0 + nn ≤ 7 from by omega) dX5_far_156 ?_
                    refine kr_top (y := nI (min (g j) 99999999)) (kp_min _ _ (by omega) (by decide)) ?_
                    refine kr_iast (k := j) (g := (kI (va_up g j (min (g j) 99999999)))) hx hb hK hP hD hS 4 0 rfl rfl (by omega) (by omega) (kI_up g j (min (g j) 99999999)) dX5_far_159 (fun H locs hP hD hS => ?_)
                    have hP : va_P G.1 vwCl ([(zs, .inr (5, [.int (nI mi), .ref za, .ref zw, .ref zq, .ref zp])), (za, .inl (G.2 0, nn, .inl (kI ar))), (zq, .inl (G.2 4, nn, .inr (.inr (.inr (.inr (kRn nn ro)))))), (zp, .inl (G.2 3, np, .inr (.inr (.inr (.inr (kRn np rp)))))), (q_1, .inl (G.2 0, nn, .inl (kI (va_up g j (min (g j) 99999999)))))] ++ va_pl L f) H := hP
                    have hD : va_D A ([(zs, .inr (5, [.int (nI mi), .ref za, .ref zw, .ref zq, .ref zp])), (za, .inl (G.2 0, nn, .inl (kI ar))), (zq, .inl (G.2 4, nn, .inr (.inr (.inr (.inr (kRn nn ro)))))), (zp, .inl (G.2 3, np, .inr (.inr (.inr (.inr (kRn np rp)))))), (q_1, .inl (G.2 0, nn, .inl (kI (va_up g j (min (g j) 99999999)))))] ++ va_pl L f) := hD
                    refine lv_iinc (k := 0) (v := (nI (j + 1))) (lv' := [(4, .int (nI (j + 1))), (3, .ref q_1), (0, .ref zs), (1, .int (-1)), (2, .int (nI to))]) hx hb dX5_far_160 hl rfl (kn_inc j) (by decide) rfl (fun ls hl => ?_)
                    refine lv_goto (tgt := 140) hx hb dX5_far_163 (by decide) ?_
                    exact ih140 (j + 1) (va_up g j (min (g j) 99999999)) (by omega) (by omega) (by rw [hg, zClamp_at]; exact zClamp_up g2 j) (by intro j9 hj9; unfold va_up; split <;> first | exact Nat.min_le_right _ _ | exact hgb j9 hj9) _ _ hP hD hS _ (lv_sub hl [0, 1, 2, 3, 4] rfl)
              exact hc_140 (_ + 1) 0 g (Nat.lt_succ_self _) (by omega) (by rw [hgg2]; exact (zClamp_0 g).symm) (by exact hgb) _ _ hP hD hS _ (lv_sub hl [0, 1, 2, 3, 4] rfl)
            · obtain ⟨g0, hgg0⟩ : ∃ z, z = g := ⟨_, rfl⟩
              have hg0 := hgg0.trans hg
              refine lv_iconst (v := (nI 0)) hx hb dX5_far_50 (by decide) ?_
              refine lv_istore (lv' := [(5, .int (nI 0)), (4, .int (nI k)), (3, .ref q_1), (0, .ref zs), (1, .int (-1)), (2, .int (nI to))]) hx hb dX5_far_51 hl (by decide) rfl (fun ls hl => ?_)
              have hc_53 : ∀ (n : Nat) (i : Nat) (g : Nat → Nat), np - i < n → i ≤ np → g = (zRnd (zStT ln op) fs sn g0 i) → (∀ j, j < nn → g j ≤ 99999999) → ∀ (H : Heap) (locs : List Loc), va_P G.1 vwCl ([(zs, .inr (5, [.int (nI mi), .ref za, .ref zw, .ref zq, .ref zp])), (za, .inl (G.2 0, nn, .inl (kI ar))), (zq, .inl (G.2 4, nn, .inr (.inr (.inr (.inr (kRn nn ro)))))), (zp, .inl (G.2 3, np, .inr (.inr (.inr (.inr (kRn np rp)))))), (q_1, .inl (G.2 0, nn, .inl (kI g)))] ++ va_pl L f) H → va_D A ([(zs, .inr (5, [.int (nI mi), .ref za, .ref zw, .ref zq, .ref zp])), (za, .inl (G.2 0, nn, .inl (kI ar))), (zq, .inl (G.2 4, nn, .inr (.inr (.inr (.inr (kRn nn ro)))))), (zp, .inl (G.2 3, np, .inr (.inr (.inr (.inr (kRn np rp)))))), (q_1, .inl (G.2 0, nn, .inl (kI g)))] ++ va_pl L f) → va_S A s.heap H locs → ∀ (ls : Array Slot), lv_has ls 8 [(5, .int (nI i)), (4, .int (nI k)), (3, .ref q_1), (0, .ref zs), (1, .int (-1)), (2, .int (nI to))] → W p l e (headSpec wsX5_far ({ frames := 1, cells := 1, slots := 7, locals := 23 })).room s m [.ref zs, .int (-1), .int (nI to)].toArray below meth c H locs 1 (0 + nn) (MQ below (va_Qr (fun (u : Unit) => True) (fun (u : Unit) (ra : Nat) t => kA G A ([(zs, .inr (5, [.int (nI mi), .ref za, .ref zw, .ref zq, .ref zp])), (za, .inl (G.2 0, nn, .inl (kI ar))), (zq, .inl (G.2 4, nn, .inr (.inr (.inr (.inr (kRn nn ro)))))), (zp, .inl (G.2 3, np, .inr (.inr (.inr (.inr (kRn np rp)))))), (ra, .inl (G.2 0, nn, .inl (kI (zFar (zStT ln op) fs sn np nn to))))] ++ va_pl L f) t) A) [.ref zs, .int (-1), .int (nI to)].toArray s 1 7 A) (F0 m 53 ls []) := by
                intro n
                induction n with
                | zero =>
                  intro i g hmz; exact absurd hmz (Nat.not_lt_zero _)
                | succ n ih53 =>
                  intro i g hmz hi hg hgb H locs hP hD hS ls hl
                  refine lv_iload hx hb dX5_far_53 (lv_at hl 0 rfl) ?_
                  refine lv_aload_n hx hb dX5_far_55 rfl (lv_at hl 3 rfl) ?_
                  refine va_get (D := G.1) (ci := 5) (v := .ref zp) (C := RX5) (T := TX5) (N := 5) hx hb hts kX5_far_t_1 hown hK hP 0 rfl rfl 4 (by decide) (hts _ kX5_far_t_8) (fun _ h9 => h9) rfl dX5_far_56 ?_
                  refine va_alen (v := nI np) hx hb hK hP 3 3 rfl rfl rfl dX5_far_59 ?_
                  refine kb_ge (tgt := 131) hx hb dX5_far_60 (by decide) (by omega) (by omega) (fun c_5 => ?_) (fun c_5 => ?_)
                  · refine lv_iinc (k := 1) (v := (nI (k + 1))) (lv' := [(4, .int (nI (k + 1))), (5, .int (nI i)), (3, .ref q_1), (0, .ref zs), (1, .int (-1)), (2, .int (nI to))]) hx hb dX5_far_131 hl rfl (kn_inc k) (by decide) rfl (fun ls hl => ?_)
                    refine lv_goto (tgt := 43) hx hb dX5_far_134 (by decide) ?_
                    exact ih43 (k + 1) g (by omega) (by omega) (by rw [hg, show i = np by omega, hg0]; rfl) (by exact hgb) _ _ hP hD hS _ (lv_sub hl [0, 2, 3, 4, 5] rfl)
                  · obtain ⟨g1, hgg1⟩ : ∃ z, z = g := ⟨_, rfl⟩
                    have hg1 := hgg1.trans hg
                    refine lv_iconst (v := (nI 0)) hx hb dX5_far_63 (by decide) ?_
                    refine lv_istore (lv' := [(6, .int (nI 0)), (5, .int (nI i)), (4, .int (nI k)), (3, .ref q_1), (0, .ref zs), (1, .int (-1)), (2, .int (nI to))]) hx hb dX5_far_64 hl (by decide) rfl (fun ls hl => ?_)
                    have hc_66 : ∀ (n : Nat) (sd : Nat) (g : Nat → Nat), 2 - sd < n → sd ≤ 2 → g = zSd (zStT ln op) fs sn g1 i sd → (∀ j, j < nn → g j ≤ 99999999) → ∀ (H : Heap) (locs : List Loc), va_P G.1 vwCl ([(zs, .inr (5, [.int (nI mi), .ref za, .ref zw, .ref zq, .ref zp])), (za, .inl (G.2 0, nn, .inl (kI ar))), (zq, .inl (G.2 4, nn, .inr (.inr (.inr (.inr (kRn nn ro)))))), (zp, .inl (G.2 3, np, .inr (.inr (.inr (.inr (kRn np rp)))))), (q_1, .inl (G.2 0, nn, .inl (kI g)))] ++ va_pl L f) H → va_D A ([(zs, .inr (5, [.int (nI mi), .ref za, .ref zw, .ref zq, .ref zp])), (za, .inl (G.2 0, nn, .inl (kI ar))), (zq, .inl (G.2 4, nn, .inr (.inr (.inr (.inr (kRn nn ro)))))), (zp, .inl (G.2 3, np, .inr (.inr (.inr (.inr (kRn np rp)))))), (q_1, .inl (G.2 0, nn, .inl (kI g)))] ++ va_pl L f) → va_S A s.heap H locs → ∀ (ls : Array Slot), lv_has ls 8 [(6, .int (nI sd)), (5, .int (nI i)), (4, .int (nI k)), (3, .ref q_1), (0, .ref zs), (1, .int (-1)), (2, .int (nI to))] → W p l e (headSpec wsX5_far ({ frames := 1, cells := 1, slots := 7, locals := 23 })).room s m [.ref zs, .int (-1), .int (nI to)].toArray below meth c H locs 1 (0 + nn) (MQ below (va_Qr (fun (u : Unit) => True) (fun (u : Unit) (ra : Nat) t => kA G A ([(zs, .inr (5, [.int (nI mi), .ref za, .ref zw, .ref zq, .ref zp])), (za, .inl (G.2 0, nn, .inl (kI ar))), (zq, .inl (G.2 4, nn, .inr (.inr (.inr (.inr (kRn nn ro)))))), (zp, .inl (G.2 3, np, .inr (.inr (.inr (.inr (kRn np rp)))))), (ra, .inl (G.2 0, nn, .inl (kI (zFar (zStT ln op) fs sn np nn to))))] ++ va_pl L f) t) A) [.ref zs, .int (-1), .int (nI to)].toArray s 1 7 A) (F0 m 66 ls []) := by
                      intro n
                      induction n with
                      | zero =>
                        intro sd g hmz; exact absurd hmz (Nat.not_lt_zero _)
                      | succ n ih66 =>
                        intro sd g hmz hsd hg hgb H locs hP hD hS ls hl
                        refine lv_iload hx hb dX5_far_66 (lv_at hl 0 rfl) ?_
                        refine lv_iconst (v := (nI 2)) hx hb dX5_far_68 (by decide) ?_
                        refine kb_ge (tgt := 125) hx hb dX5_far_69 (by decide) (by omega) (by decide) (fun c_6 => ?_) (fun c_6 => ?_)
                        · refine lv_iinc (k := 1) (v := (nI (i + 1))) (lv' := [(5, .int (nI (i + 1))), (6, .int (nI sd)), (4, .int (nI k)), (3, .ref q_1), (0, .ref zs), (1, .int (-1)), (2, .int (nI to))]) hx hb dX5_far_125 hl rfl (kn_inc i) (by decide) rfl (fun ls hl => ?_)
                          refine lv_goto (tgt := 53) hx hb dX5_far_128 (by decide) ?_
                          exact ih53 (i + 1) g (by omega) (by omega) (by rw [hg, show sd = 2 by omega, hg1]; rfl) (by exact hgb) _ _ hP hD hS _ (lv_sub hl [0, 2, 3, 4, 5, 6] rfl)
                        · have hei := hen i (by omega)
                          have hs9 : (zStT ln op) i sd ≤ 99999999 := zStT_le hln
                          have hz1 : zEnd fs sn i sd < nn := by unfold zEnd; split <;> omega
                          have hz2 : zEnd fs sn i (1 - sd) < nn := by unfold zEnd; split <;> omega
                          have hb1 := hgb _ hz1
                          have hb2 := hgb _ hz2
                          refine lv_aload_n hx hb dX5_far_72 rfl (lv_at hl 4 rfl) ?_
                          refine va_get (D := G.1) (ci := 5) (v := .ref zp) (C := RX5) (T := TX5) (N := 5) hx hb hts kX5_far_t_1 hown hK hP 0 rfl rfl 4 (by decide) (hts _ kX5_far_t_8) (fun _ h9 => h9) rfl dX5_far_73 ?_
                          refine lv_iload hx hb dX5_far_76 (lv_at hl 1 rfl) ?_
                          refine kr_aldA (k := i) (v := .ref (rp i)) hx hb hK hP 3 3 rfl rfl (by omega) (by omega) (kRn_at (by omega)) dX5_far_78 ?_
                          refine lv_iload hx hb dX5_far_79 (lv_at hl 0 rfl) ?_
                          refine kp_ialf (k := sd) (v := (nI (zEnd fs sn i sd))) hx hb hK hP (hrp i (by omega)).1 (hrp i (by omega)).2 (by omega) (by decide) (congrArg nI (zP_end (by omega))) dX5_far_81 ?_
                          refine lv_istore (lv' := [(7, .int (nI (zEnd fs sn i sd))), (6, .int (nI sd)), (5, .int (nI i)), (4, .int (nI k)), (3, .ref q_1), (0, .ref zs), (1, .int (-1)), (2, .int (nI to))]) hx hb dX5_far_82 hl (by decide) rfl (fun ls hl => ?_)
                          refine lv_aload_n hx hb dX5_far_84 rfl (lv_at hl 4 rfl) ?_
                          refine lv_iload hx hb dX5_far_85 (lv_at hl 0 rfl) ?_
                          refine lv_aload_n hx hb dX5_far_87 rfl (lv_at hl 4 rfl) ?_
                          refine lv_iload hx hb dX5_far_88 (lv_at hl 0 rfl) ?_
                          refine kr_iald (k := (zEnd fs sn i sd)) (v := (nI (g (zEnd fs sn i sd)))) hx hb hK hP 4 0 rfl rfl (by omega) (by omega) rfl dX5_far_90 ?_
                          refine lv_aload_n hx hb dX5_far_91 rfl (lv_at hl 5 rfl) ?_
                          refine lv_iload_n hx hb dX5_far_92 rfl (lv_at hl 6 rfl) ?_
                          refine lv_iload hx hb dX5_far_93 (lv_at hl 2 rfl) ?_
                          refine lv_iload hx hb dX5_far_95 (lv_at hl 1 rfl) ?_
                          refine vp_callSi (W.runV (As := [.int (-1), .int (nI i), .int (nI sd)]) (rest := [.int (nI (g (zEnd fs sn i sd))), .int (nI (zEnd fs sn i sd)), .ref q_1]) ⟨hx, hb, hml, hown, hts⟩ (c_X5_step_t l G zs za zw zq zp nn np mi L f ro rr rp fs sn ln op SS ar ww i sd hrw hrr hrp (by omega) (by omega) hfs hsn hln hen (by omega) (by omega) (by omega)) (cwV 3 hts gX5_far_X5_step rfl rfl rfl (by decide +kernel) ⟨Nat.le_of_ble_eq_true rfl, Nat.le_of_ble_eq_true rfl⟩) (kPre_V (ws := ([(zs, .inr (5, [.int (nI mi), .ref za, .ref zw, .ref zq, .ref zp])), (zq, .inl (G.2 4, nn, .inr (.inr (.inr (.inr (kRn nn ro)))))), (zp, .inl (G.2 3, np, .inr (.inr (.inr (.inr (kRn np rp))))))] ++ va_pl L f)) hK (hP.part (cx := [(zs, .inr (5, [.int (nI mi), .ref za, .ref zw, .ref zq, .ref zp])), (zq, .inl (G.2 4, nn, .inr (.inr (.inr (.inr (kRn nn ro)))))), (zp, .inl (G.2 3, np, .inr (.inr (.inr (.inr (kRn np rp))))))]) [0, 2, 3] rfl) (RX5, TX5, 5) 0 rfl rfl) rfl rfl hl.1 rfl (lv_room (Nat.le_of_ble_eq_true rfl)) dX5_far_97 ⟨(show 1 + 0 ≤ 1 from by omega), (show 0 + nn + 0 ≤ 7 from by omega)⟩) (fun r_7 hr_7 => ?_)
                          subst hr_7
                          refine lv_aload_n hx hb dX5_far_100 rfl (lv_at hl 4 rfl) ?_
                          refine lv_aload_n hx hb dX5_far_101 rfl (lv_at hl 5 rfl) ?_
                          refine va_get (D := G.1) (ci := 5) (v := .ref zp) (C := RX5) (T := TX5) (N := 5) hx hb hts kX5_far_t_1 hown hK hP 0 rfl rfl 4 (by decide) (hts _ kX5_far_t_8) (fun _ h9 => h9) rfl dX5_far_102 ?_
                          refine lv_iload hx hb dX5_far_105 (lv_at hl 2 rfl) ?_
                          refine kr_aldA (k := i) (v := .ref (rp i)) hx hb hK hP 3 3 rfl rfl (by omega) (by omega) (kRn_at (by omega)) dX5_far_107 ?_
                          refine lv_iconst (v := (nI 1)) hx hb dX5_far_108 (by decide) ?_
                          refine lv_iload hx hb dX5_far_109 (lv_at hl 1 rfl) ?_
                          refine lv_isub hx hb dX5_far_111 ?_
                          refine kr_top (y := nI (1 - sd)) (pk_sub (by omega)) ?_
                          refine kp_ialf (k := (1 - sd)) (v := (nI (zEnd fs sn i (1 - sd)))) hx hb hK hP (hrp i (by omega)).1 (hrp i (by omega)).2 (by omega) (by decide) (congrArg nI (zP_end (by omega))) dX5_far_112 ?_
                          refine kr_iald (k := (zEnd fs sn i (1 - sd))) (v := (nI (g (zEnd fs sn i (1 - sd))))) hx hb hK hP 4 0 rfl rfl (by omega) (by omega) rfl dX5_far_113 ?_
                          refine lv_iadd hx hb dX5_far_114 ?_
                          refine kr_top (y := nI ((zStT ln op i sd) + (g (zEnd fs sn i (1 - sd))))) (nI_add (zStT ln op i sd) (g (zEnd fs sn i (1 - sd)))) ?_
                          refine va_mmin hx hb (by rw [hml]; exact hl.1.symm) hown (hts _ kX5_far_t_4) (hts _ kX5_far_t_5) (hts _ kX5_far_t_6) (hts _ kX5_far_t_7) (Nat.le_of_ble_eq_true rfl) (Nat.le_of_ble_eq_true rfl) (Nat.le_of_ble_eq_true rfl) (show 0 + nn ≤ 7 from by omega) dX5_far_115 ?_
                          refine kr_top (y := nI (min (g (zEnd fs sn i sd)) ((zStT ln op i sd) + (g (zEnd fs sn i (1 - sd)))))) (kp_min _ _ (by omega) (by omega)) ?_
                          refine kr_iast (k := (zEnd fs sn i sd)) (g := (kI (va_up g (zEnd fs sn i sd) (min (g (zEnd fs sn i sd)) ((zStT ln op i sd) + (g (zEnd fs sn i (1 - sd)))))))) hx hb hK hP hD hS 4 0 rfl rfl (by omega) (by omega) (kI_up g (zEnd fs sn i sd) (min (g (zEnd fs sn i sd)) ((zStT ln op i sd) + (g (zEnd fs sn i (1 - sd)))))) dX5_far_118 (fun H locs hP hD hS => ?_)
                          have hP : va_P G.1 vwCl ([(zs, .inr (5, [.int (nI mi), .ref za, .ref zw, .ref zq, .ref zp])), (za, .inl (G.2 0, nn, .inl (kI ar))), (zq, .inl (G.2 4, nn, .inr (.inr (.inr (.inr (kRn nn ro)))))), (zp, .inl (G.2 3, np, .inr (.inr (.inr (.inr (kRn np rp)))))), (q_1, .inl (G.2 0, nn, .inl (kI (va_up g (zEnd fs sn i sd) (min (g (zEnd fs sn i sd)) ((zStT ln op i sd) + (g (zEnd fs sn i (1 - sd)))))))))] ++ va_pl L f) H := hP
                          have hD : va_D A ([(zs, .inr (5, [.int (nI mi), .ref za, .ref zw, .ref zq, .ref zp])), (za, .inl (G.2 0, nn, .inl (kI ar))), (zq, .inl (G.2 4, nn, .inr (.inr (.inr (.inr (kRn nn ro)))))), (zp, .inl (G.2 3, np, .inr (.inr (.inr (.inr (kRn np rp)))))), (q_1, .inl (G.2 0, nn, .inl (kI (va_up g (zEnd fs sn i sd) (min (g (zEnd fs sn i sd)) ((zStT ln op i sd) + (g (zEnd fs sn i (1 - sd)))))))))] ++ va_pl L f) := hD
                          refine lv_iinc (k := 1) (v := (nI (sd + 1))) (lv' := [(6, .int (nI (sd + 1))), (7, .int (nI (zEnd fs sn i sd))), (5, .int (nI i)), (4, .int (nI k)), (3, .ref q_1), (0, .ref zs), (1, .int (-1)), (2, .int (nI to))]) hx hb dX5_far_119 hl rfl (kn_inc sd) (by decide) rfl (fun ls hl => ?_)
                          refine lv_goto (tgt := 66) hx hb dX5_far_122 (by decide) ?_
                          exact ih66 (sd + 1) (va_up g (zEnd fs sn i sd) (min (g (zEnd fs sn i sd)) ((zStT ln op i sd) + (g (zEnd fs sn i (1 - sd)))))) (by omega) (by omega) (by rw [hg]; rfl) (by intro j hj; show zHalf (zStT ln op) fs sn g i sd j ≤ _; exact zHalf_b hgb j hj) _ _ hP hD hS _ (lv_sub hl [0, 2, 3, 4, 5, 6, 7] rfl)
                    exact hc_66 (_ + 1) 0 g (Nat.lt_succ_self _) (by omega) (by exact hgg1.symm) (by exact hgb) _ _ hP hD hS _ (lv_sub hl [0, 1, 2, 3, 4, 5, 6] rfl)
              exact hc_53 (_ + 1) 0 g (Nat.lt_succ_self _) (by omega) (by exact hgg0.symm) (by exact hgb) _ _ hP hD hS _ (lv_sub hl [0, 1, 2, 3, 4, 5] rfl)
        exact hc_43 (_ + 1) 0 g (Nat.lt_succ_self _) (by omega) (by rw [hg, show k = nn by omega]; rfl) (by intro j hj; rw [hg]; unfold zFil; split <;> (try split) <;> omega) _ _ hP hD hS _ (lv_sub hl [0, 1, 2, 3, 4] rfl)
      · refine lv_aload_n hx hb dX5_far_18 rfl (lv_at hl 1 rfl) ?_
        refine lv_iload hx hb dX5_far_19 (lv_at hl 0 rfl) ?_
        refine lv_iload hx hb dX5_far_21 (lv_at hl 0 rfl) ?_
        refine lv_iload_n hx hb dX5_far_23 rfl (lv_at hl 4 rfl) ?_
        refine kb_ne (tgt := 31) hx hb dX5_far_24 (by decide) (by omega) (by omega) (fun c_8 => ?_) (fun c_8 => ?_)
        · have hq := c_8
          refine lv_ldc (v := (99999999)) hx hb hown (hts _ kX5_far_t_3) dX5_far_31 ?_
          refine kr_top (show ((99999999) : Int32) = nI 99999999 from by decide) ?_
          refine kr_iast (k := k) (g := (kI (va_up g k 99999999))) hx hb hK hP hD hS 4 0 rfl rfl (by omega) (by omega) (kI_up g k 99999999) dX5_far_33 (fun H locs hP hD hS => ?_)
          have hP : va_P G.1 vwCl ([(zs, .inr (5, [.int (nI mi), .ref za, .ref zw, .ref zq, .ref zp])), (za, .inl (G.2 0, nn, .inl (kI ar))), (zq, .inl (G.2 4, nn, .inr (.inr (.inr (.inr (kRn nn ro)))))), (zp, .inl (G.2 3, np, .inr (.inr (.inr (.inr (kRn np rp)))))), (q_1, .inl (G.2 0, nn, .inl (kI (va_up g k 99999999))))] ++ va_pl L f) H := hP
          have hD : va_D A ([(zs, .inr (5, [.int (nI mi), .ref za, .ref zw, .ref zq, .ref zp])), (za, .inl (G.2 0, nn, .inl (kI ar))), (zq, .inl (G.2 4, nn, .inr (.inr (.inr (.inr (kRn nn ro)))))), (zp, .inl (G.2 3, np, .inr (.inr (.inr (.inr (kRn np rp)))))), (q_1, .inl (G.2 0, nn, .inl (kI (va_up g k 99999999))))] ++ va_pl L f) := hD
          refine lv_iinc (k := 0) (v := (nI (k + 1))) (lv' := [(4, .int (nI (k + 1))), (3, .ref q_1), (0, .ref zs), (1, .int (-1)), (2, .int (nI to))]) hx hb dX5_far_34 hl rfl (kn_inc k) (by decide) rfl (fun ls hl => ?_)
          refine lv_goto (tgt := 11) hx hb dX5_far_37 (by decide) ?_
          exact ih11 (k + 1) (va_up g k 99999999) (by omega) (by omega) (by rw [hg]; exact zFil_up (by simp [hq])) _ _ hP hD hS _ (lv_sub hl [0, 1, 2, 3, 4] rfl)
        · have hq := c_8
          refine lv_iconst (v := (nI 0)) hx hb dX5_far_27 (by decide) ?_
          refine lv_goto (tgt := 33) hx hb dX5_far_28 (by decide) ?_
          refine kr_iast (k := k) (g := (kI (va_up g k 0))) hx hb hK hP hD hS 4 0 rfl rfl (by omega) (by omega) (kI_up g k 0) dX5_far_33 (fun H locs hP hD hS => ?_)
          have hP : va_P G.1 vwCl ([(zs, .inr (5, [.int (nI mi), .ref za, .ref zw, .ref zq, .ref zp])), (za, .inl (G.2 0, nn, .inl (kI ar))), (zq, .inl (G.2 4, nn, .inr (.inr (.inr (.inr (kRn nn ro)))))), (zp, .inl (G.2 3, np, .inr (.inr (.inr (.inr (kRn np rp)))))), (q_1, .inl (G.2 0, nn, .inl (kI (va_up g k 0))))] ++ va_pl L f) H := hP
          have hD : va_D A ([(zs, .inr (5, [.int (nI mi), .ref za, .ref zw, .ref zq, .ref zp])), (za, .inl (G.2 0, nn, .inl (kI ar))), (zq, .inl (G.2 4, nn, .inr (.inr (.inr (.inr (kRn nn ro)))))), (zp, .inl (G.2 3, np, .inr (.inr (.inr (.inr (kRn np rp)))))), (q_1, .inl (G.2 0, nn, .inl (kI (va_up g k 0))))] ++ va_pl L f) := hD
          refine lv_iinc (k := 0) (v := (nI (k + 1))) (lv' := [(4, .int (nI (k + 1))), (3, .ref q_1), (0, .ref zs), (1, .int (-1)), (2, .int (nI to))]) hx hb dX5_far_34 hl rfl (kn_inc k) (by decide) rfl (fun ls hl => ?_)
          refine lv_goto (tgt := 11) hx hb dX5_far_37 (by decide) ?_
          exact ih11 (k + 1) (va_up g k 0) (by omega) (by omega) (by rw [hg]; exact zFil_up (by simp [hq])) _ _ hP hD hS _ (lv_sub hl [0, 1, 2, 3, 4] rfl)
  exact hc_11 (_ + 1) 0 (fun _ => 0) (Nat.lt_succ_self _) (by omega) (by exact (zFil_0 to).symm) _ _ hP hD hS _ (lv_sub hl [0, 1, 2, 3, 4] rfl)
