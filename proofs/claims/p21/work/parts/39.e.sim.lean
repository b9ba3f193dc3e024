theorem kX5_pass_0 : Cond.fieldLink RX5 25 "PassNotesLaw$Sim" "passes" "[[I" ∈ wsX5_pass := by decide +kernel
theorem kX5_pass_1 : ∀ w ∈ wsX50, w ∈ wsX5_pass := by decide +kernel
theorem kX5_pass_2 : Cond.classLink RX5 24 "[I" ∈ wsX5_pass := by decide +kernel
theorem kX5_pass_3 : Cond.arrayClass .int ∈ wsX5_pass := by decide +kernel
set_option maxHeartbeats 4000000 in
set_option maxRecDepth 100000 in
theorem c_X5_pass (l : Launch) (G : kG) (sz : Nat) (zs za zw zq zp nn np mi : Nat) (L : List Nat) (f : Nat → va_E) (ro : Nat → Nat) (rr : Nat → Nat → Nat) (rp : Nat → Nat) (fs sn ln : Nat → Nat) (op : Nat → Bool) (SS : Nat → Option mS) (ar ww : Nat → Nat) (a b x : Nat) (hrp : ∀ i, i < np → rp i ∈ L ∧ f (rp i) = .inl (G.2 0, 4, .inl (kI (zP fs sn ln op i)))) (hnp : np ≤ 19) : Met l yX5_pass wsX5_pass ({ frames := 0, cells := 2, slots := 24, locals := 0 }) (kPreZ G ([(zs, .inr (5, [.int (nI mi), .ref za, .ref zw, .ref zq, .ref zp])), (zp, .inl (G.2 3, np, .inr (.inr (.inr (.inr (kRn np rp))))))] ++ va_pl L f) sz [.ref zs, .int (nI a), .int (nI b), .int (nI x)]) (va_Qv (fun (u : Nat × Nat × List Nat × (Nat → va_E)) => (∀ y, y ∈ L → y ∈ u.2.2.1 ∧ u.2.2.2 y = f y) ∧ u.2.1 ∉ L ∧ u.2.1 ∈ u.2.2.1 ∧ u.2.2.2 u.2.1 = .inl (G.2 0, 4, .inl (kI (zP (va_up fs np a) (va_up sn np b) (va_up ln np x) (va_up op np true) np)))) (fun (u : Nat × Nat × List Nat × (Nat → va_E)) t => kA G (va_A ([(zs, .inr (5, [.int (nI mi), .ref za, .ref zw, .ref zq, .ref zp])), (zp, .inl (G.2 3, np, .inr (.inr (.inr (.inr (kRn np rp))))))] ++ va_pl L f) sz) ([(zs, .inr (5, [.int (nI mi), .ref za, .ref zw, .ref zq, .ref u.1])), (u.1, .inl (G.2 3, (np + 1), .inr (.inr (.inr (.inr (kRn (np + 1) (va_up rp np u.2.1)))))))] ++ va_pl u.2.2.1 u.2.2.2) t) (va_A ([(zs, .inr (5, [.int (nI mi), .ref za, .ref zw, .ref zq, .ref zp])), (zp, .inl (G.2 3, np, .inr (.inr (.inr (.inr (kRn np rp))))))] ++ va_pl L f) sz)) 2 24 (va_A ([(zs, .inr (5, [.int (nI mi), .ref za, .ref zw, .ref zq, .ref zp])), (zp, .inl (G.2 3, np, .inr (.inr (.inr (.inr (kRn np rp))))))] ++ va_pl L f) sz) := by
  refine Met.ofW (cc := cX5_pass) (maxL := 6) (ret := none) (by decide) rfl ?_
  intro p e s m args below meth c s₁ B hml hv
  obtain ⟨rfl, hsz, hP, hK, hD0, hZ⟩ := hv
  have hx := B.exec
  have hb := B.bytes
  have hr := B.returns
  have hts := atoms_spec (ws := wsX5_pass) B.pre
  have hown : s.vm.findClass RX5 = some m.cls := findClass_of_methodNamed B.named
  have hlocks := B.notSynchronized
  have hK : va_K G.1 vwCl (kT G) s := hK
  subst hsz
  have hD := hD0.self (sz := s.heap.size)
  generalize hAe : va_A ([(zs, .inr (5, [.int (nI mi), .ref za, .ref zw, .ref zq, .ref zp])), (zp, .inl (G.2 3, np, .inr (.inr (.inr (.inr (kRn np rp))))))] ++ va_pl L f) s.heap.size = A at hD ⊢
  have hA : ∀ q : Nat, s.heap.size ≤ q → A q := fun q h => by rw [← hAe]; exact Or.inr h
  have hS : va_S A s.heap s.heap [] := va_S.rf
  have hP : va_P G.1 vwCl ([(zs, .inr (5, [.int (nI mi), .ref za, .ref zw, .ref zq, .ref zp])), (zp, .inl (G.2 3, np, .inr (.inr (.inr (.inr (kRn np rp))))))] ++ va_pl L f) s.heap := hP
  have hl := lv_entry ([.ref zs, .int (nI a), .int (nI b), .int (nI x)]) (n := 6) (Nat.le_of_ble_eq_true rfl)
  rw [lg_entry_eq]
  generalize (lg_sl ([.ref zs, .int (nI a), .int (nI b), .int (nI x)]) ++ List.replicate (6 - (lg_sl ([.ref zs, .int (nI a), .int (nI b), .int (nI x)])).length) Slot.unset).toArray = ls at hl ⊢
  have hl : lv_has ls 6 [(0, .ref zs), (1, .int (nI a)), (2, .int (nI b)), (3, .int (nI x))] := hl
  refine lv_aload_n hx hb dX5_pass_0 rfl (lv_at hl 0 rfl) ?_
  refine va_get (D := G.1) (ci := 5) (v := .ref zp) (C := RX5) (T := TX5) (N := 5) hx hb hts kX5_pass_1 hown hK hP 0 rfl rfl 4 (by decide) (hts _ kX5_pass_0) (fun _ h9 => h9) rfl dX5_pass_1 ?_
  refine va_alen (v := nI np) hx hb hK hP 1 3 rfl rfl rfl dX5_pass_4 ?_
  refine lv_iconst (v := (nI 1)) hx hb dX5_pass_5 (by decide) ?_
  refine lv_iadd hx hb dX5_pass_6 ?_
  refine kr_top (y := nI (np + 1)) (nI_add np 1) ?_
  refine kn_newA 3 (t := .int) hx hb hown (hts _ kX5_pass_2) hZ.2.2.2.2.1 rfl hK hP hD hS hA (by omega) (Nat.le_of_ble_eq_true rfl) (show 0 + (np + 1) ≤ 24 from by omega) dX5_pass_7 (fun q_1 H hP hD hS => ?_)
  have hP := va_P.swap hP
  have hD := va_D.swap hD
  have hP : va_P G.1 vwCl ([(zs, .inr (5, [.int (nI mi), .ref za, .ref zw, .ref zq, .ref zp])), (zp, .inl (G.2 3, np, .inr (.inr (.inr (.inr (kRn np rp)))))), (q_1, .inl (G.2 3, np + 1, .inr (.inr (.inr (.inr (fun _ => none))))))] ++ va_pl L f) H := hP
  have hD : va_D A ([(zs, .inr (5, [.int (nI mi), .ref za, .ref zw, .ref zq, .ref zp])), (zp, .inl (G.2 3, np, .inr (.inr (.inr (.inr (kRn np rp)))))), (q_1, .inl (G.2 3, np + 1, .inr (.inr (.inr (.inr (fun _ => none))))))] ++ va_pl L f) := hD
  refine W.widen (k := 1) (n := 0 + (np + 1)) (Nat.le_refl _) (Nat.le_refl _) ?_
  refine lv_astore (lv' := [(4, .ref q_1), (0, .ref zs), (1, .int (nI a)), (2, .int (nI b)), (3, .int (nI x))]) hx hb dX5_pass_10 hl (by decide) rfl (fun ls hl => ?_)
  refine lv_iconst (v := (nI 0)) hx hb dX5_pass_12 (by decide) ?_
  refine lv_istore (lv' := [(5, .int (nI 0)), (4, .ref q_1), (0, .ref zs), (1, .int (nI a)), (2, .int (nI b)), (3, .int (nI x))]) hx hb dX5_pass_13 hl (by decide) rfl (fun ls hl => ?_)
  have hc_15 : ∀ (n : Nat) (k : Nat) (g : Nat → Option Nat), np - k < n → k ≤ np → g = kRn k rp → ∀ (H : Heap) (locs : List Loc), va_P G.1 vwCl ([(zs, .inr (5, [.int (nI mi), .ref za, .ref zw, .ref zq, .ref zp])), (zp, .inl (G.2 3, np, .inr (.inr (.inr (.inr (kRn np rp)))))), (q_1, .inl (G.2 3, (np + 1), .inr (.inr (.inr (.inr g)))))] ++ va_pl L f) H → va_D A ([(zs, .inr (5, [.int (nI mi), .ref za, .ref zw, .ref zq, .ref zp])), (zp, .inl (G.2 3, np, .inr (.inr (.inr (.inr (kRn np rp)))))), (q_1, .inl (G.2 3, (np + 1), .inr (.inr (.inr (.inr g)))))] ++ va_pl L f) → va_S A s.heap H locs → ∀ (ls : Array Slot), lv_has ls 6 [(5, .int (nI k)), (4, .ref q_1), (0, .ref zs), (1, .int (nI a)), (2, .int (nI b)), (3, .int (nI x))] → W p l e (headSpec wsX5_pass ({ frames := 0, cells := 2, slots := 24, locals := 0 })).room s m [.ref zs, .int (nI a), .int (nI b), .int (nI x)].toArray below meth c H locs 1 (0 + (np + 1)) (MQ below (va_Qv (fun (u : Nat × Nat × List Nat × (Nat → va_E)) => (∀ y, y ∈ L → y ∈ u.2.2.1 ∧ u.2.2.2 y = f y) ∧ u.2.1 ∉ L ∧ u.2.1 ∈ u.2.2.1 ∧ u.2.2.2 u.2.1 = .inl (G.2 0, 4, .inl (kI (zP (va_up fs np a) (va_up sn np b) (va_up ln np x) (va_up op np true) np)))) (fun (u : Nat × Nat × List Nat × (Nat → va_E)) t => kA G A ([(zs, .inr (5, [.int (nI mi), .ref za, .ref zw, .ref zq, .ref u.1])), (u.1, .inl (G.2 3, (np + 1), .inr (.inr (.inr (.inr (kRn (np + 1) (va_up rp np u.2.1)))))))] ++ va_pl u.2.2.1 u.2.2.2) t) A) [.ref zs, .int (nI a), .int (nI b), .int (nI x)].toArray s 2 24 A) (F0 m 15 ls []) := by
    intro n
    induction n with
    | zero =>
      intro k g hmz; exact absurd hmz (Nat.not_lt_zero _)
    | succ n ih15 =>
      intro k g hmz hk hg H locs hP hD hS ls hl
      refine lv_iload hx hb dX5_pass_15 (lv_at hl 0 rfl) ?_
      refine lv_aload_n hx hb dX5_pass_17 rfl (lv_at hl 2 rfl) ?_
      refine va_get (D := G.1) (ci := 5) (v := .ref zp) (C := RX5) (T := TX5) (N := 5) hx hb hts kX5_pass_1 hown hK hP 0 rfl rfl 4 (by decide) (hts _ kX5_pass_0) (fun _ h9 => h9) rfl dX5_pass_18 ?_
      refine va_alen (v := nI np) hx hb hK hP 1 3 rfl rfl rfl dX5_pass_21 ?_
      refine kb_ge (tgt := 43) hx hb dX5_pass_22 (by decide) (by omega) (by omega) (fun c_2 => ?_) (fun c_2 => ?_)
      · refine lv_aload hx hb dX5_pass_43 (lv_at hl 1 rfl) ?_
        refine lv_aload_n hx hb dX5_pass_45 rfl (lv_at hl 2 rfl) ?_
        refine va_get (D := G.1) (ci := 5) (v := .ref zp) (C := RX5) (T := TX5) (N := 5) hx hb hts kX5_pass_1 hown hK hP 0 rfl rfl 4 (by decide) (hts _ kX5_pass_0) (fun _ h9 => h9) rfl dX5_pass_46 ?_
        refine va_alen (v := nI np) hx hb hK hP 1 3 rfl rfl rfl dX5_pass_49 ?_
        refine lv_iconst (v := (nI 4)) hx hb dX5_pass_50 (by decide) ?_
        refine kn_newi hx hb (hts _ kX5_pass_3) hK hP hD hS hA (by decide) (Nat.le_of_ble_eq_true rfl) (show 0 + (np + 1) + 4 ≤ 24 from by omega) dX5_pass_51 (fun q_3 H hP hD hS => ?_)
        have hP := va_P.swap hP
        have hD := va_D.swap hD
        have hP : va_P G.1 vwCl ([(zs, .inr (5, [.int (nI mi), .ref za, .ref zw, .ref zq, .ref zp])), (zp, .inl (G.2 3, np, .inr (.inr (.inr (.inr (kRn np rp)))))), (q_1, .inl (G.2 3, (np + 1), .inr (.inr (.inr (.inr g))))), (q_3, .inl (G.2 0, 4, .inl (kI (fun _ => 0))))] ++ va_pl L f) H := hP
        have hD : va_D A ([(zs, .inr (5, [.int (nI mi), .ref za, .ref zw, .ref zq, .ref zp])), (zp, .inl (G.2 3, np, .inr (.inr (.inr (.inr (kRn np rp)))))), (q_1, .inl (G.2 3, (np + 1), .inr (.inr (.inr (.inr g))))), (q_3, .inl (G.2 0, 4, .inl (kI (fun _ => 0))))] ++ va_pl L f) := hD
        refine W.widen (k := 2) (n := 0 + (np + 1) + 4) (Nat.le_refl _) (Nat.le_refl _) ?_
        refine lv_dup hx hb dX5_pass_53 rfl ?_
        refine lv_iconst (v := (nI 0)) hx hb dX5_pass_54 (by decide) ?_
        refine lv_iload_n hx hb dX5_pass_55 rfl (lv_at hl 3 rfl) ?_
        refine kr_iast (k := 0) (g := (kI (va_up (fun _ => 0) 0 a))) hx hb hK hP hD hS 3 0 rfl rfl (by decide) (by decide) (kI_up (fun _ => 0) 0 a) dX5_pass_56 (fun H locs hP hD hS => ?_)
        have hP : va_P G.1 vwCl ([(zs, .inr (5, [.int (nI mi), .ref za, .ref zw, .ref zq, .ref zp])), (zp, .inl (G.2 3, np, .inr (.inr (.inr (.inr (kRn np rp)))))), (q_1, .inl (G.2 3, (np + 1), .inr (.inr (.inr (.inr g))))), (q_3, .inl (G.2 0, 4, .inl (kI (va_up (fun _ => 0) 0 a))))] ++ va_pl L f) H := hP
        have hD : va_D A ([(zs, .inr (5, [.int (nI mi), .ref za, .ref zw, .ref zq, .ref zp])), (zp, .inl (G.2 3, np, .inr (.inr (.inr (.inr (kRn np rp)))))), (q_1, .inl (G.2 3, (np + 1), .inr (.inr (.inr (.inr g))))), (q_3, .inl (G.2 0, 4, .inl (kI (va_up (fun _ => 0) 0 a))))] ++ va_pl L f) := hD
        refine lv_dup hx hb dX5_pass_57 rfl ?_
        refine lv_iconst (v := (nI 1)) hx hb dX5_pass_58 (by decide) ?_
        refine lv_iload_n hx hb dX5_pass_59 rfl (lv_at hl 4 rfl) ?_
        refine kr_iast (k := 1) (g := (kI (va_up (va_up (fun _ => 0) 0 a) 1 b))) hx hb hK hP hD hS 3 0 rfl rfl (by decide) (by decide) (kI_up (va_up (fun _ => 0) 0 a) 1 b) dX5_pass_60 (fun H locs hP hD hS => ?_)
        have hP : va_P G.1 vwCl ([(zs, .inr (5, [.int (nI mi), .ref za, .ref zw, .ref zq, .ref zp])), (zp, .inl (G.2 3, np, .inr (.inr (.inr (.inr (kRn np rp)))))), (q_1, .inl (G.2 3, (np + 1), .inr (.inr (.inr (.inr g))))), (q_3, .inl (G.2 0, 4, .inl (kI (va_up (va_up (fun _ => 0) 0 a) 1 b))))] ++ va_pl L f) H := hP
        have hD : va_D A ([(zs, .inr (5, [.int (nI mi), .ref za, .ref zw, .ref zq, .ref zp])), (zp, .inl (G.2 3, np, .inr (.inr (.inr (.inr (kRn np rp)))))), (q_1, .inl (G.2 3, (np + 1), .inr (.inr (.inr (.inr g))))), (q_3, .inl (G.2 0, 4, .inl (kI (va_up (va_up (fun _ => 0) 0 a) 1 b))))] ++ va_pl L f) := hD
        refine lv_dup hx hb dX5_pass_61 rfl ?_
        refine lv_iconst (v := (nI 2)) hx hb dX5_pass_62 (by decide) ?_
        refine lv_iload_n hx hb dX5_pass_63 rfl (lv_at hl 5 rfl) ?_
        refine kr_iast (k := 2) (g := (kI (va_up (va_up (va_up (fun _ => 0) 0 a) 1 b) 2 x))) hx hb hK hP hD hS 3 0 rfl rfl (by decide) (by decide) (kI_up (va_up (va_up (fun _ => 0) 0 a) 1 b) 2 x) dX5_pass_64 (fun H locs hP hD hS => ?_)
        have hP : va_P G.1 vwCl ([(zs, .inr (5, [.int (nI mi), .ref za, .ref zw, .ref zq, .ref zp])), (zp, .inl (G.2 3, np, .inr (.inr (.inr (.inr (kRn np rp)))))), (q_1, .inl (G.2 3, (np + 1), .inr (.inr (.inr (.inr g))))), (q_3, .inl (G.2 0, 4, .inl (kI (va_up (va_up (va_up (fun _ => 0) 0 a) 1 b) 2 x))))] ++ va_pl L f) H := hP
        have hD : va_D A ([(zs, .inr (5, [.int (nI mi), .ref za, .ref zw, .ref zq, .ref zp])), (zp, .inl (G.2 3, np, .inr (.inr (.inr (.inr (kRn np rp)))))), (q_1, .inl (G.2 3, (np + 1), .inr (.inr (.inr (.inr g))))), (q_3, .inl (G.2 0, 4, .inl (kI (va_up (va_up (va_up (fun _ => 0) 0 a) 1 b) 2 x))))] ++ va_pl L f) := hD
        refine lv_dup hx hb dX5_pass_65 rfl ?_
        refine lv_iconst (v := (nI 3)) hx hb dX5_pass_66 (by decide) ?_
        refine lv_iconst (v := (nI 1)) hx hb dX5_pass_67 (by decide) ?_
        refine kr_iast (k := 3) (g := (kI (va_up (va_up (va_up (va_up (fun _ => 0) 0 a) 1 b) 2 x) 3 1))) hx hb hK hP hD hS 3 0 rfl rfl (by decide) (by decide) (kI_up (va_up (va_up (va_up (fun _ => 0) 0 a) 1 b) 2 x) 3 1) dX5_pass_68 (fun H locs hP hD hS => ?_)
        have hP : va_P G.1 vwCl ([(zs, .inr (5, [.int (nI mi), .ref za, .ref zw, .ref zq, .ref zp])), (zp, .inl (G.2 3, np, .inr (.inr (.inr (.inr (kRn np rp)))))), (q_1, .inl (G.2 3, (np + 1), .inr (.inr (.inr (.inr g))))), (q_3, .inl (G.2 0, 4, .inl (kI (va_up (va_up (va_up (va_up (fun _ => 0) 0 a) 1 b) 2 x) 3 1))))] ++ va_pl L f) H := hP
        have hD : va_D A ([(zs, .inr (5, [.int (nI mi), .ref za, .ref zw, .ref zq, .ref zp])), (zp, .inl (G.2 3, np, .inr (.inr (.inr (.inr (kRn np rp)))))), (q_1, .inl (G.2 3, (np + 1), .inr (.inr (.inr (.inr g))))), (q_3, .inl (G.2 0, 4, .inl (kI (va_up (va_up (va_up (va_up (fun _ => 0) 0 a) 1 b) 2 x) 3 1))))] ++ va_pl L f) := hD
        have hP : va_P G.1 vwCl (([(zs, .inr (5, [.int (nI mi), .ref za, .ref zw, .ref zq, .ref zp])), (zp, .inl (G.2 3, np, .inr (.inr (.inr (.inr (kRn np rp)))))), (q_1, .inl (G.2 3, (np + 1), .inr (.inr (.inr (.inr g)))))] ++ [(q_3, .inl (G.2 0, 4, .inl (kI (va_up (va_up (va_up (va_up (fun _ => 0) 0 a) 1 b) 2 x) 3 1))))]) ++ va_pl L f) _ := hP.part (cx := [(zs, .inr (5, [.int (nI mi), .ref za, .ref zw, .ref zq, .ref zp])), (zp, .inl (G.2 3, np, .inr (.inr (.inr (.inr (kRn np rp)))))), (q_1, .inl (G.2 3, (np + 1), .inr (.inr (.inr (.inr g))))), (q_3, .inl (G.2 0, 4, .inl (kI (va_up (va_up (va_up (va_up (fun _ => 0) 0 a) 1 b) 2 x) 3 1))))]) [0, 1, 2, 3] rfl
        have hD : va_D A (([(zs, .inr (5, [.int (nI mi), .ref za, .ref zw, .ref zq, .ref zp])), (zp, .inl (G.2 3, np, .inr (.inr (.inr (.inr (kRn np rp)))))), (q_1, .inl (G.2 3, (np + 1), .inr (.inr (.inr (.inr g)))))] ++ [(q_3, .inl (G.2 0, 4, .inl (kI (va_up (va_up (va_up (va_up (fun _ => 0) 0 a) 1 b) 2 x) 3 1))))]) ++ va_pl L f) := hD.part (cx := [(zs, .inr (5, [.int (nI mi), .ref za, .ref zw, .ref zq, .ref zp])), (zp, .inl (G.2 3, np, .inr (.inr (.inr (.inr (kRn np rp)))))), (q_1, .inl (G.2 3, (np + 1), .inr (.inr (.inr (.inr g))))), (q_3, .inl (G.2 0, 4, .inl (kI (va_up (va_up (va_up (va_up (fun _ => 0) 0 a) 1 b) 2 x) 3 1))))]) [0, 1, 2, 3] (by decide) rfl
        obtain ⟨hP, hD, hnyq_3⟩ := kp_push1 hP hD
        have hP : va_P G.1 vwCl ([(zs, .inr (5, [.int (nI mi), .ref za, .ref zw, .ref zq, .ref zp])), (zp, .inl (G.2 3, np, .inr (.inr (.inr (.inr (kRn np rp)))))), (q_1, .inl (G.2 3, (np + 1), .inr (.inr (.inr (.inr g)))))] ++ va_pl (L ++ [q_3]) (va_up f q_3 (.inl (G.2 0, 4, .inl (kI (va_up (va_up (va_up (va_up (fun _ => 0) 0 a) 1 b) 2 x) 3 1)))))) H := hP
        have hD : va_D A ([(zs, .inr (5, [.int (nI mi), .ref za, .ref zw, .ref zq, .ref zp])), (zp, .inl (G.2 3, np, .inr (.inr (.inr (.inr (kRn np rp)))))), (q_1, .inl (G.2 3, (np + 1), .inr (.inr (.inr (.inr g)))))] ++ va_pl (L ++ [q_3]) (va_up f q_3 (.inl (G.2 0, 4, .inl (kI (va_up (va_up (va_up (va_up (fun _ => 0) 0 a) 1 b) 2 x) 3 1)))))) := hD
        refine kp_astX (k := np) (g' := (kRn (np + 1) (va_up rp np q_3))) hx hb hK hZ.2.2.2.2.1 hP hD hS 2 rfl (List.mem_append_right _ List.mem_cons_self) (va_up_self _ _ _) (by omega) (by omega) (by rw [hg, show k = np by omega]; exact kRn_add) dX5_pass_69 (fun H locs hP hD hS => ?_)
        have hP : va_P G.1 vwCl ([(zs, .inr (5, [.int (nI mi), .ref za, .ref zw, .ref zq, .ref zp])), (zp, .inl (G.2 3, np, .inr (.inr (.inr (.inr (kRn np rp)))))), (q_1, .inl (G.2 3, (np + 1), .inr (.inr (.inr (.inr (kRn (np + 1) (va_up rp np q_3)))))))] ++ va_pl (L ++ [q_3]) (va_up f q_3 (.inl (G.2 0, 4, .inl (kI (va_up (va_up (va_up (va_up (fun _ => 0) 0 a) 1 b) 2 x) 3 1)))))) H := hP
        have hD : va_D A ([(zs, .inr (5, [.int (nI mi), .ref za, .ref zw, .ref zq, .ref zp])), (zp, .inl (G.2 3, np, .inr (.inr (.inr (.inr (kRn np rp)))))), (q_1, .inl (G.2 3, (np + 1), .inr (.inr (.inr (.inr (kRn (np + 1) (va_up rp np q_3)))))))] ++ va_pl (L ++ [q_3]) (va_up f q_3 (.inl (G.2 0, 4, .inl (kI (va_up (va_up (va_up (va_up (fun _ => 0) 0 a) 1 b) 2 x) 3 1)))))) := hD
        refine lv_aload_n hx hb dX5_pass_70 rfl (lv_at hl 2 rfl) ?_
        refine lv_aload hx hb dX5_pass_71 (lv_at hl 1 rfl) ?_
        refine va_put (D := G.1) (ci := 5) (v := .ref q_1) (ty := (tyX5 4)) (C := RX5) (T := TX5) (N := 5) hx hb hts kX5_pass_1 tyX5 tyX5_ok nmX5 hown hK hP hD hS 0 rfl rfl 4 (by decide) (hts _ kX5_pass_0) (fun _ h9 => h9) rfl (by decide +kernel) rfl rfl (Nat.le_of_ble_eq_true rfl) dX5_pass_73 (fun H locs hP hD hS => ?_)
        have hP : va_P G.1 vwCl ([(zs, .inr (5, [.int (nI mi), .ref za, .ref zw, .ref zq, .ref q_1])), (zp, .inl (G.2 3, np, .inr (.inr (.inr (.inr (kRn np rp)))))), (q_1, .inl (G.2 3, (np + 1), .inr (.inr (.inr (.inr (kRn (np + 1) (va_up rp np q_3)))))))] ++ va_pl (L ++ [q_3]) (va_up f q_3 (.inl (G.2 0, 4, .inl (kI (va_up (va_up (va_up (va_up (fun _ => 0) 0 a) 1 b) 2 x) 3 1)))))) H := hP
        have hD : va_D A ([(zs, .inr (5, [.int (nI mi), .ref za, .ref zw, .ref zq, .ref q_1])), (zp, .inl (G.2 3, np, .inr (.inr (.inr (.inr (kRn np rp)))))), (q_1, .inl (G.2 3, (np + 1), .inr (.inr (.inr (.inr (kRn (np + 1) (va_up rp np q_3)))))))] ++ va_pl (L ++ [q_3]) (va_up f q_3 (.inl (G.2 0, 4, .inl (kI (va_up (va_up (va_up (va_up (fun _ => 0) 0 a) 1 b) 2 x) 3 1)))))) := hD
        have hP9 : va_P G.1 vwCl ([(zs, .inr (5, [.int (nI mi), .ref za, .ref zw, .ref zq, .ref q_1])), (q_1, .inl (G.2 3, (np + 1), .inr (.inr (.inr (.inr (kRn (np + 1) (va_up rp np q_3)))))))] ++ va_pl (L ++ [q_3]) (va_up f q_3 (.inl (G.2 0, 4, .inl (kI (va_up (va_up (va_up (va_up (fun _ => 0) 0 a) 1 b) 2 x) 3 1)))))) _ := hP.part (cx := [(zs, .inr (5, [.int (nI mi), .ref za, .ref zw, .ref zq, .ref q_1])), (q_1, .inl (G.2 3, (np + 1), .inr (.inr (.inr (.inr (kRn (np + 1) (va_up rp np q_3)))))))]) [0, 2] rfl
        have hD9 : va_D A ([(zs, .inr (5, [.int (nI mi), .ref za, .ref zw, .ref zq, .ref q_1])), (q_1, .inl (G.2 3, (np + 1), .inr (.inr (.inr (.inr (kRn (np + 1) (va_up rp np q_3)))))))] ++ va_pl (L ++ [q_3]) (va_up f q_3 (.inl (G.2 0, 4, .inl (kI (va_up (va_up (va_up (va_up (fun _ => 0) 0 a) 1 b) 2 x) 3 1)))))) := hD.part (cx := [(zs, .inr (5, [.int (nI mi), .ref za, .ref zw, .ref zq, .ref q_1])), (q_1, .inl (G.2 3, (np + 1), .inr (.inr (.inr (.inr (kRn (np + 1) (va_up rp np q_3)))))))]) [0, 2] (by decide) rfl
        refine W.widen (k := 2) (n := 24) (Nat.le_of_ble_eq_true rfl) (by omega) ?_
        exact km_vret (post := fun (u : Nat × Nat × List Nat × (Nat → va_E)) => (∀ y, y ∈ L → y ∈ u.2.2.1 ∧ u.2.2.2 y = f y) ∧ u.2.1 ∉ L ∧ u.2.1 ∈ u.2.2.1 ∧ u.2.2.2 u.2.1 = .inl (G.2 0, 4, .inl (kI (zP (va_up fs np a) (va_up sn np b) (va_up ln np x) (va_up op np true) np)))) (wo := fun (u : Nat × Nat × List Nat × (Nat → va_E)) => ([(zs, .inr (5, [.int (nI mi), .ref za, .ref zw, .ref zq, .ref u.1])), (u.1, .inl (G.2 3, (np + 1), .inr (.inr (.inr (.inr (kRn (np + 1) (va_up rp np u.2.1)))))))] ++ va_pl u.2.2.1 u.2.2.2)) (q_1, q_3, (L ++ [q_3]), (va_up f q_3 (.inl (G.2 0, 4, .inl (kI (va_up (va_up (va_up (va_up (fun _ => 0) 0 a) 1 b) 2 x) 3 1)))))) hx hb hr hlocks hS hP9 hD9 (⟨fun y hy => ⟨List.mem_append_left _ hy, va_up_ne _ _ (fun z => hnyq_3 (z ▸ hy))⟩, hnyq_3, List.mem_append_right _ List.mem_cons_self, (va_up_self _ _ _).trans (by rw [zP_new])⟩) dX5_pass_76
      · refine lv_aload hx hb dX5_pass_25 (lv_at hl 1 rfl) ?_
        refine lv_iload hx hb dX5_pass_27 (lv_at hl 0 rfl) ?_
        refine lv_aload_n hx hb dX5_pass_29 rfl (lv_at hl 2 rfl) ?_
        refine va_get (D := G.1) (ci := 5) (v := .ref zp) (C := RX5) (T := TX5) (N := 5) hx hb hts kX5_pass_1 hown hK hP 0 rfl rfl 4 (by decide) (hts _ kX5_pass_0) (fun _ h9 => h9) rfl dX5_pass_30 ?_
        refine lv_iload hx hb dX5_pass_33 (lv_at hl 0 rfl) ?_
        refine kr_aldA (k := k) (v := .ref (rp k)) hx hb hK hP 1 3 rfl rfl (by omega) (by omega) (kRn_at (by omega)) dX5_pass_35 ?_
        refine kp_astX (k := k) (g' := (va_up g k (some (rp k)))) hx hb hK hZ.2.2.2.2.1 hP hD hS 2 rfl (hrp k (by omega)).1 (hrp k (by omega)).2 (by omega) (by omega) (rfl) dX5_pass_36 (fun H locs hP hD hS => ?_)
        have hP : va_P G.1 vwCl ([(zs, .inr (5, [.int (nI mi), .ref za, .ref zw, .ref zq, .ref zp])), (zp, .inl (G.2 3, np, .inr (.inr (.inr (.inr (kRn np rp)))))), (q_1, .inl (G.2 3, (np + 1), .inr (.inr (.inr (.inr (va_up g k (some (rp k))))))))] ++ va_pl L f) H := hP
        have hD : va_D A ([(zs, .inr (5, [.int (nI mi), .ref za, .ref zw, .ref zq, .ref zp])), (zp, .inl (G.2 3, np, .inr (.inr (.inr (.inr (kRn np rp)))))), (q_1, .inl (G.2 3, (np + 1), .inr (.inr (.inr (.inr (va_up g k (some (rp k))))))))] ++ va_pl L f) := hD
        refine lv_iinc (k := 0) (v := (nI (k + 1))) (lv' := [(5, .int (nI (k + 1))), (4, .ref q_1), (0, .ref zs), (1, .int (nI a)), (2, .int (nI b)), (3, .int (nI x))]) hx hb dX5_pass_37 hl rfl (kn_inc k) (by decide) rfl (fun ls hl => ?_)
        refine lv_goto (tgt := 15) hx hb dX5_pass_40 (by decide) ?_
        exact ih15 (k + 1) (va_up g k (some (rp k))) (by omega) (by omega) (by rw [hg]; exact kRn_push) _ _ hP hD hS _ (lv_sub hl [0, 1, 2, 3, 4, 5] rfl)
  exact hc_15 (_ + 1) 0 (fun _ => none) (Nat.lt_succ_self _) (by omega) (by exact (kRn_0 rp).symm) _ _ hP hD hS _ (lv_sub hl [0, 1, 2, 3, 4, 5] rfl)
