def wsX5_goZ : List Cond := .code yX5_go cX5_go 12 (some .int) :: (.classLink RX5 41 "[[[I" :: wsX5_go)
theorem gX5_goZ_isTrue : GoodIn wsX5_goZ (wsV RX5 50 RX5 yX5_isTrue wsX5_isTrue) := fun w h => ⟨List.mem_cons_of_mem _ (List.mem_cons_of_mem _ (gX5_go_X5_isTrue w h).1), (gX5_go_X5_isTrue w h).2⟩
theorem gX5_goZ_due : GoodIn wsX5_goZ (wsV RX5 46 RX5 yX5_due wsX5_due) := fun w h => ⟨List.mem_cons_of_mem _ (List.mem_cons_of_mem _ (gX5_go_X5_due w h).1), (gX5_go_X5_due w h).2⟩

theorem kX5_go_0 : Cond.classLink RX5 41 "[[[I" ∈ wsX5_goZ := by decide +kernel
theorem kX5_go_1 : Cond.fieldLink RX5 20 "PassNotesLaw$Sim" "sheets" "[[[I" ∈ wsX5_goZ := by decide +kernel
theorem kX5_go_2 : ∀ w ∈ wsX50, w ∈ wsX5_goZ := by decide +kernel
theorem kX5_go_3 : Cond.fieldLink RX5 29 "PassNotesLaw$Sim" "minute" "I" ∈ wsX5_goZ := by decide +kernel
theorem kX5_go_4 : Cond.arrayClass .int ∈ wsX5_goZ := by decide +kernel
theorem kX5_go_5 : Cond.fieldLink RX5 25 "PassNotesLaw$Sim" "passes" "[[I" ∈ wsX5_goZ := by decide +kernel
theorem kX5_go_6 : Cond.methodLink RX5 33 ⟨"[I", "clone", "()Ljava/lang/Object;"⟩ ∈ wsX5_goZ := by decide +kernel
theorem kX5_go_7 : Cond.sameMethod "[I" "java/lang/Object" "clone" "()Ljava/lang/Object;" ∈ wsX5_goZ := by decide +kernel
theorem kX5_go_8 : Cond.native ⟨"java/lang/Object", "clone", "()Ljava/lang/Object;"⟩ ∈ wsX5_goZ := by decide +kernel
theorem kX5_go_9 : Cond.instanceMethod ⟨"java/lang/Object", "clone", "()Ljava/lang/Object;"⟩ ∈ wsX5_goZ := by decide +kernel
theorem kX5_go_10 : Cond.selects "[I" ⟨"[I", "clone", "()Ljava/lang/Object;"⟩ ⟨"java/lang/Object", "clone", "()Ljava/lang/Object;"⟩ ∈ wsX5_goZ := by decide +kernel
theorem kX5_go_11 : Cond.classLink RX5 24 "[I" ∈ wsX5_goZ := by decide +kernel
theorem kX5_go_12 : Cond.fieldLink RX5 9 "PassNotesLaw$Sim" "areas" "[I" ∈ wsX5_goZ := by decide +kernel
theorem kX5_go_13 : Cond.fieldLink RX5 15 "PassNotesLaw$Sim" "wrote" "[I" ∈ wsX5_goZ := by decide +kernel
set_option maxHeartbeats 4000000 in
set_option maxRecDepth 100000 in
theorem c_X5_go (l : Launch) (G : kG) (sz : Nat) (zs za zw zq zp nn np mi : Nat) (L : List Nat) (f : Nat → va_E) (ro : Nat → Nat) (rr : Nat → Nat → Nat) (rp : Nat → Nat) (fs sn ln : Nat → Nat) (op : Nat → Bool) (SS : Nat → Option mS) (ar ww : Nat → Nat)  (hrw : ∀ i, i < nn → ro i ∈ L ∧ f (ro i) = .inl (G.2 3, nn, .inr (.inr (.inr (.inr (kRn nn (rr i))))))) (hrr : ∀ i j, i < nn → j < nn → zRow G L f (rr i j) mi (SS (i * 10 + j))) (hrp : ∀ i, i < np → rp i ∈ L ∧ f (rp i) = .inl (G.2 0, 4, .inl (kI (zP fs sn ln op i)))) (hn7 : nn ≤ 7) (hnp : np ≤ 20) (hfs : ∀ j, fs j < 10) (hsn : ∀ j, sn j < 10) (hln : ∀ j, ln j < 100) (hen : ∀ j, j < np → fs j < nn ∧ sn j < nn) (hmi : mi < 2 ^ 31) (hV : vInv ar fs sn ln nn np mi SS ww) (hinj : ∀ i j, i < nn → j < nn → ro i = ro j → i = j) (hmi1 : mi + 1 < 2 ^ 31) : Met l yX5_go wsX5_goZ ({ frames := 2, cells := 113, slots := 1288, locals := 45 }) (kPreZ G ([(zs, .inr (5, [.int (nI mi), .ref za, .ref zw, .ref zq, .ref zp])), (za, .inl (G.2 0, nn, .inl (kI ar))), (zq, .inl (G.2 4, nn, .inr (.inr (.inr (.inr (kRn nn ro)))))), (zp, .inl (G.2 3, np, .inr (.inr (.inr (.inr (kRn np rp)))))), (zw, .inl (G.2 0, nn, .inl (kI ww)))] ++ va_pl L f) sz [.ref zs]) (va_Qi (fun (r : Int32) (u : Nat × (Nat → Nat) × (Nat → Nat → Nat) × List Nat × (Nat → va_E)) => r = nI (vMin ar fs sn ln op nn np mi (SS, ww, 0)).2.2 ∧ (∀ y, y ∈ L → y ∈ u.2.2.2.1 ∧ ((∀ i, i < nn → y ≠ ro i) → u.2.2.2.2 y = f y)) ∧ (∀ i, i < nn → u.2.1 i ∈ u.2.2.2.1 ∧ u.2.2.2.2 (u.2.1 i) = .inl (G.2 3, nn, .inr (.inr (.inr (.inr (kRn nn (u.2.2.1 i))))))) ∧ (∀ i j, i < nn → j < nn → zRow G u.2.2.2.1 u.2.2.2.2 (u.2.2.1 i j) (mi + 1) ((vMin ar fs sn ln op nn np mi (SS, ww, 0)).1 (i * 10 + j))) ∧ (∀ i j, i < nn → j < nn → u.2.1 i = u.2.1 j → i = j) ∧ (∀ i, i < nn → u.2.1 i ∉ L) ∧ ∀ i j, i < nn → j < nn → u.2.2.1 i j ∉ L) (fun (u : Nat × (Nat → Nat) × (Nat → Nat → Nat) × List Nat × (Nat → va_E)) t => kA G (va_A ([(zs, .inr (5, [.int (nI mi), .ref za, .ref zw, .ref zq, .ref zp])), (za, .inl (G.2 0, nn, .inl (kI ar))), (zq, .inl (G.2 4, nn, .inr (.inr (.inr (.inr (kRn nn ro)))))), (zp, .inl (G.2 3, np, .inr (.inr (.inr (.inr (kRn np rp)))))), (zw, .inl (G.2 0, nn, .inl (kI ww)))] ++ va_pl L f) sz) ([(zs, .inr (5, [.int (nI (mi + 1)), .ref za, .ref zw, .ref u.1, .ref zp])), (za, .inl (G.2 0, nn, .inl (kI ar))), (u.1, .inl (G.2 4, nn, .inr (.inr (.inr (.inr (kRn nn u.2.1)))))), (zp, .inl (G.2 3, np, .inr (.inr (.inr (.inr (kRn np rp)))))), (zw, .inl (G.2 0, nn, .inl (kI (vMin ar fs sn ln op nn np mi (SS, ww, 0)).2.1)))] ++ va_pl u.2.2.2.1 u.2.2.2.2) t) (va_A ([(zs, .inr (5, [.int (nI mi), .ref za, .ref zw, .ref zq, .ref zp])), (za, .inl (G.2 0, nn, .inl (kI ar))), (zq, .inl (G.2 4, nn, .inr (.inr (.inr (.inr (kRn nn ro)))))), (zp, .inl (G.2 3, np, .inr (.inr (.inr (.inr (kRn np rp)))))), (zw, .inl (G.2 0, nn, .inl (kI ww)))] ++ va_pl L f) sz)) 113 1288 (va_A ([(zs, .inr (5, [.int (nI mi), .ref za, .ref zw, .ref zq, .ref zp])), (za, .inl (G.2 0, nn, .inl (kI ar))), (zq, .inl (G.2 4, nn, .inr (.inr (.inr (.inr (kRn nn ro)))))), (zp, .inl (G.2 3, np, .inr (.inr (.inr (.inr (kRn np rp)))))), (zw, .inl (G.2 0, nn, .inl (kI ww)))] ++ va_pl L f) sz) := by
  refine Met.ofW (cc := cX5_go) (maxL := 12) (ret := (some .int)) (by decide) rfl ?_
  intro p e s m args below meth c s₁ B hml hv
  obtain ⟨rfl, hsz, hP, hK, hD0, hZ⟩ := hv
  have hx := B.exec
  have hb := B.bytes
  have hr := B.returns
  have hts := atoms_spec (ws := wsX5_goZ) B.pre
  have hown : s.vm.findClass RX5 = some m.cls := findClass_of_methodNamed B.named
  have hlocks := B.notSynchronized
  have hK : va_K G.1 vwCl (kT G) s := hK
  subst hsz
  have hD := hD0.self (sz := s.heap.size)
  generalize hAe : va_A ([(zs, .inr (5, [.int (nI mi), .ref za, .ref zw, .ref zq, .ref zp])), (za, .inl (G.2 0, nn, .inl (kI ar))), (zq, .inl (G.2 4, nn, .inr (.inr (.inr (.inr (kRn nn ro)))))), (zp, .inl (G.2 3, np, .inr (.inr (.inr (.inr (kRn np rp)))))), (zw, .inl (G.2 0, nn, .inl (kI ww)))] ++ va_pl L f) s.heap.size = A at hD ⊢
  have hA : ∀ q : Nat, s.heap.size ≤ q → A q := fun q h => by rw [← hAe]; exact Or.inr h
  have hS : va_S A s.heap s.heap [] := va_S.rf
  have hP : va_P G.1 vwCl ([(zs, .inr (5, [.int (nI mi), .ref za, .ref zw, .ref zq, .ref zp])), (za, .inl (G.2 0, nn, .inl (kI ar))), (zq, .inl (G.2 4, nn, .inr (.inr (.inr (.inr (kRn nn ro)))))), (zp, .inl (G.2 3, np, .inr (.inr (.inr (.inr (kRn np rp)))))), (zw, .inl (G.2 0, nn, .inl (kI ww)))] ++ va_pl L f) s.heap := hP
  have hl := lv_entry ([.ref zs]) (n := 12) (Nat.le_of_ble_eq_true rfl)
  rw [lg_entry_eq]
  generalize (lg_sl ([.ref zs]) ++ List.replicate (12 - (lg_sl ([.ref zs])).length) Slot.unset).toArray = ls at hl ⊢
  have hl : lv_has ls 12 [(0, .ref zs)] := hl
  have hc_134 : ∀ (many : Nat) (L1 : List Nat) (F1 : Nat → va_E) (rr1 : Nat → Nat → Nat) (S1 : Nat → Option mS) (w1 : Nat → Nat), (S1, w1, many) = vWrite mi fs sn ln op np (SS, ww, 0) nn → zI1 G nn np mi L f ro rp fs sn ln op L1 F1 rr1 S1 → ∀ (H : Heap) (locs : List Loc), va_P G.1 vwCl ([(zs, .inr (5, [.int (nI mi), .ref za, .ref zw, .ref zq, .ref zp])), (za, .inl (G.2 0, nn, .inl (kI ar))), (zq, .inl (G.2 4, nn, .inr (.inr (.inr (.inr (kRn nn ro)))))), (zp, .inl (G.2 3, np, .inr (.inr (.inr (.inr (kRn np rp)))))), (zw, .inl (G.2 0, nn, .inl (kI w1)))] ++ va_pl L1 F1) H → va_D A ([(zs, .inr (5, [.int (nI mi), .ref za, .ref zw, .ref zq, .ref zp])), (za, .inl (G.2 0, nn, .inl (kI ar))), (zq, .inl (G.2 4, nn, .inr (.inr (.inr (.inr (kRn nn ro)))))), (zp, .inl (G.2 3, np, .inr (.inr (.inr (.inr (kRn np rp)))))), (zw, .inl (G.2 0, nn, .inl (kI w1)))] ++ va_pl L1 F1) → va_S A s.heap H locs → ∀ (ls : Array Slot), lv_has ls 12 [(0, .ref zs), (1, .int (nI many)), (2, .int (nI nn))] → W p l e (headSpec wsX5_goZ ({ frames := 2, cells := 113, slots := 1288, locals := 45 })).room s m [.ref zs].toArray below meth c H locs 7 154 (MQ below (va_Qi (fun (r : Int32) (u : Nat × (Nat → Nat) × (Nat → Nat → Nat) × List Nat × (Nat → va_E)) => r = nI (vMin ar fs sn ln op nn np mi (SS, ww, 0)).2.2 ∧ (∀ y, y ∈ L → y ∈ u.2.2.2.1 ∧ ((∀ i, i < nn → y ≠ ro i) → u.2.2.2.2 y = f y)) ∧ (∀ i, i < nn → u.2.1 i ∈ u.2.2.2.1 ∧ u.2.2.2.2 (u.2.1 i) = .inl (G.2 3, nn, .inr (.inr (.inr (.inr (kRn nn (u.2.2.1 i))))))) ∧ (∀ i j, i < nn → j < nn → zRow G u.2.2.2.1 u.2.2.2.2 (u.2.2.1 i j) (mi + 1) ((vMin ar fs sn ln op nn np mi (SS, ww, 0)).1 (i * 10 + j))) ∧ (∀ i j, i < nn → j < nn → u.2.1 i = u.2.1 j → i = j) ∧ (∀ i, i < nn → u.2.1 i ∉ L) ∧ ∀ i j, i < nn → j < nn → u.2.2.1 i j ∉ L) (fun (u : Nat × (Nat → Nat) × (Nat → Nat → Nat) × List Nat × (Nat → va_E)) t => kA G A ([(zs, .inr (5, [.int (nI (mi + 1)), .ref za, .ref zw, .ref u.1, .ref zp])), (za, .inl (G.2 0, nn, .inl (kI ar))), (u.1, .inl (G.2 4, nn, .inr (.inr (.inr (.inr (kRn nn u.2.1)))))), (zp, .inl (G.2 3, np, .inr (.inr (.inr (.inr (kRn np rp)))))), (zw, .inl (G.2 0, nn, .inl (kI (vMin ar fs sn ln op nn np mi (SS, ww, 0)).2.1)))] ++ va_pl u.2.2.2.1 u.2.2.2.2) t) A) [.ref zs].toArray s 113 1288 A) (F0 m 134 ls []) := by
    intro many L1 F1 rr1 S1 w1 hst hI H locs hP hD hS ls hl
    obtain ⟨hrw, hrr, hrp, hfr⟩ := id hI
    refine lv_iload_n hx hb dX5_go_134 rfl (lv_at hl 2 rfl) ?_
    refine lv_iload_n hx hb dX5_go_135 rfl (lv_at hl 2 rfl) ?_
    have h8 : nn * nn ≤ 7 * 7 := Nat.mul_le_mul (by omega) (by omega)
    refine kn_mna2 (n := nn) (k := nn) hx hb hown (hts _ kX5_go_0) hZ.2.2.2.2.2.1 hK hP hD hS hA (by omega) (by omega) (show 7 + (1 + nn) ≤ 113 from by omega) (show 154 + (nn + nn * nn) ≤ 1288 from by omega) dX5_go_136 (fun qz rz H hm1 hm2 hP hD hS => ?_)
    have hP : va_P G.1 vwCl ([(zs, .inr (5, [.int (nI mi), .ref za, .ref zw, .ref zq, .ref zp])), (za, .inl (G.2 0, nn, .inl (kI ar))), (zq, .inl (G.2 4, nn, .inr (.inr (.inr (.inr (kRn nn ro)))))), (zp, .inl (G.2 3, np, .inr (.inr (.inr (.inr (kRn np rp)))))), (zw, .inl (G.2 0, nn, .inl (kI w1))), (qz, .inl (G.2 4, nn, .inr (.inr (.inr (.inr (kRn nn rz))))))] ++ va_pl (L1 ++ ((List.range nn).map rz)) (vr_up F1 ((List.range nn).map rz) (.inl (G.2 3, nn, .inr (.inr (.inr (.inr (fun _ => none)))))))) H := hP
    have hD : va_D A ([(zs, .inr (5, [.int (nI mi), .ref za, .ref zw, .ref zq, .ref zp])), (za, .inl (G.2 0, nn, .inl (kI ar))), (zq, .inl (G.2 4, nn, .inr (.inr (.inr (.inr (kRn nn ro)))))), (zp, .inl (G.2 3, np, .inr (.inr (.inr (.inr (kRn np rp)))))), (zw, .inl (G.2 0, nn, .inl (kI w1))), (qz, .inl (G.2 4, nn, .inr (.inr (.inr (.inr (kRn nn rz))))))] ++ va_pl (L1 ++ ((List.range nn).map rz)) (vr_up F1 ((List.range nn).map rz) (.inl (G.2 3, nn, .inr (.inr (.inr (.inr (fun _ => none)))))))) := hD
    refine W.widen (k := 15) (n := 210) (by omega) (by omega) ?_
    refine lv_astore_n (lv' := [(3, .ref qz), (0, .ref zs), (1, .int (nI many)), (2, .int (nI nn))]) hx hb dX5_go_140 rfl hl (by decide) rfl (fun ls hl => ?_)
    have hc_383 : ∀ (L2 : List Nat) (F2 : Nat → va_E) (ct : Nat → Nat → Nat), zI2 G nn mi L1 F1 rz (fun i j => vB ar fs sn op S1 i j np) nn 0 L2 F2 ct → ∀ (H : Heap) (locs : List Loc), va_P G.1 vwCl ([(zs, .inr (5, [.int (nI mi), .ref za, .ref zw, .ref zq, .ref zp])), (za, .inl (G.2 0, nn, .inl (kI ar))), (zq, .inl (G.2 4, nn, .inr (.inr (.inr (.inr (kRn nn ro)))))), (zp, .inl (G.2 3, np, .inr (.inr (.inr (.inr (kRn np rp)))))), (zw, .inl (G.2 0, nn, .inl (kI w1))), (qz, .inl (G.2 4, nn, .inr (.inr (.inr (.inr (kRn nn rz))))))] ++ va_pl L2 F2) H → va_D A ([(zs, .inr (5, [.int (nI mi), .ref za, .ref zw, .ref zq, .ref zp])), (za, .inl (G.2 0, nn, .inl (kI ar))), (zq, .inl (G.2 4, nn, .inr (.inr (.inr (.inr (kRn nn ro)))))), (zp, .inl (G.2 3, np, .inr (.inr (.inr (.inr (kRn np rp)))))), (zw, .inl (G.2 0, nn, .inl (kI w1))), (qz, .inl (G.2 4, nn, .inr (.inr (.inr (.inr (kRn nn rz))))))] ++ va_pl L2 F2) → va_S A s.heap H locs → ∀ (ls : Array Slot), lv_has ls 12 [(3, .ref qz), (0, .ref zs), (1, .int (nI many)), (2, .int (nI nn))] → W p l e (headSpec wsX5_goZ ({ frames := 2, cells := 113, slots := 1288, locals := 45 })).room s m [.ref zs].toArray below meth c H locs 64 1288 (MQ below (va_Qi (fun (r : Int32) (u : Nat × (Nat → Nat) × (Nat → Nat → Nat) × List Nat × (Nat → va_E)) => r = nI (vMin ar fs sn ln op nn np mi (SS, ww, 0)).2.2 ∧ (∀ y, y ∈ L → y ∈ u.2.2.2.1 ∧ ((∀ i, i < nn → y ≠ ro i) → u.2.2.2.2 y = f y)) ∧ (∀ i, i < nn → u.2.1 i ∈ u.2.2.2.1 ∧ u.2.2.2.2 (u.2.1 i) = .inl (G.2 3, nn, .inr (.inr (.inr (.inr (kRn nn (u.2.2.1 i))))))) ∧ (∀ i j, i < nn → j < nn → zRow G u.2.2.2.1 u.2.2.2.2 (u.2.2.1 i j) (mi + 1) ((vMin ar fs sn ln op nn np mi (SS, ww, 0)).1 (i * 10 + j))) ∧ (∀ i j, i < nn → j < nn → u.2.1 i = u.2.1 j → i = j) ∧ (∀ i, i < nn → u.2.1 i ∉ L) ∧ ∀ i j, i < nn → j < nn → u.2.2.1 i j ∉ L) (fun (u : Nat × (Nat → Nat) × (Nat → Nat → Nat) × List Nat × (Nat → va_E)) t => kA G A ([(zs, .inr (5, [.int (nI (mi + 1)), .ref za, .ref zw, .ref u.1, .ref zp])), (za, .inl (G.2 0, nn, .inl (kI ar))), (u.1, .inl (G.2 4, nn, .inr (.inr (.inr (.inr (kRn nn u.2.1)))))), (zp, .inl (G.2 3, np, .inr (.inr (.inr (.inr (kRn np rp)))))), (zw, .inl (G.2 0, nn, .inl (kI (vMin ar fs sn ln op nn np mi (SS, ww, 0)).2.1)))] ++ va_pl u.2.2.2.1 u.2.2.2.2) t) A) [.ref zs].toArray s 113 1288 A) (F0 m 383 ls []) := by
      intro L2 F2 ct hJ H locs hP hD hS ls hl
      refine lv_iconst (v := (nI 0)) hx hb dX5_go_383 (by decide) ?_
      refine lv_istore (lv' := [(4, .int (nI 0)), (3, .ref qz), (0, .ref zs), (1, .int (nI many)), (2, .int (nI nn))]) hx hb dX5_go_384 hl (by decide) rfl (fun ls hl => ?_)
      have hc_386 : ∀ (n : Nat) (a : Nat) (L3 : List Nat) (F3 : Nat → va_E) (c3 : Nat → Nat → Nat), nn - a < n → a ≤ nn → zI3 G nn mi L1 F1 rz (fun i j => vB ar fs sn op S1 i j np) a 0 L3 F3 c3 → ∀ (H : Heap) (locs : List Loc), va_P G.1 vwCl ([(zs, .inr (5, [.int (nI mi), .ref za, .ref zw, .ref zq, .ref zp])), (za, .inl (G.2 0, nn, .inl (kI ar))), (zq, .inl (G.2 4, nn, .inr (.inr (.inr (.inr (kRn nn ro)))))), (zp, .inl (G.2 3, np, .inr (.inr (.inr (.inr (kRn np rp)))))), (zw, .inl (G.2 0, nn, .inl (kI w1))), (qz, .inl (G.2 4, nn, .inr (.inr (.inr (.inr (kRn nn rz))))))] ++ va_pl L3 F3) H → va_D A ([(zs, .inr (5, [.int (nI mi), .ref za, .ref zw, .ref zq, .ref zp])), (za, .inl (G.2 0, nn, .inl (kI ar))), (zq, .inl (G.2 4, nn, .inr (.inr (.inr (.inr (kRn nn ro)))))), (zp, .inl (G.2 3, np, .inr (.inr (.inr (.inr (kRn np rp)))))), (zw, .inl (G.2 0, nn, .inl (kI w1))), (qz, .inl (G.2 4, nn, .inr (.inr (.inr (.inr (kRn nn rz))))))] ++ va_pl L3 F3) → va_S A s.heap H locs → ∀ (ls : Array Slot), lv_has ls 12 [(4, .int (nI a)), (3, .ref qz), (0, .ref zs), (1, .int (nI many)), (2, .int (nI nn))] → W p l e (headSpec wsX5_goZ ({ frames := 2, cells := 113, slots := 1288, locals := 45 })).room s m [.ref zs].toArray below meth c H locs (64 + 7 * a) 1288 (MQ below (va_Qi (fun (r : Int32) (u : Nat × (Nat → Nat) × (Nat → Nat → Nat) × List Nat × (Nat → va_E)) => r = nI (vMin ar fs sn ln op nn np mi (SS, ww, 0)).2.2 ∧ (∀ y, y ∈ L → y ∈ u.2.2.2.1 ∧ ((∀ i, i < nn → y ≠ ro i) → u.2.2.2.2 y = f y)) ∧ (∀ i, i < nn → u.2.1 i ∈ u.2.2.2.1 ∧ u.2.2.2.2 (u.2.1 i) = .inl (G.2 3, nn, .inr (.inr (.inr (.inr (kRn nn (u.2.2.1 i))))))) ∧ (∀ i j, i < nn → j < nn → zRow G u.2.2.2.1 u.2.2.2.2 (u.2.2.1 i j) (mi + 1) ((vMin ar fs sn ln op nn np mi (SS, ww, 0)).1 (i * 10 + j))) ∧ (∀ i j, i < nn → j < nn → u.2.1 i = u.2.1 j → i = j) ∧ (∀ i, i < nn → u.2.1 i ∉ L) ∧ ∀ i j, i < nn → j < nn → u.2.2.1 i j ∉ L) (fun (u : Nat × (Nat → Nat) × (Nat → Nat → Nat) × List Nat × (Nat → va_E)) t => kA G A ([(zs, .inr (5, [.int (nI (mi + 1)), .ref za, .ref zw, .ref u.1, .ref zp])), (za, .inl (G.2 0, nn, .inl (kI ar))), (u.1, .inl (G.2 4, nn, .inr (.inr (.inr (.inr (kRn nn u.2.1)))))), (zp, .inl (G.2 3, np, .inr (.inr (.inr (.inr (kRn np rp)))))), (zw, .inl (G.2 0, nn, .inl (kI (vMin ar fs sn ln op nn np mi (SS, ww, 0)).2.1)))] ++ va_pl u.2.2.2.1 u.2.2.2.2) t) A) [.ref zs].toArray s 113 1288 A) (F0 m 386 ls []) := by
        intro n
        induction n with
        | zero =>
          intro a L3 F3 c3 hmz; exact absurd hmz (Nat.not_lt_zero _)
        | succ n ih386 =>
          intro a L3 F3 c3 hmz ha hK3 H locs hP hD hS ls hl
          refine lv_iload hx hb dX5_go_386 (lv_at hl 0 rfl) ?_
          refine lv_iload_n hx hb dX5_go_388 rfl (lv_at hl 4 rfl) ?_
          refine kb_ge (tgt := 464) hx hb dX5_go_389 (by decide) (by omega) (by omega) (fun c_1 => ?_) (fun c_1 => ?_)
          · have hK4 := hK3
            rw [show a = nn by omega] at hK4
            have hE := zI3_end hst (by omega) (fun p hp => (hV.1.2.2.2.1 p hp).2.2.1) hK4
            have hw9 : w1 = (vMin ar fs sn ln op nn np mi (SS, ww, 0)).2.1 := congrArg (fun z : vST => z.2.1) hst
            have hk9 : many = (vMin ar fs sn ln op nn np mi (SS, ww, 0)).2.2 := congrArg (fun z : vST => z.2.2) hst
            clear hst
            subst hw9
            subst hk9
            have hP : va_P G.1 vwCl ([(zs, .inr (5, [.int (nI mi), .ref za, .ref zw, .ref zq, .ref zp])), (za, .inl (G.2 0, nn, .inl (kI ar))), (zq, .inl (G.2 4, nn, .inr (.inr (.inr (.inr (kRn nn ro)))))), (zp, .inl (G.2 3, np, .inr (.inr (.inr (.inr (kRn np rp)))))), (zw, .inl (G.2 0, nn, .inl (kI (vMin ar fs sn ln op nn np mi (SS, ww, 0)).2.1))), (qz, .inl (G.2 4, nn, .inr (.inr (.inr (.inr (kRn nn rz))))))] ++ va_pl L3 F3) H := hP
            have hD : va_D A ([(zs, .inr (5, [.int (nI mi), .ref za, .ref zw, .ref zq, .ref zp])), (za, .inl (G.2 0, nn, .inl (kI ar))), (zq, .inl (G.2 4, nn, .inr (.inr (.inr (.inr (kRn nn ro)))))), (zp, .inl (G.2 3, np, .inr (.inr (.inr (.inr (kRn np rp)))))), (zw, .inl (G.2 0, nn, .inl (kI (vMin ar fs sn ln op nn np mi (SS, ww, 0)).2.1))), (qz, .inl (G.2 4, nn, .inr (.inr (.inr (.inr (kRn nn rz))))))] ++ va_pl L3 F3) := hD
            have hl : lv_has ls 12 [(4, .int (nI a)), (3, .ref qz), (0, .ref zs), (1, .int (nI ((vMin ar fs sn ln op nn np mi (SS, ww, 0)).2.2))), (2, .int (nI nn))] := hl
            refine lv_aload_n hx hb dX5_go_464 rfl (lv_at hl 2 rfl) ?_
            refine lv_aload_n hx hb dX5_go_465 rfl (lv_at hl 1 rfl) ?_
            refine va_put (D := G.1) (ci := 5) (v := .ref qz) (ty := (tyX5 3)) (C := RX5) (T := TX5) (N := 5) hx hb hts kX5_go_2 tyX5 tyX5_ok nmX5 hown hK hP hD hS 0 rfl rfl 3 (by decide) (hts _ kX5_go_1) (fun _ h9 => h9) rfl (by decide +kernel) rfl rfl (Nat.le_of_ble_eq_true rfl) dX5_go_466 (fun H locs hP hD hS => ?_)
            have hP : va_P G.1 vwCl ([(zs, .inr (5, [.int (nI mi), .ref za, .ref zw, .ref qz, .ref zp])), (za, .inl (G.2 0, nn, .inl (kI ar))), (zq, .inl (G.2 4, nn, .inr (.inr (.inr (.inr (kRn nn ro)))))), (zp, .inl (G.2 3, np, .inr (.inr (.inr (.inr (kRn np rp)))))), (zw, .inl (G.2 0, nn, .inl (kI (vMin ar fs sn ln op nn np mi (SS, ww, 0)).2.1))), (qz, .inl (G.2 4, nn, .inr (.inr (.inr (.inr (kRn nn rz))))))] ++ va_pl L3 F3) H := hP
            have hD : va_D A ([(zs, .inr (5, [.int (nI mi), .ref za, .ref zw, .ref qz, .ref zp])), (za, .inl (G.2 0, nn, .inl (kI ar))), (zq, .inl (G.2 4, nn, .inr (.inr (.inr (.inr (kRn nn ro)))))), (zp, .inl (G.2 3, np, .inr (.inr (.inr (.inr (kRn np rp)))))), (zw, .inl (G.2 0, nn, .inl (kI (vMin ar fs sn ln op nn np mi (SS, ww, 0)).2.1))), (qz, .inl (G.2 4, nn, .inr (.inr (.inr (.inr (kRn nn rz))))))] ++ va_pl L3 F3) := hD
            refine lv_aload_n hx hb dX5_go_469 rfl (lv_at hl 2 rfl) ?_
            refine lv_dup hx hb dX5_go_470 rfl ?_
            refine va_get (D := G.1) (ci := 5) (v := .int (nI mi)) (C := RX5) (T := TX5) (N := 5) hx hb hts kX5_go_2 hown hK hP 0 rfl rfl 0 (by decide) (hts _ kX5_go_3) (fun _ h9 => h9) rfl dX5_go_471 ?_
            refine lv_iconst (v := (nI 1)) hx hb dX5_go_474 (by decide) ?_
            refine lv_iadd hx hb dX5_go_475 ?_
            refine kr_top (y := nI (mi + 1)) (nI_add mi 1) ?_
            refine va_put (D := G.1) (ci := 5) (v := .int (nI (mi + 1))) (ty := .int) (C := RX5) (T := TX5) (N := 5) hx hb hts kX5_go_2 tyX5 tyX5_ok nmX5 hown hK hP hD hS 0 rfl rfl 0 (by decide) (hts _ kX5_go_3) (fun _ h9 => h9) rfl (by decide +kernel) rfl rfl (Nat.le_of_ble_eq_true rfl) dX5_go_476 (fun H locs hP hD hS => ?_)
            have hP : va_P G.1 vwCl ([(zs, .inr (5, [.int (nI (mi + 1)), .ref za, .ref zw, .ref qz, .ref zp])), (za, .inl (G.2 0, nn, .inl (kI ar))), (zq, .inl (G.2 4, nn, .inr (.inr (.inr (.inr (kRn nn ro)))))), (zp, .inl (G.2 3, np, .inr (.inr (.inr (.inr (kRn np rp)))))), (zw, .inl (G.2 0, nn, .inl (kI (vMin ar fs sn ln op nn np mi (SS, ww, 0)).2.1))), (qz, .inl (G.2 4, nn, .inr (.inr (.inr (.inr (kRn nn rz))))))] ++ va_pl L3 F3) H := hP
            have hD : va_D A ([(zs, .inr (5, [.int (nI (mi + 1)), .ref za, .ref zw, .ref qz, .ref zp])), (za, .inl (G.2 0, nn, .inl (kI ar))), (zq, .inl (G.2 4, nn, .inr (.inr (.inr (.inr (kRn nn ro)))))), (zp, .inl (G.2 3, np, .inr (.inr (.inr (.inr (kRn np rp)))))), (zw, .inl (G.2 0, nn, .inl (kI (vMin ar fs sn ln op nn np mi (SS, ww, 0)).2.1))), (qz, .inl (G.2 4, nn, .inr (.inr (.inr (.inr (kRn nn rz))))))] ++ va_pl L3 F3) := hD
            refine lv_iload_n hx hb dX5_go_479 rfl (lv_at hl 3 rfl) ?_
            have hP9 : va_P G.1 vwCl ([(zs, .inr (5, [.int (nI (mi + 1)), .ref za, .ref zw, .ref qz, .ref zp])), (za, .inl (G.2 0, nn, .inl (kI ar))), (qz, .inl (G.2 4, nn, .inr (.inr (.inr (.inr (kRn nn rz)))))), (zp, .inl (G.2 3, np, .inr (.inr (.inr (.inr (kRn np rp)))))), (zw, .inl (G.2 0, nn, .inl (kI (vMin ar fs sn ln op nn np mi (SS, ww, 0)).2.1)))] ++ va_pl L3 F3) _ := hP.part (cx := [(zs, .inr (5, [.int (nI (mi + 1)), .ref za, .ref zw, .ref qz, .ref zp])), (za, .inl (G.2 0, nn, .inl (kI ar))), (qz, .inl (G.2 4, nn, .inr (.inr (.inr (.inr (kRn nn rz)))))), (zp, .inl (G.2 3, np, .inr (.inr (.inr (.inr (kRn np rp)))))), (zw, .inl (G.2 0, nn, .inl (kI (vMin ar fs sn ln op nn np mi (SS, ww, 0)).2.1)))]) [0, 1, 5, 3, 4] rfl
            have hD9 : va_D A ([(zs, .inr (5, [.int (nI (mi + 1)), .ref za, .ref zw, .ref qz, .ref zp])), (za, .inl (G.2 0, nn, .inl (kI ar))), (qz, .inl (G.2 4, nn, .inr (.inr (.inr (.inr (kRn nn rz)))))), (zp, .inl (G.2 3, np, .inr (.inr (.inr (.inr (kRn np rp)))))), (zw, .inl (G.2 0, nn, .inl (kI (vMin ar fs sn ln op nn np mi (SS, ww, 0)).2.1)))] ++ va_pl L3 F3) := hD.part (cx := [(zs, .inr (5, [.int (nI (mi + 1)), .ref za, .ref zw, .ref qz, .ref zp])), (za, .inl (G.2 0, nn, .inl (kI ar))), (qz, .inl (G.2 4, nn, .inr (.inr (.inr (.inr (kRn nn rz)))))), (zp, .inl (G.2 3, np, .inr (.inr (.inr (.inr (kRn np rp)))))), (zw, .inl (G.2 0, nn, .inl (kI (vMin ar fs sn ln op nn np mi (SS, ww, 0)).2.1)))]) [0, 1, 5, 3, 4] (by decide) rfl
            refine W.widen (k := 113) (n := 1288) (by omega) (Nat.le_of_ble_eq_true rfl) ?_
            exact km_iret (v := (nI ((vMin ar fs sn ln op nn np mi (SS, ww, 0)).2.2))) (post := fun (r : Int32) (u : Nat × (Nat → Nat) × (Nat → Nat → Nat) × List Nat × (Nat → va_E)) => r = nI (vMin ar fs sn ln op nn np mi (SS, ww, 0)).2.2 ∧ (∀ y, y ∈ L → y ∈ u.2.2.2.1 ∧ ((∀ i, i < nn → y ≠ ro i) → u.2.2.2.2 y = f y)) ∧ (∀ i, i < nn → u.2.1 i ∈ u.2.2.2.1 ∧ u.2.2.2.2 (u.2.1 i) = .inl (G.2 3, nn, .inr (.inr (.inr (.inr (kRn nn (u.2.2.1 i))))))) ∧ (∀ i j, i < nn → j < nn → zRow G u.2.2.2.1 u.2.2.2.2 (u.2.2.1 i j) (mi + 1) ((vMin ar fs sn ln op nn np mi (SS, ww, 0)).1 (i * 10 + j))) ∧ (∀ i j, i < nn → j < nn → u.2.1 i = u.2.1 j → i = j) ∧ (∀ i, i < nn → u.2.1 i ∉ L) ∧ ∀ i j, i < nn → j < nn → u.2.2.1 i j ∉ L) (wo := fun (u : Nat × (Nat → Nat) × (Nat → Nat → Nat) × List Nat × (Nat → va_E)) => ([(zs, .inr (5, [.int (nI (mi + 1)), .ref za, .ref zw, .ref u.1, .ref zp])), (za, .inl (G.2 0, nn, .inl (kI ar))), (u.1, .inl (G.2 4, nn, .inr (.inr (.inr (.inr (kRn nn u.2.1)))))), (zp, .inl (G.2 3, np, .inr (.inr (.inr (.inr (kRn np rp)))))), (zw, .inl (G.2 0, nn, .inl (kI (vMin ar fs sn ln op nn np mi (SS, ww, 0)).2.1)))] ++ va_pl u.2.2.2.1 u.2.2.2.2)) (qz, rz, c3, L3, F3) hx hb hr hlocks hS hP9 hD9 (⟨rfl, fun y hy => ⟨(hK4.1 y (hfr y hy).1).1, fun q => (hK4.1 y (hfr y hy).1).2.trans ((hfr y hy).2 q)⟩, hK4.2.1, hE, hm1, fun i hi z => hm2 i hi (hfr _ z).1, fun i j hi hj z => (hK4.2.2.1 i j hi hj).1 (hfr _ z).1⟩) dX5_go_480
          · refine lv_iconst (v := (nI 0)) hx hb dX5_go_392 (by decide) ?_
            refine lv_istore (lv' := [(5, .int (nI 0)), (4, .int (nI a)), (3, .ref qz), (0, .ref zs), (1, .int (nI many)), (2, .int (nI nn))]) hx hb dX5_go_393 hl (by decide) rfl (fun ls hl => ?_)
            have hc_395 : ∀ (n : Nat) (k : Nat) (L3 : List Nat) (F3 : Nat → va_E) (c3 : Nat → Nat → Nat), nn - k < n → k ≤ nn → zI3 G nn mi L1 F1 rz (fun i j => vB ar fs sn op S1 i j np) a k L3 F3 c3 → ∀ (H : Heap) (locs : List Loc), va_P G.1 vwCl ([(zs, .inr (5, [.int (nI mi), .ref za, .ref zw, .ref zq, .ref zp])), (za, .inl (G.2 0, nn, .inl (kI ar))), (zq, .inl (G.2 4, nn, .inr (.inr (.inr (.inr (kRn nn ro)))))), (zp, .inl (G.2 3, np, .inr (.inr (.inr (.inr (kRn np rp)))))), (zw, .inl (G.2 0, nn, .inl (kI w1))), (qz, .inl (G.2 4, nn, .inr (.inr (.inr (.inr (kRn nn rz))))))] ++ va_pl L3 F3) H → va_D A ([(zs, .inr (5, [.int (nI mi), .ref za, .ref zw, .ref zq, .ref zp])), (za, .inl (G.2 0, nn, .inl (kI ar))), (zq, .inl (G.2 4, nn, .inr (.inr (.inr (.inr (kRn nn ro)))))), (zp, .inl (G.2 3, np, .inr (.inr (.inr (.inr (kRn np rp)))))), (zw, .inl (G.2 0, nn, .inl (kI w1))), (qz, .inl (G.2 4, nn, .inr (.inr (.inr (.inr (kRn nn rz))))))] ++ va_pl L3 F3) → va_S A s.heap H locs → ∀ (ls : Array Slot), lv_has ls 12 [(5, .int (nI k)), (4, .int (nI a)), (3, .ref qz), (0, .ref zs), (1, .int (nI many)), (2, .int (nI nn))] → W p l e (headSpec wsX5_goZ ({ frames := 2, cells := 113, slots := 1288, locals := 45 })).room s m [.ref zs].toArray below meth c H locs (64 + 7 * a + k) 1288 (MQ below (va_Qi (fun (r : Int32) (u : Nat × (Nat → Nat) × (Nat → Nat → Nat) × List Nat × (Nat → va_E)) => r = nI (vMin ar fs sn ln op nn np mi (SS, ww, 0)).2.2 ∧ (∀ y, y ∈ L → y ∈ u.2.2.2.1 ∧ ((∀ i, i < nn → y ≠ ro i) → u.2.2.2.2 y = f y)) ∧ (∀ i, i < nn → u.2.1 i ∈ u.2.2.2.1 ∧ u.2.2.2.2 (u.2.1 i) = .inl (G.2 3, nn, .inr (.inr (.inr (.inr (kRn nn (u.2.2.1 i))))))) ∧ (∀ i j, i < nn → j < nn → zRow G u.2.2.2.1 u.2.2.2.2 (u.2.2.1 i j) (mi + 1) ((vMin ar fs sn ln op nn np mi (SS, ww, 0)).1 (i * 10 + j))) ∧ (∀ i j, i < nn → j < nn → u.2.1 i = u.2.1 j → i = j) ∧ (∀ i, i < nn → u.2.1 i ∉ L) ∧ ∀ i j, i < nn → j < nn → u.2.2.1 i j ∉ L) (fun (u : Nat × (Nat → Nat) × (Nat → Nat → Nat) × List Nat × (Nat → va_E)) t => kA G A ([(zs, .inr (5, [.int (nI (mi + 1)), .ref za, .ref zw, .ref u.1, .ref zp])), (za, .inl (G.2 0, nn, .inl (kI ar))), (u.1, .inl (G.2 4, nn, .inr (.inr (.inr (.inr (kRn nn u.2.1)))))), (zp, .inl (G.2 3, np, .inr (.inr (.inr (.inr (kRn np rp)))))), (zw, .inl (G.2 0, nn, .inl (kI (vMin ar fs sn ln op nn np mi (SS, ww, 0)).2.1)))] ++ va_pl u.2.2.2.1 u.2.2.2.2) t) A) [.ref zs].toArray s 113 1288 A) (F0 m 395 ls []) := by
              intro n
              induction n with
              | zero =>
                intro k L3 F3 c3 hmz; exact absurd hmz (Nat.not_lt_zero _)
              | succ n ih395 =>
                intro k L3 F3 c3 hmz hk hK3 H locs hP hD hS ls hl
                refine lv_iload hx hb dX5_go_395 (lv_at hl 0 rfl) ?_
                refine lv_iload_n hx hb dX5_go_397 rfl (lv_at hl 5 rfl) ?_
                refine kb_ge (tgt := 458) hx hb dX5_go_398 (by decide) (by omega) (by omega) (fun c_2 => ?_) (fun c_2 => ?_)
                · refine lv_iinc (k := 1) (v := (nI (a + 1))) (lv' := [(4, .int (nI (a + 1))), (5, .int (nI k)), (3, .ref qz), (0, .ref zs), (1, .int (nI many)), (2, .int (nI nn))]) hx hb dX5_go_458 hl rfl (kn_inc a) (by decide) rfl (fun ls hl => ?_)
                  refine lv_goto (tgt := 386) hx hb dX5_go_461 (by decide) ?_
                  refine W.widen (k := 64 + 7 * (a + 1)) (n := 1288) (by omega) (by omega) ?_
                  exact ih386 (a + 1) L3 F3 c3 (by omega) (by omega) (by have e := hK3; rw [show k = nn by omega] at e; exact zI3_n e) _ _ hP hD hS _ (lv_sub hl [0, 2, 3, 4, 5] rfl)
                · obtain ⟨hx1, hx2, hx3, hx4⟩ := id hK3
                  obtain ⟨hmz, lz, gz, hfz, hvz⟩ := (hx3 a k (by omega) (by omega)).2.2 (by omega)
                  have hvz : zVal mi (vB ar fs sn op S1 a k np) lz gz := hvz
                  have hnz := zVal_len hvz
                  refine lv_aload_n hx hb dX5_go_401 rfl (lv_at hl 2 rfl) ?_
                  refine lv_iload hx hb dX5_go_402 (lv_at hl 1 rfl) ?_
                  refine kr_aldA (k := a) (v := .ref (rz a)) hx hb hK hP 5 4 rfl rfl (by omega) (by omega) (kRn_at (by omega)) dX5_go_404 ?_
                  refine lv_iload hx hb dX5_go_405 (lv_at hl 0 rfl) ?_
                  refine kp_aldA (k := k) (v := .ref (c3 a k)) hx hb hK hP 3 (hx2 a (by omega)).1 (hx2 a (by omega)).2 rfl (by omega) (by omega) (kRn_at (by omega)) dX5_go_407 ?_
                  refine kp_alenf hx hb hK hP hmz hfz dX5_go_408 ?_
                  refine kb_ne0 (tgt := 415) hx hb dX5_go_409 (by decide) (by omega) (fun c_3 => ?_) (fun c_3 => ?_)
                  · obtain ⟨v9, hv1, hv2, hv3, hv4⟩ := zVal_s hvz (by omega)
                    refine lv_aload_n hx hb dX5_go_415 rfl (lv_at hl 2 rfl) ?_
                    refine lv_iload hx hb dX5_go_416 (lv_at hl 1 rfl) ?_
                    refine kr_aldA (k := a) (v := .ref (rz a)) hx hb hK hP 5 4 rfl rfl (by omega) (by omega) (kRn_at (by omega)) dX5_go_418 ?_
                    refine lv_iload hx hb dX5_go_419 (lv_at hl 0 rfl) ?_
                    refine kp_aldA (k := k) (v := .ref (c3 a k)) hx hb hK hP 3 (hx2 a (by omega)).1 (hx2 a (by omega)).2 rfl (by omega) (by omega) (kRn_at (by omega)) dX5_go_421 ?_
                    refine lv_iconst (v := (nI 1)) hx hb dX5_go_422 (by decide) ?_
                    refine lv_dup2_11 hx hb dX5_go_423 rfl rfl ?_
                    refine kp_ialf (k := 1) (v := (nI (gz 1))) hx hb hK hP hmz hfz (by omega) (by omega) rfl dX5_go_424 ?_
                    refine lv_iconst (v := (nI 1)) hx hb dX5_go_425 (by decide) ?_
                    refine lv_iadd hx hb dX5_go_426 ?_
                    refine kr_top (y := nI ((gz 1) + 1)) (nI_add (gz 1) 1) ?_
                    refine kp_isto (k := 1) (g' := (kI (va_up gz 1 ((gz 1) + 1)))) hx hb hK hP hD hS hmz hfz (by omega) (by omega) (kI_up gz 1 ((gz 1) + 1)) dX5_go_427 (fun H locs hP hD hS => ?_)
                    have hP : va_P G.1 vwCl ([(zs, .inr (5, [.int (nI mi), .ref za, .ref zw, .ref zq, .ref zp])), (za, .inl (G.2 0, nn, .inl (kI ar))), (zq, .inl (G.2 4, nn, .inr (.inr (.inr (.inr (kRn nn ro)))))), (zp, .inl (G.2 3, np, .inr (.inr (.inr (.inr (kRn np rp)))))), (zw, .inl (G.2 0, nn, .inl (kI w1))), (qz, .inl (G.2 4, nn, .inr (.inr (.inr (.inr (kRn nn rz))))))] ++ va_pl L3 (va_up F3 (c3 a k) (.inl (G.2 0, lz, .inl (kI (va_up gz 1 ((gz 1) + 1))))))) H := hP
                    have hD : va_D A ([(zs, .inr (5, [.int (nI mi), .ref za, .ref zw, .ref zq, .ref zp])), (za, .inl (G.2 0, nn, .inl (kI ar))), (zq, .inl (G.2 4, nn, .inr (.inr (.inr (.inr (kRn nn ro)))))), (zp, .inl (G.2 3, np, .inr (.inr (.inr (.inr (kRn np rp)))))), (zw, .inl (G.2 0, nn, .inl (kI w1))), (qz, .inl (G.2 4, nn, .inr (.inr (.inr (.inr (kRn nn rz))))))] ++ va_pl L3 (va_up F3 (c3 a k) (.inl (G.2 0, lz, .inl (kI (va_up gz 1 ((gz 1) + 1))))))) := hD
                    have hne9 : rz a ≠ c3 a k := fun z => ((hx3 a k (by omega) (by omega)).2.2 (by omega)).ne (hx2 a (by omega)).2 z.symm
                    refine lv_aload_n hx hb dX5_go_428 rfl (lv_at hl 2 rfl) ?_
                    refine lv_iload hx hb dX5_go_429 (lv_at hl 1 rfl) ?_
                    refine kr_aldA (k := a) (v := .ref (rz a)) hx hb hK hP 5 4 rfl rfl (by omega) (by omega) (kRn_at (by omega)) dX5_go_431 ?_
                    refine lv_iload hx hb dX5_go_432 (lv_at hl 0 rfl) ?_
                    refine kp_aldA (k := k) (v := .ref (c3 a k)) hx hb hK hP 3 (hx2 a (by omega)).1 ((va_up_ne _ _ hne9).trans (hx2 a (by omega)).2) rfl (by omega) (by omega) (kRn_at (by omega)) dX5_go_434 ?_
                    refine lv_iconst (v := (nI 1)) hx hb dX5_go_435 (by decide) ?_
                    refine kp_ialf (k := 1) (v := (nI (gz 1 + 1))) hx hb hK hP hmz (va_up_self _ _ _) (by omega) (by omega) (congrArg nI (va_up_self _ _ _)) dX5_go_436 ?_
                    refine lv_bipush (v := (nI 30)) hx hb dX5_go_437 (by decide) ?_
                    refine kb_le (tgt := 452) hx hb dX5_go_439 (by decide) (by omega) (by decide) (fun c_4 => ?_) (fun c_4 => ?_)
                    · refine lv_iinc (k := 0) (v := (nI (k + 1))) (lv' := [(5, .int (nI (k + 1))), (4, .int (nI a)), (3, .ref qz), (0, .ref zs), (1, .int (nI many)), (2, .int (nI nn))]) hx hb dX5_go_452 hl rfl (kn_inc k) (by decide) rfl (fun ls hl => ?_)
                      refine lv_goto (tgt := 395) hx hb dX5_go_455 (by decide) ?_
                      refine W.widen (k := 64 + 7 * a + (k + 1)) (n := 1288) (by omega) (by omega) ?_
                      exact ih395 (k + 1) L3 (va_up F3 (c3 a k) (.inl (G.2 0, lz, .inl (kI (va_up gz 1 ((gz 1) + 1)))))) c3 (by omega) (by omega) (by exact zI3_age hK3 (by omega) (by omega) hm2 hmz hvz hv1 (by omega)) _ _ hP hD hS _ (lv_sub hl [0, 1, 2, 3, 4, 5] rfl)
                    · refine lv_aload_n hx hb dX5_go_442 rfl (lv_at hl 2 rfl) ?_
                      refine lv_iload hx hb dX5_go_443 (lv_at hl 1 rfl) ?_
                      refine kr_aldA (k := a) (v := .ref (rz a)) hx hb hK hP 5 4 rfl rfl (by omega) (by omega) (kRn_at (by omega)) dX5_go_445 ?_
                      refine lv_iload hx hb dX5_go_446 (lv_at hl 0 rfl) ?_
                      refine lv_iconst (v := (nI 0)) hx hb dX5_go_448 (by decide) ?_
                      refine kn_newi hx hb (hts _ kX5_go_4) hK hP hD hS hA (by decide) (show 64 + 7 * a + k + 1 ≤ 113 from by omega) (Nat.le_of_ble_eq_true rfl) dX5_go_449 (fun q_5 H hP hD hS => ?_)
                      have hP := va_P.swap hP
                      have hD := va_D.swap hD
                      have hP : va_P G.1 vwCl ([(zs, .inr (5, [.int (nI mi), .ref za, .ref zw, .ref zq, .ref zp])), (za, .inl (G.2 0, nn, .inl (kI ar))), (zq, .inl (G.2 4, nn, .inr (.inr (.inr (.inr (kRn nn ro)))))), (zp, .inl (G.2 3, np, .inr (.inr (.inr (.inr (kRn np rp)))))), (zw, .inl (G.2 0, nn, .inl (kI w1))), (qz, .inl (G.2 4, nn, .inr (.inr (.inr (.inr (kRn nn rz)))))), (q_5, .inl (G.2 0, 0, .inl (kI (fun _ => 0))))] ++ va_pl L3 (va_up F3 (c3 a k) (.inl (G.2 0, lz, .inl (kI (va_up gz 1 ((gz 1) + 1))))))) H := hP
                      have hD : va_D A ([(zs, .inr (5, [.int (nI mi), .ref za, .ref zw, .ref zq, .ref zp])), (za, .inl (G.2 0, nn, .inl (kI ar))), (zq, .inl (G.2 4, nn, .inr (.inr (.inr (.inr (kRn nn ro)))))), (zp, .inl (G.2 3, np, .inr (.inr (.inr (.inr (kRn np rp)))))), (zw, .inl (G.2 0, nn, .inl (kI w1))), (qz, .inl (G.2 4, nn, .inr (.inr (.inr (.inr (kRn nn rz)))))), (q_5, .inl (G.2 0, 0, .inl (kI (fun _ => 0))))] ++ va_pl L3 (va_up F3 (c3 a k) (.inl (G.2 0, lz, .inl (kI (va_up gz 1 ((gz 1) + 1))))))) := hD
                      refine W.widen (k := 64 + 7 * a + (k + 1)) (n := 1288) (by omega) (by omega) ?_
                      have hP : va_P G.1 vwCl (([(zs, .inr (5, [.int (nI mi), .ref za, .ref zw, .ref zq, .ref zp])), (za, .inl (G.2 0, nn, .inl (kI ar))), (zq, .inl (G.2 4, nn, .inr (.inr (.inr (.inr (kRn nn ro)))))), (zp, .inl (G.2 3, np, .inr (.inr (.inr (.inr (kRn np rp)))))), (zw, .inl (G.2 0, nn, .inl (kI w1))), (qz, .inl (G.2 4, nn, .inr (.inr (.inr (.inr (kRn nn rz))))))] ++ [(q_5, .inl (G.2 0, 0, .inl (kI (fun _ => 0))))]) ++ va_pl L3 (va_up F3 (c3 a k) (.inl (G.2 0, lz, .inl (kI (va_up gz 1 ((gz 1) + 1))))))) _ := hP.part (cx := [(zs, .inr (5, [.int (nI mi), .ref za, .ref zw, .ref zq, .ref zp])), (za, .inl (G.2 0, nn, .inl (kI ar))), (zq, .inl (G.2 4, nn, .inr (.inr (.inr (.inr (kRn nn ro)))))), (zp, .inl (G.2 3, np, .inr (.inr (.inr (.inr (kRn np rp)))))), (zw, .inl (G.2 0, nn, .inl (kI w1))), (qz, .inl (G.2 4, nn, .inr (.inr (.inr (.inr (kRn nn rz)))))), (q_5, .inl (G.2 0, 0, .inl (kI (fun _ => 0))))]) [0, 1, 2, 3, 4, 5, 6] rfl
                      have hD : va_D A (([(zs, .inr (5, [.int (nI mi), .ref za, .ref zw, .ref zq, .ref zp])), (za, .inl (G.2 0, nn, .inl (kI ar))), (zq, .inl (G.2 4, nn, .inr (.inr (.inr (.inr (kRn nn ro)))))), (zp, .inl (G.2 3, np, .inr (.inr (.inr (.inr (kRn np rp)))))), (zw, .inl (G.2 0, nn, .inl (kI w1))), (qz, .inl (G.2 4, nn, .inr (.inr (.inr (.inr (kRn nn rz))))))] ++ [(q_5, .inl (G.2 0, 0, .inl (kI (fun _ => 0))))]) ++ va_pl L3 (va_up F3 (c3 a k) (.inl (G.2 0, lz, .inl (kI (va_up gz 1 ((gz 1) + 1))))))) := hD.part (cx := [(zs, .inr (5, [.int (nI mi), .ref za, .ref zw, .ref zq, .ref zp])), (za, .inl (G.2 0, nn, .inl (kI ar))), (zq, .inl (G.2 4, nn, .inr (.inr (.inr (.inr (kRn nn ro)))))), (zp, .inl (G.2 3, np, .inr (.inr (.inr (.inr (kRn np rp)))))), (zw, .inl (G.2 0, nn, .inl (kI w1))), (qz, .inl (G.2 4, nn, .inr (.inr (.inr (.inr (kRn nn rz)))))), (q_5, .inl (G.2 0, 0, .inl (kI (fun _ => 0))))]) [0, 1, 2, 3, 4, 5, 6] (by decide) rfl
                      obtain ⟨hP, hD, hnyq_5⟩ := kp_push1 hP hD
                      have hP : va_P G.1 vwCl ([(zs, .inr (5, [.int (nI mi), .ref za, .ref zw, .ref zq, .ref zp])), (za, .inl (G.2 0, nn, .inl (kI ar))), (zq, .inl (G.2 4, nn, .inr (.inr (.inr (.inr (kRn nn ro)))))), (zp, .inl (G.2 3, np, .inr (.inr (.inr (.inr (kRn np rp)))))), (zw, .inl (G.2 0, nn, .inl (kI w1))), (qz, .inl (G.2 4, nn, .inr (.inr (.inr (.inr (kRn nn rz))))))] ++ va_pl (L3 ++ [q_5]) (va_up (va_up F3 (c3 a k) (.inl (G.2 0, lz, .inl (kI (va_up gz 1 ((gz 1) + 1)))))) q_5 (.inl (G.2 0, 0, .inl (kI (fun _ => 0)))))) H := hP
                      have hD : va_D A ([(zs, .inr (5, [.int (nI mi), .ref za, .ref zw, .ref zq, .ref zp])), (za, .inl (G.2 0, nn, .inl (kI ar))), (zq, .inl (G.2 4, nn, .inr (.inr (.inr (.inr (kRn nn ro)))))), (zp, .inl (G.2 3, np, .inr (.inr (.inr (.inr (kRn np rp)))))), (zw, .inl (G.2 0, nn, .inl (kI w1))), (qz, .inl (G.2 4, nn, .inr (.inr (.inr (.inr (kRn nn rz))))))] ++ va_pl (L3 ++ [q_5]) (va_up (va_up F3 (c3 a k) (.inl (G.2 0, lz, .inl (kI (va_up gz 1 ((gz 1) + 1)))))) q_5 (.inl (G.2 0, 0, .inl (kI (fun _ => 0)))))) := hD
                      have mpf_6 : (rz a) ∈ (L3 ++ [q_5]) := List.mem_append_left _ (hx2 a (by omega)).1
                      have epf_6 : (va_up (va_up F3 (c3 a k) (.inl (G.2 0, lz, .inl (kI (va_up gz 1 ((gz 1) + 1)))))) q_5 (.inl (G.2 0, 0, .inl (kI (fun _ => 0))))) (rz a) = (.inl (G.2 3, nn, .inr (.inr (.inr (.inr (kRn nn (c3 a))))))) := by rw [va_up_ne _ _ (show (rz a) ≠ q_5 from fun z => hnyq_5 (z ▸ (hx2 a (by omega)).1))]; exact ((va_up_ne _ _ hne9).trans (hx2 a (by omega)).2)
                      have mpf_7 : (c3 a k) ∈ (L3 ++ [q_5]) := List.mem_append_left _ hmz
                      have epf_7 : (va_up (va_up F3 (c3 a k) (.inl (G.2 0, lz, .inl (kI (va_up gz 1 ((gz 1) + 1)))))) q_5 (.inl (G.2 0, 0, .inl (kI (fun _ => 0))))) (c3 a k) = (.inl (G.2 0, lz, .inl (kI (va_up gz 1 (gz 1 + 1))))) := by rw [va_up_ne _ _ (show (c3 a k) ≠ q_5 from fun z => hnyq_5 (z ▸ hmz))]; exact (va_up_self _ _ _)
                      refine kp_astR (k := k) (g' := (kRn nn (va_up (c3 a) k q_5))) hx hb hK hZ.2.2.2.2.1 hP hD hS mpf_6 epf_6 (List.mem_append_right _ List.mem_cons_self) (va_up_self _ _ _) (by omega) (by omega) (kRn_up (by omega)) dX5_go_451 (fun H locs hP hD hS => ?_)
                      have hP : va_P G.1 vwCl ([(zs, .inr (5, [.int (nI mi), .ref za, .ref zw, .ref zq, .ref zp])), (za, .inl (G.2 0, nn, .inl (kI ar))), (zq, .inl (G.2 4, nn, .inr (.inr (.inr (.inr (kRn nn ro)))))), (zp, .inl (G.2 3, np, .inr (.inr (.inr (.inr (kRn np rp)))))), (zw, .inl (G.2 0, nn, .inl (kI w1))), (qz, .inl (G.2 4, nn, .inr (.inr (.inr (.inr (kRn nn rz))))))] ++ va_pl (L3 ++ [q_5]) (va_up (va_up (va_up F3 (c3 a k) (.inl (G.2 0, lz, .inl (kI (va_up gz 1 ((gz 1) + 1)))))) q_5 (.inl (G.2 0, 0, .inl (kI (fun _ => 0))))) (rz a) (.inl (G.2 3, nn, .inr (.inr (.inr (.inr (kRn nn (va_up (c3 a) k q_5))))))))) H := hP
                      have hD : va_D A ([(zs, .inr (5, [.int (nI mi), .ref za, .ref zw, .ref zq, .ref zp])), (za, .inl (G.2 0, nn, .inl (kI ar))), (zq, .inl (G.2 4, nn, .inr (.inr (.inr (.inr (kRn nn ro)))))), (zp, .inl (G.2 3, np, .inr (.inr (.inr (.inr (kRn np rp)))))), (zw, .inl (G.2 0, nn, .inl (kI w1))), (qz, .inl (G.2 4, nn, .inr (.inr (.inr (.inr (kRn nn rz))))))] ++ va_pl (L3 ++ [q_5]) (va_up (va_up (va_up F3 (c3 a k) (.inl (G.2 0, lz, .inl (kI (va_up gz 1 ((gz 1) + 1)))))) q_5 (.inl (G.2 0, 0, .inl (kI (fun _ => 0))))) (rz a) (.inl (G.2 3, nn, .inr (.inr (.inr (.inr (kRn nn (va_up (c3 a) k q_5))))))))) := hD
                      refine lv_iinc (k := 0) (v := (nI (k + 1))) (lv' := [(5, .int (nI (k + 1))), (4, .int (nI a)), (3, .ref qz), (0, .ref zs), (1, .int (nI many)), (2, .int (nI nn))]) hx hb dX5_go_452 hl rfl (kn_inc k) (by decide) rfl (fun ls hl => ?_)
                      refine lv_goto (tgt := 395) hx hb dX5_go_455 (by decide) ?_
                      exact ih395 (k + 1) (L3 ++ [q_5]) (va_up (va_up (va_up F3 (c3 a k) (.inl (G.2 0, lz, .inl (kI (va_up gz 1 ((gz 1) + 1)))))) q_5 (.inl (G.2 0, 0, .inl (kI (fun _ => 0))))) (rz a) (.inl (G.2 3, nn, .inr (.inr (.inr (.inr (kRn nn (va_up (c3 a) k q_5)))))))) (va_up c3 a (va_up (c3 a) k q_5)) (by omega) (by omega) (by exact zI3_throw hK3 (by omega) (by omega) hm1 hm2 hnyq_5 (show zOut mi (vB ar fs sn op S1 a k np) = none by rw [hv1]; exact zOut_o (by omega))) _ _ hP hD hS _ (lv_sub hl [0, 1, 2, 3, 4, 5] rfl)
                  · refine lv_goto (tgt := 452) hx hb dX5_go_412 (by decide) ?_
                    refine lv_iinc (k := 0) (v := (nI (k + 1))) (lv' := [(5, .int (nI (k + 1))), (4, .int (nI a)), (3, .ref qz), (0, .ref zs), (1, .int (nI many)), (2, .int (nI nn))]) hx hb dX5_go_452 hl rfl (kn_inc k) (by decide) rfl (fun ls hl => ?_)
                    refine lv_goto (tgt := 395) hx hb dX5_go_455 (by decide) ?_
                    refine W.widen (k := 64 + 7 * a + (k + 1)) (n := 1288) (by omega) (by omega) ?_
                    exact ih395 (k + 1) L3 F3 c3 (by omega) (by omega) (by exact zI3_none hK3 (by omega) (by omega) hm2 hmz hfz hvz (by omega)) _ _ hP hD hS _ (lv_sub hl [0, 1, 2, 3, 4, 5] rfl)
            refine W.widen (k := 64 + 7 * a + 0) (n := 1288) (by omega) (by omega) ?_
            exact hc_395 (_ + 1) 0 L3 F3 c3 (Nat.lt_succ_self _) (by omega) (by exact hK3) _ _ hP hD hS _ (lv_sub hl [0, 1, 2, 3, 4, 5] rfl)
      refine W.widen (k := 64 + 7 * 0) (n := 1288) (by omega) (by omega) ?_
      exact hc_386 (_ + 1) 0 L2 F2 ct (Nat.lt_succ_self _) (by omega) (by exact zI3_0 hJ) _ _ hP hD hS _ (lv_sub hl [0, 1, 2, 3, 4] rfl)
    refine lv_iconst (v := (nI 0)) hx hb dX5_go_141 (by decide) ?_
    refine lv_istore (lv' := [(4, .int (nI 0)), (3, .ref qz), (0, .ref zs), (1, .int (nI many)), (2, .int (nI nn))]) hx hb dX5_go_142 hl (by decide) rfl (fun ls hl => ?_)
    have hc_144 : ∀ (n : Nat) (a : Nat) (L2 : List Nat) (F2 : Nat → va_E) (ct : Nat → Nat → Nat), nn - a < n → a ≤ nn → zI2 G nn mi L1 F1 rz (fun i j => vB ar fs sn op S1 i j np) a 0 L2 F2 ct → ∀ (H : Heap) (locs : List Loc), va_P G.1 vwCl ([(zs, .inr (5, [.int (nI mi), .ref za, .ref zw, .ref zq, .ref zp])), (za, .inl (G.2 0, nn, .inl (kI ar))), (zq, .inl (G.2 4, nn, .inr (.inr (.inr (.inr (kRn nn ro)))))), (zp, .inl (G.2 3, np, .inr (.inr (.inr (.inr (kRn np rp)))))), (zw, .inl (G.2 0, nn, .inl (kI w1))), (qz, .inl (G.2 4, nn, .inr (.inr (.inr (.inr (kRn nn rz))))))] ++ va_pl L2 F2) H → va_D A ([(zs, .inr (5, [.int (nI mi), .ref za, .ref zw, .ref zq, .ref zp])), (za, .inl (G.2 0, nn, .inl (kI ar))), (zq, .inl (G.2 4, nn, .inr (.inr (.inr (.inr (kRn nn ro)))))), (zp, .inl (G.2 3, np, .inr (.inr (.inr (.inr (kRn np rp)))))), (zw, .inl (G.2 0, nn, .inl (kI w1))), (qz, .inl (G.2 4, nn, .inr (.inr (.inr (.inr (kRn nn rz))))))] ++ va_pl L2 F2) → va_S A s.heap H locs → ∀ (ls : Array Slot), lv_has ls 12 [(4, .int (nI a)), (3, .ref qz), (0, .ref zs), (1, .int (nI many)), (2, .int (nI nn))] → W p l e (headSpec wsX5_goZ ({ frames := 2, cells := 113, slots := 1288, locals := 45 })).room s m [.ref zs].toArray below meth c H locs (15 + 7 * a) (210 + 154 * a) (MQ below (va_Qi (fun (r : Int32) (u : Nat × (Nat → Nat) × (Nat → Nat → Nat) × List Nat × (Nat → va_E)) => r = nI (vMin ar fs sn ln op nn np mi (SS, ww, 0)).2.2 ∧ (∀ y, y ∈ L → y ∈ u.2.2.2.1 ∧ ((∀ i, i < nn → y ≠ ro i) → u.2.2.2.2 y = f y)) ∧ (∀ i, i < nn → u.2.1 i ∈ u.2.2.2.1 ∧ u.2.2.2.2 (u.2.1 i) = .inl (G.2 3, nn, .inr (.inr (.inr (.inr (kRn nn (u.2.2.1 i))))))) ∧ (∀ i j, i < nn → j < nn → zRow G u.2.2.2.1 u.2.2.2.2 (u.2.2.1 i j) (mi + 1) ((vMin ar fs sn ln op nn np mi (SS, ww, 0)).1 (i * 10 + j))) ∧ (∀ i j, i < nn → j < nn → u.2.1 i = u.2.1 j → i = j) ∧ (∀ i, i < nn → u.2.1 i ∉ L) ∧ ∀ i j, i < nn → j < nn → u.2.2.1 i j ∉ L) (fun (u : Nat × (Nat → Nat) × (Nat → Nat → Nat) × List Nat × (Nat → va_E)) t => kA G A ([(zs, .inr (5, [.int (nI (mi + 1)), .ref za, .ref zw, .ref u.1, .ref zp])), (za, .inl (G.2 0, nn, .inl (kI ar))), (u.1, .inl (G.2 4, nn, .inr (.inr (.inr (.inr (kRn nn u.2.1)))))), (zp, .inl (G.2 3, np, .inr (.inr (.inr (.inr (kRn np rp)))))), (zw, .inl (G.2 0, nn, .inl (kI (vMin ar fs sn ln op nn np mi (SS, ww, 0)).2.1)))] ++ va_pl u.2.2.2.1 u.2.2.2.2) t) A) [.ref zs].toArray s 113 1288 A) (F0 m 144 ls []) := by
      intro n
      induction n with
      | zero =>
        intro a L2 F2 ct hmz; exact absurd hmz (Nat.not_lt_zero _)
      | succ n ih144 =>
        intro a L2 F2 ct hmz ha hJ H locs hP hD hS ls hl
        refine lv_iload hx hb dX5_go_144 (lv_at hl 0 rfl) ?_
        refine lv_iload_n hx hb dX5_go_146 rfl (lv_at hl 4 rfl) ?_
        refine kb_ge (tgt := 383) hx hb dX5_go_147 (by decide) (by omega) (by omega) (fun c_8 => ?_) (fun c_8 => ?_)
        · refine W.widen (k := 64) (n := 1288) (by omega) (by omega) ?_
          exact hc_383 L2 F2 ct (by have e := hJ; rw [show a = nn by omega] at e; exact e) _ _ hP hD hS _ (lv_sub hl [1, 2, 3, 4] rfl)
        · refine lv_iconst (v := (nI 0)) hx hb dX5_go_150 (by decide) ?_
          refine lv_istore (lv' := [(5, .int (nI 0)), (4, .int (nI a)), (3, .ref qz), (0, .ref zs), (1, .int (nI many)), (2, .int (nI nn))]) hx hb dX5_go_151 hl (by decide) rfl (fun ls hl => ?_)
          have hc_153 : ∀ (n : Nat) (k : Nat) (L2 : List Nat) (F2 : Nat → va_E) (ct : Nat → Nat → Nat), nn - k < n → k ≤ nn → zI2 G nn mi L1 F1 rz (fun i j => vB ar fs sn op S1 i j np) a k L2 F2 ct → ∀ (H : Heap) (locs : List Loc), va_P G.1 vwCl ([(zs, .inr (5, [.int (nI mi), .ref za, .ref zw, .ref zq, .ref zp])), (za, .inl (G.2 0, nn, .inl (kI ar))), (zq, .inl (G.2 4, nn, .inr (.inr (.inr (.inr (kRn nn ro)))))), (zp, .inl (G.2 3, np, .inr (.inr (.inr (.inr (kRn np rp)))))), (zw, .inl (G.2 0, nn, .inl (kI w1))), (qz, .inl (G.2 4, nn, .inr (.inr (.inr (.inr (kRn nn rz))))))] ++ va_pl L2 F2) H → va_D A ([(zs, .inr (5, [.int (nI mi), .ref za, .ref zw, .ref zq, .ref zp])), (za, .inl (G.2 0, nn, .inl (kI ar))), (zq, .inl (G.2 4, nn, .inr (.inr (.inr (.inr (kRn nn ro)))))), (zp, .inl (G.2 3, np, .inr (.inr (.inr (.inr (kRn np rp)))))), (zw, .inl (G.2 0, nn, .inl (kI w1))), (qz, .inl (G.2 4, nn, .inr (.inr (.inr (.inr (kRn nn rz))))))] ++ va_pl L2 F2) → va_S A s.heap H locs → ∀ (ls : Array Slot), lv_has ls 12 [(5, .int (nI k)), (4, .int (nI a)), (3, .ref qz), (0, .ref zs), (1, .int (nI many)), (2, .int (nI nn))] → W p l e (headSpec wsX5_goZ ({ frames := 2, cells := 113, slots := 1288, locals := 45 })).room s m [.ref zs].toArray below meth c H locs (15 + 7 * a + k) (210 + 154 * a + 22 * k) (MQ below (va_Qi (fun (r : Int32) (u : Nat × (Nat → Nat) × (Nat → Nat → Nat) × List Nat × (Nat → va_E)) => r = nI (vMin ar fs sn ln op nn np mi (SS, ww, 0)).2.2 ∧ (∀ y, y ∈ L → y ∈ u.2.2.2.1 ∧ ((∀ i, i < nn → y ≠ ro i) → u.2.2.2.2 y = f y)) ∧ (∀ i, i < nn → u.2.1 i ∈ u.2.2.2.1 ∧ u.2.2.2.2 (u.2.1 i) = .inl (G.2 3, nn, .inr (.inr (.inr (.inr (kRn nn (u.2.2.1 i))))))) ∧ (∀ i j, i < nn → j < nn → zRow G u.2.2.2.1 u.2.2.2.2 (u.2.2.1 i j) (mi + 1) ((vMin ar fs sn ln op nn np mi (SS, ww, 0)).1 (i * 10 + j))) ∧ (∀ i j, i < nn → j < nn → u.2.1 i = u.2.1 j → i = j) ∧ (∀ i, i < nn → u.2.1 i ∉ L) ∧ ∀ i j, i < nn → j < nn → u.2.2.1 i j ∉ L) (fun (u : Nat × (Nat → Nat) × (Nat → Nat → Nat) × List Nat × (Nat → va_E)) t => kA G A ([(zs, .inr (5, [.int (nI (mi + 1)), .ref za, .ref zw, .ref u.1, .ref zp])), (za, .inl (G.2 0, nn, .inl (kI ar))), (u.1, .inl (G.2 4, nn, .inr (.inr (.inr (.inr (kRn nn u.2.1)))))), (zp, .inl (G.2 3, np, .inr (.inr (.inr (.inr (kRn np rp)))))), (zw, .inl (G.2 0, nn, .inl (kI (vMin ar fs sn ln op nn np mi (SS, ww, 0)).2.1)))] ++ va_pl u.2.2.2.1 u.2.2.2.2) t) A) [.ref zs].toArray s 113 1288 A) (F0 m 153 ls []) := by
            intro n
            induction n with
            | zero =>
              intro k L2 F2 ct hmz; exact absurd hmz (Nat.not_lt_zero _)
            | succ n ih153 =>
              intro k L2 F2 ct hmz hk hJ H locs hP hD hS ls hl
              obtain ⟨hx1, hx2, hx3, hx4⟩ := id hJ
              have hrw : ∀ i, i < nn → ro i ∈ L2 ∧ F2 (ro i) = .inl (G.2 3, nn, .inr (.inr (.inr (.inr (kRn nn (rr1 i)))))) := fun i hi => ⟨(hx1 _ (hrw i hi).1).1, (hx1 _ (hrw i hi).1).2.trans (hrw i hi).2⟩
              have hrr : ∀ i j, i < nn → j < nn → zRow G L2 F2 (rr1 i j) mi (S1 (i * 10 + j)) := fun i j hi hj => (hrr i j hi hj).ext hx1
              have hrp : ∀ i, i < np → rp i ∈ L2 ∧ F2 (rp i) = .inl (G.2 0, 4, .inl (kI (zP fs sn ln op i))) := fun i hi => ⟨(hx1 _ (hrp i hi).1).1, (hx1 _ (hrp i hi).1).2.trans (hrp i hi).2⟩
              refine lv_iload hx hb dX5_go_153 (lv_at hl 0 rfl) ?_
              refine lv_iload_n hx hb dX5_go_155 rfl (lv_at hl 5 rfl) ?_
              refine kb_ge (tgt := 377) hx hb dX5_go_156 (by decide) (by omega) (by omega) (fun c_9 => ?_) (fun c_9 => ?_)
              · refine lv_iinc (k := 1) (v := (nI (a + 1))) (lv' := [(4, .int (nI (a + 1))), (5, .int (nI k)), (3, .ref qz), (0, .ref zs), (1, .int (nI many)), (2, .int (nI nn))]) hx hb dX5_go_377 hl rfl (kn_inc a) (by decide) rfl (fun ls hl => ?_)
                refine lv_goto (tgt := 144) hx hb dX5_go_380 (by decide) ?_
                refine W.widen (k := 15 + 7 * (a + 1)) (n := 210 + 154 * (a + 1)) (by omega) (by omega) ?_
                exact ih144 (a + 1) L2 F2 ct (by omega) (by omega) (by have e := hJ; rw [show k = nn by omega] at e; exact zI2_n e) _ _ hP hD hS _ (lv_sub hl [0, 2, 3, 4, 5] rfl)
              · refine lv_aload_n hx hb dX5_go_159 rfl (lv_at hl 3 rfl) ?_
                refine va_get (D := G.1) (ci := 5) (v := .ref zq) (C := RX5) (T := TX5) (N := 5) hx hb hts kX5_go_2 hown hK hP 0 rfl rfl 3 (by decide) (hts _ kX5_go_1) (fun _ h9 => h9) rfl dX5_go_160 ?_
                refine lv_iload hx hb dX5_go_163 (lv_at hl 1 rfl) ?_
                refine kr_aldA (k := a) (v := .ref (ro a)) hx hb hK hP 2 4 rfl rfl (by omega) (by omega) (kRn_at (by omega)) dX5_go_165 ?_
                refine lv_iload hx hb dX5_go_166 (lv_at hl 0 rfl) ?_
                refine kp_aldA (k := k) (v := .ref (rr1 a k)) hx hb hK hP 3 (hrw a (by omega)).1 (hrw a (by omega)).2 rfl (by omega) (by omega) (kRn_at (by omega)) dX5_go_168 ?_
                obtain ⟨hmz_10, lnz_10, gzz_10, hfz_10, hvz_10⟩ := hrr a k (by omega) (by omega)
                have hnz_10 := zVal_len hvz_10
                refine lv_astore (lv' := [(6, .ref (rr1 a k)), (5, .int (nI k)), (4, .int (nI a)), (3, .ref qz), (0, .ref zs), (1, .int (nI many)), (2, .int (nI nn))]) hx hb dX5_go_169 hl (by decide) rfl (fun ls hl => ?_)
                refine lv_aload_n hx hb dX5_go_171 rfl (lv_at hl 4 rfl) ?_
                refine va_get (D := G.1) (ci := 5) (v := .ref zp) (C := RX5) (T := TX5) (N := 5) hx hb hts kX5_go_2 hown hK hP 0 rfl rfl 4 (by decide) (hts _ kX5_go_5) (fun _ h9 => h9) rfl dX5_go_172 ?_
                refine lv_astore (lv' := [(7, .ref zp), (6, .ref (rr1 a k)), (5, .int (nI k)), (4, .int (nI a)), (3, .ref qz), (0, .ref zs), (1, .int (nI many)), (2, .int (nI nn))]) hx hb dX5_go_175 hl (by decide) rfl (fun ls hl => ?_)
                refine lv_aload hx hb dX5_go_177 (lv_at hl 0 rfl) ?_
                refine va_alen (v := nI np) hx hb hK hP 3 3 rfl rfl rfl dX5_go_179 ?_
                refine lv_istore (lv' := [(8, .int (nI np)), (7, .ref zp), (6, .ref (rr1 a k)), (5, .int (nI k)), (4, .int (nI a)), (3, .ref qz), (0, .ref zs), (1, .int (nI many)), (2, .int (nI nn))]) hx hb dX5_go_180 hl (by decide) rfl (fun ls hl => ?_)
                refine lv_iconst (v := (nI 0)) hx hb dX5_go_182 (by decide) ?_
                refine lv_istore (lv' := [(9, .int (nI 0)), (8, .int (nI np)), (7, .ref zp), (6, .ref (rr1 a k)), (5, .int (nI k)), (4, .int (nI a)), (3, .ref qz), (0, .ref zs), (1, .int (nI many)), (2, .int (nI nn))]) hx hb dX5_go_183 hl (by decide) rfl (fun ls hl => ?_)
                have hc_185 : ∀ (n : Nat) (i b9 : Nat), np - i < n → i ≤ np → zRow G L2 F2 b9 mi (vB ar fs sn op S1 a k i) → ∀ (H : Heap) (locs : List Loc), va_P G.1 vwCl ([(zs, .inr (5, [.int (nI mi), .ref za, .ref zw, .ref zq, .ref zp])), (za, .inl (G.2 0, nn, .inl (kI ar))), (zq, .inl (G.2 4, nn, .inr (.inr (.inr (.inr (kRn nn ro)))))), (zp, .inl (G.2 3, np, .inr (.inr (.inr (.inr (kRn np rp)))))), (zw, .inl (G.2 0, nn, .inl (kI w1))), (qz, .inl (G.2 4, nn, .inr (.inr (.inr (.inr (kRn nn rz))))))] ++ va_pl L2 F2) H → va_D A ([(zs, .inr (5, [.int (nI mi), .ref za, .ref zw, .ref zq, .ref zp])), (za, .inl (G.2 0, nn, .inl (kI ar))), (zq, .inl (G.2 4, nn, .inr (.inr (.inr (.inr (kRn nn ro)))))), (zp, .inl (G.2 3, np, .inr (.inr (.inr (.inr (kRn np rp)))))), (zw, .inl (G.2 0, nn, .inl (kI w1))), (qz, .inl (G.2 4, nn, .inr (.inr (.inr (.inr (kRn nn rz))))))] ++ va_pl L2 F2) → va_S A s.heap H locs → ∀ (ls : Array Slot), lv_has ls 12 [(9, .int (nI i)), (8, .int (nI np)), (7, .ref zp), (6, .ref b9), (5, .int (nI k)), (4, .int (nI a)), (3, .ref qz), (0, .ref zs), (1, .int (nI many)), (2, .int (nI nn))] → W p l e (headSpec wsX5_goZ ({ frames := 2, cells := 113, slots := 1288, locals := 45 })).room s m [.ref zs].toArray below meth c H locs (15 + 7 * a + k) (210 + 154 * a + 22 * k) (MQ below (va_Qi (fun (r : Int32) (u : Nat × (Nat → Nat) × (Nat → Nat → Nat) × List Nat × (Nat → va_E)) => r = nI (vMin ar fs sn ln op nn np mi (SS, ww, 0)).2.2 ∧ (∀ y, y ∈ L → y ∈ u.2.2.2.1 ∧ ((∀ i, i < nn → y ≠ ro i) → u.2.2.2.2 y = f y)) ∧ (∀ i, i < nn → u.2.1 i ∈ u.2.2.2.1 ∧ u.2.2.2.2 (u.2.1 i) = .inl (G.2 3, nn, .inr (.inr (.inr (.inr (kRn nn (u.2.2.1 i))))))) ∧ (∀ i j, i < nn → j < nn → zRow G u.2.2.2.1 u.2.2.2.2 (u.2.2.1 i j) (mi + 1) ((vMin ar fs sn ln op nn np mi (SS, ww, 0)).1 (i * 10 + j))) ∧ (∀ i j, i < nn → j < nn → u.2.1 i = u.2.1 j → i = j) ∧ (∀ i, i < nn → u.2.1 i ∉ L) ∧ ∀ i j, i < nn → j < nn → u.2.2.1 i j ∉ L) (fun (u : Nat × (Nat → Nat) × (Nat → Nat → Nat) × List Nat × (Nat → va_E)) t => kA G A ([(zs, .inr (5, [.int (nI (mi + 1)), .ref za, .ref zw, .ref u.1, .ref zp])), (za, .inl (G.2 0, nn, .inl (kI ar))), (u.1, .inl (G.2 4, nn, .inr (.inr (.inr (.inr (kRn nn u.2.1)))))), (zp, .inl (G.2 3, np, .inr (.inr (.inr (.inr (kRn np rp)))))), (zw, .inl (G.2 0, nn, .inl (kI (vMin ar fs sn ln op nn np mi (SS, ww, 0)).2.1)))] ++ va_pl u.2.2.2.1 u.2.2.2.2) t) A) [.ref zs].toArray s 113 1288 A) (F0 m 185 ls []) := by
                  intro n
                  induction n with
                  | zero =>
                    intro i b9 hmz; exact absurd hmz (Nat.not_lt_zero _)
                  | succ n ih185 =>
                    intro i b9 hmz hi hb9 H locs hP hD hS ls hl
                    refine lv_iload hx hb dX5_go_185 (lv_at hl 0 rfl) ?_
                    refine lv_iload hx hb dX5_go_187 (lv_at hl 1 rfl) ?_
                    refine kb_ge (tgt := 356) hx hb dX5_go_189 (by decide) (by omega) (by omega) (fun c_11 => ?_) (fun c_11 => ?_)
                    · have hb8 : zRow G L2 F2 b9 mi (vB ar fs sn op S1 a k np) := by rw [show i = np by omega] at hb9; exact hb9
                      obtain ⟨hmb, lb, gb, hfb, hvb⟩ := id hb8
                      have hnb := zVal_len hvb
                      refine lv_aload_n hx hb dX5_go_356 rfl (lv_at hl 6 rfl) ?_
                      refine lv_iload hx hb dX5_go_357 (lv_at hl 5 rfl) ?_
                      refine kr_aldA (k := a) (v := .ref (rz a)) hx hb hK hP 5 4 rfl rfl (by omega) (by omega) (kRn_at (by omega)) dX5_go_359 ?_
                      refine lv_iload hx hb dX5_go_360 (lv_at hl 4 rfl) ?_
                      refine lv_aload hx hb dX5_go_362 (lv_at hl 3 rfl) ?_
                      refine kp_clone hx hb (by rw [hml]; exact hl.1.symm) hown (hts _ kX5_go_6) (hts _ kX5_go_7) (hts _ kX5_go_8) (hts _ kX5_go_9) (hts _ kX5_go_10) hZ.2.2.2.2.2.2.1 hK hP hD hS hA hmb hfb (Nat.le_of_ble_eq_true rfl) (Nat.le_of_ble_eq_true rfl) (show 15 + 7 * a + k + 1 ≤ 113 from by omega) (show 210 + 154 * a + 22 * k + lb ≤ 1288 from by omega) dX5_go_364 (fun q_12 H hP hD hS => ?_)
                      have hP := va_P.swap hP
                      have hD := va_D.swap hD
                      have hP : va_P G.1 vwCl ([(zs, .inr (5, [.int (nI mi), .ref za, .ref zw, .ref zq, .ref zp])), (za, .inl (G.2 0, nn, .inl (kI ar))), (zq, .inl (G.2 4, nn, .inr (.inr (.inr (.inr (kRn nn ro)))))), (zp, .inl (G.2 3, np, .inr (.inr (.inr (.inr (kRn np rp)))))), (zw, .inl (G.2 0, nn, .inl (kI w1))), (qz, .inl (G.2 4, nn, .inr (.inr (.inr (.inr (kRn nn rz)))))), (q_12, .inl (G.2 0, lb, .inl (kI gb)))] ++ va_pl L2 F2) H := hP
                      have hD : va_D A ([(zs, .inr (5, [.int (nI mi), .ref za, .ref zw, .ref zq, .ref zp])), (za, .inl (G.2 0, nn, .inl (kI ar))), (zq, .inl (G.2 4, nn, .inr (.inr (.inr (.inr (kRn nn ro)))))), (zp, .inl (G.2 3, np, .inr (.inr (.inr (.inr (kRn np rp)))))), (zw, .inl (G.2 0, nn, .inl (kI w1))), (qz, .inl (G.2 4, nn, .inr (.inr (.inr (.inr (kRn nn rz)))))), (q_12, .inl (G.2 0, lb, .inl (kI gb)))] ++ va_pl L2 F2) := hD
                      refine W.widen (k := 15 + 7 * a + (k + 1)) (n := 210 + 154 * a + 22 * (k + 1)) (by omega) (by omega) ?_
                      refine kp_castI hx hb hown (hts _ kX5_go_11) hK hP 6 rfl dX5_go_367 ?_
                      have hP : va_P G.1 vwCl (([(zs, .inr (5, [.int (nI mi), .ref za, .ref zw, .ref zq, .ref zp])), (za, .inl (G.2 0, nn, .inl (kI ar))), (zq, .inl (G.2 4, nn, .inr (.inr (.inr (.inr (kRn nn ro)))))), (zp, .inl (G.2 3, np, .inr (.inr (.inr (.inr (kRn np rp)))))), (zw, .inl (G.2 0, nn, .inl (kI w1))), (qz, .inl (G.2 4, nn, .inr (.inr (.inr (.inr (kRn nn rz))))))] ++ [(q_12, .inl (G.2 0, lb, .inl (kI gb)))]) ++ va_pl L2 F2) _ := hP.part (cx := [(zs, .inr (5, [.int (nI mi), .ref za, .ref zw, .ref zq, .ref zp])), (za, .inl (G.2 0, nn, .inl (kI ar))), (zq, .inl (G.2 4, nn, .inr (.inr (.inr (.inr (kRn nn ro)))))), (zp, .inl (G.2 3, np, .inr (.inr (.inr (.inr (kRn np rp)))))), (zw, .inl (G.2 0, nn, .inl (kI w1))), (qz, .inl (G.2 4, nn, .inr (.inr (.inr (.inr (kRn nn rz)))))), (q_12, .inl (G.2 0, lb, .inl (kI gb)))]) [0, 1, 2, 3, 4, 5, 6] rfl
                      have hD : va_D A (([(zs, .inr (5, [.int (nI mi), .ref za, .ref zw, .ref zq, .ref zp])), (za, .inl (G.2 0, nn, .inl (kI ar))), (zq, .inl (G.2 4, nn, .inr (.inr (.inr (.inr (kRn nn ro)))))), (zp, .inl (G.2 3, np, .inr (.inr (.inr (.inr (kRn np rp)))))), (zw, .inl (G.2 0, nn, .inl (kI w1))), (qz, .inl (G.2 4, nn, .inr (.inr (.inr (.inr (kRn nn rz))))))] ++ [(q_12, .inl (G.2 0, lb, .inl (kI gb)))]) ++ va_pl L2 F2) := hD.part (cx := [(zs, .inr (5, [.int (nI mi), .ref za, .ref zw, .ref zq, .ref zp])), (za, .inl (G.2 0, nn, .inl (kI ar))), (zq, .inl (G.2 4, nn, .inr (.inr (.inr (.inr (kRn nn ro)))))), (zp, .inl (G.2 3, np, .inr (.inr (.inr (.inr (kRn np rp)))))), (zw, .inl (G.2 0, nn, .inl (kI w1))), (qz, .inl (G.2 4, nn, .inr (.inr (.inr (.inr (kRn nn rz)))))), (q_12, .inl (G.2 0, lb, .inl (kI gb)))]) [0, 1, 2, 3, 4, 5, 6] (by decide) rfl
                      obtain ⟨hP, hD, hnyq_12⟩ := kp_push1 hP hD
                      have hP : va_P G.1 vwCl ([(zs, .inr (5, [.int (nI mi), .ref za, .ref zw, .ref zq, .ref zp])), (za, .inl (G.2 0, nn, .inl (kI ar))), (zq, .inl (G.2 4, nn, .inr (.inr (.inr (.inr (kRn nn ro)))))), (zp, .inl (G.2 3, np, .inr (.inr (.inr (.inr (kRn np rp)))))), (zw, .inl (G.2 0, nn, .inl (kI w1))), (qz, .inl (G.2 4, nn, .inr (.inr (.inr (.inr (kRn nn rz))))))] ++ va_pl (L2 ++ [q_12]) (va_up F2 q_12 (.inl (G.2 0, lb, .inl (kI gb))))) H := hP
                      have hD : va_D A ([(zs, .inr (5, [.int (nI mi), .ref za, .ref zw, .ref zq, .ref zp])), (za, .inl (G.2 0, nn, .inl (kI ar))), (zq, .inl (G.2 4, nn, .inr (.inr (.inr (.inr (kRn nn ro)))))), (zp, .inl (G.2 3, np, .inr (.inr (.inr (.inr (kRn np rp)))))), (zw, .inl (G.2 0, nn, .inl (kI w1))), (qz, .inl (G.2 4, nn, .inr (.inr (.inr (.inr (kRn nn rz))))))] ++ va_pl (L2 ++ [q_12]) (va_up F2 q_12 (.inl (G.2 0, lb, .inl (kI gb))))) := hD
                      have mpf_13 : (ro a) ∈ (L2 ++ [q_12]) := List.mem_append_left _ (hrw a (by omega)).1
                      have epf_13 : (va_up F2 q_12 (.inl (G.2 0, lb, .inl (kI gb)))) (ro a) = (.inl (G.2 3, nn, .inr (.inr (.inr (.inr (kRn nn (rr1 a))))))) := by rw [va_up_ne _ _ (show (ro a) ≠ q_12 from fun z => hnyq_12 (z ▸ (hrw a (by omega)).1))]; exact (hrw a (by omega)).2
                      have mpf_14 : (rr1 a k) ∈ (L2 ++ [q_12]) := List.mem_append_left _ hmz_10
                      have epf_14 : (va_up F2 q_12 (.inl (G.2 0, lb, .inl (kI gb)))) (rr1 a k) = (.inl (G.2 0, lnz_10, .inl (kI gzz_10))) := by rw [va_up_ne _ _ (show (rr1 a k) ≠ q_12 from fun z => hnyq_12 (z ▸ hmz_10))]; exact hfz_10
                      have mpf_15 : b9 ∈ (L2 ++ [q_12]) := List.mem_append_left _ hmb
                      have epf_15 : (va_up F2 q_12 (.inl (G.2 0, lb, .inl (kI gb)))) b9 = (.inl (G.2 0, lb, .inl (kI gb))) := by rw [va_up_ne _ _ (show b9 ≠ q_12 from fun z => hnyq_12 (z ▸ hmb))]; exact hfb
                      have mpf_16 : (rz a) ∈ (L2 ++ [q_12]) := List.mem_append_left _ (hx2 a (by omega)).1
                      have epf_16 : (va_up F2 q_12 (.inl (G.2 0, lb, .inl (kI gb)))) (rz a) = (.inl (G.2 3, nn, .inr (.inr (.inr (.inr (zPart ct nn a k a)))))) := by rw [va_up_ne _ _ (show (rz a) ≠ q_12 from fun z => hnyq_12 (z ▸ (hx2 a (by omega)).1))]; exact (hx2 a (by omega)).2
                      refine kp_astR (k := k) (g' := (zPart (va_up ct a (va_up (ct a) k q_12)) nn a (k + 1) a)) hx hb hK hZ.2.2.2.2.1 hP hD hS mpf_16 epf_16 (List.mem_append_right _ List.mem_cons_self) (va_up_self _ _ _) (by omega) (by omega) (zPart_s (by omega)) dX5_go_370 (fun H locs hP hD hS => ?_)
                      have hP : va_P G.1 vwCl ([(zs, .inr (5, [.int (nI mi), .ref za, .ref zw, .ref zq, .ref zp])), (za, .inl (G.2 0, nn, .inl (kI ar))), (zq, .inl (G.2 4, nn, .inr (.inr (.inr (.inr (kRn nn ro)))))), (zp, .inl (G.2 3, np, .inr (.inr (.inr (.inr (kRn np rp)))))), (zw, .inl (G.2 0, nn, .inl (kI w1))), (qz, .inl (G.2 4, nn, .inr (.inr (.inr (.inr (kRn nn rz))))))] ++ va_pl (L2 ++ [q_12]) (va_up (va_up F2 q_12 (.inl (G.2 0, lb, .inl (kI gb)))) (rz a) (.inl (G.2 3, nn, .inr (.inr (.inr (.inr (zPart (va_up ct a (va_up (ct a) k q_12)) nn a (k + 1) a)))))))) H := hP
                      have hD : va_D A ([(zs, .inr (5, [.int (nI mi), .ref za, .ref zw, .ref zq, .ref zp])), (za, .inl (G.2 0, nn, .inl (kI ar))), (zq, .inl (G.2 4, nn, .inr (.inr (.inr (.inr (kRn nn ro)))))), (zp, .inl (G.2 3, np, .inr (.inr (.inr (.inr (kRn np rp)))))), (zw, .inl (G.2 0, nn, .inl (kI w1))), (qz, .inl (G.2 4, nn, .inr (.inr (.inr (.inr (kRn nn rz))))))] ++ va_pl (L2 ++ [q_12]) (va_up (va_up F2 q_12 (.inl (G.2 0, lb, .inl (kI gb)))) (rz a) (.inl (G.2 3, nn, .inr (.inr (.inr (.inr (zPart (va_up ct a (va_up (ct a) k q_12)) nn a (k + 1) a)))))))) := hD
                      refine lv_iinc (k := 4) (v := (nI (k + 1))) (lv' := [(5, .int (nI (k + 1))), (9, .int (nI i)), (8, .int (nI np)), (7, .ref zp), (6, .ref b9), (4, .int (nI a)), (3, .ref qz), (0, .ref zs), (1, .int (nI many)), (2, .int (nI nn))]) hx hb dX5_go_371 hl rfl (kn_inc k) (by decide) rfl (fun ls hl => ?_)
                      refine lv_goto (tgt := 153) hx hb dX5_go_374 (by decide) ?_
                      exact ih153 (k + 1) (L2 ++ [q_12]) (va_up (va_up F2 q_12 (.inl (G.2 0, lb, .inl (kI gb)))) (rz a) (.inl (G.2 3, nn, .inr (.inr (.inr (.inr (zPart (va_up ct a (va_up (ct a) k q_12)) nn a (k + 1) a))))))) (va_up ct a (va_up (ct a) k q_12)) (by omega) (by omega) (by exact zI2_step hJ (by omega) (by omega) hm1 hm2 hnyq_12 hvb) _ _ hP hD hS _ (lv_sub hl [0, 5, 6, 7, 8, 9] rfl)
                    · refine lv_aload hx hb dX5_go_192 (lv_at hl 2 rfl) ?_
                      refine lv_iload hx hb dX5_go_194 (lv_at hl 0 rfl) ?_
                      refine kr_aldA (k := i) (v := .ref (rp i)) hx hb hK hP 3 3 rfl rfl (by omega) (by omega) (kRn_at (by omega)) dX5_go_196 ?_
                      refine lv_astore (lv' := [(10, .ref (rp i)), (9, .int (nI i)), (8, .int (nI np)), (7, .ref zp), (6, .ref b9), (5, .int (nI k)), (4, .int (nI a)), (3, .ref qz), (0, .ref zs), (1, .int (nI many)), (2, .int (nI nn))]) hx hb dX5_go_197 hl (by decide) rfl (fun ls hl => ?_)
                      have hc_301 : ∀ (yo : Nat), op i = true → fs i = a ∨ sn i = a → k ≠ a → mTakes ar a k = true → zRow G L2 F2 yo mi (S1 ((if fs i = a then sn i else fs i) * 10 + k)) → ∀ (H : Heap) (locs : List Loc), va_P G.1 vwCl ([(zs, .inr (5, [.int (nI mi), .ref za, .ref zw, .ref zq, .ref zp])), (za, .inl (G.2 0, nn, .inl (kI ar))), (zq, .inl (G.2 4, nn, .inr (.inr (.inr (.inr (kRn nn ro)))))), (zp, .inl (G.2 3, np, .inr (.inr (.inr (.inr (kRn np rp)))))), (zw, .inl (G.2 0, nn, .inl (kI w1))), (qz, .inl (G.2 4, nn, .inr (.inr (.inr (.inr (kRn nn rz))))))] ++ va_pl L2 F2) H → va_D A ([(zs, .inr (5, [.int (nI mi), .ref za, .ref zw, .ref zq, .ref zp])), (za, .inl (G.2 0, nn, .inl (kI ar))), (zq, .inl (G.2 4, nn, .inr (.inr (.inr (.inr (kRn nn ro)))))), (zp, .inl (G.2 3, np, .inr (.inr (.inr (.inr (kRn np rp)))))), (zw, .inl (G.2 0, nn, .inl (kI w1))), (qz, .inl (G.2 4, nn, .inr (.inr (.inr (.inr (kRn nn rz))))))] ++ va_pl L2 F2) → va_S A s.heap H locs → ∀ (ls : Array Slot), lv_has ls 12 [(10, .ref (rp i)), (9, .int (nI i)), (8, .int (nI np)), (7, .ref zp), (6, .ref b9), (5, .int (nI k)), (4, .int (nI a)), (3, .ref qz), (0, .ref zs), (1, .int (nI many)), (2, .int (nI nn)), (11, .ref yo)] → W p l e (headSpec wsX5_goZ ({ frames := 2, cells := 113, slots := 1288, locals := 45 })).room s m [.ref zs].toArray below meth c H locs (15 + 7 * a + k) (210 + 154 * a + 22 * k) (MQ below (va_Qi (fun (r : Int32) (u : Nat × (Nat → Nat) × (Nat → Nat → Nat) × List Nat × (Nat → va_E)) => r = nI (vMin ar fs sn ln op nn np mi (SS, ww, 0)).2.2 ∧ (∀ y, y ∈ L → y ∈ u.2.2.2.1 ∧ ((∀ i, i < nn → y ≠ ro i) → u.2.2.2.2 y = f y)) ∧ (∀ i, i < nn → u.2.1 i ∈ u.2.2.2.1 ∧ u.2.2.2.2 (u.2.1 i) = .inl (G.2 3, nn, .inr (.inr (.inr (.inr (kRn nn (u.2.2.1 i))))))) ∧ (∀ i j, i < nn → j < nn → zRow G u.2.2.2.1 u.2.2.2.2 (u.2.2.1 i j) (mi + 1) ((vMin ar fs sn ln op nn np mi (SS, ww, 0)).1 (i * 10 + j))) ∧ (∀ i j, i < nn → j < nn → u.2.1 i = u.2.1 j → i = j) ∧ (∀ i, i < nn → u.2.1 i ∉ L) ∧ ∀ i j, i < nn → j < nn → u.2.2.1 i j ∉ L) (fun (u : Nat × (Nat → Nat) × (Nat → Nat → Nat) × List Nat × (Nat → va_E)) t => kA G A ([(zs, .inr (5, [.int (nI (mi + 1)), .ref za, .ref zw, .ref u.1, .ref zp])), (za, .inl (G.2 0, nn, .inl (kI ar))), (u.1, .inl (G.2 4, nn, .inr (.inr (.inr (.inr (kRn nn u.2.1)))))), (zp, .inl (G.2 3, np, .inr (.inr (.inr (.inr (kRn np rp)))))), (zw, .inl (G.2 0, nn, .inl (kI (vMin ar fs sn ln op nn np mi (SS, ww, 0)).2.1)))] ++ va_pl u.2.2.2.1 u.2.2.2.2) t) A) [.ref zs].toArray s 113 1288 A) (F0 m 301 ls []) := by
                        intro yo hop hend hka htk hyo H locs hP hD hS ls hl
                        obtain ⟨hmo, lo, go, hfo, hvo⟩ := id hyo
                        obtain ⟨hmb, lb, gb, hfb, hvb⟩ := id hb9
                        have hno := zVal_len hvo
                        have hnb := zVal_len hvb
                        refine lv_aload hx hb dX5_go_301 (lv_at hl 11 rfl) ?_
                        refine kp_alenf hx hb hK hP hmo hfo dX5_go_303 ?_
                        refine kb_le0 (tgt := 350) hx hb dX5_go_304 (by decide) (by omega) (fun c_17 => ?_) (fun c_17 => ?_)
                        · have hstep := vB_x4 (ar := ar) (fs := fs) (sn := sn) (op := op) (S := S1) (a := a) (k := k) (i := i) (zVal_n hvo (by omega))
                          refine lv_iinc (k := 1) (v := (nI (i + 1))) (lv' := [(9, .int (nI (i + 1))), (10, .ref (rp i)), (8, .int (nI np)), (7, .ref zp), (6, .ref b9), (5, .int (nI k)), (4, .int (nI a)), (3, .ref qz), (0, .ref zs), (1, .int (nI many)), (2, .int (nI nn)), (11, .ref yo)]) hx hb dX5_go_350 hl rfl (kn_inc i) (by decide) rfl (fun ls hl => ?_)
                          refine lv_goto (tgt := 185) hx hb dX5_go_353 (by decide) ?_
                          exact ih185 (i + 1) b9 (by omega) (by omega) (by rw [hstep]; exact hb9) _ _ hP hD hS _ (lv_sub hl [0, 2, 3, 4, 5, 6, 7, 8, 9, 10] rfl)
                        · refine lv_aload hx hb dX5_go_307 (lv_at hl 4 rfl) ?_
                          refine kp_alenf hx hb hK hP hmb hfb dX5_go_309 ?_
                          refine kb_eq0 (tgt := 346) hx hb dX5_go_310 (by decide) (by omega) (fun c_18 => ?_) (fun c_18 => ?_)
                          · obtain ⟨vo, ho1, ho2, ho3, ho4⟩ := zVal_s hvo (by omega)
                            have hnb0 := zVal_n hvb (by omega)
                            have hstep := vB_t (ar := ar) (fs := fs) (sn := sn) (op := op) (S := S1) (a := a) (k := k) (i := i) hop hend hka htk ho1 (fun z hz => by rw [hnb0] at hz; cases hz)
                            refine lv_aload hx hb dX5_go_346 (lv_at hl 11 rfl) ?_
                            refine lv_astore (lv' := [(6, .ref yo), (10, .ref (rp i)), (9, .int (nI i)), (8, .int (nI np)), (7, .ref zp), (5, .int (nI k)), (4, .int (nI a)), (3, .ref qz), (0, .ref zs), (1, .int (nI many)), (2, .int (nI nn)), (11, .ref yo)]) hx hb dX5_go_348 hl (by decide) rfl (fun ls hl => ?_)
                            refine lv_iinc (k := 2) (v := (nI (i + 1))) (lv' := [(9, .int (nI (i + 1))), (6, .ref yo), (10, .ref (rp i)), (8, .int (nI np)), (7, .ref zp), (5, .int (nI k)), (4, .int (nI a)), (3, .ref qz), (0, .ref zs), (1, .int (nI many)), (2, .int (nI nn)), (11, .ref yo)]) hx hb dX5_go_350 hl rfl (kn_inc i) (by decide) rfl (fun ls hl => ?_)
                            refine lv_goto (tgt := 185) hx hb dX5_go_353 (by decide) ?_
                            exact ih185 (i + 1) yo (by omega) (by omega) (by rw [hstep]; exact hyo) _ _ hP hD hS _ (lv_sub hl [0, 3, 4, 1, 5, 6, 7, 8, 9, 10] rfl)
                          · obtain ⟨vo, ho1, ho2, ho3, ho4⟩ := zVal_s hvo (by omega)
                            obtain ⟨vb, hb1, hb2, hb3, hb4⟩ := zVal_s hvb (by omega)
                            have ho9 := zVal_0 hmi hvo (by omega)
                            have hb8 := zVal_0 hmi hvb (by omega)
                            refine lv_aload hx hb dX5_go_313 (lv_at hl 11 rfl) ?_
                            refine lv_iconst (v := (nI 0)) hx hb dX5_go_315 (by decide) ?_
                            refine kp_ialf (k := 0) (v := (nI (go 0))) hx hb hK hP hmo hfo (by omega) (by omega) rfl dX5_go_316 ?_
                            refine lv_aload hx hb dX5_go_317 (lv_at hl 4 rfl) ?_
                            refine lv_iconst (v := (nI 0)) hx hb dX5_go_319 (by decide) ?_
                            refine kp_ialf (k := 0) (v := (nI (gb 0))) hx hb hK hP hmb hfb (by omega) (by omega) rfl dX5_go_320 ?_
                            refine kb_gt (tgt := 346) hx hb dX5_go_321 (by decide) (by omega) (by omega) (fun c_19 => ?_) (fun c_19 => ?_)
                            · have hstep := vB_t (ar := ar) (fs := fs) (sn := sn) (op := op) (S := S1) (a := a) (k := k) (i := i) hop hend hka htk ho1 (fun z hz => by rw [hb1] at hz; cases hz; omega)
                              refine lv_aload hx hb dX5_go_346 (lv_at hl 11 rfl) ?_
                              refine lv_astore (lv' := [(6, .ref yo), (10, .ref (rp i)), (9, .int (nI i)), (8, .int (nI np)), (7, .ref zp), (5, .int (nI k)), (4, .int (nI a)), (3, .ref qz), (0, .ref zs), (1, .int (nI many)), (2, .int (nI nn)), (11, .ref yo)]) hx hb dX5_go_348 hl (by decide) rfl (fun ls hl => ?_)
                              refine lv_iinc (k := 2) (v := (nI (i + 1))) (lv' := [(9, .int (nI (i + 1))), (6, .ref yo), (10, .ref (rp i)), (8, .int (nI np)), (7, .ref zp), (5, .int (nI k)), (4, .int (nI a)), (3, .ref qz), (0, .ref zs), (1, .int (nI many)), (2, .int (nI nn)), (11, .ref yo)]) hx hb dX5_go_350 hl rfl (kn_inc i) (by decide) rfl (fun ls hl => ?_)
                              refine lv_goto (tgt := 185) hx hb dX5_go_353 (by decide) ?_
                              exact ih185 (i + 1) yo (by omega) (by omega) (by rw [hstep]; exact hyo) _ _ hP hD hS _ (lv_sub hl [0, 3, 4, 1, 5, 6, 7, 8, 9, 10] rfl)
                            · refine lv_aload hx hb dX5_go_324 (lv_at hl 11 rfl) ?_
                              refine lv_iconst (v := (nI 0)) hx hb dX5_go_326 (by decide) ?_
                              refine kp_ialf (k := 0) (v := (nI (go 0))) hx hb hK hP hmo hfo (by omega) (by omega) rfl dX5_go_327 ?_
                              refine lv_aload hx hb dX5_go_328 (lv_at hl 4 rfl) ?_
                              refine lv_iconst (v := (nI 0)) hx hb dX5_go_330 (by decide) ?_
                              refine kp_ialf (k := 0) (v := (nI (gb 0))) hx hb hK hP hmb hfb (by omega) (by omega) rfl dX5_go_331 ?_
                              refine kb_ne (tgt := 350) hx hb dX5_go_332 (by decide) (by omega) (by omega) (fun c_20 => ?_) (fun c_20 => ?_)
                              · have hstep := vB_x5 (ar := ar) (fs := fs) (sn := sn) (op := op) (S := S1) (a := a) (k := k) (i := i) ho1 hb1 (by omega)
                                refine lv_iinc (k := 1) (v := (nI (i + 1))) (lv' := [(9, .int (nI (i + 1))), (10, .ref (rp i)), (8, .int (nI np)), (7, .ref zp), (6, .ref b9), (5, .int (nI k)), (4, .int (nI a)), (3, .ref qz), (0, .ref zs), (1, .int (nI many)), (2, .int (nI nn)), (11, .ref yo)]) hx hb dX5_go_350 hl rfl (kn_inc i) (by decide) rfl (fun ls hl => ?_)
                                refine lv_goto (tgt := 185) hx hb dX5_go_353 (by decide) ?_
                                exact ih185 (i + 1) b9 (by omega) (by omega) (by rw [hstep]; exact hb9) _ _ hP hD hS _ (lv_sub hl [0, 2, 3, 4, 5, 6, 7, 8, 9, 10] rfl)
                              · refine lv_aload hx hb dX5_go_335 (lv_at hl 11 rfl) ?_
                                refine lv_iconst (v := (nI 1)) hx hb dX5_go_337 (by decide) ?_
                                refine kp_ialf (k := 1) (v := (nI (go 1))) hx hb hK hP hmo hfo (by omega) (by omega) rfl dX5_go_338 ?_
                                refine lv_aload hx hb dX5_go_339 (lv_at hl 4 rfl) ?_
                                refine lv_iconst (v := (nI 1)) hx hb dX5_go_341 (by decide) ?_
                                refine kp_ialf (k := 1) (v := (nI (gb 1))) hx hb hK hP hmb hfb (by omega) (by omega) rfl dX5_go_342 ?_
                                refine kb_ge (tgt := 350) hx hb dX5_go_343 (by decide) (by omega) (by omega) (fun c_21 => ?_) (fun c_21 => ?_)
                                · have hstep := vB_x5 (ar := ar) (fs := fs) (sn := sn) (op := op) (S := S1) (a := a) (k := k) (i := i) ho1 hb1 (by omega)
                                  refine lv_iinc (k := 1) (v := (nI (i + 1))) (lv' := [(9, .int (nI (i + 1))), (10, .ref (rp i)), (8, .int (nI np)), (7, .ref zp), (6, .ref b9), (5, .int (nI k)), (4, .int (nI a)), (3, .ref qz), (0, .ref zs), (1, .int (nI many)), (2, .int (nI nn)), (11, .ref yo)]) hx hb dX5_go_350 hl rfl (kn_inc i) (by decide) rfl (fun ls hl => ?_)
                                  refine lv_goto (tgt := 185) hx hb dX5_go_353 (by decide) ?_
                                  exact ih185 (i + 1) b9 (by omega) (by omega) (by rw [hstep]; exact hb9) _ _ hP hD hS _ (lv_sub hl [0, 2, 3, 4, 5, 6, 7, 8, 9, 10] rfl)
                                · exfalso; have hs1 : S1 = (vWrite mi fs sn ln op np (SS, ww, 0) nn).1 := congrArg Prod.fst hst; rw [hs1] at ho1 hb1; have e9 := vB_same hV (by omega) (by omega) (show (if fs i = a then sn i else fs i) < 10 by have := hfs i; have := hsn i; split <;> omega) (by omega) ho1 hb1 (by omega); rw [e9] at ho4; omega
                      have hc_271 : ∀ (_ : Unit), op i = true → fs i = a ∨ sn i = a → k ≠ a → mTakes ar a k = true → ∀ (H : Heap) (locs : List Loc), va_P G.1 vwCl ([(zs, .inr (5, [.int (nI mi), .ref za, .ref zw, .ref zq, .ref zp])), (za, .inl (G.2 0, nn, .inl (kI ar))), (zq, .inl (G.2 4, nn, .inr (.inr (.inr (.inr (kRn nn ro)))))), (zp, .inl (G.2 3, np, .inr (.inr (.inr (.inr (kRn np rp)))))), (zw, .inl (G.2 0, nn, .inl (kI w1))), (qz, .inl (G.2 4, nn, .inr (.inr (.inr (.inr (kRn nn rz))))))] ++ va_pl L2 F2) H → va_D A ([(zs, .inr (5, [.int (nI mi), .ref za, .ref zw, .ref zq, .ref zp])), (za, .inl (G.2 0, nn, .inl (kI ar))), (zq, .inl (G.2 4, nn, .inr (.inr (.inr (.inr (kRn nn ro)))))), (zp, .inl (G.2 3, np, .inr (.inr (.inr (.inr (kRn np rp)))))), (zw, .inl (G.2 0, nn, .inl (kI w1))), (qz, .inl (G.2 4, nn, .inr (.inr (.inr (.inr (kRn nn rz))))))] ++ va_pl L2 F2) → va_S A s.heap H locs → ∀ (ls : Array Slot), lv_has ls 12 [(10, .ref (rp i)), (9, .int (nI i)), (8, .int (nI np)), (7, .ref zp), (6, .ref b9), (5, .int (nI k)), (4, .int (nI a)), (3, .ref qz), (0, .ref zs), (1, .int (nI many)), (2, .int (nI nn))] → W p l e (headSpec wsX5_goZ ({ frames := 2, cells := 113, slots := 1288, locals := 45 })).room s m [.ref zs].toArray below meth c H locs (15 + 7 * a + k) (210 + 154 * a + 22 * k) (MQ below (va_Qi (fun (r : Int32) (u : Nat × (Nat → Nat) × (Nat → Nat → Nat) × List Nat × (Nat → va_E)) => r = nI (vMin ar fs sn ln op nn np mi (SS, ww, 0)).2.2 ∧ (∀ y, y ∈ L → y ∈ u.2.2.2.1 ∧ ((∀ i, i < nn → y ≠ ro i) → u.2.2.2.2 y = f y)) ∧ (∀ i, i < nn → u.2.1 i ∈ u.2.2.2.1 ∧ u.2.2.2.2 (u.2.1 i) = .inl (G.2 3, nn, .inr (.inr (.inr (.inr (kRn nn (u.2.2.1 i))))))) ∧ (∀ i j, i < nn → j < nn → zRow G u.2.2.2.1 u.2.2.2.2 (u.2.2.1 i j) (mi + 1) ((vMin ar fs sn ln op nn np mi (SS, ww, 0)).1 (i * 10 + j))) ∧ (∀ i j, i < nn → j < nn → u.2.1 i = u.2.1 j → i = j) ∧ (∀ i, i < nn → u.2.1 i ∉ L) ∧ ∀ i j, i < nn → j < nn → u.2.2.1 i j ∉ L) (fun (u : Nat × (Nat → Nat) × (Nat → Nat → Nat) × List Nat × (Nat → va_E)) t => kA G A ([(zs, .inr (5, [.int (nI (mi + 1)), .ref za, .ref zw, .ref u.1, .ref zp])), (za, .inl (G.2 0, nn, .inl (kI ar))), (u.1, .inl (G.2 4, nn, .inr (.inr (.inr (.inr (kRn nn u.2.1)))))), (zp, .inl (G.2 3, np, .inr (.inr (.inr (.inr (kRn np rp)))))), (zw, .inl (G.2 0, nn, .inl (kI (vMin ar fs sn ln op nn np mi (SS, ww, 0)).2.1)))] ++ va_pl u.2.2.2.1 u.2.2.2.2) t) A) [.ref zs].toArray s 113 1288 A) (F0 m 271 ls []) := by
                        intro _ hop hend hka htk H locs hP hD hS ls hl
                        refine lv_aload_n hx hb dX5_go_271 rfl (lv_at hl 8 rfl) ?_
                        refine va_get (D := G.1) (ci := 5) (v := .ref zq) (C := RX5) (T := TX5) (N := 5) hx hb hts kX5_go_2 hown hK hP 0 rfl rfl 3 (by decide) (hts _ kX5_go_1) (fun _ h9 => h9) rfl dX5_go_272 ?_
                        refine lv_aload hx hb dX5_go_275 (lv_at hl 0 rfl) ?_
                        refine lv_iconst (v := (nI 0)) hx hb dX5_go_277 (by decide) ?_
                        refine kp_ialf (k := 0) (v := (nI (fs i))) hx hb hK hP (hrp i (by omega)).1 (hrp i (by omega)).2 (by decide) (by decide) rfl dX5_go_278 ?_
                        refine lv_iload hx hb dX5_go_279 (lv_at hl 6 rfl) ?_
                        refine kb_ne (tgt := 291) hx hb dX5_go_281 (by decide) (by have := hfs i; have := hsn i; omega) (by have := hfs i; have := hsn i; omega) (fun c_22 => ?_) (fun c_22 => ?_)
                        · have hfa : ¬ fs i = a := by omega
                          refine lv_aload hx hb dX5_go_291 (lv_at hl 0 rfl) ?_
                          refine lv_iconst (v := (nI 0)) hx hb dX5_go_293 (by decide) ?_
                          refine kp_ialf (k := 0) (v := (nI (fs i))) hx hb hK hP (hrp i (by omega)).1 (hrp i (by omega)).2 (by decide) (by decide) rfl dX5_go_294 ?_
                          refine kr_aldA (k := (fs i)) (v := .ref (ro (fs i))) hx hb hK hP 2 4 rfl rfl (by have := hen i (by omega); omega) (by omega) (kRn_at (by have := hen i (by omega); omega)) dX5_go_295 ?_
                          refine lv_iload hx hb dX5_go_296 (lv_at hl 5 rfl) ?_
                          refine kp_aldA (k := k) (v := .ref (rr1 (fs i) k)) hx hb hK hP 3 (hrw (fs i) (by have := hen i (by omega); omega)).1 (hrw (fs i) (by have := hen i (by omega); omega)).2 rfl (by omega) (by omega) (kRn_at (by omega)) dX5_go_298 ?_
                          obtain ⟨hmz_23, lnz_23, gzz_23, hfz_23, hvz_23⟩ := hrr (fs i) k (by first | omega | (have := hen i (by omega); omega)) (by first | omega | (have := hen i (by omega); omega))
                          have hnz_23 := zVal_len hvz_23
                          refine lv_astore (lv' := [(11, .ref (rr1 (fs i) k)), (10, .ref (rp i)), (9, .int (nI i)), (8, .int (nI np)), (7, .ref zp), (6, .ref b9), (5, .int (nI k)), (4, .int (nI a)), (3, .ref qz), (0, .ref zs), (1, .int (nI many)), (2, .int (nI nn))]) hx hb dX5_go_299 hl (by decide) rfl (fun ls hl => ?_)
                          exact hc_301 (rr1 (fs i) k) (by exact hop) (by exact hend) (by exact hka) (by exact htk) (by rw [if_neg hfa]; exact hrr _ _ (by have := hen i (by omega); omega) (by omega)) _ _ hP hD hS _ (lv_sub hl [1, 2, 3, 4, 5, 6, 7, 8, 9, 10, 11, 0] rfl)
                        · have hfa : fs i = a := by omega
                          refine lv_aload hx hb dX5_go_284 (lv_at hl 0 rfl) ?_
                          refine lv_iconst (v := (nI 1)) hx hb dX5_go_286 (by decide) ?_
                          refine kp_ialf (k := 1) (v := (nI (sn i))) hx hb hK hP (hrp i (by omega)).1 (hrp i (by omega)).2 (by decide) (by decide) rfl dX5_go_287 ?_
                          refine lv_goto (tgt := 295) hx hb dX5_go_288 (by decide) ?_
                          refine kr_aldA (k := (sn i)) (v := .ref (ro (sn i))) hx hb hK hP 2 4 rfl rfl (by have := hen i (by omega); omega) (by omega) (kRn_at (by have := hen i (by omega); omega)) dX5_go_295 ?_
                          refine lv_iload hx hb dX5_go_296 (lv_at hl 5 rfl) ?_
                          refine kp_aldA (k := k) (v := .ref (rr1 (sn i) k)) hx hb hK hP 3 (hrw (sn i) (by have := hen i (by omega); omega)).1 (hrw (sn i) (by have := hen i (by omega); omega)).2 rfl (by omega) (by omega) (kRn_at (by omega)) dX5_go_298 ?_
                          obtain ⟨hmz_24, lnz_24, gzz_24, hfz_24, hvz_24⟩ := hrr (sn i) k (by first | omega | (have := hen i (by omega); omega)) (by first | omega | (have := hen i (by omega); omega))
                          have hnz_24 := zVal_len hvz_24
                          refine lv_astore (lv' := [(11, .ref (rr1 (sn i) k)), (10, .ref (rp i)), (9, .int (nI i)), (8, .int (nI np)), (7, .ref zp), (6, .ref b9), (5, .int (nI k)), (4, .int (nI a)), (3, .ref qz), (0, .ref zs), (1, .int (nI many)), (2, .int (nI nn))]) hx hb dX5_go_299 hl (by decide) rfl (fun ls hl => ?_)
                          exact hc_301 (rr1 (sn i) k) (by exact hop) (by exact hend) (by exact hka) (by exact htk) (by rw [if_pos hfa]; exact hrr _ _ (by have := hen i (by omega); omega) (by omega)) _ _ hP hD hS _ (lv_sub hl [1, 2, 3, 4, 5, 6, 7, 8, 9, 10, 11, 0] rfl)
                      refine lv_aload hx hb dX5_go_199 (lv_at hl 0 rfl) ?_
                      refine lv_iconst (v := (nI 3)) hx hb dX5_go_201 (by decide) ?_
                      refine kp_ialf (k := 3) (v := (bI (op i))) hx hb hK hP (hrp i (by omega)).1 (hrp i (by omega)).2 (by decide) (by decide) zP_3 dX5_go_202 ?_
                      refine kb_eqb (tgt := 350) hx hb dX5_go_203 (by decide) (fun c_25 => ?_) (fun c_25 => ?_)
                      · have hstep := vB_x1 (ar := ar) (fs := fs) (sn := sn) (S := S1) (a := a) (k := k) c_25
                        refine lv_iinc (k := 1) (v := (nI (i + 1))) (lv' := [(9, .int (nI (i + 1))), (10, .ref (rp i)), (8, .int (nI np)), (7, .ref zp), (6, .ref b9), (5, .int (nI k)), (4, .int (nI a)), (3, .ref qz), (0, .ref zs), (1, .int (nI many)), (2, .int (nI nn))]) hx hb dX5_go_350 hl rfl (kn_inc i) (by decide) rfl (fun ls hl => ?_)
                        refine lv_goto (tgt := 185) hx hb dX5_go_353 (by decide) ?_
                        exact ih185 (i + 1) b9 (by omega) (by omega) (by rw [hstep]; exact hb9) _ _ hP hD hS _ (lv_sub hl [0, 2, 3, 4, 5, 6, 7, 8, 9, 10] rfl)
                      · have hop := c_25
                        refine lv_aload hx hb dX5_go_206 (lv_at hl 0 rfl) ?_
                        refine lv_iconst (v := (nI 0)) hx hb dX5_go_208 (by decide) ?_
                        refine kp_ialf (k := 0) (v := (nI (fs i))) hx hb hK hP (hrp i (by omega)).1 (hrp i (by omega)).2 (by decide) (by decide) rfl dX5_go_209 ?_
                        refine lv_iload hx hb dX5_go_210 (lv_at hl 6 rfl) ?_
                        refine kb_eq (tgt := 224) hx hb dX5_go_212 (by decide) (by have := hfs i; have := hsn i; omega) (by have := hfs i; have := hsn i; omega) (fun c_26 => ?_) (fun c_26 => ?_)
                        · have hend : fs i = a ∨ sn i = a := by omega
                          refine lv_iload hx hb dX5_go_224 (lv_at hl 6 rfl) ?_
                          refine lv_iload hx hb dX5_go_226 (lv_at hl 5 rfl) ?_
                          refine kb_eq (tgt := 350) hx hb dX5_go_228 (by decide) (by omega) (by omega) (fun c_27 => ?_) (fun c_27 => ?_)
                          · have hstep := vB_x3 (ar := ar) (fs := fs) (sn := sn) (op := op) (S := S1) (a := a) (k := k) (i := i) (fun z => z.1 (by omega))
                            refine lv_iinc (k := 1) (v := (nI (i + 1))) (lv' := [(9, .int (nI (i + 1))), (10, .ref (rp i)), (8, .int (nI np)), (7, .ref zp), (6, .ref b9), (5, .int (nI k)), (4, .int (nI a)), (3, .ref qz), (0, .ref zs), (1, .int (nI many)), (2, .int (nI nn))]) hx hb dX5_go_350 hl rfl (kn_inc i) (by decide) rfl (fun ls hl => ?_)
                            refine lv_goto (tgt := 185) hx hb dX5_go_353 (by decide) ?_
                            exact ih185 (i + 1) b9 (by omega) (by omega) (by rw [hstep]; exact hb9) _ _ hP hD hS _ (lv_sub hl [0, 2, 3, 4, 5, 6, 7, 8, 9, 10] rfl)
                          · have hka : k ≠ a := by omega
                            refine lv_aload_n hx hb dX5_go_231 rfl (lv_at hl 8 rfl) ?_
                            refine va_get (D := G.1) (ci := 5) (v := .ref za) (C := RX5) (T := TX5) (N := 5) hx hb hts kX5_go_2 hown hK hP 0 rfl rfl 1 (by decide) (hts _ kX5_go_12) (fun _ h9 => h9) rfl dX5_go_232 ?_
                            refine lv_iload hx hb dX5_go_235 (lv_at hl 6 rfl) ?_
                            refine kr_iald (k := a) (v := (nI (ar a))) hx hb hK hP 1 0 rfl rfl (by omega) (by omega) rfl dX5_go_237 ?_
                            refine kb_eq0 (tgt := 271) hx hb dX5_go_238 (by decide) (by have := hV.2.1 a; omega) (fun c_28 => ?_) (fun c_28 => ?_)
                            · have htk : mTakes ar a k = true := mTakes_1 (by omega)
                              exact hc_271 () (by exact hop) (by exact hend) (by exact hka) (by exact htk) _ _ hP hD hS _ (lv_sub hl [0, 1, 2, 3, 4, 5, 6, 7, 8, 9, 10] rfl)
                            · refine lv_aload_n hx hb dX5_go_241 rfl (lv_at hl 8 rfl) ?_
                              refine va_get (D := G.1) (ci := 5) (v := .ref za) (C := RX5) (T := TX5) (N := 5) hx hb hts kX5_go_2 hown hK hP 0 rfl rfl 1 (by decide) (hts _ kX5_go_12) (fun _ h9 => h9) rfl dX5_go_242 ?_
                              refine lv_iload hx hb dX5_go_245 (lv_at hl 5 rfl) ?_
                              refine kr_iald (k := k) (v := (nI (ar k))) hx hb hK hP 1 0 rfl rfl (by omega) (by omega) rfl dX5_go_247 ?_
                              refine kb_eq0 (tgt := 271) hx hb dX5_go_248 (by decide) (by have := hV.2.1 k; omega) (fun c_29 => ?_) (fun c_29 => ?_)
                              · have htk : mTakes ar a k = true := mTakes_2 (by omega)
                                exact hc_271 () (by exact hop) (by exact hend) (by exact hka) (by exact htk) _ _ hP hD hS _ (lv_sub hl [0, 1, 2, 3, 4, 5, 6, 7, 8, 9, 10] rfl)
                              · refine lv_aload_n hx hb dX5_go_251 rfl (lv_at hl 8 rfl) ?_
                                refine va_get (D := G.1) (ci := 5) (v := .ref za) (C := RX5) (T := TX5) (N := 5) hx hb hts kX5_go_2 hown hK hP 0 rfl rfl 1 (by decide) (hts _ kX5_go_12) (fun _ h9 => h9) rfl dX5_go_252 ?_
                                refine lv_iload hx hb dX5_go_255 (lv_at hl 6 rfl) ?_
                                refine kr_iald (k := a) (v := (nI (ar a))) hx hb hK hP 1 0 rfl rfl (by omega) (by omega) rfl dX5_go_257 ?_
                                refine lv_aload_n hx hb dX5_go_258 rfl (lv_at hl 8 rfl) ?_
                                refine va_get (D := G.1) (ci := 5) (v := .ref za) (C := RX5) (T := TX5) (N := 5) hx hb hts kX5_go_2 hown hK hP 0 rfl rfl 1 (by decide) (hts _ kX5_go_12) (fun _ h9 => h9) rfl dX5_go_259 ?_
                                refine lv_iload hx hb dX5_go_262 (lv_at hl 5 rfl) ?_
                                refine kr_iald (k := k) (v := (nI (ar k))) hx hb hK hP 1 0 rfl rfl (by omega) (by omega) rfl dX5_go_264 ?_
                                refine kb_eq (tgt := 271) hx hb dX5_go_265 (by decide) (by have := hV.2.1 a; have := hV.2.1 k; omega) (by have := hV.2.1 a; have := hV.2.1 k; omega) (fun c_30 => ?_) (fun c_30 => ?_)
                                · have htk : mTakes ar a k = true := mTakes_3 (by omega)
                                  exact hc_271 () (by exact hop) (by exact hend) (by exact hka) (by exact htk) _ _ hP hD hS _ (lv_sub hl [0, 1, 2, 3, 4, 5, 6, 7, 8, 9, 10] rfl)
                                · have hstep := vB_x3 (ar := ar) (fs := fs) (sn := sn) (op := op) (S := S1) (a := a) (k := k) (i := i) (fun z => by rw [mTakes_0 (by omega) (by omega) (by omega)] at z; exact Bool.noConfusion z.2)
                                  refine lv_goto (tgt := 350) hx hb dX5_go_268 (by decide) ?_
                                  refine lv_iinc (k := 1) (v := (nI (i + 1))) (lv' := [(9, .int (nI (i + 1))), (10, .ref (rp i)), (8, .int (nI np)), (7, .ref zp), (6, .ref b9), (5, .int (nI k)), (4, .int (nI a)), (3, .ref qz), (0, .ref zs), (1, .int (nI many)), (2, .int (nI nn))]) hx hb dX5_go_350 hl rfl (kn_inc i) (by decide) rfl (fun ls hl => ?_)
                                  refine lv_goto (tgt := 185) hx hb dX5_go_353 (by decide) ?_
                                  exact ih185 (i + 1) b9 (by omega) (by omega) (by rw [hstep]; exact hb9) _ _ hP hD hS _ (lv_sub hl [0, 2, 3, 4, 5, 6, 7, 8, 9, 10] rfl)
                        · refine lv_aload hx hb dX5_go_215 (lv_at hl 0 rfl) ?_
                          refine lv_iconst (v := (nI 1)) hx hb dX5_go_217 (by decide) ?_
                          refine kp_ialf (k := 1) (v := (nI (sn i))) hx hb hK hP (hrp i (by omega)).1 (hrp i (by omega)).2 (by decide) (by decide) rfl dX5_go_218 ?_
                          refine lv_iload hx hb dX5_go_219 (lv_at hl 6 rfl) ?_
                          refine kb_ne (tgt := 350) hx hb dX5_go_221 (by decide) (by have := hfs i; have := hsn i; omega) (by have := hfs i; have := hsn i; omega) (fun c_31 => ?_) (fun c_31 => ?_)
                          · have hstep := vB_x2 (ar := ar) (op := op) (S := S1) (k := k) (show fs i ≠ a by omega) (show sn i ≠ a by omega)
                            refine lv_iinc (k := 1) (v := (nI (i + 1))) (lv' := [(9, .int (nI (i + 1))), (10, .ref (rp i)), (8, .int (nI np)), (7, .ref zp), (6, .ref b9), (5, .int (nI k)), (4, .int (nI a)), (3, .ref qz), (0, .ref zs), (1, .int (nI many)), (2, .int (nI nn))]) hx hb dX5_go_350 hl rfl (kn_inc i) (by decide) rfl (fun ls hl => ?_)
                            refine lv_goto (tgt := 185) hx hb dX5_go_353 (by decide) ?_
                            exact ih185 (i + 1) b9 (by omega) (by omega) (by rw [hstep]; exact hb9) _ _ hP hD hS _ (lv_sub hl [0, 2, 3, 4, 5, 6, 7, 8, 9, 10] rfl)
                          · have hend : fs i = a ∨ sn i = a := by omega
                            refine lv_iload hx hb dX5_go_224 (lv_at hl 6 rfl) ?_
                            refine lv_iload hx hb dX5_go_226 (lv_at hl 5 rfl) ?_
                            refine kb_eq (tgt := 350) hx hb dX5_go_228 (by decide) (by omega) (by omega) (fun c_32 => ?_) (fun c_32 => ?_)
                            · have hstep := vB_x3 (ar := ar) (fs := fs) (sn := sn) (op := op) (S := S1) (a := a) (k := k) (i := i) (fun z => z.1 (by omega))
                              refine lv_iinc (k := 1) (v := (nI (i + 1))) (lv' := [(9, .int (nI (i + 1))), (10, .ref (rp i)), (8, .int (nI np)), (7, .ref zp), (6, .ref b9), (5, .int (nI k)), (4, .int (nI a)), (3, .ref qz), (0, .ref zs), (1, .int (nI many)), (2, .int (nI nn))]) hx hb dX5_go_350 hl rfl (kn_inc i) (by decide) rfl (fun ls hl => ?_)
                              refine lv_goto (tgt := 185) hx hb dX5_go_353 (by decide) ?_
                              exact ih185 (i + 1) b9 (by omega) (by omega) (by rw [hstep]; exact hb9) _ _ hP hD hS _ (lv_sub hl [0, 2, 3, 4, 5, 6, 7, 8, 9, 10] rfl)
                            · have hka : k ≠ a := by omega
                              refine lv_aload_n hx hb dX5_go_231 rfl (lv_at hl 8 rfl) ?_
                              refine va_get (D := G.1) (ci := 5) (v := .ref za) (C := RX5) (T := TX5) (N := 5) hx hb hts kX5_go_2 hown hK hP 0 rfl rfl 1 (by decide) (hts _ kX5_go_12) (fun _ h9 => h9) rfl dX5_go_232 ?_
                              refine lv_iload hx hb dX5_go_235 (lv_at hl 6 rfl) ?_
                              refine kr_iald (k := a) (v := (nI (ar a))) hx hb hK hP 1 0 rfl rfl (by omega) (by omega) rfl dX5_go_237 ?_
                              refine kb_eq0 (tgt := 271) hx hb dX5_go_238 (by decide) (by have := hV.2.1 a; omega) (fun c_33 => ?_) (fun c_33 => ?_)
                              · have htk : mTakes ar a k = true := mTakes_1 (by omega)
                                exact hc_271 () (by exact hop) (by exact hend) (by exact hka) (by exact htk) _ _ hP hD hS _ (lv_sub hl [0, 1, 2, 3, 4, 5, 6, 7, 8, 9, 10] rfl)
                              · refine lv_aload_n hx hb dX5_go_241 rfl (lv_at hl 8 rfl) ?_
                                refine va_get (D := G.1) (ci := 5) (v := .ref za) (C := RX5) (T := TX5) (N := 5) hx hb hts kX5_go_2 hown hK hP 0 rfl rfl 1 (by decide) (hts _ kX5_go_12) (fun _ h9 => h9) rfl dX5_go_242 ?_
                                refine lv_iload hx hb dX5_go_245 (lv_at hl 5 rfl) ?_
                                refine kr_iald (k := k) (v := (nI (ar k))) hx hb hK hP 1 0 rfl rfl (by omega) (by omega) rfl dX5_go_247 ?_
                                refine kb_eq0 (tgt := 271) hx hb dX5_go_248 (by decide) (by have := hV.2.1 k; omega) (fun c_34 => ?_) (fun c_34 => ?_)
                                · have htk : mTakes ar a k = true := mTakes_2 (by omega)
                                  exact hc_271 () (by exact hop) (by exact hend) (by exact hka) (by exact htk) _ _ hP hD hS _ (lv_sub hl [0, 1, 2, 3, 4, 5, 6, 7, 8, 9, 10] rfl)
                                · refine lv_aload_n hx hb dX5_go_251 rfl (lv_at hl 8 rfl) ?_
                                  refine va_get (D := G.1) (ci := 5) (v := .ref za) (C := RX5) (T := TX5) (N := 5) hx hb hts kX5_go_2 hown hK hP 0 rfl rfl 1 (by decide) (hts _ kX5_go_12) (fun _ h9 => h9) rfl dX5_go_252 ?_
                                  refine lv_iload hx hb dX5_go_255 (lv_at hl 6 rfl) ?_
                                  refine kr_iald (k := a) (v := (nI (ar a))) hx hb hK hP 1 0 rfl rfl (by omega) (by omega) rfl dX5_go_257 ?_
                                  refine lv_aload_n hx hb dX5_go_258 rfl (lv_at hl 8 rfl) ?_
                                  refine va_get (D := G.1) (ci := 5) (v := .ref za) (C := RX5) (T := TX5) (N := 5) hx hb hts kX5_go_2 hown hK hP 0 rfl rfl 1 (by decide) (hts _ kX5_go_12) (fun _ h9 => h9) rfl dX5_go_259 ?_
                                  refine lv_iload hx hb dX5_go_262 (lv_at hl 5 rfl) ?_
                                  refine kr_iald (k := k) (v := (nI (ar k))) hx hb hK hP 1 0 rfl rfl (by omega) (by omega) rfl dX5_go_264 ?_
                                  refine kb_eq (tgt := 271) hx hb dX5_go_265 (by decide) (by have := hV.2.1 a; have := hV.2.1 k; omega) (by have := hV.2.1 a; have := hV.2.1 k; omega) (fun c_35 => ?_) (fun c_35 => ?_)
                                  · have htk : mTakes ar a k = true := mTakes_3 (by omega)
                                    exact hc_271 () (by exact hop) (by exact hend) (by exact hka) (by exact htk) _ _ hP hD hS _ (lv_sub hl [0, 1, 2, 3, 4, 5, 6, 7, 8, 9, 10] rfl)
                                  · have hstep := vB_x3 (ar := ar) (fs := fs) (sn := sn) (op := op) (S := S1) (a := a) (k := k) (i := i) (fun z => by rw [mTakes_0 (by omega) (by omega) (by omega)] at z; exact Bool.noConfusion z.2)
                                    refine lv_goto (tgt := 350) hx hb dX5_go_268 (by decide) ?_
                                    refine lv_iinc (k := 1) (v := (nI (i + 1))) (lv' := [(9, .int (nI (i + 1))), (10, .ref (rp i)), (8, .int (nI np)), (7, .ref zp), (6, .ref b9), (5, .int (nI k)), (4, .int (nI a)), (3, .ref qz), (0, .ref zs), (1, .int (nI many)), (2, .int (nI nn))]) hx hb dX5_go_350 hl rfl (kn_inc i) (by decide) rfl (fun ls hl => ?_)
                                    refine lv_goto (tgt := 185) hx hb dX5_go_353 (by decide) ?_
                                    exact ih185 (i + 1) b9 (by omega) (by omega) (by rw [hstep]; exact hb9) _ _ hP hD hS _ (lv_sub hl [0, 2, 3, 4, 5, 6, 7, 8, 9, 10] rfl)
                exact hc_185 (_ + 1) 0 (rr1 a k) (Nat.lt_succ_self _) (by omega) (by exact hrr a k (by omega) (by omega)) _ _ hP hD hS _ (lv_sub hl [0, 1, 2, 3, 4, 5, 6, 7, 8, 9] rfl)
          refine W.widen (k := 15 + 7 * a + 0) (n := 210 + 154 * a + 22 * 0) (by omega) (by omega) ?_
          exact hc_153 (_ + 1) 0 L2 F2 ct (Nat.lt_succ_self _) (by omega) (by exact hJ) _ _ hP hD hS _ (lv_sub hl [0, 1, 2, 3, 4, 5] rfl)
    refine W.widen (k := 15 + 7 * 0) (n := 210 + 154 * 0) (by omega) (by omega) ?_
    exact hc_144 (_ + 1) 0 (L1 ++ ((List.range nn).map rz)) (vr_up F1 ((List.range nn).map rz) (.inl (G.2 3, nn, .inr (.inr (.inr (.inr (fun _ => none))))))) (fun _ _ => 0) (Nat.lt_succ_self _) (by omega) (by exact zI2_0 hm2) _ _ hP hD hS _ (lv_sub hl [0, 1, 2, 3, 4] rfl)
  refine lv_iconst (v := (nI 0)) hx hb dX5_go_0 (by decide) ?_
  refine lv_istore_n (lv' := [(1, .int (nI 0)), (0, .ref zs)]) hx hb dX5_go_1 rfl hl (by decide) rfl (fun ls hl => ?_)
  refine lv_aload_n hx hb dX5_go_2 rfl (lv_at hl 1 rfl) ?_
  refine va_get (D := G.1) (ci := 5) (v := .ref za) (C := RX5) (T := TX5) (N := 5) hx hb hts kX5_go_2 hown hK hP 0 rfl rfl 1 (by decide) (hts _ kX5_go_12) (fun _ h9 => h9) rfl dX5_go_3 ?_
  refine va_alen (v := nI nn) hx hb hK hP 1 0 rfl rfl rfl dX5_go_6 ?_
  refine lv_istore_n (lv' := [(2, .int (nI nn)), (1, .int (nI 0)), (0, .ref zs)]) hx hb dX5_go_7 rfl hl (by decide) rfl (fun ls hl => ?_)
  refine lv_iconst (v := (nI 0)) hx hb dX5_go_8 (by decide) ?_
  refine lv_istore_n (lv' := [(3, .int (nI 0)), (2, .int (nI nn)), (1, .int (nI 0)), (0, .ref zs)]) hx hb dX5_go_9 rfl hl (by decide) rfl (fun ls hl => ?_)
  have hc_10 : ∀ (n : Nat) (h many : Nat) (L1 : List Nat) (F1 : Nat → va_E) (rr1 : Nat → Nat → Nat) (S1 : Nat → Option mS) (w1 : Nat → Nat), nn - h < n → h ≤ nn → (S1, w1, many) = vWrite mi fs sn ln op np (SS, ww, 0) h → zI1 G nn np mi L f ro rp fs sn ln op L1 F1 rr1 S1 → ∀ (H : Heap) (locs : List Loc), va_P G.1 vwCl ([(zs, .inr (5, [.int (nI mi), .ref za, .ref zw, .ref zq, .ref zp])), (za, .inl (G.2 0, nn, .inl (kI ar))), (zq, .inl (G.2 4, nn, .inr (.inr (.inr (.inr (kRn nn ro)))))), (zp, .inl (G.2 3, np, .inr (.inr (.inr (.inr (kRn np rp)))))), (zw, .inl (G.2 0, nn, .inl (kI w1)))] ++ va_pl L1 F1) H → va_D A ([(zs, .inr (5, [.int (nI mi), .ref za, .ref zw, .ref zq, .ref zp])), (za, .inl (G.2 0, nn, .inl (kI ar))), (zq, .inl (G.2 4, nn, .inr (.inr (.inr (.inr (kRn nn ro)))))), (zp, .inl (G.2 3, np, .inr (.inr (.inr (.inr (kRn np rp)))))), (zw, .inl (G.2 0, nn, .inl (kI w1)))] ++ va_pl L1 F1) → va_S A s.heap H locs → ∀ (ls : Array Slot), lv_has ls 12 [(3, .int (nI h)), (2, .int (nI nn)), (1, .int (nI many)), (0, .ref zs)] → W p l e (headSpec wsX5_goZ ({ frames := 2, cells := 113, slots := 1288, locals := 45 })).room s m [.ref zs].toArray below meth c H locs h (22 * h) (MQ below (va_Qi (fun (r : Int32) (u : Nat × (Nat → Nat) × (Nat → Nat → Nat) × List Nat × (Nat → va_E)) => r = nI (vMin ar fs sn ln op nn np mi (SS, ww, 0)).2.2 ∧ (∀ y, y ∈ L → y ∈ u.2.2.2.1 ∧ ((∀ i, i < nn → y ≠ ro i) → u.2.2.2.2 y = f y)) ∧ (∀ i, i < nn → u.2.1 i ∈ u.2.2.2.1 ∧ u.2.2.2.2 (u.2.1 i) = .inl (G.2 3, nn, .inr (.inr (.inr (.inr (kRn nn (u.2.2.1 i))))))) ∧ (∀ i j, i < nn → j < nn → zRow G u.2.2.2.1 u.2.2.2.2 (u.2.2.1 i j) (mi + 1) ((vMin ar fs sn ln op nn np mi (SS, ww, 0)).1 (i * 10 + j))) ∧ (∀ i j, i < nn → j < nn → u.2.1 i = u.2.1 j → i = j) ∧ (∀ i, i < nn → u.2.1 i ∉ L) ∧ ∀ i j, i < nn → j < nn → u.2.2.1 i j ∉ L) (fun (u : Nat × (Nat → Nat) × (Nat → Nat → Nat) × List Nat × (Nat → va_E)) t => kA G A ([(zs, .inr (5, [.int (nI (mi + 1)), .ref za, .ref zw, .ref u.1, .ref zp])), (za, .inl (G.2 0, nn, .inl (kI ar))), (u.1, .inl (G.2 4, nn, .inr (.inr (.inr (.inr (kRn nn u.2.1)))))), (zp, .inl (G.2 3, np, .inr (.inr (.inr (.inr (kRn np rp)))))), (zw, .inl (G.2 0, nn, .inl (kI (vMin ar fs sn ln op nn np mi (SS, ww, 0)).2.1)))] ++ va_pl u.2.2.2.1 u.2.2.2.2) t) A) [.ref zs].toArray s 113 1288 A) (F0 m 10 ls []) := by
    intro n
    induction n with
    | zero =>
      intro h many L1 F1 rr1 S1 w1 hmz; exact absurd hmz (Nat.not_lt_zero _)
    | succ n ih10 =>
      intro h many L1 F1 rr1 S1 w1 hmz hh hst hI H locs hP hD hS ls hl
      obtain ⟨hrw, hrr, hrp, hfr⟩ := id hI
      refine lv_iload_n hx hb dX5_go_10 rfl (lv_at hl 0 rfl) ?_
      refine lv_iload_n hx hb dX5_go_11 rfl (lv_at hl 1 rfl) ?_
      refine kb_ge (tgt := 134) hx hb dX5_go_12 (by decide) (by omega) (by omega) (fun c_36 => ?_) (fun c_36 => ?_)
      · refine W.widen (k := 7) (n := 154) (by omega) (by omega) ?_
        exact hc_134 many L1 F1 rr1 S1 w1 (by rw [show nn = h by omega]; exact hst) (by exact hI) _ _ hP hD hS _ (lv_sub hl [3, 2, 1] rfl)
      · have hc_51 : ∀ (_ : Unit), vMst mi fs sn ln op np S1 h = true → ∀ (H : Heap) (locs : List Loc), va_P G.1 vwCl ([(zs, .inr (5, [.int (nI mi), .ref za, .ref zw, .ref zq, .ref zp])), (za, .inl (G.2 0, nn, .inl (kI ar))), (zq, .inl (G.2 4, nn, .inr (.inr (.inr (.inr (kRn nn ro)))))), (zp, .inl (G.2 3, np, .inr (.inr (.inr (.inr (kRn np rp)))))), (zw, .inl (G.2 0, nn, .inl (kI w1)))] ++ va_pl L1 F1) H → va_D A ([(zs, .inr (5, [.int (nI mi), .ref za, .ref zw, .ref zq, .ref zp])), (za, .inl (G.2 0, nn, .inl (kI ar))), (zq, .inl (G.2 4, nn, .inr (.inr (.inr (.inr (kRn nn ro)))))), (zp, .inl (G.2 3, np, .inr (.inr (.inr (.inr (kRn np rp)))))), (zw, .inl (G.2 0, nn, .inl (kI w1)))] ++ va_pl L1 F1) → va_S A s.heap H locs → ∀ (ls : Array Slot), lv_has ls 12 [(3, .int (nI h)), (2, .int (nI nn)), (1, .int (nI many)), (0, .ref zs)] → W p l e (headSpec wsX5_goZ ({ frames := 2, cells := 113, slots := 1288, locals := 45 })).room s m [.ref zs].toArray below meth c H locs h (22 * h) (MQ below (va_Qi (fun (r : Int32) (u : Nat × (Nat → Nat) × (Nat → Nat → Nat) × List Nat × (Nat → va_E)) => r = nI (vMin ar fs sn ln op nn np mi (SS, ww, 0)).2.2 ∧ (∀ y, y ∈ L → y ∈ u.2.2.2.1 ∧ ((∀ i, i < nn → y ≠ ro i) → u.2.2.2.2 y = f y)) ∧ (∀ i, i < nn → u.2.1 i ∈ u.2.2.2.1 ∧ u.2.2.2.2 (u.2.1 i) = .inl (G.2 3, nn, .inr (.inr (.inr (.inr (kRn nn (u.2.2.1 i))))))) ∧ (∀ i j, i < nn → j < nn → zRow G u.2.2.2.1 u.2.2.2.2 (u.2.2.1 i j) (mi + 1) ((vMin ar fs sn ln op nn np mi (SS, ww, 0)).1 (i * 10 + j))) ∧ (∀ i j, i < nn → j < nn → u.2.1 i = u.2.1 j → i = j) ∧ (∀ i, i < nn → u.2.1 i ∉ L) ∧ ∀ i j, i < nn → j < nn → u.2.2.1 i j ∉ L) (fun (u : Nat × (Nat → Nat) × (Nat → Nat → Nat) × List Nat × (Nat → va_E)) t => kA G A ([(zs, .inr (5, [.int (nI (mi + 1)), .ref za, .ref zw, .ref u.1, .ref zp])), (za, .inl (G.2 0, nn, .inl (kI ar))), (u.1, .inl (G.2 4, nn, .inr (.inr (.inr (.inr (kRn nn u.2.1)))))), (zp, .inl (G.2 3, np, .inr (.inr (.inr (.inr (kRn np rp)))))), (zw, .inl (G.2 0, nn, .inl (kI (vMin ar fs sn ln op nn np mi (SS, ww, 0)).2.1)))] ++ va_pl u.2.2.2.1 u.2.2.2.2) t) A) [.ref zs].toArray s 113 1288 A) (F0 m 51 ls []) := by
          intro _ hmu H locs hP hD hS ls hl
          refine lv_aload_n hx hb dX5_go_51 rfl (lv_at hl 3 rfl) ?_
          refine va_get (D := G.1) (ci := 5) (v := .ref zw) (C := RX5) (T := TX5) (N := 5) hx hb hts kX5_go_2 hown hK hP 0 rfl rfl 2 (by decide) (hts _ kX5_go_13) (fun _ h9 => h9) rfl dX5_go_52 ?_
          refine lv_iload_n hx hb dX5_go_55 rfl (lv_at hl 0 rfl) ?_
          refine lv_dup2_11 hx hb dX5_go_56 rfl rfl ?_
          refine kr_iald (k := h) (v := (nI (w1 h))) hx hb hK hP 4 0 rfl rfl (by omega) (by omega) rfl dX5_go_57 ?_
          refine lv_iconst (v := (nI 1)) hx hb dX5_go_58 (by decide) ?_
          refine lv_iadd hx hb dX5_go_59 ?_
          refine kr_top (y := nI ((w1 h) + 1)) (nI_add (w1 h) 1) ?_
          refine kr_iast (k := h) (g := (kI (va_up w1 h ((w1 h) + 1)))) hx hb hK hP hD hS 4 0 rfl rfl (by omega) (by omega) (kI_up w1 h ((w1 h) + 1)) dX5_go_60 (fun H locs hP hD hS => ?_)
          have hP : va_P G.1 vwCl ([(zs, .inr (5, [.int (nI mi), .ref za, .ref zw, .ref zq, .ref zp])), (za, .inl (G.2 0, nn, .inl (kI ar))), (zq, .inl (G.2 4, nn, .inr (.inr (.inr (.inr (kRn nn ro)))))), (zp, .inl (G.2 3, np, .inr (.inr (.inr (.inr (kRn np rp)))))), (zw, .inl (G.2 0, nn, .inl (kI (va_up w1 h ((w1 h) + 1)))))] ++ va_pl L1 F1) H := hP
          have hD : va_D A ([(zs, .inr (5, [.int (nI mi), .ref za, .ref zw, .ref zq, .ref zp])), (za, .inl (G.2 0, nn, .inl (kI ar))), (zq, .inl (G.2 4, nn, .inr (.inr (.inr (.inr (kRn nn ro)))))), (zp, .inl (G.2 3, np, .inr (.inr (.inr (.inr (kRn np rp)))))), (zw, .inl (G.2 0, nn, .inl (kI (va_up w1 h ((w1 h) + 1)))))] ++ va_pl L1 F1) := hD
          refine lv_aload_n hx hb dX5_go_61 rfl (lv_at hl 3 rfl) ?_
          refine va_get (D := G.1) (ci := 5) (v := .ref zp) (C := RX5) (T := TX5) (N := 5) hx hb hts kX5_go_2 hown hK hP 0 rfl rfl 4 (by decide) (hts _ kX5_go_5) (fun _ h9 => h9) rfl dX5_go_62 ?_
          refine va_alen (v := nI np) hx hb hK hP 3 3 rfl rfl rfl dX5_go_65 ?_
          refine lv_iconst (v := (nI 2)) hx hb dX5_go_66 (by decide) ?_
          refine lv_iadd hx hb dX5_go_67 ?_
          refine kr_top (y := nI (np + 2)) (nI_add np 2) ?_
          refine kn_newi hx hb (hts _ kX5_go_4) hK hP hD hS hA (by omega) (show h + 1 ≤ 113 from by omega) (show 22 * h + (np + 2) ≤ 1288 from by omega) dX5_go_68 (fun q_37 H hP hD hS => ?_)
          have hP := va_P.swap hP
          have hD := va_D.swap hD
          have hP : va_P G.1 vwCl ([(zs, .inr (5, [.int (nI mi), .ref za, .ref zw, .ref zq, .ref zp])), (za, .inl (G.2 0, nn, .inl (kI ar))), (zq, .inl (G.2 4, nn, .inr (.inr (.inr (.inr (kRn nn ro)))))), (zp, .inl (G.2 3, np, .inr (.inr (.inr (.inr (kRn np rp)))))), (zw, .inl (G.2 0, nn, .inl (kI (va_up w1 h ((w1 h) + 1))))), (q_37, .inl (G.2 0, np + 2, .inl (kI (fun _ => 0))))] ++ va_pl L1 F1) H := hP
          have hD : va_D A ([(zs, .inr (5, [.int (nI mi), .ref za, .ref zw, .ref zq, .ref zp])), (za, .inl (G.2 0, nn, .inl (kI ar))), (zq, .inl (G.2 4, nn, .inr (.inr (.inr (.inr (kRn nn ro)))))), (zp, .inl (G.2 3, np, .inr (.inr (.inr (.inr (kRn np rp)))))), (zw, .inl (G.2 0, nn, .inl (kI (va_up w1 h ((w1 h) + 1))))), (q_37, .inl (G.2 0, np + 2, .inl (kI (fun _ => 0))))] ++ va_pl L1 F1) := hD
          refine W.widen (k := h + 1) (n := 22 * (h + 1)) (by omega) (by omega) ?_
          refine lv_astore (lv' := [(4, .ref q_37), (3, .int (nI h)), (2, .int (nI nn)), (1, .int (nI many)), (0, .ref zs)]) hx hb dX5_go_70 hl (by decide) rfl (fun ls hl => ?_)
          refine lv_aload hx hb dX5_go_72 (lv_at hl 0 rfl) ?_
          refine lv_iconst (v := (nI 0)) hx hb dX5_go_74 (by decide) ?_
          refine lv_aload_n hx hb dX5_go_75 rfl (lv_at hl 4 rfl) ?_
          refine va_get (D := G.1) (ci := 5) (v := .ref zw) (C := RX5) (T := TX5) (N := 5) hx hb hts kX5_go_2 hown hK hP 0 rfl rfl 2 (by decide) (hts _ kX5_go_13) (fun _ h9 => h9) rfl dX5_go_76 ?_
          refine lv_iload_n hx hb dX5_go_79 rfl (lv_at hl 1 rfl) ?_
          refine kr_iald (k := h) (v := (nI (w1 h + 1))) hx hb hK hP 4 0 rfl rfl (by omega) (by omega) (congrArg nI (va_up_self _ _ _)) dX5_go_80 ?_
          refine kr_iast (k := 0) (g := (kI (va_up (fun _ => 0) 0 (w1 h + 1)))) hx hb hK hP hD hS 5 0 rfl rfl (by omega) (by omega) (kI_up (fun _ => 0) 0 (w1 h + 1)) dX5_go_81 (fun H locs hP hD hS => ?_)
          have hP : va_P G.1 vwCl ([(zs, .inr (5, [.int (nI mi), .ref za, .ref zw, .ref zq, .ref zp])), (za, .inl (G.2 0, nn, .inl (kI ar))), (zq, .inl (G.2 4, nn, .inr (.inr (.inr (.inr (kRn nn ro)))))), (zp, .inl (G.2 3, np, .inr (.inr (.inr (.inr (kRn np rp)))))), (zw, .inl (G.2 0, nn, .inl (kI (va_up w1 h ((w1 h) + 1))))), (q_37, .inl (G.2 0, np + 2, .inl (kI (va_up (fun _ => 0) 0 (w1 h + 1)))))] ++ va_pl L1 F1) H := hP
          have hD : va_D A ([(zs, .inr (5, [.int (nI mi), .ref za, .ref zw, .ref zq, .ref zp])), (za, .inl (G.2 0, nn, .inl (kI ar))), (zq, .inl (G.2 4, nn, .inr (.inr (.inr (.inr (kRn nn ro)))))), (zp, .inl (G.2 3, np, .inr (.inr (.inr (.inr (kRn np rp)))))), (zw, .inl (G.2 0, nn, .inl (kI (va_up w1 h ((w1 h) + 1))))), (q_37, .inl (G.2 0, np + 2, .inl (kI (va_up (fun _ => 0) 0 (w1 h + 1)))))] ++ va_pl L1 F1) := hD
          refine lv_iconst (v := (nI 0)) hx hb dX5_go_82 (by decide) ?_
          refine lv_istore (lv' := [(5, .int (nI 0)), (4, .ref q_37), (3, .int (nI h)), (2, .int (nI nn)), (1, .int (nI many)), (0, .ref zs)]) hx hb dX5_go_83 hl (by decide) rfl (fun ls hl => ?_)
          have hc_85 : ∀ (n : Nat) (j : Nat) (g : Nat → Nat), np - j < n → j ≤ np → g = zNew (w1 h + 1) fs sn ln op h j → ∀ (H : Heap) (locs : List Loc), va_P G.1 vwCl ([(zs, .inr (5, [.int (nI mi), .ref za, .ref zw, .ref zq, .ref zp])), (za, .inl (G.2 0, nn, .inl (kI ar))), (zq, .inl (G.2 4, nn, .inr (.inr (.inr (.inr (kRn nn ro)))))), (zp, .inl (G.2 3, np, .inr (.inr (.inr (.inr (kRn np rp)))))), (zw, .inl (G.2 0, nn, .inl (kI (va_up w1 h ((w1 h) + 1))))), (q_37, .inl (G.2 0, np + 2, .inl (kI g)))] ++ va_pl L1 F1) H → va_D A ([(zs, .inr (5, [.int (nI mi), .ref za, .ref zw, .ref zq, .ref zp])), (za, .inl (G.2 0, nn, .inl (kI ar))), (zq, .inl (G.2 4, nn, .inr (.inr (.inr (.inr (kRn nn ro)))))), (zp, .inl (G.2 3, np, .inr (.inr (.inr (.inr (kRn np rp)))))), (zw, .inl (G.2 0, nn, .inl (kI (va_up w1 h ((w1 h) + 1))))), (q_37, .inl (G.2 0, np + 2, .inl (kI g)))] ++ va_pl L1 F1) → va_S A s.heap H locs → ∀ (ls : Array Slot), lv_has ls 12 [(5, .int (nI j)), (4, .ref q_37), (3, .int (nI h)), (2, .int (nI nn)), (1, .int (nI many)), (0, .ref zs)] → W p l e (headSpec wsX5_goZ ({ frames := 2, cells := 113, slots := 1288, locals := 45 })).room s m [.ref zs].toArray below meth c H locs (h + 1) (22 * (h + 1)) (MQ below (va_Qi (fun (r : Int32) (u : Nat × (Nat → Nat) × (Nat → Nat → Nat) × List Nat × (Nat → va_E)) => r = nI (vMin ar fs sn ln op nn np mi (SS, ww, 0)).2.2 ∧ (∀ y, y ∈ L → y ∈ u.2.2.2.1 ∧ ((∀ i, i < nn → y ≠ ro i) → u.2.2.2.2 y = f y)) ∧ (∀ i, i < nn → u.2.1 i ∈ u.2.2.2.1 ∧ u.2.2.2.2 (u.2.1 i) = .inl (G.2 3, nn, .inr (.inr (.inr (.inr (kRn nn (u.2.2.1 i))))))) ∧ (∀ i j, i < nn → j < nn → zRow G u.2.2.2.1 u.2.2.2.2 (u.2.2.1 i j) (mi + 1) ((vMin ar fs sn ln op nn np mi (SS, ww, 0)).1 (i * 10 + j))) ∧ (∀ i j, i < nn → j < nn → u.2.1 i = u.2.1 j → i = j) ∧ (∀ i, i < nn → u.2.1 i ∉ L) ∧ ∀ i j, i < nn → j < nn → u.2.2.1 i j ∉ L) (fun (u : Nat × (Nat → Nat) × (Nat → Nat → Nat) × List Nat × (Nat → va_E)) t => kA G A ([(zs, .inr (5, [.int (nI (mi + 1)), .ref za, .ref zw, .ref u.1, .ref zp])), (za, .inl (G.2 0, nn, .inl (kI ar))), (u.1, .inl (G.2 4, nn, .inr (.inr (.inr (.inr (kRn nn u.2.1)))))), (zp, .inl (G.2 3, np, .inr (.inr (.inr (.inr (kRn np rp)))))), (zw, .inl (G.2 0, nn, .inl (kI (vMin ar fs sn ln op nn np mi (SS, ww, 0)).2.1)))] ++ va_pl u.2.2.2.1 u.2.2.2.2) t) A) [.ref zs].toArray s 113 1288 A) (F0 m 85 ls []) := by
            intro n
            induction n with
            | zero =>
              intro j g hmz; exact absurd hmz (Nat.not_lt_zero _)
            | succ n ih85 =>
              intro j g hmz hj hg H locs hP hD hS ls hl
              refine lv_iload hx hb dX5_go_85 (lv_at hl 0 rfl) ?_
              refine lv_aload_n hx hb dX5_go_87 rfl (lv_at hl 5 rfl) ?_
              refine va_get (D := G.1) (ci := 5) (v := .ref zp) (C := RX5) (T := TX5) (N := 5) hx hb hts kX5_go_2 hown hK hP 0 rfl rfl 4 (by decide) (hts _ kX5_go_5) (fun _ h9 => h9) rfl dX5_go_88 ?_
              refine va_alen (v := nI np) hx hb hK hP 3 3 rfl rfl rfl dX5_go_91 ?_
              refine kb_ge (tgt := 115) hx hb dX5_go_92 (by decide) (by omega) (by omega) (fun c_38 => ?_) (fun c_38 => ?_)
              · have hv9 : zVal mi (some (w1 h + 1, mi, mSheet fs sn ln op h np)) (np + 2) g := by rw [hg, show j = np by omega]; exact zNew_val (by have := vWrite_wle hst (by omega) hV.2.2.2.2.2.2; omega) hln hnp
                refine lv_aload_n hx hb dX5_go_115 rfl (lv_at hl 5 rfl) ?_
                refine va_get (D := G.1) (ci := 5) (v := .ref zq) (C := RX5) (T := TX5) (N := 5) hx hb hts kX5_go_2 hown hK hP 0 rfl rfl 3 (by decide) (hts _ kX5_go_1) (fun _ h9 => h9) rfl dX5_go_116 ?_
                refine lv_iload_n hx hb dX5_go_119 rfl (lv_at hl 2 rfl) ?_
                refine kr_aldA (k := h) (v := .ref (ro h)) hx hb hK hP 2 4 rfl rfl (by omega) (by omega) (kRn_at (by omega)) dX5_go_120 ?_
                refine lv_iload_n hx hb dX5_go_121 rfl (lv_at hl 2 rfl) ?_
                refine lv_aload hx hb dX5_go_122 (lv_at hl 1 rfl) ?_
                have hP : va_P G.1 vwCl (([(zs, .inr (5, [.int (nI mi), .ref za, .ref zw, .ref zq, .ref zp])), (za, .inl (G.2 0, nn, .inl (kI ar))), (zq, .inl (G.2 4, nn, .inr (.inr (.inr (.inr (kRn nn ro)))))), (zp, .inl (G.2 3, np, .inr (.inr (.inr (.inr (kRn np rp)))))), (zw, .inl (G.2 0, nn, .inl (kI (va_up w1 h ((w1 h) + 1)))))] ++ [(q_37, .inl (G.2 0, np + 2, .inl (kI g)))]) ++ va_pl L1 F1) _ := hP.part (cx := [(zs, .inr (5, [.int (nI mi), .ref za, .ref zw, .ref zq, .ref zp])), (za, .inl (G.2 0, nn, .inl (kI ar))), (zq, .inl (G.2 4, nn, .inr (.inr (.inr (.inr (kRn nn ro)))))), (zp, .inl (G.2 3, np, .inr (.inr (.inr (.inr (kRn np rp)))))), (zw, .inl (G.2 0, nn, .inl (kI (va_up w1 h ((w1 h) + 1))))), (q_37, .inl (G.2 0, np + 2, .inl (kI g)))]) [0, 1, 2, 3, 4, 5] rfl
                have hD : va_D A (([(zs, .inr (5, [.int (nI mi), .ref za, .ref zw, .ref zq, .ref zp])), (za, .inl (G.2 0, nn, .inl (kI ar))), (zq, .inl (G.2 4, nn, .inr (.inr (.inr (.inr (kRn nn ro)))))), (zp, .inl (G.2 3, np, .inr (.inr (.inr (.inr (kRn np rp)))))), (zw, .inl (G.2 0, nn, .inl (kI (va_up w1 h ((w1 h) + 1)))))] ++ [(q_37, .inl (G.2 0, np + 2, .inl (kI g)))]) ++ va_pl L1 F1) := hD.part (cx := [(zs, .inr (5, [.int (nI mi), .ref za, .ref zw, .ref zq, .ref zp])), (za, .inl (G.2 0, nn, .inl (kI ar))), (zq, .inl (G.2 4, nn, .inr (.inr (.inr (.inr (kRn nn ro)))))), (zp, .inl (G.2 3, np, .inr (.inr (.inr (.inr (kRn np rp)))))), (zw, .inl (G.2 0, nn, .inl (kI (va_up w1 h ((w1 h) + 1))))), (q_37, .inl (G.2 0, np + 2, .inl (kI g)))]) [0, 1, 2, 3, 4, 5] (by decide) rfl
                obtain ⟨hP, hD, hnyq_37⟩ := kp_push1 hP hD
                have hP : va_P G.1 vwCl ([(zs, .inr (5, [.int (nI mi), .ref za, .ref zw, .ref zq, .ref zp])), (za, .inl (G.2 0, nn, .inl (kI ar))), (zq, .inl (G.2 4, nn, .inr (.inr (.inr (.inr (kRn nn ro)))))), (zp, .inl (G.2 3, np, .inr (.inr (.inr (.inr (kRn np rp)))))), (zw, .inl (G.2 0, nn, .inl (kI (va_up w1 h ((w1 h) + 1)))))] ++ va_pl (L1 ++ [q_37]) (va_up F1 q_37 (.inl (G.2 0, np + 2, .inl (kI g))))) H := hP
                have hD : va_D A ([(zs, .inr (5, [.int (nI mi), .ref za, .ref zw, .ref zq, .ref zp])), (za, .inl (G.2 0, nn, .inl (kI ar))), (zq, .inl (G.2 4, nn, .inr (.inr (.inr (.inr (kRn nn ro)))))), (zp, .inl (G.2 3, np, .inr (.inr (.inr (.inr (kRn np rp)))))), (zw, .inl (G.2 0, nn, .inl (kI (va_up w1 h ((w1 h) + 1)))))] ++ va_pl (L1 ++ [q_37]) (va_up F1 q_37 (.inl (G.2 0, np + 2, .inl (kI g))))) := hD
                have mpf_39 : (ro h) ∈ (L1 ++ [q_37]) := List.mem_append_left _ (hrw h (by omega)).1
                have epf_39 : (va_up F1 q_37 (.inl (G.2 0, np + 2, .inl (kI g)))) (ro h) = (.inl (G.2 3, nn, .inr (.inr (.inr (.inr (kRn nn (rr1 h))))))) := by rw [va_up_ne _ _ (show (ro h) ≠ q_37 from fun z => hnyq_37 (z ▸ (hrw h (by omega)).1))]; exact (hrw h (by omega)).2
                refine kp_astR (k := h) (g' := (kRn nn (va_up (rr1 h) h q_37))) hx hb hK hZ.2.2.2.2.1 hP hD hS mpf_39 epf_39 (List.mem_append_right _ List.mem_cons_self) (va_up_self _ _ _) (by omega) (by omega) (kRn_up (by omega)) dX5_go_124 (fun H locs hP hD hS => ?_)
                have hP : va_P G.1 vwCl ([(zs, .inr (5, [.int (nI mi), .ref za, .ref zw, .ref zq, .ref zp])), (za, .inl (G.2 0, nn, .inl (kI ar))), (zq, .inl (G.2 4, nn, .inr (.inr (.inr (.inr (kRn nn ro)))))), (zp, .inl (G.2 3, np, .inr (.inr (.inr (.inr (kRn np rp)))))), (zw, .inl (G.2 0, nn, .inl (kI (va_up w1 h ((w1 h) + 1)))))] ++ va_pl (L1 ++ [q_37]) (va_up (va_up F1 q_37 (.inl (G.2 0, np + 2, .inl (kI g)))) (ro h) (.inl (G.2 3, nn, .inr (.inr (.inr (.inr (kRn nn (va_up (rr1 h) h q_37))))))))) H := hP
                have hD : va_D A ([(zs, .inr (5, [.int (nI mi), .ref za, .ref zw, .ref zq, .ref zp])), (za, .inl (G.2 0, nn, .inl (kI ar))), (zq, .inl (G.2 4, nn, .inr (.inr (.inr (.inr (kRn nn ro)))))), (zp, .inl (G.2 3, np, .inr (.inr (.inr (.inr (kRn np rp)))))), (zw, .inl (G.2 0, nn, .inl (kI (va_up w1 h ((w1 h) + 1)))))] ++ va_pl (L1 ++ [q_37]) (va_up (va_up F1 q_37 (.inl (G.2 0, np + 2, .inl (kI g)))) (ro h) (.inl (G.2 3, nn, .inr (.inr (.inr (.inr (kRn nn (va_up (rr1 h) h q_37))))))))) := hD
                refine lv_iinc (k := 4) (v := (nI (many + 1))) (lv' := [(1, .int (nI (many + 1))), (5, .int (nI j)), (4, .ref q_37), (3, .int (nI h)), (2, .int (nI nn)), (0, .ref zs)]) hx hb dX5_go_125 hl rfl (kn_inc many) (by decide) rfl (fun ls hl => ?_)
                refine lv_iinc (k := 3) (v := (nI (h + 1))) (lv' := [(3, .int (nI (h + 1))), (1, .int (nI (many + 1))), (5, .int (nI j)), (4, .ref q_37), (2, .int (nI nn)), (0, .ref zs)]) hx hb dX5_go_128 hl rfl (kn_inc h) (by decide) rfl (fun ls hl => ?_)
                refine lv_goto (tgt := 10) hx hb dX5_go_131 (by decide) ?_
                refine W.widen (k := (h + 1)) (n := 22 * (h + 1)) (by omega) (by omega) ?_
                exact ih10 (h + 1) (many + 1) (L1 ++ [q_37]) (va_up (va_up F1 q_37 (.inl (G.2 0, np + 2, .inl (kI g)))) (ro h) (.inl (G.2 3, nn, .inr (.inr (.inr (.inr (kRn nn (va_up (rr1 h) h q_37)))))))) (va_up rr1 h (va_up (rr1 h) h q_37)) (va_up S1 (h * 10 + h) (some (w1 h + 1, mi, mSheet fs sn ln op h np))) (va_up w1 h ((w1 h) + 1)) (by omega) (by omega) (by exact vWrite_w1 hst hmu) (by exact zI1_step hI (by omega) (by omega) hinj hnyq_37 hv9) _ _ hP hD hS _ (lv_sub hl [0, 4, 1, 5] rfl)
              · refine lv_aload hx hb dX5_go_95 (lv_at hl 1 rfl) ?_
                refine lv_iload hx hb dX5_go_97 (lv_at hl 0 rfl) ?_
                refine lv_iconst (v := (nI 2)) hx hb dX5_go_99 (by decide) ?_
                refine lv_iadd hx hb dX5_go_100 ?_
                refine kr_top (y := nI (j + 2)) (nI_add j 2) ?_
                refine lv_aload_n hx hb dX5_go_101 rfl (lv_at hl 5 rfl) ?_
                refine lv_iload_n hx hb dX5_go_102 rfl (lv_at hl 2 rfl) ?_
                refine lv_iload hx hb dX5_go_103 (lv_at hl 0 rfl) ?_
                refine vp_callSi (W.runV (As := [.int (nI h), .int (nI j)]) (rest := [.int (nI (j + 2)), .ref q_37]) ⟨hx, hb, hml, hown, hts⟩ (c_X5_due l G zs za zw zq zp nn np mi L1 F1 ro rr1 rp fs sn ln op S1 ar ww h j hrp (by omega) (by omega) hfs hsn hln hen (by omega) (by omega) (by omega)) (cwV 2 hts gX5_goZ_due rfl rfl rfl (by decide +kernel) ⟨Nat.le_of_ble_eq_true rfl, Nat.le_of_ble_eq_true rfl⟩) (kPre_V (ws := ([(zs, .inr (5, [.int (nI mi), .ref za, .ref zw, .ref zq, .ref zp])), (zp, .inl (G.2 3, np, .inr (.inr (.inr (.inr (kRn np rp))))))] ++ va_pl L1 F1)) hK (hP.part (cx := [(zs, .inr (5, [.int (nI mi), .ref za, .ref zw, .ref zq, .ref zp])), (zp, .inl (G.2 3, np, .inr (.inr (.inr (.inr (kRn np rp))))))]) [0, 3] rfl) (RX5, TX5, 5) 0 rfl rfl) rfl rfl hl.1 rfl (lv_room (Nat.le_of_ble_eq_true rfl)) dX5_go_105 ⟨(show h + 1 + 0 ≤ 113 from by omega), (show 22 * (h + 1) + 0 ≤ 1288 from by omega)⟩) (fun r_40 hr_40 => ?_)
                subst hr_40
                refine kr_iast (k := (j + 2)) (g := (kI (va_up g (j + 2) (mTells fs sn ln op h j)))) hx hb hK hP hD hS 5 0 rfl rfl (by omega) (by omega) (kI_up g (j + 2) (mTells fs sn ln op h j)) dX5_go_108 (fun H locs hP hD hS => ?_)
                have hP : va_P G.1 vwCl ([(zs, .inr (5, [.int (nI mi), .ref za, .ref zw, .ref zq, .ref zp])), (za, .inl (G.2 0, nn, .inl (kI ar))), (zq, .inl (G.2 4, nn, .inr (.inr (.inr (.inr (kRn nn ro)))))), (zp, .inl (G.2 3, np, .inr (.inr (.inr (.inr (kRn np rp)))))), (zw, .inl (G.2 0, nn, .inl (kI (va_up w1 h ((w1 h) + 1))))), (q_37, .inl (G.2 0, np + 2, .inl (kI (va_up g (j + 2) (mTells fs sn ln op h j)))))] ++ va_pl L1 F1) H := hP
                have hD : va_D A ([(zs, .inr (5, [.int (nI mi), .ref za, .ref zw, .ref zq, .ref zp])), (za, .inl (G.2 0, nn, .inl (kI ar))), (zq, .inl (G.2 4, nn, .inr (.inr (.inr (.inr (kRn nn ro)))))), (zp, .inl (G.2 3, np, .inr (.inr (.inr (.inr (kRn np rp)))))), (zw, .inl (G.2 0, nn, .inl (kI (va_up w1 h ((w1 h) + 1))))), (q_37, .inl (G.2 0, np + 2, .inl (kI (va_up g (j + 2) (mTells fs sn ln op h j)))))] ++ va_pl L1 F1) := hD
                refine lv_iinc (k := 0) (v := (nI (j + 1))) (lv' := [(5, .int (nI (j + 1))), (4, .ref q_37), (3, .int (nI h)), (2, .int (nI nn)), (1, .int (nI many)), (0, .ref zs)]) hx hb dX5_go_109 hl rfl (kn_inc j) (by decide) rfl (fun ls hl => ?_)
                refine lv_goto (tgt := 85) hx hb dX5_go_112 (by decide) ?_
                exact ih85 (j + 1) (va_up g (j + 2) (mTells fs sn ln op h j)) (by omega) (by omega) (by rw [hg]; exact zNew_s) _ _ hP hD hS _ (lv_sub hl [0, 1, 2, 3, 4, 5] rfl)
          exact hc_85 (_ + 1) 0 (va_up (fun _ => 0) 0 (w1 h + 1)) (Nat.lt_succ_self _) (by omega) (by exact zNew_0) _ _ hP hD hS _ (lv_sub hl [0, 1, 2, 3, 4, 5] rfl)
        refine lv_aload_n hx hb dX5_go_15 rfl (lv_at hl 3 rfl) ?_
        refine va_get (D := G.1) (ci := 5) (v := .ref zq) (C := RX5) (T := TX5) (N := 5) hx hb hts kX5_go_2 hown hK hP 0 rfl rfl 3 (by decide) (hts _ kX5_go_1) (fun _ h9 => h9) rfl dX5_go_16 ?_
        refine lv_iload_n hx hb dX5_go_19 rfl (lv_at hl 0 rfl) ?_
        refine kr_aldA (k := h) (v := .ref (ro h)) hx hb hK hP 2 4 rfl rfl (by omega) (by omega) (kRn_at (by omega)) dX5_go_20 ?_
        refine lv_iload_n hx hb dX5_go_21 rfl (lv_at hl 0 rfl) ?_
        refine kp_aldA (k := h) (v := .ref (rr1 h h)) hx hb hK hP 3 (hrw h (by omega)).1 (hrw h (by omega)).2 rfl (by omega) (by omega) (kRn_at (by omega)) dX5_go_22 ?_
        obtain ⟨hmz_41, lnz_41, gzz_41, hfz_41, hvz_41⟩ := hrr h h (by omega) (by omega)
        have hnz_41 := zVal_len hvz_41
        refine lv_astore (lv' := [(4, .ref (rr1 h h)), (3, .int (nI h)), (2, .int (nI nn)), (1, .int (nI many)), (0, .ref zs)]) hx hb dX5_go_23 hl (by decide) rfl (fun ls hl => ?_)
        refine lv_aload hx hb dX5_go_25 (lv_at hl 0 rfl) ?_
        refine kp_alenf hx hb hK hP hmz_41 hfz_41 dX5_go_27 ?_
        refine kb_le0 (tgt := 51) hx hb dX5_go_28 (by decide) (by omega) (fun c_42 => ?_) (fun c_42 => ?_)
        · exact hc_51 () (by exact vMst_n hvz_41 (by omega)) _ _ hP hD hS _ (lv_sub hl [1, 2, 3, 4] rfl)
        · have hlz : 0 < lnz_41 := by omega
          have hl2 := (zVal_s hvz_41 hlz).choose_spec.2.1
          have hl3 := zVal_0 hmi hvz_41 hlz
          refine lv_aload hx hb dX5_go_31 (lv_at hl 0 rfl) ?_
          refine lv_iconst (v := (nI 1)) hx hb dX5_go_33 (by decide) ?_
          refine kp_ialf (k := 1) (v := (nI (gzz_41 1))) hx hb hK hP hmz_41 hfz_41 (by omega) (by omega) rfl dX5_go_34 ?_
          refine lv_bipush (v := (nI 20)) hx hb dX5_go_35 (by decide) ?_
          refine kb_ge (tgt := 51) hx hb dX5_go_37 (by decide) (by omega) (by decide) (fun c_43 => ?_) (fun c_43 => ?_)
          · exact hc_51 () (by exact vMst_o hvz_41 (by omega) (by omega)) _ _ hP hD hS _ (lv_sub hl [1, 2, 3, 4] rfl)
          · refine lv_aload_n hx hb dX5_go_40 rfl (lv_at hl 4 rfl) ?_
            refine lv_iload_n hx hb dX5_go_41 rfl (lv_at hl 1 rfl) ?_
            refine vp_callSi (W.runV (As := [.int (nI h)]) (rest := []) ⟨hx, hb, hml, hown, hts⟩ (c_X5_isTrue l G zs za zw zq zp nn np mi L1 F1 ro rr1 rp fs sn ln op S1 ar ww h hrw hrr hrp (by omega) (by omega) hfs hsn hln hen (by omega) (by omega)) (cwV 1 hts gX5_goZ_isTrue rfl rfl rfl (by decide +kernel) ⟨Nat.le_of_ble_eq_true rfl, Nat.le_of_ble_eq_true rfl⟩) (kPre_V (ws := ([(zs, .inr (5, [.int (nI mi), .ref za, .ref zw, .ref zq, .ref zp])), (zq, .inl (G.2 4, nn, .inr (.inr (.inr (.inr (kRn nn ro)))))), (zp, .inl (G.2 3, np, .inr (.inr (.inr (.inr (kRn np rp))))))] ++ va_pl L1 F1)) hK (hP.part (cx := [(zs, .inr (5, [.int (nI mi), .ref za, .ref zw, .ref zq, .ref zp])), (zq, .inl (G.2 4, nn, .inr (.inr (.inr (.inr (kRn nn ro)))))), (zp, .inl (G.2 3, np, .inr (.inr (.inr (.inr (kRn np rp))))))]) [0, 2, 3] rfl) (RX5, TX5, 5) 0 rfl rfl) rfl rfl hl.1 rfl (lv_room (Nat.le_of_ble_eq_true rfl)) dX5_go_42 ⟨(show h + 0 ≤ 113 from by omega), (show 22 * h + 0 ≤ 1288 from by omega)⟩) (fun r_44 hr_44 => ?_)
            subst hr_44
            refine kb_eqb (tgt := 51) hx hb dX5_go_45 (by decide) (fun c_45 => ?_) (fun c_45 => ?_)
            · have htr := c_45
              exact hc_51 () (by exact vMst_f hvz_41 (by omega) htr) _ _ hP hD hS _ (lv_sub hl [1, 2, 3, 4] rfl)
            · have htr := c_45
              refine lv_goto (tgt := 128) hx hb dX5_go_48 (by decide) ?_
              refine lv_iinc (k := 1) (v := (nI (h + 1))) (lv' := [(3, .int (nI (h + 1))), (4, .ref (rr1 h h)), (2, .int (nI nn)), (1, .int (nI many)), (0, .ref zs)]) hx hb dX5_go_128 hl rfl (kn_inc h) (by decide) rfl (fun ls hl => ?_)
              refine lv_goto (tgt := 10) hx hb dX5_go_131 (by decide) ?_
              refine W.widen (k := (h + 1)) (n := 22 * (h + 1)) (by omega) (by omega) ?_
              exact ih10 (h + 1) many L1 F1 rr1 S1 w1 (by omega) (by omega) (by exact vWrite_k hst (vMst_kept hvz_41 (by omega) (by omega) htr)) (by exact hI) _ _ hP hD hS _ (lv_sub hl [0, 2, 3, 4] rfl)
  refine W.widen (k := 0) (n := 22 * 0) (by omega) (by omega) ?_
  exact hc_10 (_ + 1) 0 0 L f rr SS ww (Nat.lt_succ_self _) (by omega) (by rfl) (by exact ⟨hrw, hrr, hrp, fun y hy => ⟨hy, fun _ => rfl⟩⟩) _ _ hP hD hS _ (lv_sub hl [0, 1, 2, 3] rfl)
