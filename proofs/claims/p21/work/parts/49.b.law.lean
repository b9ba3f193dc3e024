set_option maxHeartbeats 4000000 in
set_option maxRecDepth 100000 in
theorem whole_start {p : Program} {e : Env} {s : State} {m : MethodId} {below : List Frame} {meth : Method} {c : Code} (l : Launch) (hflags : l.flags = flags0) {b len : Nat} {xs : Nat → Int32} (hlen : len ≤ 260) (C0 : lw_At p s m meth c b len xs) : W p l e room_1 s m #[Value.ref b] below meth c s.heap [] 0 0 (lw_Z below #[Value.ref b] s) (entryFrame m ([Value.ref b] : List Value).toArray 25) := by
  obtain ⟨hx, hb, hr, hml, hown, hts, hX, hbl, hlocks, hgv⟩ := C0
  have hown : s.vm.findClass RL = some m.cls := hown
  obtain ⟨G, hK⟩ := kG_of hts
  have hZ : kZ s := kZ_of hts
  obtain ⟨A, hAe⟩ : ∃ A : Nat → Prop, A = fun q : Nat => s.heap.size ≤ q := ⟨_, rfl⟩
  have hA : ∀ q : Nat, s.heap.size ≤ q → A q := fun q h => by rw [hAe]; exact h
  have hA2 : ∀ q : Nat, A q → s.heap.size ≤ q := fun q h => by rw [hAe] at h; exact h
  have hbA : ¬ A b := fun h => Nat.not_le.mpr hbl (hA2 b h)
  have hS : va_S A s.heap s.heap [] := va_S.rf
  have C1 : lCtx p l s m meth c A G b len xs := ⟨hx, hb, hr, hml, hown, hts, hX, hlocks, hK, hZ, hA, hA2, hbA, hlen⟩
  have hP : va_P G.1 vwCl ([] ++ va_pl [] (fun _ => .inr (0, []))) s.heap := fun k q h => by cases h
  have hD : va_D A ([] ++ va_pl [] (fun _ => .inr (0, []))) := ⟨fun i j p q h _ _ => (by cases h), fun k q h => (by cases h)⟩
  have hl := lv_entry ([.ref b]) (n := 25) (Nat.le_of_ble_eq_true rfl)
  rw [lg_entry_eq]
  generalize (lg_sl ([.ref b]) ++ List.replicate (25 - (lg_sl ([.ref b])).length) Slot.unset).toArray = ls at hl ⊢
  have hl : lv_has ls 25 [(0, .ref b)] := hl
  refine va_new (ci := 4) (fs := [.null, .null, .null, .null, .null]) (C := RX4) (T := TX4) (N := 5) hx hb hts (fun w h => (tX40 w h).1) tyX4 tyX4_ok hown (lTb hts 34 (w := Cond.classLink RL 30 RX4) (by decide +kernel)) (lTb hts 35 (w := Cond.instantiable RX4 5) (by decide +kernel)) (lTb hts 20 (w := Cond.initialized RX4) (by decide +kernel)) hK hP hD hS hA rfl (fun j hj => by rcases (show j = 0 ∨ j = 1 ∨ j = 2 ∨ j = 3 ∨ j = 4 by omega) with rfl | rfl | rfl | rfl | rfl <;> rfl) (Nat.le_of_ble_eq_true rfl) (Nat.le_of_ble_eq_true rfl) dL_law_0 (fun hM H hP hD hS => ?_)
  have hP := va_P.swap hP
  have hD := va_D.swap hD
  have hP : va_P G.1 vwCl ([(hM, .inr (4, [.null, .null, .null, .null, .null]))] ++ va_pl ([]) (fun _ => .inr (0, []))) H := hP
  have hD : va_D A ([(hM, .inr (4, [.null, .null, .null, .null, .null]))] ++ va_pl ([]) (fun _ => .inr (0, []))) := hD
  refine W.widen (k := 1) (n := 5) (Nat.le_refl _) (Nat.le_refl _) ?_
  refine lv_dup hx hb dL_law_3 rfl ?_
  have hPc : va_P G.1 vwCl ([(hM, .inr (4, [.null, .null, .null, .null, .null]))] ++ va_pl ([]) (fun _ => .inr (0, []))) _ := hP.part (cx := [(hM, .inr (4, [.null, .null, .null, .null, .null]))]) [0] rfl
  have hDc : va_D A ([(hM, .inr (4, [.null, .null, .null, .null, .null]))] ++ va_pl ([]) (fun _ => .inr (0, []))) := hD.part (cx := [(hM, .inr (4, [.null, .null, .null, .null, .null]))]) [0] (by decide) rfl
  have hFc : ∀ zq9 : Nat, va_A ([(hM, .inr (4, [.null, .null, .null, .null, .null]))] ++ va_pl ([]) (fun _ => .inr (0, []))) _ zq9 → A zq9 := va_freeP (cx := [(hM, .inr (4, [.null, .null, .null, .null, .null]))]) hD hS hA [0] rfl
  refine va_callv (va_runI (As := []) (rest := [.ref hM]) ⟨hx, hb, hml, hown, hts⟩ (c_X4_init l G _ hM ([]) (fun _ => .inr (0, [])) ) (cwI 0 hts t_X4_init rfl rfl rfl (lTb hts 20 (w := Cond.initialized RX4) (by decide +kernel)) (lTb hts 36 (w := Cond.methodLink RL 74 yX4_init) (by decide +kernel)) (lTb hts 37 (w := Cond.instanceMethod yX4_init) (by decide +kernel)) rfl (by decide +kernel) ⟨Nat.le_of_ble_eq_true rfl, Nat.le_of_ble_eq_true rfl⟩) (kPreZ_S (ws := ([(hM, .inr (4, [.null, .null, .null, .null, .null]))] ++ va_pl ([]) (fun _ => .inr (0, [])))) hK hPc hDc hZ) rfl rfl hl.1 rfl (lv_room (Nat.le_of_ble_eq_true rfl)) dL_law_4 ⟨Nat.le_of_ble_eq_true rfl, Nat.le_of_ble_eq_true rfl⟩) hS (fun q _ h => hFc q h) hFc (fun u t H1 locs ht hvm hw hB hz1 hk1 hS => ?_)
  obtain ⟨hL, a0, a1, a2, a3, a4, hN, hC, f0, f1, f2, b0, b1, b2, b3, b4, hO, hC2, g0, g1, g2, d0, d1, d2, d3, d4, hT, t0, t1, t2, b9, rr, r2, L9, f9⟩ := u
  obtain ⟨hP1, hD1⟩ := hB
  rw [ht] at hP1
  try dsimp only at hw hP1 hD1
  obtain ⟨hP, hD⟩ := va_joinP (cx := [(hM, .inr (4, [.null, .null, .null, .null, .null]))]) (wr := []) (rx := [(hM, .inr (4, [.ref hL, .ref hN, .ref hO, .ref hT, .ref b9])), (hL, .inr (1, [.ref a0, .ref a1, .ref a2, .ref a3, .ref a4, .int (nI 0), .int (nI 0)])), (a0, .inl (G.2 0, 10, .inl (kI (fun _ => 0)))), (a1, .inl (G.2 0, 20, .inl (kI (fun _ => 0)))), (a2, .inl (G.2 0, 20, .inl (kI (fun _ => 0)))), (a3, .inl (G.2 0, 20, .inl (kI (fun _ => 0)))), (a4, .inl (G.2 1, 20, .inl (kB (fun _ => false)))), (hN, .inr (2, [.ref hL, .ref hC, .ref b0, .ref b1, .ref b2, .ref b3, .ref b4, .int (nI 0)])), (hC, .inr (0, [.ref f0, .ref f1, .ref f2, .int (nI 0)])), (f0, .inl (G.2 0, 40, .inl (kI (fun _ => 0)))), (f1, .inl (G.2 0, 40, .inl (kI (fun _ => 0)))), (f2, .inl (G.2 0, 40, .inl (kI (fun _ => 0)))), (b0, .inl (G.2 0, 10, .inl (kI (fun _ => 0)))), (b1, .inl (G.2 3, 10, .inr (.inr (.inr (.inr (kRw rr)))))), (b2, .inl (G.2 1, 10, .inl (kB (fun _ => false)))), (b3, .inl (G.2 2, 100, .inr (.inr (.inr (.inr (fun _ => none)))))), (b4, .inl (G.2 2, 100, .inr (.inr (.inr (.inr (fun _ => none)))))), (hO, .inr (2, [.ref hL, .ref hC2, .ref d0, .ref d1, .ref d2, .ref d3, .ref d4, .int (nI 0)])), (hC2, .inr (0, [.ref g0, .ref g1, .ref g2, .int (nI 0)])), (g0, .inl (G.2 0, 40, .inl (kI (fun _ => 0)))), (g1, .inl (G.2 0, 40, .inl (kI (fun _ => 0)))), (g2, .inl (G.2 0, 40, .inl (kI (fun _ => 0)))), (d0, .inl (G.2 0, 10, .inl (kI (fun _ => 0)))), (d1, .inl (G.2 3, 10, .inr (.inr (.inr (.inr (kRw r2)))))), (d2, .inl (G.2 1, 10, .inl (kB (fun _ => false)))), (d3, .inl (G.2 2, 100, .inr (.inr (.inr (.inr (fun _ => none)))))), (d4, .inl (G.2 2, 100, .inr (.inr (.inr (.inr (fun _ => none)))))), (hT, .inr (0, [.ref t0, .ref t1, .ref t2, .int (nI 0)])), (t0, .inl (G.2 0, 40, .inl (kI (fun _ => 0)))), (t1, .inl (G.2 0, 40, .inl (kI (fun _ => 0)))), (t2, .inl (G.2 0, 40, .inl (kI (fun _ => 0)))), (b9, .inl (G.2 0, 10, .inl (kI (fun _ => 0))))]) hP hD [0] [] rfl rfl (by decide) (by decide) hk1 hFc hP1 hD1
  clear hPc hDc hFc hP1 hD1 hk1 hz1 ht
  skip
  generalize H1 = H at hP hS ⊢
  have hP : va_P G.1 vwCl ([(hM, .inr (4, [.ref hL, .ref hN, .ref hO, .ref hT, .ref b9])), (hL, .inr (1, [.ref a0, .ref a1, .ref a2, .ref a3, .ref a4, .int (nI 0), .int (nI 0)])), (a0, .inl (G.2 0, 10, .inl (kI (fun _ => 0)))), (a1, .inl (G.2 0, 20, .inl (kI (fun _ => 0)))), (a2, .inl (G.2 0, 20, .inl (kI (fun _ => 0)))), (a3, .inl (G.2 0, 20, .inl (kI (fun _ => 0)))), (a4, .inl (G.2 1, 20, .inl (kB (fun _ => false)))), (hN, .inr (2, [.ref hL, .ref hC, .ref b0, .ref b1, .ref b2, .ref b3, .ref b4, .int (nI 0)])), (hC, .inr (0, [.ref f0, .ref f1, .ref f2, .int (nI 0)])), (f0, .inl (G.2 0, 40, .inl (kI (fun _ => 0)))), (f1, .inl (G.2 0, 40, .inl (kI (fun _ => 0)))), (f2, .inl (G.2 0, 40, .inl (kI (fun _ => 0)))), (b0, .inl (G.2 0, 10, .inl (kI (fun _ => 0)))), (b1, .inl (G.2 3, 10, .inr (.inr (.inr (.inr (kRw rr)))))), (b2, .inl (G.2 1, 10, .inl (kB (fun _ => false)))), (b3, .inl (G.2 2, 100, .inr (.inr (.inr (.inr (fun _ => none)))))), (b4, .inl (G.2 2, 100, .inr (.inr (.inr (.inr (fun _ => none)))))), (hO, .inr (2, [.ref hL, .ref hC2, .ref d0, .ref d1, .ref d2, .ref d3, .ref d4, .int (nI 0)])), (hC2, .inr (0, [.ref g0, .ref g1, .ref g2, .int (nI 0)])), (g0, .inl (G.2 0, 40, .inl (kI (fun _ => 0)))), (g1, .inl (G.2 0, 40, .inl (kI (fun _ => 0)))), (g2, .inl (G.2 0, 40, .inl (kI (fun _ => 0)))), (d0, .inl (G.2 0, 10, .inl (kI (fun _ => 0)))), (d1, .inl (G.2 3, 10, .inr (.inr (.inr (.inr (kRw r2)))))), (d2, .inl (G.2 1, 10, .inl (kB (fun _ => false)))), (d3, .inl (G.2 2, 100, .inr (.inr (.inr (.inr (fun _ => none)))))), (d4, .inl (G.2 2, 100, .inr (.inr (.inr (.inr (fun _ => none)))))), (hT, .inr (0, [.ref t0, .ref t1, .ref t2, .int (nI 0)])), (t0, .inl (G.2 0, 40, .inl (kI (fun _ => 0)))), (t1, .inl (G.2 0, 40, .inl (kI (fun _ => 0)))), (t2, .inl (G.2 0, 40, .inl (kI (fun _ => 0)))), (b9, .inl (G.2 0, 10, .inl (kI (fun _ => 0))))] ++ va_pl L9 f9) H := hP
  have hD : va_D A ([(hM, .inr (4, [.ref hL, .ref hN, .ref hO, .ref hT, .ref b9])), (hL, .inr (1, [.ref a0, .ref a1, .ref a2, .ref a3, .ref a4, .int (nI 0), .int (nI 0)])), (a0, .inl (G.2 0, 10, .inl (kI (fun _ => 0)))), (a1, .inl (G.2 0, 20, .inl (kI (fun _ => 0)))), (a2, .inl (G.2 0, 20, .inl (kI (fun _ => 0)))), (a3, .inl (G.2 0, 20, .inl (kI (fun _ => 0)))), (a4, .inl (G.2 1, 20, .inl (kB (fun _ => false)))), (hN, .inr (2, [.ref hL, .ref hC, .ref b0, .ref b1, .ref b2, .ref b3, .ref b4, .int (nI 0)])), (hC, .inr (0, [.ref f0, .ref f1, .ref f2, .int (nI 0)])), (f0, .inl (G.2 0, 40, .inl (kI (fun _ => 0)))), (f1, .inl (G.2 0, 40, .inl (kI (fun _ => 0)))), (f2, .inl (G.2 0, 40, .inl (kI (fun _ => 0)))), (b0, .inl (G.2 0, 10, .inl (kI (fun _ => 0)))), (b1, .inl (G.2 3, 10, .inr (.inr (.inr (.inr (kRw rr)))))), (b2, .inl (G.2 1, 10, .inl (kB (fun _ => false)))), (b3, .inl (G.2 2, 100, .inr (.inr (.inr (.inr (fun _ => none)))))), (b4, .inl (G.2 2, 100, .inr (.inr (.inr (.inr (fun _ => none)))))), (hO, .inr (2, [.ref hL, .ref hC2, .ref d0, .ref d1, .ref d2, .ref d3, .ref d4, .int (nI 0)])), (hC2, .inr (0, [.ref g0, .ref g1, .ref g2, .int (nI 0)])), (g0, .inl (G.2 0, 40, .inl (kI (fun _ => 0)))), (g1, .inl (G.2 0, 40, .inl (kI (fun _ => 0)))), (g2, .inl (G.2 0, 40, .inl (kI (fun _ => 0)))), (d0, .inl (G.2 0, 10, .inl (kI (fun _ => 0)))), (d1, .inl (G.2 3, 10, .inr (.inr (.inr (.inr (kRw r2)))))), (d2, .inl (G.2 1, 10, .inl (kB (fun _ => false)))), (d3, .inl (G.2 2, 100, .inr (.inr (.inr (.inr (fun _ => none)))))), (d4, .inl (G.2 2, 100, .inr (.inr (.inr (.inr (fun _ => none)))))), (hT, .inr (0, [.ref t0, .ref t1, .ref t2, .int (nI 0)])), (t0, .inl (G.2 0, 40, .inl (kI (fun _ => 0)))), (t1, .inl (G.2 0, 40, .inl (kI (fun _ => 0)))), (t2, .inl (G.2 0, 40, .inl (kI (fun _ => 0)))), (b9, .inl (G.2 0, 10, .inl (kI (fun _ => 0))))] ++ va_pl L9 f9) := hD
  refine W.widen (k := 52) (n := 1160) (Nat.le_of_ble_eq_true rfl) (Nat.le_of_ble_eq_true rfl) ?_
  have hw_2 := hw
  obtain ⟨r1, r2x, r3, r4⟩ := hw_2
  obtain ⟨M0, F0_, hP, hD, hob0⟩ := kObj_new hP hD r1 r2x r3
  refine lv_astore_n (lv' := [(1, .ref hM), (0, .ref b)]) hx hb dL_law_7 rfl hl (by decide) rfl (fun ls hl => ?_)
  refine lv_aload_n hx hb dL_law_8 rfl (lv_at hl 0 rfl) ?_
  refine lv_aload_n hx hb dL_law_9 rfl (lv_at hl 1 rfl) ?_
  have hPc : va_P G.1 vwCl ([] ++ va_pl M0 F0_) _ := hP.part (cx := []) [] rfl
  have hDc : va_D A ([] ++ va_pl M0 F0_) := hD.part (cx := []) [] (by decide) rfl
  have hFc : ∀ zq9 : Nat, va_A ([] ++ va_pl M0 F0_) _ zq9 → A zq9 := va_freeP (cx := []) hD hS hA [] rfl
  refine va_callr (va_runS (As := [.ref hM, .ref b]) (rest := []) ⟨hx, hb, hml, hown, hts⟩ (c_L_buildX l G _ hM b len xs M0 M0 F0_ (fun _ => 0) (fun _ => 0) (fun _ => 0) (fun _ => false) (fun _ => none) (fun _ => 0) (fun _ => 0) hob0 (fun _ h => h) vInv_new (fun _ _ => rfl) hlen) (va_cwS 2 hts t_L_build rfl rfl rfl (by decide +kernel) ⟨Nat.le_of_ble_eq_true rfl, Nat.le_of_ble_eq_true rfl⟩) (kPreX_S (ws := ([] ++ va_pl M0 F0_)) hK hPc hDc hZ (va_Xm (Vm.Alike.refl _) (hS.2.1 b (va_Xlt hX) hbA) hX) (fun z => hbA (hFc b z))) rfl rfl hl.1 rfl (lv_room (Nat.le_of_ble_eq_true rfl)) dL_law_10 ⟨Nat.le_of_ble_eq_true rfl, Nat.le_of_ble_eq_true rfl⟩) hS (fun q _ h => hFc q h) hFc (fun u zs t H1 locs ht hvm hw hB hz1 hk1 hS => ?_)
  obtain ⟨za1, zw1, zq1, zp1, nn1, np1, mi1, M1, L1, f1, ro1, rr1, rp1, fs1, sn1, ln1, op1, SS1, ar1, ww1⟩ := u
  obtain ⟨hP1, hD1⟩ := hB
  rw [ht] at hP1
  try dsimp only at hw hP1 hD1
  obtain ⟨hP, hD⟩ := va_joinP (cx := []) (wr := []) (rx := [(zs, .inr (5, [.int (nI mi1), .ref za1, .ref zw1, .ref zq1, .ref zp1])), (za1, .inl (G.2 0, nn1, .inl (kI ar1))), (zq1, .inl (G.2 4, nn1, .inr (.inr (.inr (.inr (kRn nn1 ro1)))))), (zp1, .inl (G.2 3, np1, .inr (.inr (.inr (.inr (kRn np1 rp1)))))), (zw1, .inl (G.2 0, nn1, .inl (kI ww1)))]) hP hD [] [] rfl rfl (by decide) (by decide) hk1 hFc hP1 hD1
  clear hPc hDc hFc hP1 hD1 hk1 hz1 ht
  skip
  generalize H1 = H at hP hS ⊢
  have hP : va_P G.1 vwCl ([(zs, .inr (5, [.int (nI mi1), .ref za1, .ref zw1, .ref zq1, .ref zp1])), (za1, .inl (G.2 0, nn1, .inl (kI ar1))), (zq1, .inl (G.2 4, nn1, .inr (.inr (.inr (.inr (kRn nn1 ro1)))))), (zp1, .inl (G.2 3, np1, .inr (.inr (.inr (.inr (kRn np1 rp1)))))), (zw1, .inl (G.2 0, nn1, .inl (kI ww1)))] ++ va_pl L1 f1) H := hP
  have hD : va_D A ([(zs, .inr (5, [.int (nI mi1), .ref za1, .ref zw1, .ref zq1, .ref zp1])), (za1, .inl (G.2 0, nn1, .inl (kI ar1))), (zq1, .inl (G.2 4, nn1, .inr (.inr (.inr (.inr (kRn nn1 ro1)))))), (zp1, .inl (G.2 3, np1, .inr (.inr (.inr (.inr (kRn np1 rp1)))))), (zw1, .inl (G.2 0, nn1, .inl (kI ww1)))] ++ va_pl L1 f1) := hD
  refine W.widen (k := 66052) (n := 739260) (Nat.le_of_ble_eq_true rfl) (Nat.le_of_ble_eq_true rfl) ?_
  have hw_3 := hw
  obtain ⟨a1, a2, a3, a4, a5, a6, a7, a8⟩ := hw_3
  refine lv_astore_n (lv' := [(2, .ref zs), (1, .ref hM), (0, .ref b)]) hx hb dL_law_13 rfl hl (by decide) rfl (fun ls hl => ?_)
  refine lv_aload_n hx hb dL_law_14 rfl (lv_at hl 0 rfl) ?_
  refine lv_ifnonnull (tgt := 20) hx hb dL_law_15 (by decide) ?_
  refine lv_iconst (v := (nI 0)) hx hb dL_law_20 (by decide) ?_
  refine lv_istore_n (lv' := [(3, .int (nI 0)), (2, .ref zs), (1, .ref hM), (0, .ref b)]) hx hb dL_law_21 rfl hl (by decide) rfl (fun ls hl => ?_)
  have K22 := l_time (hM := hM) (zs := zs) (l := l) (e := e) (below := below) C1 8 0 za1 zw1 zq1 zp1 nn1 np1 mi1 ro1 rr1 rp1 fs1 sn1 ln1 op1 SS1 ar1 ww1 (by omega) (by omega) a4 a5 a6 a8
  refine W.widen (k := 70000 + 13000 * 0) (n := 760000 + 142000 * 0) (by omega) (by omega) ?_
  exact K22 M1 L1 f1 a1 a2 a3 _ _ hP hD hS _ (lv_sub hl [3, 2, 1, 0] rfl)
-- ===== YOUR PART ENDS =====
set_option maxHeartbeats 4000000 in
theorem lw_walk (l : Launch) (hflags : l.flags = flags0) (b : Addr) (xs : List Int32) : MetFree l x (headSpec (Jvm.Cond.code x code maxLocals ret :: tables_1) room_1) (lw_P b xs) (fun _ _ _ _ _ => True) lw_Q := by
  refine MetFree.of_bodyS (code := code) (maxLocals := maxLocals) (ret := ret) (by decide) ?_ ?_
  · intro args s m h hn
    obtain ⟨meth, c, h1, h2, h3, h4, h5, h6, -, -⟩ := Cond.code_spec hn (atoms_spec (ws := Jvm.Cond.code x code maxLocals ret :: tables_1) h _ List.mem_cons_self)
    exact ⟨meth, c, h1, h2, h3, h4, h5, h6⟩
  · intro p e s m args below meth c s₁ B hml0 hP _
    obtain ⟨rfl, hx, hbd, hgv⟩ := hP
    obtain ⟨scr, harrAt, hlist, hof, hsmall⟩ := hx
    obtain ⟨hcb, hkn, -, -⟩ := State.arrayAt?_spec harrAt
    have hown : s.vm.findClass R_law = some m.cls := findClass_of_methodNamed B.named
    have hts0 : ∀ c ∈ (Jvm.Cond.code x code maxLocals ret :: tables_1), c.before #[Value.ref b] s = true := atoms_spec (ws := Jvm.Cond.code x code maxLocals ret :: tables_1) B.pre
    have hts : ∀ w ∈ lw_tbl, w.before #[Value.ref b] s = true := k2_hts_sels lw_privs (fun w hw => hts0 w (List.mem_cons_of_mem _ hw)) lw_privs_ok
    have hml : c.maxLocals = 25 := B.maxLocals_eq (hts0 _ List.mem_cons_self)
    have X₀ : Stand p l e room_1 s m #[Value.ref b] below meth c s₁ [] 0 0 := Stand.of_body B
    have hh0 : s₁.heap = s.heap := by rw [B.state]; rfl
    have hsz : scr.slots.size = xs.length := by rw [← Array.length_toList, hlist, List.length_map]
    have hval : ∀ j : Nat, j < xs.length → scr.slots[j]? = some (.int (xs.getD j 0)) := fun j hj => by
      rw [← Array.getElem?_toList, hlist]
      simp [hj]
    have hbl : b < s.heap.size := (Array.getElem?_eq_some_iff.mp hcb).1
    have hX : va_X b xs.length (fun j => xs.getD j 0) s s.heap := ⟨scr, hcb, hof, hkn, hsz, hval⟩
    have K : W p l e room_1 s m #[Value.ref b] below meth c s₁.heap [] 0 0 (lw_Z below #[Value.ref b] s) (entryFrame m ([Value.ref b] : List Value).toArray 25) := by
      rw [hh0]
      exact whole_start l hflags hbd ⟨B.exec, B.bytes, B.returns, hml, hown, hts, hX, hbl, B.notSynchronized, hgv⟩
    obtain ⟨t, a1, o, b1, b2, b3⟩ := K s₁ rfl X₀
    exact ⟨t, o, a1, b1, b2, b3⟩
theorem lw_pre_spec {args : Array Value} {s : State} (h : (Jvm.Cond.and given_1 narrow_1).before args s = true) (hr : rest_1_c.before args s = true) : ∃ (b : Addr) (xs : List Int32), lw_P b xs args s := by
  have hs := flat_of_before _ h
  have hq := flat_of_before _ hr
  have hc : (Cond.count 1).before args s = true := hs _ (by decide +kernel)
  have harr : (Cond.arrayOf (.arg 0) .int).before args s = true := hs _ (by decide +kernel)
  have hle : (Cond.le (.length (.arg 0)) (.int 260)).before args s = true := hs _ (by decide +kernel)
  have hlen : (Cond.isInt (.length (.arg 0))).before args s = true := hq _ (by decide +kernel)
  have hall : (Cond.all (.arg 0) (.isInt (.elem (.arg 0) (.index 0)))).before args s = true := hq _ (by decide +kernel)
  obtain ⟨b, xs, hb, hx⟩ := State.ints_of_pre rfl harr hlen hall
  have hsm : xs.length < 2 ^ 31 := hx.choose_spec.2.2.2
  have hev : (Term.length (.arg 0)).eval args s none [] s = some (.int xs.length.toInt32) := hx.length_eval hb
  have hv := Cond.le_ints hev (show (Term.int 260).eval args s none [] s = some (.int 260) from rfl)
  have hd : xs.length.toInt32 ≤ 260 := by
    simpa [Cond.before, Cond.holds, hv] using hle
  have hN : xs.length ≤ 260 := (Int32.ofNat_le_ofNat hsm (by decide)).mp (show Int32.ofNat xs.length ≤ Int32.ofNat 260 from hd)
  exact ⟨b, xs, Cond.one_arg hc (show args[0]? = some (.ref b) from hb), hx, hN, h⟩
theorem lw_comes (l : Launch) (hflags : l.flags = flags0) : Comes l x (Jvm.Cond.code x code maxLocals ret :: tables_1) room_1 (fun tb e args s => Calls_1 tb e args s ∧ rest_1 tb e args s ∧ Pre_1 tb e args s)
    (fun _ _ args s o t => lw_Q args s o t) := by
  intro p e ha hc hk s m args below hf hfit hheap happ hpre
  obtain ⟨b, xs, hP⟩ := lw_pre_spec hpre.2.2 hpre.2.1
  obtain ⟨k, o, h1, h2, h3, hQ⟩ := lw_walk l hflags b xs p e ha hc hk s m args below hf ((Spec.applies_iff_loose hf).mp happ).1 hP trivial
  exact ⟨k, o, h1, h2, h3, hQ⟩
theorem lw_frame {s t : State} {o : Outcome} {args : Array Value} (h : State.butDraws s t lw_cs (fun t1 => Framed s o t1 [] 600130 7301080)) :
    State.butDraws s t [Jvm.Choice.named "NaN.bits"] (fun t1 => Framed s o t1 (fieldLocs frame_1_writes args s ++ arrayLocs frame_1_arrays args s ++ staticLocs frame_1_statics s) 600130 7301080) := h
theorem lw_limb (L : Cond) (hL : ∀ (args : Array Value) (s t : State), L.after args s (.returned (some (.int 1))) t = true) :
    ArmFor flags0 classFile x code maxLocals ret World_1 tables_1 room_1 Calls_1 rest_1 Pre_1
      (fun tb e a s o t => postC L tb e a s o t ∧ State.butDraws s t [Jvm.Choice.named "NaN.bits"] (fun t1 => Framed s o t1 (fieldLocs frame_1_writes a s ++ arrayLocs frame_1_arrays a s ++ staticLocs frame_1_statics s) 600130 7301080)) := by
  intro l hflags _ _ p e ha hc hk s m args below hf hfit hheap happ hpre
  obtain ⟨k, o, h1, h2, h3, rfl, hF⟩ := lw_comes l hflags p e ha hc hk s m args below hf hfit hheap happ hpre
  exact ⟨k, _, h1, h2, h3, hL args s _, lw_frame hF⟩
theorem i_vc : Claimed_1_1 ∧ Claimed_1_2 := ⟨lw_limb limb_1_1 (fun args s t => by simp [limb_1_1, Cond.after, Cond.holds, Cond.value]), lw_limb limb_1_2 (fun args s t => Cond.after_iff.mpr (by
  first | (rw [show limb_1_2 = Cond.eq .result (.int 1) from rfl, Cond.eq_ints (x := 1) (y := 1) rfl rfl]; simp; done) | (simp [limb_1_2, Cond.value, Term.eval]; done)))⟩
