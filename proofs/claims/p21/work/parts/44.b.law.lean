theorem kL_below_0 : Cond.constant RL 7 (2147483647) ∈ wsL_below := by decide +kernel
set_option maxHeartbeats 4000000 in
set_option maxRecDepth 100000 in
theorem c_L_below (l : Launch) (G : kG) (v : Int32) (n : Nat) (hn0 : 0 < n) (hn1 : n < 2 ^ 31) : Met l yL_below wsL_below ({ frames := 0, cells := 0, slots := 0, locals := 0 }) (kPre G [] [.int v, .int (nI n)]) (vp_Si (fun r : Int32 => r = (nI (mBel v n)))) 0 0 (fun _ => False) := by
  refine Met.ofW (cc := cL_below) (maxL := 2) (ret := (some .int)) (by decide) rfl ?_
  intro p e s m args below meth c s₁ B hml hv
  obtain ⟨rfl, hP, hK⟩ := hv
  have hx := B.exec
  have hb := B.bytes
  have hr := B.returns
  have hts := atoms_spec (ws := wsL_below) B.pre
  have hown : s.vm.findClass RL = some m.cls := findClass_of_methodNamed B.named
  have hlocks := B.notSynchronized
  have hK : va_K G.1 vwCl (kT G) s := hK
  have hP : va_P G.1 vwCl [] s.heap := hP
  have hl := lv_entry ([.int v, .int (nI n)]) (n := 2) (Nat.le_of_ble_eq_true rfl)
  rw [lg_entry_eq]
  generalize (lg_sl ([.int v, .int (nI n)]) ++ List.replicate (2 - (lg_sl ([.int v, .int (nI n)])).length) Slot.unset).toArray = ls at hl ⊢
  have hl : lv_has ls 2 [(0, .int v), (1, .int (nI n))] := hl
  refine lv_iload_n hx hb dL_below_0 rfl (lv_at hl 0 rfl) ?_
  refine lv_ldc (v := (2147483647)) hx hb hown (hts _ kL_below_0) dL_below_1 ?_
  refine kr_top (show ((2147483647) : Int32) = nI 2147483647 from by decide) ?_
  refine lv_iand hx hb dL_below_3 ?_
  refine kr_top (y := (nI (mMsk v))) (mMsk_eq v) ?_
  refine lv_iload_n hx hb dL_below_4 rfl (lv_at hl 1 rfl) ?_
  refine lv_irem hx hb dL_below_5 (nI_ne0 (by omega) (by omega)) ?_
  refine kr_top (y := nI ((mMsk v) % n)) (pk_rem (by have := mMsk_lt v; omega) (by omega) (by omega)) ?_
  exact kr_iret hx hb hr hlocks (rfl) dL_below_6

theorem kL_cell_0 : Cond.constant RL 8 (790386105) ∈ wsL_cell := by decide +kernel
set_option maxHeartbeats 4000000 in
set_option maxRecDepth 100000 in
theorem c_L_cell (l : Launch) (G : kG) (b len : Nat) (xs : Nat → Int32) (k : Nat) (hlen : len ≤ 260) (hk2 : k ≤ 1000) : Met l yL_cell wsL_cell ({ frames := 0, cells := 0, slots := 0, locals := 0 }) (kPre G [(b, .inl (G.2 0, len, .inl xs))] [.ref b, .int (nI k)]) (vp_Si (fun r : Int32 => r = (mCell xs len k))) 0 0 (fun _ => False) := by
  refine Met.ofW (cc := cL_cell) (maxL := 2) (ret := (some .int)) (by decide) rfl ?_
  intro p e s m args below meth c s₁ B hml hv
  obtain ⟨rfl, hP, hK⟩ := hv
  have hx := B.exec
  have hb := B.bytes
  have hr := B.returns
  have hts := atoms_spec (ws := wsL_cell) B.pre
  have hown : s.vm.findClass RL = some m.cls := findClass_of_methodNamed B.named
  have hlocks := B.notSynchronized
  have hK : va_K G.1 vwCl (kT G) s := hK
  have hP : va_P G.1 vwCl [(b, .inl (G.2 0, len, .inl xs))] s.heap := hP
  have hl := lv_entry ([.ref b, .int (nI k)]) (n := 2) (Nat.le_of_ble_eq_true rfl)
  rw [lg_entry_eq]
  generalize (lg_sl ([.ref b, .int (nI k)]) ++ List.replicate (2 - (lg_sl ([.ref b, .int (nI k)])).length) Slot.unset).toArray = ls at hl ⊢
  have hl : lv_has ls 2 [(0, .ref b), (1, .int (nI k))] := hl
  refine lv_iload_n hx hb dL_cell_0 rfl (lv_at hl 1 rfl) ?_
  refine lv_aload_n hx hb dL_cell_1 rfl (lv_at hl 0 rfl) ?_
  refine va_alen (v := nI len) hx hb hK hP 0 0 rfl rfl rfl dL_cell_2 ?_
  refine kb_ge (tgt := 12) hx hb dL_cell_3 (by decide) (by omega) (by omega) (fun c_1 => ?_) (fun c_1 => ?_)
  · refine lv_ldc (v := (790386105)) hx hb hown (hts _ kL_cell_0) dL_cell_12 ?_
    refine kr_top (show ((790386105) : Int32) = nI 790386105 from by decide) ?_
    refine lv_iload_n hx hb dL_cell_14 rfl (lv_at hl 1 rfl) ?_
    refine lv_iconst (v := (nI 3)) hx hb dL_cell_15 (by decide) ?_
    refine lv_iadd hx hb dL_cell_16 ?_
    refine kr_top (y := nI (k + 3)) (nI_add k 3) ?_
    refine lv_imul hx hb dL_cell_17 ?_
    refine kr_top (y := nI (790386105 * (k + 3))) (pk_mul 790386105 (k + 3)) ?_
    exact kr_iret hx hb hr hlocks (by unfold mCell; first | rw [if_pos (by omega)] | (rw [if_neg (by omega)])) dL_cell_18
  · refine lv_aload_n hx hb dL_cell_6 rfl (lv_at hl 0 rfl) ?_
    refine lv_iload_n hx hb dL_cell_7 rfl (lv_at hl 1 rfl) ?_
    refine kr_iald (k := k) (v := (xs k)) hx hb hK hP 0 0 rfl rfl (by omega) (by omega) rfl dL_cell_8 ?_
    refine lv_goto (tgt := 18) hx hb dL_cell_9 (by decide) ?_
    exact kr_iret hx hb hr hlocks (by unfold mCell; first | rw [if_pos (by omega)] | (rw [if_neg (by omega)])) dL_cell_18
