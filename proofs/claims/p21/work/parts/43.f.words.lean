/-! THE TABLES' WORDS OF THE LAW'S CALLEES, piece by piece. -/
theorem tcode {w : Cond} {ws : List Cond} (i : Nat) (h : lw_tbl[i]? = some w) (hg : goodWord w = true) (ht : GoodIn lw_tbl ws) : GoodIn lw_tbl (w :: ws) := fun v hv => (List.mem_cons.mp hv).elim (fun e => by subst e; exact ⟨List.mem_of_getElem? h, good_of_word hg⟩) (ht v)
theorem tX40 : GoodIn lw_tbl wsX40 := goodIn_of _ (by decide +kernel)
theorem tX10 : GoodIn lw_tbl wsX10 := goodIn_of _ (by decide +kernel)
theorem tX20 : GoodIn lw_tbl wsX20 := goodIn_of _ (by decide +kernel)
theorem tX00 : GoodIn lw_tbl wsX00 := goodIn_of _ (by decide +kernel)
theorem tX50 : GoodIn lw_tbl wsX50 := goodIn_of _ (by decide +kernel)
theorem tX30 : GoodIn lw_tbl wsX30 := goodIn_of _ (by decide +kernel)
theorem tVX0 : GoodIn lw_tbl ((vx_atS RX4 43 "java/lang/IllegalArgumentException" ["java/lang/RuntimeException", "java/lang/Exception"]).filter goodWord) := goodIn_of _ (by decide +kernel)
theorem tVX1 : GoodIn lw_tbl ((vx_atS RX4 54 "java/lang/IllegalStateException" ["java/lang/RuntimeException", "java/lang/Exception"]).filter goodWord) := goodIn_of _ (by decide +kernel)
theorem tVX2 : GoodIn lw_tbl ((vx_atS RX4 148 "java/lang/IndexOutOfBoundsException" ["java/lang/RuntimeException", "java/lang/Exception"]).filter goodWord) := goodIn_of _ (by decide +kernel)
theorem tL_law0_r1 : GoodIn lw_tbl wsL_law0_r1 := goodIn_p _ [38, 41] (by decide +kernel) (by decide +kernel)
theorem tL_law0_r2 : GoodIn lw_tbl wsL_law0_r2 := goodIn_p _ [46, 76] (by decide +kernel) (by decide +kernel)
theorem tL_law0_r3 : GoodIn lw_tbl wsL_law0_r3 := goodIn_p _ [82, 699, 703] (by decide +kernel) (by decide +kernel)
theorem tL_law0_r4 : GoodIn lw_tbl wsL_law0_r4 := goodIn_p _ [612, 619, 624, 627, 631] (by decide +kernel) (by decide +kernel)
theorem tL_law0_r5 : GoodIn lw_tbl wsL_law0_r5 := goodIn_p _ [155, 652, 616, 656, 660, 151] (by decide +kernel) (by decide +kernel)
theorem tL_law0_r6 : GoodIn lw_tbl wsL_law0_r6 := goodIn_p _ [665, 275, 671, 675, 331] (by decide +kernel) (by decide +kernel)
theorem tL_law0_r7 : GoodIn lw_tbl wsL_law0_r7 := goodIn_p _ [679, 683, 687, 590, 692, 696] (by decide +kernel) (by decide +kernel)
theorem tL_law0_r8 : GoodIn lw_tbl wsL_law0_r8 := goodIn_p _ [365, 235, 497, 533, 537] (by decide +kernel) (by decide +kernel)
theorem tL_law0_r9 : GoodIn lw_tbl wsL_law0_r9 := goodIn_p _ [540, 545, 414, 418, 438, 442] (by decide +kernel) (by decide +kernel)
theorem tL_law0_r10 : GoodIn lw_tbl wsL_law0_r10 := goodIn_p _ [446, 247, 451, 456] (by decide +kernel) (by decide +kernel)
theorem tL_law0_r11 : GoodIn lw_tbl wsL_law0_r11 := goodIn_p _ [460, 475, 343, 279, 283, 480] (by decide +kernel) (by decide +kernel)
theorem tL_law0_r12 : GoodIn lw_tbl wsL_law0_r12 := goodIn_p _ [484, 488, 239, 493, 518] (by decide +kernel) (by decide +kernel)
theorem tL_law0_r13 : GoodIn lw_tbl wsL_law0_r13 := goodIn_p _ [382, 243, 386, 390, 395, 306] (by decide +kernel) (by decide +kernel)
theorem tL_law0_r14 : GoodIn lw_tbl wsL_law0_r14 := goodIn_p _ [263, 267, 271, 255, 288, 292] (by decide +kernel) (by decide +kernel)
theorem tL_law0_r15 : GoodIn lw_tbl wsL_law0_r15 := goodIn_p _ [296, 312, 399, 403, 406] (by decide +kernel) (by decide +kernel)
theorem tL_law0_r16 : GoodIn lw_tbl wsL_law0_r16 := goodIn_p _ [357, 361, 369, 373, 377] (by decide +kernel) (by decide +kernel)
theorem tL_law0_r17 : GoodIn lw_tbl wsL_law0_r17 := goodIn_p _ [327, 339, 347, 352, 527, 147] (by decide +kernel) (by decide +kernel)
theorem tL_law0_r18 : GoodIn lw_tbl wsL_law0_r18 := goodIn_p _ [227, 232, 251, 259] (by decide +kernel) (by decide +kernel)
theorem tL_law0_r19 : GoodIn lw_tbl wsL_law0_r19 := goodIn_p _ [302, 316, 320, 510] (by decide +kernel) (by decide +kernel)
theorem tL_law0_r20 : GoodIn lw_tbl wsL_law0_r20 := goodIn_p _ [506, 501, 514, 558, 563, 575] (by decide +kernel) (by decide +kernel)
theorem tL_law0_r21 : GoodIn lw_tbl wsL_law0_r21 := goodIn_p _ [568, 572, 580, 584] (by decide +kernel) (by decide +kernel)
theorem tL_law0_r22 : GoodIn lw_tbl wsL_law0_r22 := goodIn_p _ [596, 600, 605, 609] (by decide +kernel) (by decide +kernel)
theorem tL_law0 : GoodIn lw_tbl wsL_law0 := (goodIn_app (goodIn_app (goodIn_app (goodIn_app (goodIn_app (goodIn_app (goodIn_app (goodIn_app tL_law0_r1 (goodIn_app tL_law0_r2 (goodIn_app tL_law0_r3 (goodIn_app tL_law0_r4 (goodIn_app tL_law0_r5 (goodIn_app tL_law0_r6 (goodIn_app tL_law0_r7 (goodIn_app tL_law0_r8 (goodIn_app tL_law0_r9 (goodIn_app tL_law0_r10 (goodIn_app tL_law0_r11 (goodIn_app tL_law0_r12 (goodIn_app tL_law0_r13 (goodIn_app tL_law0_r14 (goodIn_app tL_law0_r15 (goodIn_app tL_law0_r16 (goodIn_app tL_law0_r17 (goodIn_app tL_law0_r18 (goodIn_app tL_law0_r19 (goodIn_app tL_law0_r20 (goodIn_app tL_law0_r21 tL_law0_r22))))))))))))))))))))) tX40) tX10) tX20) tX00) tX50) tX30) (fun _ h => absurd h List.not_mem_nil))
theorem tL_act_r1 : GoodIn lw_tbl wsL_act_r1 := goodIn_p _ [619, 624, 627] (by decide +kernel) (by decide +kernel)
theorem tL_act_r2 : GoodIn lw_tbl wsL_act_r2 := goodIn_p _ [631, 155, 652, 656] (by decide +kernel) (by decide +kernel)
theorem tL_act_r3 : GoodIn lw_tbl wsL_act_r3 := goodIn_p _ [660, 151, 665, 275, 671] (by decide +kernel) (by decide +kernel)
theorem tL_act_r4 : GoodIn lw_tbl wsL_act_r4 := goodIn_p _ [675, 331, 679, 683, 687] (by decide +kernel) (by decide +kernel)
theorem tL_act_r5 : GoodIn lw_tbl wsL_act_r5 := goodIn_p _ [590, 692, 696, 365, 235, 497] (by decide +kernel) (by decide +kernel)
theorem tL_act_r6 : GoodIn lw_tbl wsL_act_r6 := goodIn_p _ [533, 537, 540, 545] (by decide +kernel) (by decide +kernel)
theorem tL_act_r7 : GoodIn lw_tbl wsL_act_r7 := goodIn_p _ [414, 418, 438, 442] (by decide +kernel) (by decide +kernel)
theorem tL_act_r8 : GoodIn lw_tbl wsL_act_r8 := goodIn_p _ [446, 247, 451, 456, 460, 41] (by decide +kernel) (by decide +kernel)
theorem tL_act_r9 : GoodIn lw_tbl wsL_act_r9 := goodIn_p _ [475, 343, 279, 283, 480] (by decide +kernel) (by decide +kernel)
theorem tL_act_r10 : GoodIn lw_tbl wsL_act_r10 := goodIn_p _ [484, 488, 239, 493] (by decide +kernel) (by decide +kernel)
theorem tL_act : GoodIn lw_tbl wsL_act := (tcode 616 (by decide +kernel) (by decide +kernel) (goodIn_app (goodIn_app (goodIn_app (goodIn_app (goodIn_app (goodIn_app (goodIn_app (goodIn_app (goodIn_app tL_act_r1 (goodIn_app tL_act_r2 (goodIn_app tL_act_r3 (goodIn_app tL_act_r4 (goodIn_app tL_act_r5 (goodIn_app tL_act_r6 (goodIn_app tL_act_r7 (goodIn_app tL_act_r8 (goodIn_app tL_act_r9 tL_act_r10))))))))) tX50) tX40) tX10) tX20) tX30) tVX0) tVX1) tVX2))
theorem tL_build_r1 : GoodIn lw_tbl wsL_build_r1 := goodIn_p _ [703, 41, 612, 619] (by decide +kernel) (by decide +kernel)
theorem tL_build_r2 : GoodIn lw_tbl wsL_build_r2 := goodIn_p _ [624, 627, 631, 155] (by decide +kernel) (by decide +kernel)
theorem tL_build_r3 : GoodIn lw_tbl wsL_build_r3 := goodIn_p _ [652, 616, 656, 660, 151] (by decide +kernel) (by decide +kernel)
theorem tL_build_r4 : GoodIn lw_tbl wsL_build_r4 := goodIn_p _ [665, 275, 671, 675] (by decide +kernel) (by decide +kernel)
theorem tL_build_r5 : GoodIn lw_tbl wsL_build_r5 := goodIn_p _ [331, 679, 683, 687, 590, 692] (by decide +kernel) (by decide +kernel)
theorem tL_build_r6 : GoodIn lw_tbl wsL_build_r6 := goodIn_p _ [696, 365, 235, 497, 533] (by decide +kernel) (by decide +kernel)
theorem tL_build_r7 : GoodIn lw_tbl wsL_build_r7 := goodIn_p _ [537, 540, 545, 414, 418] (by decide +kernel) (by decide +kernel)
theorem tL_build_r8 : GoodIn lw_tbl wsL_build_r8 := goodIn_p _ [438, 442, 446, 247] (by decide +kernel) (by decide +kernel)
theorem tL_build_r9 : GoodIn lw_tbl wsL_build_r9 := goodIn_p _ [451, 456, 460, 475, 343] (by decide +kernel) (by decide +kernel)
theorem tL_build_r10 : GoodIn lw_tbl wsL_build_r10 := goodIn_p _ [279, 283, 480, 484, 488, 239] (by decide +kernel) (by decide +kernel)
theorem tL_build_r11 : GoodIn lw_tbl wsL_build_r11 := goodIn_p _ [493] (by decide +kernel) (by decide +kernel)
theorem tL_build : GoodIn lw_tbl wsL_build := (tcode 699 (by decide +kernel) (by decide +kernel) (goodIn_app (goodIn_app (goodIn_app (goodIn_app (goodIn_app (goodIn_app (goodIn_app (goodIn_app (goodIn_app tL_build_r1 (goodIn_app tL_build_r2 (goodIn_app tL_build_r3 (goodIn_app tL_build_r4 (goodIn_app tL_build_r5 (goodIn_app tL_build_r6 (goodIn_app tL_build_r7 (goodIn_app tL_build_r8 (goodIn_app tL_build_r9 (goodIn_app tL_build_r10 tL_build_r11)))))))))) tX50) tX40) tX10) tX20) tX30) tVX0) tVX1) tVX2))
theorem tX5_isSame_r1 : GoodIn lw_tbl wsX5_isSame_r1 := goodIn_p _ [540, 147, 151] (by decide +kernel) (by decide +kernel)
theorem tX5_isSame_r2 : GoodIn lw_tbl wsX5_isSame_r2 := goodIn_p _ [155, 227, 232, 235, 239] (by decide +kernel) (by decide +kernel)
theorem tX5_isSame_r3 : GoodIn lw_tbl wsX5_isSame_r3 := goodIn_p _ [243, 247, 251, 255, 563] (by decide +kernel) (by decide +kernel)
theorem tX5_isSame_r4 : GoodIn lw_tbl wsX5_isSame_r4 := goodIn_p _ [575, 568, 572, 259, 263] (by decide +kernel) (by decide +kernel)
theorem tX5_isSame_r5 : GoodIn lw_tbl wsX5_isSame_r5 := goodIn_p _ [267, 271, 275, 279] (by decide +kernel) (by decide +kernel)
theorem tX5_isSame_r6 : GoodIn lw_tbl wsX5_isSame_r6 := goodIn_p _ [283, 288, 292, 296, 580] (by decide +kernel) (by decide +kernel)
theorem tX5_isSame_r7 : GoodIn lw_tbl wsX5_isSame_r7 := goodIn_p _ [584, 302, 306, 312, 316] (by decide +kernel) (by decide +kernel)
theorem tX5_isSame_r8 : GoodIn lw_tbl wsX5_isSame_r8 := goodIn_p _ [320, 590, 357, 361] (by decide +kernel) (by decide +kernel)
theorem tX5_isSame_r9 : GoodIn lw_tbl wsX5_isSame_r9 := goodIn_p _ [365, 369, 373, 377, 327, 331] (by decide +kernel) (by decide +kernel)
theorem tX5_isSame_r10 : GoodIn lw_tbl wsX5_isSame_r10 := goodIn_p _ [339, 343, 347, 352, 596] (by decide +kernel) (by decide +kernel)
theorem tX5_isSame_r11 : GoodIn lw_tbl wsX5_isSame_r11 := goodIn_p _ [600, 382, 386, 390, 395, 399] (by decide +kernel) (by decide +kernel)
theorem tX5_isSame_r12 : GoodIn lw_tbl wsX5_isSame_r12 := goodIn_p _ [403, 406, 605, 609] (by decide +kernel) (by decide +kernel)
theorem tX5_isSame : GoodIn lw_tbl wsX5_isSame := (tcode 558 (by decide +kernel) (by decide +kernel) (goodIn_app (goodIn_app (goodIn_app (goodIn_app (goodIn_app (goodIn_app (goodIn_app (goodIn_app tX5_isSame_r1 (goodIn_app tX5_isSame_r2 (goodIn_app tX5_isSame_r3 (goodIn_app tX5_isSame_r4 (goodIn_app tX5_isSame_r5 (goodIn_app tX5_isSame_r6 (goodIn_app tX5_isSame_r7 (goodIn_app tX5_isSame_r8 (goodIn_app tX5_isSame_r9 (goodIn_app tX5_isSame_r10 (goodIn_app tX5_isSame_r11 tX5_isSame_r12))))))))))) tX50) tX40) tX10) tX20) tX30) tX00) tVX2))
theorem tL_law : GoodIn lw_tbl wsL_law := (goodIn_app (goodIn_app (goodIn_app tL_law0 tVX0) tVX1) tVX2)
theorem t41 : GoodIn lw_tbl [Cond.classLink RX5 41 "[[[I"] := goodIn_of _ (by decide +kernel)
def wsL_actZ : List Cond := .code yL_act cL_act 16 (some .boolean) :: (.classLink RX5 41 "[[[I" :: wsL_act)
def wsL_buildZ : List Cond := .code yL_build cL_build 6 (some (.object "PassNotesLaw$Sim")) :: (wsL_actZ ++ wsL_build)
theorem tL_actZ : GoodIn lw_tbl wsL_actZ := fun w h => (List.mem_cons.mp h).elim (fun e => tL_act w (e ▸ List.mem_cons_self)) (fun h => (List.mem_cons.mp h).elim (fun e => t41 w (e ▸ List.mem_cons_self)) (tL_act w))
theorem tL_buildZ : GoodIn lw_tbl wsL_buildZ := fun w h => (List.mem_cons.mp h).elim (fun e => tL_build w (e ▸ List.mem_cons_self)) (fun h => (List.mem_append.mp h).elim (tL_actZ w) (tL_build w))
theorem goodIn_up {big ws : List Cond} {a b : Cond} (h : GoodIn big ws) : GoodIn (a :: b :: big) ws := fun w hw => ⟨List.mem_cons_of_mem _ (List.mem_cons_of_mem _ (h w hw).1), (h w hw).2⟩
/-- a callee with the word of a class more -/
theorem goodIn_Z {big pre ws : List Cond} {a c : Cond} {x : Cond} (h : GoodIn big (pre ++ (c :: ws))) (hx : goodWord x = true) : GoodIn (a :: x :: big) (pre ++ (c :: x :: (c :: ws))) := fun w hw => by
  rcases List.mem_append.mp hw with q | q
  · exact goodIn_up h w (List.mem_append_left _ q)
  · rcases List.mem_cons.mp q with q | q
    · exact goodIn_up h w (List.mem_append_right _ (q ▸ List.mem_cons_self))
    · rcases List.mem_cons.mp q with q | q
      · exact ⟨q ▸ List.mem_cons_of_mem _ List.mem_cons_self, q ▸ good_of_word hx⟩
      · exact goodIn_up h w (List.mem_append_right _ q)
theorem gL_actZ_X5_hut : GoodIn wsL_actZ (wsV RL 25 RX5 yX5_hut wsX5_hutZ) := goodIn_Z (pre := [.methodLink RL 25 yX5_hut, .instanceMethod yX5_hut, .selects RX5 yX5_hut yX5_hut, .initialized RX5]) gL_act_X5_hut rfl
theorem gL_actZ_X5_go : GoodIn wsL_actZ (wsV RL 58 RX5 yX5_go wsX5_goZ) := goodIn_Z (pre := [.methodLink RL 58 yX5_go, .instanceMethod yX5_go, .selects RX5 yX5_go yX5_go, .initialized RX5]) gL_act_X5_go rfl
theorem gL_actZ_L_below : GoodIn wsL_actZ (va_wsS RL 19 yL_below wsL_below) := goodIn_up gL_act_L_below
theorem gL_actZ_X4_hut : GoodIn wsL_actZ (wsV RL 29 RX4 yX4_hut wsX4_hut) := goodIn_up gL_act_X4_hut
theorem gL_actZ_X5_pass : GoodIn wsL_actZ (wsV RL 34 RX5 yX5_pass wsX5_pass) := goodIn_up gL_act_X5_pass
theorem gL_actZ_X4_pass : GoodIn wsL_actZ (wsV RL 38 RX4 yX4_pass wsX4_pass) := goodIn_up gL_act_X4_pass
theorem gL_actZ_X4_setLength : GoodIn wsL_actZ (wsV RL 41 RX4 yX4_setLength wsX4_setLength) := goodIn_up gL_act_X4_setLength
theorem gL_actZ_X4_setOpen : GoodIn wsL_actZ (wsV RL 44 RX4 yX4_setOpen wsX4_setOpen) := goodIn_up gL_act_X4_setOpen
theorem gL_actZ_X5_sheetsOf : GoodIn wsL_actZ (wsV RL 48 RX5 yX5_sheetsOf wsX5_sheetsOf) := goodIn_up gL_act_X5_sheetsOf
theorem gL_actZ_X4_burn : GoodIn wsL_actZ (wsV RL 55 RX4 yX4_burn wsX4_burn) := goodIn_up gL_act_X4_burn
theorem gL_actZ_X4_go : GoodIn wsL_actZ (wsV RL 62 RX4 yX4_go wsX4_go) := goodIn_up gL_act_X4_go
theorem goodIn_bz {ws : List Cond} (h : GoodIn wsL_build ws) : GoodIn wsL_buildZ ws := fun w hw => ⟨List.mem_cons_of_mem _ (List.mem_append_right _ (h w hw).1), (h w hw).2⟩
theorem goodIn_ba {ws : List Cond} (h : GoodIn wsL_actZ ws) : GoodIn wsL_buildZ ws := fun w hw => ⟨List.mem_cons_of_mem _ (List.mem_append_left _ (h w hw).1), (h w hw).2⟩
theorem gL_buildZ_L_act : GoodIn wsL_buildZ (va_wsS RL 70 yL_act wsL_actZ) := goodIn_app (goodIn_bz (goodIn_of _ (by decide +kernel))) (fun w hw => ⟨List.mem_cons_of_mem _ (List.mem_append_left _ hw), (tL_actZ w hw).2⟩)
theorem gL_buildZ_X5_hut : GoodIn wsL_buildZ (wsV RL 25 RX5 yX5_hut wsX5_hutZ) := goodIn_ba gL_actZ_X5_hut
theorem gL_buildZ_L_cell : GoodIn wsL_buildZ (va_wsS RL 65 yL_cell wsL_cell) := goodIn_bz gL_build_L_cell
theorem gL_buildZ_L_below : GoodIn wsL_buildZ (va_wsS RL 19 yL_below wsL_below) := goodIn_bz gL_build_L_below
theorem gL_buildZ_X4_hut : GoodIn wsL_buildZ (wsV RL 29 RX4 yX4_hut wsX4_hut) := goodIn_bz gL_build_X4_hut
theorem gL_buildZ_X5_init_n64 : GoodIn wsL_buildZ wsX5_init := goodIn_bz gL_build_X5_init_n64
theorem tgood {big ws : List Cond} (h : GoodIn big ws) (ht : GoodIn lw_tbl big) : GoodIn lw_tbl ws := fun w hw => ⟨(ht w (h w hw).1).1, (h w hw).2⟩
theorem t_X4_init : GoodIn lw_tbl (wsX4_init) := tgood gL_law_X4_init tL_law
theorem t_L_cell : GoodIn lw_tbl (va_wsS RL 65 yL_cell wsL_cell) := tgood gL_law_L_cell tL_law
theorem t_X4_go : GoodIn lw_tbl (wsV RL 62 RX4 yX4_go wsX4_go) := tgood gL_law_X4_go tL_law
theorem t_X4_digest : GoodIn lw_tbl (wsV RL 79 RX4 yX4_digest wsX4_digest) := tgood gL_law_X4_digest tL_law
theorem t_X4_count : GoodIn lw_tbl (wsV RL 83 RX4 yX4_count wsX4_count) := tgood gL_law_X4_count tL_law
theorem t_X4_told : GoodIn lw_tbl (wsV RL 86 RX4 yX4_told wsX4_told) := tgood gL_law_X4_told tL_law
theorem t_X4_sheet : GoodIn lw_tbl (wsV RL 89 RX4 yX4_sheet wsX4_sheet) := tgood gL_law_X4_sheet tL_law
theorem t_X4_way : GoodIn lw_tbl (wsV RL 92 RX4 yX4_way wsX4_way) := tgood gL_law_X4_way tL_law
theorem t_X4_post : GoodIn lw_tbl (wsV RL 95 RX4 yX4_post wsX4_post) := tgood gL_law_X4_post tL_law
theorem t_X4_truth : GoodIn lw_tbl (wsV RL 98 RX4 yX4_truth wsX4_truth) := tgood gL_law_X4_truth tL_law
theorem t_X4_settles : GoodIn lw_tbl (wsV RL 101 RX4 yX4_settles wsX4_settles) := tgood gL_law_X4_settles tL_law
theorem t_X4_foresee : GoodIn lw_tbl (wsV RL 104 RX4 yX4_foresee wsX4_foresee) := tgood gL_law_X4_foresee tL_law
theorem t_X4_advise : GoodIn lw_tbl (wsV RL 107 RX4 yX4_advise wsX4_advise) := tgood gL_law_X4_advise tL_law
theorem t_X4_about : GoodIn lw_tbl (wsV RL 110 RX4 yX4_about wsX4_about) := tgood gL_law_X4_about tL_law
theorem t_L_act : GoodIn lw_tbl (va_wsS RL 70 yL_act wsL_actZ) := goodIn_app (goodIn_of _ (by decide +kernel)) tL_actZ
theorem t_L_build : GoodIn lw_tbl (va_wsS RL 75 yL_build wsL_buildZ) := goodIn_app (goodIn_of _ (by decide +kernel)) tL_buildZ
theorem t_X5_go : GoodIn lw_tbl (wsV RL 58 RX5 yX5_go wsX5_goZ) := tgood gL_actZ_X5_go tL_actZ
theorem t_X5_isSame : GoodIn lw_tbl (wsV RL 113 RX5 yX5_isSame wsX5_isSame) := goodIn_app (goodIn_of _ (by decide +kernel)) tX5_isSame
