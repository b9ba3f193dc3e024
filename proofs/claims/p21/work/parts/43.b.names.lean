/-! decode rows of build -/
set_option maxRecDepth 20000 in
theorem ggL_build_X5_init : GoodIn wsL_build wsX5_init := goodIn_r _ [6, 7, 8, 9, 10, 11, 12, 13, 14, 15, 16, 244, 245, 246, 247, 248] (by decide +kernel) (by decide +kernel)
set_option maxRecDepth 20000 in
theorem gL_build_X5_init_n64 : GoodIn wsL_build (wsX5_init) := ggL_build_X5_init
set_option maxRecDepth 20000 in
theorem ggL_build_L_cell : GoodIn wsL_build wsL_cell := goodIn_r _ [20, 21] (by decide +kernel) (by decide +kernel)
set_option maxRecDepth 20000 in
theorem gL_build_L_cell : GoodIn wsL_build (va_wsS RL 65 yL_cell wsL_cell) := goodIn_app (goodIn_of _ (by decide +kernel)) ggL_build_L_cell
set_option maxRecDepth 20000 in
theorem ggL_build_L_below : GoodIn wsL_build wsL_below := goodIn_r _ [24, 25] (by decide +kernel) (by decide +kernel)
set_option maxRecDepth 20000 in
theorem gL_build_L_below : GoodIn wsL_build (va_wsS RL 19 yL_below wsL_below) := goodIn_app (goodIn_of _ (by decide +kernel)) ggL_build_L_below
set_option maxRecDepth 20000 in
theorem ggL_build_X5_hut : GoodIn wsL_build wsX5_hut := goodIn_r _ [29, 11, 12, 14, 30, 31, 3, 32, 10, 244, 245, 246, 247, 248] (by decide +kernel) (by decide +kernel)
set_option maxRecDepth 20000 in
theorem gL_build_X5_hut : GoodIn wsL_build (wsV RL 25 RX5 yX5_hut wsX5_hut) := goodIn_app (goodIn_of _ (by decide +kernel)) ggL_build_X5_hut
set_option maxRecDepth 20000 in
theorem ggL_build_X4_hut : GoodIn wsL_build wsX4_hut := goodIn_ca (goodIn_ca (goodIn_r _ [37, 38, 39, 40, 41, 42, 43, 44, 45, 46, 47, 48, 49, 50, 51, 52, 53, 249, 250, 251, 252, 253, 254, 255, 256, 257, 258, 259, 260] (by decide +kernel) (by decide +kernel)) (goodIn_sub (fun _ h => List.mem_cons_of_mem _ (List.mem_append_left _ (List.mem_append_left _ (List.mem_append_right _ h)))) (by decide +kernel))) (goodIn_sub (fun _ h => List.mem_cons_of_mem _ (List.mem_append_left _ (List.mem_append_right _ h))) (by decide +kernel))
set_option maxRecDepth 20000 in
theorem gL_build_X4_hut : GoodIn wsL_build (wsV RL 29 RX4 yX4_hut wsX4_hut) := goodIn_app (goodIn_of _ (by decide +kernel)) ggL_build_X4_hut
theorem dL_build_0 : decode cL_build 0 = .ok (.new 10, 3) := by decide +kernel
theorem dL_build_3 : decode cL_build 3 = .ok (.dup, 1) := by decide +kernel
theorem dL_build_4 : decode cL_build 4 = .ok (.invokespecial 64, 3) := by decide +kernel
theorem dL_build_7 : decode cL_build 7 = .ok (.astore_n 2, 1) := by decide +kernel
theorem dL_build_8 : decode cL_build 8 = .ok (.iconst 2, 1) := by decide +kernel
theorem dL_build_9 : decode cL_build 9 = .ok (.aload_n 1, 1) := by decide +kernel
theorem dL_build_10 : decode cL_build 10 = .ok (.iconst 0, 1) := by decide +kernel
theorem dL_build_11 : decode cL_build 11 = .ok (.invokestatic 65, 3) := by decide +kernel
theorem dL_build_14 : decode cL_build 14 = .ok (.iconst 5, 1) := by decide +kernel
theorem dL_build_15 : decode cL_build 15 = .ok (.invokestatic 19, 3) := by decide +kernel
theorem dL_build_18 : decode cL_build 18 = .ok (.iadd, 1) := by decide +kernel
theorem dL_build_19 : decode cL_build 19 = .ok (.istore_n 3, 1) := by decide +kernel
theorem dL_build_20 : decode cL_build 20 = .ok (.iconst 0, 1) := by decide +kernel
theorem dL_build_21 : decode cL_build 21 = .ok (.istore 4, 2) := by decide +kernel
theorem dL_build_23 : decode cL_build 23 = .ok (.iload 4, 2) := by decide +kernel
theorem dL_build_25 : decode cL_build 25 = .ok (.iload_n 3, 1) := by decide +kernel
theorem dL_build_26 : decode cL_build 26 = .ok (.if_icmp .ge 63, 3) := by decide +kernel
theorem dL_build_29 : decode cL_build 29 = .ok (.aload_n 1, 1) := by decide +kernel
theorem dL_build_30 : decode cL_build 30 = .ok (.iconst 1, 1) := by decide +kernel
theorem dL_build_31 : decode cL_build 31 = .ok (.invokestatic 65, 3) := by decide +kernel
theorem dL_build_34 : decode cL_build 34 = .ok (.iload 4, 2) := by decide +kernel
theorem dL_build_36 : decode cL_build 36 = .ok (.ishr, 1) := by decide +kernel
theorem dL_build_37 : decode cL_build 37 = .ok (.iconst 4, 1) := by decide +kernel
theorem dL_build_38 : decode cL_build 38 = .ok (.invokestatic 19, 3) := by decide +kernel
theorem dL_build_41 : decode cL_build 41 = .ok (.ifCond .ne 20, 3) := by decide +kernel
theorem dL_build_44 : decode cL_build 44 = .ok (.aload_n 1, 1) := by decide +kernel
theorem dL_build_45 : decode cL_build 45 = .ok (.iconst 1, 1) := by decide +kernel
theorem dL_build_46 : decode cL_build 46 = .ok (.invokestatic 65, 3) := by decide +kernel
theorem dL_build_49 : decode cL_build 49 = .ok (.iconst 2, 1) := by decide +kernel
theorem dL_build_50 : decode cL_build 50 = .ok (.iload 4, 2) := by decide +kernel
theorem dL_build_52 : decode cL_build 52 = .ok (.imul, 1) := by decide +kernel
theorem dL_build_53 : decode cL_build 53 = .ok (.ishr, 1) := by decide +kernel
theorem dL_build_54 : decode cL_build 54 = .ok (.iconst 4, 1) := by decide +kernel
theorem dL_build_55 : decode cL_build 55 = .ok (.invokestatic 19, 3) := by decide +kernel
theorem dL_build_58 : decode cL_build 58 = .ok (.goto 4, 3) := by decide +kernel
theorem dL_build_61 : decode cL_build 61 = .ok (.iconst 0, 1) := by decide +kernel
theorem dL_build_62 : decode cL_build 62 = .ok (.istore 5, 2) := by decide +kernel
theorem dL_build_64 : decode cL_build 64 = .ok (.aload_n 2, 1) := by decide +kernel
theorem dL_build_65 : decode cL_build 65 = .ok (.iload 5, 2) := by decide +kernel
theorem dL_build_67 : decode cL_build 67 = .ok (.invokevirtual 25, 3) := by decide +kernel
theorem dL_build_70 : decode cL_build 70 = .ok (.aload_n 0, 1) := by decide +kernel
theorem dL_build_71 : decode cL_build 71 = .ok (.iload 5, 2) := by decide +kernel
theorem dL_build_73 : decode cL_build 73 = .ok (.invokevirtual 29, 3) := by decide +kernel
theorem dL_build_76 : decode cL_build 76 = .ok (.iload 4, 2) := by decide +kernel
theorem dL_build_78 : decode cL_build 78 = .ok (.if_icmp .eq 5, 3) := by decide +kernel
theorem dL_build_81 : decode cL_build 81 = .ok (.aconst_null, 1) := by decide +kernel
theorem dL_build_82 : decode cL_build 82 = .ok (.areturn, 1) := by decide +kernel
theorem dL_build_83 : decode cL_build 83 = .ok (.iinc 4 1, 3) := by decide +kernel
theorem dL_build_86 : decode cL_build 86 = .ok (.goto (-63), 3) := by decide +kernel
theorem dL_build_89 : decode cL_build 89 = .ok (.iconst 0, 1) := by decide +kernel
theorem dL_build_90 : decode cL_build 90 = .ok (.istore 4, 2) := by decide +kernel
theorem dL_build_92 : decode cL_build 92 = .ok (.iload 4, 2) := by decide +kernel
theorem dL_build_94 : decode cL_build 94 = .ok (.bipush 16, 2) := by decide +kernel
theorem dL_build_96 : decode cL_build 96 = .ok (.if_icmp .ge 63, 3) := by decide +kernel
theorem dL_build_99 : decode cL_build 99 = .ok (.aload_n 1, 1) := by decide +kernel
theorem dL_build_100 : decode cL_build 100 = .ok (.iload 4, 2) := by decide +kernel
theorem dL_build_102 : decode cL_build 102 = .ok (.invokestatic 65, 3) := by decide +kernel
theorem dL_build_105 : decode cL_build 105 = .ok (.iconst 1, 1) := by decide +kernel
theorem dL_build_106 : decode cL_build 106 = .ok (.ishr, 1) := by decide +kernel
theorem dL_build_107 : decode cL_build 107 = .ok (.bipush 43, 2) := by decide +kernel
theorem dL_build_109 : decode cL_build 109 = .ok (.iload 4, 2) := by decide +kernel
theorem dL_build_111 : decode cL_build 111 = .ok (.imul, 1) := by decide +kernel
theorem dL_build_112 : decode cL_build 112 = .ok (.iadd, 1) := by decide +kernel
theorem dL_build_113 : decode cL_build 113 = .ok (.istore 5, 2) := by decide +kernel
theorem dL_build_115 : decode cL_build 115 = .ok (.iload 4, 2) := by decide +kernel
theorem dL_build_117 : decode cL_build 117 = .ok (.bipush 7, 2) := by decide +kernel
theorem dL_build_119 : decode cL_build 119 = .ok (.if_icmp .ge 22, 3) := by decide +kernel
theorem dL_build_122 : decode cL_build 122 = .ok (.bipush 14, 2) := by decide +kernel
theorem dL_build_124 : decode cL_build 124 = .ok (.iload 5, 2) := by decide +kernel
theorem dL_build_126 : decode cL_build 126 = .ok (.ldc 69, 2) := by decide +kernel
theorem dL_build_128 : decode cL_build 128 = .ok (.invokestatic 19, 3) := by decide +kernel
theorem dL_build_131 : decode cL_build 131 = .ok (.imul, 1) := by decide +kernel
theorem dL_build_132 : decode cL_build 132 = .ok (.iconst 1, 1) := by decide +kernel
theorem dL_build_133 : decode cL_build 133 = .ok (.iadd, 1) := by decide +kernel
theorem dL_build_134 : decode cL_build 134 = .ok (.iload 4, 2) := by decide +kernel
theorem dL_build_136 : decode cL_build 136 = .ok (.iconst 3, 1) := by decide +kernel
theorem dL_build_137 : decode cL_build 137 = .ok (.irem, 1) := by decide +kernel
theorem dL_build_138 : decode cL_build 138 = .ok (.iadd, 1) := by decide +kernel
theorem dL_build_139 : decode cL_build 139 = .ok (.istore 5, 2) := by decide +kernel
theorem dL_build_141 : decode cL_build 141 = .ok (.aload_n 0, 1) := by decide +kernel
theorem dL_build_142 : decode cL_build 142 = .ok (.aload_n 2, 1) := by decide +kernel
theorem dL_build_143 : decode cL_build 143 = .ok (.iload 5, 2) := by decide +kernel
theorem dL_build_145 : decode cL_build 145 = .ok (.invokestatic 70, 3) := by decide +kernel
theorem dL_build_148 : decode cL_build 148 = .ok (.ifCond .ne 5, 3) := by decide +kernel
theorem dL_build_151 : decode cL_build 151 = .ok (.aconst_null, 1) := by decide +kernel
theorem dL_build_152 : decode cL_build 152 = .ok (.areturn, 1) := by decide +kernel
theorem dL_build_153 : decode cL_build 153 = .ok (.iinc 4 1, 3) := by decide +kernel
theorem dL_build_156 : decode cL_build 156 = .ok (.goto (-64), 3) := by decide +kernel
theorem dL_build_159 : decode cL_build 159 = .ok (.aload_n 2, 1) := by decide +kernel
theorem dL_build_160 : decode cL_build 160 = .ok (.areturn, 1) := by decide +kernel
