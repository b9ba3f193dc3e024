/-! decode rows of below, cell, act -/
theorem dL_below_0 : decode cL_below 0 = .ok (.iload_n 0, 1) := by decide +kernel
theorem dL_below_1 : decode cL_below 1 = .ok (.ldc 7, 2) := by decide +kernel
theorem dL_below_3 : decode cL_below 3 = .ok (.iand, 1) := by decide +kernel
theorem dL_below_4 : decode cL_below 4 = .ok (.iload_n 1, 1) := by decide +kernel
theorem dL_below_5 : decode cL_below 5 = .ok (.irem, 1) := by decide +kernel
theorem dL_below_6 : decode cL_below 6 = .ok (.ireturn, 1) := by decide +kernel
theorem dL_cell_0 : decode cL_cell 0 = .ok (.iload_n 1, 1) := by decide +kernel
theorem dL_cell_1 : decode cL_cell 1 = .ok (.aload_n 0, 1) := by decide +kernel
theorem dL_cell_2 : decode cL_cell 2 = .ok (.arraylength, 1) := by decide +kernel
theorem dL_cell_3 : decode cL_cell 3 = .ok (.if_icmp .ge 9, 3) := by decide +kernel
theorem dL_cell_6 : decode cL_cell 6 = .ok (.aload_n 0, 1) := by decide +kernel
theorem dL_cell_7 : decode cL_cell 7 = .ok (.iload_n 1, 1) := by decide +kernel
theorem dL_cell_8 : decode cL_cell 8 = .ok (.iaload, 1) := by decide +kernel
theorem dL_cell_9 : decode cL_cell 9 = .ok (.goto 9, 3) := by decide +kernel
theorem dL_cell_12 : decode cL_cell 12 = .ok (.ldc 8, 2) := by decide +kernel
theorem dL_cell_14 : decode cL_cell 14 = .ok (.iload_n 1, 1) := by decide +kernel
theorem dL_cell_15 : decode cL_cell 15 = .ok (.iconst 3, 1) := by decide +kernel
theorem dL_cell_16 : decode cL_cell 16 = .ok (.iadd, 1) := by decide +kernel
theorem dL_cell_17 : decode cL_cell 17 = .ok (.imul, 1) := by decide +kernel
theorem dL_cell_18 : decode cL_cell 18 = .ok (.ireturn, 1) := by decide +kernel
set_option maxRecDepth 20000 in
theorem ggL_act_L_below : GoodIn wsL_act wsL_below := goodIn_r _ [8, 9] (by decide +kernel) (by decide +kernel)
set_option maxRecDepth 20000 in
theorem gL_act_L_below : GoodIn wsL_act (va_wsS RL 19 yL_below wsL_below) := goodIn_app (goodIn_of _ (by decide +kernel)) ggL_act_L_below
set_option maxRecDepth 20000 in
theorem ggL_act_X5_hut : GoodIn wsL_act wsX5_hut := goodIn_r _ [14, 15, 16, 17, 18, 19, 13, 20, 4, 230, 231, 232, 233, 234] (by decide +kernel) (by decide +kernel)
set_option maxRecDepth 20000 in
theorem gL_act_X5_hut : GoodIn wsL_act (wsV RL 25 RX5 yX5_hut wsX5_hut) := goodIn_app (goodIn_of _ (by decide +kernel)) ggL_act_X5_hut
set_option maxRecDepth 20000 in
theorem ggL_act_X4_hut : GoodIn wsL_act wsX4_hut := goodIn_ca (goodIn_ca (goodIn_r _ [25, 26, 27, 28, 29, 30, 31, 32, 33, 34, 35, 36, 37, 38, 39, 40, 41, 235, 236, 237, 238, 239, 240, 241, 242, 243, 244, 245, 246] (by decide +kernel) (by decide +kernel)) (goodIn_sub (fun _ h => List.mem_cons_of_mem _ (List.mem_append_left _ (List.mem_append_left _ (List.mem_append_right _ h)))) (by decide +kernel))) (goodIn_sub (fun _ h => List.mem_cons_of_mem _ (List.mem_append_left _ (List.mem_append_right _ h))) (by decide +kernel))
set_option maxRecDepth 20000 in
theorem gL_act_X4_hut : GoodIn wsL_act (wsV RL 29 RX4 yX4_hut wsX4_hut) := goodIn_app (goodIn_of _ (by decide +kernel)) ggL_act_X4_hut
set_option maxRecDepth 20000 in
theorem ggL_act_X5_pass : GoodIn wsL_act wsX5_pass := goodIn_r _ [45, 46, 47, 4, 230, 231, 232, 233, 234] (by decide +kernel) (by decide +kernel)
set_option maxRecDepth 20000 in
theorem gL_act_X5_pass : GoodIn wsL_act (wsV RL 34 RX5 yX5_pass wsX5_pass) := goodIn_app (goodIn_of _ (by decide +kernel)) ggL_act_X5_pass
set_option maxRecDepth 20000 in
theorem ggL_act_X4_pass : GoodIn wsL_act wsX4_pass := goodIn_ca (goodIn_ca (goodIn_ca (goodIn_r _ [51, 26, 27, 28, 29, 30, 52, 53, 54, 24, 55, 56, 57, 31, 32, 33, 34, 35, 36, 58, 59, 60, 61, 62, 63, 64, 65, 66, 67, 68, 69, 70, 71, 72, 73, 74, 235, 236, 237, 238, 239, 240, 241, 242, 243, 244, 245, 246] (by decide +kernel) (by decide +kernel)) (goodIn_sub (fun _ h => List.mem_cons_of_mem _ (List.mem_append_left _ (List.mem_append_left _ (List.mem_append_right _ h)))) (by decide +kernel))) (goodIn_sub (fun _ h => List.mem_cons_of_mem _ (List.mem_append_left _ (List.mem_append_right _ h))) (by decide +kernel))) (goodIn_sub (fun _ h => List.mem_cons_of_mem _ (List.mem_append_right _ h)) (by decide +kernel))
set_option maxRecDepth 20000 in
theorem gL_act_X4_pass : GoodIn wsL_act (wsV RL 38 RX4 yX4_pass wsX4_pass) := goodIn_app (goodIn_of _ (by decide +kernel)) ggL_act_X4_pass
set_option maxRecDepth 20000 in
theorem ggL_act_X4_setLength : GoodIn wsL_act wsX4_setLength := goodIn_ca (goodIn_ca (goodIn_r _ [78, 30, 79, 80, 81, 24, 82, 56, 57, 62, 63, 64, 34, 65, 66, 58, 59, 60, 61, 26, 27, 83, 84, 85, 86, 73, 235, 236, 237, 238, 239, 240, 241, 242, 243, 244, 245, 246] (by decide +kernel) (by decide +kernel)) (goodIn_sub (fun _ h => List.mem_cons_of_mem _ (List.mem_append_right _ h)) (by decide +kernel))) (goodIn_sub (fun _ h => List.mem_cons_of_mem _ (List.mem_append_left _ (List.mem_append_left _ (List.mem_append_right _ h)))) (by decide +kernel))
set_option maxRecDepth 20000 in
theorem gL_act_X4_setLength : GoodIn wsL_act (wsV RL 41 RX4 yX4_setLength wsX4_setLength) := goodIn_app (goodIn_of _ (by decide +kernel)) ggL_act_X4_setLength
set_option maxRecDepth 20000 in
theorem ggL_act_X4_setOpen : GoodIn wsL_act wsX4_setOpen := goodIn_ca (goodIn_r _ [90, 30, 79, 80, 81, 24, 82, 56, 57, 62, 63, 64, 34, 65, 66, 91, 92, 93, 94, 74, 235, 236, 237, 238, 239, 240, 241, 242, 243, 244, 245, 246] (by decide +kernel) (by decide +kernel)) (goodIn_sub (fun _ h => List.mem_cons_of_mem _ (List.mem_append_right _ h)) (by decide +kernel))
set_option maxRecDepth 20000 in
theorem gL_act_X4_setOpen : GoodIn wsL_act (wsV RL 44 RX4 yX4_setOpen wsX4_setOpen) := goodIn_app (goodIn_of _ (by decide +kernel)) ggL_act_X4_setOpen
set_option maxRecDepth 20000 in
theorem ggL_act_X5_sheetsOf : GoodIn wsL_act wsX5_sheetsOf := goodIn_r _ [98, 17, 230, 231, 232, 233, 234] (by decide +kernel) (by decide +kernel)
set_option maxRecDepth 20000 in
theorem gL_act_X5_sheetsOf : GoodIn wsL_act (wsV RL 48 RX5 yX5_sheetsOf wsX5_sheetsOf) := goodIn_app (goodIn_of _ (by decide +kernel)) ggL_act_X5_sheetsOf
set_option maxRecDepth 20000 in
theorem ggL_act_X4_burn : GoodIn wsL_act wsX4_burn := goodIn_ca (goodIn_r _ [102, 103, 52, 53, 54, 24, 55, 56, 57, 30, 31, 32, 33, 34, 35, 36, 104, 105, 106, 107, 108, 109, 110, 111, 112, 113, 114, 115, 116, 117, 118, 119, 120, 121, 235, 236, 237, 238, 239, 240, 241, 242, 243, 244, 245, 246, 247, 248, 249, 250, 251, 252, 253, 254] (by decide +kernel) (by decide +kernel)) (goodIn_sub (fun _ h => List.mem_cons_of_mem _ (List.mem_append_right _ h)) (by decide +kernel))
set_option maxRecDepth 20000 in
theorem gL_act_X4_burn : GoodIn wsL_act (wsV RL 55 RX4 yX4_burn wsX4_burn) := goodIn_app (goodIn_of _ (by decide +kernel)) ggL_act_X4_burn
set_option maxRecDepth 20000 in
theorem ggL_act_X5_go : GoodIn wsL_act wsX5_go := goodIn_r _ [125, 15, 17, 16, 46, 4, 126, 127, 128, 129, 130, 47, 131, 132, 133, 134, 13, 135, 136, 137, 138, 139, 140, 141, 142, 230, 231, 232, 233, 234] (by decide +kernel) (by decide +kernel)
set_option maxRecDepth 20000 in
theorem gL_act_X5_go : GoodIn wsL_act (wsV RL 58 RX5 yX5_go wsX5_go) := goodIn_app (goodIn_of _ (by decide +kernel)) ggL_act_X5_go
set_option maxRecDepth 20000 in
theorem ggL_act_X4_go : GoodIn wsL_act wsX4_go := goodIn_ca (goodIn_r _ [146, 103, 147, 148, 149, 24, 150, 26, 27, 151, 152, 153, 107, 154, 155, 156, 157, 158, 159, 160, 161, 109, 162, 163, 164, 165, 32, 33, 34, 35, 36, 166, 167, 168, 169, 114, 115, 116, 170, 171, 172, 173, 174, 175, 176, 177, 178, 179, 180, 63, 64, 65, 66, 181, 182, 183, 184, 71, 72, 74, 73, 185, 186, 187, 188, 189, 190, 4, 191, 192, 193, 194, 195, 196, 197, 198, 199, 200, 201, 202, 203, 204, 205, 206, 207, 208, 209, 210, 211, 212, 213, 214, 215, 216, 217, 41, 218, 219, 220, 221, 222, 223, 224, 225, 226, 227, 228, 229, 117, 118, 119, 120, 121, 235, 236, 237, 238, 239, 247, 248, 249, 250, 251, 252, 253, 254, 255, 256, 257, 240, 241, 242, 243, 244, 245, 246] (by decide +kernel) (by decide +kernel)) (goodIn_sub (fun _ h => List.mem_cons_of_mem _ (List.mem_append_left _ (List.mem_append_left _ (List.mem_append_right _ h)))) (by decide +kernel))
set_option maxRecDepth 20000 in
theorem gL_act_X4_go : GoodIn wsL_act (wsV RL 62 RX4 yX4_go wsX4_go) := goodIn_app (goodIn_of _ (by decide +kernel)) ggL_act_X4_go
theorem dL_act_0 : decode cL_act 0 = .ok (.aload_n 1, 1) := by decide +kernel
theorem dL_act_1 : decode cL_act 1 = .ok (.getfield 9, 3) := by decide +kernel
theorem dL_act_4 : decode cL_act 4 = .ok (.arraylength, 1) := by decide +kernel
theorem dL_act_5 : decode cL_act 5 = .ok (.istore_n 3, 1) := by decide +kernel
theorem dL_act_6 : decode cL_act 6 = .ok (.aload_n 1, 1) := by decide +kernel
theorem dL_act_7 : decode cL_act 7 = .ok (.getfield 15, 3) := by decide +kernel
theorem dL_act_10 : decode cL_act 10 = .ok (.arraylength, 1) := by decide +kernel
theorem dL_act_11 : decode cL_act 11 = .ok (.istore 4, 2) := by decide +kernel
theorem dL_act_13 : decode cL_act 13 = .ok (.iload_n 3, 1) := by decide +kernel
theorem dL_act_14 : decode cL_act 14 = .ok (.ifCond .ne 7, 3) := by decide +kernel
theorem dL_act_17 : decode cL_act 17 = .ok (.iconst 0, 1) := by decide +kernel
theorem dL_act_18 : decode cL_act 18 = .ok (.goto 10, 3) := by decide +kernel
theorem dL_act_21 : decode cL_act 21 = .ok (.iload_n 2, 1) := by decide +kernel
theorem dL_act_22 : decode cL_act 22 = .ok (.iconst 4, 1) := by decide +kernel
theorem dL_act_23 : decode cL_act 23 = .ok (.ishr, 1) := by decide +kernel
theorem dL_act_24 : decode cL_act 24 = .ok (.iload_n 3, 1) := by decide +kernel
theorem dL_act_25 : decode cL_act 25 = .ok (.invokestatic 19, 3) := by decide +kernel
theorem dL_act_28 : decode cL_act 28 = .ok (.istore 5, 2) := by decide +kernel
theorem dL_act_30 : decode cL_act 30 = .ok (.iload 4, 2) := by decide +kernel
theorem dL_act_32 : decode cL_act 32 = .ok (.ifCond .ne 7, 3) := by decide +kernel
theorem dL_act_35 : decode cL_act 35 = .ok (.iconst 0, 1) := by decide +kernel
theorem dL_act_36 : decode cL_act 36 = .ok (.goto 11, 3) := by decide +kernel
theorem dL_act_39 : decode cL_act 39 = .ok (.iload_n 2, 1) := by decide +kernel
theorem dL_act_40 : decode cL_act 40 = .ok (.iconst 5, 1) := by decide +kernel
theorem dL_act_41 : decode cL_act 41 = .ok (.ishr, 1) := by decide +kernel
theorem dL_act_42 : decode cL_act 42 = .ok (.iload 4, 2) := by decide +kernel
theorem dL_act_44 : decode cL_act 44 = .ok (.invokestatic 19, 3) := by decide +kernel
theorem dL_act_47 : decode cL_act 47 = .ok (.istore 6, 2) := by decide +kernel
theorem dL_act_49 : decode cL_act 49 = .ok (.iload_n 2, 1) := by decide +kernel
theorem dL_act_50 : decode cL_act 50 = .ok (.bipush 14, 2) := by decide +kernel
theorem dL_act_52 : decode cL_act 52 = .ok (.invokestatic 19, 3) := by decide +kernel
theorem dL_act_55 : decode cL_act 55 = .ok (.tableswitch 425 0 7 #[45, 99, 99, 99, 190, 268, 268, 355], 45) := by decide +kernel
theorem dL_act_100 : decode cL_act 100 = .ok (.iload_n 3, 1) := by decide +kernel
theorem dL_act_101 : decode cL_act 101 = .ok (.bipush 7, 2) := by decide +kernel
theorem dL_act_103 : decode cL_act 103 = .ok (.if_icmp .ne 5, 3) := by decide +kernel
theorem dL_act_106 : decode cL_act 106 = .ok (.iconst 1, 1) := by decide +kernel
theorem dL_act_107 : decode cL_act 107 = .ok (.ireturn, 1) := by decide +kernel
theorem dL_act_108 : decode cL_act 108 = .ok (.iload_n 2, 1) := by decide +kernel
theorem dL_act_109 : decode cL_act 109 = .ok (.bipush 6, 2) := by decide +kernel
theorem dL_act_111 : decode cL_act 111 = .ok (.ishr, 1) := by decide +kernel
theorem dL_act_112 : decode cL_act 112 = .ok (.iconst 3, 1) := by decide +kernel
theorem dL_act_113 : decode cL_act 113 = .ok (.invokestatic 19, 3) := by decide +kernel
theorem dL_act_116 : decode cL_act 116 = .ok (.ifCond .le 7, 3) := by decide +kernel
theorem dL_act_119 : decode cL_act 119 = .ok (.iconst 0, 1) := by decide +kernel
theorem dL_act_120 : decode cL_act 120 = .ok (.goto 10, 3) := by decide +kernel
theorem dL_act_123 : decode cL_act 123 = .ok (.iload_n 2, 1) := by decide +kernel
theorem dL_act_124 : decode cL_act 124 = .ok (.iconst 4, 1) := by decide +kernel
theorem dL_act_125 : decode cL_act 125 = .ok (.ishr, 1) := by decide +kernel
theorem dL_act_126 : decode cL_act 126 = .ok (.iconst 4, 1) := by decide +kernel
theorem dL_act_127 : decode cL_act 127 = .ok (.invokestatic 19, 3) := by decide +kernel
theorem dL_act_130 : decode cL_act 130 = .ok (.istore 7, 2) := by decide +kernel
theorem dL_act_132 : decode cL_act 132 = .ok (.aload_n 1, 1) := by decide +kernel
theorem dL_act_133 : decode cL_act 133 = .ok (.iload 7, 2) := by decide +kernel
theorem dL_act_135 : decode cL_act 135 = .ok (.invokevirtual 25, 3) := by decide +kernel
theorem dL_act_138 : decode cL_act 138 = .ok (.aload_n 0, 1) := by decide +kernel
theorem dL_act_139 : decode cL_act 139 = .ok (.iload 7, 2) := by decide +kernel
theorem dL_act_141 : decode cL_act 141 = .ok (.invokevirtual 29, 3) := by decide +kernel
theorem dL_act_144 : decode cL_act 144 = .ok (.iload_n 3, 1) := by decide +kernel
theorem dL_act_145 : decode cL_act 145 = .ok (.if_icmp .ne 7, 3) := by decide +kernel
theorem dL_act_148 : decode cL_act 148 = .ok (.iconst 1, 1) := by decide +kernel
theorem dL_act_149 : decode cL_act 149 = .ok (.goto 4, 3) := by decide +kernel
theorem dL_act_152 : decode cL_act 152 = .ok (.iconst 0, 1) := by decide +kernel
theorem dL_act_153 : decode cL_act 153 = .ok (.ireturn, 1) := by decide +kernel
theorem dL_act_154 : decode cL_act 154 = .ok (.iload_n 3, 1) := by decide +kernel
theorem dL_act_155 : decode cL_act 155 = .ok (.iconst 2, 1) := by decide +kernel
theorem dL_act_156 : decode cL_act 156 = .ok (.if_icmp .lt 10, 3) := by decide +kernel
theorem dL_act_159 : decode cL_act 159 = .ok (.iload 4, 2) := by decide +kernel
theorem dL_act_161 : decode cL_act 161 = .ok (.bipush 20, 2) := by decide +kernel
theorem dL_act_163 : decode cL_act 163 = .ok (.if_icmp .ne 5, 3) := by decide +kernel
theorem dL_act_166 : decode cL_act 166 = .ok (.iconst 1, 1) := by decide +kernel
theorem dL_act_167 : decode cL_act 167 = .ok (.ireturn, 1) := by decide +kernel
theorem dL_act_168 : decode cL_act 168 = .ok (.iload 5, 2) := by decide +kernel
theorem dL_act_170 : decode cL_act 170 = .ok (.iconst 1, 1) := by decide +kernel
theorem dL_act_171 : decode cL_act 171 = .ok (.iadd, 1) := by decide +kernel
theorem dL_act_172 : decode cL_act 172 = .ok (.iload_n 2, 1) := by decide +kernel
theorem dL_act_173 : decode cL_act 173 = .ok (.bipush 7, 2) := by decide +kernel
theorem dL_act_175 : decode cL_act 175 = .ok (.ishr, 1) := by decide +kernel
theorem dL_act_176 : decode cL_act 176 = .ok (.iload_n 3, 1) := by decide +kernel
theorem dL_act_177 : decode cL_act 177 = .ok (.iconst 1, 1) := by decide +kernel
theorem dL_act_178 : decode cL_act 178 = .ok (.isub, 1) := by decide +kernel
theorem dL_act_179 : decode cL_act 179 = .ok (.invokestatic 19, 3) := by decide +kernel
theorem dL_act_182 : decode cL_act 182 = .ok (.iadd, 1) := by decide +kernel
theorem dL_act_183 : decode cL_act 183 = .ok (.iload_n 3, 1) := by decide +kernel
theorem dL_act_184 : decode cL_act 184 = .ok (.irem, 1) := by decide +kernel
theorem dL_act_185 : decode cL_act 185 = .ok (.istore 8, 2) := by decide +kernel
theorem dL_act_187 : decode cL_act 187 = .ok (.iconst 1, 1) := by decide +kernel
theorem dL_act_188 : decode cL_act 188 = .ok (.iload_n 2, 1) := by decide +kernel
theorem dL_act_189 : decode cL_act 189 = .ok (.iconst 3, 1) := by decide +kernel
theorem dL_act_190 : decode cL_act 190 = .ok (.ishr, 1) := by decide +kernel
theorem dL_act_191 : decode cL_act 191 = .ok (.iload_n 2, 1) := by decide +kernel
theorem dL_act_192 : decode cL_act 192 = .ok (.bipush 9, 2) := by decide +kernel
theorem dL_act_194 : decode cL_act 194 = .ok (.ishr, 1) := by decide +kernel
theorem dL_act_195 : decode cL_act 195 = .ok (.iconst 2, 1) := by decide +kernel
theorem dL_act_196 : decode cL_act 196 = .ok (.invokestatic 19, 3) := by decide +kernel
theorem dL_act_199 : decode cL_act 199 = .ok (.ifCond .ne 8, 3) := by decide +kernel
theorem dL_act_202 : decode cL_act 202 = .ok (.bipush 99, 2) := by decide +kernel
theorem dL_act_204 : decode cL_act 204 = .ok (.goto 4, 3) := by decide +kernel
theorem dL_act_207 : decode cL_act 207 = .ok (.iconst 5, 1) := by decide +kernel
theorem dL_act_208 : decode cL_act 208 = .ok (.invokestatic 19, 3) := by decide +kernel
theorem dL_act_211 : decode cL_act 211 = .ok (.iadd, 1) := by decide +kernel
theorem dL_act_212 : decode cL_act 212 = .ok (.istore 9, 2) := by decide +kernel
theorem dL_act_214 : decode cL_act 214 = .ok (.aload_n 1, 1) := by decide +kernel
theorem dL_act_215 : decode cL_act 215 = .ok (.iload 5, 2) := by decide +kernel
theorem dL_act_217 : decode cL_act 217 = .ok (.iload 8, 2) := by decide +kernel
theorem dL_act_219 : decode cL_act 219 = .ok (.iload 9, 2) := by decide +kernel
theorem dL_act_221 : decode cL_act 221 = .ok (.invokevirtual 34, 3) := by decide +kernel
theorem dL_act_224 : decode cL_act 224 = .ok (.aload_n 0, 1) := by decide +kernel
theorem dL_act_225 : decode cL_act 225 = .ok (.iload 5, 2) := by decide +kernel
theorem dL_act_227 : decode cL_act 227 = .ok (.iload 8, 2) := by decide +kernel
theorem dL_act_229 : decode cL_act 229 = .ok (.iload 9, 2) := by decide +kernel
theorem dL_act_231 : decode cL_act 231 = .ok (.invokevirtual 38, 3) := by decide +kernel
theorem dL_act_234 : decode cL_act 234 = .ok (.iload 4, 2) := by decide +kernel
theorem dL_act_236 : decode cL_act 236 = .ok (.if_icmp .ne 7, 3) := by decide +kernel
theorem dL_act_239 : decode cL_act 239 = .ok (.iconst 1, 1) := by decide +kernel
theorem dL_act_240 : decode cL_act 240 = .ok (.goto 4, 3) := by decide +kernel
theorem dL_act_243 : decode cL_act 243 = .ok (.iconst 0, 1) := by decide +kernel
theorem dL_act_244 : decode cL_act 244 = .ok (.ireturn, 1) := by decide +kernel
theorem dL_act_245 : decode cL_act 245 = .ok (.iload 4, 2) := by decide +kernel
theorem dL_act_247 : decode cL_act 247 = .ok (.ifCond .ne 5, 3) := by decide +kernel
theorem dL_act_250 : decode cL_act 250 = .ok (.iconst 1, 1) := by decide +kernel
theorem dL_act_251 : decode cL_act 251 = .ok (.ireturn, 1) := by decide +kernel
theorem dL_act_252 : decode cL_act 252 = .ok (.aload_n 1, 1) := by decide +kernel
theorem dL_act_253 : decode cL_act 253 = .ok (.getfield 15, 3) := by decide +kernel
theorem dL_act_256 : decode cL_act 256 = .ok (.iload 6, 2) := by decide +kernel
theorem dL_act_258 : decode cL_act 258 = .ok (.aaload, 1) := by decide +kernel
theorem dL_act_259 : decode cL_act 259 = .ok (.iconst 2, 1) := by decide +kernel
theorem dL_act_260 : decode cL_act 260 = .ok (.iaload, 1) := by decide +kernel
theorem dL_act_261 : decode cL_act 261 = .ok (.istore 10, 2) := by decide +kernel
theorem dL_act_263 : decode cL_act 263 = .ok (.aload_n 1, 1) := by decide +kernel
theorem dL_act_264 : decode cL_act 264 = .ok (.getfield 15, 3) := by decide +kernel
theorem dL_act_267 : decode cL_act 267 = .ok (.iload 6, 2) := by decide +kernel
theorem dL_act_269 : decode cL_act 269 = .ok (.aaload, 1) := by decide +kernel
theorem dL_act_270 : decode cL_act 270 = .ok (.iconst 2, 1) := by decide +kernel
theorem dL_act_271 : decode cL_act 271 = .ok (.iconst 1, 1) := by decide +kernel
theorem dL_act_272 : decode cL_act 272 = .ok (.iload_n 2, 1) := by decide +kernel
theorem dL_act_273 : decode cL_act 273 = .ok (.iconst 3, 1) := by decide +kernel
theorem dL_act_274 : decode cL_act 274 = .ok (.ishr, 1) := by decide +kernel
theorem dL_act_275 : decode cL_act 275 = .ok (.iload_n 2, 1) := by decide +kernel
theorem dL_act_276 : decode cL_act 276 = .ok (.bipush 9, 2) := by decide +kernel
theorem dL_act_278 : decode cL_act 278 = .ok (.ishr, 1) := by decide +kernel
theorem dL_act_279 : decode cL_act 279 = .ok (.iconst 2, 1) := by decide +kernel
theorem dL_act_280 : decode cL_act 280 = .ok (.invokestatic 19, 3) := by decide +kernel
theorem dL_act_283 : decode cL_act 283 = .ok (.ifCond .ne 8, 3) := by decide +kernel
theorem dL_act_286 : decode cL_act 286 = .ok (.bipush 99, 2) := by decide +kernel
theorem dL_act_288 : decode cL_act 288 = .ok (.goto 4, 3) := by decide +kernel
theorem dL_act_291 : decode cL_act 291 = .ok (.iconst 5, 1) := by decide +kernel
theorem dL_act_292 : decode cL_act 292 = .ok (.invokestatic 19, 3) := by decide +kernel
theorem dL_act_295 : decode cL_act 295 = .ok (.iadd, 1) := by decide +kernel
theorem dL_act_296 : decode cL_act 296 = .ok (.iastore, 1) := by decide +kernel
theorem dL_act_297 : decode cL_act 297 = .ok (.aload_n 0, 1) := by decide +kernel
theorem dL_act_298 : decode cL_act 298 = .ok (.iload 6, 2) := by decide +kernel
theorem dL_act_300 : decode cL_act 300 = .ok (.aload_n 1, 1) := by decide +kernel
theorem dL_act_301 : decode cL_act 301 = .ok (.getfield 15, 3) := by decide +kernel
theorem dL_act_304 : decode cL_act 304 = .ok (.iload 6, 2) := by decide +kernel
theorem dL_act_306 : decode cL_act 306 = .ok (.aaload, 1) := by decide +kernel
theorem dL_act_307 : decode cL_act 307 = .ok (.iconst 2, 1) := by decide +kernel
theorem dL_act_308 : decode cL_act 308 = .ok (.iaload, 1) := by decide +kernel
theorem dL_act_309 : decode cL_act 309 = .ok (.invokevirtual 41, 3) := by decide +kernel
theorem dL_act_312 : decode cL_act 312 = .ok (.iload 10, 2) := by decide +kernel
theorem dL_act_314 : decode cL_act 314 = .ok (.if_icmp .ne 7, 3) := by decide +kernel
theorem dL_act_317 : decode cL_act 317 = .ok (.iconst 1, 1) := by decide +kernel
theorem dL_act_318 : decode cL_act 318 = .ok (.goto 4, 3) := by decide +kernel
theorem dL_act_321 : decode cL_act 321 = .ok (.iconst 0, 1) := by decide +kernel
theorem dL_act_322 : decode cL_act 322 = .ok (.ireturn, 1) := by decide +kernel
theorem dL_act_323 : decode cL_act 323 = .ok (.iload 4, 2) := by decide +kernel
theorem dL_act_325 : decode cL_act 325 = .ok (.ifCond .ne 5, 3) := by decide +kernel
theorem dL_act_328 : decode cL_act 328 = .ok (.iconst 1, 1) := by decide +kernel
theorem dL_act_329 : decode cL_act 329 = .ok (.ireturn, 1) := by decide +kernel
theorem dL_act_330 : decode cL_act 330 = .ok (.aload_n 1, 1) := by decide +kernel
theorem dL_act_331 : decode cL_act 331 = .ok (.getfield 15, 3) := by decide +kernel
theorem dL_act_334 : decode cL_act 334 = .ok (.iload 6, 2) := by decide +kernel
theorem dL_act_336 : decode cL_act 336 = .ok (.aaload, 1) := by decide +kernel
theorem dL_act_337 : decode cL_act 337 = .ok (.iconst 3, 1) := by decide +kernel
theorem dL_act_338 : decode cL_act 338 = .ok (.iaload, 1) := by decide +kernel
theorem dL_act_339 : decode cL_act 339 = .ok (.iconst 1, 1) := by decide +kernel
theorem dL_act_340 : decode cL_act 340 = .ok (.if_icmp .ne 7, 3) := by decide +kernel
theorem dL_act_343 : decode cL_act 343 = .ok (.iconst 1, 1) := by decide +kernel
theorem dL_act_344 : decode cL_act 344 = .ok (.goto 4, 3) := by decide +kernel
theorem dL_act_347 : decode cL_act 347 = .ok (.iconst 0, 1) := by decide +kernel
theorem dL_act_348 : decode cL_act 348 = .ok (.istore 11, 2) := by decide +kernel
theorem dL_act_350 : decode cL_act 350 = .ok (.aload_n 1, 1) := by decide +kernel
theorem dL_act_351 : decode cL_act 351 = .ok (.getfield 15, 3) := by decide +kernel
theorem dL_act_354 : decode cL_act 354 = .ok (.iload 6, 2) := by decide +kernel
theorem dL_act_356 : decode cL_act 356 = .ok (.aaload, 1) := by decide +kernel
theorem dL_act_357 : decode cL_act 357 = .ok (.iconst 3, 1) := by decide +kernel
theorem dL_act_358 : decode cL_act 358 = .ok (.iload_n 2, 1) := by decide +kernel
theorem dL_act_359 : decode cL_act 359 = .ok (.bipush 8, 2) := by decide +kernel
theorem dL_act_361 : decode cL_act 361 = .ok (.ishr, 1) := by decide +kernel
theorem dL_act_362 : decode cL_act 362 = .ok (.iconst 3, 1) := by decide +kernel
theorem dL_act_363 : decode cL_act 363 = .ok (.invokestatic 19, 3) := by decide +kernel
theorem dL_act_366 : decode cL_act 366 = .ok (.ifCond .le 7, 3) := by decide +kernel
theorem dL_act_369 : decode cL_act 369 = .ok (.iconst 1, 1) := by decide +kernel
theorem dL_act_370 : decode cL_act 370 = .ok (.goto 4, 3) := by decide +kernel
theorem dL_act_373 : decode cL_act 373 = .ok (.iconst 0, 1) := by decide +kernel
theorem dL_act_374 : decode cL_act 374 = .ok (.iastore, 1) := by decide +kernel
theorem dL_act_375 : decode cL_act 375 = .ok (.aload_n 0, 1) := by decide +kernel
theorem dL_act_376 : decode cL_act 376 = .ok (.iload 6, 2) := by decide +kernel
theorem dL_act_378 : decode cL_act 378 = .ok (.aload_n 1, 1) := by decide +kernel
theorem dL_act_379 : decode cL_act 379 = .ok (.getfield 15, 3) := by decide +kernel
theorem dL_act_382 : decode cL_act 382 = .ok (.iload 6, 2) := by decide +kernel
theorem dL_act_384 : decode cL_act 384 = .ok (.aaload, 1) := by decide +kernel
theorem dL_act_385 : decode cL_act 385 = .ok (.iconst 3, 1) := by decide +kernel
theorem dL_act_386 : decode cL_act 386 = .ok (.iaload, 1) := by decide +kernel
theorem dL_act_387 : decode cL_act 387 = .ok (.iconst 1, 1) := by decide +kernel
theorem dL_act_388 : decode cL_act 388 = .ok (.if_icmp .ne 7, 3) := by decide +kernel
theorem dL_act_391 : decode cL_act 391 = .ok (.iconst 1, 1) := by decide +kernel
theorem dL_act_392 : decode cL_act 392 = .ok (.goto 4, 3) := by decide +kernel
theorem dL_act_395 : decode cL_act 395 = .ok (.iconst 0, 1) := by decide +kernel
theorem dL_act_396 : decode cL_act 396 = .ok (.invokevirtual 44, 3) := by decide +kernel
theorem dL_act_399 : decode cL_act 399 = .ok (.iload 11, 2) := by decide +kernel
theorem dL_act_401 : decode cL_act 401 = .ok (.if_icmp .ne 7, 3) := by decide +kernel
theorem dL_act_404 : decode cL_act 404 = .ok (.iconst 1, 1) := by decide +kernel
theorem dL_act_405 : decode cL_act 405 = .ok (.goto 4, 3) := by decide +kernel
theorem dL_act_408 : decode cL_act 408 = .ok (.iconst 0, 1) := by decide +kernel
theorem dL_act_409 : decode cL_act 409 = .ok (.ireturn, 1) := by decide +kernel
theorem dL_act_410 : decode cL_act 410 = .ok (.iload_n 3, 1) := by decide +kernel
theorem dL_act_411 : decode cL_act 411 = .ok (.ifCond .eq 14, 3) := by decide +kernel
theorem dL_act_414 : decode cL_act 414 = .ok (.iload_n 2, 1) := by decide +kernel
theorem dL_act_415 : decode cL_act 415 = .ok (.bipush 7, 2) := by decide +kernel
theorem dL_act_417 : decode cL_act 417 = .ok (.ishr, 1) := by decide +kernel
theorem dL_act_418 : decode cL_act 418 = .ok (.iconst 3, 1) := by decide +kernel
theorem dL_act_419 : decode cL_act 419 = .ok (.invokestatic 19, 3) := by decide +kernel
theorem dL_act_422 : decode cL_act 422 = .ok (.ifCond .le 5, 3) := by decide +kernel
theorem dL_act_425 : decode cL_act 425 = .ok (.iconst 1, 1) := by decide +kernel
theorem dL_act_426 : decode cL_act 426 = .ok (.ireturn, 1) := by decide +kernel
theorem dL_act_427 : decode cL_act 427 = .ok (.aload_n 1, 1) := by decide +kernel
theorem dL_act_428 : decode cL_act 428 = .ok (.iload 5, 2) := by decide +kernel
theorem dL_act_430 : decode cL_act 430 = .ok (.invokevirtual 48, 3) := by decide +kernel
theorem dL_act_433 : decode cL_act 433 = .ok (.istore 12, 2) := by decide +kernel
theorem dL_act_435 : decode cL_act 435 = .ok (.iconst 0, 1) := by decide +kernel
theorem dL_act_436 : decode cL_act 436 = .ok (.istore 13, 2) := by decide +kernel
theorem dL_act_438 : decode cL_act 438 = .ok (.iload 13, 2) := by decide +kernel
theorem dL_act_440 : decode cL_act 440 = .ok (.iload_n 3, 1) := by decide +kernel
theorem dL_act_441 : decode cL_act 441 = .ok (.if_icmp .ge 22, 3) := by decide +kernel
theorem dL_act_444 : decode cL_act 444 = .ok (.aload_n 1, 1) := by decide +kernel
theorem dL_act_445 : decode cL_act 445 = .ok (.getfield 51, 3) := by decide +kernel
theorem dL_act_448 : decode cL_act 448 = .ok (.iload 5, 2) := by decide +kernel
theorem dL_act_450 : decode cL_act 450 = .ok (.aaload, 1) := by decide +kernel
theorem dL_act_451 : decode cL_act 451 = .ok (.iload 13, 2) := by decide +kernel
theorem dL_act_453 : decode cL_act 453 = .ok (.iconst 0, 1) := by decide +kernel
theorem dL_act_454 : decode cL_act 454 = .ok (.newarray .int, 2) := by decide +kernel
theorem dL_act_456 : decode cL_act 456 = .ok (.aastore, 1) := by decide +kernel
theorem dL_act_457 : decode cL_act 457 = .ok (.iinc 13 1, 3) := by decide +kernel
theorem dL_act_460 : decode cL_act 460 = .ok (.goto (-22), 3) := by decide +kernel
theorem dL_act_463 : decode cL_act 463 = .ok (.aload_n 0, 1) := by decide +kernel
theorem dL_act_464 : decode cL_act 464 = .ok (.iload 5, 2) := by decide +kernel
theorem dL_act_466 : decode cL_act 466 = .ok (.invokevirtual 55, 3) := by decide +kernel
theorem dL_act_469 : decode cL_act 469 = .ok (.iload 12, 2) := by decide +kernel
theorem dL_act_471 : decode cL_act 471 = .ok (.if_icmp .ne 7, 3) := by decide +kernel
theorem dL_act_474 : decode cL_act 474 = .ok (.iconst 1, 1) := by decide +kernel
theorem dL_act_475 : decode cL_act 475 = .ok (.goto 4, 3) := by decide +kernel
theorem dL_act_478 : decode cL_act 478 = .ok (.iconst 0, 1) := by decide +kernel
theorem dL_act_479 : decode cL_act 479 = .ok (.ireturn, 1) := by decide +kernel
theorem dL_act_480 : decode cL_act 480 = .ok (.iconst 1, 1) := by decide +kernel
theorem dL_act_481 : decode cL_act 481 = .ok (.iload_n 2, 1) := by decide +kernel
theorem dL_act_482 : decode cL_act 482 = .ok (.bipush 6, 2) := by decide +kernel
theorem dL_act_484 : decode cL_act 484 = .ok (.ishr, 1) := by decide +kernel
theorem dL_act_485 : decode cL_act 485 = .ok (.iload_n 2, 1) := by decide +kernel
theorem dL_act_486 : decode cL_act 486 = .ok (.bipush 9, 2) := by decide +kernel
theorem dL_act_488 : decode cL_act 488 = .ok (.ishr, 1) := by decide +kernel
theorem dL_act_489 : decode cL_act 489 = .ok (.iconst 4, 1) := by decide +kernel
theorem dL_act_490 : decode cL_act 490 = .ok (.invokestatic 19, 3) := by decide +kernel
theorem dL_act_493 : decode cL_act 493 = .ok (.ifCond .ne 8, 3) := by decide +kernel
theorem dL_act_496 : decode cL_act 496 = .ok (.bipush 25, 2) := by decide +kernel
theorem dL_act_498 : decode cL_act 498 = .ok (.goto 4, 3) := by decide +kernel
theorem dL_act_501 : decode cL_act 501 = .ok (.iconst 3, 1) := by decide +kernel
theorem dL_act_502 : decode cL_act 502 = .ok (.invokestatic 19, 3) := by decide +kernel
theorem dL_act_505 : decode cL_act 505 = .ok (.iadd, 1) := by decide +kernel
theorem dL_act_506 : decode cL_act 506 = .ok (.istore 13, 2) := by decide +kernel
theorem dL_act_508 : decode cL_act 508 = .ok (.iconst 0, 1) := by decide +kernel
theorem dL_act_509 : decode cL_act 509 = .ok (.istore 14, 2) := by decide +kernel
theorem dL_act_511 : decode cL_act 511 = .ok (.iconst 0, 1) := by decide +kernel
theorem dL_act_512 : decode cL_act 512 = .ok (.istore 15, 2) := by decide +kernel
theorem dL_act_514 : decode cL_act 514 = .ok (.iload 15, 2) := by decide +kernel
theorem dL_act_516 : decode cL_act 516 = .ok (.iload 13, 2) := by decide +kernel
theorem dL_act_518 : decode cL_act 518 = .ok (.if_icmp .ge 18, 3) := by decide +kernel
theorem dL_act_521 : decode cL_act 521 = .ok (.iload 14, 2) := by decide +kernel
theorem dL_act_523 : decode cL_act 523 = .ok (.aload_n 1, 1) := by decide +kernel
theorem dL_act_524 : decode cL_act 524 = .ok (.invokevirtual 58, 3) := by decide +kernel
theorem dL_act_527 : decode cL_act 527 = .ok (.iadd, 1) := by decide +kernel
theorem dL_act_528 : decode cL_act 528 = .ok (.istore 14, 2) := by decide +kernel
theorem dL_act_530 : decode cL_act 530 = .ok (.iinc 15 1, 3) := by decide +kernel
theorem dL_act_533 : decode cL_act 533 = .ok (.goto (-19), 3) := by decide +kernel
theorem dL_act_536 : decode cL_act 536 = .ok (.aload_n 0, 1) := by decide +kernel
theorem dL_act_537 : decode cL_act 537 = .ok (.iload 13, 2) := by decide +kernel
theorem dL_act_539 : decode cL_act 539 = .ok (.invokevirtual 62, 3) := by decide +kernel
theorem dL_act_542 : decode cL_act 542 = .ok (.iload 14, 2) := by decide +kernel
theorem dL_act_544 : decode cL_act 544 = .ok (.if_icmp .ne 7, 3) := by decide +kernel
theorem dL_act_547 : decode cL_act 547 = .ok (.iconst 1, 1) := by decide +kernel
theorem dL_act_548 : decode cL_act 548 = .ok (.goto 4, 3) := by decide +kernel
theorem dL_act_551 : decode cL_act 551 = .ok (.iconst 0, 1) := by decide +kernel
theorem dL_act_552 : decode cL_act 552 = .ok (.ireturn, 1) := by decide +kernel
