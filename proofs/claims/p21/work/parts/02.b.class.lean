theorem dX0_init_0 : decode cX0_init 0 = .ok (.aload_n 0, 1) := by decide +kernel
theorem dX0_init_1 : decode cX0_init 1 = .ok (.invokespecial 3, 3) := by decide +kernel
theorem dX0_init_4 : decode cX0_init 4 = .ok (.aload_n 0, 1) := by decide +kernel
theorem dX0_init_5 : decode cX0_init 5 = .ok (.bipush 40, 2) := by decide +kernel
theorem dX0_init_7 : decode cX0_init 7 = .ok (.newarray .int, 2) := by decide +kernel
theorem dX0_init_9 : decode cX0_init 9 = .ok (.putfield 9, 3) := by decide +kernel
theorem dX0_init_12 : decode cX0_init 12 = .ok (.aload_n 0, 1) := by decide +kernel
theorem dX0_init_13 : decode cX0_init 13 = .ok (.bipush 40, 2) := by decide +kernel
theorem dX0_init_15 : decode cX0_init 15 = .ok (.newarray .int, 2) := by decide +kernel
theorem dX0_init_17 : decode cX0_init 17 = .ok (.putfield 15, 3) := by decide +kernel
theorem dX0_init_20 : decode cX0_init 20 = .ok (.aload_n 0, 1) := by decide +kernel
theorem dX0_init_21 : decode cX0_init 21 = .ok (.bipush 40, 2) := by decide +kernel
theorem dX0_init_23 : decode cX0_init 23 = .ok (.newarray .int, 2) := by decide +kernel
theorem dX0_init_25 : decode cX0_init 25 = .ok (.putfield 18, 3) := by decide +kernel
theorem dX0_init_28 : decode cX0_init 28 = .ok (.return_, 1) := by decide +kernel
theorem dX0_clear_0 : decode cX0_clear 0 = .ok (.aload_n 0, 1) := by decide +kernel
theorem dX0_clear_1 : decode cX0_clear 1 = .ok (.iconst 0, 1) := by decide +kernel
theorem dX0_clear_2 : decode cX0_clear 2 = .ok (.putfield 21, 3) := by decide +kernel
theorem dX0_clear_5 : decode cX0_clear 5 = .ok (.return_, 1) := by decide +kernel
theorem dX0_addStep_0 : decode cX0_addStep 0 = .ok (.aload_n 0, 1) := by decide +kernel
theorem dX0_addStep_1 : decode cX0_addStep 1 = .ok (.getfield 21, 3) := by decide +kernel
theorem dX0_addStep_4 : decode cX0_addStep 4 = .ok (.aload_n 0, 1) := by decide +kernel
theorem dX0_addStep_5 : decode cX0_addStep 5 = .ok (.getfield 9, 3) := by decide +kernel
theorem dX0_addStep_8 : decode cX0_addStep 8 = .ok (.arraylength, 1) := by decide +kernel
theorem dX0_addStep_9 : decode cX0_addStep 9 = .ok (.if_icmp .ge 43, 3) := by decide +kernel
theorem dX0_addStep_12 : decode cX0_addStep 12 = .ok (.aload_n 0, 1) := by decide +kernel
theorem dX0_addStep_13 : decode cX0_addStep 13 = .ok (.getfield 9, 3) := by decide +kernel
theorem dX0_addStep_16 : decode cX0_addStep 16 = .ok (.aload_n 0, 1) := by decide +kernel
theorem dX0_addStep_17 : decode cX0_addStep 17 = .ok (.getfield 21, 3) := by decide +kernel
theorem dX0_addStep_20 : decode cX0_addStep 20 = .ok (.iload_n 1, 1) := by decide +kernel
theorem dX0_addStep_21 : decode cX0_addStep 21 = .ok (.iastore, 1) := by decide +kernel
theorem dX0_addStep_22 : decode cX0_addStep 22 = .ok (.aload_n 0, 1) := by decide +kernel
theorem dX0_addStep_23 : decode cX0_addStep 23 = .ok (.getfield 15, 3) := by decide +kernel
theorem dX0_addStep_26 : decode cX0_addStep 26 = .ok (.aload_n 0, 1) := by decide +kernel
theorem dX0_addStep_27 : decode cX0_addStep 27 = .ok (.getfield 21, 3) := by decide +kernel
theorem dX0_addStep_30 : decode cX0_addStep 30 = .ok (.iload_n 2, 1) := by decide +kernel
theorem dX0_addStep_31 : decode cX0_addStep 31 = .ok (.iastore, 1) := by decide +kernel
theorem dX0_addStep_32 : decode cX0_addStep 32 = .ok (.aload_n 0, 1) := by decide +kernel
theorem dX0_addStep_33 : decode cX0_addStep 33 = .ok (.getfield 18, 3) := by decide +kernel
theorem dX0_addStep_36 : decode cX0_addStep 36 = .ok (.aload_n 0, 1) := by decide +kernel
theorem dX0_addStep_37 : decode cX0_addStep 37 = .ok (.getfield 21, 3) := by decide +kernel
theorem dX0_addStep_40 : decode cX0_addStep 40 = .ok (.iload_n 3, 1) := by decide +kernel
theorem dX0_addStep_41 : decode cX0_addStep 41 = .ok (.iastore, 1) := by decide +kernel
theorem dX0_addStep_42 : decode cX0_addStep 42 = .ok (.aload_n 0, 1) := by decide +kernel
theorem dX0_addStep_43 : decode cX0_addStep 43 = .ok (.dup, 1) := by decide +kernel
theorem dX0_addStep_44 : decode cX0_addStep 44 = .ok (.getfield 21, 3) := by decide +kernel
theorem dX0_addStep_47 : decode cX0_addStep 47 = .ok (.iconst 1, 1) := by decide +kernel
theorem dX0_addStep_48 : decode cX0_addStep 48 = .ok (.iadd, 1) := by decide +kernel
theorem dX0_addStep_49 : decode cX0_addStep 49 = .ok (.putfield 21, 3) := by decide +kernel
theorem dX0_addStep_52 : decode cX0_addStep 52 = .ok (.return_, 1) := by decide +kernel
theorem dX0_search_0 : decode cX0_search 0 = .ok (.iconst 0, 1) := by decide +kernel
theorem dX0_search_1 : decode cX0_search 1 = .ok (.istore_n 3, 1) := by decide +kernel
theorem dX0_search_2 : decode cX0_search 2 = .ok (.iload_n 3, 1) := by decide +kernel
theorem dX0_search_3 : decode cX0_search 3 = .ok (.aload_n 2, 1) := by decide +kernel
theorem dX0_search_4 : decode cX0_search 4 = .ok (.arraylength, 1) := by decide +kernel
theorem dX0_search_5 : decode cX0_search 5 = .ok (.if_icmp .ge 14, 3) := by decide +kernel
theorem dX0_search_8 : decode cX0_search 8 = .ok (.aload_n 2, 1) := by decide +kernel
theorem dX0_search_9 : decode cX0_search 9 = .ok (.iload_n 3, 1) := by decide +kernel
theorem dX0_search_10 : decode cX0_search 10 = .ok (.ldc 25, 2) := by decide +kernel
theorem dX0_search_12 : decode cX0_search 12 = .ok (.iastore, 1) := by decide +kernel
theorem dX0_search_13 : decode cX0_search 13 = .ok (.iinc 3 1, 3) := by decide +kernel
theorem dX0_search_16 : decode cX0_search 16 = .ok (.goto (-14), 3) := by decide +kernel
theorem dX0_search_19 : decode cX0_search 19 = .ok (.aload_n 2, 1) := by decide +kernel
theorem dX0_search_20 : decode cX0_search 20 = .ok (.iload_n 1, 1) := by decide +kernel
theorem dX0_search_21 : decode cX0_search 21 = .ok (.iload_n 1, 1) := by decide +kernel
theorem dX0_search_22 : decode cX0_search 22 = .ok (.iastore, 1) := by decide +kernel
theorem dX0_search_23 : decode cX0_search 23 = .ok (.iconst 1, 1) := by decide +kernel
theorem dX0_search_24 : decode cX0_search 24 = .ok (.istore_n 3, 1) := by decide +kernel
theorem dX0_search_25 : decode cX0_search 25 = .ok (.iconst 0, 1) := by decide +kernel
theorem dX0_search_26 : decode cX0_search 26 = .ok (.istore 4, 2) := by decide +kernel
theorem dX0_search_28 : decode cX0_search 28 = .ok (.iload 4, 2) := by decide +kernel
theorem dX0_search_30 : decode cX0_search 30 = .ok (.bipush 10, 2) := by decide +kernel
theorem dX0_search_32 : decode cX0_search 32 = .ok (.if_icmp .ge 125, 3) := by decide +kernel
theorem dX0_search_35 : decode cX0_search 35 = .ok (.iload_n 3, 1) := by decide +kernel
theorem dX0_search_36 : decode cX0_search 36 = .ok (.ifCond .eq 121, 3) := by decide +kernel
theorem dX0_search_39 : decode cX0_search 39 = .ok (.iconst 0, 1) := by decide +kernel
theorem dX0_search_40 : decode cX0_search 40 = .ok (.istore_n 3, 1) := by decide +kernel
theorem dX0_search_41 : decode cX0_search 41 = .ok (.iconst 0, 1) := by decide +kernel
theorem dX0_search_42 : decode cX0_search 42 = .ok (.istore 5, 2) := by decide +kernel
theorem dX0_search_44 : decode cX0_search 44 = .ok (.iload 5, 2) := by decide +kernel
theorem dX0_search_46 : decode cX0_search 46 = .ok (.aload_n 0, 1) := by decide +kernel
theorem dX0_search_47 : decode cX0_search 47 = .ok (.getfield 21, 3) := by decide +kernel
theorem dX0_search_50 : decode cX0_search 50 = .ok (.if_icmp .ge 101, 3) := by decide +kernel
theorem dX0_search_53 : decode cX0_search 53 = .ok (.aload_n 2, 1) := by decide +kernel
theorem dX0_search_54 : decode cX0_search 54 = .ok (.aload_n 0, 1) := by decide +kernel
theorem dX0_search_55 : decode cX0_search 55 = .ok (.getfield 9, 3) := by decide +kernel
theorem dX0_search_58 : decode cX0_search 58 = .ok (.iload 5, 2) := by decide +kernel
theorem dX0_search_60 : decode cX0_search 60 = .ok (.iaload, 1) := by decide +kernel
theorem dX0_search_61 : decode cX0_search 61 = .ok (.iaload, 1) := by decide +kernel
theorem dX0_search_62 : decode cX0_search 62 = .ok (.istore 6, 2) := by decide +kernel
theorem dX0_search_64 : decode cX0_search 64 = .ok (.iload 6, 2) := by decide +kernel
theorem dX0_search_66 : decode cX0_search 66 = .ok (.ldc 25, 2) := by decide +kernel
theorem dX0_search_68 : decode cX0_search 68 = .ok (.if_icmp .ne 6, 3) := by decide +kernel
theorem dX0_search_71 : decode cX0_search 71 = .ok (.goto 74, 3) := by decide +kernel
theorem dX0_search_74 : decode cX0_search 74 = .ok (.iload 6, 2) := by decide +kernel
theorem dX0_search_76 : decode cX0_search 76 = .ok (.aload_n 0, 1) := by decide +kernel
theorem dX0_search_77 : decode cX0_search 77 = .ok (.getfield 18, 3) := by decide +kernel
theorem dX0_search_80 : decode cX0_search 80 = .ok (.iload 5, 2) := by decide +kernel
theorem dX0_search_82 : decode cX0_search 82 = .ok (.iaload, 1) := by decide +kernel
theorem dX0_search_83 : decode cX0_search 83 = .ok (.sipush 256, 3) := by decide +kernel
theorem dX0_search_86 : decode cX0_search 86 = .ok (.imul, 1) := by decide +kernel
theorem dX0_search_87 : decode cX0_search 87 = .ok (.bipush 16, 2) := by decide +kernel
theorem dX0_search_89 : decode cX0_search 89 = .ok (.iadd, 1) := by decide +kernel
theorem dX0_search_90 : decode cX0_search 90 = .ok (.iadd, 1) := by decide +kernel
theorem dX0_search_91 : decode cX0_search 91 = .ok (.istore 6, 2) := by decide +kernel
theorem dX0_search_93 : decode cX0_search 93 = .ok (.aload_n 0, 1) := by decide +kernel
theorem dX0_search_94 : decode cX0_search 94 = .ok (.getfield 9, 3) := by decide +kernel
theorem dX0_search_97 : decode cX0_search 97 = .ok (.iload 5, 2) := by decide +kernel
theorem dX0_search_99 : decode cX0_search 99 = .ok (.iaload, 1) := by decide +kernel
theorem dX0_search_100 : decode cX0_search 100 = .ok (.iload_n 1, 1) := by decide +kernel
theorem dX0_search_101 : decode cX0_search 101 = .ok (.if_icmp .ne 17, 3) := by decide +kernel
theorem dX0_search_104 : decode cX0_search 104 = .ok (.iload 6, 2) := by decide +kernel
theorem dX0_search_106 : decode cX0_search 106 = .ok (.aload_n 0, 1) := by decide +kernel
theorem dX0_search_107 : decode cX0_search 107 = .ok (.getfield 15, 3) := by decide +kernel
theorem dX0_search_110 : decode cX0_search 110 = .ok (.iload 5, 2) := by decide +kernel
theorem dX0_search_112 : decode cX0_search 112 = .ok (.iaload, 1) := by decide +kernel
theorem dX0_search_113 : decode cX0_search 113 = .ok (.iload_n 1, 1) := by decide +kernel
theorem dX0_search_114 : decode cX0_search 114 = .ok (.isub, 1) := by decide +kernel
theorem dX0_search_115 : decode cX0_search 115 = .ok (.iadd, 1) := by decide +kernel
theorem dX0_search_116 : decode cX0_search 116 = .ok (.istore 6, 2) := by decide +kernel
theorem dX0_search_118 : decode cX0_search 118 = .ok (.iload 6, 2) := by decide +kernel
theorem dX0_search_120 : decode cX0_search 120 = .ok (.aload_n 2, 1) := by decide +kernel
theorem dX0_search_121 : decode cX0_search 121 = .ok (.aload_n 0, 1) := by decide +kernel
theorem dX0_search_122 : decode cX0_search 122 = .ok (.getfield 15, 3) := by decide +kernel
theorem dX0_search_125 : decode cX0_search 125 = .ok (.iload 5, 2) := by decide +kernel
theorem dX0_search_127 : decode cX0_search 127 = .ok (.iaload, 1) := by decide +kernel
theorem dX0_search_128 : decode cX0_search 128 = .ok (.iaload, 1) := by decide +kernel
theorem dX0_search_129 : decode cX0_search 129 = .ok (.if_icmp .ge 16, 3) := by decide +kernel
theorem dX0_search_132 : decode cX0_search 132 = .ok (.aload_n 2, 1) := by decide +kernel
theorem dX0_search_133 : decode cX0_search 133 = .ok (.aload_n 0, 1) := by decide +kernel
theorem dX0_search_134 : decode cX0_search 134 = .ok (.getfield 15, 3) := by decide +kernel
theorem dX0_search_137 : decode cX0_search 137 = .ok (.iload 5, 2) := by decide +kernel
theorem dX0_search_139 : decode cX0_search 139 = .ok (.iaload, 1) := by decide +kernel
theorem dX0_search_140 : decode cX0_search 140 = .ok (.iload 6, 2) := by decide +kernel
theorem dX0_search_142 : decode cX0_search 142 = .ok (.iastore, 1) := by decide +kernel
theorem dX0_search_143 : decode cX0_search 143 = .ok (.iconst 1, 1) := by decide +kernel
theorem dX0_search_144 : decode cX0_search 144 = .ok (.istore_n 3, 1) := by decide +kernel
theorem dX0_search_145 : decode cX0_search 145 = .ok (.iinc 5 1, 3) := by decide +kernel
theorem dX0_search_148 : decode cX0_search 148 = .ok (.goto (-104), 3) := by decide +kernel
theorem dX0_search_151 : decode cX0_search 151 = .ok (.iinc 4 1, 3) := by decide +kernel
theorem dX0_search_154 : decode cX0_search 154 = .ok (.goto (-126), 3) := by decide +kernel
theorem dX0_search_157 : decode cX0_search 157 = .ok (.return_, 1) := by decide +kernel
theorem dX1_init_0 : decode cX1_init 0 = .ok (.aload_n 0, 1) := by decide +kernel
theorem dX1_init_1 : decode cX1_init 1 = .ok (.invokespecial 3, 3) := by decide +kernel
theorem dX1_init_4 : decode cX1_init 4 = .ok (.aload_n 0, 1) := by decide +kernel
theorem dX1_init_5 : decode cX1_init 5 = .ok (.bipush 10, 2) := by decide +kernel
theorem dX1_init_7 : decode cX1_init 7 = .ok (.newarray .int, 2) := by decide +kernel
theorem dX1_init_9 : decode cX1_init 9 = .ok (.putfield 9, 3) := by decide +kernel
theorem dX1_init_12 : decode cX1_init 12 = .ok (.aload_n 0, 1) := by decide +kernel
theorem dX1_init_13 : decode cX1_init 13 = .ok (.bipush 20, 2) := by decide +kernel
theorem dX1_init_15 : decode cX1_init 15 = .ok (.newarray .int, 2) := by decide +kernel
theorem dX1_init_17 : decode cX1_init 17 = .ok (.putfield 15, 3) := by decide +kernel
theorem dX1_init_20 : decode cX1_init 20 = .ok (.aload_n 0, 1) := by decide +kernel
theorem dX1_init_21 : decode cX1_init 21 = .ok (.bipush 20, 2) := by decide +kernel
theorem dX1_init_23 : decode cX1_init 23 = .ok (.newarray .int, 2) := by decide +kernel
theorem dX1_init_25 : decode cX1_init 25 = .ok (.putfield 18, 3) := by decide +kernel
theorem dX1_init_28 : decode cX1_init 28 = .ok (.aload_n 0, 1) := by decide +kernel
theorem dX1_init_29 : decode cX1_init 29 = .ok (.bipush 20, 2) := by decide +kernel
theorem dX1_init_31 : decode cX1_init 31 = .ok (.newarray .int, 2) := by decide +kernel
theorem dX1_init_33 : decode cX1_init 33 = .ok (.putfield 21, 3) := by decide +kernel
theorem dX1_init_36 : decode cX1_init 36 = .ok (.aload_n 0, 1) := by decide +kernel
theorem dX1_init_37 : decode cX1_init 37 = .ok (.bipush 20, 2) := by decide +kernel
theorem dX1_init_39 : decode cX1_init 39 = .ok (.newarray .boolean, 2) := by decide +kernel
theorem dX1_init_41 : decode cX1_init 41 = .ok (.putfield 24, 3) := by decide +kernel
theorem dX1_init_44 : decode cX1_init 44 = .ok (.return_, 1) := by decide +kernel
theorem dX1_huts_0 : decode cX1_huts 0 = .ok (.aload_n 0, 1) := by decide +kernel
theorem dX1_huts_1 : decode cX1_huts 1 = .ok (.getfield 28, 3) := by decide +kernel
theorem dX1_huts_4 : decode cX1_huts 4 = .ok (.ireturn, 1) := by decide +kernel
theorem dX1_passes_0 : decode cX1_passes 0 = .ok (.aload_n 0, 1) := by decide +kernel
theorem dX1_passes_1 : decode cX1_passes 1 = .ok (.getfield 32, 3) := by decide +kernel
theorem dX1_passes_4 : decode cX1_passes 4 = .ok (.ireturn, 1) := by decide +kernel
theorem dX1_area_0 : decode cX1_area 0 = .ok (.aload_n 0, 1) := by decide +kernel
theorem dX1_area_1 : decode cX1_area 1 = .ok (.getfield 9, 3) := by decide +kernel
theorem dX1_area_4 : decode cX1_area 4 = .ok (.iload_n 1, 1) := by decide +kernel
theorem dX1_area_5 : decode cX1_area 5 = .ok (.iaload, 1) := by decide +kernel
theorem dX1_area_6 : decode cX1_area 6 = .ok (.ireturn, 1) := by decide +kernel
theorem dX1_first_0 : decode cX1_first 0 = .ok (.aload_n 0, 1) := by decide +kernel
theorem dX1_first_1 : decode cX1_first 1 = .ok (.getfield 15, 3) := by decide +kernel
theorem dX1_first_4 : decode cX1_first 4 = .ok (.iload_n 1, 1) := by decide +kernel
theorem dX1_first_5 : decode cX1_first 5 = .ok (.iaload, 1) := by decide +kernel
theorem dX1_first_6 : decode cX1_first 6 = .ok (.ireturn, 1) := by decide +kernel
theorem dX1_second_0 : decode cX1_second 0 = .ok (.aload_n 0, 1) := by decide +kernel
theorem dX1_second_1 : decode cX1_second 1 = .ok (.getfield 18, 3) := by decide +kernel
theorem dX1_second_4 : decode cX1_second 4 = .ok (.iload_n 1, 1) := by decide +kernel
theorem dX1_second_5 : decode cX1_second 5 = .ok (.iaload, 1) := by decide +kernel
theorem dX1_second_6 : decode cX1_second 6 = .ok (.ireturn, 1) := by decide +kernel
theorem dX1_length_0 : decode cX1_length 0 = .ok (.aload_n 0, 1) := by decide +kernel
theorem dX1_length_1 : decode cX1_length 1 = .ok (.getfield 21, 3) := by decide +kernel
theorem dX1_length_4 : decode cX1_length 4 = .ok (.iload_n 1, 1) := by decide +kernel
theorem dX1_length_5 : decode cX1_length 5 = .ok (.iaload, 1) := by decide +kernel
theorem dX1_length_6 : decode cX1_length 6 = .ok (.ireturn, 1) := by decide +kernel
theorem dX1_isOpen_0 : decode cX1_isOpen 0 = .ok (.aload_n 0, 1) := by decide +kernel
theorem dX1_isOpen_1 : decode cX1_isOpen 1 = .ok (.getfield 24, 3) := by decide +kernel
theorem dX1_isOpen_4 : decode cX1_isOpen 4 = .ok (.iload_n 1, 1) := by decide +kernel
theorem dX1_isOpen_5 : decode cX1_isOpen 5 = .ok (.baload, 1) := by decide +kernel
theorem dX1_isOpen_6 : decode cX1_isOpen 6 = .ok (.ireturn, 1) := by decide +kernel
theorem dX1_addHut_0 : decode cX1_addHut 0 = .ok (.aload_n 0, 1) := by decide +kernel
theorem dX1_addHut_1 : decode cX1_addHut 1 = .ok (.getfield 28, 3) := by decide +kernel
theorem dX1_addHut_4 : decode cX1_addHut 4 = .ok (.bipush 10, 2) := by decide +kernel
theorem dX1_addHut_6 : decode cX1_addHut 6 = .ok (.if_icmp .lt 5, 3) := by decide +kernel
theorem dX1_addHut_9 : decode cX1_addHut 9 = .ok (.iconst (-1), 1) := by decide +kernel
theorem dX1_addHut_10 : decode cX1_addHut 10 = .ok (.ireturn, 1) := by decide +kernel
theorem dX1_addHut_11 : decode cX1_addHut 11 = .ok (.aload_n 0, 1) := by decide +kernel
theorem dX1_addHut_12 : decode cX1_addHut 12 = .ok (.getfield 9, 3) := by decide +kernel
theorem dX1_addHut_15 : decode cX1_addHut 15 = .ok (.aload_n 0, 1) := by decide +kernel
theorem dX1_addHut_16 : decode cX1_addHut 16 = .ok (.getfield 28, 3) := by decide +kernel
theorem dX1_addHut_19 : decode cX1_addHut 19 = .ok (.iload_n 1, 1) := by decide +kernel
theorem dX1_addHut_20 : decode cX1_addHut 20 = .ok (.iastore, 1) := by decide +kernel
theorem dX1_addHut_21 : decode cX1_addHut 21 = .ok (.aload_n 0, 1) := by decide +kernel
theorem dX1_addHut_22 : decode cX1_addHut 22 = .ok (.dup, 1) := by decide +kernel
theorem dX1_addHut_23 : decode cX1_addHut 23 = .ok (.getfield 28, 3) := by decide +kernel
theorem dX1_addHut_26 : decode cX1_addHut 26 = .ok (.iconst 1, 1) := by decide +kernel
theorem dX1_addHut_27 : decode cX1_addHut 27 = .ok (.iadd, 1) := by decide +kernel
theorem dX1_addHut_28 : decode cX1_addHut 28 = .ok (.putfield 28, 3) := by decide +kernel
theorem dX1_addHut_31 : decode cX1_addHut 31 = .ok (.aload_n 0, 1) := by decide +kernel
theorem dX1_addHut_32 : decode cX1_addHut 32 = .ok (.getfield 28, 3) := by decide +kernel
theorem dX1_addHut_35 : decode cX1_addHut 35 = .ok (.iconst 1, 1) := by decide +kernel
theorem dX1_addHut_36 : decode cX1_addHut 36 = .ok (.isub, 1) := by decide +kernel
theorem dX1_addHut_37 : decode cX1_addHut 37 = .ok (.ireturn, 1) := by decide +kernel
theorem dX1_addPass_0 : decode cX1_addPass 0 = .ok (.aload_n 0, 1) := by decide +kernel
theorem dX1_addPass_1 : decode cX1_addPass 1 = .ok (.getfield 32, 3) := by decide +kernel
theorem dX1_addPass_4 : decode cX1_addPass 4 = .ok (.bipush 20, 2) := by decide +kernel
theorem dX1_addPass_6 : decode cX1_addPass 6 = .ok (.if_icmp .lt 5, 3) := by decide +kernel
theorem dX1_addPass_9 : decode cX1_addPass 9 = .ok (.iconst (-1), 1) := by decide +kernel
theorem dX1_addPass_10 : decode cX1_addPass 10 = .ok (.ireturn, 1) := by decide +kernel
theorem dX1_addPass_11 : decode cX1_addPass 11 = .ok (.aload_n 0, 1) := by decide +kernel
theorem dX1_addPass_12 : decode cX1_addPass 12 = .ok (.getfield 15, 3) := by decide +kernel
theorem dX1_addPass_15 : decode cX1_addPass 15 = .ok (.aload_n 0, 1) := by decide +kernel
theorem dX1_addPass_16 : decode cX1_addPass 16 = .ok (.getfield 32, 3) := by decide +kernel
theorem dX1_addPass_19 : decode cX1_addPass 19 = .ok (.iload_n 1, 1) := by decide +kernel
theorem dX1_addPass_20 : decode cX1_addPass 20 = .ok (.iastore, 1) := by decide +kernel
theorem dX1_addPass_21 : decode cX1_addPass 21 = .ok (.aload_n 0, 1) := by decide +kernel
theorem dX1_addPass_22 : decode cX1_addPass 22 = .ok (.getfield 18, 3) := by decide +kernel
theorem dX1_addPass_25 : decode cX1_addPass 25 = .ok (.aload_n 0, 1) := by decide +kernel
theorem dX1_addPass_26 : decode cX1_addPass 26 = .ok (.getfield 32, 3) := by decide +kernel
theorem dX1_addPass_29 : decode cX1_addPass 29 = .ok (.iload_n 2, 1) := by decide +kernel
theorem dX1_addPass_30 : decode cX1_addPass 30 = .ok (.iastore, 1) := by decide +kernel
theorem dX1_addPass_31 : decode cX1_addPass 31 = .ok (.aload_n 0, 1) := by decide +kernel
theorem dX1_addPass_32 : decode cX1_addPass 32 = .ok (.getfield 21, 3) := by decide +kernel
theorem dX1_addPass_35 : decode cX1_addPass 35 = .ok (.aload_n 0, 1) := by decide +kernel
theorem dX1_addPass_36 : decode cX1_addPass 36 = .ok (.getfield 32, 3) := by decide +kernel
theorem dX1_addPass_39 : decode cX1_addPass 39 = .ok (.iload_n 3, 1) := by decide +kernel
theorem dX1_addPass_40 : decode cX1_addPass 40 = .ok (.iastore, 1) := by decide +kernel
theorem dX1_addPass_41 : decode cX1_addPass 41 = .ok (.aload_n 0, 1) := by decide +kernel
theorem dX1_addPass_42 : decode cX1_addPass 42 = .ok (.getfield 24, 3) := by decide +kernel
theorem dX1_addPass_45 : decode cX1_addPass 45 = .ok (.aload_n 0, 1) := by decide +kernel
theorem dX1_addPass_46 : decode cX1_addPass 46 = .ok (.getfield 32, 3) := by decide +kernel
theorem dX1_addPass_49 : decode cX1_addPass 49 = .ok (.iconst 1, 1) := by decide +kernel
theorem dX1_addPass_50 : decode cX1_addPass 50 = .ok (.bastore, 1) := by decide +kernel
theorem dX1_addPass_51 : decode cX1_addPass 51 = .ok (.aload_n 0, 1) := by decide +kernel
theorem dX1_addPass_52 : decode cX1_addPass 52 = .ok (.dup, 1) := by decide +kernel
theorem dX1_addPass_53 : decode cX1_addPass 53 = .ok (.getfield 32, 3) := by decide +kernel
theorem dX1_addPass_56 : decode cX1_addPass 56 = .ok (.iconst 1, 1) := by decide +kernel
theorem dX1_addPass_57 : decode cX1_addPass 57 = .ok (.iadd, 1) := by decide +kernel
theorem dX1_addPass_58 : decode cX1_addPass 58 = .ok (.putfield 32, 3) := by decide +kernel
theorem dX1_addPass_61 : decode cX1_addPass 61 = .ok (.aload_n 0, 1) := by decide +kernel
theorem dX1_addPass_62 : decode cX1_addPass 62 = .ok (.getfield 32, 3) := by decide +kernel
theorem dX1_addPass_65 : decode cX1_addPass 65 = .ok (.iconst 1, 1) := by decide +kernel
theorem dX1_addPass_66 : decode cX1_addPass 66 = .ok (.isub, 1) := by decide +kernel
theorem dX1_addPass_67 : decode cX1_addPass 67 = .ok (.ireturn, 1) := by decide +kernel
theorem dX1_changeLength_0 : decode cX1_changeLength 0 = .ok (.aload_n 0, 1) := by decide +kernel
theorem dX1_changeLength_1 : decode cX1_changeLength 1 = .ok (.getfield 21, 3) := by decide +kernel
theorem dX1_changeLength_4 : decode cX1_changeLength 4 = .ok (.iload_n 1, 1) := by decide +kernel
theorem dX1_changeLength_5 : decode cX1_changeLength 5 = .ok (.iaload, 1) := by decide +kernel
theorem dX1_changeLength_6 : decode cX1_changeLength 6 = .ok (.istore_n 3, 1) := by decide +kernel
theorem dX1_changeLength_7 : decode cX1_changeLength 7 = .ok (.aload_n 0, 1) := by decide +kernel
theorem dX1_changeLength_8 : decode cX1_changeLength 8 = .ok (.getfield 21, 3) := by decide +kernel
theorem dX1_changeLength_11 : decode cX1_changeLength 11 = .ok (.iload_n 1, 1) := by decide +kernel
theorem dX1_changeLength_12 : decode cX1_changeLength 12 = .ok (.iload_n 2, 1) := by decide +kernel
theorem dX1_changeLength_13 : decode cX1_changeLength 13 = .ok (.iastore, 1) := by decide +kernel
theorem dX1_changeLength_14 : decode cX1_changeLength 14 = .ok (.iload_n 3, 1) := by decide +kernel
theorem dX1_changeLength_15 : decode cX1_changeLength 15 = .ok (.ireturn, 1) := by decide +kernel
theorem dX1_changeOpen_0 : decode cX1_changeOpen 0 = .ok (.aload_n 0, 1) := by decide +kernel
theorem dX1_changeOpen_1 : decode cX1_changeOpen 1 = .ok (.getfield 24, 3) := by decide +kernel
theorem dX1_changeOpen_4 : decode cX1_changeOpen 4 = .ok (.iload_n 1, 1) := by decide +kernel
theorem dX1_changeOpen_5 : decode cX1_changeOpen 5 = .ok (.baload, 1) := by decide +kernel
theorem dX1_changeOpen_6 : decode cX1_changeOpen 6 = .ok (.istore_n 3, 1) := by decide +kernel
theorem dX1_changeOpen_7 : decode cX1_changeOpen 7 = .ok (.aload_n 0, 1) := by decide +kernel
theorem dX1_changeOpen_8 : decode cX1_changeOpen 8 = .ok (.getfield 24, 3) := by decide +kernel
theorem dX1_changeOpen_11 : decode cX1_changeOpen 11 = .ok (.iload_n 1, 1) := by decide +kernel
theorem dX1_changeOpen_12 : decode cX1_changeOpen 12 = .ok (.iload_n 2, 1) := by decide +kernel
theorem dX1_changeOpen_13 : decode cX1_changeOpen 13 = .ok (.bastore, 1) := by decide +kernel
theorem dX1_changeOpen_14 : decode cX1_changeOpen 14 = .ok (.iload_n 3, 1) := by decide +kernel
theorem dX1_changeOpen_15 : decode cX1_changeOpen 15 = .ok (.ireturn, 1) := by decide +kernel
theorem dX1_openPasses_0 : decode cX1_openPasses 0 = .ok (.iconst 0, 1) := by decide +kernel
theorem dX1_openPasses_1 : decode cX1_openPasses 1 = .ok (.istore_n 1, 1) := by decide +kernel
theorem dX1_openPasses_2 : decode cX1_openPasses 2 = .ok (.iconst 0, 1) := by decide +kernel
theorem dX1_openPasses_3 : decode cX1_openPasses 3 = .ok (.istore_n 2, 1) := by decide +kernel
theorem dX1_openPasses_4 : decode cX1_openPasses 4 = .ok (.iload_n 2, 1) := by decide +kernel
theorem dX1_openPasses_5 : decode cX1_openPasses 5 = .ok (.aload_n 0, 1) := by decide +kernel
theorem dX1_openPasses_6 : decode cX1_openPasses 6 = .ok (.getfield 32, 3) := by decide +kernel
theorem dX1_openPasses_9 : decode cX1_openPasses 9 = .ok (.if_icmp .ge 21, 3) := by decide +kernel
theorem dX1_openPasses_12 : decode cX1_openPasses 12 = .ok (.aload_n 0, 1) := by decide +kernel
theorem dX1_openPasses_13 : decode cX1_openPasses 13 = .ok (.getfield 24, 3) := by decide +kernel
theorem dX1_openPasses_16 : decode cX1_openPasses 16 = .ok (.iload_n 2, 1) := by decide +kernel
theorem dX1_openPasses_17 : decode cX1_openPasses 17 = .ok (.baload, 1) := by decide +kernel
theorem dX1_openPasses_18 : decode cX1_openPasses 18 = .ok (.ifCond .eq 6, 3) := by decide +kernel
theorem dX1_openPasses_21 : decode cX1_openPasses 21 = .ok (.iinc 1 1, 3) := by decide +kernel
theorem dX1_openPasses_24 : decode cX1_openPasses 24 = .ok (.iinc 2 1, 3) := by decide +kernel
theorem dX1_openPasses_27 : decode cX1_openPasses 27 = .ok (.goto (-23), 3) := by decide +kernel
theorem dX1_openPasses_30 : decode cX1_openPasses 30 = .ok (.iload_n 1, 1) := by decide +kernel
theorem dX1_openPasses_31 : decode cX1_openPasses 31 = .ok (.ireturn, 1) := by decide +kernel
theorem dX1_takesIn_0 : decode cX1_takesIn 0 = .ok (.aload_n 0, 1) := by decide +kernel
theorem dX1_takesIn_1 : decode cX1_takesIn 1 = .ok (.getfield 9, 3) := by decide +kernel
theorem dX1_takesIn_4 : decode cX1_takesIn 4 = .ok (.iload_n 1, 1) := by decide +kernel
theorem dX1_takesIn_5 : decode cX1_takesIn 5 = .ok (.iaload, 1) := by decide +kernel
theorem dX1_takesIn_6 : decode cX1_takesIn 6 = .ok (.ifCond .eq 27, 3) := by decide +kernel
theorem dX1_takesIn_9 : decode cX1_takesIn 9 = .ok (.aload_n 0, 1) := by decide +kernel
theorem dX1_takesIn_10 : decode cX1_takesIn 10 = .ok (.getfield 9, 3) := by decide +kernel
theorem dX1_takesIn_13 : decode cX1_takesIn 13 = .ok (.iload_n 2, 1) := by decide +kernel
theorem dX1_takesIn_14 : decode cX1_takesIn 14 = .ok (.iaload, 1) := by decide +kernel
theorem dX1_takesIn_15 : decode cX1_takesIn 15 = .ok (.ifCond .eq 18, 3) := by decide +kernel
theorem dX1_takesIn_18 : decode cX1_takesIn 18 = .ok (.aload_n 0, 1) := by decide +kernel
theorem dX1_takesIn_19 : decode cX1_takesIn 19 = .ok (.getfield 9, 3) := by decide +kernel
theorem dX1_takesIn_22 : decode cX1_takesIn 22 = .ok (.iload_n 1, 1) := by decide +kernel
theorem dX1_takesIn_23 : decode cX1_takesIn 23 = .ok (.iaload, 1) := by decide +kernel
theorem dX1_takesIn_24 : decode cX1_takesIn 24 = .ok (.aload_n 0, 1) := by decide +kernel
theorem dX1_takesIn_25 : decode cX1_takesIn 25 = .ok (.getfield 9, 3) := by decide +kernel
theorem dX1_takesIn_28 : decode cX1_takesIn 28 = .ok (.iload_n 2, 1) := by decide +kernel
theorem dX1_takesIn_29 : decode cX1_takesIn 29 = .ok (.iaload, 1) := by decide +kernel
theorem dX1_takesIn_30 : decode cX1_takesIn 30 = .ok (.if_icmp .ne 7, 3) := by decide +kernel
theorem dX1_takesIn_33 : decode cX1_takesIn 33 = .ok (.iconst 1, 1) := by decide +kernel
theorem dX1_takesIn_34 : decode cX1_takesIn 34 = .ok (.goto 4, 3) := by decide +kernel
theorem dX1_takesIn_37 : decode cX1_takesIn 37 = .ok (.iconst 0, 1) := by decide +kernel
theorem dX1_takesIn_38 : decode cX1_takesIn 38 = .ok (.ireturn, 1) := by decide +kernel
theorem dX1_tellsNow_0 : decode cX1_tellsNow 0 = .ok (.aload_n 0, 1) := by decide +kernel
theorem dX1_tellsNow_1 : decode cX1_tellsNow 1 = .ok (.getfield 15, 3) := by decide +kernel
theorem dX1_tellsNow_4 : decode cX1_tellsNow 4 = .ok (.iload_n 2, 1) := by decide +kernel
theorem dX1_tellsNow_5 : decode cX1_tellsNow 5 = .ok (.iaload, 1) := by decide +kernel
theorem dX1_tellsNow_6 : decode cX1_tellsNow 6 = .ok (.iload_n 1, 1) := by decide +kernel
theorem dX1_tellsNow_7 : decode cX1_tellsNow 7 = .ok (.if_icmp .eq 13, 3) := by decide +kernel
theorem dX1_tellsNow_10 : decode cX1_tellsNow 10 = .ok (.aload_n 0, 1) := by decide +kernel
theorem dX1_tellsNow_11 : decode cX1_tellsNow 11 = .ok (.getfield 18, 3) := by decide +kernel
theorem dX1_tellsNow_14 : decode cX1_tellsNow 14 = .ok (.iload_n 2, 1) := by decide +kernel
theorem dX1_tellsNow_15 : decode cX1_tellsNow 15 = .ok (.iaload, 1) := by decide +kernel
theorem dX1_tellsNow_16 : decode cX1_tellsNow 16 = .ok (.iload_n 1, 1) := by decide +kernel
theorem dX1_tellsNow_17 : decode cX1_tellsNow 17 = .ok (.if_icmp .ne 7, 3) := by decide +kernel
theorem dX1_tellsNow_20 : decode cX1_tellsNow 20 = .ok (.iconst 1, 1) := by decide +kernel
theorem dX1_tellsNow_21 : decode cX1_tellsNow 21 = .ok (.goto 4, 3) := by decide +kernel
theorem dX1_tellsNow_24 : decode cX1_tellsNow 24 = .ok (.iconst 0, 1) := by decide +kernel
theorem dX1_tellsNow_25 : decode cX1_tellsNow 25 = .ok (.istore_n 3, 1) := by decide +kernel
theorem dX1_tellsNow_26 : decode cX1_tellsNow 26 = .ok (.iload_n 3, 1) := by decide +kernel
theorem dX1_tellsNow_27 : decode cX1_tellsNow 27 = .ok (.ifCond .eq 21, 3) := by decide +kernel
theorem dX1_tellsNow_30 : decode cX1_tellsNow 30 = .ok (.aload_n 0, 1) := by decide +kernel
theorem dX1_tellsNow_31 : decode cX1_tellsNow 31 = .ok (.getfield 24, 3) := by decide +kernel
theorem dX1_tellsNow_34 : decode cX1_tellsNow 34 = .ok (.iload_n 2, 1) := by decide +kernel
theorem dX1_tellsNow_35 : decode cX1_tellsNow 35 = .ok (.baload, 1) := by decide +kernel
theorem dX1_tellsNow_36 : decode cX1_tellsNow 36 = .ok (.ifCond .eq 12, 3) := by decide +kernel
theorem dX1_tellsNow_39 : decode cX1_tellsNow 39 = .ok (.aload_n 0, 1) := by decide +kernel
theorem dX1_tellsNow_40 : decode cX1_tellsNow 40 = .ok (.getfield 21, 3) := by decide +kernel
theorem dX1_tellsNow_43 : decode cX1_tellsNow 43 = .ok (.iload_n 2, 1) := by decide +kernel
theorem dX1_tellsNow_44 : decode cX1_tellsNow 44 = .ok (.iaload, 1) := by decide +kernel
theorem dX1_tellsNow_45 : decode cX1_tellsNow 45 = .ok (.goto 4, 3) := by decide +kernel
theorem dX1_tellsNow_48 : decode cX1_tellsNow 48 = .ok (.iconst 0, 1) := by decide +kernel
theorem dX1_tellsNow_49 : decode cX1_tellsNow 49 = .ok (.ireturn, 1) := by decide +kernel
theorem dX1_isStep_0 : decode cX1_isStep 0 = .ok (.iconst 0, 1) := by decide +kernel
theorem dX1_isStep_1 : decode cX1_isStep 1 = .ok (.istore_n 3, 1) := by decide +kernel
theorem dX1_isStep_2 : decode cX1_isStep 2 = .ok (.iload_n 3, 1) := by decide +kernel
theorem dX1_isStep_3 : decode cX1_isStep 3 = .ok (.aload_n 0, 1) := by decide +kernel
theorem dX1_isStep_4 : decode cX1_isStep 4 = .ok (.getfield 32, 3) := by decide +kernel
theorem dX1_isStep_7 : decode cX1_isStep 7 = .ok (.if_icmp .ge 84, 3) := by decide +kernel
theorem dX1_isStep_10 : decode cX1_isStep 10 = .ok (.aload_n 0, 1) := by decide +kernel
theorem dX1_isStep_11 : decode cX1_isStep 11 = .ok (.getfield 15, 3) := by decide +kernel
theorem dX1_isStep_14 : decode cX1_isStep 14 = .ok (.iload_n 3, 1) := by decide +kernel
theorem dX1_isStep_15 : decode cX1_isStep 15 = .ok (.iaload, 1) := by decide +kernel
theorem dX1_isStep_16 : decode cX1_isStep 16 = .ok (.iload_n 1, 1) := by decide +kernel
theorem dX1_isStep_17 : decode cX1_isStep 17 = .ok (.if_icmp .ne 17, 3) := by decide +kernel
theorem dX1_isStep_20 : decode cX1_isStep 20 = .ok (.aload_n 0, 1) := by decide +kernel
theorem dX1_isStep_21 : decode cX1_isStep 21 = .ok (.getfield 18, 3) := by decide +kernel
theorem dX1_isStep_24 : decode cX1_isStep 24 = .ok (.iload_n 3, 1) := by decide +kernel
theorem dX1_isStep_25 : decode cX1_isStep 25 = .ok (.iaload, 1) := by decide +kernel
theorem dX1_isStep_26 : decode cX1_isStep 26 = .ok (.iload_n 2, 1) := by decide +kernel
theorem dX1_isStep_27 : decode cX1_isStep 27 = .ok (.if_icmp .ne 7, 3) := by decide +kernel
theorem dX1_isStep_30 : decode cX1_isStep 30 = .ok (.iconst 1, 1) := by decide +kernel
theorem dX1_isStep_31 : decode cX1_isStep 31 = .ok (.goto 4, 3) := by decide +kernel
theorem dX1_isStep_34 : decode cX1_isStep 34 = .ok (.iconst 0, 1) := by decide +kernel
theorem dX1_isStep_35 : decode cX1_isStep 35 = .ok (.istore 4, 2) := by decide +kernel
theorem dX1_isStep_37 : decode cX1_isStep 37 = .ok (.aload_n 0, 1) := by decide +kernel
theorem dX1_isStep_38 : decode cX1_isStep 38 = .ok (.getfield 15, 3) := by decide +kernel
theorem dX1_isStep_41 : decode cX1_isStep 41 = .ok (.iload_n 3, 1) := by decide +kernel
theorem dX1_isStep_42 : decode cX1_isStep 42 = .ok (.iaload, 1) := by decide +kernel
theorem dX1_isStep_43 : decode cX1_isStep 43 = .ok (.iload_n 2, 1) := by decide +kernel
theorem dX1_isStep_44 : decode cX1_isStep 44 = .ok (.if_icmp .ne 17, 3) := by decide +kernel
theorem dX1_isStep_47 : decode cX1_isStep 47 = .ok (.aload_n 0, 1) := by decide +kernel
theorem dX1_isStep_48 : decode cX1_isStep 48 = .ok (.getfield 18, 3) := by decide +kernel
theorem dX1_isStep_51 : decode cX1_isStep 51 = .ok (.iload_n 3, 1) := by decide +kernel
theorem dX1_isStep_52 : decode cX1_isStep 52 = .ok (.iaload, 1) := by decide +kernel
theorem dX1_isStep_53 : decode cX1_isStep 53 = .ok (.iload_n 1, 1) := by decide +kernel
theorem dX1_isStep_54 : decode cX1_isStep 54 = .ok (.if_icmp .ne 7, 3) := by decide +kernel
theorem dX1_isStep_57 : decode cX1_isStep 57 = .ok (.iconst 1, 1) := by decide +kernel
theorem dX1_isStep_58 : decode cX1_isStep 58 = .ok (.goto 4, 3) := by decide +kernel
theorem dX1_isStep_61 : decode cX1_isStep 61 = .ok (.iconst 0, 1) := by decide +kernel
theorem dX1_isStep_62 : decode cX1_isStep 62 = .ok (.istore 5, 2) := by decide +kernel
theorem dX1_isStep_64 : decode cX1_isStep 64 = .ok (.aload_n 0, 1) := by decide +kernel
theorem dX1_isStep_65 : decode cX1_isStep 65 = .ok (.getfield 24, 3) := by decide +kernel
theorem dX1_isStep_68 : decode cX1_isStep 68 = .ok (.iload_n 3, 1) := by decide +kernel
theorem dX1_isStep_69 : decode cX1_isStep 69 = .ok (.baload, 1) := by decide +kernel
theorem dX1_isStep_70 : decode cX1_isStep 70 = .ok (.ifCond .eq 15, 3) := by decide +kernel
theorem dX1_isStep_73 : decode cX1_isStep 73 = .ok (.iload 4, 2) := by decide +kernel
theorem dX1_isStep_75 : decode cX1_isStep 75 = .ok (.ifCond .ne 8, 3) := by decide +kernel
theorem dX1_isStep_78 : decode cX1_isStep 78 = .ok (.iload 5, 2) := by decide +kernel
theorem dX1_isStep_80 : decode cX1_isStep 80 = .ok (.ifCond .eq 5, 3) := by decide +kernel
theorem dX1_isStep_83 : decode cX1_isStep 83 = .ok (.iconst 1, 1) := by decide +kernel
theorem dX1_isStep_84 : decode cX1_isStep 84 = .ok (.ireturn, 1) := by decide +kernel
theorem dX1_isStep_85 : decode cX1_isStep 85 = .ok (.iinc 3 1, 3) := by decide +kernel
theorem dX1_isStep_88 : decode cX1_isStep 88 = .ok (.goto (-86), 3) := by decide +kernel
theorem dX1_isStep_91 : decode cX1_isStep 91 = .ok (.iconst 0, 1) := by decide +kernel
theorem dX1_isStep_92 : decode cX1_isStep 92 = .ok (.ireturn, 1) := by decide +kernel
set_option maxRecDepth 20000 in
theorem ggX1_draw_X0_clear : GoodIn wsX1_draw wsX0_clear := goodIn_r _ [10, 11, 26, 27, 28, 29] (by decide +kernel) (by decide +kernel)
set_option maxRecDepth 20000 in
theorem gX1_draw_X0_clear : GoodIn wsX1_draw (wsV RX1 35 RX0 yX0_clear wsX0_clear) := goodIn_app (goodIn_of _ (by decide +kernel)) ggX1_draw_X0_clear
set_option maxRecDepth 20000 in
theorem ggX1_draw_X0_addStep : GoodIn wsX1_draw wsX0_addStep := goodIn_r _ [15, 11, 16, 17, 18, 26, 27, 28, 29] (by decide +kernel) (by decide +kernel)
set_option maxRecDepth 20000 in
theorem gX1_draw_X0_addStep : GoodIn wsX1_draw (wsV RX1 40 RX0 yX0_addStep wsX0_addStep) := goodIn_app (goodIn_of _ (by decide +kernel)) ggX1_draw_X0_addStep
theorem dX1_draw_0 : decode cX1_draw 0 = .ok (.aload_n 1, 1) := by decide +kernel
theorem dX1_draw_1 : decode cX1_draw 1 = .ok (.invokevirtual 35, 3) := by decide +kernel
theorem dX1_draw_4 : decode cX1_draw 4 = .ok (.iconst 0, 1) := by decide +kernel
theorem dX1_draw_5 : decode cX1_draw 5 = .ok (.istore_n 2, 1) := by decide +kernel
theorem dX1_draw_6 : decode cX1_draw 6 = .ok (.iload_n 2, 1) := by decide +kernel
theorem dX1_draw_7 : decode cX1_draw 7 = .ok (.aload_n 0, 1) := by decide +kernel
theorem dX1_draw_8 : decode cX1_draw 8 = .ok (.getfield 32, 3) := by decide +kernel
theorem dX1_draw_11 : decode cX1_draw 11 = .ok (.if_icmp .ge 62, 3) := by decide +kernel
theorem dX1_draw_14 : decode cX1_draw 14 = .ok (.aload_n 0, 1) := by decide +kernel
theorem dX1_draw_15 : decode cX1_draw 15 = .ok (.getfield 24, 3) := by decide +kernel
theorem dX1_draw_18 : decode cX1_draw 18 = .ok (.iload_n 2, 1) := by decide +kernel
theorem dX1_draw_19 : decode cX1_draw 19 = .ok (.baload, 1) := by decide +kernel
theorem dX1_draw_20 : decode cX1_draw 20 = .ok (.ifCond .eq 47, 3) := by decide +kernel
theorem dX1_draw_23 : decode cX1_draw 23 = .ok (.aload_n 1, 1) := by decide +kernel
theorem dX1_draw_24 : decode cX1_draw 24 = .ok (.aload_n 0, 1) := by decide +kernel
theorem dX1_draw_25 : decode cX1_draw 25 = .ok (.getfield 15, 3) := by decide +kernel
theorem dX1_draw_28 : decode cX1_draw 28 = .ok (.iload_n 2, 1) := by decide +kernel
theorem dX1_draw_29 : decode cX1_draw 29 = .ok (.iaload, 1) := by decide +kernel
theorem dX1_draw_30 : decode cX1_draw 30 = .ok (.aload_n 0, 1) := by decide +kernel
theorem dX1_draw_31 : decode cX1_draw 31 = .ok (.getfield 18, 3) := by decide +kernel
theorem dX1_draw_34 : decode cX1_draw 34 = .ok (.iload_n 2, 1) := by decide +kernel
theorem dX1_draw_35 : decode cX1_draw 35 = .ok (.iaload, 1) := by decide +kernel
theorem dX1_draw_36 : decode cX1_draw 36 = .ok (.aload_n 0, 1) := by decide +kernel
theorem dX1_draw_37 : decode cX1_draw 37 = .ok (.getfield 21, 3) := by decide +kernel
theorem dX1_draw_40 : decode cX1_draw 40 = .ok (.iload_n 2, 1) := by decide +kernel
theorem dX1_draw_41 : decode cX1_draw 41 = .ok (.iaload, 1) := by decide +kernel
theorem dX1_draw_42 : decode cX1_draw 42 = .ok (.invokevirtual 40, 3) := by decide +kernel
theorem dX1_draw_45 : decode cX1_draw 45 = .ok (.aload_n 1, 1) := by decide +kernel
theorem dX1_draw_46 : decode cX1_draw 46 = .ok (.aload_n 0, 1) := by decide +kernel
theorem dX1_draw_47 : decode cX1_draw 47 = .ok (.getfield 18, 3) := by decide +kernel
theorem dX1_draw_50 : decode cX1_draw 50 = .ok (.iload_n 2, 1) := by decide +kernel
theorem dX1_draw_51 : decode cX1_draw 51 = .ok (.iaload, 1) := by decide +kernel
theorem dX1_draw_52 : decode cX1_draw 52 = .ok (.aload_n 0, 1) := by decide +kernel
theorem dX1_draw_53 : decode cX1_draw 53 = .ok (.getfield 15, 3) := by decide +kernel
theorem dX1_draw_56 : decode cX1_draw 56 = .ok (.iload_n 2, 1) := by decide +kernel
theorem dX1_draw_57 : decode cX1_draw 57 = .ok (.iaload, 1) := by decide +kernel
theorem dX1_draw_58 : decode cX1_draw 58 = .ok (.aload_n 0, 1) := by decide +kernel
theorem dX1_draw_59 : decode cX1_draw 59 = .ok (.getfield 21, 3) := by decide +kernel
theorem dX1_draw_62 : decode cX1_draw 62 = .ok (.iload_n 2, 1) := by decide +kernel
theorem dX1_draw_63 : decode cX1_draw 63 = .ok (.iaload, 1) := by decide +kernel
theorem dX1_draw_64 : decode cX1_draw 64 = .ok (.invokevirtual 40, 3) := by decide +kernel
theorem dX1_draw_67 : decode cX1_draw 67 = .ok (.iinc 2 1, 3) := by decide +kernel
theorem dX1_draw_70 : decode cX1_draw 70 = .ok (.goto (-64), 3) := by decide +kernel
theorem dX1_draw_73 : decode cX1_draw 73 = .ok (.return_, 1) := by decide +kernel
set_option maxRecDepth 20000 in
theorem ggX1_joinedPairs_X1_groupOf : GoodIn wsX1_joinedPairs wsX1_groupOf := goodIn_r _ [6, 7, 8, 9, 10, 18, 19, 20, 21, 22, 23, 24] (by decide +kernel) (by decide +kernel)
set_option maxRecDepth 20000 in
theorem gX1_joinedPairs_X1_groupOf : GoodIn wsX1_joinedPairs (wsV RX1 44 RX1 yX1_groupOf wsX1_groupOf) := goodIn_app (goodIn_of _ (by decide +kernel)) ggX1_joinedPairs_X1_groupOf
set_option maxRecDepth 20000 in
theorem ggX1_joinedPairs_J6_bitCount_0f7a4 : GoodIn wsX1_joinedPairs wsJ6_bitCount_0f7a4 := goodIn_r _ [14, 15, 16, 17] (by decide +kernel) (by decide +kernel)
set_option maxRecDepth 20000 in
theorem gX1_joinedPairs_J6_bitCount_0f7a4 : GoodIn wsX1_joinedPairs (va_wsS RX1 48 yJ6_bitCount_0f7a4 wsJ6_bitCount_0f7a4) := goodIn_app (goodIn_of _ (by decide +kernel)) ggX1_joinedPairs_J6_bitCount_0f7a4
theorem dX1_joinedPairs_0 : decode cX1_joinedPairs 0 = .ok (.iconst 0, 1) := by decide +kernel
theorem dX1_joinedPairs_1 : decode cX1_joinedPairs 1 = .ok (.istore_n 2, 1) := by decide +kernel
theorem dX1_joinedPairs_2 : decode cX1_joinedPairs 2 = .ok (.iconst 0, 1) := by decide +kernel
theorem dX1_joinedPairs_3 : decode cX1_joinedPairs 3 = .ok (.istore_n 3, 1) := by decide +kernel
theorem dX1_joinedPairs_4 : decode cX1_joinedPairs 4 = .ok (.iconst 0, 1) := by decide +kernel
theorem dX1_joinedPairs_5 : decode cX1_joinedPairs 5 = .ok (.istore 4, 2) := by decide +kernel
theorem dX1_joinedPairs_7 : decode cX1_joinedPairs 7 = .ok (.iload 4, 2) := by decide +kernel
theorem dX1_joinedPairs_9 : decode cX1_joinedPairs 9 = .ok (.aload_n 0, 1) := by decide +kernel
theorem dX1_joinedPairs_10 : decode cX1_joinedPairs 10 = .ok (.getfield 28, 3) := by decide +kernel
theorem dX1_joinedPairs_13 : decode cX1_joinedPairs 13 = .ok (.if_icmp .ge 49, 3) := by decide +kernel
theorem dX1_joinedPairs_16 : decode cX1_joinedPairs 16 = .ok (.iload_n 3, 1) := by decide +kernel
theorem dX1_joinedPairs_17 : decode cX1_joinedPairs 17 = .ok (.iload 4, 2) := by decide +kernel
theorem dX1_joinedPairs_19 : decode cX1_joinedPairs 19 = .ok (.ishr, 1) := by decide +kernel
theorem dX1_joinedPairs_20 : decode cX1_joinedPairs 20 = .ok (.iconst 1, 1) := by decide +kernel
theorem dX1_joinedPairs_21 : decode cX1_joinedPairs 21 = .ok (.iand, 1) := by decide +kernel
theorem dX1_joinedPairs_22 : decode cX1_joinedPairs 22 = .ok (.ifCond .ne 34, 3) := by decide +kernel
theorem dX1_joinedPairs_25 : decode cX1_joinedPairs 25 = .ok (.aload_n 0, 1) := by decide +kernel
theorem dX1_joinedPairs_26 : decode cX1_joinedPairs 26 = .ok (.iload 4, 2) := by decide +kernel
theorem dX1_joinedPairs_28 : decode cX1_joinedPairs 28 = .ok (.iload_n 1, 1) := by decide +kernel
theorem dX1_joinedPairs_29 : decode cX1_joinedPairs 29 = .ok (.invokevirtual 44, 3) := by decide +kernel
theorem dX1_joinedPairs_32 : decode cX1_joinedPairs 32 = .ok (.istore 5, 2) := by decide +kernel
theorem dX1_joinedPairs_34 : decode cX1_joinedPairs 34 = .ok (.iload 5, 2) := by decide +kernel
theorem dX1_joinedPairs_36 : decode cX1_joinedPairs 36 = .ok (.invokestatic 48, 3) := by decide +kernel
theorem dX1_joinedPairs_39 : decode cX1_joinedPairs 39 = .ok (.istore 6, 2) := by decide +kernel
theorem dX1_joinedPairs_41 : decode cX1_joinedPairs 41 = .ok (.iload_n 2, 1) := by decide +kernel
theorem dX1_joinedPairs_42 : decode cX1_joinedPairs 42 = .ok (.iload 6, 2) := by decide +kernel
theorem dX1_joinedPairs_44 : decode cX1_joinedPairs 44 = .ok (.iload 6, 2) := by decide +kernel
theorem dX1_joinedPairs_46 : decode cX1_joinedPairs 46 = .ok (.iconst 1, 1) := by decide +kernel
theorem dX1_joinedPairs_47 : decode cX1_joinedPairs 47 = .ok (.isub, 1) := by decide +kernel
theorem dX1_joinedPairs_48 : decode cX1_joinedPairs 48 = .ok (.imul, 1) := by decide +kernel
theorem dX1_joinedPairs_49 : decode cX1_joinedPairs 49 = .ok (.iadd, 1) := by decide +kernel
theorem dX1_joinedPairs_50 : decode cX1_joinedPairs 50 = .ok (.istore_n 2, 1) := by decide +kernel
theorem dX1_joinedPairs_51 : decode cX1_joinedPairs 51 = .ok (.iload_n 3, 1) := by decide +kernel
theorem dX1_joinedPairs_52 : decode cX1_joinedPairs 52 = .ok (.iload 5, 2) := by decide +kernel
theorem dX1_joinedPairs_54 : decode cX1_joinedPairs 54 = .ok (.ior, 1) := by decide +kernel
theorem dX1_joinedPairs_55 : decode cX1_joinedPairs 55 = .ok (.istore_n 3, 1) := by decide +kernel
theorem dX1_joinedPairs_56 : decode cX1_joinedPairs 56 = .ok (.iinc 4 1, 3) := by decide +kernel
theorem dX1_joinedPairs_59 : decode cX1_joinedPairs 59 = .ok (.goto (-52), 3) := by decide +kernel
theorem dX1_joinedPairs_62 : decode cX1_joinedPairs 62 = .ok (.iload_n 2, 1) := by decide +kernel
theorem dX1_joinedPairs_63 : decode cX1_joinedPairs 63 = .ok (.ireturn, 1) := by decide +kernel
theorem dX1_groupOf_0 : decode cX1_groupOf 0 = .ok (.iconst 1, 1) := by decide +kernel
theorem dX1_groupOf_1 : decode cX1_groupOf 1 = .ok (.iload_n 1, 1) := by decide +kernel
theorem dX1_groupOf_2 : decode cX1_groupOf 2 = .ok (.ishl, 1) := by decide +kernel
theorem dX1_groupOf_3 : decode cX1_groupOf 3 = .ok (.istore_n 3, 1) := by decide +kernel
theorem dX1_groupOf_4 : decode cX1_groupOf 4 = .ok (.iconst 1, 1) := by decide +kernel
theorem dX1_groupOf_5 : decode cX1_groupOf 5 = .ok (.istore 4, 2) := by decide +kernel
theorem dX1_groupOf_7 : decode cX1_groupOf 7 = .ok (.iconst 0, 1) := by decide +kernel
theorem dX1_groupOf_8 : decode cX1_groupOf 8 = .ok (.istore 5, 2) := by decide +kernel
theorem dX1_groupOf_10 : decode cX1_groupOf 10 = .ok (.iload 5, 2) := by decide +kernel
theorem dX1_groupOf_12 : decode cX1_groupOf 12 = .ok (.bipush 10, 2) := by decide +kernel
theorem dX1_groupOf_14 : decode cX1_groupOf 14 = .ok (.if_icmp .ge 97, 3) := by decide +kernel
theorem dX1_groupOf_17 : decode cX1_groupOf 17 = .ok (.iload 4, 2) := by decide +kernel
theorem dX1_groupOf_19 : decode cX1_groupOf 19 = .ok (.ifCond .eq 92, 3) := by decide +kernel
theorem dX1_groupOf_22 : decode cX1_groupOf 22 = .ok (.iload_n 3, 1) := by decide +kernel
theorem dX1_groupOf_23 : decode cX1_groupOf 23 = .ok (.istore 6, 2) := by decide +kernel
theorem dX1_groupOf_25 : decode cX1_groupOf 25 = .ok (.iconst 0, 1) := by decide +kernel
theorem dX1_groupOf_26 : decode cX1_groupOf 26 = .ok (.istore 7, 2) := by decide +kernel
theorem dX1_groupOf_28 : decode cX1_groupOf 28 = .ok (.iload 7, 2) := by decide +kernel
theorem dX1_groupOf_30 : decode cX1_groupOf 30 = .ok (.aload_n 0, 1) := by decide +kernel
theorem dX1_groupOf_31 : decode cX1_groupOf 31 = .ok (.getfield 32, 3) := by decide +kernel
theorem dX1_groupOf_34 : decode cX1_groupOf 34 = .ok (.if_icmp .ge 58, 3) := by decide +kernel
theorem dX1_groupOf_37 : decode cX1_groupOf 37 = .ok (.iconst 1, 1) := by decide +kernel
theorem dX1_groupOf_38 : decode cX1_groupOf 38 = .ok (.aload_n 0, 1) := by decide +kernel
theorem dX1_groupOf_39 : decode cX1_groupOf 39 = .ok (.getfield 15, 3) := by decide +kernel
theorem dX1_groupOf_42 : decode cX1_groupOf 42 = .ok (.iload 7, 2) := by decide +kernel
theorem dX1_groupOf_44 : decode cX1_groupOf 44 = .ok (.iaload, 1) := by decide +kernel
theorem dX1_groupOf_45 : decode cX1_groupOf 45 = .ok (.ishl, 1) := by decide +kernel
theorem dX1_groupOf_46 : decode cX1_groupOf 46 = .ok (.iconst 1, 1) := by decide +kernel
theorem dX1_groupOf_47 : decode cX1_groupOf 47 = .ok (.aload_n 0, 1) := by decide +kernel
theorem dX1_groupOf_48 : decode cX1_groupOf 48 = .ok (.getfield 18, 3) := by decide +kernel
theorem dX1_groupOf_51 : decode cX1_groupOf 51 = .ok (.iload 7, 2) := by decide +kernel
theorem dX1_groupOf_53 : decode cX1_groupOf 53 = .ok (.iaload, 1) := by decide +kernel
theorem dX1_groupOf_54 : decode cX1_groupOf 54 = .ok (.ishl, 1) := by decide +kernel
theorem dX1_groupOf_55 : decode cX1_groupOf 55 = .ok (.ior, 1) := by decide +kernel
theorem dX1_groupOf_56 : decode cX1_groupOf 56 = .ok (.istore 8, 2) := by decide +kernel
theorem dX1_groupOf_58 : decode cX1_groupOf 58 = .ok (.aload_n 0, 1) := by decide +kernel
theorem dX1_groupOf_59 : decode cX1_groupOf 59 = .ok (.getfield 24, 3) := by decide +kernel
theorem dX1_groupOf_62 : decode cX1_groupOf 62 = .ok (.iload 7, 2) := by decide +kernel
theorem dX1_groupOf_64 : decode cX1_groupOf 64 = .ok (.baload, 1) := by decide +kernel
theorem dX1_groupOf_65 : decode cX1_groupOf 65 = .ok (.ifCond .eq 21, 3) := by decide +kernel
theorem dX1_groupOf_68 : decode cX1_groupOf 68 = .ok (.iload 7, 2) := by decide +kernel
theorem dX1_groupOf_70 : decode cX1_groupOf 70 = .ok (.iload_n 2, 1) := by decide +kernel
theorem dX1_groupOf_71 : decode cX1_groupOf 71 = .ok (.if_icmp .eq 15, 3) := by decide +kernel
theorem dX1_groupOf_74 : decode cX1_groupOf 74 = .ok (.iload_n 3, 1) := by decide +kernel
theorem dX1_groupOf_75 : decode cX1_groupOf 75 = .ok (.iload 8, 2) := by decide +kernel
theorem dX1_groupOf_77 : decode cX1_groupOf 77 = .ok (.iand, 1) := by decide +kernel
theorem dX1_groupOf_78 : decode cX1_groupOf 78 = .ok (.ifCond .eq 8, 3) := by decide +kernel
theorem dX1_groupOf_81 : decode cX1_groupOf 81 = .ok (.iload_n 3, 1) := by decide +kernel
theorem dX1_groupOf_82 : decode cX1_groupOf 82 = .ok (.iload 8, 2) := by decide +kernel
theorem dX1_groupOf_84 : decode cX1_groupOf 84 = .ok (.ior, 1) := by decide +kernel
theorem dX1_groupOf_85 : decode cX1_groupOf 85 = .ok (.istore_n 3, 1) := by decide +kernel
theorem dX1_groupOf_86 : decode cX1_groupOf 86 = .ok (.iinc 7 1, 3) := by decide +kernel
theorem dX1_groupOf_89 : decode cX1_groupOf 89 = .ok (.goto (-61), 3) := by decide +kernel
theorem dX1_groupOf_92 : decode cX1_groupOf 92 = .ok (.iload_n 3, 1) := by decide +kernel
theorem dX1_groupOf_93 : decode cX1_groupOf 93 = .ok (.iload 6, 2) := by decide +kernel
theorem dX1_groupOf_95 : decode cX1_groupOf 95 = .ok (.if_icmp .eq 7, 3) := by decide +kernel
theorem dX1_groupOf_98 : decode cX1_groupOf 98 = .ok (.iconst 1, 1) := by decide +kernel
theorem dX1_groupOf_99 : decode cX1_groupOf 99 = .ok (.goto 4, 3) := by decide +kernel
theorem dX1_groupOf_102 : decode cX1_groupOf 102 = .ok (.iconst 0, 1) := by decide +kernel
theorem dX1_groupOf_103 : decode cX1_groupOf 103 = .ok (.istore 4, 2) := by decide +kernel
theorem dX1_groupOf_105 : decode cX1_groupOf 105 = .ok (.iinc 5 1, 3) := by decide +kernel
theorem dX1_groupOf_108 : decode cX1_groupOf 108 = .ok (.goto (-98), 3) := by decide +kernel
theorem dX1_groupOf_111 : decode cX1_groupOf 111 = .ok (.iload_n 3, 1) := by decide +kernel
theorem dX1_groupOf_112 : decode cX1_groupOf 112 = .ok (.ireturn, 1) := by decide +kernel
set_option maxRecDepth 20000 in
theorem ggX2_init_X0_init : GoodIn wsX2_init wsX0_init := goodIn_r _ [19, 20, 2, 3, 8, 21, 22, 23, 24, 25, 26, 27] (by decide +kernel) (by decide +kernel)
set_option maxRecDepth 20000 in
theorem gX2_init_X0_init_n11 : GoodIn wsX2_init (wsX0_init) := ggX2_init_X0_init
theorem dX2_init_0 : decode cX2_init 0 = .ok (.aload_n 0, 1) := by decide +kernel
theorem dX2_init_1 : decode cX2_init 1 = .ok (.invokespecial 3, 3) := by decide +kernel
theorem dX2_init_4 : decode cX2_init 4 = .ok (.aload_n 0, 1) := by decide +kernel
theorem dX2_init_5 : decode cX2_init 5 = .ok (.new 9, 3) := by decide +kernel
theorem dX2_init_8 : decode cX2_init 8 = .ok (.dup, 1) := by decide +kernel
theorem dX2_init_9 : decode cX2_init 9 = .ok (.invokespecial 11, 3) := by decide +kernel
theorem dX2_init_12 : decode cX2_init 12 = .ok (.putfield 12, 3) := by decide +kernel
theorem dX2_init_15 : decode cX2_init 15 = .ok (.aload_n 0, 1) := by decide +kernel
theorem dX2_init_16 : decode cX2_init 16 = .ok (.bipush 10, 2) := by decide +kernel
theorem dX2_init_18 : decode cX2_init 18 = .ok (.newarray .int, 2) := by decide +kernel
theorem dX2_init_20 : decode cX2_init 20 = .ok (.putfield 18, 3) := by decide +kernel
theorem dX2_init_23 : decode cX2_init 23 = .ok (.aload_n 0, 1) := by decide +kernel
theorem dX2_init_24 : decode cX2_init 24 = .ok (.bipush 10, 2) := by decide +kernel
theorem dX2_init_26 : decode cX2_init 26 = .ok (.bipush 10, 2) := by decide +kernel
theorem dX2_init_28 : decode cX2_init 28 = .ok (.multianewarray 22 2, 4) := by decide +kernel
theorem dX2_init_32 : decode cX2_init 32 = .ok (.putfield 24, 3) := by decide +kernel
theorem dX2_init_35 : decode cX2_init 35 = .ok (.aload_n 0, 1) := by decide +kernel
theorem dX2_init_36 : decode cX2_init 36 = .ok (.bipush 10, 2) := by decide +kernel
theorem dX2_init_38 : decode cX2_init 38 = .ok (.newarray .boolean, 2) := by decide +kernel
theorem dX2_init_40 : decode cX2_init 40 = .ok (.putfield 27, 3) := by decide +kernel
theorem dX2_init_43 : decode cX2_init 43 = .ok (.aload_n 0, 1) := by decide +kernel
theorem dX2_init_44 : decode cX2_init 44 = .ok (.bipush 100, 2) := by decide +kernel
theorem dX2_init_46 : decode cX2_init 46 = .ok (.anewarray 31, 3) := by decide +kernel
theorem dX2_init_49 : decode cX2_init 49 = .ok (.putfield 33, 3) := by decide +kernel
theorem dX2_init_52 : decode cX2_init 52 = .ok (.aload_n 0, 1) := by decide +kernel
theorem dX2_init_53 : decode cX2_init 53 = .ok (.bipush 100, 2) := by decide +kernel
theorem dX2_init_55 : decode cX2_init 55 = .ok (.anewarray 31, 3) := by decide +kernel
theorem dX2_init_58 : decode cX2_init 58 = .ok (.putfield 37, 3) := by decide +kernel
theorem dX2_init_61 : decode cX2_init 61 = .ok (.aload_n 0, 1) := by decide +kernel
theorem dX2_init_62 : decode cX2_init 62 = .ok (.aload_n 1, 1) := by decide +kernel
theorem dX2_init_63 : decode cX2_init 63 = .ok (.putfield 40, 3) := by decide +kernel
theorem dX2_init_66 : decode cX2_init 66 = .ok (.return_, 1) := by decide +kernel
set_option maxRecDepth 20000 in
theorem ggX2_copy_X2_forgetWays : GoodIn wsX2_copy wsX2_forgetWays := goodIn_r _ [8, 9, 10, 11, 12, 13, 14, 15, 16, 17] (by decide +kernel) (by decide +kernel)
set_option maxRecDepth 20000 in
theorem gX2_copy_X2_forgetWays : GoodIn wsX2_copy (wsV RX2 48 RX2 yX2_forgetWays wsX2_forgetWays) := goodIn_app (goodIn_of _ (by decide +kernel)) ggX2_copy_X2_forgetWays
theorem dX2_copy_0 : decode cX2_copy 0 = .ok (.aload_n 0, 1) := by decide +kernel
theorem dX2_copy_1 : decode cX2_copy 1 = .ok (.aload_n 1, 1) := by decide +kernel
theorem dX2_copy_2 : decode cX2_copy 2 = .ok (.getfield 44, 3) := by decide +kernel
theorem dX2_copy_5 : decode cX2_copy 5 = .ok (.putfield 44, 3) := by decide +kernel
theorem dX2_copy_8 : decode cX2_copy 8 = .ok (.iconst 0, 1) := by decide +kernel
theorem dX2_copy_9 : decode cX2_copy 9 = .ok (.istore_n 2, 1) := by decide +kernel
theorem dX2_copy_10 : decode cX2_copy 10 = .ok (.iload_n 2, 1) := by decide +kernel
theorem dX2_copy_11 : decode cX2_copy 11 = .ok (.bipush 10, 2) := by decide +kernel
theorem dX2_copy_13 : decode cX2_copy 13 = .ok (.if_icmp .ge 21, 3) := by decide +kernel
theorem dX2_copy_16 : decode cX2_copy 16 = .ok (.aload_n 0, 1) := by decide +kernel
theorem dX2_copy_17 : decode cX2_copy 17 = .ok (.getfield 18, 3) := by decide +kernel
theorem dX2_copy_20 : decode cX2_copy 20 = .ok (.iload_n 2, 1) := by decide +kernel
theorem dX2_copy_21 : decode cX2_copy 21 = .ok (.aload_n 1, 1) := by decide +kernel
theorem dX2_copy_22 : decode cX2_copy 22 = .ok (.getfield 18, 3) := by decide +kernel
theorem dX2_copy_25 : decode cX2_copy 25 = .ok (.iload_n 2, 1) := by decide +kernel
theorem dX2_copy_26 : decode cX2_copy 26 = .ok (.iaload, 1) := by decide +kernel
theorem dX2_copy_27 : decode cX2_copy 27 = .ok (.iastore, 1) := by decide +kernel
theorem dX2_copy_28 : decode cX2_copy 28 = .ok (.iinc 2 1, 3) := by decide +kernel
theorem dX2_copy_31 : decode cX2_copy 31 = .ok (.goto (-21), 3) := by decide +kernel
theorem dX2_copy_34 : decode cX2_copy 34 = .ok (.iconst 0, 1) := by decide +kernel
theorem dX2_copy_35 : decode cX2_copy 35 = .ok (.istore_n 2, 1) := by decide +kernel
theorem dX2_copy_36 : decode cX2_copy 36 = .ok (.iload_n 2, 1) := by decide +kernel
theorem dX2_copy_37 : decode cX2_copy 37 = .ok (.aload_n 0, 1) := by decide +kernel
theorem dX2_copy_38 : decode cX2_copy 38 = .ok (.getfield 33, 3) := by decide +kernel
theorem dX2_copy_41 : decode cX2_copy 41 = .ok (.arraylength, 1) := by decide +kernel
theorem dX2_copy_42 : decode cX2_copy 42 = .ok (.if_icmp .ge 21, 3) := by decide +kernel
theorem dX2_copy_45 : decode cX2_copy 45 = .ok (.aload_n 0, 1) := by decide +kernel
theorem dX2_copy_46 : decode cX2_copy 46 = .ok (.getfield 33, 3) := by decide +kernel
theorem dX2_copy_49 : decode cX2_copy 49 = .ok (.iload_n 2, 1) := by decide +kernel
theorem dX2_copy_50 : decode cX2_copy 50 = .ok (.aload_n 1, 1) := by decide +kernel
theorem dX2_copy_51 : decode cX2_copy 51 = .ok (.getfield 33, 3) := by decide +kernel
theorem dX2_copy_54 : decode cX2_copy 54 = .ok (.iload_n 2, 1) := by decide +kernel
theorem dX2_copy_55 : decode cX2_copy 55 = .ok (.aaload, 1) := by decide +kernel
theorem dX2_copy_56 : decode cX2_copy 56 = .ok (.aastore, 1) := by decide +kernel
theorem dX2_copy_57 : decode cX2_copy 57 = .ok (.iinc 2 1, 3) := by decide +kernel
theorem dX2_copy_60 : decode cX2_copy 60 = .ok (.goto (-24), 3) := by decide +kernel
theorem dX2_copy_63 : decode cX2_copy 63 = .ok (.aload_n 0, 1) := by decide +kernel
theorem dX2_copy_64 : decode cX2_copy 64 = .ok (.invokevirtual 48, 3) := by decide +kernel
theorem dX2_copy_67 : decode cX2_copy 67 = .ok (.return_, 1) := by decide +kernel
theorem dX2_minute_0 : decode cX2_minute 0 = .ok (.aload_n 0, 1) := by decide +kernel
theorem dX2_minute_1 : decode cX2_minute 1 = .ok (.getfield 44, 3) := by decide +kernel
theorem dX2_minute_4 : decode cX2_minute 4 = .ok (.ireturn, 1) := by decide +kernel
theorem dX2_wroteInAll_0 : decode cX2_wroteInAll 0 = .ok (.aload_n 0, 1) := by decide +kernel
theorem dX2_wroteInAll_1 : decode cX2_wroteInAll 1 = .ok (.getfield 18, 3) := by decide +kernel
theorem dX2_wroteInAll_4 : decode cX2_wroteInAll 4 = .ok (.iload_n 1, 1) := by decide +kernel
theorem dX2_wroteInAll_5 : decode cX2_wroteInAll 5 = .ok (.iaload, 1) := by decide +kernel
theorem dX2_wroteInAll_6 : decode cX2_wroteInAll 6 = .ok (.ireturn, 1) := by decide +kernel
set_option maxRecDepth 20000 in
theorem ggX2_held_X2_slot : GoodIn wsX2_held wsX2_slot := goodIn_r _ [5] (by decide +kernel) (by decide +kernel)
set_option maxRecDepth 20000 in
theorem gX2_held_X2_slot : GoodIn wsX2_held (va_wsS RX2 51 yX2_slot wsX2_slot) := goodIn_app (goodIn_of _ (by decide +kernel)) ggX2_held_X2_slot
theorem dX2_held_0 : decode cX2_held 0 = .ok (.aload_n 0, 1) := by decide +kernel
theorem dX2_held_1 : decode cX2_held 1 = .ok (.getfield 33, 3) := by decide +kernel
theorem dX2_held_4 : decode cX2_held 4 = .ok (.iload_n 1, 1) := by decide +kernel
theorem dX2_held_5 : decode cX2_held 5 = .ok (.iload_n 2, 1) := by decide +kernel
theorem dX2_held_6 : decode cX2_held 6 = .ok (.invokestatic 51, 3) := by decide +kernel
theorem dX2_held_9 : decode cX2_held 9 = .ok (.aaload, 1) := by decide +kernel
theorem dX2_held_10 : decode cX2_held 10 = .ok (.areturn, 1) := by decide +kernel
set_option maxRecDepth 20000 in
theorem ggX2_burnAll_X2_sheetsOf : GoodIn wsX2_burnAll wsX2_sheetsOf := goodIn_r _ [6, 1, 7, 8, 5, 9, 15, 16, 17, 18, 19, 20, 21, 22] (by decide +kernel) (by decide +kernel)
set_option maxRecDepth 20000 in
theorem gX2_burnAll_X2_sheetsOf : GoodIn wsX2_burnAll (wsV RX2 55 RX2 yX2_sheetsOf wsX2_sheetsOf) := goodIn_app (goodIn_of _ (by decide +kernel)) ggX2_burnAll_X2_sheetsOf
set_option maxRecDepth 20000 in
theorem ggX2_burnAll_X2_slot : GoodIn wsX2_burnAll wsX2_slot := goodIn_r _ [9] (by decide +kernel) (by decide +kernel)
set_option maxRecDepth 20000 in
theorem gX2_burnAll_X2_slot : GoodIn wsX2_burnAll (va_wsS RX2 51 yX2_slot wsX2_slot) := goodIn_app (goodIn_of _ (by decide +kernel)) ggX2_burnAll_X2_slot
set_option maxRecDepth 20000 in
theorem ggX2_burnAll_X2_forgetWays : GoodIn wsX2_burnAll wsX2_forgetWays := goodIn_r _ [13, 14, 15, 16, 17, 18, 19, 20, 21, 22] (by decide +kernel) (by decide +kernel)
set_option maxRecDepth 20000 in
theorem gX2_burnAll_X2_forgetWays : GoodIn wsX2_burnAll (wsV RX2 48 RX2 yX2_forgetWays wsX2_forgetWays) := goodIn_app (goodIn_of _ (by decide +kernel)) ggX2_burnAll_X2_forgetWays
theorem dX2_burnAll_0 : decode cX2_burnAll 0 = .ok (.aload_n 0, 1) := by decide +kernel
theorem dX2_burnAll_1 : decode cX2_burnAll 1 = .ok (.iload_n 1, 1) := by decide +kernel
theorem dX2_burnAll_2 : decode cX2_burnAll 2 = .ok (.invokevirtual 55, 3) := by decide +kernel
theorem dX2_burnAll_5 : decode cX2_burnAll 5 = .ok (.istore_n 2, 1) := by decide +kernel
theorem dX2_burnAll_6 : decode cX2_burnAll 6 = .ok (.iconst 0, 1) := by decide +kernel
theorem dX2_burnAll_7 : decode cX2_burnAll 7 = .ok (.istore_n 3, 1) := by decide +kernel
theorem dX2_burnAll_8 : decode cX2_burnAll 8 = .ok (.iload_n 3, 1) := by decide +kernel
theorem dX2_burnAll_9 : decode cX2_burnAll 9 = .ok (.bipush 10, 2) := by decide +kernel
theorem dX2_burnAll_11 : decode cX2_burnAll 11 = .ok (.if_icmp .ge 20, 3) := by decide +kernel
theorem dX2_burnAll_14 : decode cX2_burnAll 14 = .ok (.aload_n 0, 1) := by decide +kernel
theorem dX2_burnAll_15 : decode cX2_burnAll 15 = .ok (.getfield 33, 3) := by decide +kernel
theorem dX2_burnAll_18 : decode cX2_burnAll 18 = .ok (.iload_n 1, 1) := by decide +kernel
theorem dX2_burnAll_19 : decode cX2_burnAll 19 = .ok (.iload_n 3, 1) := by decide +kernel
theorem dX2_burnAll_20 : decode cX2_burnAll 20 = .ok (.invokestatic 51, 3) := by decide +kernel
theorem dX2_burnAll_23 : decode cX2_burnAll 23 = .ok (.aconst_null, 1) := by decide +kernel
theorem dX2_burnAll_24 : decode cX2_burnAll 24 = .ok (.aastore, 1) := by decide +kernel
theorem dX2_burnAll_25 : decode cX2_burnAll 25 = .ok (.iinc 3 1, 3) := by decide +kernel
theorem dX2_burnAll_28 : decode cX2_burnAll 28 = .ok (.goto (-20), 3) := by decide +kernel
theorem dX2_burnAll_31 : decode cX2_burnAll 31 = .ok (.aload_n 0, 1) := by decide +kernel
theorem dX2_burnAll_32 : decode cX2_burnAll 32 = .ok (.invokevirtual 48, 3) := by decide +kernel
theorem dX2_burnAll_35 : decode cX2_burnAll 35 = .ok (.iload_n 2, 1) := by decide +kernel
theorem dX2_burnAll_36 : decode cX2_burnAll 36 = .ok (.ireturn, 1) := by decide +kernel
set_option maxRecDepth 20000 in
theorem ggX2_sheetsOf_X2_slot : GoodIn wsX2_sheetsOf wsX2_slot := goodIn_r _ [5] (by decide +kernel) (by decide +kernel)
set_option maxRecDepth 20000 in
theorem gX2_sheetsOf_X2_slot : GoodIn wsX2_sheetsOf (va_wsS RX2 51 yX2_slot wsX2_slot) := goodIn_app (goodIn_of _ (by decide +kernel)) ggX2_sheetsOf_X2_slot
theorem dX2_sheetsOf_0 : decode cX2_sheetsOf 0 = .ok (.iconst 0, 1) := by decide +kernel
theorem dX2_sheetsOf_1 : decode cX2_sheetsOf 1 = .ok (.istore_n 2, 1) := by decide +kernel
theorem dX2_sheetsOf_2 : decode cX2_sheetsOf 2 = .ok (.iconst 0, 1) := by decide +kernel
theorem dX2_sheetsOf_3 : decode cX2_sheetsOf 3 = .ok (.istore_n 3, 1) := by decide +kernel
theorem dX2_sheetsOf_4 : decode cX2_sheetsOf 4 = .ok (.iload_n 3, 1) := by decide +kernel
theorem dX2_sheetsOf_5 : decode cX2_sheetsOf 5 = .ok (.bipush 10, 2) := by decide +kernel
theorem dX2_sheetsOf_7 : decode cX2_sheetsOf 7 = .ok (.if_icmp .ge 25, 3) := by decide +kernel
theorem dX2_sheetsOf_10 : decode cX2_sheetsOf 10 = .ok (.aload_n 0, 1) := by decide +kernel
theorem dX2_sheetsOf_11 : decode cX2_sheetsOf 11 = .ok (.getfield 33, 3) := by decide +kernel
theorem dX2_sheetsOf_14 : decode cX2_sheetsOf 14 = .ok (.iload_n 1, 1) := by decide +kernel
theorem dX2_sheetsOf_15 : decode cX2_sheetsOf 15 = .ok (.iload_n 3, 1) := by decide +kernel
theorem dX2_sheetsOf_16 : decode cX2_sheetsOf 16 = .ok (.invokestatic 51, 3) := by decide +kernel
theorem dX2_sheetsOf_19 : decode cX2_sheetsOf 19 = .ok (.aaload, 1) := by decide +kernel
theorem dX2_sheetsOf_20 : decode cX2_sheetsOf 20 = .ok (.ifnull 6, 3) := by decide +kernel
theorem dX2_sheetsOf_23 : decode cX2_sheetsOf 23 = .ok (.iinc 2 1, 3) := by decide +kernel
theorem dX2_sheetsOf_26 : decode cX2_sheetsOf 26 = .ok (.iinc 3 1, 3) := by decide +kernel
theorem dX2_sheetsOf_29 : decode cX2_sheetsOf 29 = .ok (.goto (-25), 3) := by decide +kernel
theorem dX2_sheetsOf_32 : decode cX2_sheetsOf 32 = .ok (.iload_n 2, 1) := by decide +kernel
theorem dX2_sheetsOf_33 : decode cX2_sheetsOf 33 = .ok (.ireturn, 1) := by decide +kernel
set_option maxRecDepth 20000 in
theorem ggX2_sheets_X1_huts : GoodIn wsX2_sheets wsX1_huts := goodIn_r _ [6, 7, 25, 26, 27, 28, 29, 30, 31] (by decide +kernel) (by decide +kernel)
set_option maxRecDepth 20000 in
theorem gX2_sheets_X1_huts : GoodIn wsX2_sheets (wsV RX2 59 RX1 yX1_huts wsX1_huts) := goodIn_app (goodIn_of _ (by decide +kernel)) ggX2_sheets_X1_huts
set_option maxRecDepth 20000 in
theorem ggX2_sheets_X2_sheetsOf : GoodIn wsX2_sheets wsX2_sheetsOf := goodIn_r _ [12, 13, 14, 15, 11, 16, 17, 18, 19, 20, 21, 22, 23, 24] (by decide +kernel) (by decide +kernel)
set_option maxRecDepth 20000 in
theorem gX2_sheets_X2_sheetsOf : GoodIn wsX2_sheets (wsV RX2 55 RX2 yX2_sheetsOf wsX2_sheetsOf) := goodIn_app (goodIn_of _ (by decide +kernel)) ggX2_sheets_X2_sheetsOf
theorem dX2_sheets_0 : decode cX2_sheets 0 = .ok (.iconst 0, 1) := by decide +kernel
theorem dX2_sheets_1 : decode cX2_sheets 1 = .ok (.istore_n 1, 1) := by decide +kernel
theorem dX2_sheets_2 : decode cX2_sheets 2 = .ok (.iconst 0, 1) := by decide +kernel
theorem dX2_sheets_3 : decode cX2_sheets 3 = .ok (.istore_n 2, 1) := by decide +kernel
theorem dX2_sheets_4 : decode cX2_sheets 4 = .ok (.iload_n 2, 1) := by decide +kernel
theorem dX2_sheets_5 : decode cX2_sheets 5 = .ok (.aload_n 0, 1) := by decide +kernel
theorem dX2_sheets_6 : decode cX2_sheets 6 = .ok (.getfield 40, 3) := by decide +kernel
theorem dX2_sheets_9 : decode cX2_sheets 9 = .ok (.invokevirtual 59, 3) := by decide +kernel
theorem dX2_sheets_12 : decode cX2_sheets 12 = .ok (.if_icmp .ge 17, 3) := by decide +kernel
theorem dX2_sheets_15 : decode cX2_sheets 15 = .ok (.iload_n 1, 1) := by decide +kernel
theorem dX2_sheets_16 : decode cX2_sheets 16 = .ok (.aload_n 0, 1) := by decide +kernel
theorem dX2_sheets_17 : decode cX2_sheets 17 = .ok (.iload_n 2, 1) := by decide +kernel
theorem dX2_sheets_18 : decode cX2_sheets 18 = .ok (.invokevirtual 55, 3) := by decide +kernel
theorem dX2_sheets_21 : decode cX2_sheets 21 = .ok (.iadd, 1) := by decide +kernel
theorem dX2_sheets_22 : decode cX2_sheets 22 = .ok (.istore_n 1, 1) := by decide +kernel
theorem dX2_sheets_23 : decode cX2_sheets 23 = .ok (.iinc 2 1, 3) := by decide +kernel
theorem dX2_sheets_26 : decode cX2_sheets 26 = .ok (.goto (-22), 3) := by decide +kernel
theorem dX2_sheets_29 : decode cX2_sheets 29 = .ok (.iload_n 1, 1) := by decide +kernel
theorem dX2_sheets_30 : decode cX2_sheets 30 = .ok (.ireturn, 1) := by decide +kernel
set_option maxRecDepth 20000 in
theorem ggX2_ages_X3_age : GoodIn wsX2_ages wsX3_age := goodIn_r _ [7, 8, 17, 18, 19] (by decide +kernel) (by decide +kernel)
set_option maxRecDepth 20000 in
theorem gX2_ages_X3_age : GoodIn wsX2_ages (wsV RX2 65 RX3 yX3_age wsX3_age) := goodIn_app (goodIn_of _ (by decide +kernel)) ggX2_ages_X3_age
theorem dX2_ages_0 : decode cX2_ages 0 = .ok (.iconst 0, 1) := by decide +kernel
theorem dX2_ages_1 : decode cX2_ages 1 = .ok (.istore_n 1, 1) := by decide +kernel
theorem dX2_ages_2 : decode cX2_ages 2 = .ok (.iconst 0, 1) := by decide +kernel
theorem dX2_ages_3 : decode cX2_ages 3 = .ok (.istore_n 2, 1) := by decide +kernel
theorem dX2_ages_4 : decode cX2_ages 4 = .ok (.iload_n 2, 1) := by decide +kernel
theorem dX2_ages_5 : decode cX2_ages 5 = .ok (.aload_n 0, 1) := by decide +kernel
theorem dX2_ages_6 : decode cX2_ages 6 = .ok (.getfield 33, 3) := by decide +kernel
theorem dX2_ages_9 : decode cX2_ages 9 = .ok (.arraylength, 1) := by decide +kernel
theorem dX2_ages_10 : decode cX2_ages 10 = .ok (.if_icmp .ge 31, 3) := by decide +kernel
theorem dX2_ages_13 : decode cX2_ages 13 = .ok (.aload_n 0, 1) := by decide +kernel
theorem dX2_ages_14 : decode cX2_ages 14 = .ok (.getfield 33, 3) := by decide +kernel
theorem dX2_ages_17 : decode cX2_ages 17 = .ok (.iload_n 2, 1) := by decide +kernel
theorem dX2_ages_18 : decode cX2_ages 18 = .ok (.aaload, 1) := by decide +kernel
theorem dX2_ages_19 : decode cX2_ages 19 = .ok (.astore_n 3, 1) := by decide +kernel
theorem dX2_ages_20 : decode cX2_ages 20 = .ok (.aload_n 3, 1) := by decide +kernel
theorem dX2_ages_21 : decode cX2_ages 21 = .ok (.ifnull 14, 3) := by decide +kernel
theorem dX2_ages_24 : decode cX2_ages 24 = .ok (.iload_n 1, 1) := by decide +kernel
theorem dX2_ages_25 : decode cX2_ages 25 = .ok (.aload_n 3, 1) := by decide +kernel
theorem dX2_ages_26 : decode cX2_ages 26 = .ok (.aload_n 0, 1) := by decide +kernel
theorem dX2_ages_27 : decode cX2_ages 27 = .ok (.getfield 44, 3) := by decide +kernel
theorem dX2_ages_30 : decode cX2_ages 30 = .ok (.invokevirtual 65, 3) := by decide +kernel
theorem dX2_ages_33 : decode cX2_ages 33 = .ok (.iadd, 1) := by decide +kernel
theorem dX2_ages_34 : decode cX2_ages 34 = .ok (.istore_n 1, 1) := by decide +kernel
theorem dX2_ages_35 : decode cX2_ages 35 = .ok (.iinc 2 1, 3) := by decide +kernel
theorem dX2_ages_38 : decode cX2_ages 38 = .ok (.goto (-34), 3) := by decide +kernel
theorem dX2_ages_41 : decode cX2_ages 41 = .ok (.iload_n 1, 1) := by decide +kernel
theorem dX2_ages_42 : decode cX2_ages 42 = .ok (.ireturn, 1) := by decide +kernel
set_option maxRecDepth 20000 in
theorem ggX2_passMinutes_X2_writeSheets : GoodIn wsX2_passMinutes wsX2_writeSheets := goodIn_r _ [6, 7, 8, 9, 10, 11, 12, 1, 13, 14, 15, 16, 17, 18, 19, 20, 21, 5, 22, 23, 24, 25, 26, 27, 28, 29, 30, 31, 32, 33, 34, 35, 36, 37, 38, 39, 40, 41, 42, 43, 44, 45, 46, 47, 48, 49, 50, 51, 52, 53, 54, 55, 56, 101, 102, 103, 104, 105, 106, 107, 108, 109, 110, 111, 112, 113, 114, 115, 116, 117, 118] (by decide +kernel) (by decide +kernel)
set_option maxRecDepth 20000 in
theorem gX2_passMinutes_X2_writeSheets : GoodIn wsX2_passMinutes (wsV RX2 68 RX2 yX2_writeSheets wsX2_writeSheets) := goodIn_app (goodIn_of _ (by decide +kernel)) ggX2_passMinutes_X2_writeSheets
set_option maxRecDepth 20000 in
theorem ggX2_passMinutes_X2_carrySheets : GoodIn wsX2_passMinutes wsX2_carrySheets := goodIn_r _ [60, 9, 61, 7, 62, 37, 38, 16, 39, 40, 63, 64, 65, 66, 47, 67, 68, 69, 70, 45, 71, 72, 73, 74, 46, 75, 76, 77, 5, 78, 13, 14, 15, 17, 18, 23, 24, 25, 79, 80, 81, 82, 83, 84, 85, 86, 87, 88, 89, 90, 12, 91, 56, 101, 102, 103, 104, 105, 106, 107, 108, 112, 113, 114, 115, 116, 117, 118, 109, 110, 111] (by decide +kernel) (by decide +kernel)
set_option maxRecDepth 20000 in
theorem gX2_passMinutes_X2_carrySheets : GoodIn wsX2_passMinutes (wsV RX2 71 RX2 yX2_carrySheets wsX2_carrySheets) := goodIn_app (goodIn_of _ (by decide +kernel)) ggX2_passMinutes_X2_carrySheets
set_option maxRecDepth 20000 in
theorem ggX2_passMinutes_X2_throwOldAway : GoodIn wsX2_passMinutes wsX2_throwOldAway := goodIn_r _ [95, 9, 1, 26, 27, 28, 12, 29, 30, 101, 102, 103, 104, 105, 106, 107, 108, 109, 110, 111] (by decide +kernel) (by decide +kernel)
set_option maxRecDepth 20000 in
theorem gX2_passMinutes_X2_throwOldAway : GoodIn wsX2_passMinutes (wsV RX2 74 RX2 yX2_throwOldAway wsX2_throwOldAway) := goodIn_app (goodIn_of _ (by decide +kernel)) ggX2_passMinutes_X2_throwOldAway
set_option maxRecDepth 20000 in
theorem ggX2_passMinutes_X2_forgetWays : GoodIn wsX2_passMinutes wsX2_forgetWays := goodIn_r _ [99, 100, 101, 102, 103, 104, 105, 106, 107, 108] (by decide +kernel) (by decide +kernel)
set_option maxRecDepth 20000 in
theorem gX2_passMinutes_X2_forgetWays : GoodIn wsX2_passMinutes (wsV RX2 48 RX2 yX2_forgetWays wsX2_forgetWays) := goodIn_app (goodIn_of _ (by decide +kernel)) ggX2_passMinutes_X2_forgetWays
theorem dX2_passMinutes_0 : decode cX2_passMinutes 0 = .ok (.iconst 0, 1) := by decide +kernel
theorem dX2_passMinutes_1 : decode cX2_passMinutes 1 = .ok (.istore_n 2, 1) := by decide +kernel
theorem dX2_passMinutes_2 : decode cX2_passMinutes 2 = .ok (.iconst 0, 1) := by decide +kernel
theorem dX2_passMinutes_3 : decode cX2_passMinutes 3 = .ok (.istore_n 3, 1) := by decide +kernel
theorem dX2_passMinutes_4 : decode cX2_passMinutes 4 = .ok (.iload_n 3, 1) := by decide +kernel
theorem dX2_passMinutes_5 : decode cX2_passMinutes 5 = .ok (.iload_n 1, 1) := by decide +kernel
theorem dX2_passMinutes_6 : decode cX2_passMinutes 6 = .ok (.if_icmp .ge 34, 3) := by decide +kernel
theorem dX2_passMinutes_9 : decode cX2_passMinutes 9 = .ok (.iload_n 2, 1) := by decide +kernel
theorem dX2_passMinutes_10 : decode cX2_passMinutes 10 = .ok (.aload_n 0, 1) := by decide +kernel
theorem dX2_passMinutes_11 : decode cX2_passMinutes 11 = .ok (.invokevirtual 68, 3) := by decide +kernel
theorem dX2_passMinutes_14 : decode cX2_passMinutes 14 = .ok (.iadd, 1) := by decide +kernel
theorem dX2_passMinutes_15 : decode cX2_passMinutes 15 = .ok (.istore_n 2, 1) := by decide +kernel
theorem dX2_passMinutes_16 : decode cX2_passMinutes 16 = .ok (.aload_n 0, 1) := by decide +kernel
theorem dX2_passMinutes_17 : decode cX2_passMinutes 17 = .ok (.invokevirtual 71, 3) := by decide +kernel
theorem dX2_passMinutes_20 : decode cX2_passMinutes 20 = .ok (.aload_n 0, 1) := by decide +kernel
theorem dX2_passMinutes_21 : decode cX2_passMinutes 21 = .ok (.dup, 1) := by decide +kernel
theorem dX2_passMinutes_22 : decode cX2_passMinutes 22 = .ok (.getfield 44, 3) := by decide +kernel
theorem dX2_passMinutes_25 : decode cX2_passMinutes 25 = .ok (.iconst 1, 1) := by decide +kernel
theorem dX2_passMinutes_26 : decode cX2_passMinutes 26 = .ok (.iadd, 1) := by decide +kernel
theorem dX2_passMinutes_27 : decode cX2_passMinutes 27 = .ok (.putfield 44, 3) := by decide +kernel
theorem dX2_passMinutes_30 : decode cX2_passMinutes 30 = .ok (.aload_n 0, 1) := by decide +kernel
theorem dX2_passMinutes_31 : decode cX2_passMinutes 31 = .ok (.invokevirtual 74, 3) := by decide +kernel
theorem dX2_passMinutes_34 : decode cX2_passMinutes 34 = .ok (.iinc 3 1, 3) := by decide +kernel
theorem dX2_passMinutes_37 : decode cX2_passMinutes 37 = .ok (.goto (-33), 3) := by decide +kernel
theorem dX2_passMinutes_40 : decode cX2_passMinutes 40 = .ok (.aload_n 0, 1) := by decide +kernel
theorem dX2_passMinutes_41 : decode cX2_passMinutes 41 = .ok (.invokevirtual 48, 3) := by decide +kernel
theorem dX2_passMinutes_44 : decode cX2_passMinutes 44 = .ok (.iload_n 2, 1) := by decide +kernel
theorem dX2_passMinutes_45 : decode cX2_passMinutes 45 = .ok (.ireturn, 1) := by decide +kernel
set_option maxRecDepth 20000 in
theorem ggX2_writeSheets_X1_huts : GoodIn wsX2_writeSheets wsX1_huts := goodIn_r _ [12, 13, 64, 65, 66, 67, 68, 69, 70] (by decide +kernel) (by decide +kernel)
set_option maxRecDepth 20000 in
theorem gX2_writeSheets_X1_huts : GoodIn wsX2_writeSheets (wsV RX2 59 RX1 yX1_huts wsX1_huts) := goodIn_app (goodIn_of _ (by decide +kernel)) ggX2_writeSheets_X1_huts
set_option maxRecDepth 20000 in
theorem ggX2_writeSheets_X2_mustWrite : GoodIn wsX2_writeSheets wsX2_mustWrite := goodIn_r _ [18, 3, 7, 1, 19, 20, 17, 21, 22, 23, 24, 6, 25, 26, 27, 28, 29, 30, 31, 32, 33, 34, 11, 35, 36, 37, 38, 39, 40, 41, 42, 43, 44, 53, 54, 55, 56, 57, 58, 59, 60, 61, 62, 63, 64, 65, 66, 67, 68, 69, 70] (by decide +kernel) (by decide +kernel)
set_option maxRecDepth 20000 in
theorem gX2_writeSheets_X2_mustWrite : GoodIn wsX2_writeSheets (wsV RX2 77 RX2 yX2_mustWrite wsX2_mustWrite) := goodIn_app (goodIn_of _ (by decide +kernel)) ggX2_writeSheets_X2_mustWrite
set_option maxRecDepth 20000 in
theorem ggX2_writeSheets_X2_slot : GoodIn wsX2_writeSheets wsX2_slot := goodIn_r _ [21] (by decide +kernel) (by decide +kernel)
set_option maxRecDepth 20000 in
theorem gX2_writeSheets_X2_slot : GoodIn wsX2_writeSheets (va_wsS RX2 51 yX2_slot wsX2_slot) := goodIn_app (goodIn_of _ (by decide +kernel)) ggX2_writeSheets_X2_slot
set_option maxRecDepth 20000 in
theorem ggX2_writeSheets_X3_init : GoodIn wsX2_writeSheets wsX3_init := goodIn_r _ [47, 48, 49, 50, 51, 31, 52, 26, 32, 33, 34, 11, 35, 36, 37, 38, 39, 40, 41, 42, 43, 44, 61, 62, 63, 64, 65, 66, 67, 68, 69, 70] (by decide +kernel) (by decide +kernel)
set_option maxRecDepth 20000 in
theorem gX2_writeSheets_X3_init : GoodIn wsX2_writeSheets (wsX3_init) := ggX2_writeSheets_X3_init
theorem dX2_writeSheets_0 : decode cX2_writeSheets 0 = .ok (.iconst 0, 1) := by decide +kernel
theorem dX2_writeSheets_1 : decode cX2_writeSheets 1 = .ok (.istore_n 1, 1) := by decide +kernel
theorem dX2_writeSheets_2 : decode cX2_writeSheets 2 = .ok (.iconst 0, 1) := by decide +kernel
theorem dX2_writeSheets_3 : decode cX2_writeSheets 3 = .ok (.istore_n 2, 1) := by decide +kernel
theorem dX2_writeSheets_4 : decode cX2_writeSheets 4 = .ok (.iload_n 2, 1) := by decide +kernel
theorem dX2_writeSheets_5 : decode cX2_writeSheets 5 = .ok (.aload_n 0, 1) := by decide +kernel
theorem dX2_writeSheets_6 : decode cX2_writeSheets 6 = .ok (.getfield 40, 3) := by decide +kernel
theorem dX2_writeSheets_9 : decode cX2_writeSheets 9 = .ok (.invokevirtual 59, 3) := by decide +kernel
theorem dX2_writeSheets_12 : decode cX2_writeSheets 12 = .ok (.if_icmp .ge 62, 3) := by decide +kernel
theorem dX2_writeSheets_15 : decode cX2_writeSheets 15 = .ok (.aload_n 0, 1) := by decide +kernel
theorem dX2_writeSheets_16 : decode cX2_writeSheets 16 = .ok (.iload_n 2, 1) := by decide +kernel
theorem dX2_writeSheets_17 : decode cX2_writeSheets 17 = .ok (.invokevirtual 77, 3) := by decide +kernel
theorem dX2_writeSheets_20 : decode cX2_writeSheets 20 = .ok (.ifCond .eq 48, 3) := by decide +kernel
theorem dX2_writeSheets_23 : decode cX2_writeSheets 23 = .ok (.aload_n 0, 1) := by decide +kernel
theorem dX2_writeSheets_24 : decode cX2_writeSheets 24 = .ok (.getfield 18, 3) := by decide +kernel
theorem dX2_writeSheets_27 : decode cX2_writeSheets 27 = .ok (.iload_n 2, 1) := by decide +kernel
theorem dX2_writeSheets_28 : decode cX2_writeSheets 28 = .ok (.dup2, 1) := by decide +kernel
theorem dX2_writeSheets_29 : decode cX2_writeSheets 29 = .ok (.iaload, 1) := by decide +kernel
theorem dX2_writeSheets_30 : decode cX2_writeSheets 30 = .ok (.iconst 1, 1) := by decide +kernel
theorem dX2_writeSheets_31 : decode cX2_writeSheets 31 = .ok (.iadd, 1) := by decide +kernel
theorem dX2_writeSheets_32 : decode cX2_writeSheets 32 = .ok (.iastore, 1) := by decide +kernel
theorem dX2_writeSheets_33 : decode cX2_writeSheets 33 = .ok (.aload_n 0, 1) := by decide +kernel
theorem dX2_writeSheets_34 : decode cX2_writeSheets 34 = .ok (.getfield 33, 3) := by decide +kernel
theorem dX2_writeSheets_37 : decode cX2_writeSheets 37 = .ok (.iload_n 2, 1) := by decide +kernel
theorem dX2_writeSheets_38 : decode cX2_writeSheets 38 = .ok (.iload_n 2, 1) := by decide +kernel
theorem dX2_writeSheets_39 : decode cX2_writeSheets 39 = .ok (.invokestatic 51, 3) := by decide +kernel
theorem dX2_writeSheets_42 : decode cX2_writeSheets 42 = .ok (.new 31, 3) := by decide +kernel
theorem dX2_writeSheets_45 : decode cX2_writeSheets 45 = .ok (.dup, 1) := by decide +kernel
theorem dX2_writeSheets_46 : decode cX2_writeSheets 46 = .ok (.aload_n 0, 1) := by decide +kernel
theorem dX2_writeSheets_47 : decode cX2_writeSheets 47 = .ok (.getfield 18, 3) := by decide +kernel
theorem dX2_writeSheets_50 : decode cX2_writeSheets 50 = .ok (.iload_n 2, 1) := by decide +kernel
theorem dX2_writeSheets_51 : decode cX2_writeSheets 51 = .ok (.iaload, 1) := by decide +kernel
theorem dX2_writeSheets_52 : decode cX2_writeSheets 52 = .ok (.aload_n 0, 1) := by decide +kernel
theorem dX2_writeSheets_53 : decode cX2_writeSheets 53 = .ok (.getfield 44, 3) := by decide +kernel
theorem dX2_writeSheets_56 : decode cX2_writeSheets 56 = .ok (.aload_n 0, 1) := by decide +kernel
theorem dX2_writeSheets_57 : decode cX2_writeSheets 57 = .ok (.getfield 40, 3) := by decide +kernel
theorem dX2_writeSheets_60 : decode cX2_writeSheets 60 = .ok (.iload_n 2, 1) := by decide +kernel
theorem dX2_writeSheets_61 : decode cX2_writeSheets 61 = .ok (.invokespecial 81, 3) := by decide +kernel
theorem dX2_writeSheets_64 : decode cX2_writeSheets 64 = .ok (.aastore, 1) := by decide +kernel
theorem dX2_writeSheets_65 : decode cX2_writeSheets 65 = .ok (.iinc 1 1, 3) := by decide +kernel
theorem dX2_writeSheets_68 : decode cX2_writeSheets 68 = .ok (.iinc 2 1, 3) := by decide +kernel
theorem dX2_writeSheets_71 : decode cX2_writeSheets 71 = .ok (.goto (-67), 3) := by decide +kernel
theorem dX2_writeSheets_74 : decode cX2_writeSheets 74 = .ok (.iload_n 1, 1) := by decide +kernel
theorem dX2_writeSheets_75 : decode cX2_writeSheets 75 = .ok (.ireturn, 1) := by decide +kernel
set_option maxRecDepth 20000 in
theorem ggX2_mustWrite_X2_slot : GoodIn wsX2_mustWrite wsX2_slot := goodIn_r _ [7] (by decide +kernel) (by decide +kernel)
set_option maxRecDepth 20000 in
theorem gX2_mustWrite_X2_slot : GoodIn wsX2_mustWrite (va_wsS RX2 51 yX2_slot wsX2_slot) := goodIn_app (goodIn_of _ (by decide +kernel)) ggX2_mustWrite_X2_slot
set_option maxRecDepth 20000 in
theorem ggX2_mustWrite_X3_age : GoodIn wsX2_mustWrite wsX3_age := goodIn_r _ [12, 13, 41, 42, 43] (by decide +kernel) (by decide +kernel)
set_option maxRecDepth 20000 in
theorem gX2_mustWrite_X3_age : GoodIn wsX2_mustWrite (wsV RX2 65 RX3 yX3_age wsX3_age) := goodIn_app (goodIn_of _ (by decide +kernel)) ggX2_mustWrite_X3_age
set_option maxRecDepth 20000 in
theorem ggX2_mustWrite_X3_tellsAsNow : GoodIn wsX2_mustWrite wsX3_tellsAsNow := goodIn_r _ [17, 18, 19, 20, 21, 22, 23, 24, 25, 26, 27, 28, 29, 30, 31, 32, 41, 42, 43, 44, 45, 46, 47, 48, 49, 50] (by decide +kernel) (by decide +kernel)
set_option maxRecDepth 20000 in
theorem gX2_mustWrite_X3_tellsAsNow : GoodIn wsX2_mustWrite (wsV RX2 84 RX3 yX3_tellsAsNow wsX3_tellsAsNow) := goodIn_app (goodIn_of _ (by decide +kernel)) ggX2_mustWrite_X3_tellsAsNow
theorem dX2_mustWrite_0 : decode cX2_mustWrite 0 = .ok (.aload_n 0, 1) := by decide +kernel
theorem dX2_mustWrite_1 : decode cX2_mustWrite 1 = .ok (.getfield 33, 3) := by decide +kernel
theorem dX2_mustWrite_4 : decode cX2_mustWrite 4 = .ok (.iload_n 1, 1) := by decide +kernel
theorem dX2_mustWrite_5 : decode cX2_mustWrite 5 = .ok (.iload_n 1, 1) := by decide +kernel
theorem dX2_mustWrite_6 : decode cX2_mustWrite 6 = .ok (.invokestatic 51, 3) := by decide +kernel
theorem dX2_mustWrite_9 : decode cX2_mustWrite 9 = .ok (.aaload, 1) := by decide +kernel
theorem dX2_mustWrite_10 : decode cX2_mustWrite 10 = .ok (.astore_n 2, 1) := by decide +kernel
theorem dX2_mustWrite_11 : decode cX2_mustWrite 11 = .ok (.aload_n 2, 1) := by decide +kernel
theorem dX2_mustWrite_12 : decode cX2_mustWrite 12 = .ok (.ifnull 28, 3) := by decide +kernel
theorem dX2_mustWrite_15 : decode cX2_mustWrite 15 = .ok (.aload_n 2, 1) := by decide +kernel
theorem dX2_mustWrite_16 : decode cX2_mustWrite 16 = .ok (.aload_n 0, 1) := by decide +kernel
theorem dX2_mustWrite_17 : decode cX2_mustWrite 17 = .ok (.getfield 44, 3) := by decide +kernel
theorem dX2_mustWrite_20 : decode cX2_mustWrite 20 = .ok (.invokevirtual 65, 3) := by decide +kernel
theorem dX2_mustWrite_23 : decode cX2_mustWrite 23 = .ok (.bipush 20, 2) := by decide +kernel
theorem dX2_mustWrite_25 : decode cX2_mustWrite 25 = .ok (.if_icmp .ge 15, 3) := by decide +kernel
theorem dX2_mustWrite_28 : decode cX2_mustWrite 28 = .ok (.aload_n 2, 1) := by decide +kernel
theorem dX2_mustWrite_29 : decode cX2_mustWrite 29 = .ok (.aload_n 0, 1) := by decide +kernel
theorem dX2_mustWrite_30 : decode cX2_mustWrite 30 = .ok (.getfield 40, 3) := by decide +kernel
theorem dX2_mustWrite_33 : decode cX2_mustWrite 33 = .ok (.iload_n 1, 1) := by decide +kernel
theorem dX2_mustWrite_34 : decode cX2_mustWrite 34 = .ok (.invokevirtual 84, 3) := by decide +kernel
theorem dX2_mustWrite_37 : decode cX2_mustWrite 37 = .ok (.ifCond .ne 7, 3) := by decide +kernel
theorem dX2_mustWrite_40 : decode cX2_mustWrite 40 = .ok (.iconst 1, 1) := by decide +kernel
theorem dX2_mustWrite_41 : decode cX2_mustWrite 41 = .ok (.goto 4, 3) := by decide +kernel
theorem dX2_mustWrite_44 : decode cX2_mustWrite 44 = .ok (.iconst 0, 1) := by decide +kernel
theorem dX2_mustWrite_45 : decode cX2_mustWrite 45 = .ok (.ireturn, 1) := by decide +kernel
set_option maxRecDepth 20000 in
theorem ggX2_carrySheets_X1_passes : GoodIn wsX2_carrySheets wsX1_passes := goodIn_r _ [8, 9, 61, 62, 63, 64, 65, 66, 67] (by decide +kernel) (by decide +kernel)
set_option maxRecDepth 20000 in
theorem gX2_carrySheets_X1_passes : GoodIn wsX2_carrySheets (wsV RX2 88 RX1 yX1_passes wsX1_passes) := goodIn_app (goodIn_of _ (by decide +kernel)) ggX2_carrySheets_X1_passes
set_option maxRecDepth 20000 in
theorem ggX2_carrySheets_X1_isOpen : GoodIn wsX2_carrySheets wsX1_isOpen := goodIn_r _ [13, 14, 61, 62, 63, 64, 65, 66, 67] (by decide +kernel) (by decide +kernel)
set_option maxRecDepth 20000 in
theorem gX2_carrySheets_X1_isOpen : GoodIn wsX2_carrySheets (wsV RX2 91 RX1 yX1_isOpen wsX1_isOpen) := goodIn_app (goodIn_of _ (by decide +kernel)) ggX2_carrySheets_X1_isOpen
set_option maxRecDepth 20000 in
theorem ggX2_carrySheets_X1_first : GoodIn wsX2_carrySheets wsX1_first := goodIn_r _ [18, 19, 61, 62, 63, 64, 65, 66, 67] (by decide +kernel) (by decide +kernel)
set_option maxRecDepth 20000 in
theorem gX2_carrySheets_X1_first : GoodIn wsX2_carrySheets (wsV RX2 94 RX1 yX1_first wsX1_first) := goodIn_app (goodIn_of _ (by decide +kernel)) ggX2_carrySheets_X1_first
set_option maxRecDepth 20000 in
theorem ggX2_carrySheets_X1_second : GoodIn wsX2_carrySheets wsX1_second := goodIn_r _ [23, 24, 61, 62, 63, 64, 65, 66, 67] (by decide +kernel) (by decide +kernel)
set_option maxRecDepth 20000 in
theorem gX2_carrySheets_X1_second : GoodIn wsX2_carrySheets (wsV RX2 97 RX1 yX1_second wsX1_second) := goodIn_app (goodIn_of _ (by decide +kernel)) ggX2_carrySheets_X1_second
set_option maxRecDepth 20000 in
theorem ggX2_carrySheets_X2_carry : GoodIn wsX2_carrySheets wsX2_carry := goodIn_r _ [29, 3, 1, 2, 30, 31, 32, 7, 33, 34, 35, 36, 28, 37, 38, 39, 40, 41, 42, 43, 44, 45, 46, 47, 48, 49, 50, 51, 52, 53, 54, 55, 56, 57, 58, 59, 60, 61, 62, 63, 64, 65, 66, 67, 68, 69, 70] (by decide +kernel) (by decide +kernel)
set_option maxRecDepth 20000 in
theorem gX2_carrySheets_X2_carry : GoodIn wsX2_carrySheets (wsV RX2 100 RX2 yX2_carry wsX2_carry) := goodIn_app (goodIn_of _ (by decide +kernel)) ggX2_carrySheets_X2_carry
theorem dX2_carrySheets_0 : decode cX2_carrySheets 0 = .ok (.iconst 0, 1) := by decide +kernel
theorem dX2_carrySheets_1 : decode cX2_carrySheets 1 = .ok (.istore_n 1, 1) := by decide +kernel
theorem dX2_carrySheets_2 : decode cX2_carrySheets 2 = .ok (.iload_n 1, 1) := by decide +kernel
theorem dX2_carrySheets_3 : decode cX2_carrySheets 3 = .ok (.aload_n 0, 1) := by decide +kernel
theorem dX2_carrySheets_4 : decode cX2_carrySheets 4 = .ok (.getfield 33, 3) := by decide +kernel
theorem dX2_carrySheets_7 : decode cX2_carrySheets 7 = .ok (.arraylength, 1) := by decide +kernel
theorem dX2_carrySheets_8 : decode cX2_carrySheets 8 = .ok (.if_icmp .ge 21, 3) := by decide +kernel
theorem dX2_carrySheets_11 : decode cX2_carrySheets 11 = .ok (.aload_n 0, 1) := by decide +kernel
theorem dX2_carrySheets_12 : decode cX2_carrySheets 12 = .ok (.getfield 37, 3) := by decide +kernel
theorem dX2_carrySheets_15 : decode cX2_carrySheets 15 = .ok (.iload_n 1, 1) := by decide +kernel
theorem dX2_carrySheets_16 : decode cX2_carrySheets 16 = .ok (.aload_n 0, 1) := by decide +kernel
theorem dX2_carrySheets_17 : decode cX2_carrySheets 17 = .ok (.getfield 33, 3) := by decide +kernel
theorem dX2_carrySheets_20 : decode cX2_carrySheets 20 = .ok (.iload_n 1, 1) := by decide +kernel
theorem dX2_carrySheets_21 : decode cX2_carrySheets 21 = .ok (.aaload, 1) := by decide +kernel
theorem dX2_carrySheets_22 : decode cX2_carrySheets 22 = .ok (.aastore, 1) := by decide +kernel
theorem dX2_carrySheets_23 : decode cX2_carrySheets 23 = .ok (.iinc 1 1, 3) := by decide +kernel
theorem dX2_carrySheets_26 : decode cX2_carrySheets 26 = .ok (.goto (-24), 3) := by decide +kernel
theorem dX2_carrySheets_29 : decode cX2_carrySheets 29 = .ok (.iconst 0, 1) := by decide +kernel
theorem dX2_carrySheets_30 : decode cX2_carrySheets 30 = .ok (.istore_n 1, 1) := by decide +kernel
theorem dX2_carrySheets_31 : decode cX2_carrySheets 31 = .ok (.iload_n 1, 1) := by decide +kernel
theorem dX2_carrySheets_32 : decode cX2_carrySheets 32 = .ok (.aload_n 0, 1) := by decide +kernel
theorem dX2_carrySheets_33 : decode cX2_carrySheets 33 = .ok (.getfield 40, 3) := by decide +kernel
theorem dX2_carrySheets_36 : decode cX2_carrySheets 36 = .ok (.invokevirtual 88, 3) := by decide +kernel
theorem dX2_carrySheets_39 : decode cX2_carrySheets 39 = .ok (.if_icmp .ge 60, 3) := by decide +kernel
theorem dX2_carrySheets_42 : decode cX2_carrySheets 42 = .ok (.aload_n 0, 1) := by decide +kernel
theorem dX2_carrySheets_43 : decode cX2_carrySheets 43 = .ok (.getfield 40, 3) := by decide +kernel
theorem dX2_carrySheets_46 : decode cX2_carrySheets 46 = .ok (.iload_n 1, 1) := by decide +kernel
theorem dX2_carrySheets_47 : decode cX2_carrySheets 47 = .ok (.invokevirtual 91, 3) := by decide +kernel
theorem dX2_carrySheets_50 : decode cX2_carrySheets 50 = .ok (.ifCond .eq 43, 3) := by decide +kernel
theorem dX2_carrySheets_53 : decode cX2_carrySheets 53 = .ok (.aload_n 0, 1) := by decide +kernel
theorem dX2_carrySheets_54 : decode cX2_carrySheets 54 = .ok (.aload_n 0, 1) := by decide +kernel
theorem dX2_carrySheets_55 : decode cX2_carrySheets 55 = .ok (.getfield 40, 3) := by decide +kernel
theorem dX2_carrySheets_58 : decode cX2_carrySheets 58 = .ok (.iload_n 1, 1) := by decide +kernel
theorem dX2_carrySheets_59 : decode cX2_carrySheets 59 = .ok (.invokevirtual 94, 3) := by decide +kernel
theorem dX2_carrySheets_62 : decode cX2_carrySheets 62 = .ok (.aload_n 0, 1) := by decide +kernel
theorem dX2_carrySheets_63 : decode cX2_carrySheets 63 = .ok (.getfield 40, 3) := by decide +kernel
theorem dX2_carrySheets_66 : decode cX2_carrySheets 66 = .ok (.iload_n 1, 1) := by decide +kernel
theorem dX2_carrySheets_67 : decode cX2_carrySheets 67 = .ok (.invokevirtual 97, 3) := by decide +kernel
theorem dX2_carrySheets_70 : decode cX2_carrySheets 70 = .ok (.invokevirtual 100, 3) := by decide +kernel
theorem dX2_carrySheets_73 : decode cX2_carrySheets 73 = .ok (.aload_n 0, 1) := by decide +kernel
theorem dX2_carrySheets_74 : decode cX2_carrySheets 74 = .ok (.aload_n 0, 1) := by decide +kernel
theorem dX2_carrySheets_75 : decode cX2_carrySheets 75 = .ok (.getfield 40, 3) := by decide +kernel
theorem dX2_carrySheets_78 : decode cX2_carrySheets 78 = .ok (.iload_n 1, 1) := by decide +kernel
theorem dX2_carrySheets_79 : decode cX2_carrySheets 79 = .ok (.invokevirtual 97, 3) := by decide +kernel
theorem dX2_carrySheets_82 : decode cX2_carrySheets 82 = .ok (.aload_n 0, 1) := by decide +kernel
theorem dX2_carrySheets_83 : decode cX2_carrySheets 83 = .ok (.getfield 40, 3) := by decide +kernel
theorem dX2_carrySheets_86 : decode cX2_carrySheets 86 = .ok (.iload_n 1, 1) := by decide +kernel
theorem dX2_carrySheets_87 : decode cX2_carrySheets 87 = .ok (.invokevirtual 94, 3) := by decide +kernel
theorem dX2_carrySheets_90 : decode cX2_carrySheets 90 = .ok (.invokevirtual 100, 3) := by decide +kernel
theorem dX2_carrySheets_93 : decode cX2_carrySheets 93 = .ok (.iinc 1 1, 3) := by decide +kernel
theorem dX2_carrySheets_96 : decode cX2_carrySheets 96 = .ok (.goto (-65), 3) := by decide +kernel
theorem dX2_carrySheets_99 : decode cX2_carrySheets 99 = .ok (.aload_n 0, 1) := by decide +kernel
theorem dX2_carrySheets_100 : decode cX2_carrySheets 100 = .ok (.getfield 33, 3) := by decide +kernel
theorem dX2_carrySheets_103 : decode cX2_carrySheets 103 = .ok (.astore_n 1, 1) := by decide +kernel
theorem dX2_carrySheets_104 : decode cX2_carrySheets 104 = .ok (.aload_n 0, 1) := by decide +kernel
theorem dX2_carrySheets_105 : decode cX2_carrySheets 105 = .ok (.aload_n 0, 1) := by decide +kernel
theorem dX2_carrySheets_106 : decode cX2_carrySheets 106 = .ok (.getfield 37, 3) := by decide +kernel
theorem dX2_carrySheets_109 : decode cX2_carrySheets 109 = .ok (.putfield 33, 3) := by decide +kernel
theorem dX2_carrySheets_112 : decode cX2_carrySheets 112 = .ok (.aload_n 0, 1) := by decide +kernel
theorem dX2_carrySheets_113 : decode cX2_carrySheets 113 = .ok (.aload_n 1, 1) := by decide +kernel
theorem dX2_carrySheets_114 : decode cX2_carrySheets 114 = .ok (.putfield 37, 3) := by decide +kernel
theorem dX2_carrySheets_117 : decode cX2_carrySheets 117 = .ok (.return_, 1) := by decide +kernel
set_option maxRecDepth 20000 in
theorem ggX2_carry_X1_huts : GoodIn wsX2_carry wsX1_huts := goodIn_r _ [8, 9, 37, 38, 39, 40, 41, 42, 43] (by decide +kernel) (by decide +kernel)
set_option maxRecDepth 20000 in
theorem gX2_carry_X1_huts : GoodIn wsX2_carry (wsV RX2 59 RX1 yX1_huts wsX1_huts) := goodIn_app (goodIn_of _ (by decide +kernel)) ggX2_carry_X1_huts
set_option maxRecDepth 20000 in
theorem ggX2_carry_X2_slot : GoodIn wsX2_carry wsX2_slot := goodIn_r _ [13] (by decide +kernel) (by decide +kernel)
set_option maxRecDepth 20000 in
theorem gX2_carry_X2_slot : GoodIn wsX2_carry (va_wsS RX2 51 yX2_slot wsX2_slot) := goodIn_app (goodIn_of _ (by decide +kernel)) ggX2_carry_X2_slot
set_option maxRecDepth 20000 in
theorem ggX2_carry_X1_takesIn : GoodIn wsX2_carry wsX1_takesIn := goodIn_r _ [17, 18, 37, 38, 39, 40, 41, 42, 43] (by decide +kernel) (by decide +kernel)
set_option maxRecDepth 20000 in
theorem gX2_carry_X1_takesIn : GoodIn wsX2_carry (wsV RX2 104 RX1 yX1_takesIn wsX1_takesIn) := goodIn_app (goodIn_of _ (by decide +kernel)) ggX2_carry_X1_takesIn
set_option maxRecDepth 20000 in
theorem ggX2_carry_X2_isNewer : GoodIn wsX2_carry wsX2_isNewer := goodIn_r _ [22, 23, 24, 25, 26, 27, 28, 44, 45, 46] (by decide +kernel) (by decide +kernel)
set_option maxRecDepth 20000 in
theorem gX2_carry_X2_isNewer : GoodIn wsX2_carry (wsV RX2 108 RX2 yX2_isNewer wsX2_isNewer) := goodIn_app (goodIn_of _ (by decide +kernel)) ggX2_carry_X2_isNewer
theorem dX2_carry_0 : decode cX2_carry 0 = .ok (.iconst 0, 1) := by decide +kernel
theorem dX2_carry_1 : decode cX2_carry 1 = .ok (.istore_n 3, 1) := by decide +kernel
theorem dX2_carry_2 : decode cX2_carry 2 = .ok (.iload_n 3, 1) := by decide +kernel
theorem dX2_carry_3 : decode cX2_carry 3 = .ok (.aload_n 0, 1) := by decide +kernel
theorem dX2_carry_4 : decode cX2_carry 4 = .ok (.getfield 40, 3) := by decide +kernel
theorem dX2_carry_7 : decode cX2_carry 7 = .ok (.invokevirtual 59, 3) := by decide +kernel
theorem dX2_carry_10 : decode cX2_carry 10 = .ok (.if_icmp .ge 74, 3) := by decide +kernel
theorem dX2_carry_13 : decode cX2_carry 13 = .ok (.aload_n 0, 1) := by decide +kernel
theorem dX2_carry_14 : decode cX2_carry 14 = .ok (.getfield 33, 3) := by decide +kernel
theorem dX2_carry_17 : decode cX2_carry 17 = .ok (.iload_n 1, 1) := by decide +kernel
theorem dX2_carry_18 : decode cX2_carry 18 = .ok (.iload_n 3, 1) := by decide +kernel
theorem dX2_carry_19 : decode cX2_carry 19 = .ok (.invokestatic 51, 3) := by decide +kernel
theorem dX2_carry_22 : decode cX2_carry 22 = .ok (.aaload, 1) := by decide +kernel
theorem dX2_carry_23 : decode cX2_carry 23 = .ok (.astore 4, 2) := by decide +kernel
theorem dX2_carry_25 : decode cX2_carry 25 = .ok (.aload 4, 2) := by decide +kernel
theorem dX2_carry_27 : decode cX2_carry 27 = .ok (.ifnull 51, 3) := by decide +kernel
theorem dX2_carry_30 : decode cX2_carry 30 = .ok (.iload_n 3, 1) := by decide +kernel
theorem dX2_carry_31 : decode cX2_carry 31 = .ok (.iload_n 2, 1) := by decide +kernel
theorem dX2_carry_32 : decode cX2_carry 32 = .ok (.if_icmp .eq 46, 3) := by decide +kernel
theorem dX2_carry_35 : decode cX2_carry 35 = .ok (.aload_n 0, 1) := by decide +kernel
theorem dX2_carry_36 : decode cX2_carry 36 = .ok (.getfield 40, 3) := by decide +kernel
theorem dX2_carry_39 : decode cX2_carry 39 = .ok (.iload_n 2, 1) := by decide +kernel
theorem dX2_carry_40 : decode cX2_carry 40 = .ok (.iload_n 3, 1) := by decide +kernel
theorem dX2_carry_41 : decode cX2_carry 41 = .ok (.invokevirtual 104, 3) := by decide +kernel
theorem dX2_carry_44 : decode cX2_carry 44 = .ok (.ifCond .eq 34, 3) := by decide +kernel
theorem dX2_carry_47 : decode cX2_carry 47 = .ok (.aload_n 0, 1) := by decide +kernel
theorem dX2_carry_48 : decode cX2_carry 48 = .ok (.aload 4, 2) := by decide +kernel
theorem dX2_carry_50 : decode cX2_carry 50 = .ok (.aload_n 0, 1) := by decide +kernel
theorem dX2_carry_51 : decode cX2_carry 51 = .ok (.getfield 37, 3) := by decide +kernel
theorem dX2_carry_54 : decode cX2_carry 54 = .ok (.iload_n 2, 1) := by decide +kernel
theorem dX2_carry_55 : decode cX2_carry 55 = .ok (.iload_n 3, 1) := by decide +kernel
theorem dX2_carry_56 : decode cX2_carry 56 = .ok (.invokestatic 51, 3) := by decide +kernel
theorem dX2_carry_59 : decode cX2_carry 59 = .ok (.aaload, 1) := by decide +kernel
theorem dX2_carry_60 : decode cX2_carry 60 = .ok (.invokevirtual 108, 3) := by decide +kernel
theorem dX2_carry_63 : decode cX2_carry 63 = .ok (.ifCond .eq 15, 3) := by decide +kernel
theorem dX2_carry_66 : decode cX2_carry 66 = .ok (.aload_n 0, 1) := by decide +kernel
theorem dX2_carry_67 : decode cX2_carry 67 = .ok (.getfield 37, 3) := by decide +kernel
theorem dX2_carry_70 : decode cX2_carry 70 = .ok (.iload_n 2, 1) := by decide +kernel
theorem dX2_carry_71 : decode cX2_carry 71 = .ok (.iload_n 3, 1) := by decide +kernel
theorem dX2_carry_72 : decode cX2_carry 72 = .ok (.invokestatic 51, 3) := by decide +kernel
theorem dX2_carry_75 : decode cX2_carry 75 = .ok (.aload 4, 2) := by decide +kernel
theorem dX2_carry_77 : decode cX2_carry 77 = .ok (.aastore, 1) := by decide +kernel
theorem dX2_carry_78 : decode cX2_carry 78 = .ok (.iinc 3 1, 3) := by decide +kernel
theorem dX2_carry_81 : decode cX2_carry 81 = .ok (.goto (-79), 3) := by decide +kernel
theorem dX2_carry_84 : decode cX2_carry 84 = .ok (.return_, 1) := by decide +kernel
set_option maxRecDepth 20000 in
theorem ggX2_isNewer_X3_number : GoodIn wsX2_isNewer wsX3_number := goodIn_r _ [5, 6, 7, 8, 9] (by decide +kernel) (by decide +kernel)
set_option maxRecDepth 20000 in
theorem gX2_isNewer_X3_number : GoodIn wsX2_isNewer (wsV RX2 112 RX3 yX3_number wsX3_number) := goodIn_app (goodIn_of _ (by decide +kernel)) ggX2_isNewer_X3_number
theorem dX2_isNewer_0 : decode cX2_isNewer 0 = .ok (.aload_n 2, 1) := by decide +kernel
theorem dX2_isNewer_1 : decode cX2_isNewer 1 = .ok (.ifnull 14, 3) := by decide +kernel
theorem dX2_isNewer_4 : decode cX2_isNewer 4 = .ok (.aload_n 1, 1) := by decide +kernel
theorem dX2_isNewer_5 : decode cX2_isNewer 5 = .ok (.invokevirtual 112, 3) := by decide +kernel
theorem dX2_isNewer_8 : decode cX2_isNewer 8 = .ok (.aload_n 2, 1) := by decide +kernel
theorem dX2_isNewer_9 : decode cX2_isNewer 9 = .ok (.invokevirtual 112, 3) := by decide +kernel
theorem dX2_isNewer_12 : decode cX2_isNewer 12 = .ok (.if_icmp .le 7, 3) := by decide +kernel
theorem dX2_isNewer_15 : decode cX2_isNewer 15 = .ok (.iconst 1, 1) := by decide +kernel
theorem dX2_isNewer_16 : decode cX2_isNewer 16 = .ok (.goto 4, 3) := by decide +kernel
theorem dX2_isNewer_19 : decode cX2_isNewer 19 = .ok (.iconst 0, 1) := by decide +kernel
theorem dX2_isNewer_20 : decode cX2_isNewer 20 = .ok (.ireturn, 1) := by decide +kernel
set_option maxRecDepth 20000 in
theorem ggX2_throwOldAway_X3_age : GoodIn wsX2_throwOldAway wsX3_age := goodIn_r _ [7, 8, 17, 18, 19] (by decide +kernel) (by decide +kernel)
set_option maxRecDepth 20000 in
theorem gX2_throwOldAway_X3_age : GoodIn wsX2_throwOldAway (wsV RX2 65 RX3 yX3_age wsX3_age) := goodIn_app (goodIn_of _ (by decide +kernel)) ggX2_throwOldAway_X3_age
theorem dX2_throwOldAway_0 : decode cX2_throwOldAway 0 = .ok (.iconst 0, 1) := by decide +kernel
theorem dX2_throwOldAway_1 : decode cX2_throwOldAway 1 = .ok (.istore_n 1, 1) := by decide +kernel
theorem dX2_throwOldAway_2 : decode cX2_throwOldAway 2 = .ok (.iload_n 1, 1) := by decide +kernel
theorem dX2_throwOldAway_3 : decode cX2_throwOldAway 3 = .ok (.aload_n 0, 1) := by decide +kernel
theorem dX2_throwOldAway_4 : decode cX2_throwOldAway 4 = .ok (.getfield 33, 3) := by decide +kernel
theorem dX2_throwOldAway_7 : decode cX2_throwOldAway 7 = .ok (.arraylength, 1) := by decide +kernel
theorem dX2_throwOldAway_8 : decode cX2_throwOldAway 8 = .ok (.if_icmp .ge 40, 3) := by decide +kernel
theorem dX2_throwOldAway_11 : decode cX2_throwOldAway 11 = .ok (.aload_n 0, 1) := by decide +kernel
theorem dX2_throwOldAway_12 : decode cX2_throwOldAway 12 = .ok (.getfield 33, 3) := by decide +kernel
theorem dX2_throwOldAway_15 : decode cX2_throwOldAway 15 = .ok (.iload_n 1, 1) := by decide +kernel
theorem dX2_throwOldAway_16 : decode cX2_throwOldAway 16 = .ok (.aaload, 1) := by decide +kernel
theorem dX2_throwOldAway_17 : decode cX2_throwOldAway 17 = .ok (.astore_n 2, 1) := by decide +kernel
theorem dX2_throwOldAway_18 : decode cX2_throwOldAway 18 = .ok (.aload_n 2, 1) := by decide +kernel
theorem dX2_throwOldAway_19 : decode cX2_throwOldAway 19 = .ok (.ifnull 23, 3) := by decide +kernel
theorem dX2_throwOldAway_22 : decode cX2_throwOldAway 22 = .ok (.aload_n 2, 1) := by decide +kernel
theorem dX2_throwOldAway_23 : decode cX2_throwOldAway 23 = .ok (.aload_n 0, 1) := by decide +kernel
theorem dX2_throwOldAway_24 : decode cX2_throwOldAway 24 = .ok (.getfield 44, 3) := by decide +kernel
theorem dX2_throwOldAway_27 : decode cX2_throwOldAway 27 = .ok (.invokevirtual 65, 3) := by decide +kernel
theorem dX2_throwOldAway_30 : decode cX2_throwOldAway 30 = .ok (.bipush 30, 2) := by decide +kernel
theorem dX2_throwOldAway_32 : decode cX2_throwOldAway 32 = .ok (.if_icmp .le 10, 3) := by decide +kernel
theorem dX2_throwOldAway_35 : decode cX2_throwOldAway 35 = .ok (.aload_n 0, 1) := by decide +kernel
theorem dX2_throwOldAway_36 : decode cX2_throwOldAway 36 = .ok (.getfield 33, 3) := by decide +kernel
theorem dX2_throwOldAway_39 : decode cX2_throwOldAway 39 = .ok (.iload_n 1, 1) := by decide +kernel
theorem dX2_throwOldAway_40 : decode cX2_throwOldAway 40 = .ok (.aconst_null, 1) := by decide +kernel
theorem dX2_throwOldAway_41 : decode cX2_throwOldAway 41 = .ok (.aastore, 1) := by decide +kernel
theorem dX2_throwOldAway_42 : decode cX2_throwOldAway 42 = .ok (.iinc 1 1, 3) := by decide +kernel
theorem dX2_throwOldAway_45 : decode cX2_throwOldAway 45 = .ok (.goto (-43), 3) := by decide +kernel
theorem dX2_throwOldAway_48 : decode cX2_throwOldAway 48 = .ok (.return_, 1) := by decide +kernel
set_option maxRecDepth 20000 in
theorem ggX2_takesForOpen_X1_first : GoodIn wsX2_takesForOpen wsX1_first := goodIn_r _ [7, 8, 32, 33, 34, 35, 36, 37, 38] (by decide +kernel) (by decide +kernel)
set_option maxRecDepth 20000 in
theorem gX2_takesForOpen_X1_first : GoodIn wsX2_takesForOpen (wsV RX2 94 RX1 yX1_first wsX1_first) := goodIn_app (goodIn_of _ (by decide +kernel)) ggX2_takesForOpen_X1_first
set_option maxRecDepth 20000 in
theorem ggX2_takesForOpen_X2_slot : GoodIn wsX2_takesForOpen wsX2_slot := goodIn_r _ [12] (by decide +kernel) (by decide +kernel)
set_option maxRecDepth 20000 in
theorem gX2_takesForOpen_X2_slot : GoodIn wsX2_takesForOpen (va_wsS RX2 51 yX2_slot wsX2_slot) := goodIn_app (goodIn_of _ (by decide +kernel)) ggX2_takesForOpen_X2_slot
set_option maxRecDepth 20000 in
theorem ggX2_takesForOpen_X1_second : GoodIn wsX2_takesForOpen wsX1_second := goodIn_r _ [16, 17, 32, 33, 34, 35, 36, 37, 38] (by decide +kernel) (by decide +kernel)
set_option maxRecDepth 20000 in
theorem gX2_takesForOpen_X1_second : GoodIn wsX2_takesForOpen (wsV RX2 97 RX1 yX1_second wsX1_second) := goodIn_app (goodIn_of _ (by decide +kernel)) ggX2_takesForOpen_X1_second
set_option maxRecDepth 20000 in
theorem ggX2_takesForOpen_X3_tells : GoodIn wsX2_takesForOpen wsX3_tells := goodIn_r _ [22, 23, 39, 40, 41] (by decide +kernel) (by decide +kernel)
set_option maxRecDepth 20000 in
theorem gX2_takesForOpen_X3_tells : GoodIn wsX2_takesForOpen (wsV RX2 115 RX3 yX3_tells wsX3_tells) := goodIn_app (goodIn_of _ (by decide +kernel)) ggX2_takesForOpen_X3_tells
theorem dX2_takesForOpen_0 : decode cX2_takesForOpen 0 = .ok (.aload_n 0, 1) := by decide +kernel
theorem dX2_takesForOpen_1 : decode cX2_takesForOpen 1 = .ok (.getfield 33, 3) := by decide +kernel
theorem dX2_takesForOpen_4 : decode cX2_takesForOpen 4 = .ok (.iload_n 1, 1) := by decide +kernel
theorem dX2_takesForOpen_5 : decode cX2_takesForOpen 5 = .ok (.aload_n 0, 1) := by decide +kernel
theorem dX2_takesForOpen_6 : decode cX2_takesForOpen 6 = .ok (.getfield 40, 3) := by decide +kernel
theorem dX2_takesForOpen_9 : decode cX2_takesForOpen 9 = .ok (.iload_n 2, 1) := by decide +kernel
theorem dX2_takesForOpen_10 : decode cX2_takesForOpen 10 = .ok (.invokevirtual 94, 3) := by decide +kernel
theorem dX2_takesForOpen_13 : decode cX2_takesForOpen 13 = .ok (.invokestatic 51, 3) := by decide +kernel
theorem dX2_takesForOpen_16 : decode cX2_takesForOpen 16 = .ok (.aaload, 1) := by decide +kernel
theorem dX2_takesForOpen_17 : decode cX2_takesForOpen 17 = .ok (.astore_n 3, 1) := by decide +kernel
theorem dX2_takesForOpen_18 : decode cX2_takesForOpen 18 = .ok (.aload_n 0, 1) := by decide +kernel
theorem dX2_takesForOpen_19 : decode cX2_takesForOpen 19 = .ok (.getfield 33, 3) := by decide +kernel
theorem dX2_takesForOpen_22 : decode cX2_takesForOpen 22 = .ok (.iload_n 1, 1) := by decide +kernel
theorem dX2_takesForOpen_23 : decode cX2_takesForOpen 23 = .ok (.aload_n 0, 1) := by decide +kernel
theorem dX2_takesForOpen_24 : decode cX2_takesForOpen 24 = .ok (.getfield 40, 3) := by decide +kernel
theorem dX2_takesForOpen_27 : decode cX2_takesForOpen 27 = .ok (.iload_n 2, 1) := by decide +kernel
theorem dX2_takesForOpen_28 : decode cX2_takesForOpen 28 = .ok (.invokevirtual 97, 3) := by decide +kernel
theorem dX2_takesForOpen_31 : decode cX2_takesForOpen 31 = .ok (.invokestatic 51, 3) := by decide +kernel
theorem dX2_takesForOpen_34 : decode cX2_takesForOpen 34 = .ok (.aaload, 1) := by decide +kernel
theorem dX2_takesForOpen_35 : decode cX2_takesForOpen 35 = .ok (.astore 4, 2) := by decide +kernel
theorem dX2_takesForOpen_37 : decode cX2_takesForOpen 37 = .ok (.aload_n 3, 1) := by decide +kernel
theorem dX2_takesForOpen_38 : decode cX2_takesForOpen 38 = .ok (.ifnull 29, 3) := by decide +kernel
theorem dX2_takesForOpen_41 : decode cX2_takesForOpen 41 = .ok (.aload 4, 2) := by decide +kernel
theorem dX2_takesForOpen_43 : decode cX2_takesForOpen 43 = .ok (.ifnull 24, 3) := by decide +kernel
theorem dX2_takesForOpen_46 : decode cX2_takesForOpen 46 = .ok (.aload_n 3, 1) := by decide +kernel
theorem dX2_takesForOpen_47 : decode cX2_takesForOpen 47 = .ok (.iload_n 2, 1) := by decide +kernel
theorem dX2_takesForOpen_48 : decode cX2_takesForOpen 48 = .ok (.invokevirtual 115, 3) := by decide +kernel
theorem dX2_takesForOpen_51 : decode cX2_takesForOpen 51 = .ok (.ifCond .eq 16, 3) := by decide +kernel
theorem dX2_takesForOpen_54 : decode cX2_takesForOpen 54 = .ok (.aload 4, 2) := by decide +kernel
theorem dX2_takesForOpen_56 : decode cX2_takesForOpen 56 = .ok (.iload_n 2, 1) := by decide +kernel
theorem dX2_takesForOpen_57 : decode cX2_takesForOpen 57 = .ok (.invokevirtual 115, 3) := by decide +kernel
theorem dX2_takesForOpen_60 : decode cX2_takesForOpen 60 = .ok (.ifCond .eq 7, 3) := by decide +kernel
theorem dX2_takesForOpen_63 : decode cX2_takesForOpen 63 = .ok (.iconst 1, 1) := by decide +kernel
theorem dX2_takesForOpen_64 : decode cX2_takesForOpen 64 = .ok (.goto 4, 3) := by decide +kernel
theorem dX2_takesForOpen_67 : decode cX2_takesForOpen 67 = .ok (.iconst 0, 1) := by decide +kernel
theorem dX2_takesForOpen_68 : decode cX2_takesForOpen 68 = .ok (.ireturn, 1) := by decide +kernel
set_option maxRecDepth 20000 in
theorem ggX2_takersForOpen_X1_huts : GoodIn wsX2_takersForOpen wsX1_huts := goodIn_r _ [6, 7, 41, 42, 43, 44, 45, 46, 47] (by decide +kernel) (by decide +kernel)
set_option maxRecDepth 20000 in
theorem gX2_takersForOpen_X1_huts : GoodIn wsX2_takersForOpen (wsV RX2 59 RX1 yX1_huts wsX1_huts) := goodIn_app (goodIn_of _ (by decide +kernel)) ggX2_takersForOpen_X1_huts
set_option maxRecDepth 20000 in
theorem ggX2_takersForOpen_X2_takesForOpen : GoodIn wsX2_takersForOpen wsX2_takesForOpen := goodIn_r _ [12, 13, 1, 14, 15, 16, 5, 17, 18, 19, 20, 11, 21, 22, 23, 24, 25, 26, 27, 28, 29, 30, 31, 32, 33, 34, 35, 36, 37, 38, 39, 40, 41, 42, 43, 44, 45, 46, 47, 48, 49, 50] (by decide +kernel) (by decide +kernel)
set_option maxRecDepth 20000 in
theorem gX2_takersForOpen_X2_takesForOpen : GoodIn wsX2_takersForOpen (wsV RX2 118 RX2 yX2_takesForOpen wsX2_takesForOpen) := goodIn_app (goodIn_of _ (by decide +kernel)) ggX2_takersForOpen_X2_takesForOpen
theorem dX2_takersForOpen_0 : decode cX2_takersForOpen 0 = .ok (.iconst 0, 1) := by decide +kernel
theorem dX2_takersForOpen_1 : decode cX2_takersForOpen 1 = .ok (.istore_n 2, 1) := by decide +kernel
theorem dX2_takersForOpen_2 : decode cX2_takersForOpen 2 = .ok (.iconst 0, 1) := by decide +kernel
theorem dX2_takersForOpen_3 : decode cX2_takersForOpen 3 = .ok (.istore_n 3, 1) := by decide +kernel
theorem dX2_takersForOpen_4 : decode cX2_takersForOpen 4 = .ok (.iload_n 3, 1) := by decide +kernel
theorem dX2_takersForOpen_5 : decode cX2_takersForOpen 5 = .ok (.aload_n 0, 1) := by decide +kernel
theorem dX2_takersForOpen_6 : decode cX2_takersForOpen 6 = .ok (.getfield 40, 3) := by decide +kernel
theorem dX2_takersForOpen_9 : decode cX2_takersForOpen 9 = .ok (.invokevirtual 59, 3) := by decide +kernel
theorem dX2_takersForOpen_12 : decode cX2_takersForOpen 12 = .ok (.if_icmp .ge 21, 3) := by decide +kernel
theorem dX2_takersForOpen_15 : decode cX2_takersForOpen 15 = .ok (.aload_n 0, 1) := by decide +kernel
theorem dX2_takersForOpen_16 : decode cX2_takersForOpen 16 = .ok (.iload_n 3, 1) := by decide +kernel
theorem dX2_takersForOpen_17 : decode cX2_takersForOpen 17 = .ok (.iload_n 1, 1) := by decide +kernel
theorem dX2_takersForOpen_18 : decode cX2_takersForOpen 18 = .ok (.invokevirtual 118, 3) := by decide +kernel
theorem dX2_takersForOpen_21 : decode cX2_takersForOpen 21 = .ok (.ifCond .eq 6, 3) := by decide +kernel
theorem dX2_takersForOpen_24 : decode cX2_takersForOpen 24 = .ok (.iinc 2 1, 3) := by decide +kernel
theorem dX2_takersForOpen_27 : decode cX2_takersForOpen 27 = .ok (.iinc 3 1, 3) := by decide +kernel
theorem dX2_takersForOpen_30 : decode cX2_takersForOpen 30 = .ok (.goto (-26), 3) := by decide +kernel
theorem dX2_takersForOpen_33 : decode cX2_takersForOpen 33 = .ok (.iload_n 2, 1) := by decide +kernel
theorem dX2_takersForOpen_34 : decode cX2_takersForOpen 34 = .ok (.ireturn, 1) := by decide +kernel
set_option maxRecDepth 20000 in
theorem ggX2_knownWay_X2_findWays : GoodIn wsX2_knownWay wsX2_findWays := goodIn_r _ [7, 8, 9, 10, 2, 1, 11, 12, 13, 14, 15, 16, 17, 18, 19, 20, 21, 22, 23, 24, 25, 26, 27, 28, 29, 30, 31, 32, 33, 34, 6, 35, 36, 37, 38, 39, 40, 41, 42, 43, 44, 45, 46, 47, 48, 49, 50, 51, 52, 53, 54, 55, 56, 57, 58, 59, 60, 61, 62, 63, 64, 65, 66, 67, 68, 69, 70, 71, 72, 73, 74, 75, 76, 77, 78, 79] (by decide +kernel) (by decide +kernel)
set_option maxRecDepth 20000 in
theorem gX2_knownWay_X2_findWays : GoodIn wsX2_knownWay (wsV RX2 121 RX2 yX2_findWays wsX2_findWays) := goodIn_app (goodIn_of _ (by decide +kernel)) ggX2_knownWay_X2_findWays
theorem dX2_knownWay_0 : decode cX2_knownWay 0 = .ok (.aload_n 0, 1) := by decide +kernel
theorem dX2_knownWay_1 : decode cX2_knownWay 1 = .ok (.getfield 27, 3) := by decide +kernel
theorem dX2_knownWay_4 : decode cX2_knownWay 4 = .ok (.iload_n 1, 1) := by decide +kernel
theorem dX2_knownWay_5 : decode cX2_knownWay 5 = .ok (.baload, 1) := by decide +kernel
theorem dX2_knownWay_6 : decode cX2_knownWay 6 = .ok (.ifCond .ne 8, 3) := by decide +kernel
theorem dX2_knownWay_9 : decode cX2_knownWay 9 = .ok (.aload_n 0, 1) := by decide +kernel
theorem dX2_knownWay_10 : decode cX2_knownWay 10 = .ok (.iload_n 1, 1) := by decide +kernel
theorem dX2_knownWay_11 : decode cX2_knownWay 11 = .ok (.invokevirtual 121, 3) := by decide +kernel
theorem dX2_knownWay_14 : decode cX2_knownWay 14 = .ok (.aload_n 0, 1) := by decide +kernel
theorem dX2_knownWay_15 : decode cX2_knownWay 15 = .ok (.getfield 24, 3) := by decide +kernel
theorem dX2_knownWay_18 : decode cX2_knownWay 18 = .ok (.iload_n 1, 1) := by decide +kernel
theorem dX2_knownWay_19 : decode cX2_knownWay 19 = .ok (.aaload, 1) := by decide +kernel
theorem dX2_knownWay_20 : decode cX2_knownWay 20 = .ok (.iload_n 2, 1) := by decide +kernel
theorem dX2_knownWay_21 : decode cX2_knownWay 21 = .ok (.iaload, 1) := by decide +kernel
theorem dX2_knownWay_22 : decode cX2_knownWay 22 = .ok (.ireturn, 1) := by decide +kernel
set_option maxRecDepth 20000 in
theorem ggX2_findWays_X0_clear : GoodIn wsX2_findWays wsX0_clear := goodIn_r _ [10, 11, 62, 63, 64, 65] (by decide +kernel) (by decide +kernel)
set_option maxRecDepth 20000 in
theorem gX2_findWays_X0_clear : GoodIn wsX2_findWays (wsV RX2 125 RX0 yX0_clear wsX0_clear) := goodIn_app (goodIn_of _ (by decide +kernel)) ggX2_findWays_X0_clear
set_option maxRecDepth 20000 in
theorem ggX2_findWays_X1_passes : GoodIn wsX2_findWays wsX1_passes := goodIn_r _ [16, 17, 66, 67, 68, 69, 70, 71, 72] (by decide +kernel) (by decide +kernel)
set_option maxRecDepth 20000 in
theorem gX2_findWays_X1_passes : GoodIn wsX2_findWays (wsV RX2 88 RX1 yX1_passes wsX1_passes) := goodIn_app (goodIn_of _ (by decide +kernel)) ggX2_findWays_X1_passes
set_option maxRecDepth 20000 in
theorem ggX2_findWays_X1_first : GoodIn wsX2_findWays wsX1_first := goodIn_r _ [21, 22, 66, 67, 68, 69, 70, 71, 72] (by decide +kernel) (by decide +kernel)
set_option maxRecDepth 20000 in
theorem gX2_findWays_X1_first : GoodIn wsX2_findWays (wsV RX2 94 RX1 yX1_first wsX1_first) := goodIn_app (goodIn_of _ (by decide +kernel)) ggX2_findWays_X1_first
set_option maxRecDepth 20000 in
theorem ggX2_findWays_X1_second : GoodIn wsX2_findWays wsX1_second := goodIn_r _ [26, 27, 66, 67, 68, 69, 70, 71, 72] (by decide +kernel) (by decide +kernel)
set_option maxRecDepth 20000 in
theorem gX2_findWays_X1_second : GoodIn wsX2_findWays (wsV RX2 97 RX1 yX1_second wsX1_second) := goodIn_app (goodIn_of _ (by decide +kernel)) ggX2_findWays_X1_second
set_option maxRecDepth 20000 in
theorem ggX2_findWays_X2_slot : GoodIn wsX2_findWays wsX2_slot := goodIn_r _ [31] (by decide +kernel) (by decide +kernel)
set_option maxRecDepth 20000 in
theorem gX2_findWays_X2_slot : GoodIn wsX2_findWays (va_wsS RX2 51 yX2_slot wsX2_slot) := goodIn_app (goodIn_of _ (by decide +kernel)) ggX2_findWays_X2_slot
set_option maxRecDepth 20000 in
theorem ggX2_findWays_X3_tells : GoodIn wsX2_findWays wsX3_tells := goodIn_r _ [36, 37, 73, 74, 75] (by decide +kernel) (by decide +kernel)
set_option maxRecDepth 20000 in
theorem gX2_findWays_X3_tells : GoodIn wsX2_findWays (wsV RX2 115 RX3 yX3_tells wsX3_tells) := goodIn_app (goodIn_of _ (by decide +kernel)) ggX2_findWays_X3_tells
set_option maxRecDepth 20000 in
theorem ggX2_findWays_X3_length : GoodIn wsX2_findWays wsX3_length := goodIn_r _ [41, 37, 73, 74, 75] (by decide +kernel) (by decide +kernel)
set_option maxRecDepth 20000 in
theorem gX2_findWays_X3_length : GoodIn wsX2_findWays (wsV RX2 128 RX3 yX3_length wsX3_length) := goodIn_app (goodIn_of _ (by decide +kernel)) ggX2_findWays_X3_length
set_option maxRecDepth 20000 in
theorem ggX2_findWays_X0_addStep : GoodIn wsX2_findWays wsX0_addStep := goodIn_r _ [45, 11, 46, 47, 48, 62, 63, 64, 65] (by decide +kernel) (by decide +kernel)
set_option maxRecDepth 20000 in
theorem gX2_findWays_X0_addStep : GoodIn wsX2_findWays (wsV RX2 131 RX0 yX0_addStep wsX0_addStep) := goodIn_app (goodIn_of _ (by decide +kernel)) ggX2_findWays_X0_addStep
set_option maxRecDepth 20000 in
theorem ggX2_findWays_X0_search : GoodIn wsX2_findWays wsX0_search := goodIn_r _ [52, 53, 11, 46, 48, 47, 62, 63, 64, 65] (by decide +kernel) (by decide +kernel)
set_option maxRecDepth 20000 in
theorem gX2_findWays_X0_search : GoodIn wsX2_findWays (wsV RX2 135 RX0 yX0_search wsX0_search) := goodIn_app (goodIn_of _ (by decide +kernel)) ggX2_findWays_X0_search
theorem dX2_findWays_0 : decode cX2_findWays 0 = .ok (.aload_n 0, 1) := by decide +kernel
theorem dX2_findWays_1 : decode cX2_findWays 1 = .ok (.getfield 12, 3) := by decide +kernel
theorem dX2_findWays_4 : decode cX2_findWays 4 = .ok (.invokevirtual 125, 3) := by decide +kernel
theorem dX2_findWays_7 : decode cX2_findWays 7 = .ok (.iconst 0, 1) := by decide +kernel
theorem dX2_findWays_8 : decode cX2_findWays 8 = .ok (.istore_n 2, 1) := by decide +kernel
theorem dX2_findWays_9 : decode cX2_findWays 9 = .ok (.iload_n 2, 1) := by decide +kernel
theorem dX2_findWays_10 : decode cX2_findWays 10 = .ok (.aload_n 0, 1) := by decide +kernel
theorem dX2_findWays_11 : decode cX2_findWays 11 = .ok (.getfield 40, 3) := by decide +kernel
theorem dX2_findWays_14 : decode cX2_findWays 14 = .ok (.invokevirtual 88, 3) := by decide +kernel
theorem dX2_findWays_17 : decode cX2_findWays 17 = .ok (.if_icmp .ge 113, 3) := by decide +kernel
theorem dX2_findWays_20 : decode cX2_findWays 20 = .ok (.aload_n 0, 1) := by decide +kernel
theorem dX2_findWays_21 : decode cX2_findWays 21 = .ok (.getfield 40, 3) := by decide +kernel
theorem dX2_findWays_24 : decode cX2_findWays 24 = .ok (.iload_n 2, 1) := by decide +kernel
theorem dX2_findWays_25 : decode cX2_findWays 25 = .ok (.invokevirtual 94, 3) := by decide +kernel
theorem dX2_findWays_28 : decode cX2_findWays 28 = .ok (.istore_n 3, 1) := by decide +kernel
theorem dX2_findWays_29 : decode cX2_findWays 29 = .ok (.aload_n 0, 1) := by decide +kernel
theorem dX2_findWays_30 : decode cX2_findWays 30 = .ok (.getfield 40, 3) := by decide +kernel
theorem dX2_findWays_33 : decode cX2_findWays 33 = .ok (.iload_n 2, 1) := by decide +kernel
theorem dX2_findWays_34 : decode cX2_findWays 34 = .ok (.invokevirtual 97, 3) := by decide +kernel
theorem dX2_findWays_37 : decode cX2_findWays 37 = .ok (.istore 4, 2) := by decide +kernel
theorem dX2_findWays_39 : decode cX2_findWays 39 = .ok (.aload_n 0, 1) := by decide +kernel
theorem dX2_findWays_40 : decode cX2_findWays 40 = .ok (.getfield 33, 3) := by decide +kernel
theorem dX2_findWays_43 : decode cX2_findWays 43 = .ok (.iload_n 1, 1) := by decide +kernel
theorem dX2_findWays_44 : decode cX2_findWays 44 = .ok (.iload_n 3, 1) := by decide +kernel
theorem dX2_findWays_45 : decode cX2_findWays 45 = .ok (.invokestatic 51, 3) := by decide +kernel
theorem dX2_findWays_48 : decode cX2_findWays 48 = .ok (.aaload, 1) := by decide +kernel
theorem dX2_findWays_49 : decode cX2_findWays 49 = .ok (.astore 5, 2) := by decide +kernel
theorem dX2_findWays_51 : decode cX2_findWays 51 = .ok (.aload_n 0, 1) := by decide +kernel
theorem dX2_findWays_52 : decode cX2_findWays 52 = .ok (.getfield 33, 3) := by decide +kernel
theorem dX2_findWays_55 : decode cX2_findWays 55 = .ok (.iload_n 1, 1) := by decide +kernel
theorem dX2_findWays_56 : decode cX2_findWays 56 = .ok (.iload 4, 2) := by decide +kernel
theorem dX2_findWays_58 : decode cX2_findWays 58 = .ok (.invokestatic 51, 3) := by decide +kernel
theorem dX2_findWays_61 : decode cX2_findWays 61 = .ok (.aaload, 1) := by decide +kernel
theorem dX2_findWays_62 : decode cX2_findWays 62 = .ok (.astore 6, 2) := by decide +kernel
theorem dX2_findWays_64 : decode cX2_findWays 64 = .ok (.aload 5, 2) := by decide +kernel
theorem dX2_findWays_66 : decode cX2_findWays 66 = .ok (.ifnull 58, 3) := by decide +kernel
theorem dX2_findWays_69 : decode cX2_findWays 69 = .ok (.aload 6, 2) := by decide +kernel
theorem dX2_findWays_71 : decode cX2_findWays 71 = .ok (.ifnull 53, 3) := by decide +kernel
theorem dX2_findWays_74 : decode cX2_findWays 74 = .ok (.aload 5, 2) := by decide +kernel
theorem dX2_findWays_76 : decode cX2_findWays 76 = .ok (.iload_n 2, 1) := by decide +kernel
theorem dX2_findWays_77 : decode cX2_findWays 77 = .ok (.invokevirtual 115, 3) := by decide +kernel
theorem dX2_findWays_80 : decode cX2_findWays 80 = .ok (.ifCond .eq 44, 3) := by decide +kernel
theorem dX2_findWays_83 : decode cX2_findWays 83 = .ok (.aload 6, 2) := by decide +kernel
theorem dX2_findWays_85 : decode cX2_findWays 85 = .ok (.iload_n 2, 1) := by decide +kernel
theorem dX2_findWays_86 : decode cX2_findWays 86 = .ok (.invokevirtual 115, 3) := by decide +kernel
theorem dX2_findWays_89 : decode cX2_findWays 89 = .ok (.ifCond .eq 35, 3) := by decide +kernel
theorem dX2_findWays_92 : decode cX2_findWays 92 = .ok (.aload_n 0, 1) := by decide +kernel
theorem dX2_findWays_93 : decode cX2_findWays 93 = .ok (.getfield 12, 3) := by decide +kernel
theorem dX2_findWays_96 : decode cX2_findWays 96 = .ok (.iload_n 3, 1) := by decide +kernel
theorem dX2_findWays_97 : decode cX2_findWays 97 = .ok (.iload 4, 2) := by decide +kernel
theorem dX2_findWays_99 : decode cX2_findWays 99 = .ok (.aload 5, 2) := by decide +kernel
theorem dX2_findWays_101 : decode cX2_findWays 101 = .ok (.iload_n 2, 1) := by decide +kernel
theorem dX2_findWays_102 : decode cX2_findWays 102 = .ok (.invokevirtual 128, 3) := by decide +kernel
theorem dX2_findWays_105 : decode cX2_findWays 105 = .ok (.invokevirtual 131, 3) := by decide +kernel
theorem dX2_findWays_108 : decode cX2_findWays 108 = .ok (.aload_n 0, 1) := by decide +kernel
theorem dX2_findWays_109 : decode cX2_findWays 109 = .ok (.getfield 12, 3) := by decide +kernel
theorem dX2_findWays_112 : decode cX2_findWays 112 = .ok (.iload 4, 2) := by decide +kernel
theorem dX2_findWays_114 : decode cX2_findWays 114 = .ok (.iload_n 3, 1) := by decide +kernel
theorem dX2_findWays_115 : decode cX2_findWays 115 = .ok (.aload 6, 2) := by decide +kernel
theorem dX2_findWays_117 : decode cX2_findWays 117 = .ok (.iload_n 2, 1) := by decide +kernel
theorem dX2_findWays_118 : decode cX2_findWays 118 = .ok (.invokevirtual 128, 3) := by decide +kernel
theorem dX2_findWays_121 : decode cX2_findWays 121 = .ok (.invokevirtual 131, 3) := by decide +kernel
theorem dX2_findWays_124 : decode cX2_findWays 124 = .ok (.iinc 2 1, 3) := by decide +kernel
theorem dX2_findWays_127 : decode cX2_findWays 127 = .ok (.goto (-118), 3) := by decide +kernel
theorem dX2_findWays_130 : decode cX2_findWays 130 = .ok (.aload_n 0, 1) := by decide +kernel
theorem dX2_findWays_131 : decode cX2_findWays 131 = .ok (.getfield 12, 3) := by decide +kernel
theorem dX2_findWays_134 : decode cX2_findWays 134 = .ok (.iload_n 1, 1) := by decide +kernel
theorem dX2_findWays_135 : decode cX2_findWays 135 = .ok (.aload_n 0, 1) := by decide +kernel
theorem dX2_findWays_136 : decode cX2_findWays 136 = .ok (.getfield 24, 3) := by decide +kernel
theorem dX2_findWays_139 : decode cX2_findWays 139 = .ok (.iload_n 1, 1) := by decide +kernel
theorem dX2_findWays_140 : decode cX2_findWays 140 = .ok (.aaload, 1) := by decide +kernel
theorem dX2_findWays_141 : decode cX2_findWays 141 = .ok (.invokevirtual 135, 3) := by decide +kernel
theorem dX2_findWays_144 : decode cX2_findWays 144 = .ok (.aload_n 0, 1) := by decide +kernel
theorem dX2_findWays_145 : decode cX2_findWays 145 = .ok (.getfield 27, 3) := by decide +kernel
theorem dX2_findWays_148 : decode cX2_findWays 148 = .ok (.iload_n 1, 1) := by decide +kernel
theorem dX2_findWays_149 : decode cX2_findWays 149 = .ok (.iconst 1, 1) := by decide +kernel
theorem dX2_findWays_150 : decode cX2_findWays 150 = .ok (.bastore, 1) := by decide +kernel
theorem dX2_findWays_151 : decode cX2_findWays 151 = .ok (.return_, 1) := by decide +kernel
theorem dX2_forgetWays_0 : decode cX2_forgetWays 0 = .ok (.iconst 0, 1) := by decide +kernel
theorem dX2_forgetWays_1 : decode cX2_forgetWays 1 = .ok (.istore_n 1, 1) := by decide +kernel
theorem dX2_forgetWays_2 : decode cX2_forgetWays 2 = .ok (.iload_n 1, 1) := by decide +kernel
theorem dX2_forgetWays_3 : decode cX2_forgetWays 3 = .ok (.bipush 10, 2) := by decide +kernel
theorem dX2_forgetWays_5 : decode cX2_forgetWays 5 = .ok (.if_icmp .ge 16, 3) := by decide +kernel
theorem dX2_forgetWays_8 : decode cX2_forgetWays 8 = .ok (.aload_n 0, 1) := by decide +kernel
theorem dX2_forgetWays_9 : decode cX2_forgetWays 9 = .ok (.getfield 27, 3) := by decide +kernel
theorem dX2_forgetWays_12 : decode cX2_forgetWays 12 = .ok (.iload_n 1, 1) := by decide +kernel
theorem dX2_forgetWays_13 : decode cX2_forgetWays 13 = .ok (.iconst 0, 1) := by decide +kernel
theorem dX2_forgetWays_14 : decode cX2_forgetWays 14 = .ok (.bastore, 1) := by decide +kernel
theorem dX2_forgetWays_15 : decode cX2_forgetWays 15 = .ok (.iinc 1 1, 3) := by decide +kernel
theorem dX2_forgetWays_18 : decode cX2_forgetWays 18 = .ok (.goto (-16), 3) := by decide +kernel
theorem dX2_forgetWays_21 : decode cX2_forgetWays 21 = .ok (.return_, 1) := by decide +kernel
set_option maxRecDepth 20000 in
theorem ggX2_knownHuts_X1_huts : GoodIn wsX2_knownHuts wsX1_huts := goodIn_r _ [7, 8, 76, 77, 78, 79, 80, 81, 82] (by decide +kernel) (by decide +kernel)
set_option maxRecDepth 20000 in
theorem gX2_knownHuts_X1_huts : GoodIn wsX2_knownHuts (wsV RX2 59 RX1 yX1_huts wsX1_huts) := goodIn_app (goodIn_of _ (by decide +kernel)) ggX2_knownHuts_X1_huts
set_option maxRecDepth 20000 in
theorem ggX2_knownHuts_X2_knownWay : GoodIn wsX2_knownHuts wsX2_knownWay := goodIn_r _ [13, 14, 15, 16, 17, 18, 12, 19, 20, 1, 21, 22, 23, 24, 25, 26, 27, 28, 29, 30, 6, 31, 32, 33, 34, 35, 36, 37, 38, 39, 40, 41, 42, 43, 44, 45, 46, 47, 48, 49, 50, 51, 52, 53, 54, 55, 56, 57, 58, 59, 60, 61, 62, 63, 64, 65, 66, 67, 68, 69, 70, 71, 72, 73, 74, 75, 83, 84, 85, 86, 76, 77, 78, 79, 80, 81, 82, 87, 88, 89] (by decide +kernel) (by decide +kernel)
set_option maxRecDepth 20000 in
theorem gX2_knownHuts_X2_knownWay : GoodIn wsX2_knownHuts (wsV RX2 139 RX2 yX2_knownWay wsX2_knownWay) := goodIn_app (goodIn_of _ (by decide +kernel)) ggX2_knownHuts_X2_knownWay
theorem dX2_knownHuts_0 : decode cX2_knownHuts 0 = .ok (.iconst 0, 1) := by decide +kernel
theorem dX2_knownHuts_1 : decode cX2_knownHuts 1 = .ok (.istore_n 2, 1) := by decide +kernel
theorem dX2_knownHuts_2 : decode cX2_knownHuts 2 = .ok (.iconst 0, 1) := by decide +kernel
theorem dX2_knownHuts_3 : decode cX2_knownHuts 3 = .ok (.istore_n 3, 1) := by decide +kernel
theorem dX2_knownHuts_4 : decode cX2_knownHuts 4 = .ok (.iload_n 3, 1) := by decide +kernel
theorem dX2_knownHuts_5 : decode cX2_knownHuts 5 = .ok (.aload_n 0, 1) := by decide +kernel
theorem dX2_knownHuts_6 : decode cX2_knownHuts 6 = .ok (.getfield 40, 3) := by decide +kernel
theorem dX2_knownHuts_9 : decode cX2_knownHuts 9 = .ok (.invokevirtual 59, 3) := by decide +kernel
theorem dX2_knownHuts_12 : decode cX2_knownHuts 12 = .ok (.if_icmp .ge 23, 3) := by decide +kernel
theorem dX2_knownHuts_15 : decode cX2_knownHuts 15 = .ok (.aload_n 0, 1) := by decide +kernel
theorem dX2_knownHuts_16 : decode cX2_knownHuts 16 = .ok (.iload_n 1, 1) := by decide +kernel
theorem dX2_knownHuts_17 : decode cX2_knownHuts 17 = .ok (.iload_n 3, 1) := by decide +kernel
theorem dX2_knownHuts_18 : decode cX2_knownHuts 18 = .ok (.invokevirtual 139, 3) := by decide +kernel
theorem dX2_knownHuts_21 : decode cX2_knownHuts 21 = .ok (.ldc 142, 2) := by decide +kernel
theorem dX2_knownHuts_23 : decode cX2_knownHuts 23 = .ok (.if_icmp .eq 6, 3) := by decide +kernel
theorem dX2_knownHuts_26 : decode cX2_knownHuts 26 = .ok (.iinc 2 1, 3) := by decide +kernel
theorem dX2_knownHuts_29 : decode cX2_knownHuts 29 = .ok (.iinc 3 1, 3) := by decide +kernel
theorem dX2_knownHuts_32 : decode cX2_knownHuts 32 = .ok (.goto (-28), 3) := by decide +kernel
theorem dX2_knownHuts_35 : decode cX2_knownHuts 35 = .ok (.iload_n 2, 1) := by decide +kernel
theorem dX2_knownHuts_36 : decode cX2_knownHuts 36 = .ok (.ireturn, 1) := by decide +kernel
set_option maxRecDepth 20000 in
theorem ggX2_letter_X2_knownWay : GoodIn wsX2_letter wsX2_knownWay := goodIn_r _ [7, 8, 9, 10, 11, 12, 6, 13, 14, 2, 15, 16, 17, 18, 19, 20, 21, 22, 23, 24, 25, 26, 27, 28, 29, 30, 31, 32, 33, 34, 35, 36, 37, 38, 39, 40, 41, 42, 43, 44, 45, 46, 47, 48, 49, 50, 51, 52, 53, 54, 55, 56, 57, 58, 59, 60, 61, 62, 68, 69, 70, 71, 72, 73, 74, 75, 76, 77, 78, 79, 80, 81, 82, 83, 84, 85, 86, 87, 88, 89] (by decide +kernel) (by decide +kernel)
set_option maxRecDepth 20000 in
theorem gX2_letter_X2_knownWay : GoodIn wsX2_letter (wsV RX2 139 RX2 yX2_knownWay wsX2_knownWay) := goodIn_app (goodIn_of _ (by decide +kernel)) ggX2_letter_X2_knownWay
set_option maxRecDepth 20000 in
theorem ggX2_letter_X1_isStep : GoodIn wsX2_letter wsX1_isStep := goodIn_r _ [66, 27, 32, 37, 67, 80, 81, 82, 83, 84, 85, 86] (by decide +kernel) (by decide +kernel)
set_option maxRecDepth 20000 in
theorem gX2_letter_X1_isStep : GoodIn wsX2_letter (wsV RX2 143 RX1 yX1_isStep wsX1_isStep) := goodIn_app (goodIn_of _ (by decide +kernel)) ggX2_letter_X1_isStep
theorem dX2_letter_0 : decode cX2_letter 0 = .ok (.iload_n 1, 1) := by decide +kernel
theorem dX2_letter_1 : decode cX2_letter 1 = .ok (.istore_n 3, 1) := by decide +kernel
theorem dX2_letter_2 : decode cX2_letter 2 = .ok (.iconst 0, 1) := by decide +kernel
theorem dX2_letter_3 : decode cX2_letter 3 = .ok (.istore 4, 2) := by decide +kernel
theorem dX2_letter_5 : decode cX2_letter 5 = .ok (.iload 4, 2) := by decide +kernel
theorem dX2_letter_7 : decode cX2_letter 7 = .ok (.bipush 20, 2) := by decide +kernel
theorem dX2_letter_9 : decode cX2_letter 9 = .ok (.if_icmp .gt 56, 3) := by decide +kernel
theorem dX2_letter_12 : decode cX2_letter 12 = .ok (.iload_n 3, 1) := by decide +kernel
theorem dX2_letter_13 : decode cX2_letter 13 = .ok (.iload_n 2, 1) := by decide +kernel
theorem dX2_letter_14 : decode cX2_letter 14 = .ok (.if_icmp .ne 6, 3) := by decide +kernel
theorem dX2_letter_17 : decode cX2_letter 17 = .ok (.iload 4, 2) := by decide +kernel
theorem dX2_letter_19 : decode cX2_letter 19 = .ok (.ireturn, 1) := by decide +kernel
theorem dX2_letter_20 : decode cX2_letter 20 = .ok (.aload_n 0, 1) := by decide +kernel
theorem dX2_letter_21 : decode cX2_letter 21 = .ok (.iload_n 3, 1) := by decide +kernel
theorem dX2_letter_22 : decode cX2_letter 22 = .ok (.iload_n 2, 1) := by decide +kernel
theorem dX2_letter_23 : decode cX2_letter 23 = .ok (.invokevirtual 139, 3) := by decide +kernel
theorem dX2_letter_26 : decode cX2_letter 26 = .ok (.istore 5, 2) := by decide +kernel
theorem dX2_letter_28 : decode cX2_letter 28 = .ok (.iload 5, 2) := by decide +kernel
theorem dX2_letter_30 : decode cX2_letter 30 = .ok (.ldc 142, 2) := by decide +kernel
theorem dX2_letter_32 : decode cX2_letter 32 = .ok (.if_icmp .eq 19, 3) := by decide +kernel
theorem dX2_letter_35 : decode cX2_letter 35 = .ok (.aload_n 0, 1) := by decide +kernel
theorem dX2_letter_36 : decode cX2_letter 36 = .ok (.getfield 40, 3) := by decide +kernel
theorem dX2_letter_39 : decode cX2_letter 39 = .ok (.iload_n 3, 1) := by decide +kernel
theorem dX2_letter_40 : decode cX2_letter 40 = .ok (.iload 5, 2) := by decide +kernel
theorem dX2_letter_42 : decode cX2_letter 42 = .ok (.bipush 16, 2) := by decide +kernel
theorem dX2_letter_44 : decode cX2_letter 44 = .ok (.irem, 1) := by decide +kernel
theorem dX2_letter_45 : decode cX2_letter 45 = .ok (.invokevirtual 143, 3) := by decide +kernel
theorem dX2_letter_48 : decode cX2_letter 48 = .ok (.ifCond .ne 5, 3) := by decide +kernel
theorem dX2_letter_51 : decode cX2_letter 51 = .ok (.iconst (-1), 1) := by decide +kernel
theorem dX2_letter_52 : decode cX2_letter 52 = .ok (.ireturn, 1) := by decide +kernel
theorem dX2_letter_53 : decode cX2_letter 53 = .ok (.iload 5, 2) := by decide +kernel
theorem dX2_letter_55 : decode cX2_letter 55 = .ok (.bipush 16, 2) := by decide +kernel
theorem dX2_letter_57 : decode cX2_letter 57 = .ok (.irem, 1) := by decide +kernel
theorem dX2_letter_58 : decode cX2_letter 58 = .ok (.istore_n 3, 1) := by decide +kernel
theorem dX2_letter_59 : decode cX2_letter 59 = .ok (.iinc 4 1, 3) := by decide +kernel
theorem dX2_letter_62 : decode cX2_letter 62 = .ok (.goto (-57), 3) := by decide +kernel
theorem dX2_letter_65 : decode cX2_letter 65 = .ok (.iconst (-1), 1) := by decide +kernel
theorem dX2_letter_66 : decode cX2_letter 66 = .ok (.ireturn, 1) := by decide +kernel
set_option maxRecDepth 20000 in
theorem ggX2_reachedHuts_X1_huts : GoodIn wsX2_reachedHuts wsX1_huts := goodIn_r _ [6, 7, 85, 86, 87, 88, 89, 90, 91] (by decide +kernel) (by decide +kernel)
set_option maxRecDepth 20000 in
theorem gX2_reachedHuts_X1_huts : GoodIn wsX2_reachedHuts (wsV RX2 59 RX1 yX1_huts wsX1_huts) := goodIn_app (goodIn_of _ (by decide +kernel)) ggX2_reachedHuts_X1_huts
set_option maxRecDepth 20000 in
theorem ggX2_reachedHuts_X2_letter : GoodIn wsX2_reachedHuts wsX2_letter := goodIn_r _ [12, 13, 1, 14, 15, 16, 11, 17, 18, 19, 20, 21, 22, 23, 24, 25, 26, 27, 28, 29, 30, 31, 32, 33, 34, 5, 35, 36, 37, 38, 39, 40, 41, 42, 43, 44, 45, 46, 47, 48, 49, 50, 51, 52, 53, 54, 55, 56, 57, 58, 59, 60, 61, 62, 63, 64, 65, 66, 67, 68, 69, 70, 71, 72, 73, 74, 75, 76, 77, 78, 79, 80, 81, 82, 83, 84, 92, 93, 94, 95, 85, 86, 87, 88, 89, 90, 91, 96, 97, 98] (by decide +kernel) (by decide +kernel)
set_option maxRecDepth 20000 in
theorem gX2_reachedHuts_X2_letter : GoodIn wsX2_reachedHuts (wsV RX2 146 RX2 yX2_letter wsX2_letter) := goodIn_app (goodIn_of _ (by decide +kernel)) ggX2_reachedHuts_X2_letter
theorem dX2_reachedHuts_0 : decode cX2_reachedHuts 0 = .ok (.iconst 0, 1) := by decide +kernel
theorem dX2_reachedHuts_1 : decode cX2_reachedHuts 1 = .ok (.istore_n 2, 1) := by decide +kernel
theorem dX2_reachedHuts_2 : decode cX2_reachedHuts 2 = .ok (.iconst 0, 1) := by decide +kernel
theorem dX2_reachedHuts_3 : decode cX2_reachedHuts 3 = .ok (.istore_n 3, 1) := by decide +kernel
theorem dX2_reachedHuts_4 : decode cX2_reachedHuts 4 = .ok (.iload_n 3, 1) := by decide +kernel
theorem dX2_reachedHuts_5 : decode cX2_reachedHuts 5 = .ok (.aload_n 0, 1) := by decide +kernel
theorem dX2_reachedHuts_6 : decode cX2_reachedHuts 6 = .ok (.getfield 40, 3) := by decide +kernel
theorem dX2_reachedHuts_9 : decode cX2_reachedHuts 9 = .ok (.invokevirtual 59, 3) := by decide +kernel
theorem dX2_reachedHuts_12 : decode cX2_reachedHuts 12 = .ok (.if_icmp .ge 21, 3) := by decide +kernel
theorem dX2_reachedHuts_15 : decode cX2_reachedHuts 15 = .ok (.aload_n 0, 1) := by decide +kernel
theorem dX2_reachedHuts_16 : decode cX2_reachedHuts 16 = .ok (.iload_n 1, 1) := by decide +kernel
theorem dX2_reachedHuts_17 : decode cX2_reachedHuts 17 = .ok (.iload_n 3, 1) := by decide +kernel
theorem dX2_reachedHuts_18 : decode cX2_reachedHuts 18 = .ok (.invokevirtual 146, 3) := by decide +kernel
theorem dX2_reachedHuts_21 : decode cX2_reachedHuts 21 = .ok (.ifCond .lt 6, 3) := by decide +kernel
theorem dX2_reachedHuts_24 : decode cX2_reachedHuts 24 = .ok (.iinc 2 1, 3) := by decide +kernel
theorem dX2_reachedHuts_27 : decode cX2_reachedHuts 27 = .ok (.iinc 3 1, 3) := by decide +kernel
theorem dX2_reachedHuts_30 : decode cX2_reachedHuts 30 = .ok (.goto (-26), 3) := by decide +kernel
theorem dX2_reachedHuts_33 : decode cX2_reachedHuts 33 = .ok (.iload_n 2, 1) := by decide +kernel
theorem dX2_reachedHuts_34 : decode cX2_reachedHuts 34 = .ok (.ireturn, 1) := by decide +kernel
set_option maxRecDepth 20000 in
theorem ggX2_reachedPairs_X1_huts : GoodIn wsX2_reachedPairs wsX1_huts := goodIn_r _ [6, 7, 85, 86, 87, 88, 89, 90, 91] (by decide +kernel) (by decide +kernel)
set_option maxRecDepth 20000 in
theorem gX2_reachedPairs_X1_huts : GoodIn wsX2_reachedPairs (wsV RX2 59 RX1 yX1_huts wsX1_huts) := goodIn_app (goodIn_of _ (by decide +kernel)) ggX2_reachedPairs_X1_huts
set_option maxRecDepth 20000 in
theorem ggX2_reachedPairs_X2_letter : GoodIn wsX2_reachedPairs wsX2_letter := goodIn_r _ [12, 13, 1, 14, 15, 16, 11, 17, 18, 19, 20, 21, 22, 23, 24, 25, 26, 27, 28, 29, 30, 31, 32, 33, 34, 5, 35, 36, 37, 38, 39, 40, 41, 42, 43, 44, 45, 46, 47, 48, 49, 50, 51, 52, 53, 54, 55, 56, 57, 58, 59, 60, 61, 62, 63, 64, 65, 66, 67, 68, 69, 70, 71, 72, 73, 74, 75, 76, 77, 78, 79, 80, 81, 82, 83, 84, 92, 93, 94, 95, 85, 86, 87, 88, 89, 90, 91, 96, 97, 98] (by decide +kernel) (by decide +kernel)
set_option maxRecDepth 20000 in
theorem gX2_reachedPairs_X2_letter : GoodIn wsX2_reachedPairs (wsV RX2 146 RX2 yX2_letter wsX2_letter) := goodIn_app (goodIn_of _ (by decide +kernel)) ggX2_reachedPairs_X2_letter
theorem dX2_reachedPairs_0 : decode cX2_reachedPairs 0 = .ok (.iconst 0, 1) := by decide +kernel
theorem dX2_reachedPairs_1 : decode cX2_reachedPairs 1 = .ok (.istore_n 1, 1) := by decide +kernel
theorem dX2_reachedPairs_2 : decode cX2_reachedPairs 2 = .ok (.iconst 0, 1) := by decide +kernel
theorem dX2_reachedPairs_3 : decode cX2_reachedPairs 3 = .ok (.istore_n 2, 1) := by decide +kernel
theorem dX2_reachedPairs_4 : decode cX2_reachedPairs 4 = .ok (.iload_n 2, 1) := by decide +kernel
theorem dX2_reachedPairs_5 : decode cX2_reachedPairs 5 = .ok (.aload_n 0, 1) := by decide +kernel
theorem dX2_reachedPairs_6 : decode cX2_reachedPairs 6 = .ok (.getfield 40, 3) := by decide +kernel
theorem dX2_reachedPairs_9 : decode cX2_reachedPairs 9 = .ok (.invokevirtual 59, 3) := by decide +kernel
theorem dX2_reachedPairs_12 : decode cX2_reachedPairs 12 = .ok (.if_icmp .ge 45, 3) := by decide +kernel
theorem dX2_reachedPairs_15 : decode cX2_reachedPairs 15 = .ok (.iconst 0, 1) := by decide +kernel
theorem dX2_reachedPairs_16 : decode cX2_reachedPairs 16 = .ok (.istore_n 3, 1) := by decide +kernel
theorem dX2_reachedPairs_17 : decode cX2_reachedPairs 17 = .ok (.iload_n 3, 1) := by decide +kernel
theorem dX2_reachedPairs_18 : decode cX2_reachedPairs 18 = .ok (.aload_n 0, 1) := by decide +kernel
theorem dX2_reachedPairs_19 : decode cX2_reachedPairs 19 = .ok (.getfield 40, 3) := by decide +kernel
theorem dX2_reachedPairs_22 : decode cX2_reachedPairs 22 = .ok (.invokevirtual 59, 3) := by decide +kernel
theorem dX2_reachedPairs_25 : decode cX2_reachedPairs 25 = .ok (.if_icmp .ge 26, 3) := by decide +kernel
theorem dX2_reachedPairs_28 : decode cX2_reachedPairs 28 = .ok (.iload_n 2, 1) := by decide +kernel
theorem dX2_reachedPairs_29 : decode cX2_reachedPairs 29 = .ok (.iload_n 3, 1) := by decide +kernel
theorem dX2_reachedPairs_30 : decode cX2_reachedPairs 30 = .ok (.if_icmp .eq 15, 3) := by decide +kernel
theorem dX2_reachedPairs_33 : decode cX2_reachedPairs 33 = .ok (.aload_n 0, 1) := by decide +kernel
theorem dX2_reachedPairs_34 : decode cX2_reachedPairs 34 = .ok (.iload_n 2, 1) := by decide +kernel
theorem dX2_reachedPairs_35 : decode cX2_reachedPairs 35 = .ok (.iload_n 3, 1) := by decide +kernel
theorem dX2_reachedPairs_36 : decode cX2_reachedPairs 36 = .ok (.invokevirtual 146, 3) := by decide +kernel
theorem dX2_reachedPairs_39 : decode cX2_reachedPairs 39 = .ok (.ifCond .lt 6, 3) := by decide +kernel
theorem dX2_reachedPairs_42 : decode cX2_reachedPairs 42 = .ok (.iinc 1 1, 3) := by decide +kernel
theorem dX2_reachedPairs_45 : decode cX2_reachedPairs 45 = .ok (.iinc 3 1, 3) := by decide +kernel
theorem dX2_reachedPairs_48 : decode cX2_reachedPairs 48 = .ok (.goto (-31), 3) := by decide +kernel
theorem dX2_reachedPairs_51 : decode cX2_reachedPairs 51 = .ok (.iinc 2 1, 3) := by decide +kernel
theorem dX2_reachedPairs_54 : decode cX2_reachedPairs 54 = .ok (.goto (-50), 3) := by decide +kernel
theorem dX2_reachedPairs_57 : decode cX2_reachedPairs 57 = .ok (.iload_n 1, 1) := by decide +kernel
theorem dX2_reachedPairs_58 : decode cX2_reachedPairs 58 = .ok (.ireturn, 1) := by decide +kernel
theorem dX2_slot_0 : decode cX2_slot 0 = .ok (.iload_n 0, 1) := by decide +kernel
theorem dX2_slot_1 : decode cX2_slot 1 = .ok (.bipush 10, 2) := by decide +kernel
theorem dX2_slot_3 : decode cX2_slot 3 = .ok (.imul, 1) := by decide +kernel
theorem dX2_slot_4 : decode cX2_slot 4 = .ok (.iload_n 1, 1) := by decide +kernel
theorem dX2_slot_5 : decode cX2_slot 5 = .ok (.iadd, 1) := by decide +kernel
theorem dX2_slot_6 : decode cX2_slot 6 = .ok (.ireturn, 1) := by decide +kernel
set_option maxRecDepth 20000 in
theorem ggX3_init_X1_passes : GoodIn wsX3_init wsX1_passes := goodIn_r _ [12, 13, 25, 26, 27, 28, 29, 30, 31] (by decide +kernel) (by decide +kernel)
set_option maxRecDepth 20000 in
theorem gX3_init_X1_passes : GoodIn wsX3_init (wsV RX3 22 RX1 yX1_passes wsX1_passes) := goodIn_app (goodIn_of _ (by decide +kernel)) ggX3_init_X1_passes
set_option maxRecDepth 20000 in
theorem ggX3_init_X1_tellsNow : GoodIn wsX3_init wsX1_tellsNow := goodIn_r _ [17, 18, 19, 20, 21, 25, 26, 27, 28, 29, 30, 31] (by decide +kernel) (by decide +kernel)
set_option maxRecDepth 20000 in
theorem gX3_init_X1_tellsNow : GoodIn wsX3_init (wsV RX3 28 RX1 yX1_tellsNow wsX1_tellsNow) := goodIn_app (goodIn_of _ (by decide +kernel)) ggX3_init_X1_tellsNow
theorem dX3_init_0 : decode cX3_init 0 = .ok (.aload_n 0, 1) := by decide +kernel
theorem dX3_init_1 : decode cX3_init 1 = .ok (.invokespecial 3, 3) := by decide +kernel
theorem dX3_init_4 : decode cX3_init 4 = .ok (.aload_n 0, 1) := by decide +kernel
theorem dX3_init_5 : decode cX3_init 5 = .ok (.bipush 20, 2) := by decide +kernel
theorem dX3_init_7 : decode cX3_init 7 = .ok (.newarray .int, 2) := by decide +kernel
theorem dX3_init_9 : decode cX3_init 9 = .ok (.putfield 9, 3) := by decide +kernel
theorem dX3_init_12 : decode cX3_init 12 = .ok (.aload_n 0, 1) := by decide +kernel
theorem dX3_init_13 : decode cX3_init 13 = .ok (.iload_n 1, 1) := by decide +kernel
theorem dX3_init_14 : decode cX3_init 14 = .ok (.putfield 15, 3) := by decide +kernel
theorem dX3_init_17 : decode cX3_init 17 = .ok (.aload_n 0, 1) := by decide +kernel
theorem dX3_init_18 : decode cX3_init 18 = .ok (.iload_n 2, 1) := by decide +kernel
theorem dX3_init_19 : decode cX3_init 19 = .ok (.putfield 19, 3) := by decide +kernel
theorem dX3_init_22 : decode cX3_init 22 = .ok (.iconst 0, 1) := by decide +kernel
theorem dX3_init_23 : decode cX3_init 23 = .ok (.istore 5, 2) := by decide +kernel
theorem dX3_init_25 : decode cX3_init 25 = .ok (.iload 5, 2) := by decide +kernel
theorem dX3_init_27 : decode cX3_init 27 = .ok (.aload_n 3, 1) := by decide +kernel
theorem dX3_init_28 : decode cX3_init 28 = .ok (.invokevirtual 22, 3) := by decide +kernel
theorem dX3_init_31 : decode cX3_init 31 = .ok (.if_icmp .ge 24, 3) := by decide +kernel
theorem dX3_init_34 : decode cX3_init 34 = .ok (.aload_n 0, 1) := by decide +kernel
theorem dX3_init_35 : decode cX3_init 35 = .ok (.getfield 9, 3) := by decide +kernel
theorem dX3_init_38 : decode cX3_init 38 = .ok (.iload 5, 2) := by decide +kernel
theorem dX3_init_40 : decode cX3_init 40 = .ok (.aload_n 3, 1) := by decide +kernel
theorem dX3_init_41 : decode cX3_init 41 = .ok (.iload 4, 2) := by decide +kernel
theorem dX3_init_43 : decode cX3_init 43 = .ok (.iload 5, 2) := by decide +kernel
theorem dX3_init_45 : decode cX3_init 45 = .ok (.invokevirtual 28, 3) := by decide +kernel
theorem dX3_init_48 : decode cX3_init 48 = .ok (.iastore, 1) := by decide +kernel
theorem dX3_init_49 : decode cX3_init 49 = .ok (.iinc 5 1, 3) := by decide +kernel
theorem dX3_init_52 : decode cX3_init 52 = .ok (.goto (-27), 3) := by decide +kernel
theorem dX3_init_55 : decode cX3_init 55 = .ok (.return_, 1) := by decide +kernel
theorem dX3_number_0 : decode cX3_number 0 = .ok (.aload_n 0, 1) := by decide +kernel
theorem dX3_number_1 : decode cX3_number 1 = .ok (.getfield 15, 3) := by decide +kernel
theorem dX3_number_4 : decode cX3_number 4 = .ok (.ireturn, 1) := by decide +kernel
theorem dX3_age_0 : decode cX3_age 0 = .ok (.iload_n 1, 1) := by decide +kernel
theorem dX3_age_1 : decode cX3_age 1 = .ok (.aload_n 0, 1) := by decide +kernel
theorem dX3_age_2 : decode cX3_age 2 = .ok (.getfield 19, 3) := by decide +kernel
theorem dX3_age_5 : decode cX3_age 5 = .ok (.isub, 1) := by decide +kernel
theorem dX3_age_6 : decode cX3_age 6 = .ok (.ireturn, 1) := by decide +kernel
theorem dX3_length_0 : decode cX3_length 0 = .ok (.aload_n 0, 1) := by decide +kernel
theorem dX3_length_1 : decode cX3_length 1 = .ok (.getfield 9, 3) := by decide +kernel
theorem dX3_length_4 : decode cX3_length 4 = .ok (.iload_n 1, 1) := by decide +kernel
theorem dX3_length_5 : decode cX3_length 5 = .ok (.iaload, 1) := by decide +kernel
theorem dX3_length_6 : decode cX3_length 6 = .ok (.ireturn, 1) := by decide +kernel
theorem dX3_tells_0 : decode cX3_tells 0 = .ok (.aload_n 0, 1) := by decide +kernel
theorem dX3_tells_1 : decode cX3_tells 1 = .ok (.getfield 9, 3) := by decide +kernel
theorem dX3_tells_4 : decode cX3_tells 4 = .ok (.iload_n 1, 1) := by decide +kernel
theorem dX3_tells_5 : decode cX3_tells 5 = .ok (.iaload, 1) := by decide +kernel
theorem dX3_tells_6 : decode cX3_tells 6 = .ok (.ifCond .le 7, 3) := by decide +kernel
theorem dX3_tells_9 : decode cX3_tells 9 = .ok (.iconst 1, 1) := by decide +kernel
theorem dX3_tells_10 : decode cX3_tells 10 = .ok (.goto 4, 3) := by decide +kernel
theorem dX3_tells_13 : decode cX3_tells 13 = .ok (.iconst 0, 1) := by decide +kernel
theorem dX3_tells_14 : decode cX3_tells 14 = .ok (.ireturn, 1) := by decide +kernel
set_option maxRecDepth 20000 in
theorem ggX3_passesTold_X3_tells : GoodIn wsX3_passesTold wsX3_tells := goodIn_r _ [6, 1, 7, 8, 9] (by decide +kernel) (by decide +kernel)
set_option maxRecDepth 20000 in
theorem gX3_passesTold_X3_tells : GoodIn wsX3_passesTold (wsV RX3 32 RX3 yX3_tells wsX3_tells) := goodIn_app (goodIn_of _ (by decide +kernel)) ggX3_passesTold_X3_tells
theorem dX3_passesTold_0 : decode cX3_passesTold 0 = .ok (.iconst 0, 1) := by decide +kernel
theorem dX3_passesTold_1 : decode cX3_passesTold 1 = .ok (.istore_n 1, 1) := by decide +kernel
theorem dX3_passesTold_2 : decode cX3_passesTold 2 = .ok (.iconst 0, 1) := by decide +kernel
theorem dX3_passesTold_3 : decode cX3_passesTold 3 = .ok (.istore_n 2, 1) := by decide +kernel
theorem dX3_passesTold_4 : decode cX3_passesTold 4 = .ok (.iload_n 2, 1) := by decide +kernel
theorem dX3_passesTold_5 : decode cX3_passesTold 5 = .ok (.aload_n 0, 1) := by decide +kernel
theorem dX3_passesTold_6 : decode cX3_passesTold 6 = .ok (.getfield 9, 3) := by decide +kernel
theorem dX3_passesTold_9 : decode cX3_passesTold 9 = .ok (.arraylength, 1) := by decide +kernel
theorem dX3_passesTold_10 : decode cX3_passesTold 10 = .ok (.if_icmp .ge 20, 3) := by decide +kernel
theorem dX3_passesTold_13 : decode cX3_passesTold 13 = .ok (.aload_n 0, 1) := by decide +kernel
theorem dX3_passesTold_14 : decode cX3_passesTold 14 = .ok (.iload_n 2, 1) := by decide +kernel
theorem dX3_passesTold_15 : decode cX3_passesTold 15 = .ok (.invokevirtual 32, 3) := by decide +kernel
theorem dX3_passesTold_18 : decode cX3_passesTold 18 = .ok (.ifCond .eq 6, 3) := by decide +kernel
theorem dX3_passesTold_21 : decode cX3_passesTold 21 = .ok (.iinc 1 1, 3) := by decide +kernel
theorem dX3_passesTold_24 : decode cX3_passesTold 24 = .ok (.iinc 2 1, 3) := by decide +kernel
theorem dX3_passesTold_27 : decode cX3_passesTold 27 = .ok (.goto (-23), 3) := by decide +kernel
theorem dX3_passesTold_30 : decode cX3_passesTold 30 = .ok (.iload_n 1, 1) := by decide +kernel
theorem dX3_passesTold_31 : decode cX3_passesTold 31 = .ok (.ireturn, 1) := by decide +kernel
set_option maxRecDepth 20000 in
theorem ggX3_tellsAsNow_X1_passes : GoodIn wsX3_tellsAsNow wsX1_passes := goodIn_r _ [6, 7, 19, 20, 21, 22, 23, 24, 25] (by decide +kernel) (by decide +kernel)
set_option maxRecDepth 20000 in
theorem gX3_tellsAsNow_X1_passes : GoodIn wsX3_tellsAsNow (wsV RX3 22 RX1 yX1_passes wsX1_passes) := goodIn_app (goodIn_of _ (by decide +kernel)) ggX3_tellsAsNow_X1_passes
set_option maxRecDepth 20000 in
theorem ggX3_tellsAsNow_X1_tellsNow : GoodIn wsX3_tellsAsNow wsX1_tellsNow := goodIn_r _ [11, 12, 13, 14, 15, 19, 20, 21, 22, 23, 24, 25] (by decide +kernel) (by decide +kernel)
set_option maxRecDepth 20000 in
theorem gX3_tellsAsNow_X1_tellsNow : GoodIn wsX3_tellsAsNow (wsV RX3 28 RX1 yX1_tellsNow wsX1_tellsNow) := goodIn_app (goodIn_of _ (by decide +kernel)) ggX3_tellsAsNow_X1_tellsNow
theorem dX3_tellsAsNow_0 : decode cX3_tellsAsNow 0 = .ok (.iconst 0, 1) := by decide +kernel
theorem dX3_tellsAsNow_1 : decode cX3_tellsAsNow 1 = .ok (.istore_n 3, 1) := by decide +kernel
theorem dX3_tellsAsNow_2 : decode cX3_tellsAsNow 2 = .ok (.iload_n 3, 1) := by decide +kernel
theorem dX3_tellsAsNow_3 : decode cX3_tellsAsNow 3 = .ok (.aload_n 1, 1) := by decide +kernel
theorem dX3_tellsAsNow_4 : decode cX3_tellsAsNow 4 = .ok (.invokevirtual 22, 3) := by decide +kernel
theorem dX3_tellsAsNow_7 : decode cX3_tellsAsNow 7 = .ok (.if_icmp .ge 26, 3) := by decide +kernel
theorem dX3_tellsAsNow_10 : decode cX3_tellsAsNow 10 = .ok (.aload_n 0, 1) := by decide +kernel
theorem dX3_tellsAsNow_11 : decode cX3_tellsAsNow 11 = .ok (.getfield 9, 3) := by decide +kernel
theorem dX3_tellsAsNow_14 : decode cX3_tellsAsNow 14 = .ok (.iload_n 3, 1) := by decide +kernel
theorem dX3_tellsAsNow_15 : decode cX3_tellsAsNow 15 = .ok (.iaload, 1) := by decide +kernel
theorem dX3_tellsAsNow_16 : decode cX3_tellsAsNow 16 = .ok (.aload_n 1, 1) := by decide +kernel
theorem dX3_tellsAsNow_17 : decode cX3_tellsAsNow 17 = .ok (.iload_n 2, 1) := by decide +kernel
theorem dX3_tellsAsNow_18 : decode cX3_tellsAsNow 18 = .ok (.iload_n 3, 1) := by decide +kernel
theorem dX3_tellsAsNow_19 : decode cX3_tellsAsNow 19 = .ok (.invokevirtual 28, 3) := by decide +kernel
theorem dX3_tellsAsNow_22 : decode cX3_tellsAsNow 22 = .ok (.if_icmp .eq 5, 3) := by decide +kernel
theorem dX3_tellsAsNow_25 : decode cX3_tellsAsNow 25 = .ok (.iconst 0, 1) := by decide +kernel
theorem dX3_tellsAsNow_26 : decode cX3_tellsAsNow 26 = .ok (.ireturn, 1) := by decide +kernel
theorem dX3_tellsAsNow_27 : decode cX3_tellsAsNow 27 = .ok (.iinc 3 1, 3) := by decide +kernel
theorem dX3_tellsAsNow_30 : decode cX3_tellsAsNow 30 = .ok (.goto (-28), 3) := by decide +kernel
theorem dX3_tellsAsNow_33 : decode cX3_tellsAsNow 33 = .ok (.iconst 1, 1) := by decide +kernel
theorem dX3_tellsAsNow_34 : decode cX3_tellsAsNow 34 = .ok (.ireturn, 1) := by decide +kernel
set_option maxRecDepth 20000 in
theorem ggX4_init_X1_init : GoodIn wsX4_init wsX1_init := goodIn_r _ [20, 21, 2, 3, 17, 22, 23, 24, 25, 26, 27, 48, 49, 50, 51, 52, 53, 54] (by decide +kernel) (by decide +kernel)
set_option maxRecDepth 20000 in
theorem gX4_init_X1_init_n9 : GoodIn wsX4_init (wsX1_init) := ggX4_init_X1_init
set_option maxRecDepth 20000 in
theorem ggX4_init_X2_init : GoodIn wsX4_init wsX2_init := goodIn_r _ [30, 31, 2, 3, 32, 14, 15, 33, 17, 34, 35, 36, 26, 37, 38, 39, 40, 41, 42, 43, 44, 45, 46, 47, 68, 69, 70, 71, 60, 61, 62, 63, 64, 65, 66, 67] (by decide +kernel) (by decide +kernel)
set_option maxRecDepth 20000 in
theorem gX4_init_X2_init : GoodIn wsX4_init (wsX2_init) := ggX4_init_X2_init
set_option maxRecDepth 20000 in
theorem ggX4_init_X0_init : GoodIn wsX4_init wsX0_init := goodIn_r _ [43, 44, 2, 3, 17, 45, 46, 47, 68, 69, 70, 71] (by decide +kernel) (by decide +kernel)
set_option maxRecDepth 20000 in
theorem gX4_init_X0_init_n30 : GoodIn wsX4_init (wsX0_init) := ggX4_init_X0_init
theorem dX4_init_0 : decode cX4_init 0 = .ok (.aload_n 0, 1) := by decide +kernel
theorem dX4_init_1 : decode cX4_init 1 = .ok (.invokespecial 1, 3) := by decide +kernel
theorem dX4_init_4 : decode cX4_init 4 = .ok (.aload_n 0, 1) := by decide +kernel
theorem dX4_init_5 : decode cX4_init 5 = .ok (.new 7, 3) := by decide +kernel
theorem dX4_init_8 : decode cX4_init 8 = .ok (.dup, 1) := by decide +kernel
theorem dX4_init_9 : decode cX4_init 9 = .ok (.invokespecial 9, 3) := by decide +kernel
theorem dX4_init_12 : decode cX4_init 12 = .ok (.putfield 10, 3) := by decide +kernel
theorem dX4_init_15 : decode cX4_init 15 = .ok (.aload_n 0, 1) := by decide +kernel
theorem dX4_init_16 : decode cX4_init 16 = .ok (.new 16, 3) := by decide +kernel
theorem dX4_init_19 : decode cX4_init 19 = .ok (.dup, 1) := by decide +kernel
theorem dX4_init_20 : decode cX4_init 20 = .ok (.aload_n 0, 1) := by decide +kernel
theorem dX4_init_21 : decode cX4_init 21 = .ok (.getfield 10, 3) := by decide +kernel
theorem dX4_init_24 : decode cX4_init 24 = .ok (.invokespecial 18, 3) := by decide +kernel
theorem dX4_init_27 : decode cX4_init 27 = .ok (.putfield 21, 3) := by decide +kernel
theorem dX4_init_30 : decode cX4_init 30 = .ok (.aload_n 0, 1) := by decide +kernel
theorem dX4_init_31 : decode cX4_init 31 = .ok (.new 16, 3) := by decide +kernel
theorem dX4_init_34 : decode cX4_init 34 = .ok (.dup, 1) := by decide +kernel
theorem dX4_init_35 : decode cX4_init 35 = .ok (.aload_n 0, 1) := by decide +kernel
theorem dX4_init_36 : decode cX4_init 36 = .ok (.getfield 10, 3) := by decide +kernel
theorem dX4_init_39 : decode cX4_init 39 = .ok (.invokespecial 18, 3) := by decide +kernel
theorem dX4_init_42 : decode cX4_init 42 = .ok (.putfield 25, 3) := by decide +kernel
theorem dX4_init_45 : decode cX4_init 45 = .ok (.aload_n 0, 1) := by decide +kernel
theorem dX4_init_46 : decode cX4_init 46 = .ok (.new 28, 3) := by decide +kernel
theorem dX4_init_49 : decode cX4_init 49 = .ok (.dup, 1) := by decide +kernel
theorem dX4_init_50 : decode cX4_init 50 = .ok (.invokespecial 30, 3) := by decide +kernel
theorem dX4_init_53 : decode cX4_init 53 = .ok (.putfield 31, 3) := by decide +kernel
theorem dX4_init_56 : decode cX4_init 56 = .ok (.aload_n 0, 1) := by decide +kernel
theorem dX4_init_57 : decode cX4_init 57 = .ok (.bipush 10, 2) := by decide +kernel
theorem dX4_init_59 : decode cX4_init 59 = .ok (.newarray .int, 2) := by decide +kernel
theorem dX4_init_61 : decode cX4_init 61 = .ok (.putfield 35, 3) := by decide +kernel
theorem dX4_init_64 : decode cX4_init 64 = .ok (.return_, 1) := by decide +kernel
set_option maxRecDepth 20000 in
theorem ggX4_hut_X1_huts : GoodIn wsX4_hut wsX1_huts := goodIn_r _ [10, 11, 22, 23, 24, 25, 26, 27, 28] (by decide +kernel) (by decide +kernel)
set_option maxRecDepth 20000 in
theorem gX4_hut_X1_huts : GoodIn wsX4_hut (wsV RX4 46 RX1 yX1_huts wsX1_huts) := goodIn_app (goodIn_of _ (by decide +kernel)) ggX4_hut_X1_huts
set_option maxRecDepth 20000 in
theorem ggX4_hut_X1_addHut : GoodIn wsX4_hut wsX1_addHut := goodIn_r _ [15, 11, 16, 22, 23, 24, 25, 26, 27, 28] (by decide +kernel) (by decide +kernel)
set_option maxRecDepth 20000 in
theorem gX4_hut_X1_addHut : GoodIn wsX4_hut (wsV RX4 55 RX1 yX1_addHut wsX1_addHut) := goodIn_app (goodIn_of _ (by decide +kernel)) ggX4_hut_X1_addHut
theorem dX4_hut_0 : decode cX4_hut 0 = .ok (.iload_n 1, 1) := by decide +kernel
theorem dX4_hut_1 : decode cX4_hut 1 = .ok (.ifCond .lt 8, 3) := by decide +kernel
theorem dX4_hut_4 : decode cX4_hut 4 = .ok (.iload_n 1, 1) := by decide +kernel
theorem dX4_hut_5 : decode cX4_hut 5 = .ok (.iconst 3, 1) := by decide +kernel
theorem dX4_hut_6 : decode cX4_hut 6 = .ok (.if_icmp .le 13, 3) := by decide +kernel
theorem dX4_hut_9 : decode cX4_hut 9 = .ok (.new 39, 3) := by decide +kernel
theorem dX4_hut_12 : decode cX4_hut 12 = .ok (.dup, 1) := by decide +kernel
theorem dX4_hut_13 : decode cX4_hut 13 = .ok (.ldc 41, 2) := by decide +kernel
theorem dX4_hut_15 : decode cX4_hut 15 = .ok (.invokespecial 43, 3) := by decide +kernel
theorem dX4_hut_18 : decode cX4_hut 18 = .ok (.athrow, 1) := by decide +kernel
theorem dX4_hut_19 : decode cX4_hut 19 = .ok (.aload_n 0, 1) := by decide +kernel
theorem dX4_hut_20 : decode cX4_hut 20 = .ok (.getfield 10, 3) := by decide +kernel
theorem dX4_hut_23 : decode cX4_hut 23 = .ok (.invokevirtual 46, 3) := by decide +kernel
theorem dX4_hut_26 : decode cX4_hut 26 = .ok (.bipush 10, 2) := by decide +kernel
theorem dX4_hut_28 : decode cX4_hut 28 = .ok (.if_icmp .lt 13, 3) := by decide +kernel
theorem dX4_hut_31 : decode cX4_hut 31 = .ok (.new 50, 3) := by decide +kernel
theorem dX4_hut_34 : decode cX4_hut 34 = .ok (.dup, 1) := by decide +kernel
theorem dX4_hut_35 : decode cX4_hut 35 = .ok (.ldc 52, 2) := by decide +kernel
theorem dX4_hut_37 : decode cX4_hut 37 = .ok (.invokespecial 54, 3) := by decide +kernel
theorem dX4_hut_40 : decode cX4_hut 40 = .ok (.athrow, 1) := by decide +kernel
theorem dX4_hut_41 : decode cX4_hut 41 = .ok (.aload_n 0, 1) := by decide +kernel
theorem dX4_hut_42 : decode cX4_hut 42 = .ok (.getfield 10, 3) := by decide +kernel
theorem dX4_hut_45 : decode cX4_hut 45 = .ok (.iload_n 1, 1) := by decide +kernel
theorem dX4_hut_46 : decode cX4_hut 46 = .ok (.invokevirtual 55, 3) := by decide +kernel
theorem dX4_hut_49 : decode cX4_hut 49 = .ok (.ireturn, 1) := by decide +kernel
set_option maxRecDepth 20000 in
theorem ggX4_pass_X4_checkHut : GoodIn wsX4_pass wsX4_checkHut := goodIn_ca (goodIn_r _ [10, 11, 12, 5, 13, 14, 15, 16, 17, 18, 36, 37, 38, 39, 40, 41, 42, 43, 44, 45, 46, 47] (by decide +kernel) (by decide +kernel)) (goodIn_sub (fun _ h => List.mem_cons_of_mem _ (List.mem_append_right _ h)) (by decide +kernel))
set_option maxRecDepth 20000 in
theorem gX4_pass_X4_checkHut : GoodIn wsX4_pass (wsV RX4 59 RX4 yX4_checkHut wsX4_checkHut) := goodIn_app (goodIn_of _ (by decide +kernel)) ggX4_pass_X4_checkHut
set_option maxRecDepth 20000 in
theorem ggX4_pass_X4_checkLength : GoodIn wsX4_pass wsX4_checkLength := goodIn_ca (goodIn_r _ [22, 1, 2] (by decide +kernel) (by decide +kernel)) (goodIn_sub (fun _ h => List.mem_cons_of_mem _ (List.mem_append_left _ (List.mem_append_left _ (List.mem_append_right _ h)))) (by decide +kernel))
set_option maxRecDepth 20000 in
theorem gX4_pass_X4_checkLength : GoodIn wsX4_pass (wsV RX4 65 RX4 yX4_checkLength wsX4_checkLength) := goodIn_app (goodIn_of _ (by decide +kernel)) ggX4_pass_X4_checkLength
set_option maxRecDepth 20000 in
theorem ggX4_pass_X1_passes : GoodIn wsX4_pass wsX1_passes := goodIn_r _ [26, 27, 41, 42, 43, 44, 45, 46, 47] (by decide +kernel) (by decide +kernel)
set_option maxRecDepth 20000 in
theorem gX4_pass_X1_passes : GoodIn wsX4_pass (wsV RX4 68 RX1 yX1_passes wsX1_passes) := goodIn_app (goodIn_of _ (by decide +kernel)) ggX4_pass_X1_passes
set_option maxRecDepth 20000 in
theorem ggX4_pass_X1_addPass : GoodIn wsX4_pass wsX1_addPass := goodIn_r _ [31, 27, 32, 33, 34, 35, 41, 42, 43, 44, 45, 46, 47] (by decide +kernel) (by decide +kernel)
set_option maxRecDepth 20000 in
theorem gX4_pass_X1_addPass : GoodIn wsX4_pass (wsV RX4 73 RX1 yX1_addPass wsX1_addPass) := goodIn_app (goodIn_of _ (by decide +kernel)) ggX4_pass_X1_addPass
theorem dX4_pass_0 : decode cX4_pass 0 = .ok (.aload_n 0, 1) := by decide +kernel
theorem dX4_pass_1 : decode cX4_pass 1 = .ok (.iload_n 1, 1) := by decide +kernel
theorem dX4_pass_2 : decode cX4_pass 2 = .ok (.invokevirtual 59, 3) := by decide +kernel
theorem dX4_pass_5 : decode cX4_pass 5 = .ok (.aload_n 0, 1) := by decide +kernel
theorem dX4_pass_6 : decode cX4_pass 6 = .ok (.iload_n 2, 1) := by decide +kernel
theorem dX4_pass_7 : decode cX4_pass 7 = .ok (.invokevirtual 59, 3) := by decide +kernel
theorem dX4_pass_10 : decode cX4_pass 10 = .ok (.iload_n 1, 1) := by decide +kernel
theorem dX4_pass_11 : decode cX4_pass 11 = .ok (.iload_n 2, 1) := by decide +kernel
theorem dX4_pass_12 : decode cX4_pass 12 = .ok (.if_icmp .ne 13, 3) := by decide +kernel
theorem dX4_pass_15 : decode cX4_pass 15 = .ok (.new 39, 3) := by decide +kernel
theorem dX4_pass_18 : decode cX4_pass 18 = .ok (.dup, 1) := by decide +kernel
theorem dX4_pass_19 : decode cX4_pass 19 = .ok (.ldc 63, 2) := by decide +kernel
theorem dX4_pass_21 : decode cX4_pass 21 = .ok (.invokespecial 43, 3) := by decide +kernel
theorem dX4_pass_24 : decode cX4_pass 24 = .ok (.athrow, 1) := by decide +kernel
theorem dX4_pass_25 : decode cX4_pass 25 = .ok (.aload_n 0, 1) := by decide +kernel
theorem dX4_pass_26 : decode cX4_pass 26 = .ok (.iload_n 3, 1) := by decide +kernel
theorem dX4_pass_27 : decode cX4_pass 27 = .ok (.invokevirtual 65, 3) := by decide +kernel
theorem dX4_pass_30 : decode cX4_pass 30 = .ok (.aload_n 0, 1) := by decide +kernel
theorem dX4_pass_31 : decode cX4_pass 31 = .ok (.getfield 10, 3) := by decide +kernel
theorem dX4_pass_34 : decode cX4_pass 34 = .ok (.invokevirtual 68, 3) := by decide +kernel
theorem dX4_pass_37 : decode cX4_pass 37 = .ok (.bipush 20, 2) := by decide +kernel
theorem dX4_pass_39 : decode cX4_pass 39 = .ok (.if_icmp .lt 13, 3) := by decide +kernel
theorem dX4_pass_42 : decode cX4_pass 42 = .ok (.new 50, 3) := by decide +kernel
theorem dX4_pass_45 : decode cX4_pass 45 = .ok (.dup, 1) := by decide +kernel
theorem dX4_pass_46 : decode cX4_pass 46 = .ok (.ldc 71, 2) := by decide +kernel
theorem dX4_pass_48 : decode cX4_pass 48 = .ok (.invokespecial 54, 3) := by decide +kernel
theorem dX4_pass_51 : decode cX4_pass 51 = .ok (.athrow, 1) := by decide +kernel
theorem dX4_pass_52 : decode cX4_pass 52 = .ok (.aload_n 0, 1) := by decide +kernel
theorem dX4_pass_53 : decode cX4_pass 53 = .ok (.getfield 10, 3) := by decide +kernel
theorem dX4_pass_56 : decode cX4_pass 56 = .ok (.iload_n 1, 1) := by decide +kernel
theorem dX4_pass_57 : decode cX4_pass 57 = .ok (.iload_n 2, 1) := by decide +kernel
theorem dX4_pass_58 : decode cX4_pass 58 = .ok (.iload_n 3, 1) := by decide +kernel
theorem dX4_pass_59 : decode cX4_pass 59 = .ok (.invokevirtual 73, 3) := by decide +kernel
theorem dX4_pass_62 : decode cX4_pass 62 = .ok (.ireturn, 1) := by decide +kernel
set_option maxRecDepth 20000 in
theorem ggX4_setLength_X4_checkPass : GoodIn wsX4_setLength wsX4_checkPass := goodIn_ca (goodIn_r _ [6, 7, 8, 1, 9, 10, 11, 12, 13, 14, 26, 27, 28, 29, 30, 31, 32, 33, 34, 35, 36, 37] (by decide +kernel) (by decide +kernel)) (goodIn_sub (fun _ h => List.mem_cons_of_mem _ (List.mem_append_left _ (List.mem_append_right _ h))) (by decide +kernel))
set_option maxRecDepth 20000 in
theorem gX4_setLength_X4_checkPass : GoodIn wsX4_setLength (wsV RX4 77 RX4 yX4_checkPass wsX4_checkPass) := goodIn_app (goodIn_of _ (by decide +kernel)) ggX4_setLength_X4_checkPass
set_option maxRecDepth 20000 in
theorem ggX4_setLength_X4_checkLength : GoodIn wsX4_setLength wsX4_checkLength := goodIn_ca (goodIn_r _ [18, 19, 20] (by decide +kernel) (by decide +kernel)) (goodIn_sub (fun _ h => List.mem_cons_of_mem _ (List.mem_append_right _ h)) (by decide +kernel))
set_option maxRecDepth 20000 in
theorem gX4_setLength_X4_checkLength : GoodIn wsX4_setLength (wsV RX4 65 RX4 yX4_checkLength wsX4_checkLength) := goodIn_app (goodIn_of _ (by decide +kernel)) ggX4_setLength_X4_checkLength
set_option maxRecDepth 20000 in
theorem ggX4_setLength_X1_changeLength : GoodIn wsX4_setLength wsX1_changeLength := goodIn_r _ [24, 25, 31, 32, 33, 34, 35, 36, 37] (by decide +kernel) (by decide +kernel)
set_option maxRecDepth 20000 in
theorem gX4_setLength_X1_changeLength : GoodIn wsX4_setLength (wsV RX4 80 RX1 yX1_changeLength wsX1_changeLength) := goodIn_app (goodIn_of _ (by decide +kernel)) ggX4_setLength_X1_changeLength
theorem dX4_setLength_0 : decode cX4_setLength 0 = .ok (.aload_n 0, 1) := by decide +kernel
theorem dX4_setLength_1 : decode cX4_setLength 1 = .ok (.iload_n 1, 1) := by decide +kernel
theorem dX4_setLength_2 : decode cX4_setLength 2 = .ok (.invokevirtual 77, 3) := by decide +kernel
theorem dX4_setLength_5 : decode cX4_setLength 5 = .ok (.aload_n 0, 1) := by decide +kernel
theorem dX4_setLength_6 : decode cX4_setLength 6 = .ok (.iload_n 2, 1) := by decide +kernel
theorem dX4_setLength_7 : decode cX4_setLength 7 = .ok (.invokevirtual 65, 3) := by decide +kernel
theorem dX4_setLength_10 : decode cX4_setLength 10 = .ok (.aload_n 0, 1) := by decide +kernel
theorem dX4_setLength_11 : decode cX4_setLength 11 = .ok (.getfield 10, 3) := by decide +kernel
theorem dX4_setLength_14 : decode cX4_setLength 14 = .ok (.iload_n 1, 1) := by decide +kernel
theorem dX4_setLength_15 : decode cX4_setLength 15 = .ok (.iload_n 2, 1) := by decide +kernel
theorem dX4_setLength_16 : decode cX4_setLength 16 = .ok (.invokevirtual 80, 3) := by decide +kernel
theorem dX4_setLength_19 : decode cX4_setLength 19 = .ok (.ireturn, 1) := by decide +kernel
set_option maxRecDepth 20000 in
theorem ggX4_setOpen_X4_checkPass : GoodIn wsX4_setOpen wsX4_checkPass := goodIn_ca (goodIn_r _ [6, 7, 8, 1, 9, 10, 11, 12, 13, 14, 20, 21, 22, 23, 24, 25, 26, 27, 28, 29, 30, 31] (by decide +kernel) (by decide +kernel)) (goodIn_sub (fun _ h => List.mem_cons_of_mem _ (List.mem_append_right _ h)) (by decide +kernel))
set_option maxRecDepth 20000 in
theorem gX4_setOpen_X4_checkPass : GoodIn wsX4_setOpen (wsV RX4 77 RX4 yX4_checkPass wsX4_checkPass) := goodIn_app (goodIn_of _ (by decide +kernel)) ggX4_setOpen_X4_checkPass
set_option maxRecDepth 20000 in
theorem ggX4_setOpen_X1_changeOpen : GoodIn wsX4_setOpen wsX1_changeOpen := goodIn_r _ [18, 19, 25, 26, 27, 28, 29, 30, 31] (by decide +kernel) (by decide +kernel)
set_option maxRecDepth 20000 in
theorem gX4_setOpen_X1_changeOpen : GoodIn wsX4_setOpen (wsV RX4 84 RX1 yX1_changeOpen wsX1_changeOpen) := goodIn_app (goodIn_of _ (by decide +kernel)) ggX4_setOpen_X1_changeOpen
theorem dX4_setOpen_0 : decode cX4_setOpen 0 = .ok (.aload_n 0, 1) := by decide +kernel
theorem dX4_setOpen_1 : decode cX4_setOpen 1 = .ok (.iload_n 1, 1) := by decide +kernel
theorem dX4_setOpen_2 : decode cX4_setOpen 2 = .ok (.invokevirtual 77, 3) := by decide +kernel
theorem dX4_setOpen_5 : decode cX4_setOpen 5 = .ok (.aload_n 0, 1) := by decide +kernel
theorem dX4_setOpen_6 : decode cX4_setOpen 6 = .ok (.getfield 10, 3) := by decide +kernel
theorem dX4_setOpen_9 : decode cX4_setOpen 9 = .ok (.iload_n 1, 1) := by decide +kernel
theorem dX4_setOpen_10 : decode cX4_setOpen 10 = .ok (.iload_n 2, 1) := by decide +kernel
theorem dX4_setOpen_11 : decode cX4_setOpen 11 = .ok (.invokevirtual 84, 3) := by decide +kernel
theorem dX4_setOpen_14 : decode cX4_setOpen 14 = .ok (.ireturn, 1) := by decide +kernel
set_option maxRecDepth 20000 in
theorem ggX4_burn_X4_checkHut : GoodIn wsX4_burn wsX4_checkHut := goodIn_ca (goodIn_r _ [6, 7, 8, 9, 10, 11, 12, 13, 14, 15, 34, 35, 36, 37, 38, 39, 40, 41, 42, 43, 44, 45] (by decide +kernel) (by decide +kernel)) (goodIn_sub (fun _ h => List.mem_cons_of_mem _ (List.mem_append_right _ h)) (by decide +kernel))
set_option maxRecDepth 20000 in
theorem gX4_burn_X4_checkHut : GoodIn wsX4_burn (wsV RX4 59 RX4 yX4_checkHut wsX4_checkHut) := goodIn_app (goodIn_of _ (by decide +kernel)) ggX4_burn_X4_checkHut
set_option maxRecDepth 20000 in
theorem ggX4_burn_X2_burnAll : GoodIn wsX4_burn wsX2_burnAll := goodIn_r _ [20, 21, 22, 23, 24, 19, 25, 26, 27, 28, 29, 30, 31, 32, 33, 46, 47, 48, 49, 50, 51, 52, 53] (by decide +kernel) (by decide +kernel)
set_option maxRecDepth 20000 in
theorem gX4_burn_X2_burnAll : GoodIn wsX4_burn (wsV RX4 88 RX2 yX2_burnAll wsX2_burnAll) := goodIn_app (goodIn_of _ (by decide +kernel)) ggX4_burn_X2_burnAll
theorem dX4_burn_0 : decode cX4_burn 0 = .ok (.aload_n 0, 1) := by decide +kernel
theorem dX4_burn_1 : decode cX4_burn 1 = .ok (.iload_n 1, 1) := by decide +kernel
theorem dX4_burn_2 : decode cX4_burn 2 = .ok (.invokevirtual 59, 3) := by decide +kernel
theorem dX4_burn_5 : decode cX4_burn 5 = .ok (.aload_n 0, 1) := by decide +kernel
theorem dX4_burn_6 : decode cX4_burn 6 = .ok (.getfield 21, 3) := by decide +kernel
theorem dX4_burn_9 : decode cX4_burn 9 = .ok (.iload_n 1, 1) := by decide +kernel
theorem dX4_burn_10 : decode cX4_burn 10 = .ok (.invokevirtual 88, 3) := by decide +kernel
theorem dX4_burn_13 : decode cX4_burn 13 = .ok (.ireturn, 1) := by decide +kernel
set_option maxRecDepth 20000 in
theorem ggX4_sheet_X4_checkHut : GoodIn wsX4_sheet wsX4_checkHut := goodIn_ca (goodIn_r _ [6, 7, 8, 9, 10, 11, 12, 13, 14, 15, 54, 55, 56, 57, 58, 59, 60, 61, 62, 63, 64, 65] (by decide +kernel) (by decide +kernel)) (goodIn_sub (fun _ h => List.mem_cons_of_mem _ (List.mem_append_right _ h)) (by decide +kernel))
set_option maxRecDepth 20000 in
theorem gX4_sheet_X4_checkHut : GoodIn wsX4_sheet (wsV RX4 59 RX4 yX4_checkHut wsX4_checkHut) := goodIn_app (goodIn_of _ (by decide +kernel)) ggX4_sheet_X4_checkHut
set_option maxRecDepth 20000 in
theorem ggX4_sheet_X4_checkWhat : GoodIn wsX4_sheet wsX4_checkWhat := goodIn_ca (goodIn_r _ [19, 7, 8] (by decide +kernel) (by decide +kernel)) (goodIn_sub (fun _ h => List.mem_cons_of_mem _ (List.mem_append_right _ h)) (by decide +kernel))
set_option maxRecDepth 20000 in
theorem gX4_sheet_X4_checkWhat : GoodIn wsX4_sheet (wsV RX4 91 RX4 yX4_checkWhat wsX4_checkWhat) := goodIn_app (goodIn_of _ (by decide +kernel)) ggX4_sheet_X4_checkWhat
set_option maxRecDepth 20000 in
theorem ggX4_sheet_X2_held : GoodIn wsX4_sheet wsX2_held := goodIn_r _ [24, 25, 26, 27, 23, 28, 66, 67, 68, 69, 70, 71, 72, 73] (by decide +kernel) (by decide +kernel)
set_option maxRecDepth 20000 in
theorem gX4_sheet_X2_held : GoodIn wsX4_sheet (wsV RX4 95 RX2 yX2_held wsX2_held) := goodIn_app (goodIn_of _ (by decide +kernel)) ggX4_sheet_X2_held
set_option maxRecDepth 20000 in
theorem ggX4_sheet_X3_number : GoodIn wsX4_sheet wsX3_number := goodIn_r _ [33, 34, 74, 75, 76] (by decide +kernel) (by decide +kernel)
set_option maxRecDepth 20000 in
theorem gX4_sheet_X3_number : GoodIn wsX4_sheet (wsV RX4 99 RX3 yX3_number wsX3_number) := goodIn_app (goodIn_of _ (by decide +kernel)) ggX4_sheet_X3_number
set_option maxRecDepth 20000 in
theorem ggX4_sheet_X2_minute : GoodIn wsX4_sheet wsX2_minute := goodIn_r _ [38, 39, 66, 67, 68, 69, 70, 71, 72, 73] (by decide +kernel) (by decide +kernel)
set_option maxRecDepth 20000 in
theorem gX4_sheet_X2_minute : GoodIn wsX4_sheet (wsV RX4 104 RX2 yX2_minute wsX2_minute) := goodIn_app (goodIn_of _ (by decide +kernel)) ggX4_sheet_X2_minute
set_option maxRecDepth 20000 in
theorem ggX4_sheet_X3_age : GoodIn wsX4_sheet wsX3_age := goodIn_r _ [43, 44, 74, 75, 76] (by decide +kernel) (by decide +kernel)
set_option maxRecDepth 20000 in
theorem gX4_sheet_X3_age : GoodIn wsX4_sheet (wsV RX4 107 RX3 yX3_age wsX3_age) := goodIn_app (goodIn_of _ (by decide +kernel)) ggX4_sheet_X3_age
set_option maxRecDepth 20000 in
theorem ggX4_sheet_X3_passesTold : GoodIn wsX4_sheet wsX3_passesTold := goodIn_r _ [48, 49, 50, 51, 52, 32, 53, 74, 75, 76] (by decide +kernel) (by decide +kernel)
set_option maxRecDepth 20000 in
theorem gX4_sheet_X3_passesTold : GoodIn wsX4_sheet (wsV RX4 110 RX3 yX3_passesTold wsX3_passesTold) := goodIn_app (goodIn_of _ (by decide +kernel)) ggX4_sheet_X3_passesTold
theorem dX4_sheet_0 : decode cX4_sheet 0 = .ok (.aload_n 0, 1) := by decide +kernel
theorem dX4_sheet_1 : decode cX4_sheet 1 = .ok (.iload_n 1, 1) := by decide +kernel
theorem dX4_sheet_2 : decode cX4_sheet 2 = .ok (.invokevirtual 59, 3) := by decide +kernel
theorem dX4_sheet_5 : decode cX4_sheet 5 = .ok (.aload_n 0, 1) := by decide +kernel
theorem dX4_sheet_6 : decode cX4_sheet 6 = .ok (.iload_n 2, 1) := by decide +kernel
theorem dX4_sheet_7 : decode cX4_sheet 7 = .ok (.invokevirtual 59, 3) := by decide +kernel
theorem dX4_sheet_10 : decode cX4_sheet 10 = .ok (.aload_n 0, 1) := by decide +kernel
theorem dX4_sheet_11 : decode cX4_sheet 11 = .ok (.iload_n 3, 1) := by decide +kernel
theorem dX4_sheet_12 : decode cX4_sheet 12 = .ok (.iconst 2, 1) := by decide +kernel
theorem dX4_sheet_13 : decode cX4_sheet 13 = .ok (.invokevirtual 91, 3) := by decide +kernel
theorem dX4_sheet_16 : decode cX4_sheet 16 = .ok (.aload_n 0, 1) := by decide +kernel
theorem dX4_sheet_17 : decode cX4_sheet 17 = .ok (.getfield 21, 3) := by decide +kernel
theorem dX4_sheet_20 : decode cX4_sheet 20 = .ok (.iload_n 1, 1) := by decide +kernel
theorem dX4_sheet_21 : decode cX4_sheet 21 = .ok (.iload_n 2, 1) := by decide +kernel
theorem dX4_sheet_22 : decode cX4_sheet 22 = .ok (.invokevirtual 95, 3) := by decide +kernel
theorem dX4_sheet_25 : decode cX4_sheet 25 = .ok (.astore 4, 2) := by decide +kernel
theorem dX4_sheet_27 : decode cX4_sheet 27 = .ok (.aload 4, 2) := by decide +kernel
theorem dX4_sheet_29 : decode cX4_sheet 29 = .ok (.ifnonnull 5, 3) := by decide +kernel
theorem dX4_sheet_32 : decode cX4_sheet 32 = .ok (.iconst (-1), 1) := by decide +kernel
theorem dX4_sheet_33 : decode cX4_sheet 33 = .ok (.ireturn, 1) := by decide +kernel
theorem dX4_sheet_34 : decode cX4_sheet 34 = .ok (.iload_n 3, 1) := by decide +kernel
theorem dX4_sheet_35 : decode cX4_sheet 35 = .ok (.lookupswitch 44 #[(0, 25), (1, 31)], 25) := by decide +kernel
theorem dX4_sheet_60 : decode cX4_sheet 60 = .ok (.aload 4, 2) := by decide +kernel
theorem dX4_sheet_62 : decode cX4_sheet 62 = .ok (.invokevirtual 99, 3) := by decide +kernel
theorem dX4_sheet_65 : decode cX4_sheet 65 = .ok (.ireturn, 1) := by decide +kernel
theorem dX4_sheet_66 : decode cX4_sheet 66 = .ok (.aload 4, 2) := by decide +kernel
theorem dX4_sheet_68 : decode cX4_sheet 68 = .ok (.aload_n 0, 1) := by decide +kernel
theorem dX4_sheet_69 : decode cX4_sheet 69 = .ok (.getfield 21, 3) := by decide +kernel
theorem dX4_sheet_72 : decode cX4_sheet 72 = .ok (.invokevirtual 104, 3) := by decide +kernel
theorem dX4_sheet_75 : decode cX4_sheet 75 = .ok (.invokevirtual 107, 3) := by decide +kernel
theorem dX4_sheet_78 : decode cX4_sheet 78 = .ok (.ireturn, 1) := by decide +kernel
theorem dX4_sheet_79 : decode cX4_sheet 79 = .ok (.aload 4, 2) := by decide +kernel
theorem dX4_sheet_81 : decode cX4_sheet 81 = .ok (.invokevirtual 110, 3) := by decide +kernel
theorem dX4_sheet_84 : decode cX4_sheet 84 = .ok (.ireturn, 1) := by decide +kernel
set_option maxRecDepth 20000 in
theorem ggX4_way_X4_checkHut : GoodIn wsX4_way wsX4_checkHut := goodIn_ca (goodIn_r _ [7, 8, 9, 10, 11, 12, 13, 14, 15, 16, 81, 82, 83, 84, 85, 86, 87, 88, 89, 90, 91, 92] (by decide +kernel) (by decide +kernel)) (goodIn_sub (fun _ h => List.mem_cons_of_mem _ (List.mem_append_right _ h)) (by decide +kernel))
set_option maxRecDepth 20000 in
theorem gX4_way_X4_checkHut : GoodIn wsX4_way (wsV RX4 59 RX4 yX4_checkHut wsX4_checkHut) := goodIn_app (goodIn_of _ (by decide +kernel)) ggX4_way_X4_checkHut
set_option maxRecDepth 20000 in
theorem ggX4_way_X4_checkWhat : GoodIn wsX4_way wsX4_checkWhat := goodIn_ca (goodIn_r _ [20, 8, 9] (by decide +kernel) (by decide +kernel)) (goodIn_sub (fun _ h => List.mem_cons_of_mem _ (List.mem_append_right _ h)) (by decide +kernel))
set_option maxRecDepth 20000 in
theorem gX4_way_X4_checkWhat : GoodIn wsX4_way (wsV RX4 91 RX4 yX4_checkWhat wsX4_checkWhat) := goodIn_app (goodIn_of _ (by decide +kernel)) ggX4_way_X4_checkWhat
set_option maxRecDepth 20000 in
theorem ggX4_way_X2_knownWay : GoodIn wsX4_way wsX2_knownWay := goodIn_r _ [25, 26, 27, 28, 29, 30, 24, 31, 32, 33, 34, 35, 36, 37, 38, 39, 40, 41, 42, 43, 14, 44, 45, 46, 47, 48, 49, 50, 51, 52, 53, 54, 55, 56, 57, 58, 59, 60, 61, 62, 63, 64, 65, 66, 67, 68, 69, 70, 71, 72, 73, 74, 75, 76, 77, 78, 79, 80, 93, 94, 95, 96, 97, 98, 99, 100, 101, 102, 103, 104, 86, 87, 88, 89, 90, 91, 92, 105, 106, 107] (by decide +kernel) (by decide +kernel)
set_option maxRecDepth 20000 in
theorem gX4_way_X2_knownWay : GoodIn wsX4_way (wsV RX4 113 RX2 yX2_knownWay wsX2_knownWay) := goodIn_app (goodIn_of _ (by decide +kernel)) ggX4_way_X2_knownWay
theorem dX4_way_0 : decode cX4_way 0 = .ok (.aload_n 0, 1) := by decide +kernel
theorem dX4_way_1 : decode cX4_way 1 = .ok (.iload_n 1, 1) := by decide +kernel
theorem dX4_way_2 : decode cX4_way 2 = .ok (.invokevirtual 59, 3) := by decide +kernel
theorem dX4_way_5 : decode cX4_way 5 = .ok (.aload_n 0, 1) := by decide +kernel
theorem dX4_way_6 : decode cX4_way 6 = .ok (.iload_n 2, 1) := by decide +kernel
theorem dX4_way_7 : decode cX4_way 7 = .ok (.invokevirtual 59, 3) := by decide +kernel
theorem dX4_way_10 : decode cX4_way 10 = .ok (.aload_n 0, 1) := by decide +kernel
theorem dX4_way_11 : decode cX4_way 11 = .ok (.iload_n 3, 1) := by decide +kernel
theorem dX4_way_12 : decode cX4_way 12 = .ok (.iconst 2, 1) := by decide +kernel
theorem dX4_way_13 : decode cX4_way 13 = .ok (.invokevirtual 91, 3) := by decide +kernel
theorem dX4_way_16 : decode cX4_way 16 = .ok (.aload_n 0, 1) := by decide +kernel
theorem dX4_way_17 : decode cX4_way 17 = .ok (.getfield 21, 3) := by decide +kernel
theorem dX4_way_20 : decode cX4_way 20 = .ok (.iload_n 1, 1) := by decide +kernel
theorem dX4_way_21 : decode cX4_way 21 = .ok (.iload_n 2, 1) := by decide +kernel
theorem dX4_way_22 : decode cX4_way 22 = .ok (.invokevirtual 113, 3) := by decide +kernel
theorem dX4_way_25 : decode cX4_way 25 = .ok (.istore 4, 2) := by decide +kernel
theorem dX4_way_27 : decode cX4_way 27 = .ok (.iload 4, 2) := by decide +kernel
theorem dX4_way_29 : decode cX4_way 29 = .ok (.ldc 116, 2) := by decide +kernel
theorem dX4_way_31 : decode cX4_way 31 = .ok (.if_icmp .ne 5, 3) := by decide +kernel
theorem dX4_way_34 : decode cX4_way 34 = .ok (.iconst (-1), 1) := by decide +kernel
theorem dX4_way_35 : decode cX4_way 35 = .ok (.ireturn, 1) := by decide +kernel
theorem dX4_way_36 : decode cX4_way 36 = .ok (.iload_n 3, 1) := by decide +kernel
theorem dX4_way_37 : decode cX4_way 37 = .ok (.lookupswitch 44 #[(0, 27), (1, 34)], 27) := by decide +kernel
theorem dX4_way_64 : decode cX4_way 64 = .ok (.iload 4, 2) := by decide +kernel
theorem dX4_way_66 : decode cX4_way 66 = .ok (.sipush 256, 3) := by decide +kernel
theorem dX4_way_69 : decode cX4_way 69 = .ok (.idiv, 1) := by decide +kernel
theorem dX4_way_70 : decode cX4_way 70 = .ok (.ireturn, 1) := by decide +kernel
theorem dX4_way_71 : decode cX4_way 71 = .ok (.iload 4, 2) := by decide +kernel
theorem dX4_way_73 : decode cX4_way 73 = .ok (.sipush 256, 3) := by decide +kernel
theorem dX4_way_76 : decode cX4_way 76 = .ok (.irem, 1) := by decide +kernel
theorem dX4_way_77 : decode cX4_way 77 = .ok (.bipush 16, 2) := by decide +kernel
theorem dX4_way_79 : decode cX4_way 79 = .ok (.idiv, 1) := by decide +kernel
theorem dX4_way_80 : decode cX4_way 80 = .ok (.ireturn, 1) := by decide +kernel
theorem dX4_way_81 : decode cX4_way 81 = .ok (.iload 4, 2) := by decide +kernel
theorem dX4_way_83 : decode cX4_way 83 = .ok (.bipush 16, 2) := by decide +kernel
theorem dX4_way_85 : decode cX4_way 85 = .ok (.irem, 1) := by decide +kernel
theorem dX4_way_86 : decode cX4_way 86 = .ok (.ireturn, 1) := by decide +kernel
set_option maxRecDepth 20000 in
theorem ggX4_post_X4_checkHut : GoodIn wsX4_post wsX4_checkHut := goodIn_ca (goodIn_r _ [6, 7, 8, 9, 10, 11, 12, 13, 14, 15, 86, 87, 88, 89, 90, 91, 92, 93, 94, 95, 96, 97] (by decide +kernel) (by decide +kernel)) (goodIn_sub (fun _ h => List.mem_cons_of_mem _ (List.mem_append_right _ h)) (by decide +kernel))
set_option maxRecDepth 20000 in
theorem gX4_post_X4_checkHut : GoodIn wsX4_post (wsV RX4 59 RX4 yX4_checkHut wsX4_checkHut) := goodIn_app (goodIn_of _ (by decide +kernel)) ggX4_post_X4_checkHut
set_option maxRecDepth 20000 in
theorem ggX4_post_X2_letter : GoodIn wsX4_post wsX2_letter := goodIn_r _ [20, 21, 22, 23, 24, 25, 19, 26, 27, 28, 29, 30, 31, 32, 33, 34, 35, 36, 37, 38, 39, 40, 41, 42, 43, 13, 44, 45, 46, 47, 48, 49, 50, 51, 52, 53, 54, 55, 56, 57, 58, 59, 60, 61, 62, 63, 64, 65, 66, 67, 68, 69, 70, 71, 72, 73, 74, 75, 76, 77, 78, 79, 80, 81, 82, 83, 84, 85, 98, 99, 100, 101, 102, 103, 104, 105, 106, 107, 108, 109, 91, 92, 93, 94, 95, 96, 97, 110, 111, 112] (by decide +kernel) (by decide +kernel)
set_option maxRecDepth 20000 in
theorem gX4_post_X2_letter : GoodIn wsX4_post (wsV RX4 117 RX2 yX2_letter wsX2_letter) := goodIn_app (goodIn_of _ (by decide +kernel)) ggX4_post_X2_letter
theorem dX4_post_0 : decode cX4_post 0 = .ok (.aload_n 0, 1) := by decide +kernel
theorem dX4_post_1 : decode cX4_post 1 = .ok (.iload_n 1, 1) := by decide +kernel
theorem dX4_post_2 : decode cX4_post 2 = .ok (.invokevirtual 59, 3) := by decide +kernel
theorem dX4_post_5 : decode cX4_post 5 = .ok (.aload_n 0, 1) := by decide +kernel
theorem dX4_post_6 : decode cX4_post 6 = .ok (.iload_n 2, 1) := by decide +kernel
theorem dX4_post_7 : decode cX4_post 7 = .ok (.invokevirtual 59, 3) := by decide +kernel
theorem dX4_post_10 : decode cX4_post 10 = .ok (.aload_n 0, 1) := by decide +kernel
theorem dX4_post_11 : decode cX4_post 11 = .ok (.getfield 21, 3) := by decide +kernel
theorem dX4_post_14 : decode cX4_post 14 = .ok (.iload_n 1, 1) := by decide +kernel
theorem dX4_post_15 : decode cX4_post 15 = .ok (.iload_n 2, 1) := by decide +kernel
theorem dX4_post_16 : decode cX4_post 16 = .ok (.invokevirtual 117, 3) := by decide +kernel
theorem dX4_post_19 : decode cX4_post 19 = .ok (.ireturn, 1) := by decide +kernel
set_option maxRecDepth 20000 in
theorem ggX4_truth_X4_checkHut : GoodIn wsX4_truth wsX4_checkHut := goodIn_ca (goodIn_r _ [9, 10, 11, 1, 12, 13, 14, 15, 16, 17, 45, 46, 47, 48, 49, 50, 51, 52, 53, 54, 55, 56] (by decide +kernel) (by decide +kernel)) (goodIn_sub (fun _ h => List.mem_cons_of_mem _ (List.mem_append_right _ h)) (by decide +kernel))
set_option maxRecDepth 20000 in
theorem gX4_truth_X4_checkHut : GoodIn wsX4_truth (wsV RX4 59 RX4 yX4_checkHut wsX4_checkHut) := goodIn_app (goodIn_of _ (by decide +kernel)) ggX4_truth_X4_checkHut
set_option maxRecDepth 20000 in
theorem ggX4_truth_X1_draw : GoodIn wsX4_truth wsX1_draw := goodIn_r _ [21, 22, 23, 24, 25, 26, 27, 28, 29, 30, 31, 32, 33, 34, 35, 36, 37, 38, 39, 50, 51, 52, 53, 54, 55, 56, 57, 58, 59, 60] (by decide +kernel) (by decide +kernel)
set_option maxRecDepth 20000 in
theorem gX4_truth_X1_draw : GoodIn wsX4_truth (wsV RX4 120 RX1 yX1_draw wsX1_draw) := goodIn_app (goodIn_of _ (by decide +kernel)) ggX4_truth_X1_draw
set_option maxRecDepth 20000 in
theorem ggX4_truth_X0_search : GoodIn wsX4_truth wsX0_search := goodIn_r _ [43, 44, 32, 37, 39, 38, 57, 58, 59, 60] (by decide +kernel) (by decide +kernel)
set_option maxRecDepth 20000 in
theorem gX4_truth_X0_search : GoodIn wsX4_truth (wsV RX4 124 RX0 yX0_search wsX0_search) := goodIn_app (goodIn_of _ (by decide +kernel)) ggX4_truth_X0_search
theorem dX4_truth_0 : decode cX4_truth 0 = .ok (.aload_n 0, 1) := by decide +kernel
theorem dX4_truth_1 : decode cX4_truth 1 = .ok (.iload_n 1, 1) := by decide +kernel
theorem dX4_truth_2 : decode cX4_truth 2 = .ok (.invokevirtual 59, 3) := by decide +kernel
theorem dX4_truth_5 : decode cX4_truth 5 = .ok (.aload_n 0, 1) := by decide +kernel
theorem dX4_truth_6 : decode cX4_truth 6 = .ok (.iload_n 2, 1) := by decide +kernel
theorem dX4_truth_7 : decode cX4_truth 7 = .ok (.invokevirtual 59, 3) := by decide +kernel
theorem dX4_truth_10 : decode cX4_truth 10 = .ok (.aload_n 0, 1) := by decide +kernel
theorem dX4_truth_11 : decode cX4_truth 11 = .ok (.getfield 10, 3) := by decide +kernel
theorem dX4_truth_14 : decode cX4_truth 14 = .ok (.aload_n 0, 1) := by decide +kernel
theorem dX4_truth_15 : decode cX4_truth 15 = .ok (.getfield 31, 3) := by decide +kernel
theorem dX4_truth_18 : decode cX4_truth 18 = .ok (.invokevirtual 120, 3) := by decide +kernel
theorem dX4_truth_21 : decode cX4_truth 21 = .ok (.aload_n 0, 1) := by decide +kernel
theorem dX4_truth_22 : decode cX4_truth 22 = .ok (.getfield 31, 3) := by decide +kernel
theorem dX4_truth_25 : decode cX4_truth 25 = .ok (.iload_n 1, 1) := by decide +kernel
theorem dX4_truth_26 : decode cX4_truth 26 = .ok (.aload_n 0, 1) := by decide +kernel
theorem dX4_truth_27 : decode cX4_truth 27 = .ok (.getfield 35, 3) := by decide +kernel
theorem dX4_truth_30 : decode cX4_truth 30 = .ok (.invokevirtual 124, 3) := by decide +kernel
theorem dX4_truth_33 : decode cX4_truth 33 = .ok (.aload_n 0, 1) := by decide +kernel
theorem dX4_truth_34 : decode cX4_truth 34 = .ok (.getfield 35, 3) := by decide +kernel
theorem dX4_truth_37 : decode cX4_truth 37 = .ok (.iload_n 2, 1) := by decide +kernel
theorem dX4_truth_38 : decode cX4_truth 38 = .ok (.iaload, 1) := by decide +kernel
theorem dX4_truth_39 : decode cX4_truth 39 = .ok (.istore_n 3, 1) := by decide +kernel
theorem dX4_truth_40 : decode cX4_truth 40 = .ok (.iload_n 3, 1) := by decide +kernel
theorem dX4_truth_41 : decode cX4_truth 41 = .ok (.ldc 116, 2) := by decide +kernel
theorem dX4_truth_43 : decode cX4_truth 43 = .ok (.if_icmp .ne 7, 3) := by decide +kernel
theorem dX4_truth_46 : decode cX4_truth 46 = .ok (.iconst (-1), 1) := by decide +kernel
theorem dX4_truth_47 : decode cX4_truth 47 = .ok (.goto 8, 3) := by decide +kernel
theorem dX4_truth_50 : decode cX4_truth 50 = .ok (.iload_n 3, 1) := by decide +kernel
theorem dX4_truth_51 : decode cX4_truth 51 = .ok (.sipush 256, 3) := by decide +kernel
theorem dX4_truth_54 : decode cX4_truth 54 = .ok (.idiv, 1) := by decide +kernel
theorem dX4_truth_55 : decode cX4_truth 55 = .ok (.ireturn, 1) := by decide +kernel
set_option maxRecDepth 20000 in
theorem ggX4_about_X4_checkPass : GoodIn wsX4_about wsX4_checkPass := goodIn_ca (goodIn_r _ [9, 1, 2, 3, 10, 11, 12, 13, 14, 15, 63, 64, 65, 66, 67, 68, 69, 70, 71, 72, 73, 74] (by decide +kernel) (by decide +kernel)) (goodIn_sub (fun _ h => List.mem_cons_of_mem _ (List.mem_append_right _ h)) (by decide +kernel))
set_option maxRecDepth 20000 in
theorem gX4_about_X4_checkPass : GoodIn wsX4_about (wsV RX4 77 RX4 yX4_checkPass wsX4_checkPass) := goodIn_app (goodIn_of _ (by decide +kernel)) ggX4_about_X4_checkPass
set_option maxRecDepth 20000 in
theorem ggX4_about_X1_first : GoodIn wsX4_about wsX1_first := goodIn_r _ [19, 20, 68, 69, 70, 71, 72, 73, 74] (by decide +kernel) (by decide +kernel)
set_option maxRecDepth 20000 in
theorem gX4_about_X1_first : GoodIn wsX4_about (wsV RX4 128 RX1 yX1_first wsX1_first) := goodIn_app (goodIn_of _ (by decide +kernel)) ggX4_about_X1_first
set_option maxRecDepth 20000 in
theorem ggX4_about_X1_second : GoodIn wsX4_about wsX1_second := goodIn_r _ [24, 25, 68, 69, 70, 71, 72, 73, 74] (by decide +kernel) (by decide +kernel)
set_option maxRecDepth 20000 in
theorem gX4_about_X1_second : GoodIn wsX4_about (wsV RX4 131 RX1 yX1_second wsX1_second) := goodIn_app (goodIn_of _ (by decide +kernel)) ggX4_about_X1_second
set_option maxRecDepth 20000 in
theorem ggX4_about_X1_length : GoodIn wsX4_about wsX1_length := goodIn_r _ [29, 30, 68, 69, 70, 71, 72, 73, 74] (by decide +kernel) (by decide +kernel)
set_option maxRecDepth 20000 in
theorem gX4_about_X1_length : GoodIn wsX4_about (wsV RX4 134 RX1 yX1_length wsX1_length) := goodIn_app (goodIn_of _ (by decide +kernel)) ggX4_about_X1_length
set_option maxRecDepth 20000 in
theorem ggX4_about_X1_isOpen : GoodIn wsX4_about wsX1_isOpen := goodIn_r _ [34, 35, 68, 69, 70, 71, 72, 73, 74] (by decide +kernel) (by decide +kernel)
set_option maxRecDepth 20000 in
theorem gX4_about_X1_isOpen : GoodIn wsX4_about (wsV RX4 137 RX1 yX1_isOpen wsX1_isOpen) := goodIn_app (goodIn_of _ (by decide +kernel)) ggX4_about_X1_isOpen
set_option maxRecDepth 20000 in
theorem ggX4_about_X2_takersForOpen : GoodIn wsX4_about wsX2_takersForOpen := goodIn_r _ [40, 41, 42, 43, 44, 13, 45, 46, 47, 48, 49, 39, 50, 51, 52, 17, 18, 19, 20, 53, 54, 55, 56, 22, 23, 24, 25, 57, 58, 59, 60, 61, 62, 75, 76, 77, 78, 79, 80, 81, 82, 68, 69, 70, 71, 72, 73, 74, 83, 84, 85] (by decide +kernel) (by decide +kernel)
set_option maxRecDepth 20000 in
theorem gX4_about_X2_takersForOpen : GoodIn wsX4_about (wsV RX4 141 RX2 yX2_takersForOpen wsX2_takersForOpen) := goodIn_app (goodIn_of _ (by decide +kernel)) ggX4_about_X2_takersForOpen
theorem dX4_about_0 : decode cX4_about 0 = .ok (.aload_n 0, 1) := by decide +kernel
theorem dX4_about_1 : decode cX4_about 1 = .ok (.iload_n 1, 1) := by decide +kernel
theorem dX4_about_2 : decode cX4_about 2 = .ok (.invokevirtual 77, 3) := by decide +kernel
theorem dX4_about_5 : decode cX4_about 5 = .ok (.iload_n 2, 1) := by decide +kernel
theorem dX4_about_6 : decode cX4_about 6 = .ok (.tableswitch 87 0 4 #[34, 43, 52, 61, 78], 34) := by decide +kernel
theorem dX4_about_40 : decode cX4_about 40 = .ok (.aload_n 0, 1) := by decide +kernel
theorem dX4_about_41 : decode cX4_about 41 = .ok (.getfield 10, 3) := by decide +kernel
theorem dX4_about_44 : decode cX4_about 44 = .ok (.iload_n 1, 1) := by decide +kernel
theorem dX4_about_45 : decode cX4_about 45 = .ok (.invokevirtual 128, 3) := by decide +kernel
theorem dX4_about_48 : decode cX4_about 48 = .ok (.ireturn, 1) := by decide +kernel
theorem dX4_about_49 : decode cX4_about 49 = .ok (.aload_n 0, 1) := by decide +kernel
theorem dX4_about_50 : decode cX4_about 50 = .ok (.getfield 10, 3) := by decide +kernel
theorem dX4_about_53 : decode cX4_about 53 = .ok (.iload_n 1, 1) := by decide +kernel
theorem dX4_about_54 : decode cX4_about 54 = .ok (.invokevirtual 131, 3) := by decide +kernel
theorem dX4_about_57 : decode cX4_about 57 = .ok (.ireturn, 1) := by decide +kernel
theorem dX4_about_58 : decode cX4_about 58 = .ok (.aload_n 0, 1) := by decide +kernel
theorem dX4_about_59 : decode cX4_about 59 = .ok (.getfield 10, 3) := by decide +kernel
theorem dX4_about_62 : decode cX4_about 62 = .ok (.iload_n 1, 1) := by decide +kernel
theorem dX4_about_63 : decode cX4_about 63 = .ok (.invokevirtual 134, 3) := by decide +kernel
theorem dX4_about_66 : decode cX4_about 66 = .ok (.ireturn, 1) := by decide +kernel
theorem dX4_about_67 : decode cX4_about 67 = .ok (.aload_n 0, 1) := by decide +kernel
theorem dX4_about_68 : decode cX4_about 68 = .ok (.getfield 10, 3) := by decide +kernel
theorem dX4_about_71 : decode cX4_about 71 = .ok (.iload_n 1, 1) := by decide +kernel
theorem dX4_about_72 : decode cX4_about 72 = .ok (.invokevirtual 137, 3) := by decide +kernel
theorem dX4_about_75 : decode cX4_about 75 = .ok (.ifCond .eq 7, 3) := by decide +kernel
theorem dX4_about_78 : decode cX4_about 78 = .ok (.iconst 1, 1) := by decide +kernel
theorem dX4_about_79 : decode cX4_about 79 = .ok (.goto 4, 3) := by decide +kernel
theorem dX4_about_82 : decode cX4_about 82 = .ok (.iconst 0, 1) := by decide +kernel
theorem dX4_about_83 : decode cX4_about 83 = .ok (.ireturn, 1) := by decide +kernel
theorem dX4_about_84 : decode cX4_about 84 = .ok (.aload_n 0, 1) := by decide +kernel
theorem dX4_about_85 : decode cX4_about 85 = .ok (.getfield 21, 3) := by decide +kernel
theorem dX4_about_88 : decode cX4_about 88 = .ok (.iload_n 1, 1) := by decide +kernel
theorem dX4_about_89 : decode cX4_about 89 = .ok (.invokevirtual 141, 3) := by decide +kernel
theorem dX4_about_92 : decode cX4_about 92 = .ok (.ireturn, 1) := by decide +kernel
theorem dX4_about_93 : decode cX4_about 93 = .ok (.new 144, 3) := by decide +kernel
theorem dX4_about_96 : decode cX4_about 96 = .ok (.dup, 1) := by decide +kernel
theorem dX4_about_97 : decode cX4_about 97 = .ok (.ldc 146, 2) := by decide +kernel
theorem dX4_about_99 : decode cX4_about 99 = .ok (.invokespecial 148, 3) := by decide +kernel
theorem dX4_about_102 : decode cX4_about 102 = .ok (.athrow, 1) := by decide +kernel
set_option maxRecDepth 20000 in
theorem ggX4_told_X4_checkHut : GoodIn wsX4_told wsX4_checkHut := goodIn_ca (goodIn_r _ [9, 1, 2, 3, 10, 11, 12, 13, 14, 15, 109, 110, 111, 112, 113, 114, 115, 116, 117, 118, 119, 120] (by decide +kernel) (by decide +kernel)) (goodIn_sub (fun _ h => List.mem_cons_of_mem _ (List.mem_append_right _ h)) (by decide +kernel))
set_option maxRecDepth 20000 in
theorem gX4_told_X4_checkHut : GoodIn wsX4_told (wsV RX4 59 RX4 yX4_checkHut wsX4_checkHut) := goodIn_app (goodIn_of _ (by decide +kernel)) ggX4_told_X4_checkHut
set_option maxRecDepth 20000 in
theorem ggX4_told_X1_area : GoodIn wsX4_told wsX1_area := goodIn_r _ [19, 20, 114, 115, 116, 117, 118, 119, 120] (by decide +kernel) (by decide +kernel)
set_option maxRecDepth 20000 in
theorem gX4_told_X1_area : GoodIn wsX4_told (wsV RX4 149 RX1 yX1_area wsX1_area) := goodIn_app (goodIn_of _ (by decide +kernel)) ggX4_told_X1_area
set_option maxRecDepth 20000 in
theorem ggX4_told_X2_sheetsOf : GoodIn wsX4_told wsX2_sheetsOf := goodIn_r _ [25, 26, 27, 28, 24, 29, 121, 122, 123, 124, 125, 126, 127, 128] (by decide +kernel) (by decide +kernel)
set_option maxRecDepth 20000 in
theorem gX4_told_X2_sheetsOf : GoodIn wsX4_told (wsV RX4 152 RX2 yX2_sheetsOf wsX2_sheetsOf) := goodIn_app (goodIn_of _ (by decide +kernel)) ggX4_told_X2_sheetsOf
set_option maxRecDepth 20000 in
theorem ggX4_told_X2_wroteInAll : GoodIn wsX4_told wsX2_wroteInAll := goodIn_r _ [33, 34, 121, 122, 123, 124, 125, 126, 127, 128] (by decide +kernel) (by decide +kernel)
set_option maxRecDepth 20000 in
theorem gX4_told_X2_wroteInAll : GoodIn wsX4_told (wsV RX4 155 RX2 yX2_wroteInAll wsX2_wroteInAll) := goodIn_app (goodIn_of _ (by decide +kernel)) ggX4_told_X2_wroteInAll
set_option maxRecDepth 20000 in
theorem ggX4_told_X2_knownHuts : GoodIn wsX4_told wsX2_knownHuts := goodIn_r _ [38, 39, 40, 41, 11, 12, 13, 14, 15, 42, 43, 44, 24, 45, 46, 47, 48, 49, 50, 51, 52, 26, 53, 54, 55, 56, 57, 58, 59, 60, 61, 62, 63, 64, 65, 66, 67, 68, 69, 70, 71, 72, 73, 27, 28, 29, 74, 75, 76, 77, 78, 79, 80, 81, 82, 83, 84, 85, 86, 87, 88, 89, 90, 91, 92, 93, 94, 95, 121, 122, 123, 124, 125, 126, 127, 128, 114, 115, 116, 117, 118, 119, 120, 129, 130, 131, 132, 133, 134, 135] (by decide +kernel) (by decide +kernel)
set_option maxRecDepth 20000 in
theorem gX4_told_X2_knownHuts : GoodIn wsX4_told (wsV RX4 158 RX2 yX2_knownHuts wsX2_knownHuts) := goodIn_app (goodIn_of _ (by decide +kernel)) ggX4_told_X2_knownHuts
set_option maxRecDepth 20000 in
theorem ggX4_told_X2_reachedHuts : GoodIn wsX4_told wsX2_reachedHuts := goodIn_r _ [99, 39, 41, 11, 12, 13, 14, 15, 100, 101, 102, 24, 103, 40, 42, 43, 44, 45, 46, 47, 48, 49, 50, 51, 52, 26, 53, 54, 55, 56, 57, 58, 59, 60, 61, 62, 63, 64, 65, 66, 67, 68, 69, 70, 71, 72, 73, 27, 28, 29, 74, 75, 76, 77, 78, 79, 80, 81, 82, 83, 84, 85, 86, 87, 88, 89, 90, 91, 92, 93, 94, 95, 104, 105, 106, 107, 108, 121, 122, 123, 124, 125, 126, 127, 128, 114, 115, 116, 117, 118, 119, 120, 129, 130, 131, 132, 133, 134, 135] (by decide +kernel) (by decide +kernel)
set_option maxRecDepth 20000 in
theorem gX4_told_X2_reachedHuts : GoodIn wsX4_told (wsV RX4 161 RX2 yX2_reachedHuts wsX2_reachedHuts) := goodIn_app (goodIn_of _ (by decide +kernel)) ggX4_told_X2_reachedHuts
theorem dX4_told_0 : decode cX4_told 0 = .ok (.aload_n 0, 1) := by decide +kernel
theorem dX4_told_1 : decode cX4_told 1 = .ok (.iload_n 1, 1) := by decide +kernel
theorem dX4_told_2 : decode cX4_told 2 = .ok (.invokevirtual 59, 3) := by decide +kernel
theorem dX4_told_5 : decode cX4_told 5 = .ok (.iload_n 2, 1) := by decide +kernel
theorem dX4_told_6 : decode cX4_told 6 = .ok (.tableswitch 79 0 4 #[34, 43, 52, 61, 70], 34) := by decide +kernel
theorem dX4_told_40 : decode cX4_told 40 = .ok (.aload_n 0, 1) := by decide +kernel
theorem dX4_told_41 : decode cX4_told 41 = .ok (.getfield 10, 3) := by decide +kernel
theorem dX4_told_44 : decode cX4_told 44 = .ok (.iload_n 1, 1) := by decide +kernel
theorem dX4_told_45 : decode cX4_told 45 = .ok (.invokevirtual 149, 3) := by decide +kernel
theorem dX4_told_48 : decode cX4_told 48 = .ok (.ireturn, 1) := by decide +kernel
theorem dX4_told_49 : decode cX4_told 49 = .ok (.aload_n 0, 1) := by decide +kernel
theorem dX4_told_50 : decode cX4_told 50 = .ok (.getfield 21, 3) := by decide +kernel
theorem dX4_told_53 : decode cX4_told 53 = .ok (.iload_n 1, 1) := by decide +kernel
theorem dX4_told_54 : decode cX4_told 54 = .ok (.invokevirtual 152, 3) := by decide +kernel
theorem dX4_told_57 : decode cX4_told 57 = .ok (.ireturn, 1) := by decide +kernel
theorem dX4_told_58 : decode cX4_told 58 = .ok (.aload_n 0, 1) := by decide +kernel
theorem dX4_told_59 : decode cX4_told 59 = .ok (.getfield 21, 3) := by decide +kernel
theorem dX4_told_62 : decode cX4_told 62 = .ok (.iload_n 1, 1) := by decide +kernel
theorem dX4_told_63 : decode cX4_told 63 = .ok (.invokevirtual 155, 3) := by decide +kernel
theorem dX4_told_66 : decode cX4_told 66 = .ok (.ireturn, 1) := by decide +kernel
theorem dX4_told_67 : decode cX4_told 67 = .ok (.aload_n 0, 1) := by decide +kernel
theorem dX4_told_68 : decode cX4_told 68 = .ok (.getfield 21, 3) := by decide +kernel
theorem dX4_told_71 : decode cX4_told 71 = .ok (.iload_n 1, 1) := by decide +kernel
theorem dX4_told_72 : decode cX4_told 72 = .ok (.invokevirtual 158, 3) := by decide +kernel
theorem dX4_told_75 : decode cX4_told 75 = .ok (.ireturn, 1) := by decide +kernel
theorem dX4_told_76 : decode cX4_told 76 = .ok (.aload_n 0, 1) := by decide +kernel
theorem dX4_told_77 : decode cX4_told 77 = .ok (.getfield 21, 3) := by decide +kernel
theorem dX4_told_80 : decode cX4_told 80 = .ok (.iload_n 1, 1) := by decide +kernel
theorem dX4_told_81 : decode cX4_told 81 = .ok (.invokevirtual 161, 3) := by decide +kernel
theorem dX4_told_84 : decode cX4_told 84 = .ok (.ireturn, 1) := by decide +kernel
theorem dX4_told_85 : decode cX4_told 85 = .ok (.new 144, 3) := by decide +kernel
theorem dX4_told_88 : decode cX4_told 88 = .ok (.dup, 1) := by decide +kernel
theorem dX4_told_89 : decode cX4_told 89 = .ok (.ldc 146, 2) := by decide +kernel
theorem dX4_told_91 : decode cX4_told 91 = .ok (.invokespecial 148, 3) := by decide +kernel
theorem dX4_told_94 : decode cX4_told 94 = .ok (.athrow, 1) := by decide +kernel
set_option maxRecDepth 20000 in
theorem ggX4_count_X2_minute : GoodIn wsX4_count wsX2_minute := goodIn_r _ [9, 10, 124, 125, 126, 127, 128, 129, 130, 131] (by decide +kernel) (by decide +kernel)
set_option maxRecDepth 20000 in
theorem gX4_count_X2_minute : GoodIn wsX4_count (wsV RX4 104 RX2 yX2_minute wsX2_minute) := goodIn_app (goodIn_of _ (by decide +kernel)) ggX4_count_X2_minute
set_option maxRecDepth 20000 in
theorem ggX4_count_X1_huts : GoodIn wsX4_count wsX1_huts := goodIn_r _ [15, 16, 132, 133, 134, 135, 136, 137, 138] (by decide +kernel) (by decide +kernel)
set_option maxRecDepth 20000 in
theorem gX4_count_X1_huts : GoodIn wsX4_count (wsV RX4 46 RX1 yX1_huts wsX1_huts) := goodIn_app (goodIn_of _ (by decide +kernel)) ggX4_count_X1_huts
set_option maxRecDepth 20000 in
theorem ggX4_count_X1_passes : GoodIn wsX4_count wsX1_passes := goodIn_r _ [20, 21, 132, 133, 134, 135, 136, 137, 138] (by decide +kernel) (by decide +kernel)
set_option maxRecDepth 20000 in
theorem gX4_count_X1_passes : GoodIn wsX4_count (wsV RX4 68 RX1 yX1_passes wsX1_passes) := goodIn_app (goodIn_of _ (by decide +kernel)) ggX4_count_X1_passes
set_option maxRecDepth 20000 in
theorem ggX4_count_X1_openPasses : GoodIn wsX4_count wsX1_openPasses := goodIn_r _ [25, 21, 26, 132, 133, 134, 135, 136, 137, 138] (by decide +kernel) (by decide +kernel)
set_option maxRecDepth 20000 in
theorem gX4_count_X1_openPasses : GoodIn wsX4_count (wsV RX4 164 RX1 yX1_openPasses wsX1_openPasses) := goodIn_app (goodIn_of _ (by decide +kernel)) ggX4_count_X1_openPasses
set_option maxRecDepth 20000 in
theorem ggX4_count_X2_sheets : GoodIn wsX4_count wsX2_sheets := goodIn_r _ [30, 31, 32, 12, 13, 14, 15, 16, 33, 34, 35, 8, 36, 37, 38, 39, 40, 124, 125, 126, 127, 128, 129, 130, 131, 132, 133, 134, 135, 136, 137, 138] (by decide +kernel) (by decide +kernel)
set_option maxRecDepth 20000 in
theorem gX4_count_X2_sheets : GoodIn wsX4_count (wsV RX4 167 RX2 yX2_sheets wsX2_sheets) := goodIn_app (goodIn_of _ (by decide +kernel)) ggX4_count_X2_sheets
set_option maxRecDepth 20000 in
theorem ggX4_count_X2_reachedPairs : GoodIn wsX4_count wsX2_reachedPairs := goodIn_r _ [44, 31, 32, 12, 13, 14, 15, 16, 45, 46, 47, 8, 48, 49, 50, 51, 52, 53, 54, 55, 56, 57, 58, 59, 60, 37, 61, 62, 63, 64, 65, 66, 67, 18, 19, 20, 21, 68, 69, 70, 71, 72, 73, 74, 75, 76, 77, 38, 39, 40, 78, 79, 80, 81, 82, 83, 84, 85, 86, 87, 88, 89, 90, 91, 92, 93, 94, 95, 96, 97, 98, 99, 100, 101, 102, 103, 26, 124, 125, 126, 127, 128, 129, 130, 131, 132, 133, 134, 135, 136, 137, 138, 139, 140, 141, 142, 143, 144, 145] (by decide +kernel) (by decide +kernel)
set_option maxRecDepth 20000 in
theorem gX4_count_X2_reachedPairs : GoodIn wsX4_count (wsV RX4 170 RX2 yX2_reachedPairs wsX2_reachedPairs) := goodIn_app (goodIn_of _ (by decide +kernel)) ggX4_count_X2_reachedPairs
set_option maxRecDepth 20000 in
theorem ggX4_count_X1_joinedPairs : GoodIn wsX4_count wsX1_joinedPairs := goodIn_r _ [107, 16, 108, 109, 110, 14, 111, 21, 72, 77, 26, 112, 113, 114, 115, 116, 117, 118, 132, 133, 134, 135, 136, 137, 138] (by decide +kernel) (by decide +kernel)
set_option maxRecDepth 20000 in
theorem gX4_count_X1_joinedPairs : GoodIn wsX4_count (wsV RX4 173 RX1 yX1_joinedPairs wsX1_joinedPairs) := goodIn_app (goodIn_of _ (by decide +kernel)) ggX4_count_X1_joinedPairs
theorem dX4_count_0 : decode cX4_count 0 = .ok (.iload_n 1, 1) := by decide +kernel
theorem dX4_count_1 : decode cX4_count 1 = .ok (.tableswitch 100 0 6 #[43, 51, 59, 67, 75, 83, 91], 43) := by decide +kernel
theorem dX4_count_44 : decode cX4_count 44 = .ok (.aload_n 0, 1) := by decide +kernel
theorem dX4_count_45 : decode cX4_count 45 = .ok (.getfield 21, 3) := by decide +kernel
theorem dX4_count_48 : decode cX4_count 48 = .ok (.invokevirtual 104, 3) := by decide +kernel
theorem dX4_count_51 : decode cX4_count 51 = .ok (.ireturn, 1) := by decide +kernel
theorem dX4_count_52 : decode cX4_count 52 = .ok (.aload_n 0, 1) := by decide +kernel
theorem dX4_count_53 : decode cX4_count 53 = .ok (.getfield 10, 3) := by decide +kernel
theorem dX4_count_56 : decode cX4_count 56 = .ok (.invokevirtual 46, 3) := by decide +kernel
theorem dX4_count_59 : decode cX4_count 59 = .ok (.ireturn, 1) := by decide +kernel
theorem dX4_count_60 : decode cX4_count 60 = .ok (.aload_n 0, 1) := by decide +kernel
theorem dX4_count_61 : decode cX4_count 61 = .ok (.getfield 10, 3) := by decide +kernel
theorem dX4_count_64 : decode cX4_count 64 = .ok (.invokevirtual 68, 3) := by decide +kernel
theorem dX4_count_67 : decode cX4_count 67 = .ok (.ireturn, 1) := by decide +kernel
theorem dX4_count_68 : decode cX4_count 68 = .ok (.aload_n 0, 1) := by decide +kernel
theorem dX4_count_69 : decode cX4_count 69 = .ok (.getfield 10, 3) := by decide +kernel
theorem dX4_count_72 : decode cX4_count 72 = .ok (.invokevirtual 164, 3) := by decide +kernel
theorem dX4_count_75 : decode cX4_count 75 = .ok (.ireturn, 1) := by decide +kernel
theorem dX4_count_76 : decode cX4_count 76 = .ok (.aload_n 0, 1) := by decide +kernel
theorem dX4_count_77 : decode cX4_count 77 = .ok (.getfield 21, 3) := by decide +kernel
theorem dX4_count_80 : decode cX4_count 80 = .ok (.invokevirtual 167, 3) := by decide +kernel
theorem dX4_count_83 : decode cX4_count 83 = .ok (.ireturn, 1) := by decide +kernel
theorem dX4_count_84 : decode cX4_count 84 = .ok (.aload_n 0, 1) := by decide +kernel
theorem dX4_count_85 : decode cX4_count 85 = .ok (.getfield 21, 3) := by decide +kernel
theorem dX4_count_88 : decode cX4_count 88 = .ok (.invokevirtual 170, 3) := by decide +kernel
theorem dX4_count_91 : decode cX4_count 91 = .ok (.ireturn, 1) := by decide +kernel
theorem dX4_count_92 : decode cX4_count 92 = .ok (.aload_n 0, 1) := by decide +kernel
theorem dX4_count_93 : decode cX4_count 93 = .ok (.getfield 10, 3) := by decide +kernel
theorem dX4_count_96 : decode cX4_count 96 = .ok (.iconst (-1), 1) := by decide +kernel
theorem dX4_count_97 : decode cX4_count 97 = .ok (.invokevirtual 173, 3) := by decide +kernel
theorem dX4_count_100 : decode cX4_count 100 = .ok (.ireturn, 1) := by decide +kernel
theorem dX4_count_101 : decode cX4_count 101 = .ok (.new 144, 3) := by decide +kernel
theorem dX4_count_104 : decode cX4_count 104 = .ok (.dup, 1) := by decide +kernel
theorem dX4_count_105 : decode cX4_count 105 = .ok (.ldc 176, 2) := by decide +kernel
theorem dX4_count_107 : decode cX4_count 107 = .ok (.invokespecial 148, 3) := by decide +kernel
theorem dX4_count_110 : decode cX4_count 110 = .ok (.athrow, 1) := by decide +kernel
set_option maxRecDepth 20000 in
theorem ggX4_go_X4_checkMinutes : GoodIn wsX4_go wsX4_checkMinutes := goodIn_ca (goodIn_r _ [6, 7, 8] (by decide +kernel) (by decide +kernel)) (goodIn_sub (fun _ h => List.mem_cons_of_mem _ (List.mem_append_right _ h)) (by decide +kernel))
set_option maxRecDepth 20000 in
theorem gX4_go_X4_checkMinutes : GoodIn wsX4_go (wsV RX4 178 RX4 yX4_checkMinutes wsX4_checkMinutes) := goodIn_app (goodIn_of _ (by decide +kernel)) ggX4_go_X4_checkMinutes
set_option maxRecDepth 20000 in
theorem ggX4_go_X2_passMinutes : GoodIn wsX4_go wsX2_passMinutes := goodIn_r _ [13, 14, 15, 16, 17, 12, 18, 19, 20, 21, 22, 23, 24, 25, 26, 27, 28, 29, 30, 31, 32, 33, 34, 35, 36, 37, 38, 39, 40, 41, 42, 43, 44, 45, 46, 47, 48, 49, 50, 51, 52, 53, 54, 55, 56, 57, 58, 59, 60, 61, 62, 63, 64, 65, 66, 67, 68, 69, 70, 71, 72, 73, 74, 75, 76, 77, 78, 79, 80, 81, 82, 83, 84, 85, 86, 87, 88, 89, 90, 91, 92, 93, 94, 95, 96, 97, 98, 99, 100, 101, 102, 103, 104, 105, 106, 107, 108, 109, 110, 111, 112, 118, 119, 120, 121, 122, 123, 124, 125, 126, 127, 128, 129, 130, 131, 132, 133, 134, 135] (by decide +kernel) (by decide +kernel)
set_option maxRecDepth 20000 in
theorem gX4_go_X2_passMinutes : GoodIn wsX4_go (wsV RX4 181 RX2 yX2_passMinutes wsX2_passMinutes) := goodIn_app (goodIn_of _ (by decide +kernel)) ggX4_go_X2_passMinutes
theorem dX4_go_0 : decode cX4_go 0 = .ok (.aload_n 0, 1) := by decide +kernel
theorem dX4_go_1 : decode cX4_go 1 = .ok (.iload_n 1, 1) := by decide +kernel
theorem dX4_go_2 : decode cX4_go 2 = .ok (.invokevirtual 178, 3) := by decide +kernel
theorem dX4_go_5 : decode cX4_go 5 = .ok (.aload_n 0, 1) := by decide +kernel
theorem dX4_go_6 : decode cX4_go 6 = .ok (.getfield 21, 3) := by decide +kernel
theorem dX4_go_9 : decode cX4_go 9 = .ok (.iload_n 1, 1) := by decide +kernel
theorem dX4_go_10 : decode cX4_go 10 = .ok (.invokevirtual 181, 3) := by decide +kernel
theorem dX4_go_13 : decode cX4_go 13 = .ok (.ireturn, 1) := by decide +kernel
set_option maxRecDepth 20000 in
theorem ggX4_foresee_X4_checkMinutes : GoodIn wsX4_foresee wsX4_checkMinutes := goodIn_ca (goodIn_r _ [9, 10, 11] (by decide +kernel) (by decide +kernel)) (goodIn_sub (fun _ h => List.mem_cons_of_mem _ (List.mem_append_right _ h)) (by decide +kernel))
set_option maxRecDepth 20000 in
theorem gX4_foresee_X4_checkMinutes : GoodIn wsX4_foresee (wsV RX4 178 RX4 yX4_checkMinutes wsX4_checkMinutes) := goodIn_app (goodIn_of _ (by decide +kernel)) ggX4_foresee_X4_checkMinutes
set_option maxRecDepth 20000 in
theorem ggX4_foresee_X2_copy : GoodIn wsX4_foresee wsX2_copy := goodIn_r _ [16, 17, 18, 19, 20, 21, 22, 15, 23, 24, 182, 183, 184, 185, 186, 187, 188, 189] (by decide +kernel) (by decide +kernel)
set_option maxRecDepth 20000 in
theorem gX4_foresee_X2_copy : GoodIn wsX4_foresee (wsV RX4 186 RX2 yX2_copy wsX2_copy) := goodIn_app (goodIn_of _ (by decide +kernel)) ggX4_foresee_X2_copy
set_option maxRecDepth 20000 in
theorem ggX4_foresee_X2_passMinutes : GoodIn wsX4_foresee wsX2_passMinutes := goodIn_r _ [28, 17, 29, 30, 31, 15, 32, 33, 18, 19, 34, 35, 36, 37, 38, 39, 40, 41, 42, 43, 44, 45, 46, 47, 48, 49, 50, 51, 52, 53, 54, 55, 56, 57, 58, 59, 60, 61, 62, 63, 64, 65, 66, 67, 68, 69, 70, 71, 72, 73, 74, 75, 76, 77, 78, 79, 80, 81, 82, 83, 84, 85, 86, 87, 88, 89, 90, 91, 92, 93, 94, 95, 96, 97, 98, 99, 100, 101, 102, 103, 104, 105, 106, 107, 108, 109, 110, 111, 112, 113, 114, 115, 116, 117, 118, 119, 20, 21, 22, 23, 24, 182, 183, 184, 185, 186, 187, 188, 189, 190, 191, 192, 193, 194, 195, 196, 197, 198, 199] (by decide +kernel) (by decide +kernel)
set_option maxRecDepth 20000 in
theorem gX4_foresee_X2_passMinutes : GoodIn wsX4_foresee (wsV RX4 181 RX2 yX2_passMinutes wsX2_passMinutes) := goodIn_app (goodIn_of _ (by decide +kernel)) ggX4_foresee_X2_passMinutes
set_option maxRecDepth 20000 in
theorem ggX4_foresee_X2_sheets : GoodIn wsX4_foresee wsX2_sheets := goodIn_r _ [123, 33, 37, 38, 39, 40, 41, 42, 124, 125, 126, 15, 127, 19, 47, 48, 49, 182, 183, 184, 185, 186, 187, 188, 189, 193, 194, 195, 196, 197, 198, 199] (by decide +kernel) (by decide +kernel)
set_option maxRecDepth 20000 in
theorem gX4_foresee_X2_sheets : GoodIn wsX4_foresee (wsV RX4 167 RX2 yX2_sheets wsX2_sheets) := goodIn_app (goodIn_of _ (by decide +kernel)) ggX4_foresee_X2_sheets
set_option maxRecDepth 20000 in
theorem ggX4_foresee_X2_reachedPairs : GoodIn wsX4_foresee wsX2_reachedPairs := goodIn_r _ [131, 33, 37, 38, 39, 40, 41, 42, 132, 133, 134, 15, 135, 136, 137, 138, 139, 140, 24, 141, 142, 143, 144, 145, 146, 19, 147, 148, 149, 150, 151, 152, 86, 61, 62, 63, 64, 91, 92, 93, 94, 69, 95, 96, 97, 98, 70, 47, 48, 49, 153, 154, 155, 36, 156, 59, 157, 158, 159, 160, 161, 162, 163, 164, 165, 166, 167, 168, 169, 170, 171, 172, 173, 174, 175, 176, 71, 182, 183, 184, 185, 186, 187, 188, 189, 193, 194, 195, 196, 197, 198, 199, 200, 201, 202, 203, 190, 191, 192] (by decide +kernel) (by decide +kernel)
set_option maxRecDepth 20000 in
theorem gX4_foresee_X2_reachedPairs : GoodIn wsX4_foresee (wsV RX4 170 RX2 yX2_reachedPairs wsX2_reachedPairs) := goodIn_app (goodIn_of _ (by decide +kernel)) ggX4_foresee_X2_reachedPairs
theorem dX4_foresee_0 : decode cX4_foresee 0 = .ok (.aload_n 0, 1) := by decide +kernel
theorem dX4_foresee_1 : decode cX4_foresee 1 = .ok (.iload_n 1, 1) := by decide +kernel
theorem dX4_foresee_2 : decode cX4_foresee 2 = .ok (.invokevirtual 178, 3) := by decide +kernel
theorem dX4_foresee_5 : decode cX4_foresee 5 = .ok (.iload_n 2, 1) := by decide +kernel
theorem dX4_foresee_6 : decode cX4_foresee 6 = .ok (.iconst 4, 1) := by decide +kernel
theorem dX4_foresee_7 : decode cX4_foresee 7 = .ok (.if_icmp .eq 18, 3) := by decide +kernel
theorem dX4_foresee_10 : decode cX4_foresee 10 = .ok (.iload_n 2, 1) := by decide +kernel
theorem dX4_foresee_11 : decode cX4_foresee 11 = .ok (.iconst 5, 1) := by decide +kernel
theorem dX4_foresee_12 : decode cX4_foresee 12 = .ok (.if_icmp .eq 13, 3) := by decide +kernel
theorem dX4_foresee_15 : decode cX4_foresee 15 = .ok (.new 144, 3) := by decide +kernel
theorem dX4_foresee_18 : decode cX4_foresee 18 = .ok (.dup, 1) := by decide +kernel
theorem dX4_foresee_19 : decode cX4_foresee 19 = .ok (.ldc 184, 2) := by decide +kernel
theorem dX4_foresee_21 : decode cX4_foresee 21 = .ok (.invokespecial 148, 3) := by decide +kernel
theorem dX4_foresee_24 : decode cX4_foresee 24 = .ok (.athrow, 1) := by decide +kernel
theorem dX4_foresee_25 : decode cX4_foresee 25 = .ok (.aload_n 0, 1) := by decide +kernel
theorem dX4_foresee_26 : decode cX4_foresee 26 = .ok (.getfield 25, 3) := by decide +kernel
theorem dX4_foresee_29 : decode cX4_foresee 29 = .ok (.aload_n 0, 1) := by decide +kernel
theorem dX4_foresee_30 : decode cX4_foresee 30 = .ok (.getfield 21, 3) := by decide +kernel
theorem dX4_foresee_33 : decode cX4_foresee 33 = .ok (.invokevirtual 186, 3) := by decide +kernel
theorem dX4_foresee_36 : decode cX4_foresee 36 = .ok (.aload_n 0, 1) := by decide +kernel
theorem dX4_foresee_37 : decode cX4_foresee 37 = .ok (.getfield 25, 3) := by decide +kernel
theorem dX4_foresee_40 : decode cX4_foresee 40 = .ok (.iload_n 1, 1) := by decide +kernel
theorem dX4_foresee_41 : decode cX4_foresee 41 = .ok (.invokevirtual 181, 3) := by decide +kernel
theorem dX4_foresee_44 : decode cX4_foresee 44 = .ok (.pop, 1) := by decide +kernel
theorem dX4_foresee_45 : decode cX4_foresee 45 = .ok (.iload_n 2, 1) := by decide +kernel
theorem dX4_foresee_46 : decode cX4_foresee 46 = .ok (.iconst 4, 1) := by decide +kernel
theorem dX4_foresee_47 : decode cX4_foresee 47 = .ok (.if_icmp .ne 13, 3) := by decide +kernel
theorem dX4_foresee_50 : decode cX4_foresee 50 = .ok (.aload_n 0, 1) := by decide +kernel
theorem dX4_foresee_51 : decode cX4_foresee 51 = .ok (.getfield 25, 3) := by decide +kernel
theorem dX4_foresee_54 : decode cX4_foresee 54 = .ok (.invokevirtual 167, 3) := by decide +kernel
theorem dX4_foresee_57 : decode cX4_foresee 57 = .ok (.goto 10, 3) := by decide +kernel
theorem dX4_foresee_60 : decode cX4_foresee 60 = .ok (.aload_n 0, 1) := by decide +kernel
theorem dX4_foresee_61 : decode cX4_foresee 61 = .ok (.getfield 25, 3) := by decide +kernel
theorem dX4_foresee_64 : decode cX4_foresee 64 = .ok (.invokevirtual 170, 3) := by decide +kernel
theorem dX4_foresee_67 : decode cX4_foresee 67 = .ok (.ireturn, 1) := by decide +kernel
set_option maxRecDepth 20000 in
theorem ggX4_settles_X1_joinedPairs : GoodIn wsX4_settles wsX1_joinedPairs := goodIn_r _ [8, 9, 10, 11, 12, 7, 13, 14, 15, 16, 17, 18, 19, 20, 21, 22, 23, 24, 181, 182, 183, 184, 185, 186, 187] (by decide +kernel) (by decide +kernel)
set_option maxRecDepth 20000 in
theorem gX4_settles_X1_joinedPairs : GoodIn wsX4_settles (wsV RX4 173 RX1 yX1_joinedPairs wsX1_joinedPairs) := goodIn_app (goodIn_of _ (by decide +kernel)) ggX4_settles_X1_joinedPairs
set_option maxRecDepth 20000 in
theorem ggX4_settles_X2_reachedPairs : GoodIn wsX4_settles wsX2_reachedPairs := goodIn_r _ [29, 30, 31, 32, 33, 7, 34, 9, 35, 36, 37, 28, 38, 39, 40, 41, 42, 43, 44, 45, 46, 47, 48, 49, 50, 51, 52, 53, 54, 55, 56, 57, 58, 59, 60, 61, 14, 62, 63, 64, 65, 15, 66, 67, 68, 69, 16, 70, 71, 72, 73, 74, 75, 76, 77, 78, 79, 80, 81, 82, 83, 84, 85, 86, 87, 88, 89, 90, 91, 92, 93, 94, 95, 96, 97, 98, 17, 188, 189, 190, 191, 192, 193, 194, 195, 181, 182, 183, 184, 185, 186, 187, 196, 197, 198, 199, 200, 201, 202] (by decide +kernel) (by decide +kernel)
set_option maxRecDepth 20000 in
theorem gX4_settles_X2_reachedPairs : GoodIn wsX4_settles (wsV RX4 170 RX2 yX2_reachedPairs wsX2_reachedPairs) := goodIn_app (goodIn_of _ (by decide +kernel)) ggX4_settles_X2_reachedPairs
set_option maxRecDepth 20000 in
theorem ggX4_settles_X2_copy : GoodIn wsX4_settles wsX2_copy := goodIn_r _ [102, 103, 104, 51, 105, 106, 107, 28, 108, 44, 188, 189, 190, 191, 192, 193, 194, 195] (by decide +kernel) (by decide +kernel)
set_option maxRecDepth 20000 in
theorem gX4_settles_X2_copy : GoodIn wsX4_settles (wsV RX4 186 RX2 yX2_copy wsX2_copy) := goodIn_app (goodIn_of _ (by decide +kernel)) ggX4_settles_X2_copy
set_option maxRecDepth 20000 in
theorem ggX4_settles_X2_passMinutes : GoodIn wsX4_settles wsX2_passMinutes := goodIn_r _ [112, 103, 113, 114, 115, 28, 116, 30, 104, 51, 117, 118, 76, 31, 32, 33, 7, 34, 9, 119, 120, 121, 122, 70, 71, 72, 123, 124, 125, 126, 127, 128, 129, 130, 131, 78, 132, 59, 60, 61, 14, 133, 134, 135, 136, 15, 16, 17, 137, 138, 139, 140, 141, 142, 143, 144, 145, 146, 147, 148, 149, 150, 58, 151, 152, 153, 154, 62, 63, 64, 65, 66, 67, 68, 69, 155, 156, 157, 158, 159, 160, 161, 162, 163, 164, 165, 166, 167, 168, 169, 170, 171, 172, 173, 174, 175, 105, 106, 107, 108, 44, 188, 189, 190, 191, 192, 193, 194, 195, 200, 201, 202, 181, 182, 183, 184, 185, 186, 187] (by decide +kernel) (by decide +kernel)
set_option maxRecDepth 20000 in
theorem gX4_settles_X2_passMinutes : GoodIn wsX4_settles (wsV RX4 181 RX2 yX2_passMinutes wsX2_passMinutes) := goodIn_app (goodIn_of _ (by decide +kernel)) ggX4_settles_X2_passMinutes
theorem dX4_settles_0 : decode cX4_settles 0 = .ok (.aload_n 0, 1) := by decide +kernel
theorem dX4_settles_1 : decode cX4_settles 1 = .ok (.getfield 10, 3) := by decide +kernel
theorem dX4_settles_4 : decode cX4_settles 4 = .ok (.iconst (-1), 1) := by decide +kernel
theorem dX4_settles_5 : decode cX4_settles 5 = .ok (.invokevirtual 173, 3) := by decide +kernel
theorem dX4_settles_8 : decode cX4_settles 8 = .ok (.istore_n 1, 1) := by decide +kernel
theorem dX4_settles_9 : decode cX4_settles 9 = .ok (.aload_n 0, 1) := by decide +kernel
theorem dX4_settles_10 : decode cX4_settles 10 = .ok (.getfield 21, 3) := by decide +kernel
theorem dX4_settles_13 : decode cX4_settles 13 = .ok (.invokevirtual 170, 3) := by decide +kernel
theorem dX4_settles_16 : decode cX4_settles 16 = .ok (.iload_n 1, 1) := by decide +kernel
theorem dX4_settles_17 : decode cX4_settles 17 = .ok (.if_icmp .ne 5, 3) := by decide +kernel
theorem dX4_settles_20 : decode cX4_settles 20 = .ok (.iconst 0, 1) := by decide +kernel
theorem dX4_settles_21 : decode cX4_settles 21 = .ok (.ireturn, 1) := by decide +kernel
theorem dX4_settles_22 : decode cX4_settles 22 = .ok (.aload_n 0, 1) := by decide +kernel
theorem dX4_settles_23 : decode cX4_settles 23 = .ok (.getfield 25, 3) := by decide +kernel
theorem dX4_settles_26 : decode cX4_settles 26 = .ok (.aload_n 0, 1) := by decide +kernel
theorem dX4_settles_27 : decode cX4_settles 27 = .ok (.getfield 21, 3) := by decide +kernel
theorem dX4_settles_30 : decode cX4_settles 30 = .ok (.invokevirtual 186, 3) := by decide +kernel
theorem dX4_settles_33 : decode cX4_settles 33 = .ok (.iconst 1, 1) := by decide +kernel
theorem dX4_settles_34 : decode cX4_settles 34 = .ok (.istore_n 2, 1) := by decide +kernel
theorem dX4_settles_35 : decode cX4_settles 35 = .ok (.iload_n 2, 1) := by decide +kernel
theorem dX4_settles_36 : decode cX4_settles 36 = .ok (.bipush 40, 2) := by decide +kernel
theorem dX4_settles_38 : decode cX4_settles 38 = .ok (.if_icmp .gt 31, 3) := by decide +kernel
theorem dX4_settles_41 : decode cX4_settles 41 = .ok (.aload_n 0, 1) := by decide +kernel
theorem dX4_settles_42 : decode cX4_settles 42 = .ok (.getfield 25, 3) := by decide +kernel
theorem dX4_settles_45 : decode cX4_settles 45 = .ok (.iconst 1, 1) := by decide +kernel
theorem dX4_settles_46 : decode cX4_settles 46 = .ok (.invokevirtual 181, 3) := by decide +kernel
theorem dX4_settles_49 : decode cX4_settles 49 = .ok (.pop, 1) := by decide +kernel
theorem dX4_settles_50 : decode cX4_settles 50 = .ok (.aload_n 0, 1) := by decide +kernel
theorem dX4_settles_51 : decode cX4_settles 51 = .ok (.getfield 25, 3) := by decide +kernel
theorem dX4_settles_54 : decode cX4_settles 54 = .ok (.invokevirtual 170, 3) := by decide +kernel
theorem dX4_settles_57 : decode cX4_settles 57 = .ok (.iload_n 1, 1) := by decide +kernel
theorem dX4_settles_58 : decode cX4_settles 58 = .ok (.if_icmp .ne 5, 3) := by decide +kernel
theorem dX4_settles_61 : decode cX4_settles 61 = .ok (.iload_n 2, 1) := by decide +kernel
theorem dX4_settles_62 : decode cX4_settles 62 = .ok (.ireturn, 1) := by decide +kernel
theorem dX4_settles_63 : decode cX4_settles 63 = .ok (.iinc 2 1, 3) := by decide +kernel
theorem dX4_settles_66 : decode cX4_settles 66 = .ok (.goto (-31), 3) := by decide +kernel
theorem dX4_settles_69 : decode cX4_settles 69 = .ok (.iconst (-1), 1) := by decide +kernel
theorem dX4_settles_70 : decode cX4_settles 70 = .ok (.ireturn, 1) := by decide +kernel
set_option maxRecDepth 20000 in
theorem ggX4_advise_X1_passes : GoodIn wsX4_advise wsX1_passes := goodIn_r _ [6, 7, 36, 37, 38, 39, 40, 41, 42] (by decide +kernel) (by decide +kernel)
set_option maxRecDepth 20000 in
theorem gX4_advise_X1_passes : GoodIn wsX4_advise (wsV RX4 68 RX1 yX1_passes wsX1_passes) := goodIn_app (goodIn_of _ (by decide +kernel)) ggX4_advise_X1_passes
set_option maxRecDepth 20000 in
theorem ggX4_advise_X1_isOpen : GoodIn wsX4_advise wsX1_isOpen := goodIn_r _ [11, 12, 36, 37, 38, 39, 40, 41, 42] (by decide +kernel) (by decide +kernel)
set_option maxRecDepth 20000 in
theorem gX4_advise_X1_isOpen : GoodIn wsX4_advise (wsV RX4 137 RX1 yX1_isOpen wsX1_isOpen) := goodIn_app (goodIn_of _ (by decide +kernel)) ggX4_advise_X1_isOpen
set_option maxRecDepth 20000 in
theorem ggX4_advise_X1_joinedPairs : GoodIn wsX4_advise wsX1_joinedPairs := goodIn_r _ [16, 17, 18, 19, 20, 5, 21, 7, 22, 23, 12, 24, 25, 26, 27, 28, 29, 30, 36, 37, 38, 39, 40, 41, 42] (by decide +kernel) (by decide +kernel)
set_option maxRecDepth 20000 in
theorem gX4_advise_X1_joinedPairs : GoodIn wsX4_advise (wsV RX4 173 RX1 yX1_joinedPairs wsX1_joinedPairs) := goodIn_app (goodIn_of _ (by decide +kernel)) ggX4_advise_X1_joinedPairs
theorem dX4_advise_0 : decode cX4_advise 0 = .ok (.iconst (-1), 1) := by decide +kernel
theorem dX4_advise_1 : decode cX4_advise 1 = .ok (.istore_n 1, 1) := by decide +kernel
theorem dX4_advise_2 : decode cX4_advise 2 = .ok (.iconst 0, 1) := by decide +kernel
theorem dX4_advise_3 : decode cX4_advise 3 = .ok (.istore_n 2, 1) := by decide +kernel
theorem dX4_advise_4 : decode cX4_advise 4 = .ok (.iconst 0, 1) := by decide +kernel
theorem dX4_advise_5 : decode cX4_advise 5 = .ok (.istore_n 3, 1) := by decide +kernel
theorem dX4_advise_6 : decode cX4_advise 6 = .ok (.iload_n 3, 1) := by decide +kernel
theorem dX4_advise_7 : decode cX4_advise 7 = .ok (.aload_n 0, 1) := by decide +kernel
theorem dX4_advise_8 : decode cX4_advise 8 = .ok (.getfield 10, 3) := by decide +kernel
theorem dX4_advise_11 : decode cX4_advise 11 = .ok (.invokevirtual 68, 3) := by decide +kernel
theorem dX4_advise_14 : decode cX4_advise 14 = .ok (.if_icmp .ge 46, 3) := by decide +kernel
theorem dX4_advise_17 : decode cX4_advise 17 = .ok (.aload_n 0, 1) := by decide +kernel
theorem dX4_advise_18 : decode cX4_advise 18 = .ok (.getfield 10, 3) := by decide +kernel
theorem dX4_advise_21 : decode cX4_advise 21 = .ok (.iload_n 3, 1) := by decide +kernel
theorem dX4_advise_22 : decode cX4_advise 22 = .ok (.invokevirtual 137, 3) := by decide +kernel
theorem dX4_advise_25 : decode cX4_advise 25 = .ok (.ifCond .eq 29, 3) := by decide +kernel
theorem dX4_advise_28 : decode cX4_advise 28 = .ok (.aload_n 0, 1) := by decide +kernel
theorem dX4_advise_29 : decode cX4_advise 29 = .ok (.getfield 10, 3) := by decide +kernel
theorem dX4_advise_32 : decode cX4_advise 32 = .ok (.iload_n 3, 1) := by decide +kernel
theorem dX4_advise_33 : decode cX4_advise 33 = .ok (.invokevirtual 173, 3) := by decide +kernel
theorem dX4_advise_36 : decode cX4_advise 36 = .ok (.istore 4, 2) := by decide +kernel
theorem dX4_advise_38 : decode cX4_advise 38 = .ok (.iload_n 1, 1) := by decide +kernel
theorem dX4_advise_39 : decode cX4_advise 39 = .ok (.iconst (-1), 1) := by decide +kernel
theorem dX4_advise_40 : decode cX4_advise 40 = .ok (.if_icmp .eq 9, 3) := by decide +kernel
theorem dX4_advise_43 : decode cX4_advise 43 = .ok (.iload 4, 2) := by decide +kernel
theorem dX4_advise_45 : decode cX4_advise 45 = .ok (.iload_n 2, 1) := by decide +kernel
theorem dX4_advise_46 : decode cX4_advise 46 = .ok (.if_icmp .ge 8, 3) := by decide +kernel
theorem dX4_advise_49 : decode cX4_advise 49 = .ok (.iload_n 3, 1) := by decide +kernel
theorem dX4_advise_50 : decode cX4_advise 50 = .ok (.istore_n 1, 1) := by decide +kernel
theorem dX4_advise_51 : decode cX4_advise 51 = .ok (.iload 4, 2) := by decide +kernel
theorem dX4_advise_53 : decode cX4_advise 53 = .ok (.istore_n 2, 1) := by decide +kernel
theorem dX4_advise_54 : decode cX4_advise 54 = .ok (.iinc 3 1, 3) := by decide +kernel
theorem dX4_advise_57 : decode cX4_advise 57 = .ok (.goto (-51), 3) := by decide +kernel
theorem dX4_advise_60 : decode cX4_advise 60 = .ok (.iload_n 1, 1) := by decide +kernel
theorem dX4_advise_61 : decode cX4_advise 61 = .ok (.ireturn, 1) := by decide +kernel
set_option maxRecDepth 20000 in
theorem ggX4_mean_X2_sheets : GoodIn wsX4_mean wsX2_sheets := goodIn_r _ [6, 7, 8, 9, 10, 11, 12, 13, 14, 15, 16, 5, 17, 18, 19, 20, 21, 38, 39, 40, 41, 42, 43, 44, 45, 46, 47, 48, 49, 50, 51, 52] (by decide +kernel) (by decide +kernel)
set_option maxRecDepth 20000 in
theorem gX4_mean_X2_sheets : GoodIn wsX4_mean (wsV RX4 167 RX2 yX2_sheets wsX2_sheets) := goodIn_app (goodIn_of _ (by decide +kernel)) ggX4_mean_X2_sheets
set_option maxRecDepth 20000 in
theorem ggX4_mean_X2_ages : GoodIn wsX4_mean wsX2_ages := goodIn_r _ [25, 18, 26, 27, 28, 29, 30, 31, 32, 38, 39, 40, 41, 42, 43, 44, 45, 53, 54, 55] (by decide +kernel) (by decide +kernel)
set_option maxRecDepth 20000 in
theorem gX4_mean_X2_ages : GoodIn wsX4_mean (wsV RX4 190 RX2 yX2_ages wsX2_ages) := goodIn_app (goodIn_of _ (by decide +kernel)) ggX4_mean_X2_ages
theorem dX4_mean_0 : decode cX4_mean 0 = .ok (.aload_n 0, 1) := by decide +kernel
theorem dX4_mean_1 : decode cX4_mean 1 = .ok (.getfield 21, 3) := by decide +kernel
theorem dX4_mean_4 : decode cX4_mean 4 = .ok (.invokevirtual 167, 3) := by decide +kernel
theorem dX4_mean_7 : decode cX4_mean 7 = .ok (.istore_n 1, 1) := by decide +kernel
theorem dX4_mean_8 : decode cX4_mean 8 = .ok (.iload_n 1, 1) := by decide +kernel
theorem dX4_mean_9 : decode cX4_mean 9 = .ok (.ifCond .ne 5, 3) := by decide +kernel
theorem dX4_mean_12 : decode cX4_mean 12 = .ok (.dconst 0, 1) := by decide +kernel
theorem dX4_mean_13 : decode cX4_mean 13 = .ok (.dreturn, 1) := by decide +kernel
theorem dX4_mean_14 : decode cX4_mean 14 = .ok (.aload_n 0, 1) := by decide +kernel
theorem dX4_mean_15 : decode cX4_mean 15 = .ok (.getfield 21, 3) := by decide +kernel
theorem dX4_mean_18 : decode cX4_mean 18 = .ok (.invokevirtual 190, 3) := by decide +kernel
theorem dX4_mean_21 : decode cX4_mean 21 = .ok (.i2d, 1) := by decide +kernel
theorem dX4_mean_22 : decode cX4_mean 22 = .ok (.iload_n 1, 1) := by decide +kernel
theorem dX4_mean_23 : decode cX4_mean 23 = .ok (.i2d, 1) := by decide +kernel
theorem dX4_mean_24 : decode cX4_mean 24 = .ok (.ddiv, 1) := by decide +kernel
theorem dX4_mean_25 : decode cX4_mean 25 = .ok (.dreturn, 1) := by decide +kernel
set_option maxRecDepth 20000 in
theorem ggX4_digest_X4_count : GoodIn wsX4_digest wsX4_count := goodIn_ca (goodIn_r _ [8, 9, 10, 11, 3, 12, 13, 14, 15, 16, 17, 18, 19, 20, 21, 22, 23, 24, 25, 26, 27, 28, 29, 30, 31, 32, 33, 34, 35, 36, 37, 38, 39, 40, 41, 42, 43, 44, 45, 46, 47, 48, 49, 50, 51, 52, 53, 54, 55, 56, 57, 58, 59, 60, 61, 62, 63, 64, 65, 66, 67, 68, 69, 70, 71, 72, 73, 74, 75, 76, 77, 78, 79, 80, 81, 82, 83, 84, 85, 86, 87, 88, 89, 90, 91, 92, 93, 94, 95, 96, 97, 98, 99, 100, 101, 102, 103, 104, 105, 106, 107, 108, 109, 110, 111, 112, 113, 114, 115, 116, 117, 118, 119, 120, 121, 122, 123, 124, 125, 217, 218, 219, 220, 221, 222, 223, 224, 225, 226, 227, 228, 229, 230, 231, 232, 233, 234, 235, 236, 237, 238, 239, 240, 241, 242, 243] (by decide +kernel) (by decide +kernel)) (goodIn_sub (fun _ h => List.mem_cons_of_mem _ (List.mem_append_right _ h)) (by decide +kernel))
set_option maxRecDepth 20000 in
theorem gX4_digest_X4_count : GoodIn wsX4_digest (wsV RX4 197 RX4 yX4_count wsX4_count) := goodIn_app (goodIn_of _ (by decide +kernel)) ggX4_digest_X4_count
set_option maxRecDepth 20000 in
theorem ggX4_digest_X1_huts : GoodIn wsX4_digest wsX1_huts := goodIn_r _ [22, 23, 230, 231, 232, 233, 234, 235, 236] (by decide +kernel) (by decide +kernel)
set_option maxRecDepth 20000 in
theorem gX4_digest_X1_huts : GoodIn wsX4_digest (wsV RX4 46 RX1 yX1_huts wsX1_huts) := goodIn_app (goodIn_of _ (by decide +kernel)) ggX4_digest_X1_huts
set_option maxRecDepth 20000 in
theorem ggX4_digest_X4_told : GoodIn wsX4_digest wsX4_told := goodIn_ca (goodIn_r _ [129, 9, 10, 3, 11, 130, 131, 132, 7, 133, 18, 19, 20, 21, 22, 23, 134, 135, 136, 137, 138, 139, 41, 42, 15, 43, 44, 45, 46, 47, 140, 141, 142, 143, 144, 145, 146, 147, 148, 38, 56, 39, 57, 58, 59, 60, 61, 62, 63, 64, 65, 66, 67, 68, 69, 70, 71, 72, 73, 74, 25, 26, 27, 28, 75, 76, 77, 78, 79, 80, 81, 82, 83, 84, 85, 86, 87, 88, 89, 90, 91, 92, 93, 94, 95, 96, 97, 98, 99, 100, 101, 102, 103, 104, 105, 106, 149, 150, 151, 152, 52, 53, 54, 55, 107, 108, 109, 110, 33, 217, 218, 219, 220, 221, 230, 231, 232, 233, 234, 235, 236, 222, 223, 224, 225, 226, 227, 228, 229, 237, 238, 239, 240, 241, 242, 243] (by decide +kernel) (by decide +kernel)) (goodIn_sub (fun _ h => List.mem_cons_of_mem _ (List.mem_append_right _ h)) (by decide +kernel))
set_option maxRecDepth 20000 in
theorem gX4_digest_X4_told : GoodIn wsX4_digest (wsV RX4 200 RX4 yX4_told wsX4_told) := goodIn_app (goodIn_of _ (by decide +kernel)) ggX4_digest_X4_told
set_option maxRecDepth 20000 in
theorem ggX4_digest_X1_passes : GoodIn wsX4_digest wsX1_passes := goodIn_r _ [27, 28, 230, 231, 232, 233, 234, 235, 236] (by decide +kernel) (by decide +kernel)
set_option maxRecDepth 20000 in
theorem gX4_digest_X1_passes : GoodIn wsX4_digest (wsV RX4 68 RX1 yX1_passes wsX1_passes) := goodIn_app (goodIn_of _ (by decide +kernel)) ggX4_digest_X1_passes
set_option maxRecDepth 20000 in
theorem ggX4_digest_X4_about : GoodIn wsX4_digest wsX4_about := goodIn_ca (goodIn_r _ [156, 9, 10, 3, 11, 157, 158, 159, 7, 160, 24, 25, 26, 21, 27, 28, 161, 76, 77, 78, 79, 162, 81, 82, 83, 84, 163, 164, 165, 166, 167, 168, 169, 170, 171, 33, 172, 173, 174, 15, 175, 38, 39, 19, 20, 22, 23, 176, 177, 178, 179, 44, 75, 45, 46, 47, 80, 85, 86, 87, 88, 89, 90, 217, 218, 219, 220, 221, 230, 231, 232, 233, 234, 235, 236, 222, 223, 224, 225, 226, 227, 228, 229, 241, 242, 243] (by decide +kernel) (by decide +kernel)) (goodIn_sub (fun _ h => List.mem_cons_of_mem _ (List.mem_append_right _ h)) (by decide +kernel))
set_option maxRecDepth 20000 in
theorem gX4_digest_X4_about : GoodIn wsX4_digest (wsV RX4 203 RX4 yX4_about wsX4_about) := goodIn_app (goodIn_of _ (by decide +kernel)) ggX4_digest_X4_about
set_option maxRecDepth 20000 in
theorem ggX4_digest_X4_digestOfPair : GoodIn wsX4_digest wsX4_digestOfPair := goodIn_ca (goodIn_r _ [183, 2, 184, 185, 186, 7, 187, 11, 130, 131, 132, 133, 9, 10, 3, 18, 19, 20, 21, 22, 23, 188, 189, 190, 191, 192, 193, 194, 15, 195, 44, 45, 46, 47, 196, 197, 198, 88, 199, 200, 12, 13, 14, 16, 17, 201, 202, 203, 204, 205, 206, 207, 208, 209, 90, 210, 86, 87, 89, 211, 212, 213, 214, 215, 216, 58, 59, 60, 61, 62, 63, 64, 65, 66, 67, 38, 68, 69, 70, 71, 72, 73, 74, 25, 26, 27, 28, 75, 76, 77, 78, 79, 80, 81, 82, 83, 84, 85, 91, 92, 93, 94, 95, 96, 97, 98, 99, 100, 101, 102, 103, 104, 105, 106, 217, 218, 219, 220, 221, 230, 231, 232, 233, 234, 235, 236, 222, 223, 224, 225, 226, 227, 228, 229, 241, 242, 243, 237, 238, 239, 240] (by decide +kernel) (by decide +kernel)) (goodIn_sub (fun _ h => List.mem_cons_of_mem _ (List.mem_append_right _ h)) (by decide +kernel))
set_option maxRecDepth 20000 in
theorem gX4_digest_X4_digestOfPair : GoodIn wsX4_digest (wsV RX4 206 RX4 yX4_digestOfPair wsX4_digestOfPair) := goodIn_app (goodIn_of _ (by decide +kernel)) ggX4_digest_X4_digestOfPair
theorem dX4_digest_0 : decode cX4_digest 0 = .ok (.ldc2_w 193, 3) := by decide +kernel
theorem dX4_digest_3 : decode cX4_digest 3 = .ok (.lstore_n 1, 1) := by decide +kernel
theorem dX4_digest_4 : decode cX4_digest 4 = .ok (.iconst 0, 1) := by decide +kernel
theorem dX4_digest_5 : decode cX4_digest 5 = .ok (.istore_n 3, 1) := by decide +kernel
theorem dX4_digest_6 : decode cX4_digest 6 = .ok (.iload_n 3, 1) := by decide +kernel
theorem dX4_digest_7 : decode cX4_digest 7 = .ok (.bipush 6, 2) := by decide +kernel
theorem dX4_digest_9 : decode cX4_digest 9 = .ok (.if_icmp .gt 22, 3) := by decide +kernel
theorem dX4_digest_12 : decode cX4_digest 12 = .ok (.lload_n 1, 1) := by decide +kernel
theorem dX4_digest_13 : decode cX4_digest 13 = .ok (.ldc2_w 195, 3) := by decide +kernel
theorem dX4_digest_16 : decode cX4_digest 16 = .ok (.lmul, 1) := by decide +kernel
theorem dX4_digest_17 : decode cX4_digest 17 = .ok (.aload_n 0, 1) := by decide +kernel
theorem dX4_digest_18 : decode cX4_digest 18 = .ok (.iload_n 3, 1) := by decide +kernel
theorem dX4_digest_19 : decode cX4_digest 19 = .ok (.invokevirtual 197, 3) := by decide +kernel
theorem dX4_digest_22 : decode cX4_digest 22 = .ok (.i2l, 1) := by decide +kernel
theorem dX4_digest_23 : decode cX4_digest 23 = .ok (.ladd, 1) := by decide +kernel
theorem dX4_digest_24 : decode cX4_digest 24 = .ok (.lstore_n 1, 1) := by decide +kernel
theorem dX4_digest_25 : decode cX4_digest 25 = .ok (.iinc 3 1, 3) := by decide +kernel
theorem dX4_digest_28 : decode cX4_digest 28 = .ok (.goto (-22), 3) := by decide +kernel
theorem dX4_digest_31 : decode cX4_digest 31 = .ok (.iconst 0, 1) := by decide +kernel
theorem dX4_digest_32 : decode cX4_digest 32 = .ok (.istore_n 3, 1) := by decide +kernel
theorem dX4_digest_33 : decode cX4_digest 33 = .ok (.iload_n 3, 1) := by decide +kernel
theorem dX4_digest_34 : decode cX4_digest 34 = .ok (.aload_n 0, 1) := by decide +kernel
theorem dX4_digest_35 : decode cX4_digest 35 = .ok (.getfield 10, 3) := by decide +kernel
theorem dX4_digest_38 : decode cX4_digest 38 = .ok (.invokevirtual 46, 3) := by decide +kernel
theorem dX4_digest_41 : decode cX4_digest 41 = .ok (.if_icmp .ge 39, 3) := by decide +kernel
theorem dX4_digest_44 : decode cX4_digest 44 = .ok (.iconst 0, 1) := by decide +kernel
theorem dX4_digest_45 : decode cX4_digest 45 = .ok (.istore 4, 2) := by decide +kernel
theorem dX4_digest_47 : decode cX4_digest 47 = .ok (.iload 4, 2) := by decide +kernel
theorem dX4_digest_49 : decode cX4_digest 49 = .ok (.iconst 4, 1) := by decide +kernel
theorem dX4_digest_50 : decode cX4_digest 50 = .ok (.if_icmp .gt 24, 3) := by decide +kernel
theorem dX4_digest_53 : decode cX4_digest 53 = .ok (.lload_n 1, 1) := by decide +kernel
theorem dX4_digest_54 : decode cX4_digest 54 = .ok (.ldc2_w 195, 3) := by decide +kernel
theorem dX4_digest_57 : decode cX4_digest 57 = .ok (.lmul, 1) := by decide +kernel
theorem dX4_digest_58 : decode cX4_digest 58 = .ok (.aload_n 0, 1) := by decide +kernel
theorem dX4_digest_59 : decode cX4_digest 59 = .ok (.iload_n 3, 1) := by decide +kernel
theorem dX4_digest_60 : decode cX4_digest 60 = .ok (.iload 4, 2) := by decide +kernel
theorem dX4_digest_62 : decode cX4_digest 62 = .ok (.invokevirtual 200, 3) := by decide +kernel
theorem dX4_digest_65 : decode cX4_digest 65 = .ok (.i2l, 1) := by decide +kernel
theorem dX4_digest_66 : decode cX4_digest 66 = .ok (.ladd, 1) := by decide +kernel
theorem dX4_digest_67 : decode cX4_digest 67 = .ok (.lstore_n 1, 1) := by decide +kernel
theorem dX4_digest_68 : decode cX4_digest 68 = .ok (.iinc 4 1, 3) := by decide +kernel
theorem dX4_digest_71 : decode cX4_digest 71 = .ok (.goto (-24), 3) := by decide +kernel
theorem dX4_digest_74 : decode cX4_digest 74 = .ok (.iinc 3 1, 3) := by decide +kernel
theorem dX4_digest_77 : decode cX4_digest 77 = .ok (.goto (-44), 3) := by decide +kernel
theorem dX4_digest_80 : decode cX4_digest 80 = .ok (.iconst 0, 1) := by decide +kernel
theorem dX4_digest_81 : decode cX4_digest 81 = .ok (.istore_n 3, 1) := by decide +kernel
theorem dX4_digest_82 : decode cX4_digest 82 = .ok (.iload_n 3, 1) := by decide +kernel
theorem dX4_digest_83 : decode cX4_digest 83 = .ok (.aload_n 0, 1) := by decide +kernel
theorem dX4_digest_84 : decode cX4_digest 84 = .ok (.getfield 10, 3) := by decide +kernel
theorem dX4_digest_87 : decode cX4_digest 87 = .ok (.invokevirtual 68, 3) := by decide +kernel
theorem dX4_digest_90 : decode cX4_digest 90 = .ok (.if_icmp .ge 39, 3) := by decide +kernel
theorem dX4_digest_93 : decode cX4_digest 93 = .ok (.iconst 0, 1) := by decide +kernel
theorem dX4_digest_94 : decode cX4_digest 94 = .ok (.istore 4, 2) := by decide +kernel
theorem dX4_digest_96 : decode cX4_digest 96 = .ok (.iload 4, 2) := by decide +kernel
theorem dX4_digest_98 : decode cX4_digest 98 = .ok (.iconst 4, 1) := by decide +kernel
theorem dX4_digest_99 : decode cX4_digest 99 = .ok (.if_icmp .gt 24, 3) := by decide +kernel
theorem dX4_digest_102 : decode cX4_digest 102 = .ok (.lload_n 1, 1) := by decide +kernel
theorem dX4_digest_103 : decode cX4_digest 103 = .ok (.ldc2_w 195, 3) := by decide +kernel
theorem dX4_digest_106 : decode cX4_digest 106 = .ok (.lmul, 1) := by decide +kernel
theorem dX4_digest_107 : decode cX4_digest 107 = .ok (.aload_n 0, 1) := by decide +kernel
theorem dX4_digest_108 : decode cX4_digest 108 = .ok (.iload_n 3, 1) := by decide +kernel
theorem dX4_digest_109 : decode cX4_digest 109 = .ok (.iload 4, 2) := by decide +kernel
theorem dX4_digest_111 : decode cX4_digest 111 = .ok (.invokevirtual 203, 3) := by decide +kernel
theorem dX4_digest_114 : decode cX4_digest 114 = .ok (.i2l, 1) := by decide +kernel
theorem dX4_digest_115 : decode cX4_digest 115 = .ok (.ladd, 1) := by decide +kernel
theorem dX4_digest_116 : decode cX4_digest 116 = .ok (.lstore_n 1, 1) := by decide +kernel
theorem dX4_digest_117 : decode cX4_digest 117 = .ok (.iinc 4 1, 3) := by decide +kernel
theorem dX4_digest_120 : decode cX4_digest 120 = .ok (.goto (-24), 3) := by decide +kernel
theorem dX4_digest_123 : decode cX4_digest 123 = .ok (.iinc 3 1, 3) := by decide +kernel
theorem dX4_digest_126 : decode cX4_digest 126 = .ok (.goto (-44), 3) := by decide +kernel
theorem dX4_digest_129 : decode cX4_digest 129 = .ok (.iconst 0, 1) := by decide +kernel
theorem dX4_digest_130 : decode cX4_digest 130 = .ok (.istore_n 3, 1) := by decide +kernel
theorem dX4_digest_131 : decode cX4_digest 131 = .ok (.iload_n 3, 1) := by decide +kernel
theorem dX4_digest_132 : decode cX4_digest 132 = .ok (.aload_n 0, 1) := by decide +kernel
theorem dX4_digest_133 : decode cX4_digest 133 = .ok (.getfield 10, 3) := by decide +kernel
theorem dX4_digest_136 : decode cX4_digest 136 = .ok (.invokevirtual 46, 3) := by decide +kernel
theorem dX4_digest_139 : decode cX4_digest 139 = .ok (.if_icmp .ge 39, 3) := by decide +kernel
theorem dX4_digest_142 : decode cX4_digest 142 = .ok (.iconst 0, 1) := by decide +kernel
theorem dX4_digest_143 : decode cX4_digest 143 = .ok (.istore 4, 2) := by decide +kernel
theorem dX4_digest_145 : decode cX4_digest 145 = .ok (.iload 4, 2) := by decide +kernel
theorem dX4_digest_147 : decode cX4_digest 147 = .ok (.aload_n 0, 1) := by decide +kernel
theorem dX4_digest_148 : decode cX4_digest 148 = .ok (.getfield 10, 3) := by decide +kernel
theorem dX4_digest_151 : decode cX4_digest 151 = .ok (.invokevirtual 46, 3) := by decide +kernel
theorem dX4_digest_154 : decode cX4_digest 154 = .ok (.if_icmp .ge 18, 3) := by decide +kernel
theorem dX4_digest_157 : decode cX4_digest 157 = .ok (.aload_n 0, 1) := by decide +kernel
theorem dX4_digest_158 : decode cX4_digest 158 = .ok (.lload_n 1, 1) := by decide +kernel
theorem dX4_digest_159 : decode cX4_digest 159 = .ok (.iload_n 3, 1) := by decide +kernel
theorem dX4_digest_160 : decode cX4_digest 160 = .ok (.iload 4, 2) := by decide +kernel
theorem dX4_digest_162 : decode cX4_digest 162 = .ok (.invokevirtual 206, 3) := by decide +kernel
theorem dX4_digest_165 : decode cX4_digest 165 = .ok (.lstore_n 1, 1) := by decide +kernel
theorem dX4_digest_166 : decode cX4_digest 166 = .ok (.iinc 4 1, 3) := by decide +kernel
theorem dX4_digest_169 : decode cX4_digest 169 = .ok (.goto (-24), 3) := by decide +kernel
theorem dX4_digest_172 : decode cX4_digest 172 = .ok (.iinc 3 1, 3) := by decide +kernel
theorem dX4_digest_175 : decode cX4_digest 175 = .ok (.goto (-44), 3) := by decide +kernel
theorem dX4_digest_178 : decode cX4_digest 178 = .ok (.lload_n 1, 1) := by decide +kernel
theorem dX4_digest_179 : decode cX4_digest 179 = .ok (.lreturn, 1) := by decide +kernel
set_option maxRecDepth 20000 in
theorem ggX4_digestOfPair_X4_sheet : GoodIn wsX4_digestOfPair wsX4_sheet := goodIn_ca (goodIn_r _ [6, 7, 8, 9, 10, 5, 11, 12, 13, 14, 15, 16, 17, 18, 19, 20, 21, 22, 23, 24, 25, 26, 27, 28, 29, 30, 31, 32, 33, 34, 35, 36, 37, 38, 39, 40, 41, 42, 43, 44, 45, 46, 47, 48, 49, 50, 51, 52, 53, 54, 55, 56, 57, 58, 114, 115, 116, 117, 118, 119, 120, 121, 122, 123, 124, 125, 126, 127, 128, 129, 130, 131, 132, 133, 134, 135, 136] (by decide +kernel) (by decide +kernel)) (goodIn_sub (fun _ h => List.mem_cons_of_mem _ (List.mem_append_right _ h)) (by decide +kernel))
set_option maxRecDepth 20000 in
theorem gX4_digestOfPair_X4_sheet : GoodIn wsX4_digestOfPair (wsV RX4 210 RX4 yX4_sheet wsX4_sheet) := goodIn_app (goodIn_of _ (by decide +kernel)) ggX4_digestOfPair_X4_sheet
set_option maxRecDepth 20000 in
theorem ggX4_digestOfPair_X4_way : GoodIn wsX4_digestOfPair wsX4_way := goodIn_ca (goodIn_r _ [62, 7, 63, 8, 9, 10, 5, 11, 12, 13, 14, 15, 16, 17, 18, 19, 20, 21, 22, 23, 24, 64, 65, 66, 28, 67, 68, 69, 70, 71, 72, 73, 74, 75, 30, 76, 77, 78, 79, 80, 81, 82, 83, 84, 85, 86, 87, 88, 89, 90, 91, 92, 93, 94, 95, 96, 31, 32, 33, 97, 56, 57, 37, 58, 54, 98, 99, 100, 101, 102, 103, 104, 105, 106, 107, 108, 109, 110, 111, 112, 113, 114, 115, 116, 117, 118, 119, 120, 121, 122, 123, 124, 125, 126, 127, 128, 129, 130, 131, 132, 133, 137, 138, 139, 140, 134, 135, 136] (by decide +kernel) (by decide +kernel)) (goodIn_sub (fun _ h => List.mem_cons_of_mem _ (List.mem_append_right _ h)) (by decide +kernel))
set_option maxRecDepth 20000 in
theorem gX4_digestOfPair_X4_way : GoodIn wsX4_digestOfPair (wsV RX4 213 RX4 yX4_way wsX4_way) := goodIn_app (goodIn_of _ (by decide +kernel)) ggX4_digestOfPair_X4_way
theorem dX4_digestOfPair_0 : decode cX4_digestOfPair 0 = .ok (.lload_n 1, 1) := by decide +kernel
theorem dX4_digestOfPair_1 : decode cX4_digestOfPair 1 = .ok (.lstore 5, 2) := by decide +kernel
theorem dX4_digestOfPair_3 : decode cX4_digestOfPair 3 = .ok (.iconst 0, 1) := by decide +kernel
theorem dX4_digestOfPair_4 : decode cX4_digestOfPair 4 = .ok (.istore 7, 2) := by decide +kernel
theorem dX4_digestOfPair_6 : decode cX4_digestOfPair 6 = .ok (.iload 7, 2) := by decide +kernel
theorem dX4_digestOfPair_8 : decode cX4_digestOfPair 8 = .ok (.iconst 2, 1) := by decide +kernel
theorem dX4_digestOfPair_9 : decode cX4_digestOfPair 9 = .ok (.if_icmp .gt 28, 3) := by decide +kernel
theorem dX4_digestOfPair_12 : decode cX4_digestOfPair 12 = .ok (.lload 5, 2) := by decide +kernel
theorem dX4_digestOfPair_14 : decode cX4_digestOfPair 14 = .ok (.ldc2_w 195, 3) := by decide +kernel
theorem dX4_digestOfPair_17 : decode cX4_digestOfPair 17 = .ok (.lmul, 1) := by decide +kernel
theorem dX4_digestOfPair_18 : decode cX4_digestOfPair 18 = .ok (.aload_n 0, 1) := by decide +kernel
theorem dX4_digestOfPair_19 : decode cX4_digestOfPair 19 = .ok (.iload_n 3, 1) := by decide +kernel
theorem dX4_digestOfPair_20 : decode cX4_digestOfPair 20 = .ok (.iload 4, 2) := by decide +kernel
theorem dX4_digestOfPair_22 : decode cX4_digestOfPair 22 = .ok (.iload 7, 2) := by decide +kernel
theorem dX4_digestOfPair_24 : decode cX4_digestOfPair 24 = .ok (.invokevirtual 210, 3) := by decide +kernel
theorem dX4_digestOfPair_27 : decode cX4_digestOfPair 27 = .ok (.i2l, 1) := by decide +kernel
theorem dX4_digestOfPair_28 : decode cX4_digestOfPair 28 = .ok (.ladd, 1) := by decide +kernel
theorem dX4_digestOfPair_29 : decode cX4_digestOfPair 29 = .ok (.lstore 5, 2) := by decide +kernel
theorem dX4_digestOfPair_31 : decode cX4_digestOfPair 31 = .ok (.iinc 7 1, 3) := by decide +kernel
theorem dX4_digestOfPair_34 : decode cX4_digestOfPair 34 = .ok (.goto (-28), 3) := by decide +kernel
theorem dX4_digestOfPair_37 : decode cX4_digestOfPair 37 = .ok (.iconst 0, 1) := by decide +kernel
theorem dX4_digestOfPair_38 : decode cX4_digestOfPair 38 = .ok (.istore 7, 2) := by decide +kernel
theorem dX4_digestOfPair_40 : decode cX4_digestOfPair 40 = .ok (.iload 7, 2) := by decide +kernel
theorem dX4_digestOfPair_42 : decode cX4_digestOfPair 42 = .ok (.iconst 2, 1) := by decide +kernel
theorem dX4_digestOfPair_43 : decode cX4_digestOfPair 43 = .ok (.if_icmp .gt 28, 3) := by decide +kernel
theorem dX4_digestOfPair_46 : decode cX4_digestOfPair 46 = .ok (.lload 5, 2) := by decide +kernel
theorem dX4_digestOfPair_48 : decode cX4_digestOfPair 48 = .ok (.ldc2_w 195, 3) := by decide +kernel
theorem dX4_digestOfPair_51 : decode cX4_digestOfPair 51 = .ok (.lmul, 1) := by decide +kernel
theorem dX4_digestOfPair_52 : decode cX4_digestOfPair 52 = .ok (.aload_n 0, 1) := by decide +kernel
theorem dX4_digestOfPair_53 : decode cX4_digestOfPair 53 = .ok (.iload_n 3, 1) := by decide +kernel
theorem dX4_digestOfPair_54 : decode cX4_digestOfPair 54 = .ok (.iload 4, 2) := by decide +kernel
theorem dX4_digestOfPair_56 : decode cX4_digestOfPair 56 = .ok (.iload 7, 2) := by decide +kernel
theorem dX4_digestOfPair_58 : decode cX4_digestOfPair 58 = .ok (.invokevirtual 213, 3) := by decide +kernel
theorem dX4_digestOfPair_61 : decode cX4_digestOfPair 61 = .ok (.i2l, 1) := by decide +kernel
theorem dX4_digestOfPair_62 : decode cX4_digestOfPair 62 = .ok (.ladd, 1) := by decide +kernel
theorem dX4_digestOfPair_63 : decode cX4_digestOfPair 63 = .ok (.lstore 5, 2) := by decide +kernel
theorem dX4_digestOfPair_65 : decode cX4_digestOfPair 65 = .ok (.iinc 7 1, 3) := by decide +kernel
theorem dX4_digestOfPair_68 : decode cX4_digestOfPair 68 = .ok (.goto (-28), 3) := by decide +kernel
theorem dX4_digestOfPair_71 : decode cX4_digestOfPair 71 = .ok (.lload 5, 2) := by decide +kernel
theorem dX4_digestOfPair_73 : decode cX4_digestOfPair 73 = .ok (.lreturn, 1) := by decide +kernel
set_option maxRecDepth 20000 in
theorem ggX4_checkHut_X1_huts : GoodIn wsX4_checkHut wsX1_huts := goodIn_r _ [8, 9, 15, 16, 17, 18, 19, 20, 21] (by decide +kernel) (by decide +kernel)
set_option maxRecDepth 20000 in
theorem gX4_checkHut_X1_huts : GoodIn wsX4_checkHut (wsV RX4 46 RX1 yX1_huts wsX1_huts) := goodIn_app (goodIn_of _ (by decide +kernel)) ggX4_checkHut_X1_huts
theorem dX4_checkHut_0 : decode cX4_checkHut 0 = .ok (.iload_n 1, 1) := by decide +kernel
theorem dX4_checkHut_1 : decode cX4_checkHut 1 = .ok (.ifCond .lt 14, 3) := by decide +kernel
theorem dX4_checkHut_4 : decode cX4_checkHut 4 = .ok (.iload_n 1, 1) := by decide +kernel
theorem dX4_checkHut_5 : decode cX4_checkHut 5 = .ok (.aload_n 0, 1) := by decide +kernel
theorem dX4_checkHut_6 : decode cX4_checkHut 6 = .ok (.getfield 10, 3) := by decide +kernel
theorem dX4_checkHut_9 : decode cX4_checkHut 9 = .ok (.invokevirtual 46, 3) := by decide +kernel
theorem dX4_checkHut_12 : decode cX4_checkHut 12 = .ok (.if_icmp .lt 13, 3) := by decide +kernel
theorem dX4_checkHut_15 : decode cX4_checkHut 15 = .ok (.new 144, 3) := by decide +kernel
theorem dX4_checkHut_18 : decode cX4_checkHut 18 = .ok (.dup, 1) := by decide +kernel
theorem dX4_checkHut_19 : decode cX4_checkHut 19 = .ok (.ldc 216, 2) := by decide +kernel
theorem dX4_checkHut_21 : decode cX4_checkHut 21 = .ok (.invokespecial 148, 3) := by decide +kernel
theorem dX4_checkHut_24 : decode cX4_checkHut 24 = .ok (.athrow, 1) := by decide +kernel
theorem dX4_checkHut_25 : decode cX4_checkHut 25 = .ok (.return_, 1) := by decide +kernel
set_option maxRecDepth 20000 in
theorem ggX4_checkPass_X1_passes : GoodIn wsX4_checkPass wsX1_passes := goodIn_r _ [8, 9, 15, 16, 17, 18, 19, 20, 21] (by decide +kernel) (by decide +kernel)
set_option maxRecDepth 20000 in
theorem gX4_checkPass_X1_passes : GoodIn wsX4_checkPass (wsV RX4 68 RX1 yX1_passes wsX1_passes) := goodIn_app (goodIn_of _ (by decide +kernel)) ggX4_checkPass_X1_passes
theorem dX4_checkPass_0 : decode cX4_checkPass 0 = .ok (.iload_n 1, 1) := by decide +kernel
theorem dX4_checkPass_1 : decode cX4_checkPass 1 = .ok (.ifCond .lt 14, 3) := by decide +kernel
theorem dX4_checkPass_4 : decode cX4_checkPass 4 = .ok (.iload_n 1, 1) := by decide +kernel
theorem dX4_checkPass_5 : decode cX4_checkPass 5 = .ok (.aload_n 0, 1) := by decide +kernel
theorem dX4_checkPass_6 : decode cX4_checkPass 6 = .ok (.getfield 10, 3) := by decide +kernel
theorem dX4_checkPass_9 : decode cX4_checkPass 9 = .ok (.invokevirtual 68, 3) := by decide +kernel
theorem dX4_checkPass_12 : decode cX4_checkPass 12 = .ok (.if_icmp .lt 13, 3) := by decide +kernel
theorem dX4_checkPass_15 : decode cX4_checkPass 15 = .ok (.new 144, 3) := by decide +kernel
theorem dX4_checkPass_18 : decode cX4_checkPass 18 = .ok (.dup, 1) := by decide +kernel
theorem dX4_checkPass_19 : decode cX4_checkPass 19 = .ok (.ldc 218, 2) := by decide +kernel
theorem dX4_checkPass_21 : decode cX4_checkPass 21 = .ok (.invokespecial 148, 3) := by decide +kernel
theorem dX4_checkPass_24 : decode cX4_checkPass 24 = .ok (.athrow, 1) := by decide +kernel
theorem dX4_checkPass_25 : decode cX4_checkPass 25 = .ok (.return_, 1) := by decide +kernel
theorem dX4_checkWhat_0 : decode cX4_checkWhat 0 = .ok (.iload_n 1, 1) := by decide +kernel
theorem dX4_checkWhat_1 : decode cX4_checkWhat 1 = .ok (.ifCond .lt 8, 3) := by decide +kernel
theorem dX4_checkWhat_4 : decode cX4_checkWhat 4 = .ok (.iload_n 1, 1) := by decide +kernel
theorem dX4_checkWhat_5 : decode cX4_checkWhat 5 = .ok (.iload_n 2, 1) := by decide +kernel
theorem dX4_checkWhat_6 : decode cX4_checkWhat 6 = .ok (.if_icmp .le 13, 3) := by decide +kernel
theorem dX4_checkWhat_9 : decode cX4_checkWhat 9 = .ok (.new 144, 3) := by decide +kernel
theorem dX4_checkWhat_12 : decode cX4_checkWhat 12 = .ok (.dup, 1) := by decide +kernel
theorem dX4_checkWhat_13 : decode cX4_checkWhat 13 = .ok (.ldc 220, 2) := by decide +kernel
theorem dX4_checkWhat_15 : decode cX4_checkWhat 15 = .ok (.invokespecial 148, 3) := by decide +kernel
theorem dX4_checkWhat_18 : decode cX4_checkWhat 18 = .ok (.athrow, 1) := by decide +kernel
theorem dX4_checkWhat_19 : decode cX4_checkWhat 19 = .ok (.return_, 1) := by decide +kernel
theorem dX4_checkLength_0 : decode cX4_checkLength 0 = .ok (.iload_n 1, 1) := by decide +kernel
theorem dX4_checkLength_1 : decode cX4_checkLength 1 = .ok (.iconst 1, 1) := by decide +kernel
theorem dX4_checkLength_2 : decode cX4_checkLength 2 = .ok (.if_icmp .lt 9, 3) := by decide +kernel
theorem dX4_checkLength_5 : decode cX4_checkLength 5 = .ok (.iload_n 1, 1) := by decide +kernel
theorem dX4_checkLength_6 : decode cX4_checkLength 6 = .ok (.bipush 99, 2) := by decide +kernel
theorem dX4_checkLength_8 : decode cX4_checkLength 8 = .ok (.if_icmp .le 13, 3) := by decide +kernel
theorem dX4_checkLength_11 : decode cX4_checkLength 11 = .ok (.new 39, 3) := by decide +kernel
theorem dX4_checkLength_14 : decode cX4_checkLength 14 = .ok (.dup, 1) := by decide +kernel
theorem dX4_checkLength_15 : decode cX4_checkLength 15 = .ok (.ldc 222, 2) := by decide +kernel
theorem dX4_checkLength_17 : decode cX4_checkLength 17 = .ok (.invokespecial 43, 3) := by decide +kernel
theorem dX4_checkLength_20 : decode cX4_checkLength 20 = .ok (.athrow, 1) := by decide +kernel
theorem dX4_checkLength_21 : decode cX4_checkLength 21 = .ok (.return_, 1) := by decide +kernel
theorem dX4_checkMinutes_0 : decode cX4_checkMinutes 0 = .ok (.iload_n 1, 1) := by decide +kernel
theorem dX4_checkMinutes_1 : decode cX4_checkMinutes 1 = .ok (.iconst 1, 1) := by decide +kernel
theorem dX4_checkMinutes_2 : decode cX4_checkMinutes 2 = .ok (.if_icmp .lt 9, 3) := by decide +kernel
theorem dX4_checkMinutes_5 : decode cX4_checkMinutes 5 = .ok (.iload_n 1, 1) := by decide +kernel
theorem dX4_checkMinutes_6 : decode cX4_checkMinutes 6 = .ok (.bipush 60, 2) := by decide +kernel
theorem dX4_checkMinutes_8 : decode cX4_checkMinutes 8 = .ok (.if_icmp .le 13, 3) := by decide +kernel
theorem dX4_checkMinutes_11 : decode cX4_checkMinutes 11 = .ok (.new 39, 3) := by decide +kernel
theorem dX4_checkMinutes_14 : decode cX4_checkMinutes 14 = .ok (.dup, 1) := by decide +kernel
theorem dX4_checkMinutes_15 : decode cX4_checkMinutes 15 = .ok (.ldc 224, 2) := by decide +kernel
theorem dX4_checkMinutes_17 : decode cX4_checkMinutes 17 = .ok (.invokespecial 43, 3) := by decide +kernel
theorem dX4_checkMinutes_20 : decode cX4_checkMinutes 20 = .ok (.athrow, 1) := by decide +kernel
theorem dX4_checkMinutes_21 : decode cX4_checkMinutes 21 = .ok (.return_, 1) := by decide +kernel
