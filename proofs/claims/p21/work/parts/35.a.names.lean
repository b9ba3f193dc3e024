theorem dX5_init_0 : decode cX5_init 0 = .ok (.aload_n 0, 1) := by decide +kernel
theorem dX5_init_1 : decode cX5_init 1 = .ok (.invokespecial 3, 3) := by decide +kernel
theorem dX5_init_4 : decode cX5_init 4 = .ok (.aload_n 0, 1) := by decide +kernel
theorem dX5_init_5 : decode cX5_init 5 = .ok (.iconst 0, 1) := by decide +kernel
theorem dX5_init_6 : decode cX5_init 6 = .ok (.newarray .int, 2) := by decide +kernel
theorem dX5_init_8 : decode cX5_init 8 = .ok (.putfield 9, 3) := by decide +kernel
theorem dX5_init_11 : decode cX5_init 11 = .ok (.aload_n 0, 1) := by decide +kernel
theorem dX5_init_12 : decode cX5_init 12 = .ok (.iconst 0, 1) := by decide +kernel
theorem dX5_init_13 : decode cX5_init 13 = .ok (.newarray .int, 2) := by decide +kernel
theorem dX5_init_15 : decode cX5_init 15 = .ok (.putfield 15, 3) := by decide +kernel
theorem dX5_init_18 : decode cX5_init 18 = .ok (.aload_n 0, 1) := by decide +kernel
theorem dX5_init_19 : decode cX5_init 19 = .ok (.iconst 0, 1) := by decide +kernel
theorem dX5_init_20 : decode cX5_init 20 = .ok (.anewarray 18, 3) := by decide +kernel
theorem dX5_init_23 : decode cX5_init 23 = .ok (.putfield 20, 3) := by decide +kernel
theorem dX5_init_26 : decode cX5_init 26 = .ok (.aload_n 0, 1) := by decide +kernel
theorem dX5_init_27 : decode cX5_init 27 = .ok (.iconst 0, 1) := by decide +kernel
theorem dX5_init_28 : decode cX5_init 28 = .ok (.anewarray 24, 3) := by decide +kernel
theorem dX5_init_31 : decode cX5_init 31 = .ok (.putfield 25, 3) := by decide +kernel
theorem dX5_init_34 : decode cX5_init 34 = .ok (.return_, 1) := by decide +kernel
theorem dX5_longer_0 : decode cX5_longer 0 = .ok (.aload_n 0, 1) := by decide +kernel
theorem dX5_longer_1 : decode cX5_longer 1 = .ok (.arraylength, 1) := by decide +kernel
theorem dX5_longer_2 : decode cX5_longer 2 = .ok (.iconst 1, 1) := by decide +kernel
theorem dX5_longer_3 : decode cX5_longer 3 = .ok (.iadd, 1) := by decide +kernel
theorem dX5_longer_4 : decode cX5_longer 4 = .ok (.newarray .int, 2) := by decide +kernel
theorem dX5_longer_6 : decode cX5_longer 6 = .ok (.astore_n 2, 1) := by decide +kernel
theorem dX5_longer_7 : decode cX5_longer 7 = .ok (.iconst 0, 1) := by decide +kernel
theorem dX5_longer_8 : decode cX5_longer 8 = .ok (.istore_n 3, 1) := by decide +kernel
theorem dX5_longer_9 : decode cX5_longer 9 = .ok (.iload_n 3, 1) := by decide +kernel
theorem dX5_longer_10 : decode cX5_longer 10 = .ok (.aload_n 0, 1) := by decide +kernel
theorem dX5_longer_11 : decode cX5_longer 11 = .ok (.arraylength, 1) := by decide +kernel
theorem dX5_longer_12 : decode cX5_longer 12 = .ok (.if_icmp .ge 15, 3) := by decide +kernel
theorem dX5_longer_15 : decode cX5_longer 15 = .ok (.aload_n 2, 1) := by decide +kernel
theorem dX5_longer_16 : decode cX5_longer 16 = .ok (.iload_n 3, 1) := by decide +kernel
theorem dX5_longer_17 : decode cX5_longer 17 = .ok (.aload_n 0, 1) := by decide +kernel
theorem dX5_longer_18 : decode cX5_longer 18 = .ok (.iload_n 3, 1) := by decide +kernel
theorem dX5_longer_19 : decode cX5_longer 19 = .ok (.iaload, 1) := by decide +kernel
theorem dX5_longer_20 : decode cX5_longer 20 = .ok (.iastore, 1) := by decide +kernel
theorem dX5_longer_21 : decode cX5_longer 21 = .ok (.iinc 3 1, 3) := by decide +kernel
theorem dX5_longer_24 : decode cX5_longer 24 = .ok (.goto (-15), 3) := by decide +kernel
theorem dX5_longer_27 : decode cX5_longer 27 = .ok (.aload_n 2, 1) := by decide +kernel
theorem dX5_longer_28 : decode cX5_longer 28 = .ok (.aload_n 0, 1) := by decide +kernel
theorem dX5_longer_29 : decode cX5_longer 29 = .ok (.arraylength, 1) := by decide +kernel
theorem dX5_longer_30 : decode cX5_longer 30 = .ok (.iload_n 1, 1) := by decide +kernel
theorem dX5_longer_31 : decode cX5_longer 31 = .ok (.iastore, 1) := by decide +kernel
theorem dX5_longer_32 : decode cX5_longer 32 = .ok (.aload_n 2, 1) := by decide +kernel
theorem dX5_longer_33 : decode cX5_longer 33 = .ok (.areturn, 1) := by decide +kernel
set_option maxRecDepth 20000 in
theorem ggX5_hut_X5_longer : GoodIn wsX5_hut wsX5_longer := goodIn_r _ [7, 8] (by decide +kernel) (by decide +kernel)
set_option maxRecDepth 20000 in
theorem gX5_hut_X5_longer : GoodIn wsX5_hut (va_wsS RX5 37 yX5_longer wsX5_longer) := goodIn_app (goodIn_of _ (by decide +kernel)) ggX5_hut_X5_longer
theorem dX5_hut_0 : decode cX5_hut 0 = .ok (.aload_n 0, 1) := by decide +kernel
theorem dX5_hut_1 : decode cX5_hut 1 = .ok (.aload_n 0, 1) := by decide +kernel
theorem dX5_hut_2 : decode cX5_hut 2 = .ok (.getfield 9, 3) := by decide +kernel
theorem dX5_hut_5 : decode cX5_hut 5 = .ok (.iload_n 1, 1) := by decide +kernel
theorem dX5_hut_6 : decode cX5_hut 6 = .ok (.invokestatic 37, 3) := by decide +kernel
theorem dX5_hut_9 : decode cX5_hut 9 = .ok (.putfield 9, 3) := by decide +kernel
theorem dX5_hut_12 : decode cX5_hut 12 = .ok (.aload_n 0, 1) := by decide +kernel
theorem dX5_hut_13 : decode cX5_hut 13 = .ok (.aload_n 0, 1) := by decide +kernel
theorem dX5_hut_14 : decode cX5_hut 14 = .ok (.getfield 15, 3) := by decide +kernel
theorem dX5_hut_17 : decode cX5_hut 17 = .ok (.iconst 0, 1) := by decide +kernel
theorem dX5_hut_18 : decode cX5_hut 18 = .ok (.invokestatic 37, 3) := by decide +kernel
theorem dX5_hut_21 : decode cX5_hut 21 = .ok (.putfield 15, 3) := by decide +kernel
theorem dX5_hut_24 : decode cX5_hut 24 = .ok (.aload_n 0, 1) := by decide +kernel
theorem dX5_hut_25 : decode cX5_hut 25 = .ok (.getfield 9, 3) := by decide +kernel
theorem dX5_hut_28 : decode cX5_hut 28 = .ok (.arraylength, 1) := by decide +kernel
theorem dX5_hut_29 : decode cX5_hut 29 = .ok (.istore_n 2, 1) := by decide +kernel
theorem dX5_hut_30 : decode cX5_hut 30 = .ok (.iload_n 2, 1) := by decide +kernel
theorem dX5_hut_31 : decode cX5_hut 31 = .ok (.iload_n 2, 1) := by decide +kernel
theorem dX5_hut_32 : decode cX5_hut 32 = .ok (.iconst 0, 1) := by decide +kernel
theorem dX5_hut_33 : decode cX5_hut 33 = .ok (.multianewarray 41 3, 4) := by decide +kernel
theorem dX5_hut_37 : decode cX5_hut 37 = .ok (.astore_n 3, 1) := by decide +kernel
theorem dX5_hut_38 : decode cX5_hut 38 = .ok (.iconst 0, 1) := by decide +kernel
theorem dX5_hut_39 : decode cX5_hut 39 = .ok (.istore 4, 2) := by decide +kernel
theorem dX5_hut_41 : decode cX5_hut 41 = .ok (.iload 4, 2) := by decide +kernel
theorem dX5_hut_43 : decode cX5_hut 43 = .ok (.iconst 1, 1) := by decide +kernel
theorem dX5_hut_44 : decode cX5_hut 44 = .ok (.iadd, 1) := by decide +kernel
theorem dX5_hut_45 : decode cX5_hut 45 = .ok (.iload_n 2, 1) := by decide +kernel
theorem dX5_hut_46 : decode cX5_hut 46 = .ok (.if_icmp .ge 43, 3) := by decide +kernel
theorem dX5_hut_49 : decode cX5_hut 49 = .ok (.iconst 0, 1) := by decide +kernel
theorem dX5_hut_50 : decode cX5_hut 50 = .ok (.istore 5, 2) := by decide +kernel
theorem dX5_hut_52 : decode cX5_hut 52 = .ok (.iload 5, 2) := by decide +kernel
theorem dX5_hut_54 : decode cX5_hut 54 = .ok (.iconst 1, 1) := by decide +kernel
theorem dX5_hut_55 : decode cX5_hut 55 = .ok (.iadd, 1) := by decide +kernel
theorem dX5_hut_56 : decode cX5_hut 56 = .ok (.iload_n 2, 1) := by decide +kernel
theorem dX5_hut_57 : decode cX5_hut 57 = .ok (.if_icmp .ge 26, 3) := by decide +kernel
theorem dX5_hut_60 : decode cX5_hut 60 = .ok (.aload_n 3, 1) := by decide +kernel
theorem dX5_hut_61 : decode cX5_hut 61 = .ok (.iload 4, 2) := by decide +kernel
theorem dX5_hut_63 : decode cX5_hut 63 = .ok (.aaload, 1) := by decide +kernel
theorem dX5_hut_64 : decode cX5_hut 64 = .ok (.iload 5, 2) := by decide +kernel
theorem dX5_hut_66 : decode cX5_hut 66 = .ok (.aload_n 0, 1) := by decide +kernel
theorem dX5_hut_67 : decode cX5_hut 67 = .ok (.getfield 20, 3) := by decide +kernel
theorem dX5_hut_70 : decode cX5_hut 70 = .ok (.iload 4, 2) := by decide +kernel
theorem dX5_hut_72 : decode cX5_hut 72 = .ok (.aaload, 1) := by decide +kernel
theorem dX5_hut_73 : decode cX5_hut 73 = .ok (.iload 5, 2) := by decide +kernel
theorem dX5_hut_75 : decode cX5_hut 75 = .ok (.aaload, 1) := by decide +kernel
theorem dX5_hut_76 : decode cX5_hut 76 = .ok (.aastore, 1) := by decide +kernel
theorem dX5_hut_77 : decode cX5_hut 77 = .ok (.iinc 5 1, 3) := by decide +kernel
theorem dX5_hut_80 : decode cX5_hut 80 = .ok (.goto (-28), 3) := by decide +kernel
theorem dX5_hut_83 : decode cX5_hut 83 = .ok (.iinc 4 1, 3) := by decide +kernel
theorem dX5_hut_86 : decode cX5_hut 86 = .ok (.goto (-45), 3) := by decide +kernel
theorem dX5_hut_89 : decode cX5_hut 89 = .ok (.aload_n 0, 1) := by decide +kernel
theorem dX5_hut_90 : decode cX5_hut 90 = .ok (.aload_n 3, 1) := by decide +kernel
theorem dX5_hut_91 : decode cX5_hut 91 = .ok (.putfield 20, 3) := by decide +kernel
theorem dX5_hut_94 : decode cX5_hut 94 = .ok (.return_, 1) := by decide +kernel
theorem dX5_pass_0 : decode cX5_pass 0 = .ok (.aload_n 0, 1) := by decide +kernel
theorem dX5_pass_1 : decode cX5_pass 1 = .ok (.getfield 25, 3) := by decide +kernel
theorem dX5_pass_4 : decode cX5_pass 4 = .ok (.arraylength, 1) := by decide +kernel
theorem dX5_pass_5 : decode cX5_pass 5 = .ok (.iconst 1, 1) := by decide +kernel
theorem dX5_pass_6 : decode cX5_pass 6 = .ok (.iadd, 1) := by decide +kernel
theorem dX5_pass_7 : decode cX5_pass 7 = .ok (.anewarray 24, 3) := by decide +kernel
theorem dX5_pass_10 : decode cX5_pass 10 = .ok (.astore 4, 2) := by decide +kernel
theorem dX5_pass_12 : decode cX5_pass 12 = .ok (.iconst 0, 1) := by decide +kernel
theorem dX5_pass_13 : decode cX5_pass 13 = .ok (.istore 5, 2) := by decide +kernel
theorem dX5_pass_15 : decode cX5_pass 15 = .ok (.iload 5, 2) := by decide +kernel
theorem dX5_pass_17 : decode cX5_pass 17 = .ok (.aload_n 0, 1) := by decide +kernel
theorem dX5_pass_18 : decode cX5_pass 18 = .ok (.getfield 25, 3) := by decide +kernel
theorem dX5_pass_21 : decode cX5_pass 21 = .ok (.arraylength, 1) := by decide +kernel
theorem dX5_pass_22 : decode cX5_pass 22 = .ok (.if_icmp .ge 21, 3) := by decide +kernel
theorem dX5_pass_25 : decode cX5_pass 25 = .ok (.aload 4, 2) := by decide +kernel
theorem dX5_pass_27 : decode cX5_pass 27 = .ok (.iload 5, 2) := by decide +kernel
theorem dX5_pass_29 : decode cX5_pass 29 = .ok (.aload_n 0, 1) := by decide +kernel
theorem dX5_pass_30 : decode cX5_pass 30 = .ok (.getfield 25, 3) := by decide +kernel
theorem dX5_pass_33 : decode cX5_pass 33 = .ok (.iload 5, 2) := by decide +kernel
theorem dX5_pass_35 : decode cX5_pass 35 = .ok (.aaload, 1) := by decide +kernel
theorem dX5_pass_36 : decode cX5_pass 36 = .ok (.aastore, 1) := by decide +kernel
theorem dX5_pass_37 : decode cX5_pass 37 = .ok (.iinc 5 1, 3) := by decide +kernel
theorem dX5_pass_40 : decode cX5_pass 40 = .ok (.goto (-25), 3) := by decide +kernel
theorem dX5_pass_43 : decode cX5_pass 43 = .ok (.aload 4, 2) := by decide +kernel
theorem dX5_pass_45 : decode cX5_pass 45 = .ok (.aload_n 0, 1) := by decide +kernel
theorem dX5_pass_46 : decode cX5_pass 46 = .ok (.getfield 25, 3) := by decide +kernel
theorem dX5_pass_49 : decode cX5_pass 49 = .ok (.arraylength, 1) := by decide +kernel
theorem dX5_pass_50 : decode cX5_pass 50 = .ok (.iconst 4, 1) := by decide +kernel
theorem dX5_pass_51 : decode cX5_pass 51 = .ok (.newarray .int, 2) := by decide +kernel
theorem dX5_pass_53 : decode cX5_pass 53 = .ok (.dup, 1) := by decide +kernel
theorem dX5_pass_54 : decode cX5_pass 54 = .ok (.iconst 0, 1) := by decide +kernel
theorem dX5_pass_55 : decode cX5_pass 55 = .ok (.iload_n 1, 1) := by decide +kernel
theorem dX5_pass_56 : decode cX5_pass 56 = .ok (.iastore, 1) := by decide +kernel
theorem dX5_pass_57 : decode cX5_pass 57 = .ok (.dup, 1) := by decide +kernel
theorem dX5_pass_58 : decode cX5_pass 58 = .ok (.iconst 1, 1) := by decide +kernel
theorem dX5_pass_59 : decode cX5_pass 59 = .ok (.iload_n 2, 1) := by decide +kernel
theorem dX5_pass_60 : decode cX5_pass 60 = .ok (.iastore, 1) := by decide +kernel
theorem dX5_pass_61 : decode cX5_pass 61 = .ok (.dup, 1) := by decide +kernel
theorem dX5_pass_62 : decode cX5_pass 62 = .ok (.iconst 2, 1) := by decide +kernel
theorem dX5_pass_63 : decode cX5_pass 63 = .ok (.iload_n 3, 1) := by decide +kernel
theorem dX5_pass_64 : decode cX5_pass 64 = .ok (.iastore, 1) := by decide +kernel
theorem dX5_pass_65 : decode cX5_pass 65 = .ok (.dup, 1) := by decide +kernel
theorem dX5_pass_66 : decode cX5_pass 66 = .ok (.iconst 3, 1) := by decide +kernel
theorem dX5_pass_67 : decode cX5_pass 67 = .ok (.iconst 1, 1) := by decide +kernel
theorem dX5_pass_68 : decode cX5_pass 68 = .ok (.iastore, 1) := by decide +kernel
theorem dX5_pass_69 : decode cX5_pass 69 = .ok (.aastore, 1) := by decide +kernel
theorem dX5_pass_70 : decode cX5_pass 70 = .ok (.aload_n 0, 1) := by decide +kernel
theorem dX5_pass_71 : decode cX5_pass 71 = .ok (.aload 4, 2) := by decide +kernel
theorem dX5_pass_73 : decode cX5_pass 73 = .ok (.putfield 25, 3) := by decide +kernel
theorem dX5_pass_76 : decode cX5_pass 76 = .ok (.return_, 1) := by decide +kernel
theorem dX5_due_0 : decode cX5_due 0 = .ok (.aload_n 0, 1) := by decide +kernel
theorem dX5_due_1 : decode cX5_due 1 = .ok (.getfield 25, 3) := by decide +kernel
theorem dX5_due_4 : decode cX5_due 4 = .ok (.iload_n 2, 1) := by decide +kernel
theorem dX5_due_5 : decode cX5_due 5 = .ok (.aaload, 1) := by decide +kernel
theorem dX5_due_6 : decode cX5_due 6 = .ok (.iconst 3, 1) := by decide +kernel
theorem dX5_due_7 : decode cX5_due 7 = .ok (.iaload, 1) := by decide +kernel
theorem dX5_due_8 : decode cX5_due 8 = .ok (.iconst 1, 1) := by decide +kernel
theorem dX5_due_9 : decode cX5_due 9 = .ok (.if_icmp .ne 38, 3) := by decide +kernel
theorem dX5_due_12 : decode cX5_due 12 = .ok (.aload_n 0, 1) := by decide +kernel
theorem dX5_due_13 : decode cX5_due 13 = .ok (.getfield 25, 3) := by decide +kernel
theorem dX5_due_16 : decode cX5_due 16 = .ok (.iload_n 2, 1) := by decide +kernel
theorem dX5_due_17 : decode cX5_due 17 = .ok (.aaload, 1) := by decide +kernel
theorem dX5_due_18 : decode cX5_due 18 = .ok (.iconst 0, 1) := by decide +kernel
theorem dX5_due_19 : decode cX5_due 19 = .ok (.iaload, 1) := by decide +kernel
theorem dX5_due_20 : decode cX5_due 20 = .ok (.iload_n 1, 1) := by decide +kernel
theorem dX5_due_21 : decode cX5_due 21 = .ok (.if_icmp .eq 15, 3) := by decide +kernel
theorem dX5_due_24 : decode cX5_due 24 = .ok (.aload_n 0, 1) := by decide +kernel
theorem dX5_due_25 : decode cX5_due 25 = .ok (.getfield 25, 3) := by decide +kernel
theorem dX5_due_28 : decode cX5_due 28 = .ok (.iload_n 2, 1) := by decide +kernel
theorem dX5_due_29 : decode cX5_due 29 = .ok (.aaload, 1) := by decide +kernel
theorem dX5_due_30 : decode cX5_due 30 = .ok (.iconst 1, 1) := by decide +kernel
theorem dX5_due_31 : decode cX5_due 31 = .ok (.iaload, 1) := by decide +kernel
theorem dX5_due_32 : decode cX5_due 32 = .ok (.iload_n 1, 1) := by decide +kernel
theorem dX5_due_33 : decode cX5_due 33 = .ok (.if_icmp .ne 14, 3) := by decide +kernel
theorem dX5_due_36 : decode cX5_due 36 = .ok (.aload_n 0, 1) := by decide +kernel
theorem dX5_due_37 : decode cX5_due 37 = .ok (.getfield 25, 3) := by decide +kernel
theorem dX5_due_40 : decode cX5_due 40 = .ok (.iload_n 2, 1) := by decide +kernel
theorem dX5_due_41 : decode cX5_due 41 = .ok (.aaload, 1) := by decide +kernel
theorem dX5_due_42 : decode cX5_due 42 = .ok (.iconst 2, 1) := by decide +kernel
theorem dX5_due_43 : decode cX5_due 43 = .ok (.iaload, 1) := by decide +kernel
theorem dX5_due_44 : decode cX5_due 44 = .ok (.goto 4, 3) := by decide +kernel
theorem dX5_due_47 : decode cX5_due 47 = .ok (.iconst 0, 1) := by decide +kernel
theorem dX5_due_48 : decode cX5_due 48 = .ok (.ireturn, 1) := by decide +kernel
theorem dX5_told_0 : decode cX5_told 0 = .ok (.aload_n 0, 1) := by decide +kernel
theorem dX5_told_1 : decode cX5_told 1 = .ok (.arraylength, 1) := by decide +kernel
theorem dX5_told_2 : decode cX5_told 2 = .ok (.iload_n 1, 1) := by decide +kernel
theorem dX5_told_3 : decode cX5_told 3 = .ok (.iconst 2, 1) := by decide +kernel
theorem dX5_told_4 : decode cX5_told 4 = .ok (.iadd, 1) := by decide +kernel
theorem dX5_told_5 : decode cX5_told 5 = .ok (.if_icmp .le 11, 3) := by decide +kernel
theorem dX5_told_8 : decode cX5_told 8 = .ok (.aload_n 0, 1) := by decide +kernel
theorem dX5_told_9 : decode cX5_told 9 = .ok (.iload_n 1, 1) := by decide +kernel
theorem dX5_told_10 : decode cX5_told 10 = .ok (.iconst 2, 1) := by decide +kernel
theorem dX5_told_11 : decode cX5_told 11 = .ok (.iadd, 1) := by decide +kernel
theorem dX5_told_12 : decode cX5_told 12 = .ok (.iaload, 1) := by decide +kernel
theorem dX5_told_13 : decode cX5_told 13 = .ok (.goto 4, 3) := by decide +kernel
theorem dX5_told_16 : decode cX5_told 16 = .ok (.iconst 0, 1) := by decide +kernel
theorem dX5_told_17 : decode cX5_told 17 = .ok (.ireturn, 1) := by decide +kernel
set_option maxRecDepth 20000 in
theorem ggX5_isTrue_X5_told : GoodIn wsX5_isTrue wsX5_told := goodIn_r _ [6] (by decide +kernel) (by decide +kernel)
set_option maxRecDepth 20000 in
theorem gX5_isTrue_X5_told : GoodIn wsX5_isTrue (va_wsS RX5 42 yX5_told wsX5_told) := goodIn_app (goodIn_of _ (by decide +kernel)) ggX5_isTrue_X5_told
set_option maxRecDepth 20000 in
theorem ggX5_isTrue_X5_due : GoodIn wsX5_isTrue wsX5_due := goodIn_r _ [10, 2, 11, 12, 13, 14, 15] (by decide +kernel) (by decide +kernel)
set_option maxRecDepth 20000 in
theorem gX5_isTrue_X5_due : GoodIn wsX5_isTrue (wsV RX5 46 RX5 yX5_due wsX5_due) := goodIn_app (goodIn_of _ (by decide +kernel)) ggX5_isTrue_X5_due
theorem dX5_isTrue_0 : decode cX5_isTrue 0 = .ok (.aload_n 0, 1) := by decide +kernel
theorem dX5_isTrue_1 : decode cX5_isTrue 1 = .ok (.getfield 20, 3) := by decide +kernel
theorem dX5_isTrue_4 : decode cX5_isTrue 4 = .ok (.iload_n 1, 1) := by decide +kernel
theorem dX5_isTrue_5 : decode cX5_isTrue 5 = .ok (.aaload, 1) := by decide +kernel
theorem dX5_isTrue_6 : decode cX5_isTrue 6 = .ok (.iload_n 1, 1) := by decide +kernel
theorem dX5_isTrue_7 : decode cX5_isTrue 7 = .ok (.aaload, 1) := by decide +kernel
theorem dX5_isTrue_8 : decode cX5_isTrue 8 = .ok (.astore_n 2, 1) := by decide +kernel
theorem dX5_isTrue_9 : decode cX5_isTrue 9 = .ok (.iconst 0, 1) := by decide +kernel
theorem dX5_isTrue_10 : decode cX5_isTrue 10 = .ok (.istore_n 3, 1) := by decide +kernel
theorem dX5_isTrue_11 : decode cX5_isTrue 11 = .ok (.iload_n 3, 1) := by decide +kernel
theorem dX5_isTrue_12 : decode cX5_isTrue 12 = .ok (.aload_n 0, 1) := by decide +kernel
theorem dX5_isTrue_13 : decode cX5_isTrue 13 = .ok (.getfield 25, 3) := by decide +kernel
theorem dX5_isTrue_16 : decode cX5_isTrue 16 = .ok (.arraylength, 1) := by decide +kernel
theorem dX5_isTrue_17 : decode cX5_isTrue 17 = .ok (.if_icmp .ge 25, 3) := by decide +kernel
theorem dX5_isTrue_20 : decode cX5_isTrue 20 = .ok (.aload_n 2, 1) := by decide +kernel
theorem dX5_isTrue_21 : decode cX5_isTrue 21 = .ok (.iload_n 3, 1) := by decide +kernel
theorem dX5_isTrue_22 : decode cX5_isTrue 22 = .ok (.invokestatic 42, 3) := by decide +kernel
theorem dX5_isTrue_25 : decode cX5_isTrue 25 = .ok (.aload_n 0, 1) := by decide +kernel
theorem dX5_isTrue_26 : decode cX5_isTrue 26 = .ok (.iload_n 1, 1) := by decide +kernel
theorem dX5_isTrue_27 : decode cX5_isTrue 27 = .ok (.iload_n 3, 1) := by decide +kernel
theorem dX5_isTrue_28 : decode cX5_isTrue 28 = .ok (.invokevirtual 46, 3) := by decide +kernel
theorem dX5_isTrue_31 : decode cX5_isTrue 31 = .ok (.if_icmp .eq 5, 3) := by decide +kernel
theorem dX5_isTrue_34 : decode cX5_isTrue 34 = .ok (.iconst 0, 1) := by decide +kernel
theorem dX5_isTrue_35 : decode cX5_isTrue 35 = .ok (.ireturn, 1) := by decide +kernel
theorem dX5_isTrue_36 : decode cX5_isTrue 36 = .ok (.iinc 3 1, 3) := by decide +kernel
theorem dX5_isTrue_39 : decode cX5_isTrue 39 = .ok (.goto (-28), 3) := by decide +kernel
theorem dX5_isTrue_42 : decode cX5_isTrue 42 = .ok (.iconst 1, 1) := by decide +kernel
theorem dX5_isTrue_43 : decode cX5_isTrue 43 = .ok (.ireturn, 1) := by decide +kernel
set_option maxRecDepth 20000 in
theorem ggX5_go_X5_isTrue : GoodIn wsX5_go wsX5_isTrue := goodIn_r _ [17, 2, 4, 18, 19, 16, 20, 21, 22, 23, 24, 25, 26, 27, 28, 29] (by decide +kernel) (by decide +kernel)
set_option maxRecDepth 20000 in
theorem gX5_go_X5_isTrue : GoodIn wsX5_go (wsV RX5 50 RX5 yX5_isTrue wsX5_isTrue) := goodIn_app (goodIn_of _ (by decide +kernel)) ggX5_go_X5_isTrue
set_option maxRecDepth 20000 in
theorem ggX5_go_X5_due : GoodIn wsX5_go wsX5_due := goodIn_r _ [24, 4, 25, 26, 27, 28, 29] (by decide +kernel) (by decide +kernel)
set_option maxRecDepth 20000 in
theorem gX5_go_X5_due : GoodIn wsX5_go (wsV RX5 46 RX5 yX5_due wsX5_due) := goodIn_app (goodIn_of _ (by decide +kernel)) ggX5_go_X5_due
theorem dX5_go_0 : decode cX5_go 0 = .ok (.iconst 0, 1) := by decide +kernel
theorem dX5_go_1 : decode cX5_go 1 = .ok (.istore_n 1, 1) := by decide +kernel
theorem dX5_go_2 : decode cX5_go 2 = .ok (.aload_n 0, 1) := by decide +kernel
theorem dX5_go_3 : decode cX5_go 3 = .ok (.getfield 9, 3) := by decide +kernel
theorem dX5_go_6 : decode cX5_go 6 = .ok (.arraylength, 1) := by decide +kernel
theorem dX5_go_7 : decode cX5_go 7 = .ok (.istore_n 2, 1) := by decide +kernel
theorem dX5_go_8 : decode cX5_go 8 = .ok (.iconst 0, 1) := by decide +kernel
theorem dX5_go_9 : decode cX5_go 9 = .ok (.istore_n 3, 1) := by decide +kernel
theorem dX5_go_10 : decode cX5_go 10 = .ok (.iload_n 3, 1) := by decide +kernel
theorem dX5_go_11 : decode cX5_go 11 = .ok (.iload_n 2, 1) := by decide +kernel
theorem dX5_go_12 : decode cX5_go 12 = .ok (.if_icmp .ge 122, 3) := by decide +kernel
theorem dX5_go_15 : decode cX5_go 15 = .ok (.aload_n 0, 1) := by decide +kernel
theorem dX5_go_16 : decode cX5_go 16 = .ok (.getfield 20, 3) := by decide +kernel
theorem dX5_go_19 : decode cX5_go 19 = .ok (.iload_n 3, 1) := by decide +kernel
theorem dX5_go_20 : decode cX5_go 20 = .ok (.aaload, 1) := by decide +kernel
theorem dX5_go_21 : decode cX5_go 21 = .ok (.iload_n 3, 1) := by decide +kernel
theorem dX5_go_22 : decode cX5_go 22 = .ok (.aaload, 1) := by decide +kernel
theorem dX5_go_23 : decode cX5_go 23 = .ok (.astore 4, 2) := by decide +kernel
theorem dX5_go_25 : decode cX5_go 25 = .ok (.aload 4, 2) := by decide +kernel
theorem dX5_go_27 : decode cX5_go 27 = .ok (.arraylength, 1) := by decide +kernel
theorem dX5_go_28 : decode cX5_go 28 = .ok (.ifCond .le 23, 3) := by decide +kernel
theorem dX5_go_31 : decode cX5_go 31 = .ok (.aload 4, 2) := by decide +kernel
theorem dX5_go_33 : decode cX5_go 33 = .ok (.iconst 1, 1) := by decide +kernel
theorem dX5_go_34 : decode cX5_go 34 = .ok (.iaload, 1) := by decide +kernel
theorem dX5_go_35 : decode cX5_go 35 = .ok (.bipush 20, 2) := by decide +kernel
theorem dX5_go_37 : decode cX5_go 37 = .ok (.if_icmp .ge 14, 3) := by decide +kernel
theorem dX5_go_40 : decode cX5_go 40 = .ok (.aload_n 0, 1) := by decide +kernel
theorem dX5_go_41 : decode cX5_go 41 = .ok (.iload_n 3, 1) := by decide +kernel
theorem dX5_go_42 : decode cX5_go 42 = .ok (.invokevirtual 50, 3) := by decide +kernel
theorem dX5_go_45 : decode cX5_go 45 = .ok (.ifCond .eq 6, 3) := by decide +kernel
theorem dX5_go_48 : decode cX5_go 48 = .ok (.goto 80, 3) := by decide +kernel
theorem dX5_go_51 : decode cX5_go 51 = .ok (.aload_n 0, 1) := by decide +kernel
theorem dX5_go_52 : decode cX5_go 52 = .ok (.getfield 15, 3) := by decide +kernel
theorem dX5_go_55 : decode cX5_go 55 = .ok (.iload_n 3, 1) := by decide +kernel
theorem dX5_go_56 : decode cX5_go 56 = .ok (.dup2, 1) := by decide +kernel
theorem dX5_go_57 : decode cX5_go 57 = .ok (.iaload, 1) := by decide +kernel
theorem dX5_go_58 : decode cX5_go 58 = .ok (.iconst 1, 1) := by decide +kernel
theorem dX5_go_59 : decode cX5_go 59 = .ok (.iadd, 1) := by decide +kernel
theorem dX5_go_60 : decode cX5_go 60 = .ok (.iastore, 1) := by decide +kernel
theorem dX5_go_61 : decode cX5_go 61 = .ok (.aload_n 0, 1) := by decide +kernel
theorem dX5_go_62 : decode cX5_go 62 = .ok (.getfield 25, 3) := by decide +kernel
theorem dX5_go_65 : decode cX5_go 65 = .ok (.arraylength, 1) := by decide +kernel
theorem dX5_go_66 : decode cX5_go 66 = .ok (.iconst 2, 1) := by decide +kernel
theorem dX5_go_67 : decode cX5_go 67 = .ok (.iadd, 1) := by decide +kernel
theorem dX5_go_68 : decode cX5_go 68 = .ok (.newarray .int, 2) := by decide +kernel
theorem dX5_go_70 : decode cX5_go 70 = .ok (.astore 4, 2) := by decide +kernel
theorem dX5_go_72 : decode cX5_go 72 = .ok (.aload 4, 2) := by decide +kernel
theorem dX5_go_74 : decode cX5_go 74 = .ok (.iconst 0, 1) := by decide +kernel
theorem dX5_go_75 : decode cX5_go 75 = .ok (.aload_n 0, 1) := by decide +kernel
theorem dX5_go_76 : decode cX5_go 76 = .ok (.getfield 15, 3) := by decide +kernel
theorem dX5_go_79 : decode cX5_go 79 = .ok (.iload_n 3, 1) := by decide +kernel
theorem dX5_go_80 : decode cX5_go 80 = .ok (.iaload, 1) := by decide +kernel
theorem dX5_go_81 : decode cX5_go 81 = .ok (.iastore, 1) := by decide +kernel
theorem dX5_go_82 : decode cX5_go 82 = .ok (.iconst 0, 1) := by decide +kernel
theorem dX5_go_83 : decode cX5_go 83 = .ok (.istore 5, 2) := by decide +kernel
theorem dX5_go_85 : decode cX5_go 85 = .ok (.iload 5, 2) := by decide +kernel
theorem dX5_go_87 : decode cX5_go 87 = .ok (.aload_n 0, 1) := by decide +kernel
theorem dX5_go_88 : decode cX5_go 88 = .ok (.getfield 25, 3) := by decide +kernel
theorem dX5_go_91 : decode cX5_go 91 = .ok (.arraylength, 1) := by decide +kernel
theorem dX5_go_92 : decode cX5_go 92 = .ok (.if_icmp .ge 23, 3) := by decide +kernel
theorem dX5_go_95 : decode cX5_go 95 = .ok (.aload 4, 2) := by decide +kernel
theorem dX5_go_97 : decode cX5_go 97 = .ok (.iload 5, 2) := by decide +kernel
theorem dX5_go_99 : decode cX5_go 99 = .ok (.iconst 2, 1) := by decide +kernel
theorem dX5_go_100 : decode cX5_go 100 = .ok (.iadd, 1) := by decide +kernel
theorem dX5_go_101 : decode cX5_go 101 = .ok (.aload_n 0, 1) := by decide +kernel
theorem dX5_go_102 : decode cX5_go 102 = .ok (.iload_n 3, 1) := by decide +kernel
theorem dX5_go_103 : decode cX5_go 103 = .ok (.iload 5, 2) := by decide +kernel
theorem dX5_go_105 : decode cX5_go 105 = .ok (.invokevirtual 46, 3) := by decide +kernel
theorem dX5_go_108 : decode cX5_go 108 = .ok (.iastore, 1) := by decide +kernel
theorem dX5_go_109 : decode cX5_go 109 = .ok (.iinc 5 1, 3) := by decide +kernel
theorem dX5_go_112 : decode cX5_go 112 = .ok (.goto (-27), 3) := by decide +kernel
theorem dX5_go_115 : decode cX5_go 115 = .ok (.aload_n 0, 1) := by decide +kernel
theorem dX5_go_116 : decode cX5_go 116 = .ok (.getfield 20, 3) := by decide +kernel
theorem dX5_go_119 : decode cX5_go 119 = .ok (.iload_n 3, 1) := by decide +kernel
theorem dX5_go_120 : decode cX5_go 120 = .ok (.aaload, 1) := by decide +kernel
theorem dX5_go_121 : decode cX5_go 121 = .ok (.iload_n 3, 1) := by decide +kernel
theorem dX5_go_122 : decode cX5_go 122 = .ok (.aload 4, 2) := by decide +kernel
theorem dX5_go_124 : decode cX5_go 124 = .ok (.aastore, 1) := by decide +kernel
theorem dX5_go_125 : decode cX5_go 125 = .ok (.iinc 1 1, 3) := by decide +kernel
theorem dX5_go_128 : decode cX5_go 128 = .ok (.iinc 3 1, 3) := by decide +kernel
theorem dX5_go_131 : decode cX5_go 131 = .ok (.goto (-121), 3) := by decide +kernel
theorem dX5_go_134 : decode cX5_go 134 = .ok (.iload_n 2, 1) := by decide +kernel
theorem dX5_go_135 : decode cX5_go 135 = .ok (.iload_n 2, 1) := by decide +kernel
theorem dX5_go_136 : decode cX5_go 136 = .ok (.multianewarray 41 2, 4) := by decide +kernel
theorem dX5_go_140 : decode cX5_go 140 = .ok (.astore_n 3, 1) := by decide +kernel
theorem dX5_go_141 : decode cX5_go 141 = .ok (.iconst 0, 1) := by decide +kernel
theorem dX5_go_142 : decode cX5_go 142 = .ok (.istore 4, 2) := by decide +kernel
theorem dX5_go_144 : decode cX5_go 144 = .ok (.iload 4, 2) := by decide +kernel
theorem dX5_go_146 : decode cX5_go 146 = .ok (.iload_n 2, 1) := by decide +kernel
theorem dX5_go_147 : decode cX5_go 147 = .ok (.if_icmp .ge 236, 3) := by decide +kernel
theorem dX5_go_150 : decode cX5_go 150 = .ok (.iconst 0, 1) := by decide +kernel
theorem dX5_go_151 : decode cX5_go 151 = .ok (.istore 5, 2) := by decide +kernel
theorem dX5_go_153 : decode cX5_go 153 = .ok (.iload 5, 2) := by decide +kernel
theorem dX5_go_155 : decode cX5_go 155 = .ok (.iload_n 2, 1) := by decide +kernel
theorem dX5_go_156 : decode cX5_go 156 = .ok (.if_icmp .ge 221, 3) := by decide +kernel
theorem dX5_go_159 : decode cX5_go 159 = .ok (.aload_n 0, 1) := by decide +kernel
theorem dX5_go_160 : decode cX5_go 160 = .ok (.getfield 20, 3) := by decide +kernel
theorem dX5_go_163 : decode cX5_go 163 = .ok (.iload 4, 2) := by decide +kernel
theorem dX5_go_165 : decode cX5_go 165 = .ok (.aaload, 1) := by decide +kernel
theorem dX5_go_166 : decode cX5_go 166 = .ok (.iload 5, 2) := by decide +kernel
theorem dX5_go_168 : decode cX5_go 168 = .ok (.aaload, 1) := by decide +kernel
theorem dX5_go_169 : decode cX5_go 169 = .ok (.astore 6, 2) := by decide +kernel
theorem dX5_go_171 : decode cX5_go 171 = .ok (.aload_n 0, 1) := by decide +kernel
theorem dX5_go_172 : decode cX5_go 172 = .ok (.getfield 25, 3) := by decide +kernel
theorem dX5_go_175 : decode cX5_go 175 = .ok (.astore 7, 2) := by decide +kernel
theorem dX5_go_177 : decode cX5_go 177 = .ok (.aload 7, 2) := by decide +kernel
theorem dX5_go_179 : decode cX5_go 179 = .ok (.arraylength, 1) := by decide +kernel
theorem dX5_go_180 : decode cX5_go 180 = .ok (.istore 8, 2) := by decide +kernel
theorem dX5_go_182 : decode cX5_go 182 = .ok (.iconst 0, 1) := by decide +kernel
theorem dX5_go_183 : decode cX5_go 183 = .ok (.istore 9, 2) := by decide +kernel
theorem dX5_go_185 : decode cX5_go 185 = .ok (.iload 9, 2) := by decide +kernel
theorem dX5_go_187 : decode cX5_go 187 = .ok (.iload 8, 2) := by decide +kernel
theorem dX5_go_189 : decode cX5_go 189 = .ok (.if_icmp .ge 167, 3) := by decide +kernel
theorem dX5_go_192 : decode cX5_go 192 = .ok (.aload 7, 2) := by decide +kernel
theorem dX5_go_194 : decode cX5_go 194 = .ok (.iload 9, 2) := by decide +kernel
theorem dX5_go_196 : decode cX5_go 196 = .ok (.aaload, 1) := by decide +kernel
theorem dX5_go_197 : decode cX5_go 197 = .ok (.astore 10, 2) := by decide +kernel
theorem dX5_go_199 : decode cX5_go 199 = .ok (.aload 10, 2) := by decide +kernel
theorem dX5_go_201 : decode cX5_go 201 = .ok (.iconst 3, 1) := by decide +kernel
theorem dX5_go_202 : decode cX5_go 202 = .ok (.iaload, 1) := by decide +kernel
theorem dX5_go_203 : decode cX5_go 203 = .ok (.ifCond .eq 147, 3) := by decide +kernel
theorem dX5_go_206 : decode cX5_go 206 = .ok (.aload 10, 2) := by decide +kernel
theorem dX5_go_208 : decode cX5_go 208 = .ok (.iconst 0, 1) := by decide +kernel
theorem dX5_go_209 : decode cX5_go 209 = .ok (.iaload, 1) := by decide +kernel
theorem dX5_go_210 : decode cX5_go 210 = .ok (.iload 4, 2) := by decide +kernel
theorem dX5_go_212 : decode cX5_go 212 = .ok (.if_icmp .eq 12, 3) := by decide +kernel
theorem dX5_go_215 : decode cX5_go 215 = .ok (.aload 10, 2) := by decide +kernel
theorem dX5_go_217 : decode cX5_go 217 = .ok (.iconst 1, 1) := by decide +kernel
theorem dX5_go_218 : decode cX5_go 218 = .ok (.iaload, 1) := by decide +kernel
theorem dX5_go_219 : decode cX5_go 219 = .ok (.iload 4, 2) := by decide +kernel
theorem dX5_go_221 : decode cX5_go 221 = .ok (.if_icmp .ne 129, 3) := by decide +kernel
theorem dX5_go_224 : decode cX5_go 224 = .ok (.iload 4, 2) := by decide +kernel
theorem dX5_go_226 : decode cX5_go 226 = .ok (.iload 5, 2) := by decide +kernel
theorem dX5_go_228 : decode cX5_go 228 = .ok (.if_icmp .eq 122, 3) := by decide +kernel
theorem dX5_go_231 : decode cX5_go 231 = .ok (.aload_n 0, 1) := by decide +kernel
theorem dX5_go_232 : decode cX5_go 232 = .ok (.getfield 9, 3) := by decide +kernel
theorem dX5_go_235 : decode cX5_go 235 = .ok (.iload 4, 2) := by decide +kernel
theorem dX5_go_237 : decode cX5_go 237 = .ok (.iaload, 1) := by decide +kernel
theorem dX5_go_238 : decode cX5_go 238 = .ok (.ifCond .eq 33, 3) := by decide +kernel
theorem dX5_go_241 : decode cX5_go 241 = .ok (.aload_n 0, 1) := by decide +kernel
theorem dX5_go_242 : decode cX5_go 242 = .ok (.getfield 9, 3) := by decide +kernel
theorem dX5_go_245 : decode cX5_go 245 = .ok (.iload 5, 2) := by decide +kernel
theorem dX5_go_247 : decode cX5_go 247 = .ok (.iaload, 1) := by decide +kernel
theorem dX5_go_248 : decode cX5_go 248 = .ok (.ifCond .eq 23, 3) := by decide +kernel
theorem dX5_go_251 : decode cX5_go 251 = .ok (.aload_n 0, 1) := by decide +kernel
theorem dX5_go_252 : decode cX5_go 252 = .ok (.getfield 9, 3) := by decide +kernel
theorem dX5_go_255 : decode cX5_go 255 = .ok (.iload 4, 2) := by decide +kernel
theorem dX5_go_257 : decode cX5_go 257 = .ok (.iaload, 1) := by decide +kernel
theorem dX5_go_258 : decode cX5_go 258 = .ok (.aload_n 0, 1) := by decide +kernel
theorem dX5_go_259 : decode cX5_go 259 = .ok (.getfield 9, 3) := by decide +kernel
theorem dX5_go_262 : decode cX5_go 262 = .ok (.iload 5, 2) := by decide +kernel
theorem dX5_go_264 : decode cX5_go 264 = .ok (.iaload, 1) := by decide +kernel
theorem dX5_go_265 : decode cX5_go 265 = .ok (.if_icmp .eq 6, 3) := by decide +kernel
theorem dX5_go_268 : decode cX5_go 268 = .ok (.goto 82, 3) := by decide +kernel
theorem dX5_go_271 : decode cX5_go 271 = .ok (.aload_n 0, 1) := by decide +kernel
theorem dX5_go_272 : decode cX5_go 272 = .ok (.getfield 20, 3) := by decide +kernel
theorem dX5_go_275 : decode cX5_go 275 = .ok (.aload 10, 2) := by decide +kernel
theorem dX5_go_277 : decode cX5_go 277 = .ok (.iconst 0, 1) := by decide +kernel
theorem dX5_go_278 : decode cX5_go 278 = .ok (.iaload, 1) := by decide +kernel
theorem dX5_go_279 : decode cX5_go 279 = .ok (.iload 4, 2) := by decide +kernel
theorem dX5_go_281 : decode cX5_go 281 = .ok (.if_icmp .ne 10, 3) := by decide +kernel
theorem dX5_go_284 : decode cX5_go 284 = .ok (.aload 10, 2) := by decide +kernel
theorem dX5_go_286 : decode cX5_go 286 = .ok (.iconst 1, 1) := by decide +kernel
theorem dX5_go_287 : decode cX5_go 287 = .ok (.iaload, 1) := by decide +kernel
theorem dX5_go_288 : decode cX5_go 288 = .ok (.goto 7, 3) := by decide +kernel
theorem dX5_go_291 : decode cX5_go 291 = .ok (.aload 10, 2) := by decide +kernel
theorem dX5_go_293 : decode cX5_go 293 = .ok (.iconst 0, 1) := by decide +kernel
theorem dX5_go_294 : decode cX5_go 294 = .ok (.iaload, 1) := by decide +kernel
theorem dX5_go_295 : decode cX5_go 295 = .ok (.aaload, 1) := by decide +kernel
theorem dX5_go_296 : decode cX5_go 296 = .ok (.iload 5, 2) := by decide +kernel
theorem dX5_go_298 : decode cX5_go 298 = .ok (.aaload, 1) := by decide +kernel
theorem dX5_go_299 : decode cX5_go 299 = .ok (.astore 11, 2) := by decide +kernel
theorem dX5_go_301 : decode cX5_go 301 = .ok (.aload 11, 2) := by decide +kernel
theorem dX5_go_303 : decode cX5_go 303 = .ok (.arraylength, 1) := by decide +kernel
theorem dX5_go_304 : decode cX5_go 304 = .ok (.ifCond .le 46, 3) := by decide +kernel
theorem dX5_go_307 : decode cX5_go 307 = .ok (.aload 6, 2) := by decide +kernel
theorem dX5_go_309 : decode cX5_go 309 = .ok (.arraylength, 1) := by decide +kernel
theorem dX5_go_310 : decode cX5_go 310 = .ok (.ifCond .eq 36, 3) := by decide +kernel
theorem dX5_go_313 : decode cX5_go 313 = .ok (.aload 11, 2) := by decide +kernel
theorem dX5_go_315 : decode cX5_go 315 = .ok (.iconst 0, 1) := by decide +kernel
theorem dX5_go_316 : decode cX5_go 316 = .ok (.iaload, 1) := by decide +kernel
theorem dX5_go_317 : decode cX5_go 317 = .ok (.aload 6, 2) := by decide +kernel
theorem dX5_go_319 : decode cX5_go 319 = .ok (.iconst 0, 1) := by decide +kernel
theorem dX5_go_320 : decode cX5_go 320 = .ok (.iaload, 1) := by decide +kernel
theorem dX5_go_321 : decode cX5_go 321 = .ok (.if_icmp .gt 25, 3) := by decide +kernel
theorem dX5_go_324 : decode cX5_go 324 = .ok (.aload 11, 2) := by decide +kernel
theorem dX5_go_326 : decode cX5_go 326 = .ok (.iconst 0, 1) := by decide +kernel
theorem dX5_go_327 : decode cX5_go 327 = .ok (.iaload, 1) := by decide +kernel
theorem dX5_go_328 : decode cX5_go 328 = .ok (.aload 6, 2) := by decide +kernel
theorem dX5_go_330 : decode cX5_go 330 = .ok (.iconst 0, 1) := by decide +kernel
theorem dX5_go_331 : decode cX5_go 331 = .ok (.iaload, 1) := by decide +kernel
theorem dX5_go_332 : decode cX5_go 332 = .ok (.if_icmp .ne 18, 3) := by decide +kernel
theorem dX5_go_335 : decode cX5_go 335 = .ok (.aload 11, 2) := by decide +kernel
theorem dX5_go_337 : decode cX5_go 337 = .ok (.iconst 1, 1) := by decide +kernel
theorem dX5_go_338 : decode cX5_go 338 = .ok (.iaload, 1) := by decide +kernel
theorem dX5_go_339 : decode cX5_go 339 = .ok (.aload 6, 2) := by decide +kernel
theorem dX5_go_341 : decode cX5_go 341 = .ok (.iconst 1, 1) := by decide +kernel
theorem dX5_go_342 : decode cX5_go 342 = .ok (.iaload, 1) := by decide +kernel
theorem dX5_go_343 : decode cX5_go 343 = .ok (.if_icmp .ge 7, 3) := by decide +kernel
theorem dX5_go_346 : decode cX5_go 346 = .ok (.aload 11, 2) := by decide +kernel
theorem dX5_go_348 : decode cX5_go 348 = .ok (.astore 6, 2) := by decide +kernel
theorem dX5_go_350 : decode cX5_go 350 = .ok (.iinc 9 1, 3) := by decide +kernel
theorem dX5_go_353 : decode cX5_go 353 = .ok (.goto (-168), 3) := by decide +kernel
theorem dX5_go_356 : decode cX5_go 356 = .ok (.aload_n 3, 1) := by decide +kernel
theorem dX5_go_357 : decode cX5_go 357 = .ok (.iload 4, 2) := by decide +kernel
theorem dX5_go_359 : decode cX5_go 359 = .ok (.aaload, 1) := by decide +kernel
theorem dX5_go_360 : decode cX5_go 360 = .ok (.iload 5, 2) := by decide +kernel
theorem dX5_go_362 : decode cX5_go 362 = .ok (.aload 6, 2) := by decide +kernel
theorem dX5_go_364 : decode cX5_go 364 = .ok (.invokevirtual 33, 3) := by decide +kernel
theorem dX5_go_367 : decode cX5_go 367 = .ok (.checkcast 24, 3) := by decide +kernel
theorem dX5_go_370 : decode cX5_go 370 = .ok (.aastore, 1) := by decide +kernel
theorem dX5_go_371 : decode cX5_go 371 = .ok (.iinc 5 1, 3) := by decide +kernel
theorem dX5_go_374 : decode cX5_go 374 = .ok (.goto (-221), 3) := by decide +kernel
theorem dX5_go_377 : decode cX5_go 377 = .ok (.iinc 4 1, 3) := by decide +kernel
theorem dX5_go_380 : decode cX5_go 380 = .ok (.goto (-236), 3) := by decide +kernel
theorem dX5_go_383 : decode cX5_go 383 = .ok (.iconst 0, 1) := by decide +kernel
theorem dX5_go_384 : decode cX5_go 384 = .ok (.istore 4, 2) := by decide +kernel
theorem dX5_go_386 : decode cX5_go 386 = .ok (.iload 4, 2) := by decide +kernel
theorem dX5_go_388 : decode cX5_go 388 = .ok (.iload_n 2, 1) := by decide +kernel
theorem dX5_go_389 : decode cX5_go 389 = .ok (.if_icmp .ge 75, 3) := by decide +kernel
theorem dX5_go_392 : decode cX5_go 392 = .ok (.iconst 0, 1) := by decide +kernel
theorem dX5_go_393 : decode cX5_go 393 = .ok (.istore 5, 2) := by decide +kernel
theorem dX5_go_395 : decode cX5_go 395 = .ok (.iload 5, 2) := by decide +kernel
theorem dX5_go_397 : decode cX5_go 397 = .ok (.iload_n 2, 1) := by decide +kernel
theorem dX5_go_398 : decode cX5_go 398 = .ok (.if_icmp .ge 60, 3) := by decide +kernel
theorem dX5_go_401 : decode cX5_go 401 = .ok (.aload_n 3, 1) := by decide +kernel
theorem dX5_go_402 : decode cX5_go 402 = .ok (.iload 4, 2) := by decide +kernel
theorem dX5_go_404 : decode cX5_go 404 = .ok (.aaload, 1) := by decide +kernel
theorem dX5_go_405 : decode cX5_go 405 = .ok (.iload 5, 2) := by decide +kernel
theorem dX5_go_407 : decode cX5_go 407 = .ok (.aaload, 1) := by decide +kernel
theorem dX5_go_408 : decode cX5_go 408 = .ok (.arraylength, 1) := by decide +kernel
theorem dX5_go_409 : decode cX5_go 409 = .ok (.ifCond .ne 6, 3) := by decide +kernel
theorem dX5_go_412 : decode cX5_go 412 = .ok (.goto 40, 3) := by decide +kernel
theorem dX5_go_415 : decode cX5_go 415 = .ok (.aload_n 3, 1) := by decide +kernel
theorem dX5_go_416 : decode cX5_go 416 = .ok (.iload 4, 2) := by decide +kernel
theorem dX5_go_418 : decode cX5_go 418 = .ok (.aaload, 1) := by decide +kernel
theorem dX5_go_419 : decode cX5_go 419 = .ok (.iload 5, 2) := by decide +kernel
theorem dX5_go_421 : decode cX5_go 421 = .ok (.aaload, 1) := by decide +kernel
theorem dX5_go_422 : decode cX5_go 422 = .ok (.iconst 1, 1) := by decide +kernel
theorem dX5_go_423 : decode cX5_go 423 = .ok (.dup2, 1) := by decide +kernel
theorem dX5_go_424 : decode cX5_go 424 = .ok (.iaload, 1) := by decide +kernel
theorem dX5_go_425 : decode cX5_go 425 = .ok (.iconst 1, 1) := by decide +kernel
theorem dX5_go_426 : decode cX5_go 426 = .ok (.iadd, 1) := by decide +kernel
theorem dX5_go_427 : decode cX5_go 427 = .ok (.iastore, 1) := by decide +kernel
theorem dX5_go_428 : decode cX5_go 428 = .ok (.aload_n 3, 1) := by decide +kernel
theorem dX5_go_429 : decode cX5_go 429 = .ok (.iload 4, 2) := by decide +kernel
theorem dX5_go_431 : decode cX5_go 431 = .ok (.aaload, 1) := by decide +kernel
theorem dX5_go_432 : decode cX5_go 432 = .ok (.iload 5, 2) := by decide +kernel
theorem dX5_go_434 : decode cX5_go 434 = .ok (.aaload, 1) := by decide +kernel
theorem dX5_go_435 : decode cX5_go 435 = .ok (.iconst 1, 1) := by decide +kernel
theorem dX5_go_436 : decode cX5_go 436 = .ok (.iaload, 1) := by decide +kernel
theorem dX5_go_437 : decode cX5_go 437 = .ok (.bipush 30, 2) := by decide +kernel
theorem dX5_go_439 : decode cX5_go 439 = .ok (.if_icmp .le 13, 3) := by decide +kernel
theorem dX5_go_442 : decode cX5_go 442 = .ok (.aload_n 3, 1) := by decide +kernel
theorem dX5_go_443 : decode cX5_go 443 = .ok (.iload 4, 2) := by decide +kernel
theorem dX5_go_445 : decode cX5_go 445 = .ok (.aaload, 1) := by decide +kernel
theorem dX5_go_446 : decode cX5_go 446 = .ok (.iload 5, 2) := by decide +kernel
theorem dX5_go_448 : decode cX5_go 448 = .ok (.iconst 0, 1) := by decide +kernel
theorem dX5_go_449 : decode cX5_go 449 = .ok (.newarray .int, 2) := by decide +kernel
theorem dX5_go_451 : decode cX5_go 451 = .ok (.aastore, 1) := by decide +kernel
theorem dX5_go_452 : decode cX5_go 452 = .ok (.iinc 5 1, 3) := by decide +kernel
theorem dX5_go_455 : decode cX5_go 455 = .ok (.goto (-60), 3) := by decide +kernel
theorem dX5_go_458 : decode cX5_go 458 = .ok (.iinc 4 1, 3) := by decide +kernel
theorem dX5_go_461 : decode cX5_go 461 = .ok (.goto (-75), 3) := by decide +kernel
theorem dX5_go_464 : decode cX5_go 464 = .ok (.aload_n 0, 1) := by decide +kernel
theorem dX5_go_465 : decode cX5_go 465 = .ok (.aload_n 3, 1) := by decide +kernel
theorem dX5_go_466 : decode cX5_go 466 = .ok (.putfield 20, 3) := by decide +kernel
theorem dX5_go_469 : decode cX5_go 469 = .ok (.aload_n 0, 1) := by decide +kernel
theorem dX5_go_470 : decode cX5_go 470 = .ok (.dup, 1) := by decide +kernel
theorem dX5_go_471 : decode cX5_go 471 = .ok (.getfield 29, 3) := by decide +kernel
theorem dX5_go_474 : decode cX5_go 474 = .ok (.iconst 1, 1) := by decide +kernel
theorem dX5_go_475 : decode cX5_go 475 = .ok (.iadd, 1) := by decide +kernel
theorem dX5_go_476 : decode cX5_go 476 = .ok (.putfield 29, 3) := by decide +kernel
theorem dX5_go_479 : decode cX5_go 479 = .ok (.iload_n 1, 1) := by decide +kernel
theorem dX5_go_480 : decode cX5_go 480 = .ok (.ireturn, 1) := by decide +kernel
set_option maxRecDepth 20000 in
theorem ggX5_takes_X5_told : GoodIn wsX5_takes wsX5_told := goodIn_r _ [6] (by decide +kernel) (by decide +kernel)
set_option maxRecDepth 20000 in
theorem gX5_takes_X5_told : GoodIn wsX5_takes (va_wsS RX5 42 yX5_told wsX5_told) := goodIn_app (goodIn_of _ (by decide +kernel)) ggX5_takes_X5_told
theorem dX5_takes_0 : decode cX5_takes 0 = .ok (.aload_n 0, 1) := by decide +kernel
theorem dX5_takes_1 : decode cX5_takes 1 = .ok (.getfield 20, 3) := by decide +kernel
theorem dX5_takes_4 : decode cX5_takes 4 = .ok (.iload_n 1, 1) := by decide +kernel
theorem dX5_takes_5 : decode cX5_takes 5 = .ok (.aaload, 1) := by decide +kernel
theorem dX5_takes_6 : decode cX5_takes 6 = .ok (.aload_n 0, 1) := by decide +kernel
theorem dX5_takes_7 : decode cX5_takes 7 = .ok (.getfield 25, 3) := by decide +kernel
theorem dX5_takes_10 : decode cX5_takes 10 = .ok (.iload_n 2, 1) := by decide +kernel
theorem dX5_takes_11 : decode cX5_takes 11 = .ok (.aaload, 1) := by decide +kernel
theorem dX5_takes_12 : decode cX5_takes 12 = .ok (.iconst 0, 1) := by decide +kernel
theorem dX5_takes_13 : decode cX5_takes 13 = .ok (.iaload, 1) := by decide +kernel
theorem dX5_takes_14 : decode cX5_takes 14 = .ok (.aaload, 1) := by decide +kernel
theorem dX5_takes_15 : decode cX5_takes 15 = .ok (.iload_n 2, 1) := by decide +kernel
theorem dX5_takes_16 : decode cX5_takes 16 = .ok (.invokestatic 42, 3) := by decide +kernel
theorem dX5_takes_19 : decode cX5_takes 19 = .ok (.ifCond .le 29, 3) := by decide +kernel
theorem dX5_takes_22 : decode cX5_takes 22 = .ok (.aload_n 0, 1) := by decide +kernel
theorem dX5_takes_23 : decode cX5_takes 23 = .ok (.getfield 20, 3) := by decide +kernel
theorem dX5_takes_26 : decode cX5_takes 26 = .ok (.iload_n 1, 1) := by decide +kernel
theorem dX5_takes_27 : decode cX5_takes 27 = .ok (.aaload, 1) := by decide +kernel
theorem dX5_takes_28 : decode cX5_takes 28 = .ok (.aload_n 0, 1) := by decide +kernel
theorem dX5_takes_29 : decode cX5_takes 29 = .ok (.getfield 25, 3) := by decide +kernel
theorem dX5_takes_32 : decode cX5_takes 32 = .ok (.iload_n 2, 1) := by decide +kernel
theorem dX5_takes_33 : decode cX5_takes 33 = .ok (.aaload, 1) := by decide +kernel
theorem dX5_takes_34 : decode cX5_takes 34 = .ok (.iconst 1, 1) := by decide +kernel
theorem dX5_takes_35 : decode cX5_takes 35 = .ok (.iaload, 1) := by decide +kernel
theorem dX5_takes_36 : decode cX5_takes 36 = .ok (.aaload, 1) := by decide +kernel
theorem dX5_takes_37 : decode cX5_takes 37 = .ok (.iload_n 2, 1) := by decide +kernel
theorem dX5_takes_38 : decode cX5_takes 38 = .ok (.invokestatic 42, 3) := by decide +kernel
theorem dX5_takes_41 : decode cX5_takes 41 = .ok (.ifCond .le 7, 3) := by decide +kernel
theorem dX5_takes_44 : decode cX5_takes 44 = .ok (.iconst 1, 1) := by decide +kernel
theorem dX5_takes_45 : decode cX5_takes 45 = .ok (.goto 4, 3) := by decide +kernel
theorem dX5_takes_48 : decode cX5_takes 48 = .ok (.iconst 0, 1) := by decide +kernel
theorem dX5_takes_49 : decode cX5_takes 49 = .ok (.ireturn, 1) := by decide +kernel
set_option maxRecDepth 20000 in
theorem ggX5_far_X5_step : GoodIn wsX5_far wsX5_step := goodIn_r _ [13, 4, 3, 14, 15, 16, 17, 12, 18, 19, 20, 21, 22, 23, 24, 25, 26] (by decide +kernel) (by decide +kernel)
set_option maxRecDepth 20000 in
theorem gX5_far_X5_step : GoodIn wsX5_far (wsV RX5 55 RX5 yX5_step wsX5_step) := goodIn_app (goodIn_of _ (by decide +kernel)) ggX5_far_X5_step
theorem dX5_far_0 : decode cX5_far 0 = .ok (.aload_n 0, 1) := by decide +kernel
theorem dX5_far_1 : decode cX5_far 1 = .ok (.getfield 9, 3) := by decide +kernel
theorem dX5_far_4 : decode cX5_far 4 = .ok (.arraylength, 1) := by decide +kernel
theorem dX5_far_5 : decode cX5_far 5 = .ok (.newarray .int, 2) := by decide +kernel
theorem dX5_far_7 : decode cX5_far 7 = .ok (.astore_n 3, 1) := by decide +kernel
theorem dX5_far_8 : decode cX5_far 8 = .ok (.iconst 0, 1) := by decide +kernel
theorem dX5_far_9 : decode cX5_far 9 = .ok (.istore 4, 2) := by decide +kernel
theorem dX5_far_11 : decode cX5_far 11 = .ok (.iload 4, 2) := by decide +kernel
theorem dX5_far_13 : decode cX5_far 13 = .ok (.aload_n 3, 1) := by decide +kernel
theorem dX5_far_14 : decode cX5_far 14 = .ok (.arraylength, 1) := by decide +kernel
theorem dX5_far_15 : decode cX5_far 15 = .ok (.if_icmp .ge 25, 3) := by decide +kernel
theorem dX5_far_18 : decode cX5_far 18 = .ok (.aload_n 3, 1) := by decide +kernel
theorem dX5_far_19 : decode cX5_far 19 = .ok (.iload 4, 2) := by decide +kernel
theorem dX5_far_21 : decode cX5_far 21 = .ok (.iload 4, 2) := by decide +kernel
theorem dX5_far_23 : decode cX5_far 23 = .ok (.iload_n 2, 1) := by decide +kernel
theorem dX5_far_24 : decode cX5_far 24 = .ok (.if_icmp .ne 7, 3) := by decide +kernel
theorem dX5_far_27 : decode cX5_far 27 = .ok (.iconst 0, 1) := by decide +kernel
theorem dX5_far_28 : decode cX5_far 28 = .ok (.goto 5, 3) := by decide +kernel
theorem dX5_far_31 : decode cX5_far 31 = .ok (.ldc 54, 2) := by decide +kernel
theorem dX5_far_33 : decode cX5_far 33 = .ok (.iastore, 1) := by decide +kernel
theorem dX5_far_34 : decode cX5_far 34 = .ok (.iinc 4 1, 3) := by decide +kernel
theorem dX5_far_37 : decode cX5_far 37 = .ok (.goto (-26), 3) := by decide +kernel
theorem dX5_far_40 : decode cX5_far 40 = .ok (.iconst 0, 1) := by decide +kernel
theorem dX5_far_41 : decode cX5_far 41 = .ok (.istore 4, 2) := by decide +kernel
theorem dX5_far_43 : decode cX5_far 43 = .ok (.iload 4, 2) := by decide +kernel
theorem dX5_far_45 : decode cX5_far 45 = .ok (.aload_n 3, 1) := by decide +kernel
theorem dX5_far_46 : decode cX5_far 46 = .ok (.arraylength, 1) := by decide +kernel
theorem dX5_far_47 : decode cX5_far 47 = .ok (.if_icmp .ge 90, 3) := by decide +kernel
theorem dX5_far_50 : decode cX5_far 50 = .ok (.iconst 0, 1) := by decide +kernel
theorem dX5_far_51 : decode cX5_far 51 = .ok (.istore 5, 2) := by decide +kernel
theorem dX5_far_53 : decode cX5_far 53 = .ok (.iload 5, 2) := by decide +kernel
theorem dX5_far_55 : decode cX5_far 55 = .ok (.aload_n 0, 1) := by decide +kernel
theorem dX5_far_56 : decode cX5_far 56 = .ok (.getfield 25, 3) := by decide +kernel
theorem dX5_far_59 : decode cX5_far 59 = .ok (.arraylength, 1) := by decide +kernel
theorem dX5_far_60 : decode cX5_far 60 = .ok (.if_icmp .ge 71, 3) := by decide +kernel
theorem dX5_far_63 : decode cX5_far 63 = .ok (.iconst 0, 1) := by decide +kernel
theorem dX5_far_64 : decode cX5_far 64 = .ok (.istore 6, 2) := by decide +kernel
theorem dX5_far_66 : decode cX5_far 66 = .ok (.iload 6, 2) := by decide +kernel
theorem dX5_far_68 : decode cX5_far 68 = .ok (.iconst 2, 1) := by decide +kernel
theorem dX5_far_69 : decode cX5_far 69 = .ok (.if_icmp .ge 56, 3) := by decide +kernel
theorem dX5_far_72 : decode cX5_far 72 = .ok (.aload_n 0, 1) := by decide +kernel
theorem dX5_far_73 : decode cX5_far 73 = .ok (.getfield 25, 3) := by decide +kernel
theorem dX5_far_76 : decode cX5_far 76 = .ok (.iload 5, 2) := by decide +kernel
theorem dX5_far_78 : decode cX5_far 78 = .ok (.aaload, 1) := by decide +kernel
theorem dX5_far_79 : decode cX5_far 79 = .ok (.iload 6, 2) := by decide +kernel
theorem dX5_far_81 : decode cX5_far 81 = .ok (.iaload, 1) := by decide +kernel
theorem dX5_far_82 : decode cX5_far 82 = .ok (.istore 7, 2) := by decide +kernel
theorem dX5_far_84 : decode cX5_far 84 = .ok (.aload_n 3, 1) := by decide +kernel
theorem dX5_far_85 : decode cX5_far 85 = .ok (.iload 7, 2) := by decide +kernel
theorem dX5_far_87 : decode cX5_far 87 = .ok (.aload_n 3, 1) := by decide +kernel
theorem dX5_far_88 : decode cX5_far 88 = .ok (.iload 7, 2) := by decide +kernel
theorem dX5_far_90 : decode cX5_far 90 = .ok (.iaload, 1) := by decide +kernel
theorem dX5_far_91 : decode cX5_far 91 = .ok (.aload_n 0, 1) := by decide +kernel
theorem dX5_far_92 : decode cX5_far 92 = .ok (.iload_n 1, 1) := by decide +kernel
theorem dX5_far_93 : decode cX5_far 93 = .ok (.iload 5, 2) := by decide +kernel
theorem dX5_far_95 : decode cX5_far 95 = .ok (.iload 6, 2) := by decide +kernel
theorem dX5_far_97 : decode cX5_far 97 = .ok (.invokevirtual 55, 3) := by decide +kernel
theorem dX5_far_100 : decode cX5_far 100 = .ok (.aload_n 3, 1) := by decide +kernel
theorem dX5_far_101 : decode cX5_far 101 = .ok (.aload_n 0, 1) := by decide +kernel
theorem dX5_far_102 : decode cX5_far 102 = .ok (.getfield 25, 3) := by decide +kernel
theorem dX5_far_105 : decode cX5_far 105 = .ok (.iload 5, 2) := by decide +kernel
theorem dX5_far_107 : decode cX5_far 107 = .ok (.aaload, 1) := by decide +kernel
theorem dX5_far_108 : decode cX5_far 108 = .ok (.iconst 1, 1) := by decide +kernel
theorem dX5_far_109 : decode cX5_far 109 = .ok (.iload 6, 2) := by decide +kernel
theorem dX5_far_111 : decode cX5_far 111 = .ok (.isub, 1) := by decide +kernel
theorem dX5_far_112 : decode cX5_far 112 = .ok (.iaload, 1) := by decide +kernel
theorem dX5_far_113 : decode cX5_far 113 = .ok (.iaload, 1) := by decide +kernel
theorem dX5_far_114 : decode cX5_far 114 = .ok (.iadd, 1) := by decide +kernel
theorem dX5_far_115 : decode cX5_far 115 = .ok (.invokestatic 59, 3) := by decide +kernel
theorem dX5_far_118 : decode cX5_far 118 = .ok (.iastore, 1) := by decide +kernel
theorem dX5_far_119 : decode cX5_far 119 = .ok (.iinc 6 1, 3) := by decide +kernel
theorem dX5_far_122 : decode cX5_far 122 = .ok (.goto (-56), 3) := by decide +kernel
theorem dX5_far_125 : decode cX5_far 125 = .ok (.iinc 5 1, 3) := by decide +kernel
theorem dX5_far_128 : decode cX5_far 128 = .ok (.goto (-75), 3) := by decide +kernel
theorem dX5_far_131 : decode cX5_far 131 = .ok (.iinc 4 1, 3) := by decide +kernel
theorem dX5_far_134 : decode cX5_far 134 = .ok (.goto (-91), 3) := by decide +kernel
theorem dX5_far_137 : decode cX5_far 137 = .ok (.iconst 0, 1) := by decide +kernel
theorem dX5_far_138 : decode cX5_far 138 = .ok (.istore 4, 2) := by decide +kernel
theorem dX5_far_140 : decode cX5_far 140 = .ok (.iload 4, 2) := by decide +kernel
theorem dX5_far_142 : decode cX5_far 142 = .ok (.aload_n 3, 1) := by decide +kernel
theorem dX5_far_143 : decode cX5_far 143 = .ok (.arraylength, 1) := by decide +kernel
theorem dX5_far_144 : decode cX5_far 144 = .ok (.if_icmp .ge 22, 3) := by decide +kernel
theorem dX5_far_147 : decode cX5_far 147 = .ok (.aload_n 3, 1) := by decide +kernel
theorem dX5_far_148 : decode cX5_far 148 = .ok (.iload 4, 2) := by decide +kernel
theorem dX5_far_150 : decode cX5_far 150 = .ok (.aload_n 3, 1) := by decide +kernel
theorem dX5_far_151 : decode cX5_far 151 = .ok (.iload 4, 2) := by decide +kernel
theorem dX5_far_153 : decode cX5_far 153 = .ok (.iaload, 1) := by decide +kernel
theorem dX5_far_154 : decode cX5_far 154 = .ok (.ldc 54, 2) := by decide +kernel
theorem dX5_far_156 : decode cX5_far 156 = .ok (.invokestatic 59, 3) := by decide +kernel
theorem dX5_far_159 : decode cX5_far 159 = .ok (.iastore, 1) := by decide +kernel
theorem dX5_far_160 : decode cX5_far 160 = .ok (.iinc 4 1, 3) := by decide +kernel
theorem dX5_far_163 : decode cX5_far 163 = .ok (.goto (-23), 3) := by decide +kernel
theorem dX5_far_166 : decode cX5_far 166 = .ok (.aload_n 3, 1) := by decide +kernel
theorem dX5_far_167 : decode cX5_far 167 = .ok (.areturn, 1) := by decide +kernel
set_option maxRecDepth 20000 in
theorem ggX5_step_X5_takes : GoodIn wsX5_step wsX5_takes := goodIn_r _ [8, 3, 1, 9, 10, 7, 11, 12, 13, 14, 15, 16] (by decide +kernel) (by decide +kernel)
set_option maxRecDepth 20000 in
theorem gX5_step_X5_takes : GoodIn wsX5_step (wsV RX5 64 RX5 yX5_takes wsX5_takes) := goodIn_app (goodIn_of _ (by decide +kernel)) ggX5_step_X5_takes
set_option maxRecDepth 20000 in
theorem ggX5_step_X5_told : GoodIn wsX5_step wsX5_told := goodIn_r _ [11] (by decide +kernel) (by decide +kernel)
set_option maxRecDepth 20000 in
theorem gX5_step_X5_told : GoodIn wsX5_step (va_wsS RX5 42 yX5_told wsX5_told) := goodIn_app (goodIn_of _ (by decide +kernel)) ggX5_step_X5_told
theorem dX5_step_0 : decode cX5_step 0 = .ok (.iload_n 1, 1) := by decide +kernel
theorem dX5_step_1 : decode cX5_step 1 = .ok (.ifCond .ge 34, 3) := by decide +kernel
theorem dX5_step_4 : decode cX5_step 4 = .ok (.aload_n 0, 1) := by decide +kernel
theorem dX5_step_5 : decode cX5_step 5 = .ok (.getfield 25, 3) := by decide +kernel
theorem dX5_step_8 : decode cX5_step 8 = .ok (.iload_n 2, 1) := by decide +kernel
theorem dX5_step_9 : decode cX5_step 9 = .ok (.aaload, 1) := by decide +kernel
theorem dX5_step_10 : decode cX5_step 10 = .ok (.iconst 3, 1) := by decide +kernel
theorem dX5_step_11 : decode cX5_step 11 = .ok (.iaload, 1) := by decide +kernel
theorem dX5_step_12 : decode cX5_step 12 = .ok (.iconst 1, 1) := by decide +kernel
theorem dX5_step_13 : decode cX5_step 13 = .ok (.if_icmp .ne 19, 3) := by decide +kernel
theorem dX5_step_16 : decode cX5_step 16 = .ok (.bipush 100, 2) := by decide +kernel
theorem dX5_step_18 : decode cX5_step 18 = .ok (.aload_n 0, 1) := by decide +kernel
theorem dX5_step_19 : decode cX5_step 19 = .ok (.getfield 25, 3) := by decide +kernel
theorem dX5_step_22 : decode cX5_step 22 = .ok (.iload_n 2, 1) := by decide +kernel
theorem dX5_step_23 : decode cX5_step 23 = .ok (.aaload, 1) := by decide +kernel
theorem dX5_step_24 : decode cX5_step 24 = .ok (.iconst 2, 1) := by decide +kernel
theorem dX5_step_25 : decode cX5_step 25 = .ok (.iaload, 1) := by decide +kernel
theorem dX5_step_26 : decode cX5_step 26 = .ok (.imul, 1) := by decide +kernel
theorem dX5_step_27 : decode cX5_step 27 = .ok (.iconst 1, 1) := by decide +kernel
theorem dX5_step_28 : decode cX5_step 28 = .ok (.iadd, 1) := by decide +kernel
theorem dX5_step_29 : decode cX5_step 29 = .ok (.goto 5, 3) := by decide +kernel
theorem dX5_step_32 : decode cX5_step 32 = .ok (.ldc 54, 2) := by decide +kernel
theorem dX5_step_34 : decode cX5_step 34 = .ok (.ireturn, 1) := by decide +kernel
theorem dX5_step_35 : decode cX5_step 35 = .ok (.aload_n 0, 1) := by decide +kernel
theorem dX5_step_36 : decode cX5_step 36 = .ok (.iload_n 1, 1) := by decide +kernel
theorem dX5_step_37 : decode cX5_step 37 = .ok (.iload_n 2, 1) := by decide +kernel
theorem dX5_step_38 : decode cX5_step 38 = .ok (.invokevirtual 64, 3) := by decide +kernel
theorem dX5_step_41 : decode cX5_step 41 = .ok (.ifCond .eq 30, 3) := by decide +kernel
theorem dX5_step_44 : decode cX5_step 44 = .ok (.bipush 100, 2) := by decide +kernel
theorem dX5_step_46 : decode cX5_step 46 = .ok (.aload_n 0, 1) := by decide +kernel
theorem dX5_step_47 : decode cX5_step 47 = .ok (.getfield 20, 3) := by decide +kernel
theorem dX5_step_50 : decode cX5_step 50 = .ok (.iload_n 1, 1) := by decide +kernel
theorem dX5_step_51 : decode cX5_step 51 = .ok (.aaload, 1) := by decide +kernel
theorem dX5_step_52 : decode cX5_step 52 = .ok (.aload_n 0, 1) := by decide +kernel
theorem dX5_step_53 : decode cX5_step 53 = .ok (.getfield 25, 3) := by decide +kernel
theorem dX5_step_56 : decode cX5_step 56 = .ok (.iload_n 2, 1) := by decide +kernel
theorem dX5_step_57 : decode cX5_step 57 = .ok (.aaload, 1) := by decide +kernel
theorem dX5_step_58 : decode cX5_step 58 = .ok (.iload_n 3, 1) := by decide +kernel
theorem dX5_step_59 : decode cX5_step 59 = .ok (.iaload, 1) := by decide +kernel
theorem dX5_step_60 : decode cX5_step 60 = .ok (.aaload, 1) := by decide +kernel
theorem dX5_step_61 : decode cX5_step 61 = .ok (.iload_n 2, 1) := by decide +kernel
theorem dX5_step_62 : decode cX5_step 62 = .ok (.invokestatic 42, 3) := by decide +kernel
theorem dX5_step_65 : decode cX5_step 65 = .ok (.imul, 1) := by decide +kernel
theorem dX5_step_66 : decode cX5_step 66 = .ok (.iconst 1, 1) := by decide +kernel
theorem dX5_step_67 : decode cX5_step 67 = .ok (.iadd, 1) := by decide +kernel
theorem dX5_step_68 : decode cX5_step 68 = .ok (.goto 5, 3) := by decide +kernel
theorem dX5_step_71 : decode cX5_step 71 = .ok (.ldc 54, 2) := by decide +kernel
theorem dX5_step_73 : decode cX5_step 73 = .ok (.ireturn, 1) := by decide +kernel
set_option maxRecDepth 20000 in
theorem ggX5_first_X5_far : GoodIn wsX5_first wsX5_far := goodIn_r _ [7, 8, 9, 1, 2, 10, 11, 12, 13, 14, 15, 16, 6, 17, 18, 19, 20, 21, 22, 23, 24, 25, 26, 27, 28, 29, 30] (by decide +kernel) (by decide +kernel)
set_option maxRecDepth 20000 in
theorem gX5_first_X5_far : GoodIn wsX5_first (wsV RX5 68 RX5 yX5_far wsX5_far) := goodIn_app (goodIn_of _ (by decide +kernel)) ggX5_first_X5_far
set_option maxRecDepth 20000 in
theorem ggX5_first_X5_step : GoodIn wsX5_first wsX5_step := goodIn_r _ [17, 2, 1, 18, 19, 20, 21, 6, 22, 23, 24, 25, 26, 27, 28, 29, 30] (by decide +kernel) (by decide +kernel)
set_option maxRecDepth 20000 in
theorem gX5_first_X5_step : GoodIn wsX5_first (wsV RX5 55 RX5 yX5_step wsX5_step) := goodIn_app (goodIn_of _ (by decide +kernel)) ggX5_first_X5_step
theorem dX5_first_0 : decode cX5_first 0 = .ok (.iload_n 1, 1) := by decide +kernel
theorem dX5_first_1 : decode cX5_first 1 = .ok (.iload_n 2, 1) := by decide +kernel
theorem dX5_first_2 : decode cX5_first 2 = .ok (.if_icmp .ne 5, 3) := by decide +kernel
theorem dX5_first_5 : decode cX5_first 5 = .ok (.iload_n 1, 1) := by decide +kernel
theorem dX5_first_6 : decode cX5_first 6 = .ok (.ireturn, 1) := by decide +kernel
theorem dX5_first_7 : decode cX5_first 7 = .ok (.aload_n 0, 1) := by decide +kernel
theorem dX5_first_8 : decode cX5_first 8 = .ok (.iload_n 1, 1) := by decide +kernel
theorem dX5_first_9 : decode cX5_first 9 = .ok (.iload_n 2, 1) := by decide +kernel
theorem dX5_first_10 : decode cX5_first 10 = .ok (.invokevirtual 68, 3) := by decide +kernel
theorem dX5_first_13 : decode cX5_first 13 = .ok (.astore_n 3, 1) := by decide +kernel
theorem dX5_first_14 : decode cX5_first 14 = .ok (.iconst (-1), 1) := by decide +kernel
theorem dX5_first_15 : decode cX5_first 15 = .ok (.istore 4, 2) := by decide +kernel
theorem dX5_first_17 : decode cX5_first 17 = .ok (.aload_n 3, 1) := by decide +kernel
theorem dX5_first_18 : decode cX5_first 18 = .ok (.iload_n 1, 1) := by decide +kernel
theorem dX5_first_19 : decode cX5_first 19 = .ok (.iaload, 1) := by decide +kernel
theorem dX5_first_20 : decode cX5_first 20 = .ok (.ldc 54, 2) := by decide +kernel
theorem dX5_first_22 : decode cX5_first 22 = .ok (.if_icmp .lt 6, 3) := by decide +kernel
theorem dX5_first_25 : decode cX5_first 25 = .ok (.iload 4, 2) := by decide +kernel
theorem dX5_first_27 : decode cX5_first 27 = .ok (.ireturn, 1) := by decide +kernel
theorem dX5_first_28 : decode cX5_first 28 = .ok (.iconst 0, 1) := by decide +kernel
theorem dX5_first_29 : decode cX5_first 29 = .ok (.istore 5, 2) := by decide +kernel
theorem dX5_first_31 : decode cX5_first 31 = .ok (.iload 5, 2) := by decide +kernel
theorem dX5_first_33 : decode cX5_first 33 = .ok (.aload_n 0, 1) := by decide +kernel
theorem dX5_first_34 : decode cX5_first 34 = .ok (.getfield 25, 3) := by decide +kernel
theorem dX5_first_37 : decode cX5_first 37 = .ok (.arraylength, 1) := by decide +kernel
theorem dX5_first_38 : decode cX5_first 38 = .ok (.if_icmp .ge 88, 3) := by decide +kernel
theorem dX5_first_41 : decode cX5_first 41 = .ok (.iconst 0, 1) := by decide +kernel
theorem dX5_first_42 : decode cX5_first 42 = .ok (.istore 6, 2) := by decide +kernel
theorem dX5_first_44 : decode cX5_first 44 = .ok (.iload 6, 2) := by decide +kernel
theorem dX5_first_46 : decode cX5_first 46 = .ok (.iconst 2, 1) := by decide +kernel
theorem dX5_first_47 : decode cX5_first 47 = .ok (.if_icmp .ge 73, 3) := by decide +kernel
theorem dX5_first_50 : decode cX5_first 50 = .ok (.aload_n 0, 1) := by decide +kernel
theorem dX5_first_51 : decode cX5_first 51 = .ok (.getfield 25, 3) := by decide +kernel
theorem dX5_first_54 : decode cX5_first 54 = .ok (.iload 5, 2) := by decide +kernel
theorem dX5_first_56 : decode cX5_first 56 = .ok (.aaload, 1) := by decide +kernel
theorem dX5_first_57 : decode cX5_first 57 = .ok (.iconst 1, 1) := by decide +kernel
theorem dX5_first_58 : decode cX5_first 58 = .ok (.iload 6, 2) := by decide +kernel
theorem dX5_first_60 : decode cX5_first 60 = .ok (.isub, 1) := by decide +kernel
theorem dX5_first_61 : decode cX5_first 61 = .ok (.iaload, 1) := by decide +kernel
theorem dX5_first_62 : decode cX5_first 62 = .ok (.istore 7, 2) := by decide +kernel
theorem dX5_first_64 : decode cX5_first 64 = .ok (.aload_n 0, 1) := by decide +kernel
theorem dX5_first_65 : decode cX5_first 65 = .ok (.getfield 25, 3) := by decide +kernel
theorem dX5_first_68 : decode cX5_first 68 = .ok (.iload 5, 2) := by decide +kernel
theorem dX5_first_70 : decode cX5_first 70 = .ok (.aaload, 1) := by decide +kernel
theorem dX5_first_71 : decode cX5_first 71 = .ok (.iload 6, 2) := by decide +kernel
theorem dX5_first_73 : decode cX5_first 73 = .ok (.iaload, 1) := by decide +kernel
theorem dX5_first_74 : decode cX5_first 74 = .ok (.iload_n 1, 1) := by decide +kernel
theorem dX5_first_75 : decode cX5_first 75 = .ok (.if_icmp .ne 39, 3) := by decide +kernel
theorem dX5_first_78 : decode cX5_first 78 = .ok (.aload_n 0, 1) := by decide +kernel
theorem dX5_first_79 : decode cX5_first 79 = .ok (.iload_n 1, 1) := by decide +kernel
theorem dX5_first_80 : decode cX5_first 80 = .ok (.iload 5, 2) := by decide +kernel
theorem dX5_first_82 : decode cX5_first 82 = .ok (.iload 6, 2) := by decide +kernel
theorem dX5_first_84 : decode cX5_first 84 = .ok (.invokevirtual 55, 3) := by decide +kernel
theorem dX5_first_87 : decode cX5_first 87 = .ok (.aload_n 3, 1) := by decide +kernel
theorem dX5_first_88 : decode cX5_first 88 = .ok (.iload 7, 2) := by decide +kernel
theorem dX5_first_90 : decode cX5_first 90 = .ok (.iaload, 1) := by decide +kernel
theorem dX5_first_91 : decode cX5_first 91 = .ok (.iadd, 1) := by decide +kernel
theorem dX5_first_92 : decode cX5_first 92 = .ok (.aload_n 3, 1) := by decide +kernel
theorem dX5_first_93 : decode cX5_first 93 = .ok (.iload_n 1, 1) := by decide +kernel
theorem dX5_first_94 : decode cX5_first 94 = .ok (.iaload, 1) := by decide +kernel
theorem dX5_first_95 : decode cX5_first 95 = .ok (.if_icmp .ne 19, 3) := by decide +kernel
theorem dX5_first_98 : decode cX5_first 98 = .ok (.iload 4, 2) := by decide +kernel
theorem dX5_first_100 : decode cX5_first 100 = .ok (.ifCond .lt 10, 3) := by decide +kernel
theorem dX5_first_103 : decode cX5_first 103 = .ok (.iload 7, 2) := by decide +kernel
theorem dX5_first_105 : decode cX5_first 105 = .ok (.iload 4, 2) := by decide +kernel
theorem dX5_first_107 : decode cX5_first 107 = .ok (.if_icmp .ge 7, 3) := by decide +kernel
theorem dX5_first_110 : decode cX5_first 110 = .ok (.iload 7, 2) := by decide +kernel
theorem dX5_first_112 : decode cX5_first 112 = .ok (.istore 4, 2) := by decide +kernel
theorem dX5_first_114 : decode cX5_first 114 = .ok (.iinc 6 1, 3) := by decide +kernel
theorem dX5_first_117 : decode cX5_first 117 = .ok (.goto (-73), 3) := by decide +kernel
theorem dX5_first_120 : decode cX5_first 120 = .ok (.iinc 5 1, 3) := by decide +kernel
theorem dX5_first_123 : decode cX5_first 123 = .ok (.goto (-92), 3) := by decide +kernel
theorem dX5_first_126 : decode cX5_first 126 = .ok (.iload 4, 2) := by decide +kernel
theorem dX5_first_128 : decode cX5_first 128 = .ok (.ireturn, 1) := by decide +kernel
set_option maxRecDepth 20000 in
theorem ggX5_post_X5_first : GoodIn wsX5_post wsX5_first := goodIn_r _ [6, 7, 1, 8, 9, 10, 5, 11, 12, 13, 14, 15, 16, 17, 18, 19, 20, 21, 22, 23, 24, 25, 26, 27, 28, 29, 30, 31, 32, 33, 34] (by decide +kernel) (by decide +kernel)
set_option maxRecDepth 20000 in
theorem gX5_post_X5_first : GoodIn wsX5_post (wsV RX5 72 RX5 yX5_first wsX5_first) := goodIn_app (goodIn_of _ (by decide +kernel)) ggX5_post_X5_first
theorem dX5_post_0 : decode cX5_post 0 = .ok (.iload_n 1, 1) := by decide +kernel
theorem dX5_post_1 : decode cX5_post 1 = .ok (.istore_n 3, 1) := by decide +kernel
theorem dX5_post_2 : decode cX5_post 2 = .ok (.iconst 0, 1) := by decide +kernel
theorem dX5_post_3 : decode cX5_post 3 = .ok (.istore 4, 2) := by decide +kernel
theorem dX5_post_5 : decode cX5_post 5 = .ok (.iload 4, 2) := by decide +kernel
theorem dX5_post_7 : decode cX5_post 7 = .ok (.bipush 20, 2) := by decide +kernel
theorem dX5_post_9 : decode cX5_post 9 = .ok (.if_icmp .gt 129, 3) := by decide +kernel
theorem dX5_post_12 : decode cX5_post 12 = .ok (.iload_n 3, 1) := by decide +kernel
theorem dX5_post_13 : decode cX5_post 13 = .ok (.iload_n 2, 1) := by decide +kernel
theorem dX5_post_14 : decode cX5_post 14 = .ok (.if_icmp .ne 6, 3) := by decide +kernel
theorem dX5_post_17 : decode cX5_post 17 = .ok (.iload 4, 2) := by decide +kernel
theorem dX5_post_19 : decode cX5_post 19 = .ok (.ireturn, 1) := by decide +kernel
theorem dX5_post_20 : decode cX5_post 20 = .ok (.aload_n 0, 1) := by decide +kernel
theorem dX5_post_21 : decode cX5_post 21 = .ok (.iload_n 3, 1) := by decide +kernel
theorem dX5_post_22 : decode cX5_post 22 = .ok (.iload_n 2, 1) := by decide +kernel
theorem dX5_post_23 : decode cX5_post 23 = .ok (.invokevirtual 72, 3) := by decide +kernel
theorem dX5_post_26 : decode cX5_post 26 = .ok (.istore 5, 2) := by decide +kernel
theorem dX5_post_28 : decode cX5_post 28 = .ok (.iconst 0, 1) := by decide +kernel
theorem dX5_post_29 : decode cX5_post 29 = .ok (.istore 6, 2) := by decide +kernel
theorem dX5_post_31 : decode cX5_post 31 = .ok (.aload_n 0, 1) := by decide +kernel
theorem dX5_post_32 : decode cX5_post 32 = .ok (.getfield 25, 3) := by decide +kernel
theorem dX5_post_35 : decode cX5_post 35 = .ok (.astore 7, 2) := by decide +kernel
theorem dX5_post_37 : decode cX5_post 37 = .ok (.aload 7, 2) := by decide +kernel
theorem dX5_post_39 : decode cX5_post 39 = .ok (.arraylength, 1) := by decide +kernel
theorem dX5_post_40 : decode cX5_post 40 = .ok (.istore 8, 2) := by decide +kernel
theorem dX5_post_42 : decode cX5_post 42 = .ok (.iconst 0, 1) := by decide +kernel
theorem dX5_post_43 : decode cX5_post 43 = .ok (.istore 9, 2) := by decide +kernel
theorem dX5_post_45 : decode cX5_post 45 = .ok (.iload 9, 2) := by decide +kernel
theorem dX5_post_47 : decode cX5_post 47 = .ok (.iload 8, 2) := by decide +kernel
theorem dX5_post_49 : decode cX5_post 49 = .ok (.if_icmp .ge 68, 3) := by decide +kernel
theorem dX5_post_52 : decode cX5_post 52 = .ok (.aload 7, 2) := by decide +kernel
theorem dX5_post_54 : decode cX5_post 54 = .ok (.iload 9, 2) := by decide +kernel
theorem dX5_post_56 : decode cX5_post 56 = .ok (.aaload, 1) := by decide +kernel
theorem dX5_post_57 : decode cX5_post 57 = .ok (.astore 10, 2) := by decide +kernel
theorem dX5_post_59 : decode cX5_post 59 = .ok (.iload 6, 2) := by decide +kernel
theorem dX5_post_61 : decode cX5_post 61 = .ok (.aload 10, 2) := by decide +kernel
theorem dX5_post_63 : decode cX5_post 63 = .ok (.iconst 3, 1) := by decide +kernel
theorem dX5_post_64 : decode cX5_post 64 = .ok (.iaload, 1) := by decide +kernel
theorem dX5_post_65 : decode cX5_post 65 = .ok (.iconst 1, 1) := by decide +kernel
theorem dX5_post_66 : decode cX5_post 66 = .ok (.if_icmp .ne 41, 3) := by decide +kernel
theorem dX5_post_69 : decode cX5_post 69 = .ok (.aload 10, 2) := by decide +kernel
theorem dX5_post_71 : decode cX5_post 71 = .ok (.iconst 0, 1) := by decide +kernel
theorem dX5_post_72 : decode cX5_post 72 = .ok (.iaload, 1) := by decide +kernel
theorem dX5_post_73 : decode cX5_post 73 = .ok (.iload_n 3, 1) := by decide +kernel
theorem dX5_post_74 : decode cX5_post 74 = .ok (.if_icmp .ne 12, 3) := by decide +kernel
theorem dX5_post_77 : decode cX5_post 77 = .ok (.aload 10, 2) := by decide +kernel
theorem dX5_post_79 : decode cX5_post 79 = .ok (.iconst 1, 1) := by decide +kernel
theorem dX5_post_80 : decode cX5_post 80 = .ok (.iaload, 1) := by decide +kernel
theorem dX5_post_81 : decode cX5_post 81 = .ok (.iload 5, 2) := by decide +kernel
theorem dX5_post_83 : decode cX5_post 83 = .ok (.if_icmp .eq 20, 3) := by decide +kernel
theorem dX5_post_86 : decode cX5_post 86 = .ok (.aload 10, 2) := by decide +kernel
theorem dX5_post_88 : decode cX5_post 88 = .ok (.iconst 1, 1) := by decide +kernel
theorem dX5_post_89 : decode cX5_post 89 = .ok (.iaload, 1) := by decide +kernel
theorem dX5_post_90 : decode cX5_post 90 = .ok (.iload_n 3, 1) := by decide +kernel
theorem dX5_post_91 : decode cX5_post 91 = .ok (.if_icmp .ne 16, 3) := by decide +kernel
theorem dX5_post_94 : decode cX5_post 94 = .ok (.aload 10, 2) := by decide +kernel
theorem dX5_post_96 : decode cX5_post 96 = .ok (.iconst 0, 1) := by decide +kernel
theorem dX5_post_97 : decode cX5_post 97 = .ok (.iaload, 1) := by decide +kernel
theorem dX5_post_98 : decode cX5_post 98 = .ok (.iload 5, 2) := by decide +kernel
theorem dX5_post_100 : decode cX5_post 100 = .ok (.if_icmp .ne 7, 3) := by decide +kernel
theorem dX5_post_103 : decode cX5_post 103 = .ok (.iconst 1, 1) := by decide +kernel
theorem dX5_post_104 : decode cX5_post 104 = .ok (.goto 4, 3) := by decide +kernel
theorem dX5_post_107 : decode cX5_post 107 = .ok (.iconst 0, 1) := by decide +kernel
theorem dX5_post_108 : decode cX5_post 108 = .ok (.ior, 1) := by decide +kernel
theorem dX5_post_109 : decode cX5_post 109 = .ok (.istore 6, 2) := by decide +kernel
theorem dX5_post_111 : decode cX5_post 111 = .ok (.iinc 9 1, 3) := by decide +kernel
theorem dX5_post_114 : decode cX5_post 114 = .ok (.goto (-69), 3) := by decide +kernel
theorem dX5_post_117 : decode cX5_post 117 = .ok (.iload 5, 2) := by decide +kernel
theorem dX5_post_119 : decode cX5_post 119 = .ok (.ifCond .lt 8, 3) := by decide +kernel
theorem dX5_post_122 : decode cX5_post 122 = .ok (.iload 6, 2) := by decide +kernel
theorem dX5_post_124 : decode cX5_post 124 = .ok (.ifCond .ne 5, 3) := by decide +kernel
theorem dX5_post_127 : decode cX5_post 127 = .ok (.iconst (-1), 1) := by decide +kernel
theorem dX5_post_128 : decode cX5_post 128 = .ok (.ireturn, 1) := by decide +kernel
theorem dX5_post_129 : decode cX5_post 129 = .ok (.iload 5, 2) := by decide +kernel
theorem dX5_post_131 : decode cX5_post 131 = .ok (.istore_n 3, 1) := by decide +kernel
theorem dX5_post_132 : decode cX5_post 132 = .ok (.iinc 4 1, 3) := by decide +kernel
theorem dX5_post_135 : decode cX5_post 135 = .ok (.goto (-130), 3) := by decide +kernel
theorem dX5_post_138 : decode cX5_post 138 = .ok (.iconst (-1), 1) := by decide +kernel
theorem dX5_post_139 : decode cX5_post 139 = .ok (.ireturn, 1) := by decide +kernel
theorem dX5_sheetsOf_0 : decode cX5_sheetsOf 0 = .ok (.iconst 0, 1) := by decide +kernel
theorem dX5_sheetsOf_1 : decode cX5_sheetsOf 1 = .ok (.istore_n 2, 1) := by decide +kernel
theorem dX5_sheetsOf_2 : decode cX5_sheetsOf 2 = .ok (.aload_n 0, 1) := by decide +kernel
theorem dX5_sheetsOf_3 : decode cX5_sheetsOf 3 = .ok (.getfield 20, 3) := by decide +kernel
theorem dX5_sheetsOf_6 : decode cX5_sheetsOf 6 = .ok (.iload_n 1, 1) := by decide +kernel
theorem dX5_sheetsOf_7 : decode cX5_sheetsOf 7 = .ok (.aaload, 1) := by decide +kernel
theorem dX5_sheetsOf_8 : decode cX5_sheetsOf 8 = .ok (.astore_n 3, 1) := by decide +kernel
theorem dX5_sheetsOf_9 : decode cX5_sheetsOf 9 = .ok (.aload_n 3, 1) := by decide +kernel
theorem dX5_sheetsOf_10 : decode cX5_sheetsOf 10 = .ok (.arraylength, 1) := by decide +kernel
theorem dX5_sheetsOf_11 : decode cX5_sheetsOf 11 = .ok (.istore 4, 2) := by decide +kernel
theorem dX5_sheetsOf_13 : decode cX5_sheetsOf 13 = .ok (.iconst 0, 1) := by decide +kernel
theorem dX5_sheetsOf_14 : decode cX5_sheetsOf 14 = .ok (.istore 5, 2) := by decide +kernel
theorem dX5_sheetsOf_16 : decode cX5_sheetsOf 16 = .ok (.iload 5, 2) := by decide +kernel
theorem dX5_sheetsOf_18 : decode cX5_sheetsOf 18 = .ok (.iload 4, 2) := by decide +kernel
theorem dX5_sheetsOf_20 : decode cX5_sheetsOf 20 = .ok (.if_icmp .ge 29, 3) := by decide +kernel
theorem dX5_sheetsOf_23 : decode cX5_sheetsOf 23 = .ok (.aload_n 3, 1) := by decide +kernel
theorem dX5_sheetsOf_24 : decode cX5_sheetsOf 24 = .ok (.iload 5, 2) := by decide +kernel
theorem dX5_sheetsOf_26 : decode cX5_sheetsOf 26 = .ok (.aaload, 1) := by decide +kernel
theorem dX5_sheetsOf_27 : decode cX5_sheetsOf 27 = .ok (.astore 6, 2) := by decide +kernel
theorem dX5_sheetsOf_29 : decode cX5_sheetsOf 29 = .ok (.iload_n 2, 1) := by decide +kernel
theorem dX5_sheetsOf_30 : decode cX5_sheetsOf 30 = .ok (.aload 6, 2) := by decide +kernel
theorem dX5_sheetsOf_32 : decode cX5_sheetsOf 32 = .ok (.arraylength, 1) := by decide +kernel
theorem dX5_sheetsOf_33 : decode cX5_sheetsOf 33 = .ok (.ifCond .le 7, 3) := by decide +kernel
theorem dX5_sheetsOf_36 : decode cX5_sheetsOf 36 = .ok (.iconst 1, 1) := by decide +kernel
theorem dX5_sheetsOf_37 : decode cX5_sheetsOf 37 = .ok (.goto 4, 3) := by decide +kernel
theorem dX5_sheetsOf_40 : decode cX5_sheetsOf 40 = .ok (.iconst 0, 1) := by decide +kernel
theorem dX5_sheetsOf_41 : decode cX5_sheetsOf 41 = .ok (.iadd, 1) := by decide +kernel
theorem dX5_sheetsOf_42 : decode cX5_sheetsOf 42 = .ok (.istore_n 2, 1) := by decide +kernel
theorem dX5_sheetsOf_43 : decode cX5_sheetsOf 43 = .ok (.iinc 5 1, 3) := by decide +kernel
theorem dX5_sheetsOf_46 : decode cX5_sheetsOf 46 = .ok (.goto (-30), 3) := by decide +kernel
theorem dX5_sheetsOf_49 : decode cX5_sheetsOf 49 = .ok (.iload_n 2, 1) := by decide +kernel
theorem dX5_sheetsOf_50 : decode cX5_sheetsOf 50 = .ok (.ireturn, 1) := by decide +kernel
set_option maxRecDepth 20000 in
theorem ggX5_allSheets_X5_sheetsOf : GoodIn wsX5_allSheets wsX5_sheetsOf := goodIn_r _ [6, 7, 8, 9, 10, 11, 12] (by decide +kernel) (by decide +kernel)
set_option maxRecDepth 20000 in
theorem gX5_allSheets_X5_sheetsOf : GoodIn wsX5_allSheets (wsV RX5 75 RX5 yX5_sheetsOf wsX5_sheetsOf) := goodIn_app (goodIn_of _ (by decide +kernel)) ggX5_allSheets_X5_sheetsOf
theorem dX5_allSheets_0 : decode cX5_allSheets 0 = .ok (.iconst 0, 1) := by decide +kernel
theorem dX5_allSheets_1 : decode cX5_allSheets 1 = .ok (.istore_n 1, 1) := by decide +kernel
theorem dX5_allSheets_2 : decode cX5_allSheets 2 = .ok (.iconst 0, 1) := by decide +kernel
theorem dX5_allSheets_3 : decode cX5_allSheets 3 = .ok (.istore_n 2, 1) := by decide +kernel
theorem dX5_allSheets_4 : decode cX5_allSheets 4 = .ok (.iload_n 2, 1) := by decide +kernel
theorem dX5_allSheets_5 : decode cX5_allSheets 5 = .ok (.aload_n 0, 1) := by decide +kernel
theorem dX5_allSheets_6 : decode cX5_allSheets 6 = .ok (.getfield 9, 3) := by decide +kernel
theorem dX5_allSheets_9 : decode cX5_allSheets 9 = .ok (.arraylength, 1) := by decide +kernel
theorem dX5_allSheets_10 : decode cX5_allSheets 10 = .ok (.if_icmp .ge 17, 3) := by decide +kernel
theorem dX5_allSheets_13 : decode cX5_allSheets 13 = .ok (.iload_n 1, 1) := by decide +kernel
theorem dX5_allSheets_14 : decode cX5_allSheets 14 = .ok (.aload_n 0, 1) := by decide +kernel
theorem dX5_allSheets_15 : decode cX5_allSheets 15 = .ok (.iload_n 2, 1) := by decide +kernel
theorem dX5_allSheets_16 : decode cX5_allSheets 16 = .ok (.invokevirtual 75, 3) := by decide +kernel
theorem dX5_allSheets_19 : decode cX5_allSheets 19 = .ok (.iadd, 1) := by decide +kernel
theorem dX5_allSheets_20 : decode cX5_allSheets 20 = .ok (.istore_n 1, 1) := by decide +kernel
theorem dX5_allSheets_21 : decode cX5_allSheets 21 = .ok (.iinc 2 1, 3) := by decide +kernel
theorem dX5_allSheets_24 : decode cX5_allSheets 24 = .ok (.goto (-20), 3) := by decide +kernel
theorem dX5_allSheets_27 : decode cX5_allSheets 27 = .ok (.iload_n 1, 1) := by decide +kernel
theorem dX5_allSheets_28 : decode cX5_allSheets 28 = .ok (.ireturn, 1) := by decide +kernel
set_option maxRecDepth 20000 in
theorem ggX5_pairs_X5_post : GoodIn wsX5_pairs wsX5_post := goodIn_r _ [7, 8, 9, 10, 11, 6, 12, 2, 13, 14, 15, 16, 1, 17, 18, 19, 20, 21, 22, 23, 24, 25, 26, 27, 28, 29, 30, 31, 32, 33, 34, 35, 36, 37, 38] (by decide +kernel) (by decide +kernel)
set_option maxRecDepth 20000 in
theorem gX5_pairs_X5_post : GoodIn wsX5_pairs (wsV RX5 79 RX5 yX5_post wsX5_post) := goodIn_app (goodIn_of _ (by decide +kernel)) ggX5_pairs_X5_post
set_option maxRecDepth 20000 in
theorem ggX5_pairs_X5_far : GoodIn wsX5_pairs wsX5_far := goodIn_r _ [16, 1, 17, 2, 8, 18, 19, 20, 21, 22, 23, 24, 6, 25, 26, 27, 28, 29, 30, 31, 32, 33, 34, 35, 36, 37, 38] (by decide +kernel) (by decide +kernel)
set_option maxRecDepth 20000 in
theorem gX5_pairs_X5_far : GoodIn wsX5_pairs (wsV RX5 68 RX5 yX5_far wsX5_far) := goodIn_app (goodIn_of _ (by decide +kernel)) ggX5_pairs_X5_far
theorem dX5_pairs_0 : decode cX5_pairs 0 = .ok (.iconst 0, 1) := by decide +kernel
theorem dX5_pairs_1 : decode cX5_pairs 1 = .ok (.istore_n 2, 1) := by decide +kernel
theorem dX5_pairs_2 : decode cX5_pairs 2 = .ok (.iconst 0, 1) := by decide +kernel
theorem dX5_pairs_3 : decode cX5_pairs 3 = .ok (.istore_n 3, 1) := by decide +kernel
theorem dX5_pairs_4 : decode cX5_pairs 4 = .ok (.iload_n 3, 1) := by decide +kernel
theorem dX5_pairs_5 : decode cX5_pairs 5 = .ok (.aload_n 0, 1) := by decide +kernel
theorem dX5_pairs_6 : decode cX5_pairs 6 = .ok (.getfield 9, 3) := by decide +kernel
theorem dX5_pairs_9 : decode cX5_pairs 9 = .ok (.arraylength, 1) := by decide +kernel
theorem dX5_pairs_10 : decode cX5_pairs 10 = .ok (.if_icmp .ge 73, 3) := by decide +kernel
theorem dX5_pairs_13 : decode cX5_pairs 13 = .ok (.iconst 0, 1) := by decide +kernel
theorem dX5_pairs_14 : decode cX5_pairs 14 = .ok (.istore 4, 2) := by decide +kernel
theorem dX5_pairs_16 : decode cX5_pairs 16 = .ok (.iload 4, 2) := by decide +kernel
theorem dX5_pairs_18 : decode cX5_pairs 18 = .ok (.aload_n 0, 1) := by decide +kernel
theorem dX5_pairs_19 : decode cX5_pairs 19 = .ok (.getfield 9, 3) := by decide +kernel
theorem dX5_pairs_22 : decode cX5_pairs 22 = .ok (.arraylength, 1) := by decide +kernel
theorem dX5_pairs_23 : decode cX5_pairs 23 = .ok (.if_icmp .ge 54, 3) := by decide +kernel
theorem dX5_pairs_26 : decode cX5_pairs 26 = .ok (.iload_n 2, 1) := by decide +kernel
theorem dX5_pairs_27 : decode cX5_pairs 27 = .ok (.iload_n 3, 1) := by decide +kernel
theorem dX5_pairs_28 : decode cX5_pairs 28 = .ok (.iload 4, 2) := by decide +kernel
theorem dX5_pairs_30 : decode cX5_pairs 30 = .ok (.if_icmp .eq 38, 3) := by decide +kernel
theorem dX5_pairs_33 : decode cX5_pairs 33 = .ok (.iload_n 1, 1) := by decide +kernel
theorem dX5_pairs_34 : decode cX5_pairs 34 = .ok (.ifCond .eq 16, 3) := by decide +kernel
theorem dX5_pairs_37 : decode cX5_pairs 37 = .ok (.aload_n 0, 1) := by decide +kernel
theorem dX5_pairs_38 : decode cX5_pairs 38 = .ok (.iload_n 3, 1) := by decide +kernel
theorem dX5_pairs_39 : decode cX5_pairs 39 = .ok (.iload 4, 2) := by decide +kernel
theorem dX5_pairs_41 : decode cX5_pairs 41 = .ok (.invokevirtual 79, 3) := by decide +kernel
theorem dX5_pairs_44 : decode cX5_pairs 44 = .ok (.ifCond .lt 24, 3) := by decide +kernel
theorem dX5_pairs_47 : decode cX5_pairs 47 = .ok (.goto 17, 3) := by decide +kernel
theorem dX5_pairs_50 : decode cX5_pairs 50 = .ok (.aload_n 0, 1) := by decide +kernel
theorem dX5_pairs_51 : decode cX5_pairs 51 = .ok (.iconst (-1), 1) := by decide +kernel
theorem dX5_pairs_52 : decode cX5_pairs 52 = .ok (.iload 4, 2) := by decide +kernel
theorem dX5_pairs_54 : decode cX5_pairs 54 = .ok (.invokevirtual 68, 3) := by decide +kernel
theorem dX5_pairs_57 : decode cX5_pairs 57 = .ok (.iload_n 3, 1) := by decide +kernel
theorem dX5_pairs_58 : decode cX5_pairs 58 = .ok (.iaload, 1) := by decide +kernel
theorem dX5_pairs_59 : decode cX5_pairs 59 = .ok (.ldc 54, 2) := by decide +kernel
theorem dX5_pairs_61 : decode cX5_pairs 61 = .ok (.if_icmp .ge 7, 3) := by decide +kernel
theorem dX5_pairs_64 : decode cX5_pairs 64 = .ok (.iconst 1, 1) := by decide +kernel
theorem dX5_pairs_65 : decode cX5_pairs 65 = .ok (.goto 4, 3) := by decide +kernel
theorem dX5_pairs_68 : decode cX5_pairs 68 = .ok (.iconst 0, 1) := by decide +kernel
theorem dX5_pairs_69 : decode cX5_pairs 69 = .ok (.iadd, 1) := by decide +kernel
theorem dX5_pairs_70 : decode cX5_pairs 70 = .ok (.istore_n 2, 1) := by decide +kernel
theorem dX5_pairs_71 : decode cX5_pairs 71 = .ok (.iinc 4 1, 3) := by decide +kernel
theorem dX5_pairs_74 : decode cX5_pairs 74 = .ok (.goto (-58), 3) := by decide +kernel
theorem dX5_pairs_77 : decode cX5_pairs 77 = .ok (.iinc 3 1, 3) := by decide +kernel
theorem dX5_pairs_80 : decode cX5_pairs 80 = .ok (.goto (-76), 3) := by decide +kernel
theorem dX5_pairs_83 : decode cX5_pairs 83 = .ok (.iload_n 2, 1) := by decide +kernel
theorem dX5_pairs_84 : decode cX5_pairs 84 = .ok (.ireturn, 1) := by decide +kernel
