theorem dX8_init_0 : decode cX8_init 0 = .ok (.aload_n 0, 1) := by decide +kernel
theorem dX8_init_1 : decode cX8_init 1 = .ok (.invokespecial 1, 3) := by decide +kernel
theorem dX8_init_4 : decode cX8_init 4 = .ok (.aload_n 0, 1) := by decide +kernel
theorem dX8_init_5 : decode cX8_init 5 = .ok (.bipush 8, 2) := by decide +kernel
theorem dX8_init_7 : decode cX8_init 7 = .ok (.newarray .int, 2) := by decide +kernel
theorem dX8_init_9 : decode cX8_init 9 = .ok (.putfield 7, 3) := by decide +kernel
theorem dX8_init_12 : decode cX8_init 12 = .ok (.aload_n 0, 1) := by decide +kernel
theorem dX8_init_13 : decode cX8_init 13 = .ok (.bipush 8, 2) := by decide +kernel
theorem dX8_init_15 : decode cX8_init 15 = .ok (.newarray .int, 2) := by decide +kernel
theorem dX8_init_17 : decode cX8_init 17 = .ok (.putfield 13, 3) := by decide +kernel
theorem dX8_init_20 : decode cX8_init 20 = .ok (.aload_n 0, 1) := by decide +kernel
theorem dX8_init_21 : decode cX8_init 21 = .ok (.sipush 320, 3) := by decide +kernel
theorem dX8_init_24 : decode cX8_init 24 = .ok (.newarray .int, 2) := by decide +kernel
theorem dX8_init_26 : decode cX8_init 26 = .ok (.putfield 16, 3) := by decide +kernel
theorem dX8_init_29 : decode cX8_init 29 = .ok (.aload_n 0, 1) := by decide +kernel
theorem dX8_init_30 : decode cX8_init 30 = .ok (.sipush 400, 3) := by decide +kernel
theorem dX8_init_33 : decode cX8_init 33 = .ok (.newarray .int, 2) := by decide +kernel
theorem dX8_init_35 : decode cX8_init 35 = .ok (.putfield 19, 3) := by decide +kernel
theorem dX8_init_38 : decode cX8_init 38 = .ok (.aload_n 0, 1) := by decide +kernel
theorem dX8_init_39 : decode cX8_init 39 = .ok (.bipush 93, 2) := by decide +kernel
theorem dX8_init_41 : decode cX8_init 41 = .ok (.newarray .int, 2) := by decide +kernel
theorem dX8_init_43 : decode cX8_init 43 = .ok (.putfield 22, 3) := by decide +kernel
theorem dX8_init_46 : decode cX8_init 46 = .ok (.aload_n 0, 1) := by decide +kernel
theorem dX8_init_47 : decode cX8_init 47 = .ok (.bipush 93, 2) := by decide +kernel
theorem dX8_init_49 : decode cX8_init 49 = .ok (.newarray .int, 2) := by decide +kernel
theorem dX8_init_51 : decode cX8_init 51 = .ok (.putfield 25, 3) := by decide +kernel
theorem dX8_init_54 : decode cX8_init 54 = .ok (.aload_n 0, 1) := by decide +kernel
theorem dX8_init_55 : decode cX8_init 55 = .ok (.bipush 93, 2) := by decide +kernel
theorem dX8_init_57 : decode cX8_init 57 = .ok (.newarray .int, 2) := by decide +kernel
theorem dX8_init_59 : decode cX8_init 59 = .ok (.putfield 28, 3) := by decide +kernel
theorem dX8_init_62 : decode cX8_init 62 = .ok (.aload_n 0, 1) := by decide +kernel
theorem dX8_init_63 : decode cX8_init 63 = .ok (.bipush 93, 2) := by decide +kernel
theorem dX8_init_65 : decode cX8_init 65 = .ok (.newarray .int, 2) := by decide +kernel
theorem dX8_init_67 : decode cX8_init 67 = .ok (.putfield 31, 3) := by decide +kernel
theorem dX8_init_70 : decode cX8_init 70 = .ok (.aload_n 0, 1) := by decide +kernel
theorem dX8_init_71 : decode cX8_init 71 = .ok (.bipush 16, 2) := by decide +kernel
theorem dX8_init_73 : decode cX8_init 73 = .ok (.newarray .int, 2) := by decide +kernel
theorem dX8_init_75 : decode cX8_init 75 = .ok (.putfield 34, 3) := by decide +kernel
theorem dX8_init_78 : decode cX8_init 78 = .ok (.aload_n 0, 1) := by decide +kernel
theorem dX8_init_79 : decode cX8_init 79 = .ok (.bipush 40, 2) := by decide +kernel
theorem dX8_init_81 : decode cX8_init 81 = .ok (.newarray .int, 2) := by decide +kernel
theorem dX8_init_83 : decode cX8_init 83 = .ok (.putfield 37, 3) := by decide +kernel
theorem dX8_init_86 : decode cX8_init 86 = .ok (.aload_n 0, 1) := by decide +kernel
theorem dX8_init_87 : decode cX8_init 87 = .ok (.bipush 8, 2) := by decide +kernel
theorem dX8_init_89 : decode cX8_init 89 = .ok (.newarray .int, 2) := by decide +kernel
theorem dX8_init_91 : decode cX8_init 91 = .ok (.putfield 40, 3) := by decide +kernel
theorem dX8_init_94 : decode cX8_init 94 = .ok (.aload_n 0, 1) := by decide +kernel
theorem dX8_init_95 : decode cX8_init 95 = .ok (.bipush 8, 2) := by decide +kernel
theorem dX8_init_97 : decode cX8_init 97 = .ok (.newarray .int, 2) := by decide +kernel
theorem dX8_init_99 : decode cX8_init 99 = .ok (.putfield 43, 3) := by decide +kernel
theorem dX8_init_102 : decode cX8_init 102 = .ok (.iconst 0, 1) := by decide +kernel
theorem dX8_init_103 : decode cX8_init 103 = .ok (.istore_n 1, 1) := by decide +kernel
theorem dX8_init_104 : decode cX8_init 104 = .ok (.iload_n 1, 1) := by decide +kernel
theorem dX8_init_105 : decode cX8_init 105 = .ok (.bipush 8, 2) := by decide +kernel
theorem dX8_init_107 : decode cX8_init 107 = .ok (.if_icmp .ge 16, 3) := by decide +kernel
theorem dX8_init_110 : decode cX8_init 110 = .ok (.aload_n 0, 1) := by decide +kernel
theorem dX8_init_111 : decode cX8_init 111 = .ok (.getfield 7, 3) := by decide +kernel
theorem dX8_init_114 : decode cX8_init 114 = .ok (.iload_n 1, 1) := by decide +kernel
theorem dX8_init_115 : decode cX8_init 115 = .ok (.iconst (-1), 1) := by decide +kernel
theorem dX8_init_116 : decode cX8_init 116 = .ok (.iastore, 1) := by decide +kernel
theorem dX8_init_117 : decode cX8_init 117 = .ok (.iinc 1 1, 3) := by decide +kernel
theorem dX8_init_120 : decode cX8_init 120 = .ok (.goto (-16), 3) := by decide +kernel
theorem dX8_init_123 : decode cX8_init 123 = .ok (.return_, 1) := by decide +kernel
theorem dX8_in_0 : decode cX8_in 0 = .ok (.lload_n 0, 1) := by decide +kernel
theorem dX8_in_1 : decode cX8_in 1 = .ok (.lload_n 2, 1) := by decide +kernel
theorem dX8_in_2 : decode cX8_in 2 = .ok (.lcmp, 1) := by decide +kernel
theorem dX8_in_3 : decode cX8_in 3 = .ok (.ifCond .lt 14, 3) := by decide +kernel
theorem dX8_in_6 : decode cX8_in 6 = .ok (.lload_n 0, 1) := by decide +kernel
theorem dX8_in_7 : decode cX8_in 7 = .ok (.lload 4, 2) := by decide +kernel
theorem dX8_in_9 : decode cX8_in 9 = .ok (.lcmp, 1) := by decide +kernel
theorem dX8_in_10 : decode cX8_in 10 = .ok (.ifCond .gt 7, 3) := by decide +kernel
theorem dX8_in_13 : decode cX8_in 13 = .ok (.iconst 1, 1) := by decide +kernel
theorem dX8_in_14 : decode cX8_in 14 = .ok (.goto 4, 3) := by decide +kernel
theorem dX8_in_17 : decode cX8_in 17 = .ok (.iconst 0, 1) := by decide +kernel
theorem dX8_in_18 : decode cX8_in 18 = .ok (.ireturn, 1) := by decide +kernel
theorem dX8_has_0 : decode cX8_has 0 = .ok (.iload_n 0, 1) := by decide +kernel
theorem dX8_has_1 : decode cX8_has 1 = .ok (.iload_n 1, 1) := by decide +kernel
theorem dX8_has_2 : decode cX8_has 2 = .ok (.ishr, 1) := by decide +kernel
theorem dX8_has_3 : decode cX8_has 3 = .ok (.iconst 1, 1) := by decide +kernel
theorem dX8_has_4 : decode cX8_has 4 = .ok (.iand, 1) := by decide +kernel
theorem dX8_has_5 : decode cX8_has 5 = .ok (.iconst 1, 1) := by decide +kernel
theorem dX8_has_6 : decode cX8_has 6 = .ok (.if_icmp .ne 7, 3) := by decide +kernel
theorem dX8_has_9 : decode cX8_has 9 = .ok (.iconst 1, 1) := by decide +kernel
theorem dX8_has_10 : decode cX8_has 10 = .ok (.goto 4, 3) := by decide +kernel
theorem dX8_has_13 : decode cX8_has 13 = .ok (.iconst 0, 1) := by decide +kernel
theorem dX8_has_14 : decode cX8_has 14 = .ok (.ireturn, 1) := by decide +kernel
theorem dX8_found_0 : decode cX8_found 0 = .ok (.aload_n 0, 1) := by decide +kernel
theorem dX8_found_1 : decode cX8_found 1 = .ok (.iload_n 1, 1) := by decide +kernel
theorem dX8_found_2 : decode cX8_found 2 = .ok (.putfield 46, 3) := by decide +kernel
theorem dX8_found_5 : decode cX8_found 5 = .ok (.iload_n 1, 1) := by decide +kernel
theorem dX8_found_6 : decode cX8_found 6 = .ok (.ifCond .ne 7, 3) := by decide +kernel
theorem dX8_found_9 : decode cX8_found 9 = .ok (.iload_n 2, 1) := by decide +kernel
theorem dX8_found_10 : decode cX8_found 10 = .ok (.goto 7, 3) := by decide +kernel
theorem dX8_found_13 : decode cX8_found 13 = .ok (.ldc 50, 2) := by decide +kernel
theorem dX8_found_15 : decode cX8_found 15 = .ok (.iload_n 1, 1) := by decide +kernel
theorem dX8_found_16 : decode cX8_found 16 = .ok (.isub, 1) := by decide +kernel
theorem dX8_found_17 : decode cX8_found 17 = .ok (.ireturn, 1) := by decide +kernel
set_option maxRecDepth 20000 in
theorem ggX8_isRow_X8_in : GoodIn wsX8_isRow wsX8_in := goodIn_r _ [5] (by decide +kernel) (by decide +kernel)
set_option maxRecDepth 20000 in
theorem gX8_isRow_X8_in : GoodIn wsX8_isRow (va_wsS RX8 53 yX8_in wsX8_in) := goodIn_app (goodIn_of _ (by decide +kernel)) ggX8_isRow_X8_in
theorem dX8_isRow_0 : decode cX8_isRow 0 = .ok (.iload_n 0, 1) := by decide +kernel
theorem dX8_isRow_1 : decode cX8_isRow 1 = .ok (.i2l, 1) := by decide +kernel
theorem dX8_isRow_2 : decode cX8_isRow 2 = .ok (.lconst 0, 1) := by decide +kernel
theorem dX8_isRow_3 : decode cX8_isRow 3 = .ok (.ldc2_w 51, 3) := by decide +kernel
theorem dX8_isRow_6 : decode cX8_isRow 6 = .ok (.invokestatic 53, 3) := by decide +kernel
theorem dX8_isRow_9 : decode cX8_isRow 9 = .ok (.ireturn, 1) := by decide +kernel
theorem dX8_isMissing_0 : decode cX8_isMissing 0 = .ok (.aload_n 0, 1) := by decide +kernel
theorem dX8_isMissing_1 : decode cX8_isMissing 1 = .ok (.getfield 7, 3) := by decide +kernel
theorem dX8_isMissing_4 : decode cX8_isMissing 4 = .ok (.iload_n 1, 1) := by decide +kernel
theorem dX8_isMissing_5 : decode cX8_isMissing 5 = .ok (.iaload, 1) := by decide +kernel
theorem dX8_isMissing_6 : decode cX8_isMissing 6 = .ok (.ifCond .ge 7, 3) := by decide +kernel
theorem dX8_isMissing_9 : decode cX8_isMissing 9 = .ok (.iconst 1, 1) := by decide +kernel
theorem dX8_isMissing_10 : decode cX8_isMissing 10 = .ok (.goto 4, 3) := by decide +kernel
theorem dX8_isMissing_13 : decode cX8_isMissing 13 = .ok (.iconst 0, 1) := by decide +kernel
theorem dX8_isMissing_14 : decode cX8_isMissing 14 = .ok (.ireturn, 1) := by decide +kernel
set_option maxRecDepth 20000 in
theorem ggX8_row_X8_isRow : GoodIn wsX8_row wsX8_isRow := goodIn_r _ [9, 10, 11, 12, 8, 13] (by decide +kernel) (by decide +kernel)
set_option maxRecDepth 20000 in
theorem gX8_row_X8_isRow : GoodIn wsX8_row (va_wsS RX8 57 yX8_isRow wsX8_isRow) := goodIn_app (goodIn_of _ (by decide +kernel)) ggX8_row_X8_isRow
set_option maxRecDepth 20000 in
theorem ggX8_row_X8_in : GoodIn wsX8_row wsX8_in := goodIn_r _ [13] (by decide +kernel) (by decide +kernel)
set_option maxRecDepth 20000 in
theorem gX8_row_X8_in : GoodIn wsX8_row (va_wsS RX8 53 yX8_in wsX8_in) := goodIn_app (goodIn_of _ (by decide +kernel)) ggX8_row_X8_in
set_option maxRecDepth 20000 in
theorem ggX8_row_X8_found : GoodIn wsX8_row wsX8_found := goodIn_r _ [17, 18, 19, 20, 21, 22, 23, 24, 25, 26, 27, 28, 29, 30, 31, 32, 33, 34, 35, 36, 37, 38, 39, 40] (by decide +kernel) (by decide +kernel)
set_option maxRecDepth 20000 in
theorem gX8_row_X8_found : GoodIn wsX8_row (wsV RX8 64 RX8 yX8_found wsX8_found) := goodIn_app (goodIn_of _ (by decide +kernel)) ggX8_row_X8_found
theorem dX8_row_0 : decode cX8_row 0 = .ok (.iload_n 1, 1) := by decide +kernel
theorem dX8_row_1 : decode cX8_row 1 = .ok (.invokestatic 57, 3) := by decide +kernel
theorem dX8_row_4 : decode cX8_row 4 = .ok (.ifCond .eq 21, 3) := by decide +kernel
theorem dX8_row_7 : decode cX8_row 7 = .ok (.iload_n 2, 1) := by decide +kernel
theorem dX8_row_8 : decode cX8_row 8 = .ok (.i2l, 1) := by decide +kernel
theorem dX8_row_9 : decode cX8_row 9 = .ok (.lconst 0, 1) := by decide +kernel
theorem dX8_row_10 : decode cX8_row 10 = .ok (.ldc2_w 61, 3) := by decide +kernel
theorem dX8_row_13 : decode cX8_row 13 = .ok (.invokestatic 53, 3) := by decide +kernel
theorem dX8_row_16 : decode cX8_row 16 = .ok (.ifCond .eq 9, 3) := by decide +kernel
theorem dX8_row_19 : decode cX8_row 19 = .ok (.iload_n 3, 1) := by decide +kernel
theorem dX8_row_20 : decode cX8_row 20 = .ok (.bipush 40, 2) := by decide +kernel
theorem dX8_row_22 : decode cX8_row 22 = .ok (.if_icmp .le 6, 3) := by decide +kernel
theorem dX8_row_25 : decode cX8_row 25 = .ok (.ldc 63, 2) := by decide +kernel
theorem dX8_row_27 : decode cX8_row 27 = .ok (.ireturn, 1) := by decide +kernel
theorem dX8_row_28 : decode cX8_row 28 = .ok (.iload_n 3, 1) := by decide +kernel
theorem dX8_row_29 : decode cX8_row 29 = .ok (.ifCond .ge 10, 3) := by decide +kernel
theorem dX8_row_32 : decode cX8_row 32 = .ok (.aload_n 0, 1) := by decide +kernel
theorem dX8_row_33 : decode cX8_row 33 = .ok (.iconst 4, 1) := by decide +kernel
theorem dX8_row_34 : decode cX8_row 34 = .ok (.iconst 0, 1) := by decide +kernel
theorem dX8_row_35 : decode cX8_row 35 = .ok (.invokevirtual 64, 3) := by decide +kernel
theorem dX8_row_38 : decode cX8_row 38 = .ok (.ireturn, 1) := by decide +kernel
theorem dX8_row_39 : decode cX8_row 39 = .ok (.aload_n 0, 1) := by decide +kernel
theorem dX8_row_40 : decode cX8_row 40 = .ok (.getfield 7, 3) := by decide +kernel
theorem dX8_row_43 : decode cX8_row 43 = .ok (.iload_n 1, 1) := by decide +kernel
theorem dX8_row_44 : decode cX8_row 44 = .ok (.iload_n 2, 1) := by decide +kernel
theorem dX8_row_45 : decode cX8_row 45 = .ok (.iastore, 1) := by decide +kernel
theorem dX8_row_46 : decode cX8_row 46 = .ok (.aload_n 0, 1) := by decide +kernel
theorem dX8_row_47 : decode cX8_row 47 = .ok (.getfield 13, 3) := by decide +kernel
theorem dX8_row_50 : decode cX8_row 50 = .ok (.iload_n 1, 1) := by decide +kernel
theorem dX8_row_51 : decode cX8_row 51 = .ok (.iload_n 3, 1) := by decide +kernel
theorem dX8_row_52 : decode cX8_row 52 = .ok (.iastore, 1) := by decide +kernel
theorem dX8_row_53 : decode cX8_row 53 = .ok (.iconst 0, 1) := by decide +kernel
theorem dX8_row_54 : decode cX8_row 54 = .ok (.istore 4, 2) := by decide +kernel
theorem dX8_row_56 : decode cX8_row 56 = .ok (.iload 4, 2) := by decide +kernel
theorem dX8_row_58 : decode cX8_row 58 = .ok (.bipush 40, 2) := by decide +kernel
theorem dX8_row_60 : decode cX8_row 60 = .ok (.if_icmp .ge 22, 3) := by decide +kernel
theorem dX8_row_63 : decode cX8_row 63 = .ok (.aload_n 0, 1) := by decide +kernel
theorem dX8_row_64 : decode cX8_row 64 = .ok (.getfield 16, 3) := by decide +kernel
theorem dX8_row_67 : decode cX8_row 67 = .ok (.bipush 40, 2) := by decide +kernel
theorem dX8_row_69 : decode cX8_row 69 = .ok (.iload_n 1, 1) := by decide +kernel
theorem dX8_row_70 : decode cX8_row 70 = .ok (.imul, 1) := by decide +kernel
theorem dX8_row_71 : decode cX8_row 71 = .ok (.iload 4, 2) := by decide +kernel
theorem dX8_row_73 : decode cX8_row 73 = .ok (.iadd, 1) := by decide +kernel
theorem dX8_row_74 : decode cX8_row 74 = .ok (.iconst 0, 1) := by decide +kernel
theorem dX8_row_75 : decode cX8_row 75 = .ok (.iastore, 1) := by decide +kernel
theorem dX8_row_76 : decode cX8_row 76 = .ok (.iinc 4 1, 3) := by decide +kernel
theorem dX8_row_79 : decode cX8_row 79 = .ok (.goto (-23), 3) := by decide +kernel
theorem dX8_row_82 : decode cX8_row 82 = .ok (.aload_n 0, 1) := by decide +kernel
theorem dX8_row_83 : decode cX8_row 83 = .ok (.iconst 0, 1) := by decide +kernel
theorem dX8_row_84 : decode cX8_row 84 = .ok (.iload_n 3, 1) := by decide +kernel
theorem dX8_row_85 : decode cX8_row 85 = .ok (.invokevirtual 64, 3) := by decide +kernel
theorem dX8_row_88 : decode cX8_row 88 = .ok (.ireturn, 1) := by decide +kernel
theorem dX8_narrow_0 : decode cX8_narrow 0 = .ok (.iload_n 0, 1) := by decide +kernel
theorem dX8_narrow_1 : decode cX8_narrow 1 = .ok (.ifCond .ne 19, 3) := by decide +kernel
theorem dX8_narrow_4 : decode cX8_narrow 4 = .ok (.iload_n 1, 1) := by decide +kernel
theorem dX8_narrow_5 : decode cX8_narrow 5 = .ok (.sipush 255, 3) := by decide +kernel
theorem dX8_narrow_8 : decode cX8_narrow 8 = .ok (.iand, 1) := by decide +kernel
theorem dX8_narrow_9 : decode cX8_narrow 9 = .ok (.sipush 128, 3) := by decide +kernel
theorem dX8_narrow_12 : decode cX8_narrow 12 = .ok (.ixor, 1) := by decide +kernel
theorem dX8_narrow_13 : decode cX8_narrow 13 = .ok (.sipush 128, 3) := by decide +kernel
theorem dX8_narrow_16 : decode cX8_narrow 16 = .ok (.isub, 1) := by decide +kernel
theorem dX8_narrow_17 : decode cX8_narrow 17 = .ok (.goto 22, 3) := by decide +kernel
theorem dX8_narrow_20 : decode cX8_narrow 20 = .ok (.iload_n 0, 1) := by decide +kernel
theorem dX8_narrow_21 : decode cX8_narrow 21 = .ok (.iconst 1, 1) := by decide +kernel
theorem dX8_narrow_22 : decode cX8_narrow 22 = .ok (.if_icmp .ne 16, 3) := by decide +kernel
theorem dX8_narrow_25 : decode cX8_narrow 25 = .ok (.iload_n 1, 1) := by decide +kernel
theorem dX8_narrow_26 : decode cX8_narrow 26 = .ok (.ldc 68, 2) := by decide +kernel
theorem dX8_narrow_28 : decode cX8_narrow 28 = .ok (.iand, 1) := by decide +kernel
theorem dX8_narrow_29 : decode cX8_narrow 29 = .ok (.ldc 69, 2) := by decide +kernel
theorem dX8_narrow_31 : decode cX8_narrow 31 = .ok (.ixor, 1) := by decide +kernel
theorem dX8_narrow_32 : decode cX8_narrow 32 = .ok (.ldc 69, 2) := by decide +kernel
theorem dX8_narrow_34 : decode cX8_narrow 34 = .ok (.isub, 1) := by decide +kernel
theorem dX8_narrow_35 : decode cX8_narrow 35 = .ok (.goto 4, 3) := by decide +kernel
theorem dX8_narrow_38 : decode cX8_narrow 38 = .ok (.iload_n 1, 1) := by decide +kernel
theorem dX8_narrow_39 : decode cX8_narrow 39 = .ok (.ireturn, 1) := by decide +kernel
set_option maxRecDepth 20000 in
theorem ggX8_set_X8_isRow : GoodIn wsX8_set wsX8_isRow := goodIn_r _ [8, 9, 10, 11, 7, 12] (by decide +kernel) (by decide +kernel)
set_option maxRecDepth 20000 in
theorem gX8_set_X8_isRow : GoodIn wsX8_set (va_wsS RX8 57 yX8_isRow wsX8_isRow) := goodIn_app (goodIn_of _ (by decide +kernel)) ggX8_set_X8_isRow
set_option maxRecDepth 20000 in
theorem ggX8_set_X8_isMissing : GoodIn wsX8_set wsX8_isMissing := goodIn_r _ [16, 4, 28, 29, 30, 31, 32, 33, 34, 35, 36, 37, 38, 39, 40, 41, 42, 43, 44, 45, 46, 47, 48] (by decide +kernel) (by decide +kernel)
set_option maxRecDepth 20000 in
theorem gX8_set_X8_isMissing : GoodIn wsX8_set (wsV RX8 70 RX8 yX8_isMissing wsX8_isMissing) := goodIn_app (goodIn_of _ (by decide +kernel)) ggX8_set_X8_isMissing
set_option maxRecDepth 20000 in
theorem ggX8_set_X8_found : GoodIn wsX8_set wsX8_found := goodIn_r _ [20, 21, 22, 28, 29, 30, 31, 32, 33, 34, 35, 36, 37, 38, 39, 40, 41, 42, 43, 44, 45, 46, 47, 48] (by decide +kernel) (by decide +kernel)
set_option maxRecDepth 20000 in
theorem gX8_set_X8_found : GoodIn wsX8_set (wsV RX8 64 RX8 yX8_found wsX8_found) := goodIn_app (goodIn_of _ (by decide +kernel)) ggX8_set_X8_found
set_option maxRecDepth 20000 in
theorem ggX8_set_X8_in : GoodIn wsX8_set wsX8_in := goodIn_r _ [12] (by decide +kernel) (by decide +kernel)
set_option maxRecDepth 20000 in
theorem gX8_set_X8_in : GoodIn wsX8_set (va_wsS RX8 53 yX8_in wsX8_in) := goodIn_app (goodIn_of _ (by decide +kernel)) ggX8_set_X8_in
set_option maxRecDepth 20000 in
theorem ggX8_set_X8_narrow : GoodIn wsX8_set wsX8_narrow := goodIn_r _ [25, 26, 27] (by decide +kernel) (by decide +kernel)
set_option maxRecDepth 20000 in
theorem gX8_set_X8_narrow : GoodIn wsX8_set (va_wsS RX8 73 yX8_narrow wsX8_narrow) := goodIn_app (goodIn_of _ (by decide +kernel)) ggX8_set_X8_narrow
theorem dX8_set_0 : decode cX8_set 0 = .ok (.iload_n 1, 1) := by decide +kernel
theorem dX8_set_1 : decode cX8_set 1 = .ok (.invokestatic 57, 3) := by decide +kernel
theorem dX8_set_4 : decode cX8_set 4 = .ok (.ifCond .ne 6, 3) := by decide +kernel
theorem dX8_set_7 : decode cX8_set 7 = .ok (.ldc 63, 2) := by decide +kernel
theorem dX8_set_9 : decode cX8_set 9 = .ok (.ireturn, 1) := by decide +kernel
theorem dX8_set_10 : decode cX8_set 10 = .ok (.aload_n 0, 1) := by decide +kernel
theorem dX8_set_11 : decode cX8_set 11 = .ok (.iload_n 1, 1) := by decide +kernel
theorem dX8_set_12 : decode cX8_set 12 = .ok (.invokevirtual 70, 3) := by decide +kernel
theorem dX8_set_15 : decode cX8_set 15 = .ok (.ifCond .eq 10, 3) := by decide +kernel
theorem dX8_set_18 : decode cX8_set 18 = .ok (.aload_n 0, 1) := by decide +kernel
theorem dX8_set_19 : decode cX8_set 19 = .ok (.iconst 1, 1) := by decide +kernel
theorem dX8_set_20 : decode cX8_set 20 = .ok (.iconst 0, 1) := by decide +kernel
theorem dX8_set_21 : decode cX8_set 21 = .ok (.invokevirtual 64, 3) := by decide +kernel
theorem dX8_set_24 : decode cX8_set 24 = .ok (.ireturn, 1) := by decide +kernel
theorem dX8_set_25 : decode cX8_set 25 = .ok (.iload_n 2, 1) := by decide +kernel
theorem dX8_set_26 : decode cX8_set 26 = .ok (.i2l, 1) := by decide +kernel
theorem dX8_set_27 : decode cX8_set 27 = .ok (.lconst 0, 1) := by decide +kernel
theorem dX8_set_28 : decode cX8_set 28 = .ok (.aload_n 0, 1) := by decide +kernel
theorem dX8_set_29 : decode cX8_set 29 = .ok (.getfield 13, 3) := by decide +kernel
theorem dX8_set_32 : decode cX8_set 32 = .ok (.iload_n 1, 1) := by decide +kernel
theorem dX8_set_33 : decode cX8_set 33 = .ok (.iaload, 1) := by decide +kernel
theorem dX8_set_34 : decode cX8_set 34 = .ok (.iconst 1, 1) := by decide +kernel
theorem dX8_set_35 : decode cX8_set 35 = .ok (.isub, 1) := by decide +kernel
theorem dX8_set_36 : decode cX8_set 36 = .ok (.i2l, 1) := by decide +kernel
theorem dX8_set_37 : decode cX8_set 37 = .ok (.invokestatic 53, 3) := by decide +kernel
theorem dX8_set_40 : decode cX8_set 40 = .ok (.ifCond .ne 10, 3) := by decide +kernel
theorem dX8_set_43 : decode cX8_set 43 = .ok (.aload_n 0, 1) := by decide +kernel
theorem dX8_set_44 : decode cX8_set 44 = .ok (.iconst 2, 1) := by decide +kernel
theorem dX8_set_45 : decode cX8_set 45 = .ok (.iconst 0, 1) := by decide +kernel
theorem dX8_set_46 : decode cX8_set 46 = .ok (.invokevirtual 64, 3) := by decide +kernel
theorem dX8_set_49 : decode cX8_set 49 = .ok (.ireturn, 1) := by decide +kernel
theorem dX8_set_50 : decode cX8_set 50 = .ok (.aload_n 0, 1) := by decide +kernel
theorem dX8_set_51 : decode cX8_set 51 = .ok (.getfield 16, 3) := by decide +kernel
theorem dX8_set_54 : decode cX8_set 54 = .ok (.bipush 40, 2) := by decide +kernel
theorem dX8_set_56 : decode cX8_set 56 = .ok (.iload_n 1, 1) := by decide +kernel
theorem dX8_set_57 : decode cX8_set 57 = .ok (.imul, 1) := by decide +kernel
theorem dX8_set_58 : decode cX8_set 58 = .ok (.iload_n 2, 1) := by decide +kernel
theorem dX8_set_59 : decode cX8_set 59 = .ok (.iadd, 1) := by decide +kernel
theorem dX8_set_60 : decode cX8_set 60 = .ok (.aload_n 0, 1) := by decide +kernel
theorem dX8_set_61 : decode cX8_set 61 = .ok (.getfield 7, 3) := by decide +kernel
theorem dX8_set_64 : decode cX8_set 64 = .ok (.iload_n 1, 1) := by decide +kernel
theorem dX8_set_65 : decode cX8_set 65 = .ok (.iaload, 1) := by decide +kernel
theorem dX8_set_66 : decode cX8_set 66 = .ok (.iload_n 3, 1) := by decide +kernel
theorem dX8_set_67 : decode cX8_set 67 = .ok (.invokestatic 73, 3) := by decide +kernel
theorem dX8_set_70 : decode cX8_set 70 = .ok (.iastore, 1) := by decide +kernel
theorem dX8_set_71 : decode cX8_set 71 = .ok (.aload_n 0, 1) := by decide +kernel
theorem dX8_set_72 : decode cX8_set 72 = .ok (.iconst 0, 1) := by decide +kernel
theorem dX8_set_73 : decode cX8_set 73 = .ok (.aload_n 0, 1) := by decide +kernel
theorem dX8_set_74 : decode cX8_set 74 = .ok (.getfield 16, 3) := by decide +kernel
theorem dX8_set_77 : decode cX8_set 77 = .ok (.bipush 40, 2) := by decide +kernel
theorem dX8_set_79 : decode cX8_set 79 = .ok (.iload_n 1, 1) := by decide +kernel
theorem dX8_set_80 : decode cX8_set 80 = .ok (.imul, 1) := by decide +kernel
theorem dX8_set_81 : decode cX8_set 81 = .ok (.iload_n 2, 1) := by decide +kernel
theorem dX8_set_82 : decode cX8_set 82 = .ok (.iadd, 1) := by decide +kernel
theorem dX8_set_83 : decode cX8_set 83 = .ok (.iaload, 1) := by decide +kernel
theorem dX8_set_84 : decode cX8_set 84 = .ok (.invokevirtual 64, 3) := by decide +kernel
theorem dX8_set_87 : decode cX8_set 87 = .ok (.ireturn, 1) := by decide +kernel
theorem dX8_isWithin_0 : decode cX8_isWithin 0 = .ok (.iload_n 0, 1) := by decide +kernel
theorem dX8_isWithin_1 : decode cX8_isWithin 1 = .ok (.ifCond .lt 22, 3) := by decide +kernel
theorem dX8_isWithin_4 : decode cX8_isWithin 4 = .ok (.iload_n 1, 1) := by decide +kernel
theorem dX8_isWithin_5 : decode cX8_isWithin 5 = .ok (.ifCond .lt 18, 3) := by decide +kernel
theorem dX8_isWithin_8 : decode cX8_isWithin 8 = .ok (.iload_n 0, 1) := by decide +kernel
theorem dX8_isWithin_9 : decode cX8_isWithin 9 = .ok (.i2l, 1) := by decide +kernel
theorem dX8_isWithin_10 : decode cX8_isWithin 10 = .ok (.iload_n 1, 1) := by decide +kernel
theorem dX8_isWithin_11 : decode cX8_isWithin 11 = .ok (.i2l, 1) := by decide +kernel
theorem dX8_isWithin_12 : decode cX8_isWithin 12 = .ok (.ladd, 1) := by decide +kernel
theorem dX8_isWithin_13 : decode cX8_isWithin 13 = .ok (.iload_n 2, 1) := by decide +kernel
theorem dX8_isWithin_14 : decode cX8_isWithin 14 = .ok (.i2l, 1) := by decide +kernel
theorem dX8_isWithin_15 : decode cX8_isWithin 15 = .ok (.lcmp, 1) := by decide +kernel
theorem dX8_isWithin_16 : decode cX8_isWithin 16 = .ok (.ifCond .gt 7, 3) := by decide +kernel
theorem dX8_isWithin_19 : decode cX8_isWithin 19 = .ok (.iconst 1, 1) := by decide +kernel
theorem dX8_isWithin_20 : decode cX8_isWithin 20 = .ok (.goto 4, 3) := by decide +kernel
theorem dX8_isWithin_23 : decode cX8_isWithin 23 = .ok (.iconst 0, 1) := by decide +kernel
theorem dX8_isWithin_24 : decode cX8_isWithin 24 = .ok (.ireturn, 1) := by decide +kernel
set_option maxRecDepth 20000 in
theorem ggX8_copy_X8_isRow : GoodIn wsX8_copy wsX8_isRow := goodIn_r _ [9, 10, 11, 12, 8, 13] (by decide +kernel) (by decide +kernel)
set_option maxRecDepth 20000 in
theorem gX8_copy_X8_isRow : GoodIn wsX8_copy (va_wsS RX8 57 yX8_isRow wsX8_isRow) := goodIn_app (goodIn_of _ (by decide +kernel)) ggX8_copy_X8_isRow
set_option maxRecDepth 20000 in
theorem ggX8_copy_X8_isMissing : GoodIn wsX8_copy wsX8_isMissing := goodIn_r _ [17, 2, 27, 28, 29, 30, 31, 32, 33, 34, 35, 36, 37, 38, 39, 40, 41, 42, 43, 44, 45, 46, 47] (by decide +kernel) (by decide +kernel)
set_option maxRecDepth 20000 in
theorem gX8_copy_X8_isMissing : GoodIn wsX8_copy (wsV RX8 70 RX8 yX8_isMissing wsX8_isMissing) := goodIn_app (goodIn_of _ (by decide +kernel)) ggX8_copy_X8_isMissing
set_option maxRecDepth 20000 in
theorem ggX8_copy_X8_found : GoodIn wsX8_copy wsX8_found := goodIn_r _ [21, 22, 23, 27, 28, 29, 30, 31, 32, 33, 34, 35, 36, 37, 38, 39, 40, 41, 42, 43, 44, 45, 46, 47] (by decide +kernel) (by decide +kernel)
set_option maxRecDepth 20000 in
theorem gX8_copy_X8_found : GoodIn wsX8_copy (wsV RX8 64 RX8 yX8_found wsX8_found) := goodIn_app (goodIn_of _ (by decide +kernel)) ggX8_copy_X8_found
set_option maxRecDepth 20000 in
theorem ggX8_copy_X8_isWithin : GoodIn wsX8_copy wsX8_isWithin := goodIn_r _ [26] (by decide +kernel) (by decide +kernel)
set_option maxRecDepth 20000 in
theorem gX8_copy_X8_isWithin : GoodIn wsX8_copy (va_wsS RX8 76 yX8_isWithin wsX8_isWithin) := goodIn_app (goodIn_of _ (by decide +kernel)) ggX8_copy_X8_isWithin
theorem dX8_copy_0 : decode cX8_copy 0 = .ok (.iload_n 1, 1) := by decide +kernel
theorem dX8_copy_1 : decode cX8_copy 1 = .ok (.invokestatic 57, 3) := by decide +kernel
theorem dX8_copy_4 : decode cX8_copy 4 = .ok (.ifCond .eq 10, 3) := by decide +kernel
theorem dX8_copy_7 : decode cX8_copy 7 = .ok (.iload_n 3, 1) := by decide +kernel
theorem dX8_copy_8 : decode cX8_copy 8 = .ok (.invokestatic 57, 3) := by decide +kernel
theorem dX8_copy_11 : decode cX8_copy 11 = .ok (.ifCond .ne 6, 3) := by decide +kernel
theorem dX8_copy_14 : decode cX8_copy 14 = .ok (.ldc 63, 2) := by decide +kernel
theorem dX8_copy_16 : decode cX8_copy 16 = .ok (.ireturn, 1) := by decide +kernel
theorem dX8_copy_17 : decode cX8_copy 17 = .ok (.aload_n 0, 1) := by decide +kernel
theorem dX8_copy_18 : decode cX8_copy 18 = .ok (.iload_n 1, 1) := by decide +kernel
theorem dX8_copy_19 : decode cX8_copy 19 = .ok (.invokevirtual 70, 3) := by decide +kernel
theorem dX8_copy_22 : decode cX8_copy 22 = .ok (.ifCond .ne 11, 3) := by decide +kernel
theorem dX8_copy_25 : decode cX8_copy 25 = .ok (.aload_n 0, 1) := by decide +kernel
theorem dX8_copy_26 : decode cX8_copy 26 = .ok (.iload_n 3, 1) := by decide +kernel
theorem dX8_copy_27 : decode cX8_copy 27 = .ok (.invokevirtual 70, 3) := by decide +kernel
theorem dX8_copy_30 : decode cX8_copy 30 = .ok (.ifCond .eq 10, 3) := by decide +kernel
theorem dX8_copy_33 : decode cX8_copy 33 = .ok (.aload_n 0, 1) := by decide +kernel
theorem dX8_copy_34 : decode cX8_copy 34 = .ok (.iconst 1, 1) := by decide +kernel
theorem dX8_copy_35 : decode cX8_copy 35 = .ok (.iconst 0, 1) := by decide +kernel
theorem dX8_copy_36 : decode cX8_copy 36 = .ok (.invokevirtual 64, 3) := by decide +kernel
theorem dX8_copy_39 : decode cX8_copy 39 = .ok (.ireturn, 1) := by decide +kernel
theorem dX8_copy_40 : decode cX8_copy 40 = .ok (.aload_n 0, 1) := by decide +kernel
theorem dX8_copy_41 : decode cX8_copy 41 = .ok (.getfield 7, 3) := by decide +kernel
theorem dX8_copy_44 : decode cX8_copy 44 = .ok (.iload_n 1, 1) := by decide +kernel
theorem dX8_copy_45 : decode cX8_copy 45 = .ok (.iaload, 1) := by decide +kernel
theorem dX8_copy_46 : decode cX8_copy 46 = .ok (.aload_n 0, 1) := by decide +kernel
theorem dX8_copy_47 : decode cX8_copy 47 = .ok (.getfield 7, 3) := by decide +kernel
theorem dX8_copy_50 : decode cX8_copy 50 = .ok (.iload_n 3, 1) := by decide +kernel
theorem dX8_copy_51 : decode cX8_copy 51 = .ok (.iaload, 1) := by decide +kernel
theorem dX8_copy_52 : decode cX8_copy 52 = .ok (.if_icmp .eq 10, 3) := by decide +kernel
theorem dX8_copy_55 : decode cX8_copy 55 = .ok (.aload_n 0, 1) := by decide +kernel
theorem dX8_copy_56 : decode cX8_copy 56 = .ok (.iconst 5, 1) := by decide +kernel
theorem dX8_copy_57 : decode cX8_copy 57 = .ok (.iconst 0, 1) := by decide +kernel
theorem dX8_copy_58 : decode cX8_copy 58 = .ok (.invokevirtual 64, 3) := by decide +kernel
theorem dX8_copy_61 : decode cX8_copy 61 = .ok (.ireturn, 1) := by decide +kernel
theorem dX8_copy_62 : decode cX8_copy 62 = .ok (.iload_n 2, 1) := by decide +kernel
theorem dX8_copy_63 : decode cX8_copy 63 = .ok (.iload 5, 2) := by decide +kernel
theorem dX8_copy_65 : decode cX8_copy 65 = .ok (.aload_n 0, 1) := by decide +kernel
theorem dX8_copy_66 : decode cX8_copy 66 = .ok (.getfield 13, 3) := by decide +kernel
theorem dX8_copy_69 : decode cX8_copy 69 = .ok (.iload_n 1, 1) := by decide +kernel
theorem dX8_copy_70 : decode cX8_copy 70 = .ok (.iaload, 1) := by decide +kernel
theorem dX8_copy_71 : decode cX8_copy 71 = .ok (.invokestatic 76, 3) := by decide +kernel
theorem dX8_copy_74 : decode cX8_copy 74 = .ok (.ifCond .eq 19, 3) := by decide +kernel
theorem dX8_copy_77 : decode cX8_copy 77 = .ok (.iload 4, 2) := by decide +kernel
theorem dX8_copy_79 : decode cX8_copy 79 = .ok (.iload 5, 2) := by decide +kernel
theorem dX8_copy_81 : decode cX8_copy 81 = .ok (.aload_n 0, 1) := by decide +kernel
theorem dX8_copy_82 : decode cX8_copy 82 = .ok (.getfield 13, 3) := by decide +kernel
theorem dX8_copy_85 : decode cX8_copy 85 = .ok (.iload_n 3, 1) := by decide +kernel
theorem dX8_copy_86 : decode cX8_copy 86 = .ok (.iaload, 1) := by decide +kernel
theorem dX8_copy_87 : decode cX8_copy 87 = .ok (.invokestatic 76, 3) := by decide +kernel
theorem dX8_copy_90 : decode cX8_copy 90 = .ok (.ifCond .ne 10, 3) := by decide +kernel
theorem dX8_copy_93 : decode cX8_copy 93 = .ok (.aload_n 0, 1) := by decide +kernel
theorem dX8_copy_94 : decode cX8_copy 94 = .ok (.iconst 2, 1) := by decide +kernel
theorem dX8_copy_95 : decode cX8_copy 95 = .ok (.iconst 0, 1) := by decide +kernel
theorem dX8_copy_96 : decode cX8_copy 96 = .ok (.invokevirtual 64, 3) := by decide +kernel
theorem dX8_copy_99 : decode cX8_copy 99 = .ok (.ireturn, 1) := by decide +kernel
theorem dX8_copy_100 : decode cX8_copy 100 = .ok (.iconst 0, 1) := by decide +kernel
theorem dX8_copy_101 : decode cX8_copy 101 = .ok (.istore 6, 2) := by decide +kernel
theorem dX8_copy_103 : decode cX8_copy 103 = .ok (.iload 6, 2) := by decide +kernel
theorem dX8_copy_105 : decode cX8_copy 105 = .ok (.iload 5, 2) := by decide +kernel
theorem dX8_copy_107 : decode cX8_copy 107 = .ok (.if_icmp .ge 30, 3) := by decide +kernel
theorem dX8_copy_110 : decode cX8_copy 110 = .ok (.aload_n 0, 1) := by decide +kernel
theorem dX8_copy_111 : decode cX8_copy 111 = .ok (.getfield 37, 3) := by decide +kernel
theorem dX8_copy_114 : decode cX8_copy 114 = .ok (.iload 6, 2) := by decide +kernel
theorem dX8_copy_116 : decode cX8_copy 116 = .ok (.aload_n 0, 1) := by decide +kernel
theorem dX8_copy_117 : decode cX8_copy 117 = .ok (.getfield 16, 3) := by decide +kernel
theorem dX8_copy_120 : decode cX8_copy 120 = .ok (.bipush 40, 2) := by decide +kernel
theorem dX8_copy_122 : decode cX8_copy 122 = .ok (.iload_n 1, 1) := by decide +kernel
theorem dX8_copy_123 : decode cX8_copy 123 = .ok (.imul, 1) := by decide +kernel
theorem dX8_copy_124 : decode cX8_copy 124 = .ok (.iload_n 2, 1) := by decide +kernel
theorem dX8_copy_125 : decode cX8_copy 125 = .ok (.iadd, 1) := by decide +kernel
theorem dX8_copy_126 : decode cX8_copy 126 = .ok (.iload 6, 2) := by decide +kernel
theorem dX8_copy_128 : decode cX8_copy 128 = .ok (.iadd, 1) := by decide +kernel
theorem dX8_copy_129 : decode cX8_copy 129 = .ok (.iaload, 1) := by decide +kernel
theorem dX8_copy_130 : decode cX8_copy 130 = .ok (.iastore, 1) := by decide +kernel
theorem dX8_copy_131 : decode cX8_copy 131 = .ok (.iinc 6 1, 3) := by decide +kernel
theorem dX8_copy_134 : decode cX8_copy 134 = .ok (.goto (-31), 3) := by decide +kernel
theorem dX8_copy_137 : decode cX8_copy 137 = .ok (.iconst 0, 1) := by decide +kernel
theorem dX8_copy_138 : decode cX8_copy 138 = .ok (.istore 6, 2) := by decide +kernel
theorem dX8_copy_140 : decode cX8_copy 140 = .ok (.iload 6, 2) := by decide +kernel
theorem dX8_copy_142 : decode cX8_copy 142 = .ok (.iload 5, 2) := by decide +kernel
theorem dX8_copy_144 : decode cX8_copy 144 = .ok (.if_icmp .ge 31, 3) := by decide +kernel
theorem dX8_copy_147 : decode cX8_copy 147 = .ok (.aload_n 0, 1) := by decide +kernel
theorem dX8_copy_148 : decode cX8_copy 148 = .ok (.getfield 16, 3) := by decide +kernel
theorem dX8_copy_151 : decode cX8_copy 151 = .ok (.bipush 40, 2) := by decide +kernel
theorem dX8_copy_153 : decode cX8_copy 153 = .ok (.iload_n 3, 1) := by decide +kernel
theorem dX8_copy_154 : decode cX8_copy 154 = .ok (.imul, 1) := by decide +kernel
theorem dX8_copy_155 : decode cX8_copy 155 = .ok (.iload 4, 2) := by decide +kernel
theorem dX8_copy_157 : decode cX8_copy 157 = .ok (.iadd, 1) := by decide +kernel
theorem dX8_copy_158 : decode cX8_copy 158 = .ok (.iload 6, 2) := by decide +kernel
theorem dX8_copy_160 : decode cX8_copy 160 = .ok (.iadd, 1) := by decide +kernel
theorem dX8_copy_161 : decode cX8_copy 161 = .ok (.aload_n 0, 1) := by decide +kernel
theorem dX8_copy_162 : decode cX8_copy 162 = .ok (.getfield 37, 3) := by decide +kernel
theorem dX8_copy_165 : decode cX8_copy 165 = .ok (.iload 6, 2) := by decide +kernel
theorem dX8_copy_167 : decode cX8_copy 167 = .ok (.iaload, 1) := by decide +kernel
theorem dX8_copy_168 : decode cX8_copy 168 = .ok (.iastore, 1) := by decide +kernel
theorem dX8_copy_169 : decode cX8_copy 169 = .ok (.iinc 6 1, 3) := by decide +kernel
theorem dX8_copy_172 : decode cX8_copy 172 = .ok (.goto (-32), 3) := by decide +kernel
theorem dX8_copy_175 : decode cX8_copy 175 = .ok (.aload_n 0, 1) := by decide +kernel
theorem dX8_copy_176 : decode cX8_copy 176 = .ok (.iconst 0, 1) := by decide +kernel
theorem dX8_copy_177 : decode cX8_copy 177 = .ok (.iload 5, 2) := by decide +kernel
theorem dX8_copy_179 : decode cX8_copy 179 = .ok (.invokevirtual 64, 3) := by decide +kernel
theorem dX8_copy_182 : decode cX8_copy 182 = .ok (.ireturn, 1) := by decide +kernel
set_option maxRecDepth 20000 in
theorem ggX8_drop_X8_isRow : GoodIn wsX8_drop wsX8_isRow := goodIn_r _ [7, 8, 9, 10, 6, 11] (by decide +kernel) (by decide +kernel)
set_option maxRecDepth 20000 in
theorem gX8_drop_X8_isRow : GoodIn wsX8_drop (va_wsS RX8 57 yX8_isRow wsX8_isRow) := goodIn_app (goodIn_of _ (by decide +kernel)) ggX8_drop_X8_isRow
set_option maxRecDepth 20000 in
theorem ggX8_drop_X8_isMissing : GoodIn wsX8_drop wsX8_isMissing := goodIn_r _ [15, 2, 22, 23, 24, 25, 26, 27, 28, 29, 30, 31, 32, 33, 34, 35, 36, 37, 38, 39, 40, 41, 42] (by decide +kernel) (by decide +kernel)
set_option maxRecDepth 20000 in
theorem gX8_drop_X8_isMissing : GoodIn wsX8_drop (wsV RX8 70 RX8 yX8_isMissing wsX8_isMissing) := goodIn_app (goodIn_of _ (by decide +kernel)) ggX8_drop_X8_isMissing
set_option maxRecDepth 20000 in
theorem ggX8_drop_X8_found : GoodIn wsX8_drop wsX8_found := goodIn_r _ [19, 20, 21, 22, 23, 24, 25, 26, 27, 28, 29, 30, 31, 32, 33, 34, 35, 36, 37, 38, 39, 40, 41, 42] (by decide +kernel) (by decide +kernel)
set_option maxRecDepth 20000 in
theorem gX8_drop_X8_found : GoodIn wsX8_drop (wsV RX8 64 RX8 yX8_found wsX8_found) := goodIn_app (goodIn_of _ (by decide +kernel)) ggX8_drop_X8_found
theorem dX8_drop_0 : decode cX8_drop 0 = .ok (.iload_n 1, 1) := by decide +kernel
theorem dX8_drop_1 : decode cX8_drop 1 = .ok (.invokestatic 57, 3) := by decide +kernel
theorem dX8_drop_4 : decode cX8_drop 4 = .ok (.ifCond .ne 6, 3) := by decide +kernel
theorem dX8_drop_7 : decode cX8_drop 7 = .ok (.ldc 63, 2) := by decide +kernel
theorem dX8_drop_9 : decode cX8_drop 9 = .ok (.ireturn, 1) := by decide +kernel
theorem dX8_drop_10 : decode cX8_drop 10 = .ok (.aload_n 0, 1) := by decide +kernel
theorem dX8_drop_11 : decode cX8_drop 11 = .ok (.iload_n 1, 1) := by decide +kernel
theorem dX8_drop_12 : decode cX8_drop 12 = .ok (.invokevirtual 70, 3) := by decide +kernel
theorem dX8_drop_15 : decode cX8_drop 15 = .ok (.ifCond .eq 10, 3) := by decide +kernel
theorem dX8_drop_18 : decode cX8_drop 18 = .ok (.aload_n 0, 1) := by decide +kernel
theorem dX8_drop_19 : decode cX8_drop 19 = .ok (.iconst 1, 1) := by decide +kernel
theorem dX8_drop_20 : decode cX8_drop 20 = .ok (.iconst 0, 1) := by decide +kernel
theorem dX8_drop_21 : decode cX8_drop 21 = .ok (.invokevirtual 64, 3) := by decide +kernel
theorem dX8_drop_24 : decode cX8_drop 24 = .ok (.ireturn, 1) := by decide +kernel
theorem dX8_drop_25 : decode cX8_drop 25 = .ok (.aload_n 0, 1) := by decide +kernel
theorem dX8_drop_26 : decode cX8_drop 26 = .ok (.getfield 7, 3) := by decide +kernel
theorem dX8_drop_29 : decode cX8_drop 29 = .ok (.iload_n 1, 1) := by decide +kernel
theorem dX8_drop_30 : decode cX8_drop 30 = .ok (.iconst (-1), 1) := by decide +kernel
theorem dX8_drop_31 : decode cX8_drop 31 = .ok (.iastore, 1) := by decide +kernel
theorem dX8_drop_32 : decode cX8_drop 32 = .ok (.aload_n 0, 1) := by decide +kernel
theorem dX8_drop_33 : decode cX8_drop 33 = .ok (.iconst 0, 1) := by decide +kernel
theorem dX8_drop_34 : decode cX8_drop 34 = .ok (.aload_n 0, 1) := by decide +kernel
theorem dX8_drop_35 : decode cX8_drop 35 = .ok (.getfield 13, 3) := by decide +kernel
theorem dX8_drop_38 : decode cX8_drop 38 = .ok (.iload_n 1, 1) := by decide +kernel
theorem dX8_drop_39 : decode cX8_drop 39 = .ok (.iaload, 1) := by decide +kernel
theorem dX8_drop_40 : decode cX8_drop 40 = .ok (.invokevirtual 64, 3) := by decide +kernel
theorem dX8_drop_43 : decode cX8_drop 43 = .ok (.ireturn, 1) := by decide +kernel
set_option maxRecDepth 20000 in
theorem ggX8_feed_X8_in : GoodIn wsX8_feed wsX8_in := goodIn_r _ [10] (by decide +kernel) (by decide +kernel)
set_option maxRecDepth 20000 in
theorem gX8_feed_X8_in : GoodIn wsX8_feed (va_wsS RX8 53 yX8_in wsX8_in) := goodIn_app (goodIn_of _ (by decide +kernel)) ggX8_feed_X8_in
theorem dX8_feed_0 : decode cX8_feed 0 = .ok (.iload_n 3, 1) := by decide +kernel
theorem dX8_feed_1 : decode cX8_feed 1 = .ok (.i2l, 1) := by decide +kernel
theorem dX8_feed_2 : decode cX8_feed 2 = .ok (.lconst 1, 1) := by decide +kernel
theorem dX8_feed_3 : decode cX8_feed 3 = .ok (.ldc2_w 80, 3) := by decide +kernel
theorem dX8_feed_6 : decode cX8_feed 6 = .ok (.invokestatic 53, 3) := by decide +kernel
theorem dX8_feed_9 : decode cX8_feed 9 = .ok (.ifCond .ne 6, 3) := by decide +kernel
theorem dX8_feed_12 : decode cX8_feed 12 = .ok (.ldc 63, 2) := by decide +kernel
theorem dX8_feed_14 : decode cX8_feed 14 = .ok (.ireturn, 1) := by decide +kernel
theorem dX8_feed_15 : decode cX8_feed 15 = .ok (.aload_n 0, 1) := by decide +kernel
theorem dX8_feed_16 : decode cX8_feed 16 = .ok (.getfield 82, 3) := by decide +kernel
theorem dX8_feed_19 : decode cX8_feed 19 = .ok (.iload_n 3, 1) := by decide +kernel
theorem dX8_feed_20 : decode cX8_feed 20 = .ok (.iadd, 1) := by decide +kernel
theorem dX8_feed_21 : decode cX8_feed 21 = .ok (.sipush 400, 3) := by decide +kernel
theorem dX8_feed_24 : decode cX8_feed 24 = .ok (.if_icmp .le 6, 3) := by decide +kernel
theorem dX8_feed_27 : decode cX8_feed 27 = .ok (.ldc 85, 2) := by decide +kernel
theorem dX8_feed_29 : decode cX8_feed 29 = .ok (.ireturn, 1) := by decide +kernel
theorem dX8_feed_30 : decode cX8_feed 30 = .ok (.iload_n 3, 1) := by decide +kernel
theorem dX8_feed_31 : decode cX8_feed 31 = .ok (.iconst 1, 1) := by decide +kernel
theorem dX8_feed_32 : decode cX8_feed 32 = .ok (.isub, 1) := by decide +kernel
theorem dX8_feed_33 : decode cX8_feed 33 = .ok (.istore 4, 2) := by decide +kernel
theorem dX8_feed_35 : decode cX8_feed 35 = .ok (.iload 4, 2) := by decide +kernel
theorem dX8_feed_37 : decode cX8_feed 37 = .ok (.ifCond .lt 40, 3) := by decide +kernel
theorem dX8_feed_40 : decode cX8_feed 40 = .ok (.aload_n 0, 1) := by decide +kernel
theorem dX8_feed_41 : decode cX8_feed 41 = .ok (.getfield 19, 3) := by decide +kernel
theorem dX8_feed_44 : decode cX8_feed 44 = .ok (.aload_n 0, 1) := by decide +kernel
theorem dX8_feed_45 : decode cX8_feed 45 = .ok (.getfield 82, 3) := by decide +kernel
theorem dX8_feed_48 : decode cX8_feed 48 = .ok (.lload_n 1, 1) := by decide +kernel
theorem dX8_feed_49 : decode cX8_feed 49 = .ok (.bipush 8, 2) := by decide +kernel
theorem dX8_feed_51 : decode cX8_feed 51 = .ok (.iload 4, 2) := by decide +kernel
theorem dX8_feed_53 : decode cX8_feed 53 = .ok (.imul, 1) := by decide +kernel
theorem dX8_feed_54 : decode cX8_feed 54 = .ok (.lshr, 1) := by decide +kernel
theorem dX8_feed_55 : decode cX8_feed 55 = .ok (.ldc2_w 86, 3) := by decide +kernel
theorem dX8_feed_58 : decode cX8_feed 58 = .ok (.land, 1) := by decide +kernel
theorem dX8_feed_59 : decode cX8_feed 59 = .ok (.l2i, 1) := by decide +kernel
theorem dX8_feed_60 : decode cX8_feed 60 = .ok (.iastore, 1) := by decide +kernel
theorem dX8_feed_61 : decode cX8_feed 61 = .ok (.aload_n 0, 1) := by decide +kernel
theorem dX8_feed_62 : decode cX8_feed 62 = .ok (.dup, 1) := by decide +kernel
theorem dX8_feed_63 : decode cX8_feed 63 = .ok (.getfield 82, 3) := by decide +kernel
theorem dX8_feed_66 : decode cX8_feed 66 = .ok (.iconst 1, 1) := by decide +kernel
theorem dX8_feed_67 : decode cX8_feed 67 = .ok (.iadd, 1) := by decide +kernel
theorem dX8_feed_68 : decode cX8_feed 68 = .ok (.putfield 82, 3) := by decide +kernel
theorem dX8_feed_71 : decode cX8_feed 71 = .ok (.iinc 4 (-1), 3) := by decide +kernel
theorem dX8_feed_74 : decode cX8_feed 74 = .ok (.goto (-39), 3) := by decide +kernel
theorem dX8_feed_77 : decode cX8_feed 77 = .ok (.aload_n 0, 1) := by decide +kernel
theorem dX8_feed_78 : decode cX8_feed 78 = .ok (.getfield 82, 3) := by decide +kernel
theorem dX8_feed_81 : decode cX8_feed 81 = .ok (.ireturn, 1) := by decide +kernel
theorem dX8_byteAt_0 : decode cX8_byteAt 0 = .ok (.iload_n 1, 1) := by decide +kernel
theorem dX8_byteAt_1 : decode cX8_byteAt 1 = .ok (.aload_n 0, 1) := by decide +kernel
theorem dX8_byteAt_2 : decode cX8_byteAt 2 = .ok (.getfield 82, 3) := by decide +kernel
theorem dX8_byteAt_5 : decode cX8_byteAt 5 = .ok (.if_icmp .ge 12, 3) := by decide +kernel
theorem dX8_byteAt_8 : decode cX8_byteAt 8 = .ok (.aload_n 0, 1) := by decide +kernel
theorem dX8_byteAt_9 : decode cX8_byteAt 9 = .ok (.getfield 19, 3) := by decide +kernel
theorem dX8_byteAt_12 : decode cX8_byteAt 12 = .ok (.iload_n 1, 1) := by decide +kernel
theorem dX8_byteAt_13 : decode cX8_byteAt 13 = .ok (.iaload, 1) := by decide +kernel
theorem dX8_byteAt_14 : decode cX8_byteAt 14 = .ok (.goto 4, 3) := by decide +kernel
theorem dX8_byteAt_17 : decode cX8_byteAt 17 = .ok (.iconst 0, 1) := by decide +kernel
theorem dX8_byteAt_18 : decode cX8_byteAt 18 = .ok (.ireturn, 1) := by decide +kernel
set_option maxRecDepth 20000 in
theorem ggX8_nextToken_X8_byteAt : GoodIn wsX8_nextToken wsX8_byteAt := goodIn_r _ [18, 3, 19, 23, 24, 25, 26, 27, 28, 29, 30, 31, 32, 33, 34, 35, 36, 37, 38, 39, 40, 41, 42, 43] (by decide +kernel) (by decide +kernel)
set_option maxRecDepth 20000 in
theorem gX8_nextToken_X8_byteAt : GoodIn wsX8_nextToken (wsV RX8 94 RX8 yX8_byteAt wsX8_byteAt) := goodIn_app (goodIn_of _ (by decide +kernel)) ggX8_nextToken_X8_byteAt
set_option maxRecDepth 20000 in
theorem ggX8_nextToken_X8_in : GoodIn wsX8_nextToken wsX8_in := goodIn_r _ [22] (by decide +kernel) (by decide +kernel)
set_option maxRecDepth 20000 in
theorem gX8_nextToken_X8_in : GoodIn wsX8_nextToken (va_wsS RX8 53 yX8_in wsX8_in) := goodIn_app (goodIn_of _ (by decide +kernel)) ggX8_nextToken_X8_in
theorem dX8_nextToken_0 : decode cX8_nextToken 0 = .ok (.aload_n 0, 1) := by decide +kernel
theorem dX8_nextToken_1 : decode cX8_nextToken 1 = .ok (.aload_n 0, 1) := by decide +kernel
theorem dX8_nextToken_2 : decode cX8_nextToken 2 = .ok (.getfield 88, 3) := by decide +kernel
theorem dX8_nextToken_5 : decode cX8_nextToken 5 = .ok (.putfield 91, 3) := by decide +kernel
theorem dX8_nextToken_8 : decode cX8_nextToken 8 = .ok (.aload_n 0, 1) := by decide +kernel
theorem dX8_nextToken_9 : decode cX8_nextToken 9 = .ok (.getfield 91, 3) := by decide +kernel
theorem dX8_nextToken_12 : decode cX8_nextToken 12 = .ok (.aload_n 0, 1) := by decide +kernel
theorem dX8_nextToken_13 : decode cX8_nextToken 13 = .ok (.getfield 82, 3) := by decide +kernel
theorem dX8_nextToken_16 : decode cX8_nextToken 16 = .ok (.if_icmp .ge 42, 3) := by decide +kernel
theorem dX8_nextToken_19 : decode cX8_nextToken 19 = .ok (.aload_n 0, 1) := by decide +kernel
theorem dX8_nextToken_20 : decode cX8_nextToken 20 = .ok (.aload_n 0, 1) := by decide +kernel
theorem dX8_nextToken_21 : decode cX8_nextToken 21 = .ok (.getfield 91, 3) := by decide +kernel
theorem dX8_nextToken_24 : decode cX8_nextToken 24 = .ok (.invokevirtual 94, 3) := by decide +kernel
theorem dX8_nextToken_27 : decode cX8_nextToken 27 = .ok (.bipush 32, 2) := by decide +kernel
theorem dX8_nextToken_29 : decode cX8_nextToken 29 = .ok (.if_icmp .eq 16, 3) := by decide +kernel
theorem dX8_nextToken_32 : decode cX8_nextToken 32 = .ok (.aload_n 0, 1) := by decide +kernel
theorem dX8_nextToken_33 : decode cX8_nextToken 33 = .ok (.aload_n 0, 1) := by decide +kernel
theorem dX8_nextToken_34 : decode cX8_nextToken 34 = .ok (.getfield 91, 3) := by decide +kernel
theorem dX8_nextToken_37 : decode cX8_nextToken 37 = .ok (.invokevirtual 94, 3) := by decide +kernel
theorem dX8_nextToken_40 : decode cX8_nextToken 40 = .ok (.bipush 10, 2) := by decide +kernel
theorem dX8_nextToken_42 : decode cX8_nextToken 42 = .ok (.if_icmp .ne 16, 3) := by decide +kernel
theorem dX8_nextToken_45 : decode cX8_nextToken 45 = .ok (.aload_n 0, 1) := by decide +kernel
theorem dX8_nextToken_46 : decode cX8_nextToken 46 = .ok (.dup, 1) := by decide +kernel
theorem dX8_nextToken_47 : decode cX8_nextToken 47 = .ok (.getfield 91, 3) := by decide +kernel
theorem dX8_nextToken_50 : decode cX8_nextToken 50 = .ok (.iconst 1, 1) := by decide +kernel
theorem dX8_nextToken_51 : decode cX8_nextToken 51 = .ok (.iadd, 1) := by decide +kernel
theorem dX8_nextToken_52 : decode cX8_nextToken 52 = .ok (.putfield 91, 3) := by decide +kernel
theorem dX8_nextToken_55 : decode cX8_nextToken 55 = .ok (.goto (-47), 3) := by decide +kernel
theorem dX8_nextToken_58 : decode cX8_nextToken 58 = .ok (.aload_n 0, 1) := by decide +kernel
theorem dX8_nextToken_59 : decode cX8_nextToken 59 = .ok (.aload_n 0, 1) := by decide +kernel
theorem dX8_nextToken_60 : decode cX8_nextToken 60 = .ok (.getfield 91, 3) := by decide +kernel
theorem dX8_nextToken_63 : decode cX8_nextToken 63 = .ok (.putfield 88, 3) := by decide +kernel
theorem dX8_nextToken_66 : decode cX8_nextToken 66 = .ok (.aload_n 0, 1) := by decide +kernel
theorem dX8_nextToken_67 : decode cX8_nextToken 67 = .ok (.lconst 0, 1) := by decide +kernel
theorem dX8_nextToken_68 : decode cX8_nextToken 68 = .ok (.putfield 98, 3) := by decide +kernel
theorem dX8_nextToken_71 : decode cX8_nextToken 71 = .ok (.aload_n 0, 1) := by decide +kernel
theorem dX8_nextToken_72 : decode cX8_nextToken 72 = .ok (.aload_n 0, 1) := by decide +kernel
theorem dX8_nextToken_73 : decode cX8_nextToken 73 = .ok (.getfield 91, 3) := by decide +kernel
theorem dX8_nextToken_76 : decode cX8_nextToken 76 = .ok (.invokevirtual 94, 3) := by decide +kernel
theorem dX8_nextToken_79 : decode cX8_nextToken 79 = .ok (.istore_n 1, 1) := by decide +kernel
theorem dX8_nextToken_80 : decode cX8_nextToken 80 = .ok (.aload_n 0, 1) := by decide +kernel
theorem dX8_nextToken_81 : decode cX8_nextToken 81 = .ok (.getfield 91, 3) := by decide +kernel
theorem dX8_nextToken_84 : decode cX8_nextToken 84 = .ok (.aload_n 0, 1) := by decide +kernel
theorem dX8_nextToken_85 : decode cX8_nextToken 85 = .ok (.getfield 82, 3) := by decide +kernel
theorem dX8_nextToken_88 : decode cX8_nextToken 88 = .ok (.if_icmp .lt 11, 3) := by decide +kernel
theorem dX8_nextToken_91 : decode cX8_nextToken 91 = .ok (.aload_n 0, 1) := by decide +kernel
theorem dX8_nextToken_92 : decode cX8_nextToken 92 = .ok (.iconst 0, 1) := by decide +kernel
theorem dX8_nextToken_93 : decode cX8_nextToken 93 = .ok (.putfield 102, 3) := by decide +kernel
theorem dX8_nextToken_96 : decode cX8_nextToken 96 = .ok (.goto 243, 3) := by decide +kernel
theorem dX8_nextToken_99 : decode cX8_nextToken 99 = .ok (.iload_n 1, 1) := by decide +kernel
theorem dX8_nextToken_100 : decode cX8_nextToken 100 = .ok (.i2l, 1) := by decide +kernel
theorem dX8_nextToken_101 : decode cX8_nextToken 101 = .ok (.ldc2_w 105, 3) := by decide +kernel
theorem dX8_nextToken_104 : decode cX8_nextToken 104 = .ok (.ldc2_w 107, 3) := by decide +kernel
theorem dX8_nextToken_107 : decode cX8_nextToken 107 = .ok (.invokestatic 53, 3) := by decide +kernel
theorem dX8_nextToken_110 : decode cX8_nextToken 110 = .ok (.ifCond .eq 88, 3) := by decide +kernel
theorem dX8_nextToken_113 : decode cX8_nextToken 113 = .ok (.aload_n 0, 1) := by decide +kernel
theorem dX8_nextToken_114 : decode cX8_nextToken 114 = .ok (.iconst 1, 1) := by decide +kernel
theorem dX8_nextToken_115 : decode cX8_nextToken 115 = .ok (.putfield 102, 3) := by decide +kernel
theorem dX8_nextToken_118 : decode cX8_nextToken 118 = .ok (.aload_n 0, 1) := by decide +kernel
theorem dX8_nextToken_119 : decode cX8_nextToken 119 = .ok (.aload_n 0, 1) := by decide +kernel
theorem dX8_nextToken_120 : decode cX8_nextToken 120 = .ok (.getfield 88, 3) := by decide +kernel
theorem dX8_nextToken_123 : decode cX8_nextToken 123 = .ok (.invokevirtual 94, 3) := by decide +kernel
theorem dX8_nextToken_126 : decode cX8_nextToken 126 = .ok (.i2l, 1) := by decide +kernel
theorem dX8_nextToken_127 : decode cX8_nextToken 127 = .ok (.ldc2_w 105, 3) := by decide +kernel
theorem dX8_nextToken_130 : decode cX8_nextToken 130 = .ok (.ldc2_w 107, 3) := by decide +kernel
theorem dX8_nextToken_133 : decode cX8_nextToken 133 = .ok (.invokestatic 53, 3) := by decide +kernel
theorem dX8_nextToken_136 : decode cX8_nextToken 136 = .ok (.ifCond .eq 203, 3) := by decide +kernel
theorem dX8_nextToken_139 : decode cX8_nextToken 139 = .ok (.aload_n 0, 1) := by decide +kernel
theorem dX8_nextToken_140 : decode cX8_nextToken 140 = .ok (.aload_n 0, 1) := by decide +kernel
theorem dX8_nextToken_141 : decode cX8_nextToken 141 = .ok (.getfield 88, 3) := by decide +kernel
theorem dX8_nextToken_144 : decode cX8_nextToken 144 = .ok (.aload_n 0, 1) := by decide +kernel
theorem dX8_nextToken_145 : decode cX8_nextToken 145 = .ok (.getfield 91, 3) := by decide +kernel
theorem dX8_nextToken_148 : decode cX8_nextToken 148 = .ok (.isub, 1) := by decide +kernel
theorem dX8_nextToken_149 : decode cX8_nextToken 149 = .ok (.bipush 7, 2) := by decide +kernel
theorem dX8_nextToken_151 : decode cX8_nextToken 151 = .ok (.if_icmp .ge 28, 3) := by decide +kernel
theorem dX8_nextToken_154 : decode cX8_nextToken 154 = .ok (.ldc2_w 109, 3) := by decide +kernel
theorem dX8_nextToken_157 : decode cX8_nextToken 157 = .ok (.aload_n 0, 1) := by decide +kernel
theorem dX8_nextToken_158 : decode cX8_nextToken 158 = .ok (.getfield 98, 3) := by decide +kernel
theorem dX8_nextToken_161 : decode cX8_nextToken 161 = .ok (.lmul, 1) := by decide +kernel
theorem dX8_nextToken_162 : decode cX8_nextToken 162 = .ok (.aload_n 0, 1) := by decide +kernel
theorem dX8_nextToken_163 : decode cX8_nextToken 163 = .ok (.aload_n 0, 1) := by decide +kernel
theorem dX8_nextToken_164 : decode cX8_nextToken 164 = .ok (.getfield 88, 3) := by decide +kernel
theorem dX8_nextToken_167 : decode cX8_nextToken 167 = .ok (.invokevirtual 94, 3) := by decide +kernel
theorem dX8_nextToken_170 : decode cX8_nextToken 170 = .ok (.i2l, 1) := by decide +kernel
theorem dX8_nextToken_171 : decode cX8_nextToken 171 = .ok (.ladd, 1) := by decide +kernel
theorem dX8_nextToken_172 : decode cX8_nextToken 172 = .ok (.ldc2_w 111, 3) := by decide +kernel
theorem dX8_nextToken_175 : decode cX8_nextToken 175 = .ok (.lsub, 1) := by decide +kernel
theorem dX8_nextToken_176 : decode cX8_nextToken 176 = .ok (.goto 6, 3) := by decide +kernel
theorem dX8_nextToken_179 : decode cX8_nextToken 179 = .ok (.ldc2_w 113, 3) := by decide +kernel
theorem dX8_nextToken_182 : decode cX8_nextToken 182 = .ok (.putfield 98, 3) := by decide +kernel
theorem dX8_nextToken_185 : decode cX8_nextToken 185 = .ok (.aload_n 0, 1) := by decide +kernel
theorem dX8_nextToken_186 : decode cX8_nextToken 186 = .ok (.dup, 1) := by decide +kernel
theorem dX8_nextToken_187 : decode cX8_nextToken 187 = .ok (.getfield 88, 3) := by decide +kernel
theorem dX8_nextToken_190 : decode cX8_nextToken 190 = .ok (.iconst 1, 1) := by decide +kernel
theorem dX8_nextToken_191 : decode cX8_nextToken 191 = .ok (.iadd, 1) := by decide +kernel
theorem dX8_nextToken_192 : decode cX8_nextToken 192 = .ok (.putfield 88, 3) := by decide +kernel
theorem dX8_nextToken_195 : decode cX8_nextToken 195 = .ok (.goto (-77), 3) := by decide +kernel
theorem dX8_nextToken_198 : decode cX8_nextToken 198 = .ok (.iload_n 1, 1) := by decide +kernel
theorem dX8_nextToken_199 : decode cX8_nextToken 199 = .ok (.i2l, 1) := by decide +kernel
theorem dX8_nextToken_200 : decode cX8_nextToken 200 = .ok (.ldc2_w 115, 3) := by decide +kernel
theorem dX8_nextToken_203 : decode cX8_nextToken 203 = .ok (.ldc2_w 117, 3) := by decide +kernel
theorem dX8_nextToken_206 : decode cX8_nextToken 206 = .ok (.invokestatic 53, 3) := by decide +kernel
theorem dX8_nextToken_209 : decode cX8_nextToken 209 = .ok (.ifCond .eq 105, 3) := by decide +kernel
theorem dX8_nextToken_212 : decode cX8_nextToken 212 = .ok (.aload_n 0, 1) := by decide +kernel
theorem dX8_nextToken_213 : decode cX8_nextToken 213 = .ok (.aload_n 0, 1) := by decide +kernel
theorem dX8_nextToken_214 : decode cX8_nextToken 214 = .ok (.getfield 88, 3) := by decide +kernel
theorem dX8_nextToken_217 : decode cX8_nextToken 217 = .ok (.invokevirtual 94, 3) := by decide +kernel
theorem dX8_nextToken_220 : decode cX8_nextToken 220 = .ok (.i2l, 1) := by decide +kernel
theorem dX8_nextToken_221 : decode cX8_nextToken 221 = .ok (.ldc2_w 115, 3) := by decide +kernel
theorem dX8_nextToken_224 : decode cX8_nextToken 224 = .ok (.ldc2_w 117, 3) := by decide +kernel
theorem dX8_nextToken_227 : decode cX8_nextToken 227 = .ok (.invokestatic 53, 3) := by decide +kernel
theorem dX8_nextToken_230 : decode cX8_nextToken 230 = .ok (.ifCond .eq 59, 3) := by decide +kernel
theorem dX8_nextToken_233 : decode cX8_nextToken 233 = .ok (.aload_n 0, 1) := by decide +kernel
theorem dX8_nextToken_234 : decode cX8_nextToken 234 = .ok (.aload_n 0, 1) := by decide +kernel
theorem dX8_nextToken_235 : decode cX8_nextToken 235 = .ok (.getfield 88, 3) := by decide +kernel
theorem dX8_nextToken_238 : decode cX8_nextToken 238 = .ok (.aload_n 0, 1) := by decide +kernel
theorem dX8_nextToken_239 : decode cX8_nextToken 239 = .ok (.getfield 91, 3) := by decide +kernel
theorem dX8_nextToken_242 : decode cX8_nextToken 242 = .ok (.isub, 1) := by decide +kernel
theorem dX8_nextToken_243 : decode cX8_nextToken 243 = .ok (.iconst 3, 1) := by decide +kernel
theorem dX8_nextToken_244 : decode cX8_nextToken 244 = .ok (.if_icmp .ge 28, 3) := by decide +kernel
theorem dX8_nextToken_247 : decode cX8_nextToken 247 = .ok (.ldc2_w 119, 3) := by decide +kernel
theorem dX8_nextToken_250 : decode cX8_nextToken 250 = .ok (.aload_n 0, 1) := by decide +kernel
theorem dX8_nextToken_251 : decode cX8_nextToken 251 = .ok (.getfield 98, 3) := by decide +kernel
theorem dX8_nextToken_254 : decode cX8_nextToken 254 = .ok (.lmul, 1) := by decide +kernel
theorem dX8_nextToken_255 : decode cX8_nextToken 255 = .ok (.aload_n 0, 1) := by decide +kernel
theorem dX8_nextToken_256 : decode cX8_nextToken 256 = .ok (.aload_n 0, 1) := by decide +kernel
theorem dX8_nextToken_257 : decode cX8_nextToken 257 = .ok (.getfield 88, 3) := by decide +kernel
theorem dX8_nextToken_260 : decode cX8_nextToken 260 = .ok (.invokevirtual 94, 3) := by decide +kernel
theorem dX8_nextToken_263 : decode cX8_nextToken 263 = .ok (.i2l, 1) := by decide +kernel
theorem dX8_nextToken_264 : decode cX8_nextToken 264 = .ok (.ladd, 1) := by decide +kernel
theorem dX8_nextToken_265 : decode cX8_nextToken 265 = .ok (.ldc2_w 115, 3) := by decide +kernel
theorem dX8_nextToken_268 : decode cX8_nextToken 268 = .ok (.lsub, 1) := by decide +kernel
theorem dX8_nextToken_269 : decode cX8_nextToken 269 = .ok (.goto 4, 3) := by decide +kernel
theorem dX8_nextToken_272 : decode cX8_nextToken 272 = .ok (.lconst 0, 1) := by decide +kernel
theorem dX8_nextToken_273 : decode cX8_nextToken 273 = .ok (.putfield 98, 3) := by decide +kernel
theorem dX8_nextToken_276 : decode cX8_nextToken 276 = .ok (.aload_n 0, 1) := by decide +kernel
theorem dX8_nextToken_277 : decode cX8_nextToken 277 = .ok (.dup, 1) := by decide +kernel
theorem dX8_nextToken_278 : decode cX8_nextToken 278 = .ok (.getfield 88, 3) := by decide +kernel
theorem dX8_nextToken_281 : decode cX8_nextToken 281 = .ok (.iconst 1, 1) := by decide +kernel
theorem dX8_nextToken_282 : decode cX8_nextToken 282 = .ok (.iadd, 1) := by decide +kernel
theorem dX8_nextToken_283 : decode cX8_nextToken 283 = .ok (.putfield 88, 3) := by decide +kernel
theorem dX8_nextToken_286 : decode cX8_nextToken 286 = .ok (.goto (-74), 3) := by decide +kernel
theorem dX8_nextToken_289 : decode cX8_nextToken 289 = .ok (.aload_n 0, 1) := by decide +kernel
theorem dX8_nextToken_290 : decode cX8_nextToken 290 = .ok (.aload_n 0, 1) := by decide +kernel
theorem dX8_nextToken_291 : decode cX8_nextToken 291 = .ok (.getfield 88, 3) := by decide +kernel
theorem dX8_nextToken_294 : decode cX8_nextToken 294 = .ok (.aload_n 0, 1) := by decide +kernel
theorem dX8_nextToken_295 : decode cX8_nextToken 295 = .ok (.getfield 91, 3) := by decide +kernel
theorem dX8_nextToken_298 : decode cX8_nextToken 298 = .ok (.isub, 1) := by decide +kernel
theorem dX8_nextToken_299 : decode cX8_nextToken 299 = .ok (.iconst 3, 1) := by decide +kernel
theorem dX8_nextToken_300 : decode cX8_nextToken 300 = .ok (.if_icmp .le 7, 3) := by decide +kernel
theorem dX8_nextToken_303 : decode cX8_nextToken 303 = .ok (.iconst 4, 1) := by decide +kernel
theorem dX8_nextToken_304 : decode cX8_nextToken 304 = .ok (.goto 4, 3) := by decide +kernel
theorem dX8_nextToken_307 : decode cX8_nextToken 307 = .ok (.iconst 2, 1) := by decide +kernel
theorem dX8_nextToken_308 : decode cX8_nextToken 308 = .ok (.putfield 102, 3) := by decide +kernel
theorem dX8_nextToken_311 : decode cX8_nextToken 311 = .ok (.goto 28, 3) := by decide +kernel
theorem dX8_nextToken_314 : decode cX8_nextToken 314 = .ok (.aload_n 0, 1) := by decide +kernel
theorem dX8_nextToken_315 : decode cX8_nextToken 315 = .ok (.iload_n 1, 1) := by decide +kernel
theorem dX8_nextToken_316 : decode cX8_nextToken 316 = .ok (.bipush 59, 2) := by decide +kernel
theorem dX8_nextToken_318 : decode cX8_nextToken 318 = .ok (.if_icmp .ne 7, 3) := by decide +kernel
theorem dX8_nextToken_321 : decode cX8_nextToken 321 = .ok (.iconst 3, 1) := by decide +kernel
theorem dX8_nextToken_322 : decode cX8_nextToken 322 = .ok (.goto 4, 3) := by decide +kernel
theorem dX8_nextToken_325 : decode cX8_nextToken 325 = .ok (.iconst 4, 1) := by decide +kernel
theorem dX8_nextToken_326 : decode cX8_nextToken 326 = .ok (.putfield 102, 3) := by decide +kernel
theorem dX8_nextToken_329 : decode cX8_nextToken 329 = .ok (.aload_n 0, 1) := by decide +kernel
theorem dX8_nextToken_330 : decode cX8_nextToken 330 = .ok (.dup, 1) := by decide +kernel
theorem dX8_nextToken_331 : decode cX8_nextToken 331 = .ok (.getfield 88, 3) := by decide +kernel
theorem dX8_nextToken_334 : decode cX8_nextToken 334 = .ok (.iconst 1, 1) := by decide +kernel
theorem dX8_nextToken_335 : decode cX8_nextToken 335 = .ok (.iadd, 1) := by decide +kernel
theorem dX8_nextToken_336 : decode cX8_nextToken 336 = .ok (.putfield 88, 3) := by decide +kernel
theorem dX8_nextToken_339 : decode cX8_nextToken 339 = .ok (.return_, 1) := by decide +kernel
set_option maxRecDepth 20000 in
theorem ggX8_isNumber_X8_nextToken : GoodIn wsX8_isNumber wsX8_nextToken := goodIn_r _ [8, 9, 10, 11, 2, 1, 12, 13, 14, 15, 16, 17, 18, 19, 20, 21, 22, 7, 23, 24, 25, 26, 27, 28, 29, 30, 31, 32, 33, 34, 35, 36, 37, 38, 39, 40, 41, 42, 43, 44, 45, 46, 47, 48] (by decide +kernel) (by decide +kernel)
set_option maxRecDepth 20000 in
theorem gX8_isNumber_X8_nextToken : GoodIn wsX8_isNumber (wsV RX8 121 RX8 yX8_nextToken wsX8_nextToken) := goodIn_app (goodIn_of _ (by decide +kernel)) ggX8_isNumber_X8_nextToken
set_option maxRecDepth 20000 in
theorem ggX8_isNumber_X8_in : GoodIn wsX8_isNumber wsX8_in := goodIn_r _ [27] (by decide +kernel) (by decide +kernel)
set_option maxRecDepth 20000 in
theorem gX8_isNumber_X8_in : GoodIn wsX8_isNumber (va_wsS RX8 53 yX8_in wsX8_in) := goodIn_app (goodIn_of _ (by decide +kernel)) ggX8_isNumber_X8_in
theorem dX8_isNumber_0 : decode cX8_isNumber 0 = .ok (.aload_n 0, 1) := by decide +kernel
theorem dX8_isNumber_1 : decode cX8_isNumber 1 = .ok (.invokevirtual 121, 3) := by decide +kernel
theorem dX8_isNumber_4 : decode cX8_isNumber 4 = .ok (.aload_n 0, 1) := by decide +kernel
theorem dX8_isNumber_5 : decode cX8_isNumber 5 = .ok (.aload_n 0, 1) := by decide +kernel
theorem dX8_isNumber_6 : decode cX8_isNumber 6 = .ok (.getfield 102, 3) := by decide +kernel
theorem dX8_isNumber_9 : decode cX8_isNumber 9 = .ok (.iconst 2, 1) := by decide +kernel
theorem dX8_isNumber_10 : decode cX8_isNumber 10 = .ok (.if_icmp .eq 7, 3) := by decide +kernel
theorem dX8_isNumber_13 : decode cX8_isNumber 13 = .ok (.iconst 1, 1) := by decide +kernel
theorem dX8_isNumber_14 : decode cX8_isNumber 14 = .ok (.goto 22, 3) := by decide +kernel
theorem dX8_isNumber_17 : decode cX8_isNumber 17 = .ok (.aload_n 0, 1) := by decide +kernel
theorem dX8_isNumber_18 : decode cX8_isNumber 18 = .ok (.getfield 98, 3) := by decide +kernel
theorem dX8_isNumber_21 : decode cX8_isNumber 21 = .ok (.iload_n 1, 1) := by decide +kernel
theorem dX8_isNumber_22 : decode cX8_isNumber 22 = .ok (.i2l, 1) := by decide +kernel
theorem dX8_isNumber_23 : decode cX8_isNumber 23 = .ok (.iload_n 2, 1) := by decide +kernel
theorem dX8_isNumber_24 : decode cX8_isNumber 24 = .ok (.i2l, 1) := by decide +kernel
theorem dX8_isNumber_25 : decode cX8_isNumber 25 = .ok (.invokestatic 53, 3) := by decide +kernel
theorem dX8_isNumber_28 : decode cX8_isNumber 28 = .ok (.ifCond .eq 7, 3) := by decide +kernel
theorem dX8_isNumber_31 : decode cX8_isNumber 31 = .ok (.iconst 0, 1) := by decide +kernel
theorem dX8_isNumber_32 : decode cX8_isNumber 32 = .ok (.goto 4, 3) := by decide +kernel
theorem dX8_isNumber_35 : decode cX8_isNumber 35 = .ok (.iconst 2, 1) := by decide +kernel
theorem dX8_isNumber_36 : decode cX8_isNumber 36 = .ok (.putfield 124, 3) := by decide +kernel
theorem dX8_isNumber_39 : decode cX8_isNumber 39 = .ok (.aload_n 0, 1) := by decide +kernel
theorem dX8_isNumber_40 : decode cX8_isNumber 40 = .ok (.getfield 124, 3) := by decide +kernel
theorem dX8_isNumber_43 : decode cX8_isNumber 43 = .ok (.ifCond .ne 7, 3) := by decide +kernel
theorem dX8_isNumber_46 : decode cX8_isNumber 46 = .ok (.iconst 1, 1) := by decide +kernel
theorem dX8_isNumber_47 : decode cX8_isNumber 47 = .ok (.goto 4, 3) := by decide +kernel
theorem dX8_isNumber_50 : decode cX8_isNumber 50 = .ok (.iconst 0, 1) := by decide +kernel
theorem dX8_isNumber_51 : decode cX8_isNumber 51 = .ok (.ireturn, 1) := by decide +kernel
set_option maxRecDepth 20000 in
theorem ggX8_isEnd_X8_nextToken : GoodIn wsX8_isEnd wsX8_nextToken := goodIn_r _ [7, 8, 9, 10, 11, 1, 12, 13, 14, 15, 16, 17, 18, 19, 20, 21, 22, 6, 23, 24, 25, 26, 27, 28, 29, 30, 31, 32, 33, 34, 35, 36, 37, 38, 39, 40, 41, 42, 43, 44, 45, 46, 47, 48] (by decide +kernel) (by decide +kernel)
set_option maxRecDepth 20000 in
theorem gX8_isEnd_X8_nextToken : GoodIn wsX8_isEnd (wsV RX8 121 RX8 yX8_nextToken wsX8_nextToken) := goodIn_app (goodIn_of _ (by decide +kernel)) ggX8_isEnd_X8_nextToken
theorem dX8_isEnd_0 : decode cX8_isEnd 0 = .ok (.aload_n 0, 1) := by decide +kernel
theorem dX8_isEnd_1 : decode cX8_isEnd 1 = .ok (.invokevirtual 121, 3) := by decide +kernel
theorem dX8_isEnd_4 : decode cX8_isEnd 4 = .ok (.aload_n 0, 1) := by decide +kernel
theorem dX8_isEnd_5 : decode cX8_isEnd 5 = .ok (.aload_n 0, 1) := by decide +kernel
theorem dX8_isEnd_6 : decode cX8_isEnd 6 = .ok (.getfield 102, 3) := by decide +kernel
theorem dX8_isEnd_9 : decode cX8_isEnd 9 = .ok (.iconst 3, 1) := by decide +kernel
theorem dX8_isEnd_10 : decode cX8_isEnd 10 = .ok (.if_icmp .ne 7, 3) := by decide +kernel
theorem dX8_isEnd_13 : decode cX8_isEnd 13 = .ok (.iconst 0, 1) := by decide +kernel
theorem dX8_isEnd_14 : decode cX8_isEnd 14 = .ok (.goto 4, 3) := by decide +kernel
theorem dX8_isEnd_17 : decode cX8_isEnd 17 = .ok (.iconst 1, 1) := by decide +kernel
theorem dX8_isEnd_18 : decode cX8_isEnd 18 = .ok (.putfield 124, 3) := by decide +kernel
theorem dX8_isEnd_21 : decode cX8_isEnd 21 = .ok (.aload_n 0, 1) := by decide +kernel
theorem dX8_isEnd_22 : decode cX8_isEnd 22 = .ok (.getfield 102, 3) := by decide +kernel
theorem dX8_isEnd_25 : decode cX8_isEnd 25 = .ok (.iconst 3, 1) := by decide +kernel
theorem dX8_isEnd_26 : decode cX8_isEnd 26 = .ok (.if_icmp .ne 7, 3) := by decide +kernel
theorem dX8_isEnd_29 : decode cX8_isEnd 29 = .ok (.iconst 1, 1) := by decide +kernel
theorem dX8_isEnd_30 : decode cX8_isEnd 30 = .ok (.goto 4, 3) := by decide +kernel
theorem dX8_isEnd_33 : decode cX8_isEnd 33 = .ok (.iconst 0, 1) := by decide +kernel
theorem dX8_isEnd_34 : decode cX8_isEnd 34 = .ok (.ireturn, 1) := by decide +kernel
set_option maxRecDepth 20000 in
theorem ggX8_readLaw_X8_nextToken : GoodIn wsX8_readLaw wsX8_nextToken := goodIn_r _ [10, 11, 12, 13, 2, 1, 14, 15, 16, 17, 18, 19, 20, 21, 22, 23, 24, 9, 25, 26, 27, 28, 29, 38, 39, 40, 41, 42, 43, 44, 45, 46, 47, 48, 49, 50, 51, 52, 53, 54, 55, 56, 57, 58] (by decide +kernel) (by decide +kernel)
set_option maxRecDepth 20000 in
theorem gX8_readLaw_X8_nextToken : GoodIn wsX8_readLaw (wsV RX8 121 RX8 yX8_nextToken wsX8_nextToken) := goodIn_app (goodIn_of _ (by decide +kernel)) ggX8_readLaw_X8_nextToken
set_option maxRecDepth 20000 in
theorem ggX8_readLaw_X8_isNumber : GoodIn wsX8_readLaw wsX8_isNumber := goodIn_r _ [33, 1, 2, 4, 6, 7, 8, 9, 10, 11, 12, 13, 14, 15, 16, 17, 18, 19, 20, 21, 22, 23, 24, 25, 26, 27, 28, 29, 38, 39, 40, 41, 42, 43, 44, 45, 46, 47, 48, 49, 50, 51, 52, 53, 54, 55, 56, 57, 58] (by decide +kernel) (by decide +kernel)
set_option maxRecDepth 20000 in
theorem gX8_readLaw_X8_isNumber : GoodIn wsX8_readLaw (wsV RX8 129 RX8 yX8_isNumber wsX8_isNumber) := goodIn_app (goodIn_of _ (by decide +kernel)) ggX8_readLaw_X8_isNumber
set_option maxRecDepth 20000 in
theorem ggX8_readLaw_X8_isEnd : GoodIn wsX8_readLaw wsX8_isEnd := goodIn_r _ [37, 1, 4, 6, 7, 8, 9, 10, 11, 12, 13, 2, 14, 15, 16, 17, 18, 19, 20, 21, 22, 23, 24, 25, 26, 27, 28, 29, 38, 39, 40, 41, 42, 43, 44, 45, 46, 47, 48, 49, 50, 51, 52, 53, 54, 55, 56, 57, 58] (by decide +kernel) (by decide +kernel)
set_option maxRecDepth 20000 in
theorem gX8_readLaw_X8_isEnd : GoodIn wsX8_readLaw (wsV RX8 133 RX8 yX8_isEnd wsX8_isEnd) := goodIn_app (goodIn_of _ (by decide +kernel)) ggX8_readLaw_X8_isEnd
theorem dX8_readLaw_0 : decode cX8_readLaw 0 = .ok (.aload_n 0, 1) := by decide +kernel
theorem dX8_readLaw_1 : decode cX8_readLaw 1 = .ok (.invokevirtual 121, 3) := by decide +kernel
theorem dX8_readLaw_4 : decode cX8_readLaw 4 = .ok (.aload_n 0, 1) := by decide +kernel
theorem dX8_readLaw_5 : decode cX8_readLaw 5 = .ok (.aload_n 0, 1) := by decide +kernel
theorem dX8_readLaw_6 : decode cX8_readLaw 6 = .ok (.getfield 102, 3) := by decide +kernel
theorem dX8_readLaw_9 : decode cX8_readLaw 9 = .ok (.iconst 1, 1) := by decide +kernel
theorem dX8_readLaw_10 : decode cX8_readLaw 10 = .ok (.if_icmp .ne 18, 3) := by decide +kernel
theorem dX8_readLaw_13 : decode cX8_readLaw 13 = .ok (.aload_n 0, 1) := by decide +kernel
theorem dX8_readLaw_14 : decode cX8_readLaw 14 = .ok (.getfield 98, 3) := by decide +kernel
theorem dX8_readLaw_17 : decode cX8_readLaw 17 = .ok (.ldc2_w 127, 3) := by decide +kernel
theorem dX8_readLaw_20 : decode cX8_readLaw 20 = .ok (.lcmp, 1) := by decide +kernel
theorem dX8_readLaw_21 : decode cX8_readLaw 21 = .ok (.ifCond .ne 7, 3) := by decide +kernel
theorem dX8_readLaw_24 : decode cX8_readLaw 24 = .ok (.iconst 0, 1) := by decide +kernel
theorem dX8_readLaw_25 : decode cX8_readLaw 25 = .ok (.goto 4, 3) := by decide +kernel
theorem dX8_readLaw_28 : decode cX8_readLaw 28 = .ok (.iconst 1, 1) := by decide +kernel
theorem dX8_readLaw_29 : decode cX8_readLaw 29 = .ok (.putfield 124, 3) := by decide +kernel
theorem dX8_readLaw_32 : decode cX8_readLaw 32 = .ok (.aload_n 0, 1) := by decide +kernel
theorem dX8_readLaw_33 : decode cX8_readLaw 33 = .ok (.getfield 124, 3) := by decide +kernel
theorem dX8_readLaw_36 : decode cX8_readLaw 36 = .ok (.ifCond .ne 13, 3) := by decide +kernel
theorem dX8_readLaw_39 : decode cX8_readLaw 39 = .ok (.aload_n 0, 1) := by decide +kernel
theorem dX8_readLaw_40 : decode cX8_readLaw 40 = .ok (.iconst 0, 1) := by decide +kernel
theorem dX8_readLaw_41 : decode cX8_readLaw 41 = .ok (.bipush 90, 2) := by decide +kernel
theorem dX8_readLaw_43 : decode cX8_readLaw 43 = .ok (.invokevirtual 129, 3) := by decide +kernel
theorem dX8_readLaw_46 : decode cX8_readLaw 46 = .ok (.ifCond .ne 5, 3) := by decide +kernel
theorem dX8_readLaw_49 : decode cX8_readLaw 49 = .ok (.iconst 0, 1) := by decide +kernel
theorem dX8_readLaw_50 : decode cX8_readLaw 50 = .ok (.ireturn, 1) := by decide +kernel
theorem dX8_readLaw_51 : decode cX8_readLaw 51 = .ok (.aload_n 0, 1) := by decide +kernel
theorem dX8_readLaw_52 : decode cX8_readLaw 52 = .ok (.getfield 31, 3) := by decide +kernel
theorem dX8_readLaw_55 : decode cX8_readLaw 55 = .ok (.iconst 2, 1) := by decide +kernel
theorem dX8_readLaw_56 : decode cX8_readLaw 56 = .ok (.aload_n 0, 1) := by decide +kernel
theorem dX8_readLaw_57 : decode cX8_readLaw 57 = .ok (.getfield 98, 3) := by decide +kernel
theorem dX8_readLaw_60 : decode cX8_readLaw 60 = .ok (.l2i, 1) := by decide +kernel
theorem dX8_readLaw_61 : decode cX8_readLaw 61 = .ok (.iastore, 1) := by decide +kernel
theorem dX8_readLaw_62 : decode cX8_readLaw 62 = .ok (.aload_n 0, 1) := by decide +kernel
theorem dX8_readLaw_63 : decode cX8_readLaw 63 = .ok (.iconst 0, 1) := by decide +kernel
theorem dX8_readLaw_64 : decode cX8_readLaw 64 = .ok (.bipush 50, 2) := by decide +kernel
theorem dX8_readLaw_66 : decode cX8_readLaw 66 = .ok (.invokevirtual 129, 3) := by decide +kernel
theorem dX8_readLaw_69 : decode cX8_readLaw 69 = .ok (.ifCond .ne 5, 3) := by decide +kernel
theorem dX8_readLaw_72 : decode cX8_readLaw 72 = .ok (.iconst 0, 1) := by decide +kernel
theorem dX8_readLaw_73 : decode cX8_readLaw 73 = .ok (.ireturn, 1) := by decide +kernel
theorem dX8_readLaw_74 : decode cX8_readLaw 74 = .ok (.aload_n 0, 1) := by decide +kernel
theorem dX8_readLaw_75 : decode cX8_readLaw 75 = .ok (.getfield 31, 3) := by decide +kernel
theorem dX8_readLaw_78 : decode cX8_readLaw 78 = .ok (.iconst 3, 1) := by decide +kernel
theorem dX8_readLaw_79 : decode cX8_readLaw 79 = .ok (.aload_n 0, 1) := by decide +kernel
theorem dX8_readLaw_80 : decode cX8_readLaw 80 = .ok (.getfield 98, 3) := by decide +kernel
theorem dX8_readLaw_83 : decode cX8_readLaw 83 = .ok (.l2i, 1) := by decide +kernel
theorem dX8_readLaw_84 : decode cX8_readLaw 84 = .ok (.iastore, 1) := by decide +kernel
theorem dX8_readLaw_85 : decode cX8_readLaw 85 = .ok (.aload_n 0, 1) := by decide +kernel
theorem dX8_readLaw_86 : decode cX8_readLaw 86 = .ok (.iconst 0, 1) := by decide +kernel
theorem dX8_readLaw_87 : decode cX8_readLaw 87 = .ok (.bipush 99, 2) := by decide +kernel
theorem dX8_readLaw_89 : decode cX8_readLaw 89 = .ok (.invokevirtual 129, 3) := by decide +kernel
theorem dX8_readLaw_92 : decode cX8_readLaw 92 = .ok (.ifCond .ne 5, 3) := by decide +kernel
theorem dX8_readLaw_95 : decode cX8_readLaw 95 = .ok (.iconst 0, 1) := by decide +kernel
theorem dX8_readLaw_96 : decode cX8_readLaw 96 = .ok (.ireturn, 1) := by decide +kernel
theorem dX8_readLaw_97 : decode cX8_readLaw 97 = .ok (.aload_n 0, 1) := by decide +kernel
theorem dX8_readLaw_98 : decode cX8_readLaw 98 = .ok (.getfield 31, 3) := by decide +kernel
theorem dX8_readLaw_101 : decode cX8_readLaw 101 = .ok (.iconst 4, 1) := by decide +kernel
theorem dX8_readLaw_102 : decode cX8_readLaw 102 = .ok (.aload_n 0, 1) := by decide +kernel
theorem dX8_readLaw_103 : decode cX8_readLaw 103 = .ok (.getfield 98, 3) := by decide +kernel
theorem dX8_readLaw_106 : decode cX8_readLaw 106 = .ok (.l2i, 1) := by decide +kernel
theorem dX8_readLaw_107 : decode cX8_readLaw 107 = .ok (.iastore, 1) := by decide +kernel
theorem dX8_readLaw_108 : decode cX8_readLaw 108 = .ok (.aload_n 0, 1) := by decide +kernel
theorem dX8_readLaw_109 : decode cX8_readLaw 109 = .ok (.invokevirtual 133, 3) := by decide +kernel
theorem dX8_readLaw_112 : decode cX8_readLaw 112 = .ok (.ireturn, 1) := by decide +kernel
theorem dX8_kindOf_0 : decode cX8_kindOf 0 = .ok (.lload_n 0, 1) := by decide +kernel
theorem dX8_kindOf_1 : decode cX8_kindOf 1 = .ok (.ldc2_w 137, 3) := by decide +kernel
theorem dX8_kindOf_4 : decode cX8_kindOf 4 = .ok (.lcmp, 1) := by decide +kernel
theorem dX8_kindOf_5 : decode cX8_kindOf 5 = .ok (.ifCond .ne 7, 3) := by decide +kernel
theorem dX8_kindOf_8 : decode cX8_kindOf 8 = .ok (.iconst 1, 1) := by decide +kernel
theorem dX8_kindOf_9 : decode cX8_kindOf 9 = .ok (.goto 52, 3) := by decide +kernel
theorem dX8_kindOf_12 : decode cX8_kindOf 12 = .ok (.lload_n 0, 1) := by decide +kernel
theorem dX8_kindOf_13 : decode cX8_kindOf 13 = .ok (.ldc2_w 139, 3) := by decide +kernel
theorem dX8_kindOf_16 : decode cX8_kindOf 16 = .ok (.lcmp, 1) := by decide +kernel
theorem dX8_kindOf_17 : decode cX8_kindOf 17 = .ok (.ifCond .ne 7, 3) := by decide +kernel
theorem dX8_kindOf_20 : decode cX8_kindOf 20 = .ok (.iconst 2, 1) := by decide +kernel
theorem dX8_kindOf_21 : decode cX8_kindOf 21 = .ok (.goto 40, 3) := by decide +kernel
theorem dX8_kindOf_24 : decode cX8_kindOf 24 = .ok (.lload_n 0, 1) := by decide +kernel
theorem dX8_kindOf_25 : decode cX8_kindOf 25 = .ok (.ldc2_w 141, 3) := by decide +kernel
theorem dX8_kindOf_28 : decode cX8_kindOf 28 = .ok (.lcmp, 1) := by decide +kernel
theorem dX8_kindOf_29 : decode cX8_kindOf 29 = .ok (.ifCond .ne 7, 3) := by decide +kernel
theorem dX8_kindOf_32 : decode cX8_kindOf 32 = .ok (.iconst 3, 1) := by decide +kernel
theorem dX8_kindOf_33 : decode cX8_kindOf 33 = .ok (.goto 28, 3) := by decide +kernel
theorem dX8_kindOf_36 : decode cX8_kindOf 36 = .ok (.lload_n 0, 1) := by decide +kernel
theorem dX8_kindOf_37 : decode cX8_kindOf 37 = .ok (.ldc2_w 143, 3) := by decide +kernel
theorem dX8_kindOf_40 : decode cX8_kindOf 40 = .ok (.lcmp, 1) := by decide +kernel
theorem dX8_kindOf_41 : decode cX8_kindOf 41 = .ok (.ifCond .ne 7, 3) := by decide +kernel
theorem dX8_kindOf_44 : decode cX8_kindOf 44 = .ok (.iconst 4, 1) := by decide +kernel
theorem dX8_kindOf_45 : decode cX8_kindOf 45 = .ok (.goto 16, 3) := by decide +kernel
theorem dX8_kindOf_48 : decode cX8_kindOf 48 = .ok (.lload_n 0, 1) := by decide +kernel
theorem dX8_kindOf_49 : decode cX8_kindOf 49 = .ok (.ldc2_w 145, 3) := by decide +kernel
theorem dX8_kindOf_52 : decode cX8_kindOf 52 = .ok (.lcmp, 1) := by decide +kernel
theorem dX8_kindOf_53 : decode cX8_kindOf 53 = .ok (.ifCond .ne 7, 3) := by decide +kernel
theorem dX8_kindOf_56 : decode cX8_kindOf 56 = .ok (.iconst 5, 1) := by decide +kernel
theorem dX8_kindOf_57 : decode cX8_kindOf 57 = .ok (.goto 4, 3) := by decide +kernel
theorem dX8_kindOf_60 : decode cX8_kindOf 60 = .ok (.iconst 0, 1) := by decide +kernel
theorem dX8_kindOf_61 : decode cX8_kindOf 61 = .ok (.ireturn, 1) := by decide +kernel
theorem dX8_isTaken_0 : decode cX8_isTaken 0 = .ok (.iconst 0, 1) := by decide +kernel
theorem dX8_isTaken_1 : decode cX8_isTaken 1 = .ok (.istore 4, 2) := by decide +kernel
theorem dX8_isTaken_3 : decode cX8_isTaken 3 = .ok (.iconst 0, 1) := by decide +kernel
theorem dX8_isTaken_4 : decode cX8_isTaken 4 = .ok (.istore 5, 2) := by decide +kernel
theorem dX8_isTaken_6 : decode cX8_isTaken 6 = .ok (.iload 5, 2) := by decide +kernel
theorem dX8_isTaken_8 : decode cX8_isTaken 8 = .ok (.aload_n 0, 1) := by decide +kernel
theorem dX8_isTaken_9 : decode cX8_isTaken 9 = .ok (.getfield 31, 3) := by decide +kernel
theorem dX8_isTaken_12 : decode cX8_isTaken 12 = .ok (.iconst 0, 1) := by decide +kernel
theorem dX8_isTaken_13 : decode cX8_isTaken 13 = .ok (.iaload, 1) := by decide +kernel
theorem dX8_isTaken_14 : decode cX8_isTaken 14 = .ok (.if_icmp .ge 61, 3) := by decide +kernel
theorem dX8_isTaken_17 : decode cX8_isTaken 17 = .ok (.iload 4, 2) := by decide +kernel
theorem dX8_isTaken_19 : decode cX8_isTaken 19 = .ok (.ifCond .ne 43, 3) := by decide +kernel
theorem dX8_isTaken_22 : decode cX8_isTaken 22 = .ok (.aload_n 0, 1) := by decide +kernel
theorem dX8_isTaken_23 : decode cX8_isTaken 23 = .ok (.getfield 31, 3) := by decide +kernel
theorem dX8_isTaken_26 : decode cX8_isTaken 26 = .ok (.iconst 5, 1) := by decide +kernel
theorem dX8_isTaken_27 : decode cX8_isTaken 27 = .ok (.bipush 10, 2) := by decide +kernel
theorem dX8_isTaken_29 : decode cX8_isTaken 29 = .ok (.iload 5, 2) := by decide +kernel
theorem dX8_isTaken_31 : decode cX8_isTaken 31 = .ok (.imul, 1) := by decide +kernel
theorem dX8_isTaken_32 : decode cX8_isTaken 32 = .ok (.iadd, 1) := by decide +kernel
theorem dX8_isTaken_33 : decode cX8_isTaken 33 = .ok (.bipush 8, 2) := by decide +kernel
theorem dX8_isTaken_35 : decode cX8_isTaken 35 = .ok (.iadd, 1) := by decide +kernel
theorem dX8_isTaken_36 : decode cX8_isTaken 36 = .ok (.iaload, 1) := by decide +kernel
theorem dX8_isTaken_37 : decode cX8_isTaken 37 = .ok (.iload_n 1, 1) := by decide +kernel
theorem dX8_isTaken_38 : decode cX8_isTaken 38 = .ok (.if_icmp .ne 28, 3) := by decide +kernel
theorem dX8_isTaken_41 : decode cX8_isTaken 41 = .ok (.aload_n 0, 1) := by decide +kernel
theorem dX8_isTaken_42 : decode cX8_isTaken 42 = .ok (.getfield 31, 3) := by decide +kernel
theorem dX8_isTaken_45 : decode cX8_isTaken 45 = .ok (.iconst 5, 1) := by decide +kernel
theorem dX8_isTaken_46 : decode cX8_isTaken 46 = .ok (.bipush 10, 2) := by decide +kernel
theorem dX8_isTaken_48 : decode cX8_isTaken 48 = .ok (.iload 5, 2) := by decide +kernel
theorem dX8_isTaken_50 : decode cX8_isTaken 50 = .ok (.imul, 1) := by decide +kernel
theorem dX8_isTaken_51 : decode cX8_isTaken 51 = .ok (.iadd, 1) := by decide +kernel
theorem dX8_isTaken_52 : decode cX8_isTaken 52 = .ok (.bipush 9, 2) := by decide +kernel
theorem dX8_isTaken_54 : decode cX8_isTaken 54 = .ok (.iadd, 1) := by decide +kernel
theorem dX8_isTaken_55 : decode cX8_isTaken 55 = .ok (.iaload, 1) := by decide +kernel
theorem dX8_isTaken_56 : decode cX8_isTaken 56 = .ok (.i2l, 1) := by decide +kernel
theorem dX8_isTaken_57 : decode cX8_isTaken 57 = .ok (.lload_n 2, 1) := by decide +kernel
theorem dX8_isTaken_58 : decode cX8_isTaken 58 = .ok (.lcmp, 1) := by decide +kernel
theorem dX8_isTaken_59 : decode cX8_isTaken 59 = .ok (.ifCond .ne 7, 3) := by decide +kernel
theorem dX8_isTaken_62 : decode cX8_isTaken 62 = .ok (.iconst 1, 1) := by decide +kernel
theorem dX8_isTaken_63 : decode cX8_isTaken 63 = .ok (.goto 4, 3) := by decide +kernel
theorem dX8_isTaken_66 : decode cX8_isTaken 66 = .ok (.iconst 0, 1) := by decide +kernel
theorem dX8_isTaken_67 : decode cX8_isTaken 67 = .ok (.istore 4, 2) := by decide +kernel
theorem dX8_isTaken_69 : decode cX8_isTaken 69 = .ok (.iinc 5 1, 3) := by decide +kernel
theorem dX8_isTaken_72 : decode cX8_isTaken 72 = .ok (.goto (-66), 3) := by decide +kernel
theorem dX8_isTaken_75 : decode cX8_isTaken 75 = .ok (.iload 4, 2) := by decide +kernel
theorem dX8_isTaken_77 : decode cX8_isTaken 77 = .ok (.ireturn, 1) := by decide +kernel
set_option maxRecDepth 20000 in
theorem ggX8_readMill_X8_nextToken : GoodIn wsX8_readMill wsX8_nextToken := goodIn_r _ [10, 11, 12, 13, 3, 2, 14, 15, 16, 17, 18, 19, 20, 21, 22, 23, 24, 9, 25, 26, 27, 28, 29, 50, 51, 52, 53, 54, 55, 56, 57, 58, 59, 60, 61, 62, 63, 64, 65, 66, 67, 68, 69, 70] (by decide +kernel) (by decide +kernel)
set_option maxRecDepth 20000 in
theorem gX8_readMill_X8_nextToken : GoodIn wsX8_readMill (wsV RX8 121 RX8 yX8_nextToken wsX8_nextToken) := goodIn_app (goodIn_of _ (by decide +kernel)) ggX8_readMill_X8_nextToken
set_option maxRecDepth 20000 in
theorem ggX8_readMill_X8_kindOf : GoodIn wsX8_readMill wsX8_kindOf := goodIn_r _ [32, 33, 34, 35, 36, 37] (by decide +kernel) (by decide +kernel)
set_option maxRecDepth 20000 in
theorem gX8_readMill_X8_kindOf : GoodIn wsX8_readMill (va_wsS RX8 149 yX8_kindOf wsX8_kindOf) := goodIn_app (goodIn_of _ (by decide +kernel)) ggX8_readMill_X8_kindOf
set_option maxRecDepth 20000 in
theorem ggX8_readMill_X8_isNumber : GoodIn wsX8_readMill wsX8_isNumber := goodIn_r _ [41, 2, 3, 5, 6, 7, 8, 9, 10, 11, 12, 13, 14, 15, 16, 17, 18, 19, 20, 21, 22, 23, 24, 25, 26, 27, 28, 29, 50, 51, 52, 53, 54, 55, 56, 57, 58, 59, 60, 61, 62, 63, 64, 65, 66, 67, 68, 69, 70] (by decide +kernel) (by decide +kernel)
set_option maxRecDepth 20000 in
theorem gX8_readMill_X8_isNumber : GoodIn wsX8_readMill (wsV RX8 129 RX8 yX8_isNumber wsX8_isNumber) := goodIn_app (goodIn_of _ (by decide +kernel)) ggX8_readMill_X8_isNumber
set_option maxRecDepth 20000 in
theorem ggX8_readMill_X8_isTaken : GoodIn wsX8_readMill wsX8_isTaken := goodIn_r _ [45, 1, 50, 51, 52, 53, 54, 55, 56, 57, 58, 59, 60, 61, 62, 63, 64, 65, 66, 67, 68, 69, 70] (by decide +kernel) (by decide +kernel)
set_option maxRecDepth 20000 in
theorem gX8_readMill_X8_isTaken : GoodIn wsX8_readMill (wsV RX8 153 RX8 yX8_isTaken wsX8_isTaken) := goodIn_app (goodIn_of _ (by decide +kernel)) ggX8_readMill_X8_isTaken
set_option maxRecDepth 20000 in
theorem ggX8_readMill_X8_isEnd : GoodIn wsX8_readMill wsX8_isEnd := goodIn_r _ [49, 2, 5, 6, 7, 8, 9, 10, 11, 12, 13, 3, 14, 15, 16, 17, 18, 19, 20, 21, 22, 23, 24, 25, 26, 27, 28, 29, 50, 51, 52, 53, 54, 55, 56, 57, 58, 59, 60, 61, 62, 63, 64, 65, 66, 67, 68, 69, 70] (by decide +kernel) (by decide +kernel)
set_option maxRecDepth 20000 in
theorem gX8_readMill_X8_isEnd : GoodIn wsX8_readMill (wsV RX8 133 RX8 yX8_isEnd wsX8_isEnd) := goodIn_app (goodIn_of _ (by decide +kernel)) ggX8_readMill_X8_isEnd
theorem dX8_readMill_0 : decode cX8_readMill 0 = .ok (.aload_n 0, 1) := by decide +kernel
theorem dX8_readMill_1 : decode cX8_readMill 1 = .ok (.getfield 31, 3) := by decide +kernel
theorem dX8_readMill_4 : decode cX8_readMill 4 = .ok (.iconst 0, 1) := by decide +kernel
theorem dX8_readMill_5 : decode cX8_readMill 5 = .ok (.iaload, 1) := by decide +kernel
theorem dX8_readMill_6 : decode cX8_readMill 6 = .ok (.istore_n 1, 1) := by decide +kernel
theorem dX8_readMill_7 : decode cX8_readMill 7 = .ok (.aload_n 0, 1) := by decide +kernel
theorem dX8_readMill_8 : decode cX8_readMill 8 = .ok (.aload_n 0, 1) := by decide +kernel
theorem dX8_readMill_9 : decode cX8_readMill 9 = .ok (.getfield 102, 3) := by decide +kernel
theorem dX8_readMill_12 : decode cX8_readMill 12 = .ok (.iconst 1, 1) := by decide +kernel
theorem dX8_readMill_13 : decode cX8_readMill 13 = .ok (.if_icmp .ne 14, 3) := by decide +kernel
theorem dX8_readMill_16 : decode cX8_readMill 16 = .ok (.aload_n 0, 1) := by decide +kernel
theorem dX8_readMill_17 : decode cX8_readMill 17 = .ok (.getfield 98, 3) := by decide +kernel
theorem dX8_readMill_20 : decode cX8_readMill 20 = .ok (.ldc2_w 147, 3) := by decide +kernel
theorem dX8_readMill_23 : decode cX8_readMill 23 = .ok (.lcmp, 1) := by decide +kernel
theorem dX8_readMill_24 : decode cX8_readMill 24 = .ok (.ifCond .eq 7, 3) := by decide +kernel
theorem dX8_readMill_27 : decode cX8_readMill 27 = .ok (.iconst 1, 1) := by decide +kernel
theorem dX8_readMill_28 : decode cX8_readMill 28 = .ok (.goto 14, 3) := by decide +kernel
theorem dX8_readMill_31 : decode cX8_readMill 31 = .ok (.iload_n 1, 1) := by decide +kernel
theorem dX8_readMill_32 : decode cX8_readMill 32 = .ok (.bipush 8, 2) := by decide +kernel
theorem dX8_readMill_34 : decode cX8_readMill 34 = .ok (.if_icmp .ne 7, 3) := by decide +kernel
theorem dX8_readMill_37 : decode cX8_readMill 37 = .ok (.iconst 3, 1) := by decide +kernel
theorem dX8_readMill_38 : decode cX8_readMill 38 = .ok (.goto 4, 3) := by decide +kernel
theorem dX8_readMill_41 : decode cX8_readMill 41 = .ok (.iconst 0, 1) := by decide +kernel
theorem dX8_readMill_42 : decode cX8_readMill 42 = .ok (.putfield 124, 3) := by decide +kernel
theorem dX8_readMill_45 : decode cX8_readMill 45 = .ok (.aload_n 0, 1) := by decide +kernel
theorem dX8_readMill_46 : decode cX8_readMill 46 = .ok (.getfield 124, 3) := by decide +kernel
theorem dX8_readMill_49 : decode cX8_readMill 49 = .ok (.ifCond .eq 5, 3) := by decide +kernel
theorem dX8_readMill_52 : decode cX8_readMill 52 = .ok (.iconst 0, 1) := by decide +kernel
theorem dX8_readMill_53 : decode cX8_readMill 53 = .ok (.ireturn, 1) := by decide +kernel
theorem dX8_readMill_54 : decode cX8_readMill 54 = .ok (.aload_n 0, 1) := by decide +kernel
theorem dX8_readMill_55 : decode cX8_readMill 55 = .ok (.invokevirtual 121, 3) := by decide +kernel
theorem dX8_readMill_58 : decode cX8_readMill 58 = .ok (.aload_n 0, 1) := by decide +kernel
theorem dX8_readMill_59 : decode cX8_readMill 59 = .ok (.getfield 102, 3) := by decide +kernel
theorem dX8_readMill_62 : decode cX8_readMill 62 = .ok (.iconst 1, 1) := by decide +kernel
theorem dX8_readMill_63 : decode cX8_readMill 63 = .ok (.if_icmp .ne 13, 3) := by decide +kernel
theorem dX8_readMill_66 : decode cX8_readMill 66 = .ok (.aload_n 0, 1) := by decide +kernel
theorem dX8_readMill_67 : decode cX8_readMill 67 = .ok (.getfield 98, 3) := by decide +kernel
theorem dX8_readMill_70 : decode cX8_readMill 70 = .ok (.invokestatic 149, 3) := by decide +kernel
theorem dX8_readMill_73 : decode cX8_readMill 73 = .ok (.goto 4, 3) := by decide +kernel
theorem dX8_readMill_76 : decode cX8_readMill 76 = .ok (.iconst 0, 1) := by decide +kernel
theorem dX8_readMill_77 : decode cX8_readMill 77 = .ok (.istore_n 2, 1) := by decide +kernel
theorem dX8_readMill_78 : decode cX8_readMill 78 = .ok (.aload_n 0, 1) := by decide +kernel
theorem dX8_readMill_79 : decode cX8_readMill 79 = .ok (.iload_n 2, 1) := by decide +kernel
theorem dX8_readMill_80 : decode cX8_readMill 80 = .ok (.ifCond .ne 7, 3) := by decide +kernel
theorem dX8_readMill_83 : decode cX8_readMill 83 = .ok (.iconst 1, 1) := by decide +kernel
theorem dX8_readMill_84 : decode cX8_readMill 84 = .ok (.goto 4, 3) := by decide +kernel
theorem dX8_readMill_87 : decode cX8_readMill 87 = .ok (.iconst 0, 1) := by decide +kernel
theorem dX8_readMill_88 : decode cX8_readMill 88 = .ok (.putfield 124, 3) := by decide +kernel
theorem dX8_readMill_91 : decode cX8_readMill 91 = .ok (.aload_n 0, 1) := by decide +kernel
theorem dX8_readMill_92 : decode cX8_readMill 92 = .ok (.getfield 124, 3) := by decide +kernel
theorem dX8_readMill_95 : decode cX8_readMill 95 = .ok (.ifCond .ne 13, 3) := by decide +kernel
theorem dX8_readMill_98 : decode cX8_readMill 98 = .ok (.aload_n 0, 1) := by decide +kernel
theorem dX8_readMill_99 : decode cX8_readMill 99 = .ok (.iconst 0, 1) := by decide +kernel
theorem dX8_readMill_100 : decode cX8_readMill 100 = .ok (.bipush 20, 2) := by decide +kernel
theorem dX8_readMill_102 : decode cX8_readMill 102 = .ok (.invokevirtual 129, 3) := by decide +kernel
theorem dX8_readMill_105 : decode cX8_readMill 105 = .ok (.ifCond .ne 5, 3) := by decide +kernel
theorem dX8_readMill_108 : decode cX8_readMill 108 = .ok (.iconst 0, 1) := by decide +kernel
theorem dX8_readMill_109 : decode cX8_readMill 109 = .ok (.ireturn, 1) := by decide +kernel
theorem dX8_readMill_110 : decode cX8_readMill 110 = .ok (.aload_n 0, 1) := by decide +kernel
theorem dX8_readMill_111 : decode cX8_readMill 111 = .ok (.getfield 98, 3) := by decide +kernel
theorem dX8_readMill_114 : decode cX8_readMill 114 = .ok (.l2i, 1) := by decide +kernel
theorem dX8_readMill_115 : decode cX8_readMill 115 = .ok (.istore_n 3, 1) := by decide +kernel
theorem dX8_readMill_116 : decode cX8_readMill 116 = .ok (.aload_n 0, 1) := by decide +kernel
theorem dX8_readMill_117 : decode cX8_readMill 117 = .ok (.iconst 0, 1) := by decide +kernel
theorem dX8_readMill_118 : decode cX8_readMill 118 = .ok (.bipush 20, 2) := by decide +kernel
theorem dX8_readMill_120 : decode cX8_readMill 120 = .ok (.invokevirtual 129, 3) := by decide +kernel
theorem dX8_readMill_123 : decode cX8_readMill 123 = .ok (.ifCond .ne 5, 3) := by decide +kernel
theorem dX8_readMill_126 : decode cX8_readMill 126 = .ok (.iconst 0, 1) := by decide +kernel
theorem dX8_readMill_127 : decode cX8_readMill 127 = .ok (.ireturn, 1) := by decide +kernel
theorem dX8_readMill_128 : decode cX8_readMill 128 = .ok (.aload_n 0, 1) := by decide +kernel
theorem dX8_readMill_129 : decode cX8_readMill 129 = .ok (.iload_n 3, 1) := by decide +kernel
theorem dX8_readMill_130 : decode cX8_readMill 130 = .ok (.aload_n 0, 1) := by decide +kernel
theorem dX8_readMill_131 : decode cX8_readMill 131 = .ok (.getfield 98, 3) := by decide +kernel
theorem dX8_readMill_134 : decode cX8_readMill 134 = .ok (.invokevirtual 153, 3) := by decide +kernel
theorem dX8_readMill_137 : decode cX8_readMill 137 = .ok (.ifCond .eq 10, 3) := by decide +kernel
theorem dX8_readMill_140 : decode cX8_readMill 140 = .ok (.aload_n 0, 1) := by decide +kernel
theorem dX8_readMill_141 : decode cX8_readMill 141 = .ok (.iconst 2, 1) := by decide +kernel
theorem dX8_readMill_142 : decode cX8_readMill 142 = .ok (.putfield 124, 3) := by decide +kernel
theorem dX8_readMill_145 : decode cX8_readMill 145 = .ok (.iconst 0, 1) := by decide +kernel
theorem dX8_readMill_146 : decode cX8_readMill 146 = .ok (.ireturn, 1) := by decide +kernel
theorem dX8_readMill_147 : decode cX8_readMill 147 = .ok (.iconst 5, 1) := by decide +kernel
theorem dX8_readMill_148 : decode cX8_readMill 148 = .ok (.bipush 10, 2) := by decide +kernel
theorem dX8_readMill_150 : decode cX8_readMill 150 = .ok (.iload_n 1, 1) := by decide +kernel
theorem dX8_readMill_151 : decode cX8_readMill 151 = .ok (.imul, 1) := by decide +kernel
theorem dX8_readMill_152 : decode cX8_readMill 152 = .ok (.iadd, 1) := by decide +kernel
theorem dX8_readMill_153 : decode cX8_readMill 153 = .ok (.istore 4, 2) := by decide +kernel
theorem dX8_readMill_155 : decode cX8_readMill 155 = .ok (.iconst 0, 1) := by decide +kernel
theorem dX8_readMill_156 : decode cX8_readMill 156 = .ok (.istore 5, 2) := by decide +kernel
theorem dX8_readMill_158 : decode cX8_readMill 158 = .ok (.iload 5, 2) := by decide +kernel
theorem dX8_readMill_160 : decode cX8_readMill 160 = .ok (.bipush 10, 2) := by decide +kernel
theorem dX8_readMill_162 : decode cX8_readMill 162 = .ok (.if_icmp .ge 20, 3) := by decide +kernel
theorem dX8_readMill_165 : decode cX8_readMill 165 = .ok (.aload_n 0, 1) := by decide +kernel
theorem dX8_readMill_166 : decode cX8_readMill 166 = .ok (.getfield 31, 3) := by decide +kernel
theorem dX8_readMill_169 : decode cX8_readMill 169 = .ok (.iload 4, 2) := by decide +kernel
theorem dX8_readMill_171 : decode cX8_readMill 171 = .ok (.iload 5, 2) := by decide +kernel
theorem dX8_readMill_173 : decode cX8_readMill 173 = .ok (.iadd, 1) := by decide +kernel
theorem dX8_readMill_174 : decode cX8_readMill 174 = .ok (.iconst 0, 1) := by decide +kernel
theorem dX8_readMill_175 : decode cX8_readMill 175 = .ok (.iastore, 1) := by decide +kernel
theorem dX8_readMill_176 : decode cX8_readMill 176 = .ok (.iinc 5 1, 3) := by decide +kernel
theorem dX8_readMill_179 : decode cX8_readMill 179 = .ok (.goto (-21), 3) := by decide +kernel
theorem dX8_readMill_182 : decode cX8_readMill 182 = .ok (.aload_n 0, 1) := by decide +kernel
theorem dX8_readMill_183 : decode cX8_readMill 183 = .ok (.getfield 31, 3) := by decide +kernel
theorem dX8_readMill_186 : decode cX8_readMill 186 = .ok (.iload 4, 2) := by decide +kernel
theorem dX8_readMill_188 : decode cX8_readMill 188 = .ok (.bipush 8, 2) := by decide +kernel
theorem dX8_readMill_190 : decode cX8_readMill 190 = .ok (.iadd, 1) := by decide +kernel
theorem dX8_readMill_191 : decode cX8_readMill 191 = .ok (.iload_n 3, 1) := by decide +kernel
theorem dX8_readMill_192 : decode cX8_readMill 192 = .ok (.iastore, 1) := by decide +kernel
theorem dX8_readMill_193 : decode cX8_readMill 193 = .ok (.aload_n 0, 1) := by decide +kernel
theorem dX8_readMill_194 : decode cX8_readMill 194 = .ok (.getfield 31, 3) := by decide +kernel
theorem dX8_readMill_197 : decode cX8_readMill 197 = .ok (.iload 4, 2) := by decide +kernel
theorem dX8_readMill_199 : decode cX8_readMill 199 = .ok (.bipush 9, 2) := by decide +kernel
theorem dX8_readMill_201 : decode cX8_readMill 201 = .ok (.iadd, 1) := by decide +kernel
theorem dX8_readMill_202 : decode cX8_readMill 202 = .ok (.aload_n 0, 1) := by decide +kernel
theorem dX8_readMill_203 : decode cX8_readMill 203 = .ok (.getfield 98, 3) := by decide +kernel
theorem dX8_readMill_206 : decode cX8_readMill 206 = .ok (.l2i, 1) := by decide +kernel
theorem dX8_readMill_207 : decode cX8_readMill 207 = .ok (.iastore, 1) := by decide +kernel
theorem dX8_readMill_208 : decode cX8_readMill 208 = .ok (.aload_n 0, 1) := by decide +kernel
theorem dX8_readMill_209 : decode cX8_readMill 209 = .ok (.getfield 31, 3) := by decide +kernel
theorem dX8_readMill_212 : decode cX8_readMill 212 = .ok (.bipush 85, 2) := by decide +kernel
theorem dX8_readMill_214 : decode cX8_readMill 214 = .ok (.iload_n 1, 1) := by decide +kernel
theorem dX8_readMill_215 : decode cX8_readMill 215 = .ok (.iadd, 1) := by decide +kernel
theorem dX8_readMill_216 : decode cX8_readMill 216 = .ok (.iload_n 2, 1) := by decide +kernel
theorem dX8_readMill_217 : decode cX8_readMill 217 = .ok (.iastore, 1) := by decide +kernel
theorem dX8_readMill_218 : decode cX8_readMill 218 = .ok (.iconst 0, 1) := by decide +kernel
theorem dX8_readMill_219 : decode cX8_readMill 219 = .ok (.istore 5, 2) := by decide +kernel
theorem dX8_readMill_221 : decode cX8_readMill 221 = .ok (.iload 5, 2) := by decide +kernel
theorem dX8_readMill_223 : decode cX8_readMill 223 = .ok (.iconst 4, 1) := by decide +kernel
theorem dX8_readMill_224 : decode cX8_readMill 224 = .ok (.if_icmp .ge 69, 3) := by decide +kernel
theorem dX8_readMill_227 : decode cX8_readMill 227 = .ok (.aload_n 0, 1) := by decide +kernel
theorem dX8_readMill_228 : decode cX8_readMill 228 = .ok (.iload 5, 2) := by decide +kernel
theorem dX8_readMill_230 : decode cX8_readMill 230 = .ok (.iconst 2, 1) := by decide +kernel
theorem dX8_readMill_231 : decode cX8_readMill 231 = .ok (.if_icmp .ge 7, 3) := by decide +kernel
theorem dX8_readMill_234 : decode cX8_readMill 234 = .ok (.iconst 1, 1) := by decide +kernel
theorem dX8_readMill_235 : decode cX8_readMill 235 = .ok (.goto 4, 3) := by decide +kernel
theorem dX8_readMill_238 : decode cX8_readMill 238 = .ok (.iconst 0, 1) := by decide +kernel
theorem dX8_readMill_239 : decode cX8_readMill 239 = .ok (.iload 5, 2) := by decide +kernel
theorem dX8_readMill_241 : decode cX8_readMill 241 = .ok (.iconst 2, 1) := by decide +kernel
theorem dX8_readMill_242 : decode cX8_readMill 242 = .ok (.if_icmp .ge 8, 3) := by decide +kernel
theorem dX8_readMill_245 : decode cX8_readMill 245 = .ok (.bipush 9, 2) := by decide +kernel
theorem dX8_readMill_247 : decode cX8_readMill 247 = .ok (.goto 17, 3) := by decide +kernel
theorem dX8_readMill_250 : decode cX8_readMill 250 = .ok (.iload 5, 2) := by decide +kernel
theorem dX8_readMill_252 : decode cX8_readMill 252 = .ok (.iconst 2, 1) := by decide +kernel
theorem dX8_readMill_253 : decode cX8_readMill 253 = .ok (.if_icmp .ne 8, 3) := by decide +kernel
theorem dX8_readMill_256 : decode cX8_readMill 256 = .ok (.bipush 99, 2) := by decide +kernel
theorem dX8_readMill_258 : decode cX8_readMill 258 = .ok (.goto 6, 3) := by decide +kernel
theorem dX8_readMill_261 : decode cX8_readMill 261 = .ok (.sipush 999, 3) := by decide +kernel
theorem dX8_readMill_264 : decode cX8_readMill 264 = .ok (.invokevirtual 129, 3) := by decide +kernel
theorem dX8_readMill_267 : decode cX8_readMill 267 = .ok (.ifCond .ne 5, 3) := by decide +kernel
theorem dX8_readMill_270 : decode cX8_readMill 270 = .ok (.iconst 0, 1) := by decide +kernel
theorem dX8_readMill_271 : decode cX8_readMill 271 = .ok (.ireturn, 1) := by decide +kernel
theorem dX8_readMill_272 : decode cX8_readMill 272 = .ok (.aload_n 0, 1) := by decide +kernel
theorem dX8_readMill_273 : decode cX8_readMill 273 = .ok (.getfield 31, 3) := by decide +kernel
theorem dX8_readMill_276 : decode cX8_readMill 276 = .ok (.iload 4, 2) := by decide +kernel
theorem dX8_readMill_278 : decode cX8_readMill 278 = .ok (.iload 5, 2) := by decide +kernel
theorem dX8_readMill_280 : decode cX8_readMill 280 = .ok (.iadd, 1) := by decide +kernel
theorem dX8_readMill_281 : decode cX8_readMill 281 = .ok (.aload_n 0, 1) := by decide +kernel
theorem dX8_readMill_282 : decode cX8_readMill 282 = .ok (.getfield 98, 3) := by decide +kernel
theorem dX8_readMill_285 : decode cX8_readMill 285 = .ok (.l2i, 1) := by decide +kernel
theorem dX8_readMill_286 : decode cX8_readMill 286 = .ok (.iastore, 1) := by decide +kernel
theorem dX8_readMill_287 : decode cX8_readMill 287 = .ok (.iinc 5 1, 3) := by decide +kernel
theorem dX8_readMill_290 : decode cX8_readMill 290 = .ok (.goto (-69), 3) := by decide +kernel
theorem dX8_readMill_293 : decode cX8_readMill 293 = .ok (.aload_n 0, 1) := by decide +kernel
theorem dX8_readMill_294 : decode cX8_readMill 294 = .ok (.getfield 31, 3) := by decide +kernel
theorem dX8_readMill_297 : decode cX8_readMill 297 = .ok (.iconst 0, 1) := by decide +kernel
theorem dX8_readMill_298 : decode cX8_readMill 298 = .ok (.dup2, 1) := by decide +kernel
theorem dX8_readMill_299 : decode cX8_readMill 299 = .ok (.iaload, 1) := by decide +kernel
theorem dX8_readMill_300 : decode cX8_readMill 300 = .ok (.iconst 1, 1) := by decide +kernel
theorem dX8_readMill_301 : decode cX8_readMill 301 = .ok (.iadd, 1) := by decide +kernel
theorem dX8_readMill_302 : decode cX8_readMill 302 = .ok (.iastore, 1) := by decide +kernel
theorem dX8_readMill_303 : decode cX8_readMill 303 = .ok (.aload_n 0, 1) := by decide +kernel
theorem dX8_readMill_304 : decode cX8_readMill 304 = .ok (.invokevirtual 133, 3) := by decide +kernel
theorem dX8_readMill_307 : decode cX8_readMill 307 = .ok (.ireturn, 1) := by decide +kernel
set_option maxRecDepth 20000 in
theorem ggX8_readAll_X8_readLaw : GoodIn wsX8_readAll wsX8_readLaw := goodIn_r _ [9, 4, 10, 11, 3, 1, 12, 13, 14, 8, 15, 2, 16, 17, 18, 19, 20, 21, 22, 23, 24, 25, 26, 27, 28, 29, 30, 31, 32, 33, 34, 35, 36, 37, 38, 39, 40, 41, 59, 60, 61, 62, 63, 64, 65, 66, 67, 68, 69, 70, 71, 72, 73, 74, 75, 76, 77, 78, 79] (by decide +kernel) (by decide +kernel)
set_option maxRecDepth 20000 in
theorem gX8_readAll_X8_readLaw : GoodIn wsX8_readAll (wsV RX8 157 RX8 yX8_readLaw wsX8_readLaw) := goodIn_app (goodIn_of _ (by decide +kernel)) ggX8_readAll_X8_readLaw
set_option maxRecDepth 20000 in
theorem ggX8_readAll_X8_nextToken : GoodIn wsX8_readAll wsX8_nextToken := goodIn_r _ [15, 2, 16, 17, 10, 4, 18, 19, 20, 21, 22, 23, 24, 25, 26, 27, 28, 8, 29, 30, 31, 32, 33, 59, 60, 61, 62, 63, 64, 65, 66, 67, 68, 69, 70, 71, 72, 73, 74, 75, 76, 77, 78, 79] (by decide +kernel) (by decide +kernel)
set_option maxRecDepth 20000 in
theorem gX8_readAll_X8_nextToken : GoodIn wsX8_readAll (wsV RX8 121 RX8 yX8_nextToken wsX8_nextToken) := goodIn_app (goodIn_of _ (by decide +kernel)) ggX8_readAll_X8_nextToken
set_option maxRecDepth 20000 in
theorem ggX8_readAll_X8_readMill : GoodIn wsX8_readAll wsX8_readMill := goodIn_r _ [45, 1, 4, 10, 46, 3, 12, 13, 14, 8, 15, 2, 16, 17, 18, 19, 20, 21, 22, 23, 24, 25, 26, 27, 28, 29, 30, 31, 32, 33, 47, 48, 49, 50, 51, 52, 53, 54, 34, 35, 36, 37, 55, 56, 57, 58, 38, 39, 40, 41, 59, 60, 61, 62, 63, 64, 65, 66, 67, 68, 69, 70, 71, 72, 73, 74, 75, 76, 77, 78, 79] (by decide +kernel) (by decide +kernel)
set_option maxRecDepth 20000 in
theorem gX8_readAll_X8_readMill : GoodIn wsX8_readAll (wsV RX8 160 RX8 yX8_readMill wsX8_readMill) := goodIn_app (goodIn_of _ (by decide +kernel)) ggX8_readAll_X8_readMill
theorem dX8_readAll_0 : decode cX8_readAll 0 = .ok (.aload_n 0, 1) := by decide +kernel
theorem dX8_readAll_1 : decode cX8_readAll 1 = .ok (.getfield 31, 3) := by decide +kernel
theorem dX8_readAll_4 : decode cX8_readAll 4 = .ok (.iconst 0, 1) := by decide +kernel
theorem dX8_readAll_5 : decode cX8_readAll 5 = .ok (.iconst 0, 1) := by decide +kernel
theorem dX8_readAll_6 : decode cX8_readAll 6 = .ok (.iastore, 1) := by decide +kernel
theorem dX8_readAll_7 : decode cX8_readAll 7 = .ok (.aload_n 0, 1) := by decide +kernel
theorem dX8_readAll_8 : decode cX8_readAll 8 = .ok (.getfield 31, 3) := by decide +kernel
theorem dX8_readAll_11 : decode cX8_readAll 11 = .ok (.iconst 1, 1) := by decide +kernel
theorem dX8_readAll_12 : decode cX8_readAll 12 = .ok (.iconst 0, 1) := by decide +kernel
theorem dX8_readAll_13 : decode cX8_readAll 13 = .ok (.iastore, 1) := by decide +kernel
theorem dX8_readAll_14 : decode cX8_readAll 14 = .ok (.aload_n 0, 1) := by decide +kernel
theorem dX8_readAll_15 : decode cX8_readAll 15 = .ok (.iconst 0, 1) := by decide +kernel
theorem dX8_readAll_16 : decode cX8_readAll 16 = .ok (.putfield 88, 3) := by decide +kernel
theorem dX8_readAll_19 : decode cX8_readAll 19 = .ok (.aload_n 0, 1) := by decide +kernel
theorem dX8_readAll_20 : decode cX8_readAll 20 = .ok (.iconst 0, 1) := by decide +kernel
theorem dX8_readAll_21 : decode cX8_readAll 21 = .ok (.putfield 124, 3) := by decide +kernel
theorem dX8_readAll_24 : decode cX8_readAll 24 = .ok (.aload_n 0, 1) := by decide +kernel
theorem dX8_readAll_25 : decode cX8_readAll 25 = .ok (.invokevirtual 157, 3) := by decide +kernel
theorem dX8_readAll_28 : decode cX8_readAll 28 = .ok (.ifCond .ne 5, 3) := by decide +kernel
theorem dX8_readAll_31 : decode cX8_readAll 31 = .ok (.iconst 0, 1) := by decide +kernel
theorem dX8_readAll_32 : decode cX8_readAll 32 = .ok (.ireturn, 1) := by decide +kernel
theorem dX8_readAll_33 : decode cX8_readAll 33 = .ok (.aload_n 0, 1) := by decide +kernel
theorem dX8_readAll_34 : decode cX8_readAll 34 = .ok (.invokevirtual 121, 3) := by decide +kernel
theorem dX8_readAll_37 : decode cX8_readAll 37 = .ok (.aload_n 0, 1) := by decide +kernel
theorem dX8_readAll_38 : decode cX8_readAll 38 = .ok (.getfield 102, 3) := by decide +kernel
theorem dX8_readAll_41 : decode cX8_readAll 41 = .ok (.ifCond .ne 12, 3) := by decide +kernel
theorem dX8_readAll_44 : decode cX8_readAll 44 = .ok (.aload_n 0, 1) := by decide +kernel
theorem dX8_readAll_45 : decode cX8_readAll 45 = .ok (.getfield 31, 3) := by decide +kernel
theorem dX8_readAll_48 : decode cX8_readAll 48 = .ok (.iconst 0, 1) := by decide +kernel
theorem dX8_readAll_49 : decode cX8_readAll 49 = .ok (.iaload, 1) := by decide +kernel
theorem dX8_readAll_50 : decode cX8_readAll 50 = .ok (.ifCond .ne 19, 3) := by decide +kernel
theorem dX8_readAll_53 : decode cX8_readAll 53 = .ok (.aload_n 0, 1) := by decide +kernel
theorem dX8_readAll_54 : decode cX8_readAll 54 = .ok (.invokevirtual 160, 3) := by decide +kernel
theorem dX8_readAll_57 : decode cX8_readAll 57 = .ok (.ifCond .ne 5, 3) := by decide +kernel
theorem dX8_readAll_60 : decode cX8_readAll 60 = .ok (.iconst 0, 1) := by decide +kernel
theorem dX8_readAll_61 : decode cX8_readAll 61 = .ok (.ireturn, 1) := by decide +kernel
theorem dX8_readAll_62 : decode cX8_readAll 62 = .ok (.aload_n 0, 1) := by decide +kernel
theorem dX8_readAll_63 : decode cX8_readAll 63 = .ok (.invokevirtual 121, 3) := by decide +kernel
theorem dX8_readAll_66 : decode cX8_readAll 66 = .ok (.goto (-29), 3) := by decide +kernel
theorem dX8_readAll_69 : decode cX8_readAll 69 = .ok (.iconst 1, 1) := by decide +kernel
theorem dX8_readAll_70 : decode cX8_readAll 70 = .ok (.ireturn, 1) := by decide +kernel
set_option maxRecDepth 20000 in
theorem ggX8_ridge_X8_readAll : GoodIn wsX8_ridge wsX8_readAll := goodIn_r _ [12, 6, 13, 3, 14, 15, 16, 17, 11, 18, 19, 20, 21, 22, 23, 24, 1, 2, 25, 26, 27, 28, 29, 30, 31, 32, 33, 34, 35, 36, 37, 38, 39, 40, 41, 42, 43, 44, 45, 46, 47, 48, 49, 50, 51, 52, 53, 54, 55, 56, 57, 58, 59, 60, 61, 62, 63, 64, 65, 69, 70, 71, 72, 73, 74, 75, 76, 77, 78, 79, 80, 81, 82, 83, 84, 85, 86, 87, 88, 89] (by decide +kernel) (by decide +kernel)
set_option maxRecDepth 20000 in
theorem gX8_ridge_X8_readAll : GoodIn wsX8_ridge (wsV RX8 163 RX8 yX8_readAll wsX8_readAll) := goodIn_app (goodIn_of _ (by decide +kernel)) ggX8_ridge_X8_readAll
set_option maxRecDepth 20000 in
theorem ggX8_ridge_X8_copyRow : GoodIn wsX8_ridge wsX8_copyRow := goodIn_r _ [68] (by decide +kernel) (by decide +kernel)
set_option maxRecDepth 20000 in
theorem gX8_ridge_X8_copyRow : GoodIn wsX8_ridge (va_wsS RX8 170 yX8_copyRow wsX8_copyRow) := goodIn_app (goodIn_of _ (by decide +kernel)) ggX8_ridge_X8_copyRow
theorem dX8_ridge_0 : decode cX8_ridge 0 = .ok (.aload_n 0, 1) := by decide +kernel
theorem dX8_ridge_1 : decode cX8_ridge 1 = .ok (.invokevirtual 163, 3) := by decide +kernel
theorem dX8_ridge_4 : decode cX8_ridge 4 = .ok (.istore_n 1, 1) := by decide +kernel
theorem dX8_ridge_5 : decode cX8_ridge 5 = .ok (.aload_n 0, 1) := by decide +kernel
theorem dX8_ridge_6 : decode cX8_ridge 6 = .ok (.getfield 91, 3) := by decide +kernel
theorem dX8_ridge_9 : decode cX8_ridge 9 = .ok (.istore_n 2, 1) := by decide +kernel
theorem dX8_ridge_10 : decode cX8_ridge 10 = .ok (.aload_n 0, 1) := by decide +kernel
theorem dX8_ridge_11 : decode cX8_ridge 11 = .ok (.iconst 0, 1) := by decide +kernel
theorem dX8_ridge_12 : decode cX8_ridge 12 = .ok (.putfield 82, 3) := by decide +kernel
theorem dX8_ridge_15 : decode cX8_ridge 15 = .ok (.iload_n 1, 1) := by decide +kernel
theorem dX8_ridge_16 : decode cX8_ridge 16 = .ok (.ifCond .ne 16, 3) := by decide +kernel
theorem dX8_ridge_19 : decode cX8_ridge 19 = .ok (.aload_n 0, 1) := by decide +kernel
theorem dX8_ridge_20 : decode cX8_ridge 20 = .ok (.aload_n 0, 1) := by decide +kernel
theorem dX8_ridge_21 : decode cX8_ridge 21 = .ok (.getfield 124, 3) := by decide +kernel
theorem dX8_ridge_24 : decode cX8_ridge 24 = .ok (.putfield 166, 3) := by decide +kernel
theorem dX8_ridge_27 : decode cX8_ridge 27 = .ok (.ldc 169, 2) := by decide +kernel
theorem dX8_ridge_29 : decode cX8_ridge 29 = .ok (.iload_n 2, 1) := by decide +kernel
theorem dX8_ridge_30 : decode cX8_ridge 30 = .ok (.isub, 1) := by decide +kernel
theorem dX8_ridge_31 : decode cX8_ridge 31 = .ok (.ireturn, 1) := by decide +kernel
theorem dX8_ridge_32 : decode cX8_ridge 32 = .ok (.aload_n 0, 1) := by decide +kernel
theorem dX8_ridge_33 : decode cX8_ridge 33 = .ok (.getfield 31, 3) := by decide +kernel
theorem dX8_ridge_36 : decode cX8_ridge 36 = .ok (.aload_n 0, 1) := by decide +kernel
theorem dX8_ridge_37 : decode cX8_ridge 37 = .ok (.getfield 22, 3) := by decide +kernel
theorem dX8_ridge_40 : decode cX8_ridge 40 = .ok (.invokestatic 170, 3) := by decide +kernel
theorem dX8_ridge_43 : decode cX8_ridge 43 = .ok (.aload_n 0, 1) := by decide +kernel
theorem dX8_ridge_44 : decode cX8_ridge 44 = .ok (.getfield 22, 3) := by decide +kernel
theorem dX8_ridge_47 : decode cX8_ridge 47 = .ok (.iconst 0, 1) := by decide +kernel
theorem dX8_ridge_48 : decode cX8_ridge 48 = .ok (.iaload, 1) := by decide +kernel
theorem dX8_ridge_49 : decode cX8_ridge 49 = .ok (.ireturn, 1) := by decide +kernel
theorem dX8_copyRow_0 : decode cX8_copyRow 0 = .ok (.iconst 0, 1) := by decide +kernel
theorem dX8_copyRow_1 : decode cX8_copyRow 1 = .ok (.istore_n 2, 1) := by decide +kernel
theorem dX8_copyRow_2 : decode cX8_copyRow 2 = .ok (.iload_n 2, 1) := by decide +kernel
theorem dX8_copyRow_3 : decode cX8_copyRow 3 = .ok (.bipush 93, 2) := by decide +kernel
theorem dX8_copyRow_5 : decode cX8_copyRow 5 = .ok (.if_icmp .ge 15, 3) := by decide +kernel
theorem dX8_copyRow_8 : decode cX8_copyRow 8 = .ok (.aload_n 1, 1) := by decide +kernel
theorem dX8_copyRow_9 : decode cX8_copyRow 9 = .ok (.iload_n 2, 1) := by decide +kernel
theorem dX8_copyRow_10 : decode cX8_copyRow 10 = .ok (.aload_n 0, 1) := by decide +kernel
theorem dX8_copyRow_11 : decode cX8_copyRow 11 = .ok (.iload_n 2, 1) := by decide +kernel
theorem dX8_copyRow_12 : decode cX8_copyRow 12 = .ok (.iaload, 1) := by decide +kernel
theorem dX8_copyRow_13 : decode cX8_copyRow 13 = .ok (.iastore, 1) := by decide +kernel
theorem dX8_copyRow_14 : decode cX8_copyRow 14 = .ok (.iinc 2 1, 3) := by decide +kernel
theorem dX8_copyRow_17 : decode cX8_copyRow 17 = .ok (.goto (-15), 3) := by decide +kernel
theorem dX8_copyRow_20 : decode cX8_copyRow 20 = .ok (.return_, 1) := by decide +kernel
theorem dX8_fault_0 : decode cX8_fault 0 = .ok (.aload_n 0, 1) := by decide +kernel
theorem dX8_fault_1 : decode cX8_fault 1 = .ok (.getfield 166, 3) := by decide +kernel
theorem dX8_fault_4 : decode cX8_fault 4 = .ok (.ireturn, 1) := by decide +kernel
set_option maxRecDepth 20000 in
theorem ggX8_isMill_X8_in : GoodIn wsX8_isMill wsX8_in := goodIn_r _ [5] (by decide +kernel) (by decide +kernel)
set_option maxRecDepth 20000 in
theorem gX8_isMill_X8_in : GoodIn wsX8_isMill (va_wsS RX8 53 yX8_in wsX8_in) := goodIn_app (goodIn_of _ (by decide +kernel)) ggX8_isMill_X8_in
theorem dX8_isMill_0 : decode cX8_isMill 0 = .ok (.iload_n 1, 1) := by decide +kernel
theorem dX8_isMill_1 : decode cX8_isMill 1 = .ok (.i2l, 1) := by decide +kernel
theorem dX8_isMill_2 : decode cX8_isMill 2 = .ok (.lconst 0, 1) := by decide +kernel
theorem dX8_isMill_3 : decode cX8_isMill 3 = .ok (.aload_n 0, 1) := by decide +kernel
theorem dX8_isMill_4 : decode cX8_isMill 4 = .ok (.getfield 22, 3) := by decide +kernel
theorem dX8_isMill_7 : decode cX8_isMill 7 = .ok (.iconst 0, 1) := by decide +kernel
theorem dX8_isMill_8 : decode cX8_isMill 8 = .ok (.iaload, 1) := by decide +kernel
theorem dX8_isMill_9 : decode cX8_isMill 9 = .ok (.iconst 1, 1) := by decide +kernel
theorem dX8_isMill_10 : decode cX8_isMill 10 = .ok (.isub, 1) := by decide +kernel
theorem dX8_isMill_11 : decode cX8_isMill 11 = .ok (.i2l, 1) := by decide +kernel
theorem dX8_isMill_12 : decode cX8_isMill 12 = .ok (.invokestatic 53, 3) := by decide +kernel
theorem dX8_isMill_15 : decode cX8_isMill 15 = .ok (.ireturn, 1) := by decide +kernel
theorem dX8_isNoRidge_0 : decode cX8_isNoRidge 0 = .ok (.aload_n 0, 1) := by decide +kernel
theorem dX8_isNoRidge_1 : decode cX8_isNoRidge 1 = .ok (.getfield 22, 3) := by decide +kernel
theorem dX8_isNoRidge_4 : decode cX8_isNoRidge 4 = .ok (.iconst 0, 1) := by decide +kernel
theorem dX8_isNoRidge_5 : decode cX8_isNoRidge 5 = .ok (.iaload, 1) := by decide +kernel
theorem dX8_isNoRidge_6 : decode cX8_isNoRidge 6 = .ok (.ifCond .ne 7, 3) := by decide +kernel
theorem dX8_isNoRidge_9 : decode cX8_isNoRidge 9 = .ok (.iconst 1, 1) := by decide +kernel
theorem dX8_isNoRidge_10 : decode cX8_isNoRidge 10 = .ok (.goto 4, 3) := by decide +kernel
theorem dX8_isNoRidge_13 : decode cX8_isNoRidge 13 = .ok (.iconst 0, 1) := by decide +kernel
theorem dX8_isNoRidge_14 : decode cX8_isNoRidge 14 = .ok (.ireturn, 1) := by decide +kernel
theorem dX8_of_0 : decode cX8_of 0 = .ok (.aload_n 0, 1) := by decide +kernel
theorem dX8_of_1 : decode cX8_of 1 = .ok (.getfield 22, 3) := by decide +kernel
theorem dX8_of_4 : decode cX8_of 4 = .ok (.iconst 5, 1) := by decide +kernel
theorem dX8_of_5 : decode cX8_of 5 = .ok (.bipush 10, 2) := by decide +kernel
theorem dX8_of_7 : decode cX8_of 7 = .ok (.iload_n 1, 1) := by decide +kernel
theorem dX8_of_8 : decode cX8_of 8 = .ok (.imul, 1) := by decide +kernel
theorem dX8_of_9 : decode cX8_of 9 = .ok (.iadd, 1) := by decide +kernel
theorem dX8_of_10 : decode cX8_of 10 = .ok (.iload_n 2, 1) := by decide +kernel
theorem dX8_of_11 : decode cX8_of 11 = .ok (.iadd, 1) := by decide +kernel
theorem dX8_of_12 : decode cX8_of 12 = .ok (.iaload, 1) := by decide +kernel
theorem dX8_of_13 : decode cX8_of 13 = .ok (.ireturn, 1) := by decide +kernel
set_option maxRecDepth 20000 in
theorem ggX8_furl_X8_isMill : GoodIn wsX8_furl wsX8_isMill := goodIn_r _ [7, 2, 8, 9, 6, 10, 15, 16, 17, 18, 19, 20, 21, 22, 23, 24, 25, 26, 27, 28, 29, 30, 31, 32, 33, 34, 35] (by decide +kernel) (by decide +kernel)
set_option maxRecDepth 20000 in
theorem gX8_furl_X8_isMill : GoodIn wsX8_furl (wsV RX8 174 RX8 yX8_isMill wsX8_isMill) := goodIn_app (goodIn_of _ (by decide +kernel)) ggX8_furl_X8_isMill
set_option maxRecDepth 20000 in
theorem ggX8_furl_X8_in : GoodIn wsX8_furl wsX8_in := goodIn_r _ [10] (by decide +kernel) (by decide +kernel)
set_option maxRecDepth 20000 in
theorem gX8_furl_X8_in : GoodIn wsX8_furl (va_wsS RX8 53 yX8_in wsX8_in) := goodIn_app (goodIn_of _ (by decide +kernel)) ggX8_furl_X8_in
set_option maxRecDepth 20000 in
theorem ggX8_furl_X8_of : GoodIn wsX8_furl wsX8_of := goodIn_r _ [14, 2, 15, 16, 17, 18, 19, 20, 21, 22, 23, 24, 25, 26, 27, 28, 29, 30, 31, 32, 33, 34, 35] (by decide +kernel) (by decide +kernel)
set_option maxRecDepth 20000 in
theorem gX8_furl_X8_of : GoodIn wsX8_furl (wsV RX8 177 RX8 yX8_of wsX8_of) := goodIn_app (goodIn_of _ (by decide +kernel)) ggX8_furl_X8_of
theorem dX8_furl_0 : decode cX8_furl 0 = .ok (.aload_n 0, 1) := by decide +kernel
theorem dX8_furl_1 : decode cX8_furl 1 = .ok (.iload_n 1, 1) := by decide +kernel
theorem dX8_furl_2 : decode cX8_furl 2 = .ok (.invokevirtual 174, 3) := by decide +kernel
theorem dX8_furl_5 : decode cX8_furl 5 = .ok (.ifCond .eq 13, 3) := by decide +kernel
theorem dX8_furl_8 : decode cX8_furl 8 = .ok (.iload_n 2, 1) := by decide +kernel
theorem dX8_furl_9 : decode cX8_furl 9 = .ok (.i2l, 1) := by decide +kernel
theorem dX8_furl_10 : decode cX8_furl 10 = .ok (.lconst 0, 1) := by decide +kernel
theorem dX8_furl_11 : decode cX8_furl 11 = .ok (.lconst 1, 1) := by decide +kernel
theorem dX8_furl_12 : decode cX8_furl 12 = .ok (.invokestatic 53, 3) := by decide +kernel
theorem dX8_furl_15 : decode cX8_furl 15 = .ok (.ifCond .ne 6, 3) := by decide +kernel
theorem dX8_furl_18 : decode cX8_furl 18 = .ok (.ldc 63, 2) := by decide +kernel
theorem dX8_furl_20 : decode cX8_furl 20 = .ok (.ireturn, 1) := by decide +kernel
theorem dX8_furl_21 : decode cX8_furl 21 = .ok (.aload_n 0, 1) := by decide +kernel
theorem dX8_furl_22 : decode cX8_furl 22 = .ok (.iload_n 1, 1) := by decide +kernel
theorem dX8_furl_23 : decode cX8_furl 23 = .ok (.bipush 7, 2) := by decide +kernel
theorem dX8_furl_25 : decode cX8_furl 25 = .ok (.invokevirtual 177, 3) := by decide +kernel
theorem dX8_furl_28 : decode cX8_furl 28 = .ok (.istore_n 3, 1) := by decide +kernel
theorem dX8_furl_29 : decode cX8_furl 29 = .ok (.aload_n 0, 1) := by decide +kernel
theorem dX8_furl_30 : decode cX8_furl 30 = .ok (.getfield 22, 3) := by decide +kernel
theorem dX8_furl_33 : decode cX8_furl 33 = .ok (.iconst 5, 1) := by decide +kernel
theorem dX8_furl_34 : decode cX8_furl 34 = .ok (.bipush 10, 2) := by decide +kernel
theorem dX8_furl_36 : decode cX8_furl 36 = .ok (.iload_n 1, 1) := by decide +kernel
theorem dX8_furl_37 : decode cX8_furl 37 = .ok (.imul, 1) := by decide +kernel
theorem dX8_furl_38 : decode cX8_furl 38 = .ok (.iadd, 1) := by decide +kernel
theorem dX8_furl_39 : decode cX8_furl 39 = .ok (.bipush 7, 2) := by decide +kernel
theorem dX8_furl_41 : decode cX8_furl 41 = .ok (.iadd, 1) := by decide +kernel
theorem dX8_furl_42 : decode cX8_furl 42 = .ok (.iload_n 2, 1) := by decide +kernel
theorem dX8_furl_43 : decode cX8_furl 43 = .ok (.iastore, 1) := by decide +kernel
theorem dX8_furl_44 : decode cX8_furl 44 = .ok (.iload_n 3, 1) := by decide +kernel
theorem dX8_furl_45 : decode cX8_furl 45 = .ok (.ireturn, 1) := by decide +kernel
set_option maxRecDepth 20000 in
theorem ggX8_isQuarter_X8_in : GoodIn wsX8_isQuarter wsX8_in := goodIn_r _ [5] (by decide +kernel) (by decide +kernel)
set_option maxRecDepth 20000 in
theorem gX8_isQuarter_X8_in : GoodIn wsX8_isQuarter (va_wsS RX8 53 yX8_in wsX8_in) := goodIn_app (goodIn_of _ (by decide +kernel)) ggX8_isQuarter_X8_in
theorem dX8_isQuarter_0 : decode cX8_isQuarter 0 = .ok (.iload_n 0, 1) := by decide +kernel
theorem dX8_isQuarter_1 : decode cX8_isQuarter 1 = .ok (.i2l, 1) := by decide +kernel
theorem dX8_isQuarter_2 : decode cX8_isQuarter 2 = .ok (.lconst 0, 1) := by decide +kernel
theorem dX8_isQuarter_3 : decode cX8_isQuarter 3 = .ok (.ldc2_w 180, 3) := by decide +kernel
theorem dX8_isQuarter_6 : decode cX8_isQuarter 6 = .ok (.invokestatic 53, 3) := by decide +kernel
theorem dX8_isQuarter_9 : decode cX8_isQuarter 9 = .ok (.ireturn, 1) := by decide +kernel
set_option maxRecDepth 20000 in
theorem ggX8_face_X8_isMill : GoodIn wsX8_face wsX8_isMill := goodIn_r _ [8, 2, 9, 10, 7, 11, 20, 21, 22, 23, 24, 25, 26, 27, 28, 29, 30, 31, 32, 33, 34, 35, 36, 37, 38, 39, 40] (by decide +kernel) (by decide +kernel)
set_option maxRecDepth 20000 in
theorem gX8_face_X8_isMill : GoodIn wsX8_face (wsV RX8 174 RX8 yX8_isMill wsX8_isMill) := goodIn_app (goodIn_of _ (by decide +kernel)) ggX8_face_X8_isMill
set_option maxRecDepth 20000 in
theorem ggX8_face_X8_isQuarter : GoodIn wsX8_face wsX8_isQuarter := goodIn_r _ [14, 15, 9, 10, 7, 11] (by decide +kernel) (by decide +kernel)
set_option maxRecDepth 20000 in
theorem gX8_face_X8_isQuarter : GoodIn wsX8_face (va_wsS RX8 182 yX8_isQuarter wsX8_isQuarter) := goodIn_app (goodIn_of _ (by decide +kernel)) ggX8_face_X8_isQuarter
set_option maxRecDepth 20000 in
theorem ggX8_face_X8_of : GoodIn wsX8_face wsX8_of := goodIn_r _ [19, 2, 20, 21, 22, 23, 24, 25, 26, 27, 28, 29, 30, 31, 32, 33, 34, 35, 36, 37, 38, 39, 40] (by decide +kernel) (by decide +kernel)
set_option maxRecDepth 20000 in
theorem gX8_face_X8_of : GoodIn wsX8_face (wsV RX8 177 RX8 yX8_of wsX8_of) := goodIn_app (goodIn_of _ (by decide +kernel)) ggX8_face_X8_of
theorem dX8_face_0 : decode cX8_face 0 = .ok (.aload_n 0, 1) := by decide +kernel
theorem dX8_face_1 : decode cX8_face 1 = .ok (.iload_n 1, 1) := by decide +kernel
theorem dX8_face_2 : decode cX8_face 2 = .ok (.invokevirtual 174, 3) := by decide +kernel
theorem dX8_face_5 : decode cX8_face 5 = .ok (.ifCond .eq 10, 3) := by decide +kernel
theorem dX8_face_8 : decode cX8_face 8 = .ok (.iload_n 2, 1) := by decide +kernel
theorem dX8_face_9 : decode cX8_face 9 = .ok (.invokestatic 182, 3) := by decide +kernel
theorem dX8_face_12 : decode cX8_face 12 = .ok (.ifCond .ne 6, 3) := by decide +kernel
theorem dX8_face_15 : decode cX8_face 15 = .ok (.ldc 63, 2) := by decide +kernel
theorem dX8_face_17 : decode cX8_face 17 = .ok (.ireturn, 1) := by decide +kernel
theorem dX8_face_18 : decode cX8_face 18 = .ok (.aload_n 0, 1) := by decide +kernel
theorem dX8_face_19 : decode cX8_face 19 = .ok (.getfield 22, 3) := by decide +kernel
theorem dX8_face_22 : decode cX8_face 22 = .ok (.bipush 85, 2) := by decide +kernel
theorem dX8_face_24 : decode cX8_face 24 = .ok (.iload_n 1, 1) := by decide +kernel
theorem dX8_face_25 : decode cX8_face 25 = .ok (.iadd, 1) := by decide +kernel
theorem dX8_face_26 : decode cX8_face 26 = .ok (.iaload, 1) := by decide +kernel
theorem dX8_face_27 : decode cX8_face 27 = .ok (.iconst 5, 1) := by decide +kernel
theorem dX8_face_28 : decode cX8_face 28 = .ok (.if_icmp .ne 6, 3) := by decide +kernel
theorem dX8_face_31 : decode cX8_face 31 = .ok (.ldc 185, 2) := by decide +kernel
theorem dX8_face_33 : decode cX8_face 33 = .ok (.ireturn, 1) := by decide +kernel
theorem dX8_face_34 : decode cX8_face 34 = .ok (.aload_n 0, 1) := by decide +kernel
theorem dX8_face_35 : decode cX8_face 35 = .ok (.iload_n 1, 1) := by decide +kernel
theorem dX8_face_36 : decode cX8_face 36 = .ok (.bipush 6, 2) := by decide +kernel
theorem dX8_face_38 : decode cX8_face 38 = .ok (.invokevirtual 177, 3) := by decide +kernel
theorem dX8_face_41 : decode cX8_face 41 = .ok (.istore_n 3, 1) := by decide +kernel
theorem dX8_face_42 : decode cX8_face 42 = .ok (.aload_n 0, 1) := by decide +kernel
theorem dX8_face_43 : decode cX8_face 43 = .ok (.getfield 22, 3) := by decide +kernel
theorem dX8_face_46 : decode cX8_face 46 = .ok (.iconst 5, 1) := by decide +kernel
theorem dX8_face_47 : decode cX8_face 47 = .ok (.bipush 10, 2) := by decide +kernel
theorem dX8_face_49 : decode cX8_face 49 = .ok (.iload_n 1, 1) := by decide +kernel
theorem dX8_face_50 : decode cX8_face 50 = .ok (.imul, 1) := by decide +kernel
theorem dX8_face_51 : decode cX8_face 51 = .ok (.iadd, 1) := by decide +kernel
theorem dX8_face_52 : decode cX8_face 52 = .ok (.bipush 6, 2) := by decide +kernel
theorem dX8_face_54 : decode cX8_face 54 = .ok (.iadd, 1) := by decide +kernel
theorem dX8_face_55 : decode cX8_face 55 = .ok (.iload_n 2, 1) := by decide +kernel
theorem dX8_face_56 : decode cX8_face 56 = .ok (.iastore, 1) := by decide +kernel
theorem dX8_face_57 : decode cX8_face 57 = .ok (.iload_n 3, 1) := by decide +kernel
theorem dX8_face_58 : decode cX8_face 58 = .ok (.ireturn, 1) := by decide +kernel
set_option maxRecDepth 20000 in
theorem ggX8_build_X8_isMill : GoodIn wsX8_build wsX8_isMill := goodIn_r _ [8, 3, 9, 10, 7, 11, 16, 17, 18, 19, 20, 21, 22, 23, 24, 25, 26, 27, 28, 29, 30, 31, 32, 33, 34, 35, 36] (by decide +kernel) (by decide +kernel)
set_option maxRecDepth 20000 in
theorem gX8_build_X8_isMill : GoodIn wsX8_build (wsV RX8 174 RX8 yX8_isMill wsX8_isMill) := goodIn_app (goodIn_of _ (by decide +kernel)) ggX8_build_X8_isMill
set_option maxRecDepth 20000 in
theorem ggX8_build_X8_of : GoodIn wsX8_build wsX8_of := goodIn_r _ [15, 3, 16, 17, 18, 19, 20, 21, 22, 23, 24, 25, 26, 27, 28, 29, 30, 31, 32, 33, 34, 35, 36] (by decide +kernel) (by decide +kernel)
set_option maxRecDepth 20000 in
theorem gX8_build_X8_of : GoodIn wsX8_build (wsV RX8 177 RX8 yX8_of wsX8_of) := goodIn_app (goodIn_of _ (by decide +kernel)) ggX8_build_X8_of
theorem dX8_build_0 : decode cX8_build 0 = .ok (.aload_n 0, 1) := by decide +kernel
theorem dX8_build_1 : decode cX8_build 1 = .ok (.iload_n 1, 1) := by decide +kernel
theorem dX8_build_2 : decode cX8_build 2 = .ok (.invokevirtual 174, 3) := by decide +kernel
theorem dX8_build_5 : decode cX8_build 5 = .ok (.ifCond .ne 6, 3) := by decide +kernel
theorem dX8_build_8 : decode cX8_build 8 = .ok (.ldc 63, 2) := by decide +kernel
theorem dX8_build_10 : decode cX8_build 10 = .ok (.ireturn, 1) := by decide +kernel
theorem dX8_build_11 : decode cX8_build 11 = .ok (.aload_n 0, 1) := by decide +kernel
theorem dX8_build_12 : decode cX8_build 12 = .ok (.iload_n 1, 1) := by decide +kernel
theorem dX8_build_13 : decode cX8_build 13 = .ok (.iconst 0, 1) := by decide +kernel
theorem dX8_build_14 : decode cX8_build 14 = .ok (.invokevirtual 177, 3) := by decide +kernel
theorem dX8_build_17 : decode cX8_build 17 = .ok (.bipush 9, 2) := by decide +kernel
theorem dX8_build_19 : decode cX8_build 19 = .ok (.if_icmp .ne 6, 3) := by decide +kernel
theorem dX8_build_22 : decode cX8_build 22 = .ok (.ldc 85, 2) := by decide +kernel
theorem dX8_build_24 : decode cX8_build 24 = .ok (.ireturn, 1) := by decide +kernel
theorem dX8_build_25 : decode cX8_build 25 = .ok (.aload_n 0, 1) := by decide +kernel
theorem dX8_build_26 : decode cX8_build 26 = .ok (.getfield 22, 3) := by decide +kernel
theorem dX8_build_29 : decode cX8_build 29 = .ok (.iconst 5, 1) := by decide +kernel
theorem dX8_build_30 : decode cX8_build 30 = .ok (.bipush 10, 2) := by decide +kernel
theorem dX8_build_32 : decode cX8_build 32 = .ok (.iload_n 1, 1) := by decide +kernel
theorem dX8_build_33 : decode cX8_build 33 = .ok (.imul, 1) := by decide +kernel
theorem dX8_build_34 : decode cX8_build 34 = .ok (.iadd, 1) := by decide +kernel
theorem dX8_build_35 : decode cX8_build 35 = .ok (.dup2, 1) := by decide +kernel
theorem dX8_build_36 : decode cX8_build 36 = .ok (.iaload, 1) := by decide +kernel
theorem dX8_build_37 : decode cX8_build 37 = .ok (.iconst 1, 1) := by decide +kernel
theorem dX8_build_38 : decode cX8_build 38 = .ok (.iadd, 1) := by decide +kernel
theorem dX8_build_39 : decode cX8_build 39 = .ok (.iastore, 1) := by decide +kernel
theorem dX8_build_40 : decode cX8_build 40 = .ok (.aload_n 0, 1) := by decide +kernel
theorem dX8_build_41 : decode cX8_build 41 = .ok (.iload_n 1, 1) := by decide +kernel
theorem dX8_build_42 : decode cX8_build 42 = .ok (.iconst 0, 1) := by decide +kernel
theorem dX8_build_43 : decode cX8_build 43 = .ok (.invokevirtual 177, 3) := by decide +kernel
theorem dX8_build_46 : decode cX8_build 46 = .ok (.ireturn, 1) := by decide +kernel
set_option maxRecDepth 20000 in
theorem ggX8_bring_X8_isMill : GoodIn wsX8_bring wsX8_isMill := goodIn_r _ [9, 3, 10, 11, 8, 12, 17, 18, 19, 20, 21, 22, 23, 24, 25, 26, 27, 28, 29, 30, 31, 32, 33, 34, 35, 36, 37] (by decide +kernel) (by decide +kernel)
set_option maxRecDepth 20000 in
theorem gX8_bring_X8_isMill : GoodIn wsX8_bring (wsV RX8 174 RX8 yX8_isMill wsX8_isMill) := goodIn_app (goodIn_of _ (by decide +kernel)) ggX8_bring_X8_isMill
set_option maxRecDepth 20000 in
theorem ggX8_bring_X8_in : GoodIn wsX8_bring wsX8_in := goodIn_r _ [12] (by decide +kernel) (by decide +kernel)
set_option maxRecDepth 20000 in
theorem gX8_bring_X8_in : GoodIn wsX8_bring (va_wsS RX8 53 yX8_in wsX8_in) := goodIn_app (goodIn_of _ (by decide +kernel)) ggX8_bring_X8_in
set_option maxRecDepth 20000 in
theorem ggX8_bring_X8_of : GoodIn wsX8_bring wsX8_of := goodIn_r _ [16, 3, 17, 18, 19, 20, 21, 22, 23, 24, 25, 26, 27, 28, 29, 30, 31, 32, 33, 34, 35, 36, 37] (by decide +kernel) (by decide +kernel)
set_option maxRecDepth 20000 in
theorem gX8_bring_X8_of : GoodIn wsX8_bring (wsV RX8 177 RX8 yX8_of wsX8_of) := goodIn_app (goodIn_of _ (by decide +kernel)) ggX8_bring_X8_of
theorem dX8_bring_0 : decode cX8_bring 0 = .ok (.aload_n 0, 1) := by decide +kernel
theorem dX8_bring_1 : decode cX8_bring 1 = .ok (.iload_n 1, 1) := by decide +kernel
theorem dX8_bring_2 : decode cX8_bring 2 = .ok (.invokevirtual 174, 3) := by decide +kernel
theorem dX8_bring_5 : decode cX8_bring 5 = .ok (.ifCond .eq 15, 3) := by decide +kernel
theorem dX8_bring_8 : decode cX8_bring 8 = .ok (.iload_n 2, 1) := by decide +kernel
theorem dX8_bring_9 : decode cX8_bring 9 = .ok (.i2l, 1) := by decide +kernel
theorem dX8_bring_10 : decode cX8_bring 10 = .ok (.lconst 0, 1) := by decide +kernel
theorem dX8_bring_11 : decode cX8_bring 11 = .ok (.ldc2_w 186, 3) := by decide +kernel
theorem dX8_bring_14 : decode cX8_bring 14 = .ok (.invokestatic 53, 3) := by decide +kernel
theorem dX8_bring_17 : decode cX8_bring 17 = .ok (.ifCond .ne 6, 3) := by decide +kernel
theorem dX8_bring_20 : decode cX8_bring 20 = .ok (.ldc 63, 2) := by decide +kernel
theorem dX8_bring_22 : decode cX8_bring 22 = .ok (.ireturn, 1) := by decide +kernel
theorem dX8_bring_23 : decode cX8_bring 23 = .ok (.aload_n 0, 1) := by decide +kernel
theorem dX8_bring_24 : decode cX8_bring 24 = .ok (.iload_n 1, 1) := by decide +kernel
theorem dX8_bring_25 : decode cX8_bring 25 = .ok (.iconst 3, 1) := by decide +kernel
theorem dX8_bring_26 : decode cX8_bring 26 = .ok (.invokevirtual 177, 3) := by decide +kernel
theorem dX8_bring_29 : decode cX8_bring 29 = .ok (.iload_n 2, 1) := by decide +kernel
theorem dX8_bring_30 : decode cX8_bring 30 = .ok (.iadd, 1) := by decide +kernel
theorem dX8_bring_31 : decode cX8_bring 31 = .ok (.istore_n 3, 1) := by decide +kernel
theorem dX8_bring_32 : decode cX8_bring 32 = .ok (.aload_n 0, 1) := by decide +kernel
theorem dX8_bring_33 : decode cX8_bring 33 = .ok (.getfield 22, 3) := by decide +kernel
theorem dX8_bring_36 : decode cX8_bring 36 = .ok (.iconst 5, 1) := by decide +kernel
theorem dX8_bring_37 : decode cX8_bring 37 = .ok (.bipush 10, 2) := by decide +kernel
theorem dX8_bring_39 : decode cX8_bring 39 = .ok (.iload_n 1, 1) := by decide +kernel
theorem dX8_bring_40 : decode cX8_bring 40 = .ok (.imul, 1) := by decide +kernel
theorem dX8_bring_41 : decode cX8_bring 41 = .ok (.iadd, 1) := by decide +kernel
theorem dX8_bring_42 : decode cX8_bring 42 = .ok (.iconst 3, 1) := by decide +kernel
theorem dX8_bring_43 : decode cX8_bring 43 = .ok (.iadd, 1) := by decide +kernel
theorem dX8_bring_44 : decode cX8_bring 44 = .ok (.iload_n 3, 1) := by decide +kernel
theorem dX8_bring_45 : decode cX8_bring 45 = .ok (.ldc 188, 2) := by decide +kernel
theorem dX8_bring_47 : decode cX8_bring 47 = .ok (.if_icmp .le 8, 3) := by decide +kernel
theorem dX8_bring_50 : decode cX8_bring 50 = .ok (.ldc 188, 2) := by decide +kernel
theorem dX8_bring_52 : decode cX8_bring 52 = .ok (.goto 4, 3) := by decide +kernel
theorem dX8_bring_55 : decode cX8_bring 55 = .ok (.iload_n 3, 1) := by decide +kernel
theorem dX8_bring_56 : decode cX8_bring 56 = .ok (.iastore, 1) := by decide +kernel
theorem dX8_bring_57 : decode cX8_bring 57 = .ok (.aload_n 0, 1) := by decide +kernel
theorem dX8_bring_58 : decode cX8_bring 58 = .ok (.iload_n 1, 1) := by decide +kernel
theorem dX8_bring_59 : decode cX8_bring 59 = .ok (.iconst 3, 1) := by decide +kernel
theorem dX8_bring_60 : decode cX8_bring 60 = .ok (.invokevirtual 177, 3) := by decide +kernel
theorem dX8_bring_63 : decode cX8_bring 63 = .ok (.ireturn, 1) := by decide +kernel
set_option maxRecDepth 20000 in
theorem ggX8_mill_X8_isMill : GoodIn wsX8_mill wsX8_isMill := goodIn_r _ [7, 8, 9, 10, 6, 11, 16, 17, 18, 19, 20, 21, 22, 23, 24, 25, 26, 27, 28, 29, 30, 31, 32, 33, 34, 35, 36] (by decide +kernel) (by decide +kernel)
set_option maxRecDepth 20000 in
theorem gX8_mill_X8_isMill : GoodIn wsX8_mill (wsV RX8 174 RX8 yX8_isMill wsX8_isMill) := goodIn_app (goodIn_of _ (by decide +kernel)) ggX8_mill_X8_isMill
set_option maxRecDepth 20000 in
theorem ggX8_mill_X8_in : GoodIn wsX8_mill wsX8_in := goodIn_r _ [11] (by decide +kernel) (by decide +kernel)
set_option maxRecDepth 20000 in
theorem gX8_mill_X8_in : GoodIn wsX8_mill (va_wsS RX8 53 yX8_in wsX8_in) := goodIn_app (goodIn_of _ (by decide +kernel)) ggX8_mill_X8_in
set_option maxRecDepth 20000 in
theorem ggX8_mill_X8_of : GoodIn wsX8_mill wsX8_of := goodIn_r _ [15, 8, 16, 17, 18, 19, 20, 21, 22, 23, 24, 25, 26, 27, 28, 29, 30, 31, 32, 33, 34, 35, 36] (by decide +kernel) (by decide +kernel)
set_option maxRecDepth 20000 in
theorem gX8_mill_X8_of : GoodIn wsX8_mill (wsV RX8 177 RX8 yX8_of wsX8_of) := goodIn_app (goodIn_of _ (by decide +kernel)) ggX8_mill_X8_of
theorem dX8_mill_0 : decode cX8_mill 0 = .ok (.aload_n 0, 1) := by decide +kernel
theorem dX8_mill_1 : decode cX8_mill 1 = .ok (.iload_n 1, 1) := by decide +kernel
theorem dX8_mill_2 : decode cX8_mill 2 = .ok (.invokevirtual 174, 3) := by decide +kernel
theorem dX8_mill_5 : decode cX8_mill 5 = .ok (.ifCond .eq 24, 3) := by decide +kernel
theorem dX8_mill_8 : decode cX8_mill 8 = .ok (.iload_n 2, 1) := by decide +kernel
theorem dX8_mill_9 : decode cX8_mill 9 = .ok (.i2l, 1) := by decide +kernel
theorem dX8_mill_10 : decode cX8_mill 10 = .ok (.lconst 0, 1) := by decide +kernel
theorem dX8_mill_11 : decode cX8_mill 11 = .ok (.ldc2_w 189, 3) := by decide +kernel
theorem dX8_mill_14 : decode cX8_mill 14 = .ok (.invokestatic 53, 3) := by decide +kernel
theorem dX8_mill_17 : decode cX8_mill 17 = .ok (.ifCond .eq 12, 3) := by decide +kernel
theorem dX8_mill_20 : decode cX8_mill 20 = .ok (.aload_n 0, 1) := by decide +kernel
theorem dX8_mill_21 : decode cX8_mill 21 = .ok (.iload_n 1, 1) := by decide +kernel
theorem dX8_mill_22 : decode cX8_mill 22 = .ok (.iload_n 2, 1) := by decide +kernel
theorem dX8_mill_23 : decode cX8_mill 23 = .ok (.invokevirtual 177, 3) := by decide +kernel
theorem dX8_mill_26 : decode cX8_mill 26 = .ok (.goto 5, 3) := by decide +kernel
theorem dX8_mill_29 : decode cX8_mill 29 = .ok (.ldc 63, 2) := by decide +kernel
theorem dX8_mill_31 : decode cX8_mill 31 = .ok (.ireturn, 1) := by decide +kernel
set_option maxRecDepth 20000 in
theorem ggX8_isBehind_X8_of : GoodIn wsX8_isBehind wsX8_of := goodIn_r _ [7, 8, 12, 13, 14, 15, 16, 17, 18, 19, 20, 21, 22, 23, 24, 25, 26, 27, 28, 29, 30, 31, 32] (by decide +kernel) (by decide +kernel)
set_option maxRecDepth 20000 in
theorem gX8_isBehind_X8_of : GoodIn wsX8_isBehind (wsV RX8 177 RX8 yX8_of wsX8_of) := goodIn_app (goodIn_of _ (by decide +kernel)) ggX8_isBehind_X8_of
set_option maxRecDepth 20000 in
theorem ggX8_isBehind_X8_in : GoodIn wsX8_isBehind wsX8_in := goodIn_r _ [11] (by decide +kernel) (by decide +kernel)
set_option maxRecDepth 20000 in
theorem gX8_isBehind_X8_in : GoodIn wsX8_isBehind (va_wsS RX8 53 yX8_in wsX8_in) := goodIn_app (goodIn_of _ (by decide +kernel)) ggX8_isBehind_X8_in
theorem dX8_isBehind_0 : decode cX8_isBehind 0 = .ok (.aload_n 0, 1) := by decide +kernel
theorem dX8_isBehind_1 : decode cX8_isBehind 1 = .ok (.iload_n 2, 1) := by decide +kernel
theorem dX8_isBehind_2 : decode cX8_isBehind 2 = .ok (.bipush 8, 2) := by decide +kernel
theorem dX8_isBehind_4 : decode cX8_isBehind 4 = .ok (.invokevirtual 177, 3) := by decide +kernel
theorem dX8_isBehind_7 : decode cX8_isBehind 7 = .ok (.aload_n 0, 1) := by decide +kernel
theorem dX8_isBehind_8 : decode cX8_isBehind 8 = .ok (.iload_n 1, 1) := by decide +kernel
theorem dX8_isBehind_9 : decode cX8_isBehind 9 = .ok (.bipush 8, 2) := by decide +kernel
theorem dX8_isBehind_11 : decode cX8_isBehind 11 = .ok (.invokevirtual 177, 3) := by decide +kernel
theorem dX8_isBehind_14 : decode cX8_isBehind 14 = .ok (.isub, 1) := by decide +kernel
theorem dX8_isBehind_15 : decode cX8_isBehind 15 = .ok (.istore 5, 2) := by decide +kernel
theorem dX8_isBehind_17 : decode cX8_isBehind 17 = .ok (.aload_n 0, 1) := by decide +kernel
theorem dX8_isBehind_18 : decode cX8_isBehind 18 = .ok (.iload_n 2, 1) := by decide +kernel
theorem dX8_isBehind_19 : decode cX8_isBehind 19 = .ok (.bipush 9, 2) := by decide +kernel
theorem dX8_isBehind_21 : decode cX8_isBehind 21 = .ok (.invokevirtual 177, 3) := by decide +kernel
theorem dX8_isBehind_24 : decode cX8_isBehind 24 = .ok (.aload_n 0, 1) := by decide +kernel
theorem dX8_isBehind_25 : decode cX8_isBehind 25 = .ok (.iload_n 1, 1) := by decide +kernel
theorem dX8_isBehind_26 : decode cX8_isBehind 26 = .ok (.bipush 9, 2) := by decide +kernel
theorem dX8_isBehind_28 : decode cX8_isBehind 28 = .ok (.invokevirtual 177, 3) := by decide +kernel
theorem dX8_isBehind_31 : decode cX8_isBehind 31 = .ok (.isub, 1) := by decide +kernel
theorem dX8_isBehind_32 : decode cX8_isBehind 32 = .ok (.istore 6, 2) := by decide +kernel
theorem dX8_isBehind_34 : decode cX8_isBehind 34 = .ok (.iload_n 3, 1) := by decide +kernel
theorem dX8_isBehind_35 : decode cX8_isBehind 35 = .ok (.ifCond .ne 9, 3) := by decide +kernel
theorem dX8_isBehind_38 : decode cX8_isBehind 38 = .ok (.iload 6, 2) := by decide +kernel
theorem dX8_isBehind_40 : decode cX8_isBehind 40 = .ok (.ineg, 1) := by decide +kernel
theorem dX8_isBehind_41 : decode cX8_isBehind 41 = .ok (.goto 26, 3) := by decide +kernel
theorem dX8_isBehind_44 : decode cX8_isBehind 44 = .ok (.iload_n 3, 1) := by decide +kernel
theorem dX8_isBehind_45 : decode cX8_isBehind 45 = .ok (.iconst 1, 1) := by decide +kernel
theorem dX8_isBehind_46 : decode cX8_isBehind 46 = .ok (.if_icmp .ne 8, 3) := by decide +kernel
theorem dX8_isBehind_49 : decode cX8_isBehind 49 = .ok (.iload 5, 2) := by decide +kernel
theorem dX8_isBehind_51 : decode cX8_isBehind 51 = .ok (.goto 16, 3) := by decide +kernel
theorem dX8_isBehind_54 : decode cX8_isBehind 54 = .ok (.iload_n 3, 1) := by decide +kernel
theorem dX8_isBehind_55 : decode cX8_isBehind 55 = .ok (.iconst 2, 1) := by decide +kernel
theorem dX8_isBehind_56 : decode cX8_isBehind 56 = .ok (.if_icmp .ne 8, 3) := by decide +kernel
theorem dX8_isBehind_59 : decode cX8_isBehind 59 = .ok (.iload 6, 2) := by decide +kernel
theorem dX8_isBehind_61 : decode cX8_isBehind 61 = .ok (.goto 6, 3) := by decide +kernel
theorem dX8_isBehind_64 : decode cX8_isBehind 64 = .ok (.iload 5, 2) := by decide +kernel
theorem dX8_isBehind_66 : decode cX8_isBehind 66 = .ok (.ineg, 1) := by decide +kernel
theorem dX8_isBehind_67 : decode cX8_isBehind 67 = .ok (.istore 7, 2) := by decide +kernel
theorem dX8_isBehind_69 : decode cX8_isBehind 69 = .ok (.iload_n 3, 1) := by decide +kernel
theorem dX8_isBehind_70 : decode cX8_isBehind 70 = .ok (.iconst 2, 1) := by decide +kernel
theorem dX8_isBehind_71 : decode cX8_isBehind 71 = .ok (.irem, 1) := by decide +kernel
theorem dX8_isBehind_72 : decode cX8_isBehind 72 = .ok (.ifCond .ne 8, 3) := by decide +kernel
theorem dX8_isBehind_75 : decode cX8_isBehind 75 = .ok (.iload 5, 2) := by decide +kernel
theorem dX8_isBehind_77 : decode cX8_isBehind 77 = .ok (.goto 5, 3) := by decide +kernel
theorem dX8_isBehind_80 : decode cX8_isBehind 80 = .ok (.iload 6, 2) := by decide +kernel
theorem dX8_isBehind_82 : decode cX8_isBehind 82 = .ok (.istore 8, 2) := by decide +kernel
theorem dX8_isBehind_84 : decode cX8_isBehind 84 = .ok (.aload_n 0, 1) := by decide +kernel
theorem dX8_isBehind_85 : decode cX8_isBehind 85 = .ok (.iload_n 1, 1) := by decide +kernel
theorem dX8_isBehind_86 : decode cX8_isBehind 86 = .ok (.iconst 0, 1) := by decide +kernel
theorem dX8_isBehind_87 : decode cX8_isBehind 87 = .ok (.invokevirtual 177, 3) := by decide +kernel
theorem dX8_isBehind_90 : decode cX8_isBehind 90 = .ok (.iload_n 1, 1) := by decide +kernel
theorem dX8_isBehind_91 : decode cX8_isBehind 91 = .ok (.iload 4, 2) := by decide +kernel
theorem dX8_isBehind_93 : decode cX8_isBehind 93 = .ok (.if_icmp .ne 7, 3) := by decide +kernel
theorem dX8_isBehind_96 : decode cX8_isBehind 96 = .ok (.iconst 1, 1) := by decide +kernel
theorem dX8_isBehind_97 : decode cX8_isBehind 97 = .ok (.goto 4, 3) := by decide +kernel
theorem dX8_isBehind_100 : decode cX8_isBehind 100 = .ok (.iconst 0, 1) := by decide +kernel
theorem dX8_isBehind_101 : decode cX8_isBehind 101 = .ok (.iadd, 1) := by decide +kernel
theorem dX8_isBehind_102 : decode cX8_isBehind 102 = .ok (.istore 9, 2) := by decide +kernel
theorem dX8_isBehind_104 : decode cX8_isBehind 104 = .ok (.aload_n 0, 1) := by decide +kernel
theorem dX8_isBehind_105 : decode cX8_isBehind 105 = .ok (.iload_n 2, 1) := by decide +kernel
theorem dX8_isBehind_106 : decode cX8_isBehind 106 = .ok (.iconst 0, 1) := by decide +kernel
theorem dX8_isBehind_107 : decode cX8_isBehind 107 = .ok (.invokevirtual 177, 3) := by decide +kernel
theorem dX8_isBehind_110 : decode cX8_isBehind 110 = .ok (.iload_n 2, 1) := by decide +kernel
theorem dX8_isBehind_111 : decode cX8_isBehind 111 = .ok (.iload 4, 2) := by decide +kernel
theorem dX8_isBehind_113 : decode cX8_isBehind 113 = .ok (.if_icmp .ne 7, 3) := by decide +kernel
theorem dX8_isBehind_116 : decode cX8_isBehind 116 = .ok (.iconst 1, 1) := by decide +kernel
theorem dX8_isBehind_117 : decode cX8_isBehind 117 = .ok (.goto 4, 3) := by decide +kernel
theorem dX8_isBehind_120 : decode cX8_isBehind 120 = .ok (.iconst 0, 1) := by decide +kernel
theorem dX8_isBehind_121 : decode cX8_isBehind 121 = .ok (.iadd, 1) := by decide +kernel
theorem dX8_isBehind_122 : decode cX8_isBehind 122 = .ok (.istore 10, 2) := by decide +kernel
theorem dX8_isBehind_124 : decode cX8_isBehind 124 = .ok (.iload_n 1, 1) := by decide +kernel
theorem dX8_isBehind_125 : decode cX8_isBehind 125 = .ok (.iload_n 2, 1) := by decide +kernel
theorem dX8_isBehind_126 : decode cX8_isBehind 126 = .ok (.if_icmp .eq 40, 3) := by decide +kernel
theorem dX8_isBehind_129 : decode cX8_isBehind 129 = .ok (.iload 7, 2) := by decide +kernel
theorem dX8_isBehind_131 : decode cX8_isBehind 131 = .ok (.i2l, 1) := by decide +kernel
theorem dX8_isBehind_132 : decode cX8_isBehind 132 = .ok (.lconst 1, 1) := by decide +kernel
theorem dX8_isBehind_133 : decode cX8_isBehind 133 = .ok (.ldc2_w 191, 3) := by decide +kernel
theorem dX8_isBehind_136 : decode cX8_isBehind 136 = .ok (.invokestatic 53, 3) := by decide +kernel
theorem dX8_isBehind_139 : decode cX8_isBehind 139 = .ok (.ifCond .eq 27, 3) := by decide +kernel
theorem dX8_isBehind_142 : decode cX8_isBehind 142 = .ok (.iload 8, 2) := by decide +kernel
theorem dX8_isBehind_144 : decode cX8_isBehind 144 = .ok (.i2l, 1) := by decide +kernel
theorem dX8_isBehind_145 : decode cX8_isBehind 145 = .ok (.ldc2_w 113, 3) := by decide +kernel
theorem dX8_isBehind_148 : decode cX8_isBehind 148 = .ok (.lconst 1, 1) := by decide +kernel
theorem dX8_isBehind_149 : decode cX8_isBehind 149 = .ok (.invokestatic 53, 3) := by decide +kernel
theorem dX8_isBehind_152 : decode cX8_isBehind 152 = .ok (.ifCond .eq 14, 3) := by decide +kernel
theorem dX8_isBehind_155 : decode cX8_isBehind 155 = .ok (.iload 10, 2) := by decide +kernel
theorem dX8_isBehind_157 : decode cX8_isBehind 157 = .ok (.iload 9, 2) := by decide +kernel
theorem dX8_isBehind_159 : decode cX8_isBehind 159 = .ok (.if_icmp .lt 7, 3) := by decide +kernel
theorem dX8_isBehind_162 : decode cX8_isBehind 162 = .ok (.iconst 1, 1) := by decide +kernel
theorem dX8_isBehind_163 : decode cX8_isBehind 163 = .ok (.goto 4, 3) := by decide +kernel
theorem dX8_isBehind_166 : decode cX8_isBehind 166 = .ok (.iconst 0, 1) := by decide +kernel
theorem dX8_isBehind_167 : decode cX8_isBehind 167 = .ok (.ireturn, 1) := by decide +kernel
set_option maxRecDepth 20000 in
theorem ggX8_turns_X8_of : GoodIn wsX8_turns wsX8_of := goodIn_r _ [6, 1, 10, 11, 12, 13, 14, 15, 16, 17, 18, 19, 20, 21, 22, 23, 24, 25, 26, 27, 28, 29, 30] (by decide +kernel) (by decide +kernel)
set_option maxRecDepth 20000 in
theorem gX8_turns_X8_of : GoodIn wsX8_turns (wsV RX8 177 RX8 yX8_of wsX8_of) := goodIn_app (goodIn_of _ (by decide +kernel)) ggX8_turns_X8_of
set_option maxRecDepth 20000 in
theorem ggX8_turns_X8_has : GoodIn wsX8_turns wsX8_has := goodIn_r _ [9] (by decide +kernel) (by decide +kernel)
set_option maxRecDepth 20000 in
theorem gX8_turns_X8_has : GoodIn wsX8_turns (va_wsS RX8 193 yX8_has wsX8_has) := goodIn_app (goodIn_of _ (by decide +kernel)) ggX8_turns_X8_has
theorem dX8_turns_0 : decode cX8_turns 0 = .ok (.aload_n 0, 1) := by decide +kernel
theorem dX8_turns_1 : decode cX8_turns 1 = .ok (.getfield 22, 3) := by decide +kernel
theorem dX8_turns_4 : decode cX8_turns 4 = .ok (.bipush 85, 2) := by decide +kernel
theorem dX8_turns_6 : decode cX8_turns 6 = .ok (.iload_n 1, 1) := by decide +kernel
theorem dX8_turns_7 : decode cX8_turns 7 = .ok (.iadd, 1) := by decide +kernel
theorem dX8_turns_8 : decode cX8_turns 8 = .ok (.iaload, 1) := by decide +kernel
theorem dX8_turns_9 : decode cX8_turns 9 = .ok (.iconst 1, 1) := by decide +kernel
theorem dX8_turns_10 : decode cX8_turns 10 = .ok (.if_icmp .ne 18, 3) := by decide +kernel
theorem dX8_turns_13 : decode cX8_turns 13 = .ok (.aload_n 0, 1) := by decide +kernel
theorem dX8_turns_14 : decode cX8_turns 14 = .ok (.iload_n 1, 1) := by decide +kernel
theorem dX8_turns_15 : decode cX8_turns 15 = .ok (.bipush 6, 2) := by decide +kernel
theorem dX8_turns_17 : decode cX8_turns 17 = .ok (.invokevirtual 177, 3) := by decide +kernel
theorem dX8_turns_20 : decode cX8_turns 20 = .ok (.iload_n 2, 1) := by decide +kernel
theorem dX8_turns_21 : decode cX8_turns 21 = .ok (.if_icmp .eq 7, 3) := by decide +kernel
theorem dX8_turns_24 : decode cX8_turns 24 = .ok (.iconst 1, 1) := by decide +kernel
theorem dX8_turns_25 : decode cX8_turns 25 = .ok (.goto 4, 3) := by decide +kernel
theorem dX8_turns_28 : decode cX8_turns 28 = .ok (.iconst 0, 1) := by decide +kernel
theorem dX8_turns_29 : decode cX8_turns 29 = .ok (.istore 4, 2) := by decide +kernel
theorem dX8_turns_31 : decode cX8_turns 31 = .ok (.aload_n 0, 1) := by decide +kernel
theorem dX8_turns_32 : decode cX8_turns 32 = .ok (.iload_n 1, 1) := by decide +kernel
theorem dX8_turns_33 : decode cX8_turns 33 = .ok (.bipush 7, 2) := by decide +kernel
theorem dX8_turns_35 : decode cX8_turns 35 = .ok (.invokevirtual 177, 3) := by decide +kernel
theorem dX8_turns_38 : decode cX8_turns 38 = .ok (.ifCond .ne 33, 3) := by decide +kernel
theorem dX8_turns_41 : decode cX8_turns 41 = .ok (.iload_n 3, 1) := by decide +kernel
theorem dX8_turns_42 : decode cX8_turns 42 = .ok (.iload_n 1, 1) := by decide +kernel
theorem dX8_turns_43 : decode cX8_turns 43 = .ok (.invokestatic 193, 3) := by decide +kernel
theorem dX8_turns_46 : decode cX8_turns 46 = .ok (.ifCond .ne 25, 3) := by decide +kernel
theorem dX8_turns_49 : decode cX8_turns 49 = .ok (.aload_n 0, 1) := by decide +kernel
theorem dX8_turns_50 : decode cX8_turns 50 = .ok (.getfield 22, 3) := by decide +kernel
theorem dX8_turns_53 : decode cX8_turns 53 = .ok (.bipush 85, 2) := by decide +kernel
theorem dX8_turns_55 : decode cX8_turns 55 = .ok (.iload_n 1, 1) := by decide +kernel
theorem dX8_turns_56 : decode cX8_turns 56 = .ok (.iadd, 1) := by decide +kernel
theorem dX8_turns_57 : decode cX8_turns 57 = .ok (.iaload, 1) := by decide +kernel
theorem dX8_turns_58 : decode cX8_turns 58 = .ok (.iconst 5, 1) := by decide +kernel
theorem dX8_turns_59 : decode cX8_turns 59 = .ok (.if_icmp .eq 12, 3) := by decide +kernel
theorem dX8_turns_62 : decode cX8_turns 62 = .ok (.iload 4, 2) := by decide +kernel
theorem dX8_turns_64 : decode cX8_turns 64 = .ok (.ifCond .ne 7, 3) := by decide +kernel
theorem dX8_turns_67 : decode cX8_turns 67 = .ok (.iconst 1, 1) := by decide +kernel
theorem dX8_turns_68 : decode cX8_turns 68 = .ok (.goto 4, 3) := by decide +kernel
theorem dX8_turns_71 : decode cX8_turns 71 = .ok (.iconst 0, 1) := by decide +kernel
theorem dX8_turns_72 : decode cX8_turns 72 = .ok (.ireturn, 1) := by decide +kernel
set_option maxRecDepth 20000 in
theorem ggX8_takes_X8_turns : GoodIn wsX8_takes wsX8_turns := goodIn_r _ [6, 1, 7, 8, 9, 5, 10, 11, 12, 13, 14, 15, 16, 17, 18, 19, 20, 21, 22, 23, 24, 25, 26, 27, 28, 29, 30, 31, 32, 33, 34] (by decide +kernel) (by decide +kernel)
set_option maxRecDepth 20000 in
theorem gX8_takes_X8_turns : GoodIn wsX8_takes (wsV RX8 196 RX8 yX8_turns wsX8_turns) := goodIn_app (goodIn_of _ (by decide +kernel)) ggX8_takes_X8_turns
theorem dX8_takes_0 : decode cX8_takes 0 = .ok (.aload_n 0, 1) := by decide +kernel
theorem dX8_takes_1 : decode cX8_takes 1 = .ok (.iload_n 1, 1) := by decide +kernel
theorem dX8_takes_2 : decode cX8_takes 2 = .ok (.iload_n 2, 1) := by decide +kernel
theorem dX8_takes_3 : decode cX8_takes 3 = .ok (.iload_n 3, 1) := by decide +kernel
theorem dX8_takes_4 : decode cX8_takes 4 = .ok (.invokevirtual 196, 3) := by decide +kernel
theorem dX8_takes_7 : decode cX8_takes 7 = .ok (.ifCond .eq 20, 3) := by decide +kernel
theorem dX8_takes_10 : decode cX8_takes 10 = .ok (.aload_n 0, 1) := by decide +kernel
theorem dX8_takes_11 : decode cX8_takes 11 = .ok (.getfield 22, 3) := by decide +kernel
theorem dX8_takes_14 : decode cX8_takes 14 = .ok (.bipush 85, 2) := by decide +kernel
theorem dX8_takes_16 : decode cX8_takes 16 = .ok (.iload_n 1, 1) := by decide +kernel
theorem dX8_takes_17 : decode cX8_takes 17 = .ok (.iadd, 1) := by decide +kernel
theorem dX8_takes_18 : decode cX8_takes 18 = .ok (.iaload, 1) := by decide +kernel
theorem dX8_takes_19 : decode cX8_takes 19 = .ok (.iconst 4, 1) := by decide +kernel
theorem dX8_takes_20 : decode cX8_takes 20 = .ok (.if_icmp .eq 7, 3) := by decide +kernel
theorem dX8_takes_23 : decode cX8_takes 23 = .ok (.iconst 1, 1) := by decide +kernel
theorem dX8_takes_24 : decode cX8_takes 24 = .ok (.goto 4, 3) := by decide +kernel
theorem dX8_takes_27 : decode cX8_takes 27 = .ok (.iconst 0, 1) := by decide +kernel
theorem dX8_takes_28 : decode cX8_takes 28 = .ok (.ireturn, 1) := by decide +kernel
set_option maxRecDepth 20000 in
theorem ggX8_leftAt_X8_isBehind : GoodIn wsX8_leftAt wsX8_isBehind := goodIn_r _ [6, 7, 8, 9, 10, 11, 5, 12, 1, 13, 14, 15, 27, 28, 29, 30, 31, 32, 33, 34, 35, 36, 37, 38, 39, 40, 41, 42, 43, 44, 45, 46, 47] (by decide +kernel) (by decide +kernel)
set_option maxRecDepth 20000 in
theorem gX8_leftAt_X8_isBehind : GoodIn wsX8_leftAt (wsV RX8 199 RX8 yX8_isBehind wsX8_isBehind) := goodIn_app (goodIn_of _ (by decide +kernel)) ggX8_leftAt_X8_isBehind
set_option maxRecDepth 20000 in
theorem ggX8_leftAt_X8_takes : GoodIn wsX8_leftAt wsX8_takes := goodIn_r _ [19, 1, 20, 21, 22, 5, 23, 9, 10, 11, 12, 24, 25, 26, 27, 28, 29, 30, 31, 32, 33, 34, 35, 36, 37, 38, 39, 40, 41, 42, 43, 44, 45, 46, 47] (by decide +kernel) (by decide +kernel)
set_option maxRecDepth 20000 in
theorem gX8_leftAt_X8_takes : GoodIn wsX8_leftAt (wsV RX8 203 RX8 yX8_takes wsX8_takes) := goodIn_app (goodIn_of _ (by decide +kernel)) ggX8_leftAt_X8_takes
theorem dX8_leftAt_0 : decode cX8_leftAt 0 = .ok (.iload_n 3, 1) := by decide +kernel
theorem dX8_leftAt_1 : decode cX8_leftAt 1 = .ok (.istore 6, 2) := by decide +kernel
theorem dX8_leftAt_3 : decode cX8_leftAt 3 = .ok (.iconst 0, 1) := by decide +kernel
theorem dX8_leftAt_4 : decode cX8_leftAt 4 = .ok (.istore 7, 2) := by decide +kernel
theorem dX8_leftAt_6 : decode cX8_leftAt 6 = .ok (.iload 7, 2) := by decide +kernel
theorem dX8_leftAt_8 : decode cX8_leftAt 8 = .ok (.aload_n 0, 1) := by decide +kernel
theorem dX8_leftAt_9 : decode cX8_leftAt 9 = .ok (.getfield 22, 3) := by decide +kernel
theorem dX8_leftAt_12 : decode cX8_leftAt 12 = .ok (.iconst 0, 1) := by decide +kernel
theorem dX8_leftAt_13 : decode cX8_leftAt 13 = .ok (.iaload, 1) := by decide +kernel
theorem dX8_leftAt_14 : decode cX8_leftAt 14 = .ok (.if_icmp .ge 55, 3) := by decide +kernel
theorem dX8_leftAt_17 : decode cX8_leftAt 17 = .ok (.iload 6, 2) := by decide +kernel
theorem dX8_leftAt_19 : decode cX8_leftAt 19 = .ok (.aload_n 0, 1) := by decide +kernel
theorem dX8_leftAt_20 : decode cX8_leftAt 20 = .ok (.iload_n 1, 1) := by decide +kernel
theorem dX8_leftAt_21 : decode cX8_leftAt 21 = .ok (.iload 7, 2) := by decide +kernel
theorem dX8_leftAt_23 : decode cX8_leftAt 23 = .ok (.iload_n 2, 1) := by decide +kernel
theorem dX8_leftAt_24 : decode cX8_leftAt 24 = .ok (.iload 5, 2) := by decide +kernel
theorem dX8_leftAt_26 : decode cX8_leftAt 26 = .ok (.invokevirtual 199, 3) := by decide +kernel
theorem dX8_leftAt_29 : decode cX8_leftAt 29 = .ok (.ifCond .eq 30, 3) := by decide +kernel
theorem dX8_leftAt_32 : decode cX8_leftAt 32 = .ok (.aload_n 0, 1) := by decide +kernel
theorem dX8_leftAt_33 : decode cX8_leftAt 33 = .ok (.iload 7, 2) := by decide +kernel
theorem dX8_leftAt_35 : decode cX8_leftAt 35 = .ok (.iload_n 2, 1) := by decide +kernel
theorem dX8_leftAt_36 : decode cX8_leftAt 36 = .ok (.iload 4, 2) := by decide +kernel
theorem dX8_leftAt_38 : decode cX8_leftAt 38 = .ok (.invokevirtual 203, 3) := by decide +kernel
theorem dX8_leftAt_41 : decode cX8_leftAt 41 = .ok (.ifCond .eq 18, 3) := by decide +kernel
theorem dX8_leftAt_44 : decode cX8_leftAt 44 = .ok (.aload_n 0, 1) := by decide +kernel
theorem dX8_leftAt_45 : decode cX8_leftAt 45 = .ok (.getfield 22, 3) := by decide +kernel
theorem dX8_leftAt_48 : decode cX8_leftAt 48 = .ok (.iconst 2, 1) := by decide +kernel
theorem dX8_leftAt_49 : decode cX8_leftAt 49 = .ok (.iaload, 1) := by decide +kernel
theorem dX8_leftAt_50 : decode cX8_leftAt 50 = .ok (.iload 6, 2) := by decide +kernel
theorem dX8_leftAt_52 : decode cX8_leftAt 52 = .ok (.imul, 1) := by decide +kernel
theorem dX8_leftAt_53 : decode cX8_leftAt 53 = .ok (.bipush 100, 2) := by decide +kernel
theorem dX8_leftAt_55 : decode cX8_leftAt 55 = .ok (.idiv, 1) := by decide +kernel
theorem dX8_leftAt_56 : decode cX8_leftAt 56 = .ok (.goto 4, 3) := by decide +kernel
theorem dX8_leftAt_59 : decode cX8_leftAt 59 = .ok (.iconst 0, 1) := by decide +kernel
theorem dX8_leftAt_60 : decode cX8_leftAt 60 = .ok (.isub, 1) := by decide +kernel
theorem dX8_leftAt_61 : decode cX8_leftAt 61 = .ok (.istore 6, 2) := by decide +kernel
theorem dX8_leftAt_63 : decode cX8_leftAt 63 = .ok (.iinc 7 1, 3) := by decide +kernel
theorem dX8_leftAt_66 : decode cX8_leftAt 66 = .ok (.goto (-60), 3) := by decide +kernel
theorem dX8_leftAt_69 : decode cX8_leftAt 69 = .ok (.iload 6, 2) := by decide +kernel
theorem dX8_leftAt_71 : decode cX8_leftAt 71 = .ok (.ireturn, 1) := by decide +kernel
set_option maxRecDepth 20000 in
theorem ggX8_grindsFree_X8_turns : GoodIn wsX8_grindsFree wsX8_turns := goodIn_r _ [6, 1, 7, 8, 9, 5, 10, 11, 12, 13, 31, 32, 33, 34, 35, 36, 37, 38, 39, 40, 41, 42, 43, 44, 45, 46, 47, 48, 49, 50, 51] (by decide +kernel) (by decide +kernel)
set_option maxRecDepth 20000 in
theorem gX8_grindsFree_X8_turns : GoodIn wsX8_grindsFree (wsV RX8 196 RX8 yX8_turns wsX8_turns) := goodIn_app (goodIn_of _ (by decide +kernel)) ggX8_grindsFree_X8_turns
set_option maxRecDepth 20000 in
theorem ggX8_grindsFree_X8_of : GoodIn wsX8_grindsFree wsX8_of := goodIn_r _ [10, 1, 31, 32, 33, 34, 35, 36, 37, 38, 39, 40, 41, 42, 43, 44, 45, 46, 47, 48, 49, 50, 51] (by decide +kernel) (by decide +kernel)
set_option maxRecDepth 20000 in
theorem gX8_grindsFree_X8_of : GoodIn wsX8_grindsFree (wsV RX8 177 RX8 yX8_of wsX8_of) := goodIn_app (goodIn_of _ (by decide +kernel)) ggX8_grindsFree_X8_of
set_option maxRecDepth 20000 in
theorem ggX8_grindsFree_X8_leftAt : GoodIn wsX8_grindsFree wsX8_leftAt := goodIn_r _ [17, 1, 18, 19, 20, 5, 21, 22, 23, 7, 8, 9, 10, 24, 25, 26, 27, 28, 29, 30, 2, 3, 4, 6, 11, 12, 13, 31, 32, 33, 34, 35, 36, 37, 38, 39, 40, 41, 42, 43, 44, 45, 46, 47, 48, 49, 50, 51] (by decide +kernel) (by decide +kernel)
set_option maxRecDepth 20000 in
theorem gX8_grindsFree_X8_leftAt : GoodIn wsX8_grindsFree (wsV RX8 206 RX8 yX8_leftAt wsX8_leftAt) := goodIn_app (goodIn_of _ (by decide +kernel)) ggX8_grindsFree_X8_leftAt
theorem dX8_grindsFree_0 : decode cX8_grindsFree 0 = .ok (.aload_n 0, 1) := by decide +kernel
theorem dX8_grindsFree_1 : decode cX8_grindsFree 1 = .ok (.iload_n 1, 1) := by decide +kernel
theorem dX8_grindsFree_2 : decode cX8_grindsFree 2 = .ok (.iload_n 2, 1) := by decide +kernel
theorem dX8_grindsFree_3 : decode cX8_grindsFree 3 = .ok (.iload 4, 2) := by decide +kernel
theorem dX8_grindsFree_5 : decode cX8_grindsFree 5 = .ok (.invokevirtual 196, 3) := by decide +kernel
theorem dX8_grindsFree_8 : decode cX8_grindsFree 8 = .ok (.ifCond .ne 5, 3) := by decide +kernel
theorem dX8_grindsFree_11 : decode cX8_grindsFree 11 = .ok (.iconst 0, 1) := by decide +kernel
theorem dX8_grindsFree_12 : decode cX8_grindsFree 12 = .ok (.ireturn, 1) := by decide +kernel
theorem dX8_grindsFree_13 : decode cX8_grindsFree 13 = .ok (.aload_n 0, 1) := by decide +kernel
theorem dX8_grindsFree_14 : decode cX8_grindsFree 14 = .ok (.iload_n 1, 1) := by decide +kernel
theorem dX8_grindsFree_15 : decode cX8_grindsFree 15 = .ok (.iconst 1, 1) := by decide +kernel
theorem dX8_grindsFree_16 : decode cX8_grindsFree 16 = .ok (.invokevirtual 177, 3) := by decide +kernel
theorem dX8_grindsFree_19 : decode cX8_grindsFree 19 = .ok (.istore 6, 2) := by decide +kernel
theorem dX8_grindsFree_21 : decode cX8_grindsFree 21 = .ok (.aload_n 0, 1) := by decide +kernel
theorem dX8_grindsFree_22 : decode cX8_grindsFree 22 = .ok (.getfield 22, 3) := by decide +kernel
theorem dX8_grindsFree_25 : decode cX8_grindsFree 25 = .ok (.bipush 85, 2) := by decide +kernel
theorem dX8_grindsFree_27 : decode cX8_grindsFree 27 = .ok (.iload_n 1, 1) := by decide +kernel
theorem dX8_grindsFree_28 : decode cX8_grindsFree 28 = .ok (.iadd, 1) := by decide +kernel
theorem dX8_grindsFree_29 : decode cX8_grindsFree 29 = .ok (.iaload, 1) := by decide +kernel
theorem dX8_grindsFree_30 : decode cX8_grindsFree 30 = .ok (.iconst 4, 1) := by decide +kernel
theorem dX8_grindsFree_31 : decode cX8_grindsFree 31 = .ok (.if_icmp .ne 10, 3) := by decide +kernel
theorem dX8_grindsFree_34 : decode cX8_grindsFree 34 = .ok (.iconst 5, 1) := by decide +kernel
theorem dX8_grindsFree_35 : decode cX8_grindsFree 35 = .ok (.iload 6, 2) := by decide +kernel
theorem dX8_grindsFree_37 : decode cX8_grindsFree 37 = .ok (.imul, 1) := by decide +kernel
theorem dX8_grindsFree_38 : decode cX8_grindsFree 38 = .ok (.goto 38, 3) := by decide +kernel
theorem dX8_grindsFree_41 : decode cX8_grindsFree 41 = .ok (.aload_n 0, 1) := by decide +kernel
theorem dX8_grindsFree_42 : decode cX8_grindsFree 42 = .ok (.iload_n 1, 1) := by decide +kernel
theorem dX8_grindsFree_43 : decode cX8_grindsFree 43 = .ok (.iload_n 2, 1) := by decide +kernel
theorem dX8_grindsFree_44 : decode cX8_grindsFree 44 = .ok (.iload_n 3, 1) := by decide +kernel
theorem dX8_grindsFree_45 : decode cX8_grindsFree 45 = .ok (.iload 4, 2) := by decide +kernel
theorem dX8_grindsFree_47 : decode cX8_grindsFree 47 = .ok (.iload 5, 2) := by decide +kernel
theorem dX8_grindsFree_49 : decode cX8_grindsFree 49 = .ok (.invokevirtual 206, 3) := by decide +kernel
theorem dX8_grindsFree_52 : decode cX8_grindsFree 52 = .ok (.iload 6, 2) := by decide +kernel
theorem dX8_grindsFree_54 : decode cX8_grindsFree 54 = .ok (.imul, 1) := by decide +kernel
theorem dX8_grindsFree_55 : decode cX8_grindsFree 55 = .ok (.aload_n 0, 1) := by decide +kernel
theorem dX8_grindsFree_56 : decode cX8_grindsFree 56 = .ok (.getfield 22, 3) := by decide +kernel
theorem dX8_grindsFree_59 : decode cX8_grindsFree 59 = .ok (.bipush 85, 2) := by decide +kernel
theorem dX8_grindsFree_61 : decode cX8_grindsFree 61 = .ok (.iload_n 1, 1) := by decide +kernel
theorem dX8_grindsFree_62 : decode cX8_grindsFree 62 = .ok (.iadd, 1) := by decide +kernel
theorem dX8_grindsFree_63 : decode cX8_grindsFree 63 = .ok (.iaload, 1) := by decide +kernel
theorem dX8_grindsFree_64 : decode cX8_grindsFree 64 = .ok (.iconst 3, 1) := by decide +kernel
theorem dX8_grindsFree_65 : decode cX8_grindsFree 65 = .ok (.if_icmp .ne 8, 3) := by decide +kernel
theorem dX8_grindsFree_68 : decode cX8_grindsFree 68 = .ok (.bipush 20, 2) := by decide +kernel
theorem dX8_grindsFree_70 : decode cX8_grindsFree 70 = .ok (.goto 5, 3) := by decide +kernel
theorem dX8_grindsFree_73 : decode cX8_grindsFree 73 = .ok (.bipush 10, 2) := by decide +kernel
theorem dX8_grindsFree_75 : decode cX8_grindsFree 75 = .ok (.idiv, 1) := by decide +kernel
theorem dX8_grindsFree_76 : decode cX8_grindsFree 76 = .ok (.ireturn, 1) := by decide +kernel
set_option maxRecDepth 20000 in
theorem ggX8_grinds_X8_grindsFree : GoodIn wsX8_grinds wsX8_grindsFree := goodIn_r _ [5, 6, 7, 8, 9, 4, 10, 11, 12, 13, 14, 15, 16, 17, 18, 19, 20, 21, 22, 23, 24, 25, 26, 27, 28, 29, 30, 31, 32, 33, 34, 35, 36, 37, 38, 39, 40, 41, 42, 43, 44, 45, 46, 47, 48, 49, 50, 51, 52, 53, 54, 55] (by decide +kernel) (by decide +kernel)
set_option maxRecDepth 20000 in
theorem gX8_grinds_X8_grindsFree : GoodIn wsX8_grinds (wsV RX8 210 RX8 yX8_grindsFree wsX8_grindsFree) := goodIn_app (goodIn_of _ (by decide +kernel)) ggX8_grinds_X8_grindsFree
set_option maxRecDepth 20000 in
theorem ggX8_grinds_X8_of : GoodIn wsX8_grinds wsX8_of := goodIn_r _ [14, 6, 35, 36, 37, 38, 39, 40, 41, 42, 43, 44, 45, 46, 47, 48, 49, 50, 51, 52, 53, 54, 55] (by decide +kernel) (by decide +kernel)
set_option maxRecDepth 20000 in
theorem gX8_grinds_X8_of : GoodIn wsX8_grinds (wsV RX8 177 RX8 yX8_of wsX8_of) := goodIn_app (goodIn_of _ (by decide +kernel)) ggX8_grinds_X8_of
theorem dX8_grinds_0 : decode cX8_grinds 0 = .ok (.aload_n 0, 1) := by decide +kernel
theorem dX8_grinds_1 : decode cX8_grinds 1 = .ok (.iload_n 1, 1) := by decide +kernel
theorem dX8_grinds_2 : decode cX8_grinds 2 = .ok (.iload_n 2, 1) := by decide +kernel
theorem dX8_grinds_3 : decode cX8_grinds 3 = .ok (.iload_n 3, 1) := by decide +kernel
theorem dX8_grinds_4 : decode cX8_grinds 4 = .ok (.iload 4, 2) := by decide +kernel
theorem dX8_grinds_6 : decode cX8_grinds 6 = .ok (.iload 5, 2) := by decide +kernel
theorem dX8_grinds_8 : decode cX8_grinds 8 = .ok (.invokevirtual 210, 3) := by decide +kernel
theorem dX8_grinds_11 : decode cX8_grinds 11 = .ok (.istore 6, 2) := by decide +kernel
theorem dX8_grinds_13 : decode cX8_grinds 13 = .ok (.iload 6, 2) := by decide +kernel
theorem dX8_grinds_15 : decode cX8_grinds 15 = .ok (.aload_n 0, 1) := by decide +kernel
theorem dX8_grinds_16 : decode cX8_grinds 16 = .ok (.iload_n 1, 1) := by decide +kernel
theorem dX8_grinds_17 : decode cX8_grinds 17 = .ok (.iconst 3, 1) := by decide +kernel
theorem dX8_grinds_18 : decode cX8_grinds 18 = .ok (.invokevirtual 177, 3) := by decide +kernel
theorem dX8_grinds_21 : decode cX8_grinds 21 = .ok (.if_icmp .ge 8, 3) := by decide +kernel
theorem dX8_grinds_24 : decode cX8_grinds 24 = .ok (.iload 6, 2) := by decide +kernel
theorem dX8_grinds_26 : decode cX8_grinds 26 = .ok (.goto 9, 3) := by decide +kernel
theorem dX8_grinds_29 : decode cX8_grinds 29 = .ok (.aload_n 0, 1) := by decide +kernel
theorem dX8_grinds_30 : decode cX8_grinds 30 = .ok (.iload_n 1, 1) := by decide +kernel
theorem dX8_grinds_31 : decode cX8_grinds 31 = .ok (.iconst 3, 1) := by decide +kernel
theorem dX8_grinds_32 : decode cX8_grinds 32 = .ok (.invokevirtual 177, 3) := by decide +kernel
theorem dX8_grinds_35 : decode cX8_grinds 35 = .ok (.ireturn, 1) := by decide +kernel
set_option maxRecDepth 20000 in
theorem ggX8_isWind_X8_isQuarter : GoodIn wsX8_isWind wsX8_isQuarter := goodIn_r _ [5, 6, 7, 8, 4, 9] (by decide +kernel) (by decide +kernel)
set_option maxRecDepth 20000 in
theorem gX8_isWind_X8_isQuarter : GoodIn wsX8_isWind (va_wsS RX8 182 yX8_isQuarter wsX8_isQuarter) := goodIn_app (goodIn_of _ (by decide +kernel)) ggX8_isWind_X8_isQuarter
set_option maxRecDepth 20000 in
theorem ggX8_isWind_X8_in : GoodIn wsX8_isWind wsX8_in := goodIn_r _ [9] (by decide +kernel) (by decide +kernel)
set_option maxRecDepth 20000 in
theorem gX8_isWind_X8_in : GoodIn wsX8_isWind (va_wsS RX8 53 yX8_in wsX8_in) := goodIn_app (goodIn_of _ (by decide +kernel)) ggX8_isWind_X8_in
theorem dX8_isWind_0 : decode cX8_isWind 0 = .ok (.iload_n 0, 1) := by decide +kernel
theorem dX8_isWind_1 : decode cX8_isWind 1 = .ok (.invokestatic 182, 3) := by decide +kernel
theorem dX8_isWind_4 : decode cX8_isWind 4 = .ok (.ifCond .eq 19, 3) := by decide +kernel
theorem dX8_isWind_7 : decode cX8_isWind 7 = .ok (.iload_n 1, 1) := by decide +kernel
theorem dX8_isWind_8 : decode cX8_isWind 8 = .ok (.i2l, 1) := by decide +kernel
theorem dX8_isWind_9 : decode cX8_isWind 9 = .ok (.lconst 0, 1) := by decide +kernel
theorem dX8_isWind_10 : decode cX8_isWind 10 = .ok (.ldc2_w 213, 3) := by decide +kernel
theorem dX8_isWind_13 : decode cX8_isWind 13 = .ok (.invokestatic 53, 3) := by decide +kernel
theorem dX8_isWind_16 : decode cX8_isWind 16 = .ok (.ifCond .eq 7, 3) := by decide +kernel
theorem dX8_isWind_19 : decode cX8_isWind 19 = .ok (.iconst 1, 1) := by decide +kernel
theorem dX8_isWind_20 : decode cX8_isWind 20 = .ok (.goto 4, 3) := by decide +kernel
theorem dX8_isWind_23 : decode cX8_isWind 23 = .ok (.iconst 0, 1) := by decide +kernel
theorem dX8_isWind_24 : decode cX8_isWind 24 = .ok (.ireturn, 1) := by decide +kernel
set_option maxRecDepth 20000 in
theorem ggX8_goHour_X8_grinds : GoodIn wsX8_goHour wsX8_grinds := goodIn_r _ [9, 10, 11, 12, 8, 13, 1, 14, 15, 16, 17, 18, 19, 20, 21, 22, 23, 24, 25, 26, 27, 28, 29, 30, 31, 32, 33, 34, 35, 36, 37, 38, 39, 40, 41, 42, 43, 44, 45, 46, 47, 48, 49, 50, 51, 52, 53, 54, 55, 56, 57, 58, 59, 60, 61, 62] (by decide +kernel) (by decide +kernel)
set_option maxRecDepth 20000 in
theorem gX8_goHour_X8_grinds : GoodIn wsX8_goHour (wsV RX8 216 RX8 yX8_grinds wsX8_grinds) := goodIn_app (goodIn_of _ (by decide +kernel)) ggX8_goHour_X8_grinds
set_option maxRecDepth 20000 in
theorem ggX8_goHour_X8_takes : GoodIn wsX8_goHour wsX8_takes := goodIn_r _ [41, 1, 14, 15, 16, 8, 17, 18, 19, 20, 21, 22, 23, 24, 42, 43, 44, 45, 46, 47, 48, 49, 50, 51, 52, 53, 54, 55, 56, 57, 58, 59, 60, 61, 62] (by decide +kernel) (by decide +kernel)
set_option maxRecDepth 20000 in
theorem gX8_goHour_X8_takes : GoodIn wsX8_goHour (wsV RX8 203 RX8 yX8_takes wsX8_takes) := goodIn_app (goodIn_of _ (by decide +kernel)) ggX8_goHour_X8_takes
set_option maxRecDepth 20000 in
theorem ggX8_goHour_X8_leftAt : GoodIn wsX8_goHour wsX8_leftAt := goodIn_r _ [28, 1, 29, 30, 31, 8, 32, 33, 34, 18, 19, 20, 21, 35, 36, 37, 38, 39, 40, 41, 14, 15, 16, 17, 22, 23, 24, 42, 43, 44, 45, 46, 47, 48, 49, 50, 51, 52, 53, 54, 55, 56, 57, 58, 59, 60, 61, 62] (by decide +kernel) (by decide +kernel)
set_option maxRecDepth 20000 in
theorem gX8_goHour_X8_leftAt : GoodIn wsX8_goHour (wsV RX8 206 RX8 yX8_leftAt wsX8_leftAt) := goodIn_app (goodIn_of _ (by decide +kernel)) ggX8_goHour_X8_leftAt
theorem dX8_goHour_0 : decode cX8_goHour 0 = .ok (.iconst 0, 1) := by decide +kernel
theorem dX8_goHour_1 : decode cX8_goHour 1 = .ok (.istore_n 3, 1) := by decide +kernel
theorem dX8_goHour_2 : decode cX8_goHour 2 = .ok (.iconst 0, 1) := by decide +kernel
theorem dX8_goHour_3 : decode cX8_goHour 3 = .ok (.istore 4, 2) := by decide +kernel
theorem dX8_goHour_5 : decode cX8_goHour 5 = .ok (.iload 4, 2) := by decide +kernel
theorem dX8_goHour_7 : decode cX8_goHour 7 = .ok (.aload_n 0, 1) := by decide +kernel
theorem dX8_goHour_8 : decode cX8_goHour 8 = .ok (.getfield 22, 3) := by decide +kernel
theorem dX8_goHour_11 : decode cX8_goHour 11 = .ok (.iconst 0, 1) := by decide +kernel
theorem dX8_goHour_12 : decode cX8_goHour 12 = .ok (.iaload, 1) := by decide +kernel
theorem dX8_goHour_13 : decode cX8_goHour 13 = .ok (.if_icmp .ge 73, 3) := by decide +kernel
theorem dX8_goHour_16 : decode cX8_goHour 16 = .ok (.aload_n 0, 1) := by decide +kernel
theorem dX8_goHour_17 : decode cX8_goHour 17 = .ok (.getfield 40, 3) := by decide +kernel
theorem dX8_goHour_20 : decode cX8_goHour 20 = .ok (.iload 4, 2) := by decide +kernel
theorem dX8_goHour_22 : decode cX8_goHour 22 = .ok (.aload_n 0, 1) := by decide +kernel
theorem dX8_goHour_23 : decode cX8_goHour 23 = .ok (.iload 4, 2) := by decide +kernel
theorem dX8_goHour_25 : decode cX8_goHour 25 = .ok (.iload_n 1, 1) := by decide +kernel
theorem dX8_goHour_26 : decode cX8_goHour 26 = .ok (.iload_n 2, 1) := by decide +kernel
theorem dX8_goHour_27 : decode cX8_goHour 27 = .ok (.iconst 0, 1) := by decide +kernel
theorem dX8_goHour_28 : decode cX8_goHour 28 = .ok (.ldc 215, 2) := by decide +kernel
theorem dX8_goHour_30 : decode cX8_goHour 30 = .ok (.invokevirtual 216, 3) := by decide +kernel
theorem dX8_goHour_33 : decode cX8_goHour 33 = .ok (.iastore, 1) := by decide +kernel
theorem dX8_goHour_34 : decode cX8_goHour 34 = .ok (.aload_n 0, 1) := by decide +kernel
theorem dX8_goHour_35 : decode cX8_goHour 35 = .ok (.getfield 43, 3) := by decide +kernel
theorem dX8_goHour_38 : decode cX8_goHour 38 = .ok (.iload 4, 2) := by decide +kernel
theorem dX8_goHour_40 : decode cX8_goHour 40 = .ok (.aload_n 0, 1) := by decide +kernel
theorem dX8_goHour_41 : decode cX8_goHour 41 = .ok (.iload 4, 2) := by decide +kernel
theorem dX8_goHour_43 : decode cX8_goHour 43 = .ok (.iload_n 1, 1) := by decide +kernel
theorem dX8_goHour_44 : decode cX8_goHour 44 = .ok (.iconst 0, 1) := by decide +kernel
theorem dX8_goHour_45 : decode cX8_goHour 45 = .ok (.invokevirtual 203, 3) := by decide +kernel
theorem dX8_goHour_48 : decode cX8_goHour 48 = .ok (.ifCond .eq 20, 3) := by decide +kernel
theorem dX8_goHour_51 : decode cX8_goHour 51 = .ok (.aload_n 0, 1) := by decide +kernel
theorem dX8_goHour_52 : decode cX8_goHour 52 = .ok (.iload 4, 2) := by decide +kernel
theorem dX8_goHour_54 : decode cX8_goHour 54 = .ok (.iload_n 1, 1) := by decide +kernel
theorem dX8_goHour_55 : decode cX8_goHour 55 = .ok (.iload_n 2, 1) := by decide +kernel
theorem dX8_goHour_56 : decode cX8_goHour 56 = .ok (.iconst 0, 1) := by decide +kernel
theorem dX8_goHour_57 : decode cX8_goHour 57 = .ok (.ldc 215, 2) := by decide +kernel
theorem dX8_goHour_59 : decode cX8_goHour 59 = .ok (.invokevirtual 206, 3) := by decide +kernel
theorem dX8_goHour_62 : decode cX8_goHour 62 = .ok (.bipush 10, 2) := by decide +kernel
theorem dX8_goHour_64 : decode cX8_goHour 64 = .ok (.idiv, 1) := by decide +kernel
theorem dX8_goHour_65 : decode cX8_goHour 65 = .ok (.goto 4, 3) := by decide +kernel
theorem dX8_goHour_68 : decode cX8_goHour 68 = .ok (.iconst 0, 1) := by decide +kernel
theorem dX8_goHour_69 : decode cX8_goHour 69 = .ok (.iastore, 1) := by decide +kernel
theorem dX8_goHour_70 : decode cX8_goHour 70 = .ok (.iload_n 3, 1) := by decide +kernel
theorem dX8_goHour_71 : decode cX8_goHour 71 = .ok (.aload_n 0, 1) := by decide +kernel
theorem dX8_goHour_72 : decode cX8_goHour 72 = .ok (.getfield 40, 3) := by decide +kernel
theorem dX8_goHour_75 : decode cX8_goHour 75 = .ok (.iload 4, 2) := by decide +kernel
theorem dX8_goHour_77 : decode cX8_goHour 77 = .ok (.iaload, 1) := by decide +kernel
theorem dX8_goHour_78 : decode cX8_goHour 78 = .ok (.iadd, 1) := by decide +kernel
theorem dX8_goHour_79 : decode cX8_goHour 79 = .ok (.istore_n 3, 1) := by decide +kernel
theorem dX8_goHour_80 : decode cX8_goHour 80 = .ok (.iinc 4 1, 3) := by decide +kernel
theorem dX8_goHour_83 : decode cX8_goHour 83 = .ok (.goto (-78), 3) := by decide +kernel
theorem dX8_goHour_86 : decode cX8_goHour 86 = .ok (.iconst 0, 1) := by decide +kernel
theorem dX8_goHour_87 : decode cX8_goHour 87 = .ok (.istore 4, 2) := by decide +kernel
theorem dX8_goHour_89 : decode cX8_goHour 89 = .ok (.iload 4, 2) := by decide +kernel
theorem dX8_goHour_91 : decode cX8_goHour 91 = .ok (.aload_n 0, 1) := by decide +kernel
theorem dX8_goHour_92 : decode cX8_goHour 92 = .ok (.getfield 22, 3) := by decide +kernel
theorem dX8_goHour_95 : decode cX8_goHour 95 = .ok (.iconst 0, 1) := by decide +kernel
theorem dX8_goHour_96 : decode cX8_goHour 96 = .ok (.iaload, 1) := by decide +kernel
theorem dX8_goHour_97 : decode cX8_goHour 97 = .ok (.if_icmp .ge 81, 3) := by decide +kernel
theorem dX8_goHour_100 : decode cX8_goHour 100 = .ok (.aload_n 0, 1) := by decide +kernel
theorem dX8_goHour_101 : decode cX8_goHour 101 = .ok (.getfield 22, 3) := by decide +kernel
theorem dX8_goHour_104 : decode cX8_goHour 104 = .ok (.iconst 5, 1) := by decide +kernel
theorem dX8_goHour_105 : decode cX8_goHour 105 = .ok (.bipush 10, 2) := by decide +kernel
theorem dX8_goHour_107 : decode cX8_goHour 107 = .ok (.iload 4, 2) := by decide +kernel
theorem dX8_goHour_109 : decode cX8_goHour 109 = .ok (.imul, 1) := by decide +kernel
theorem dX8_goHour_110 : decode cX8_goHour 110 = .ok (.iadd, 1) := by decide +kernel
theorem dX8_goHour_111 : decode cX8_goHour 111 = .ok (.iconst 3, 1) := by decide +kernel
theorem dX8_goHour_112 : decode cX8_goHour 112 = .ok (.iadd, 1) := by decide +kernel
theorem dX8_goHour_113 : decode cX8_goHour 113 = .ok (.dup2, 1) := by decide +kernel
theorem dX8_goHour_114 : decode cX8_goHour 114 = .ok (.iaload, 1) := by decide +kernel
theorem dX8_goHour_115 : decode cX8_goHour 115 = .ok (.aload_n 0, 1) := by decide +kernel
theorem dX8_goHour_116 : decode cX8_goHour 116 = .ok (.getfield 40, 3) := by decide +kernel
theorem dX8_goHour_119 : decode cX8_goHour 119 = .ok (.iload 4, 2) := by decide +kernel
theorem dX8_goHour_121 : decode cX8_goHour 121 = .ok (.iaload, 1) := by decide +kernel
theorem dX8_goHour_122 : decode cX8_goHour 122 = .ok (.isub, 1) := by decide +kernel
theorem dX8_goHour_123 : decode cX8_goHour 123 = .ok (.iastore, 1) := by decide +kernel
theorem dX8_goHour_124 : decode cX8_goHour 124 = .ok (.aload_n 0, 1) := by decide +kernel
theorem dX8_goHour_125 : decode cX8_goHour 125 = .ok (.getfield 22, 3) := by decide +kernel
theorem dX8_goHour_128 : decode cX8_goHour 128 = .ok (.iconst 5, 1) := by decide +kernel
theorem dX8_goHour_129 : decode cX8_goHour 129 = .ok (.bipush 10, 2) := by decide +kernel
theorem dX8_goHour_131 : decode cX8_goHour 131 = .ok (.iload 4, 2) := by decide +kernel
theorem dX8_goHour_133 : decode cX8_goHour 133 = .ok (.imul, 1) := by decide +kernel
theorem dX8_goHour_134 : decode cX8_goHour 134 = .ok (.iadd, 1) := by decide +kernel
theorem dX8_goHour_135 : decode cX8_goHour 135 = .ok (.iconst 4, 1) := by decide +kernel
theorem dX8_goHour_136 : decode cX8_goHour 136 = .ok (.iadd, 1) := by decide +kernel
theorem dX8_goHour_137 : decode cX8_goHour 137 = .ok (.dup2, 1) := by decide +kernel
theorem dX8_goHour_138 : decode cX8_goHour 138 = .ok (.iaload, 1) := by decide +kernel
theorem dX8_goHour_139 : decode cX8_goHour 139 = .ok (.aload_n 0, 1) := by decide +kernel
theorem dX8_goHour_140 : decode cX8_goHour 140 = .ok (.getfield 40, 3) := by decide +kernel
theorem dX8_goHour_143 : decode cX8_goHour 143 = .ok (.iload 4, 2) := by decide +kernel
theorem dX8_goHour_145 : decode cX8_goHour 145 = .ok (.iaload, 1) := by decide +kernel
theorem dX8_goHour_146 : decode cX8_goHour 146 = .ok (.iadd, 1) := by decide +kernel
theorem dX8_goHour_147 : decode cX8_goHour 147 = .ok (.iastore, 1) := by decide +kernel
theorem dX8_goHour_148 : decode cX8_goHour 148 = .ok (.aload_n 0, 1) := by decide +kernel
theorem dX8_goHour_149 : decode cX8_goHour 149 = .ok (.getfield 22, 3) := by decide +kernel
theorem dX8_goHour_152 : decode cX8_goHour 152 = .ok (.iconst 5, 1) := by decide +kernel
theorem dX8_goHour_153 : decode cX8_goHour 153 = .ok (.bipush 10, 2) := by decide +kernel
theorem dX8_goHour_155 : decode cX8_goHour 155 = .ok (.iload 4, 2) := by decide +kernel
theorem dX8_goHour_157 : decode cX8_goHour 157 = .ok (.imul, 1) := by decide +kernel
theorem dX8_goHour_158 : decode cX8_goHour 158 = .ok (.iadd, 1) := by decide +kernel
theorem dX8_goHour_159 : decode cX8_goHour 159 = .ok (.iconst 5, 1) := by decide +kernel
theorem dX8_goHour_160 : decode cX8_goHour 160 = .ok (.iadd, 1) := by decide +kernel
theorem dX8_goHour_161 : decode cX8_goHour 161 = .ok (.dup2, 1) := by decide +kernel
theorem dX8_goHour_162 : decode cX8_goHour 162 = .ok (.iaload, 1) := by decide +kernel
theorem dX8_goHour_163 : decode cX8_goHour 163 = .ok (.aload_n 0, 1) := by decide +kernel
theorem dX8_goHour_164 : decode cX8_goHour 164 = .ok (.getfield 43, 3) := by decide +kernel
theorem dX8_goHour_167 : decode cX8_goHour 167 = .ok (.iload 4, 2) := by decide +kernel
theorem dX8_goHour_169 : decode cX8_goHour 169 = .ok (.iaload, 1) := by decide +kernel
theorem dX8_goHour_170 : decode cX8_goHour 170 = .ok (.iadd, 1) := by decide +kernel
theorem dX8_goHour_171 : decode cX8_goHour 171 = .ok (.iastore, 1) := by decide +kernel
theorem dX8_goHour_172 : decode cX8_goHour 172 = .ok (.iinc 4 1, 3) := by decide +kernel
theorem dX8_goHour_175 : decode cX8_goHour 175 = .ok (.goto (-86), 3) := by decide +kernel
theorem dX8_goHour_178 : decode cX8_goHour 178 = .ok (.aload_n 0, 1) := by decide +kernel
theorem dX8_goHour_179 : decode cX8_goHour 179 = .ok (.getfield 22, 3) := by decide +kernel
theorem dX8_goHour_182 : decode cX8_goHour 182 = .ok (.iconst 1, 1) := by decide +kernel
theorem dX8_goHour_183 : decode cX8_goHour 183 = .ok (.dup2, 1) := by decide +kernel
theorem dX8_goHour_184 : decode cX8_goHour 184 = .ok (.iaload, 1) := by decide +kernel
theorem dX8_goHour_185 : decode cX8_goHour 185 = .ok (.iconst 1, 1) := by decide +kernel
theorem dX8_goHour_186 : decode cX8_goHour 186 = .ok (.iadd, 1) := by decide +kernel
theorem dX8_goHour_187 : decode cX8_goHour 187 = .ok (.iastore, 1) := by decide +kernel
theorem dX8_goHour_188 : decode cX8_goHour 188 = .ok (.iload_n 3, 1) := by decide +kernel
theorem dX8_goHour_189 : decode cX8_goHour 189 = .ok (.ireturn, 1) := by decide +kernel
set_option maxRecDepth 20000 in
theorem ggX8_hour_X8_isNoRidge : GoodIn wsX8_hour wsX8_isNoRidge := goodIn_r _ [7, 8, 60, 61, 62, 63, 64, 65, 66, 67, 68, 69, 70, 71, 72, 73, 74, 75, 76, 77, 78, 79, 80] (by decide +kernel) (by decide +kernel)
set_option maxRecDepth 20000 in
theorem gX8_hour_X8_isNoRidge : GoodIn wsX8_hour (wsV RX8 219 RX8 yX8_isNoRidge wsX8_isNoRidge) := goodIn_app (goodIn_of _ (by decide +kernel)) ggX8_hour_X8_isNoRidge
set_option maxRecDepth 20000 in
theorem ggX8_hour_X8_isWind : GoodIn wsX8_hour wsX8_isWind := goodIn_r _ [11, 12, 13, 14, 6, 15, 16, 17, 18, 19] (by decide +kernel) (by decide +kernel)
set_option maxRecDepth 20000 in
theorem gX8_hour_X8_isWind : GoodIn wsX8_hour (va_wsS RX8 222 yX8_isWind wsX8_isWind) := goodIn_app (goodIn_of _ (by decide +kernel)) ggX8_hour_X8_isWind
set_option maxRecDepth 20000 in
theorem ggX8_hour_X8_goHour : GoodIn wsX8_hour wsX8_goHour := goodIn_r _ [23, 8, 24, 25, 26, 27, 28, 29, 6, 30, 31, 32, 33, 34, 35, 36, 37, 38, 39, 40, 41, 42, 43, 44, 45, 46, 47, 48, 49, 50, 51, 52, 53, 54, 55, 17, 18, 19, 56, 57, 58, 59, 60, 61, 62, 63, 64, 65, 66, 67, 68, 69, 70, 71, 72, 73, 74, 75, 76, 77, 78, 79, 80] (by decide +kernel) (by decide +kernel)
set_option maxRecDepth 20000 in
theorem gX8_hour_X8_goHour : GoodIn wsX8_hour (wsV RX8 225 RX8 yX8_goHour wsX8_goHour) := goodIn_app (goodIn_of _ (by decide +kernel)) ggX8_hour_X8_goHour
theorem dX8_hour_0 : decode cX8_hour 0 = .ok (.aload_n 0, 1) := by decide +kernel
theorem dX8_hour_1 : decode cX8_hour 1 = .ok (.invokevirtual 219, 3) := by decide +kernel
theorem dX8_hour_4 : decode cX8_hour 4 = .ok (.ifCond .eq 6, 3) := by decide +kernel
theorem dX8_hour_7 : decode cX8_hour 7 = .ok (.ldc 185, 2) := by decide +kernel
theorem dX8_hour_9 : decode cX8_hour 9 = .ok (.ireturn, 1) := by decide +kernel
theorem dX8_hour_10 : decode cX8_hour 10 = .ok (.iload_n 1, 1) := by decide +kernel
theorem dX8_hour_11 : decode cX8_hour 11 = .ok (.iload_n 2, 1) := by decide +kernel
theorem dX8_hour_12 : decode cX8_hour 12 = .ok (.invokestatic 222, 3) := by decide +kernel
theorem dX8_hour_15 : decode cX8_hour 15 = .ok (.ifCond .eq 12, 3) := by decide +kernel
theorem dX8_hour_18 : decode cX8_hour 18 = .ok (.aload_n 0, 1) := by decide +kernel
theorem dX8_hour_19 : decode cX8_hour 19 = .ok (.iload_n 1, 1) := by decide +kernel
theorem dX8_hour_20 : decode cX8_hour 20 = .ok (.iload_n 2, 1) := by decide +kernel
theorem dX8_hour_21 : decode cX8_hour 21 = .ok (.invokevirtual 225, 3) := by decide +kernel
theorem dX8_hour_24 : decode cX8_hour 24 = .ok (.goto 5, 3) := by decide +kernel
theorem dX8_hour_27 : decode cX8_hour 27 = .ok (.ldc 63, 2) := by decide +kernel
theorem dX8_hour_29 : decode cX8_hour 29 = .ok (.ireturn, 1) := by decide +kernel
set_option maxRecDepth 20000 in
theorem ggX8_hours_X8_isNoRidge : GoodIn wsX8_hours wsX8_isNoRidge := goodIn_r _ [10, 11, 81, 82, 83, 84, 85, 86, 87, 88, 89, 90, 91, 92, 93, 94, 95, 96, 97, 98, 99, 100, 101] (by decide +kernel) (by decide +kernel)
set_option maxRecDepth 20000 in
theorem gX8_hours_X8_isNoRidge : GoodIn wsX8_hours (wsV RX8 219 RX8 yX8_isNoRidge wsX8_isNoRidge) := goodIn_app (goodIn_of _ (by decide +kernel)) ggX8_hours_X8_isNoRidge
set_option maxRecDepth 20000 in
theorem ggX8_hours_X8_isRow : GoodIn wsX8_hours wsX8_isRow := goodIn_r _ [14, 15, 16, 17, 9, 18] (by decide +kernel) (by decide +kernel)
set_option maxRecDepth 20000 in
theorem gX8_hours_X8_isRow : GoodIn wsX8_hours (va_wsS RX8 57 yX8_isRow wsX8_isRow) := goodIn_app (goodIn_of _ (by decide +kernel)) ggX8_hours_X8_isRow
set_option maxRecDepth 20000 in
theorem ggX8_hours_X8_in : GoodIn wsX8_hours wsX8_in := goodIn_r _ [18] (by decide +kernel) (by decide +kernel)
set_option maxRecDepth 20000 in
theorem gX8_hours_X8_in : GoodIn wsX8_hours (va_wsS RX8 53 yX8_in wsX8_in) := goodIn_app (goodIn_of _ (by decide +kernel)) ggX8_hours_X8_in
set_option maxRecDepth 20000 in
theorem ggX8_hours_X8_isMissing : GoodIn wsX8_hours wsX8_isMissing := goodIn_r _ [22, 23, 81, 82, 83, 84, 85, 86, 87, 88, 89, 90, 91, 92, 93, 94, 95, 96, 97, 98, 99, 100, 101] (by decide +kernel) (by decide +kernel)
set_option maxRecDepth 20000 in
theorem gX8_hours_X8_isMissing : GoodIn wsX8_hours (wsV RX8 70 RX8 yX8_isMissing wsX8_isMissing) := goodIn_app (goodIn_of _ (by decide +kernel)) ggX8_hours_X8_isMissing
set_option maxRecDepth 20000 in
theorem ggX8_hours_X8_found : GoodIn wsX8_hours wsX8_found := goodIn_r _ [27, 28, 29, 81, 82, 83, 84, 85, 86, 87, 88, 89, 90, 91, 92, 93, 94, 95, 96, 97, 98, 99, 100, 101] (by decide +kernel) (by decide +kernel)
set_option maxRecDepth 20000 in
theorem gX8_hours_X8_found : GoodIn wsX8_hours (wsV RX8 64 RX8 yX8_found wsX8_found) := goodIn_app (goodIn_of _ (by decide +kernel)) ggX8_hours_X8_found
set_option maxRecDepth 20000 in
theorem ggX8_hours_X8_isWithin : GoodIn wsX8_hours wsX8_isWithin := goodIn_r _ [32] (by decide +kernel) (by decide +kernel)
set_option maxRecDepth 20000 in
theorem gX8_hours_X8_isWithin : GoodIn wsX8_hours (va_wsS RX8 76 yX8_isWithin wsX8_isWithin) := goodIn_app (goodIn_of _ (by decide +kernel)) ggX8_hours_X8_isWithin
set_option maxRecDepth 20000 in
theorem ggX8_hours_X8_isWind : GoodIn wsX8_hours wsX8_isWind := goodIn_r _ [35, 36, 37, 38, 9, 39, 40, 16, 17, 18] (by decide +kernel) (by decide +kernel)
set_option maxRecDepth 20000 in
theorem gX8_hours_X8_isWind : GoodIn wsX8_hours (va_wsS RX8 222 yX8_isWind wsX8_isWind) := goodIn_app (goodIn_of _ (by decide +kernel)) ggX8_hours_X8_isWind
set_option maxRecDepth 20000 in
theorem ggX8_hours_X8_goHour : GoodIn wsX8_hours wsX8_goHour := goodIn_r _ [44, 11, 45, 46, 47, 48, 49, 50, 9, 51, 52, 53, 54, 55, 56, 57, 58, 59, 60, 61, 62, 63, 64, 65, 66, 67, 68, 69, 70, 71, 72, 73, 74, 75, 76, 16, 17, 18, 77, 78, 79, 80, 81, 82, 83, 84, 85, 86, 87, 88, 89, 90, 91, 92, 93, 94, 95, 96, 97, 98, 99, 100, 101] (by decide +kernel) (by decide +kernel)
set_option maxRecDepth 20000 in
theorem gX8_hours_X8_goHour : GoodIn wsX8_hours (wsV RX8 225 RX8 yX8_goHour wsX8_goHour) := goodIn_app (goodIn_of _ (by decide +kernel)) ggX8_hours_X8_goHour
theorem dX8_hours_0 : decode cX8_hours 0 = .ok (.aload_n 0, 1) := by decide +kernel
theorem dX8_hours_1 : decode cX8_hours 1 = .ok (.invokevirtual 219, 3) := by decide +kernel
theorem dX8_hours_4 : decode cX8_hours 4 = .ok (.ifCond .eq 6, 3) := by decide +kernel
theorem dX8_hours_7 : decode cX8_hours 7 = .ok (.ldc 185, 2) := by decide +kernel
theorem dX8_hours_9 : decode cX8_hours 9 = .ok (.ireturn, 1) := by decide +kernel
theorem dX8_hours_10 : decode cX8_hours 10 = .ok (.iload_n 1, 1) := by decide +kernel
theorem dX8_hours_11 : decode cX8_hours 11 = .ok (.invokestatic 57, 3) := by decide +kernel
theorem dX8_hours_14 : decode cX8_hours 14 = .ok (.ifCond .eq 15, 3) := by decide +kernel
theorem dX8_hours_17 : decode cX8_hours 17 = .ok (.iload_n 3, 1) := by decide +kernel
theorem dX8_hours_18 : decode cX8_hours 18 = .ok (.i2l, 1) := by decide +kernel
theorem dX8_hours_19 : decode cX8_hours 19 = .ok (.lconst 1, 1) := by decide +kernel
theorem dX8_hours_20 : decode cX8_hours 20 = .ok (.ldc2_w 228, 3) := by decide +kernel
theorem dX8_hours_23 : decode cX8_hours 23 = .ok (.invokestatic 53, 3) := by decide +kernel
theorem dX8_hours_26 : decode cX8_hours 26 = .ok (.ifCond .ne 6, 3) := by decide +kernel
theorem dX8_hours_29 : decode cX8_hours 29 = .ok (.ldc 63, 2) := by decide +kernel
theorem dX8_hours_31 : decode cX8_hours 31 = .ok (.ireturn, 1) := by decide +kernel
theorem dX8_hours_32 : decode cX8_hours 32 = .ok (.aload_n 0, 1) := by decide +kernel
theorem dX8_hours_33 : decode cX8_hours 33 = .ok (.iload_n 1, 1) := by decide +kernel
theorem dX8_hours_34 : decode cX8_hours 34 = .ok (.invokevirtual 70, 3) := by decide +kernel
theorem dX8_hours_37 : decode cX8_hours 37 = .ok (.ifCond .eq 10, 3) := by decide +kernel
theorem dX8_hours_40 : decode cX8_hours 40 = .ok (.aload_n 0, 1) := by decide +kernel
theorem dX8_hours_41 : decode cX8_hours 41 = .ok (.iconst 1, 1) := by decide +kernel
theorem dX8_hours_42 : decode cX8_hours 42 = .ok (.iconst 0, 1) := by decide +kernel
theorem dX8_hours_43 : decode cX8_hours 43 = .ok (.invokevirtual 64, 3) := by decide +kernel
theorem dX8_hours_46 : decode cX8_hours 46 = .ok (.ireturn, 1) := by decide +kernel
theorem dX8_hours_47 : decode cX8_hours 47 = .ok (.iload_n 2, 1) := by decide +kernel
theorem dX8_hours_48 : decode cX8_hours 48 = .ok (.iload_n 3, 1) := by decide +kernel
theorem dX8_hours_49 : decode cX8_hours 49 = .ok (.aload_n 0, 1) := by decide +kernel
theorem dX8_hours_50 : decode cX8_hours 50 = .ok (.getfield 13, 3) := by decide +kernel
theorem dX8_hours_53 : decode cX8_hours 53 = .ok (.iload_n 1, 1) := by decide +kernel
theorem dX8_hours_54 : decode cX8_hours 54 = .ok (.iaload, 1) := by decide +kernel
theorem dX8_hours_55 : decode cX8_hours 55 = .ok (.invokestatic 76, 3) := by decide +kernel
theorem dX8_hours_58 : decode cX8_hours 58 = .ok (.ifCond .ne 10, 3) := by decide +kernel
theorem dX8_hours_61 : decode cX8_hours 61 = .ok (.aload_n 0, 1) := by decide +kernel
theorem dX8_hours_62 : decode cX8_hours 62 = .ok (.iconst 2, 1) := by decide +kernel
theorem dX8_hours_63 : decode cX8_hours 63 = .ok (.iconst 0, 1) := by decide +kernel
theorem dX8_hours_64 : decode cX8_hours 64 = .ok (.invokevirtual 64, 3) := by decide +kernel
theorem dX8_hours_67 : decode cX8_hours 67 = .ok (.ireturn, 1) := by decide +kernel
theorem dX8_hours_68 : decode cX8_hours 68 = .ok (.iload_n 2, 1) := by decide +kernel
theorem dX8_hours_69 : decode cX8_hours 69 = .ok (.istore 4, 2) := by decide +kernel
theorem dX8_hours_71 : decode cX8_hours 71 = .ok (.iload 4, 2) := by decide +kernel
theorem dX8_hours_73 : decode cX8_hours 73 = .ok (.iload_n 2, 1) := by decide +kernel
theorem dX8_hours_74 : decode cX8_hours 74 = .ok (.iload_n 3, 1) := by decide +kernel
theorem dX8_hours_75 : decode cX8_hours 75 = .ok (.iadd, 1) := by decide +kernel
theorem dX8_hours_76 : decode cX8_hours 76 = .ok (.if_icmp .ge 49, 3) := by decide +kernel
theorem dX8_hours_79 : decode cX8_hours 79 = .ok (.aload_n 0, 1) := by decide +kernel
theorem dX8_hours_80 : decode cX8_hours 80 = .ok (.getfield 16, 3) := by decide +kernel
theorem dX8_hours_83 : decode cX8_hours 83 = .ok (.bipush 40, 2) := by decide +kernel
theorem dX8_hours_85 : decode cX8_hours 85 = .ok (.iload_n 1, 1) := by decide +kernel
theorem dX8_hours_86 : decode cX8_hours 86 = .ok (.imul, 1) := by decide +kernel
theorem dX8_hours_87 : decode cX8_hours 87 = .ok (.iload 4, 2) := by decide +kernel
theorem dX8_hours_89 : decode cX8_hours 89 = .ok (.iadd, 1) := by decide +kernel
theorem dX8_hours_90 : decode cX8_hours 90 = .ok (.iaload, 1) := by decide +kernel
theorem dX8_hours_91 : decode cX8_hours 91 = .ok (.istore 5, 2) := by decide +kernel
theorem dX8_hours_93 : decode cX8_hours 93 = .ok (.iload 5, 2) := by decide +kernel
theorem dX8_hours_95 : decode cX8_hours 95 = .ok (.ifCond .lt 21, 3) := by decide +kernel
theorem dX8_hours_98 : decode cX8_hours 98 = .ok (.iload 5, 2) := by decide +kernel
theorem dX8_hours_100 : decode cX8_hours 100 = .ok (.sipush 1000, 3) := by decide +kernel
theorem dX8_hours_103 : decode cX8_hours 103 = .ok (.idiv, 1) := by decide +kernel
theorem dX8_hours_104 : decode cX8_hours 104 = .ok (.iload 5, 2) := by decide +kernel
theorem dX8_hours_106 : decode cX8_hours 106 = .ok (.sipush 1000, 3) := by decide +kernel
theorem dX8_hours_109 : decode cX8_hours 109 = .ok (.irem, 1) := by decide +kernel
theorem dX8_hours_110 : decode cX8_hours 110 = .ok (.invokestatic 222, 3) := by decide +kernel
theorem dX8_hours_113 : decode cX8_hours 113 = .ok (.ifCond .ne 6, 3) := by decide +kernel
theorem dX8_hours_116 : decode cX8_hours 116 = .ok (.ldc 63, 2) := by decide +kernel
theorem dX8_hours_118 : decode cX8_hours 118 = .ok (.ireturn, 1) := by decide +kernel
theorem dX8_hours_119 : decode cX8_hours 119 = .ok (.iinc 4 1, 3) := by decide +kernel
theorem dX8_hours_122 : decode cX8_hours 122 = .ok (.goto (-51), 3) := by decide +kernel
theorem dX8_hours_125 : decode cX8_hours 125 = .ok (.iconst 0, 1) := by decide +kernel
theorem dX8_hours_126 : decode cX8_hours 126 = .ok (.istore 4, 2) := by decide +kernel
theorem dX8_hours_128 : decode cX8_hours 128 = .ok (.iload_n 2, 1) := by decide +kernel
theorem dX8_hours_129 : decode cX8_hours 129 = .ok (.istore 5, 2) := by decide +kernel
theorem dX8_hours_131 : decode cX8_hours 131 = .ok (.iload 5, 2) := by decide +kernel
theorem dX8_hours_133 : decode cX8_hours 133 = .ok (.iload_n 2, 1) := by decide +kernel
theorem dX8_hours_134 : decode cX8_hours 134 = .ok (.iload_n 3, 1) := by decide +kernel
theorem dX8_hours_135 : decode cX8_hours 135 = .ok (.iadd, 1) := by decide +kernel
theorem dX8_hours_136 : decode cX8_hours 136 = .ok (.if_icmp .ge 50, 3) := by decide +kernel
theorem dX8_hours_139 : decode cX8_hours 139 = .ok (.iload 4, 2) := by decide +kernel
theorem dX8_hours_141 : decode cX8_hours 141 = .ok (.aload_n 0, 1) := by decide +kernel
theorem dX8_hours_142 : decode cX8_hours 142 = .ok (.aload_n 0, 1) := by decide +kernel
theorem dX8_hours_143 : decode cX8_hours 143 = .ok (.getfield 16, 3) := by decide +kernel
theorem dX8_hours_146 : decode cX8_hours 146 = .ok (.bipush 40, 2) := by decide +kernel
theorem dX8_hours_148 : decode cX8_hours 148 = .ok (.iload_n 1, 1) := by decide +kernel
theorem dX8_hours_149 : decode cX8_hours 149 = .ok (.imul, 1) := by decide +kernel
theorem dX8_hours_150 : decode cX8_hours 150 = .ok (.iload 5, 2) := by decide +kernel
theorem dX8_hours_152 : decode cX8_hours 152 = .ok (.iadd, 1) := by decide +kernel
theorem dX8_hours_153 : decode cX8_hours 153 = .ok (.iaload, 1) := by decide +kernel
theorem dX8_hours_154 : decode cX8_hours 154 = .ok (.sipush 1000, 3) := by decide +kernel
theorem dX8_hours_157 : decode cX8_hours 157 = .ok (.idiv, 1) := by decide +kernel
theorem dX8_hours_158 : decode cX8_hours 158 = .ok (.aload_n 0, 1) := by decide +kernel
theorem dX8_hours_159 : decode cX8_hours 159 = .ok (.getfield 16, 3) := by decide +kernel
theorem dX8_hours_162 : decode cX8_hours 162 = .ok (.bipush 40, 2) := by decide +kernel
theorem dX8_hours_164 : decode cX8_hours 164 = .ok (.iload_n 1, 1) := by decide +kernel
theorem dX8_hours_165 : decode cX8_hours 165 = .ok (.imul, 1) := by decide +kernel
theorem dX8_hours_166 : decode cX8_hours 166 = .ok (.iload 5, 2) := by decide +kernel
theorem dX8_hours_168 : decode cX8_hours 168 = .ok (.iadd, 1) := by decide +kernel
theorem dX8_hours_169 : decode cX8_hours 169 = .ok (.iaload, 1) := by decide +kernel
theorem dX8_hours_170 : decode cX8_hours 170 = .ok (.sipush 1000, 3) := by decide +kernel
theorem dX8_hours_173 : decode cX8_hours 173 = .ok (.irem, 1) := by decide +kernel
theorem dX8_hours_174 : decode cX8_hours 174 = .ok (.invokevirtual 225, 3) := by decide +kernel
theorem dX8_hours_177 : decode cX8_hours 177 = .ok (.iadd, 1) := by decide +kernel
theorem dX8_hours_178 : decode cX8_hours 178 = .ok (.istore 4, 2) := by decide +kernel
theorem dX8_hours_180 : decode cX8_hours 180 = .ok (.iinc 5 1, 3) := by decide +kernel
theorem dX8_hours_183 : decode cX8_hours 183 = .ok (.goto (-52), 3) := by decide +kernel
theorem dX8_hours_186 : decode cX8_hours 186 = .ok (.aload_n 0, 1) := by decide +kernel
theorem dX8_hours_187 : decode cX8_hours 187 = .ok (.iconst 0, 1) := by decide +kernel
theorem dX8_hours_188 : decode cX8_hours 188 = .ok (.iload 4, 2) := by decide +kernel
theorem dX8_hours_190 : decode cX8_hours 190 = .ok (.invokevirtual 64, 3) := by decide +kernel
theorem dX8_hours_193 : decode cX8_hours 193 = .ok (.ireturn, 1) := by decide +kernel
set_option maxRecDepth 20000 in
theorem ggX8_left_X8_isMill : GoodIn wsX8_left wsX8_isMill := goodIn_r _ [8, 3, 9, 10, 7, 11, 45, 46, 47, 48, 49, 50, 51, 52, 53, 54, 55, 56, 57, 58, 59, 60, 61, 62, 63, 64, 65] (by decide +kernel) (by decide +kernel)
set_option maxRecDepth 20000 in
theorem gX8_left_X8_isMill : GoodIn wsX8_left (wsV RX8 174 RX8 yX8_isMill wsX8_isMill) := goodIn_app (goodIn_of _ (by decide +kernel)) ggX8_left_X8_isMill
set_option maxRecDepth 20000 in
theorem ggX8_left_X8_isWind : GoodIn wsX8_left wsX8_isWind := goodIn_r _ [14, 15, 16, 17, 7, 18, 19, 9, 10, 11] (by decide +kernel) (by decide +kernel)
set_option maxRecDepth 20000 in
theorem gX8_left_X8_isWind : GoodIn wsX8_left (va_wsS RX8 222 yX8_isWind wsX8_isWind) := goodIn_app (goodIn_of _ (by decide +kernel)) ggX8_left_X8_isWind
set_option maxRecDepth 20000 in
theorem ggX8_left_X8_in : GoodIn wsX8_left wsX8_in := goodIn_r _ [11] (by decide +kernel) (by decide +kernel)
set_option maxRecDepth 20000 in
theorem gX8_left_X8_in : GoodIn wsX8_left (va_wsS RX8 53 yX8_in wsX8_in) := goodIn_app (goodIn_of _ (by decide +kernel)) ggX8_left_X8_in
set_option maxRecDepth 20000 in
theorem ggX8_left_X8_leftAt : GoodIn wsX8_left wsX8_leftAt := goodIn_r _ [23, 3, 24, 25, 26, 7, 27, 28, 29, 30, 31, 32, 33, 9, 10, 11, 34, 35, 36, 37, 38, 39, 40, 41, 42, 43, 44, 45, 46, 47, 48, 49, 50, 51, 52, 53, 54, 55, 56, 57, 58, 59, 60, 61, 62, 63, 64, 65] (by decide +kernel) (by decide +kernel)
set_option maxRecDepth 20000 in
theorem gX8_left_X8_leftAt : GoodIn wsX8_left (wsV RX8 206 RX8 yX8_leftAt wsX8_leftAt) := goodIn_app (goodIn_of _ (by decide +kernel)) ggX8_left_X8_leftAt
set_option maxRecDepth 20000 in
theorem ggX8_left_X8_isBehind : GoodIn wsX8_left wsX8_isBehind := goodIn_r _ [27, 28, 29, 30, 31, 32, 7, 33, 3, 9, 10, 11, 45, 46, 47, 48, 49, 50, 51, 52, 53, 54, 55, 56, 57, 58, 59, 60, 61, 62, 63, 64, 65] (by decide +kernel) (by decide +kernel)
set_option maxRecDepth 20000 in
theorem gX8_left_X8_isBehind : GoodIn wsX8_left (wsV RX8 199 RX8 yX8_isBehind wsX8_isBehind) := goodIn_app (goodIn_of _ (by decide +kernel)) ggX8_left_X8_isBehind
theorem dX8_left_0 : decode cX8_left 0 = .ok (.aload_n 0, 1) := by decide +kernel
theorem dX8_left_1 : decode cX8_left 1 = .ok (.iload_n 1, 1) := by decide +kernel
theorem dX8_left_2 : decode cX8_left 2 = .ok (.invokevirtual 174, 3) := by decide +kernel
theorem dX8_left_5 : decode cX8_left 5 = .ok (.ifCond .eq 22, 3) := by decide +kernel
theorem dX8_left_8 : decode cX8_left 8 = .ok (.iload_n 2, 1) := by decide +kernel
theorem dX8_left_9 : decode cX8_left 9 = .ok (.iload_n 3, 1) := by decide +kernel
theorem dX8_left_10 : decode cX8_left 10 = .ok (.invokestatic 222, 3) := by decide +kernel
theorem dX8_left_13 : decode cX8_left 13 = .ok (.ifCond .eq 14, 3) := by decide +kernel
theorem dX8_left_16 : decode cX8_left 16 = .ok (.iload 4, 2) := by decide +kernel
theorem dX8_left_18 : decode cX8_left 18 = .ok (.i2l, 1) := by decide +kernel
theorem dX8_left_19 : decode cX8_left 19 = .ok (.lconst 0, 1) := by decide +kernel
theorem dX8_left_20 : decode cX8_left 20 = .ok (.lconst 1, 1) := by decide +kernel
theorem dX8_left_21 : decode cX8_left 21 = .ok (.invokestatic 53, 3) := by decide +kernel
theorem dX8_left_24 : decode cX8_left 24 = .ok (.ifCond .ne 6, 3) := by decide +kernel
theorem dX8_left_27 : decode cX8_left 27 = .ok (.ldc 63, 2) := by decide +kernel
theorem dX8_left_29 : decode cX8_left 29 = .ok (.ireturn, 1) := by decide +kernel
theorem dX8_left_30 : decode cX8_left 30 = .ok (.iload 4, 2) := by decide +kernel
theorem dX8_left_32 : decode cX8_left 32 = .ok (.ifCond .ne 14, 3) := by decide +kernel
theorem dX8_left_35 : decode cX8_left 35 = .ok (.aload_n 0, 1) := by decide +kernel
theorem dX8_left_36 : decode cX8_left 36 = .ok (.iload_n 1, 1) := by decide +kernel
theorem dX8_left_37 : decode cX8_left 37 = .ok (.iload_n 2, 1) := by decide +kernel
theorem dX8_left_38 : decode cX8_left 38 = .ok (.iload_n 3, 1) := by decide +kernel
theorem dX8_left_39 : decode cX8_left 39 = .ok (.iconst 0, 1) := by decide +kernel
theorem dX8_left_40 : decode cX8_left 40 = .ok (.ldc 215, 2) := by decide +kernel
theorem dX8_left_42 : decode cX8_left 42 = .ok (.invokevirtual 206, 3) := by decide +kernel
theorem dX8_left_45 : decode cX8_left 45 = .ok (.ireturn, 1) := by decide +kernel
theorem dX8_left_46 : decode cX8_left 46 = .ok (.iconst 0, 1) := by decide +kernel
theorem dX8_left_47 : decode cX8_left 47 = .ok (.istore 5, 2) := by decide +kernel
theorem dX8_left_49 : decode cX8_left 49 = .ok (.iconst 0, 1) := by decide +kernel
theorem dX8_left_50 : decode cX8_left 50 = .ok (.istore 6, 2) := by decide +kernel
theorem dX8_left_52 : decode cX8_left 52 = .ok (.iload 6, 2) := by decide +kernel
theorem dX8_left_54 : decode cX8_left 54 = .ok (.aload_n 0, 1) := by decide +kernel
theorem dX8_left_55 : decode cX8_left 55 = .ok (.getfield 22, 3) := by decide +kernel
theorem dX8_left_58 : decode cX8_left 58 = .ok (.iconst 0, 1) := by decide +kernel
theorem dX8_left_59 : decode cX8_left 59 = .ok (.iaload, 1) := by decide +kernel
theorem dX8_left_60 : decode cX8_left 60 = .ok (.if_icmp .ge 35, 3) := by decide +kernel
theorem dX8_left_63 : decode cX8_left 63 = .ok (.iload 5, 2) := by decide +kernel
theorem dX8_left_65 : decode cX8_left 65 = .ok (.aload_n 0, 1) := by decide +kernel
theorem dX8_left_66 : decode cX8_left 66 = .ok (.iload_n 1, 1) := by decide +kernel
theorem dX8_left_67 : decode cX8_left 67 = .ok (.iload 6, 2) := by decide +kernel
theorem dX8_left_69 : decode cX8_left 69 = .ok (.iload_n 2, 1) := by decide +kernel
theorem dX8_left_70 : decode cX8_left 70 = .ok (.ldc 215, 2) := by decide +kernel
theorem dX8_left_72 : decode cX8_left 72 = .ok (.invokevirtual 199, 3) := by decide +kernel
theorem dX8_left_75 : decode cX8_left 75 = .ok (.ifCond .eq 10, 3) := by decide +kernel
theorem dX8_left_78 : decode cX8_left 78 = .ok (.iconst 1, 1) := by decide +kernel
theorem dX8_left_79 : decode cX8_left 79 = .ok (.iload 6, 2) := by decide +kernel
theorem dX8_left_81 : decode cX8_left 81 = .ok (.ishl, 1) := by decide +kernel
theorem dX8_left_82 : decode cX8_left 82 = .ok (.goto 4, 3) := by decide +kernel
theorem dX8_left_85 : decode cX8_left 85 = .ok (.iconst 0, 1) := by decide +kernel
theorem dX8_left_86 : decode cX8_left 86 = .ok (.ior, 1) := by decide +kernel
theorem dX8_left_87 : decode cX8_left 87 = .ok (.istore 5, 2) := by decide +kernel
theorem dX8_left_89 : decode cX8_left 89 = .ok (.iinc 6 1, 3) := by decide +kernel
theorem dX8_left_92 : decode cX8_left 92 = .ok (.goto (-40), 3) := by decide +kernel
theorem dX8_left_95 : decode cX8_left 95 = .ok (.iload 5, 2) := by decide +kernel
theorem dX8_left_97 : decode cX8_left 97 = .ok (.ireturn, 1) := by decide +kernel
set_option maxRecDepth 20000 in
theorem ggX8_madeBy_X8_grinds : GoodIn wsX8_madeBy wsX8_grinds := goodIn_r _ [7, 8, 9, 10, 6, 11, 1, 12, 13, 14, 15, 16, 17, 18, 19, 20, 21, 22, 23, 24, 25, 26, 27, 28, 29, 30, 31, 32, 33, 34, 35, 36, 37, 38, 39, 40, 41, 42, 43, 44, 45, 46, 47, 48, 49, 50, 51, 52, 53, 54, 55, 56, 57, 58, 59, 60] (by decide +kernel) (by decide +kernel)
set_option maxRecDepth 20000 in
theorem gX8_madeBy_X8_grinds : GoodIn wsX8_madeBy (wsV RX8 216 RX8 yX8_grinds wsX8_grinds) := goodIn_app (goodIn_of _ (by decide +kernel)) ggX8_madeBy_X8_grinds
theorem dX8_madeBy_0 : decode cX8_madeBy 0 = .ok (.iconst 0, 1) := by decide +kernel
theorem dX8_madeBy_1 : decode cX8_madeBy 1 = .ok (.istore 4, 2) := by decide +kernel
theorem dX8_madeBy_3 : decode cX8_madeBy 3 = .ok (.iconst 0, 1) := by decide +kernel
theorem dX8_madeBy_4 : decode cX8_madeBy 4 = .ok (.istore 5, 2) := by decide +kernel
theorem dX8_madeBy_6 : decode cX8_madeBy 6 = .ok (.iload 5, 2) := by decide +kernel
theorem dX8_madeBy_8 : decode cX8_madeBy 8 = .ok (.aload_n 0, 1) := by decide +kernel
theorem dX8_madeBy_9 : decode cX8_madeBy 9 = .ok (.getfield 22, 3) := by decide +kernel
theorem dX8_madeBy_12 : decode cX8_madeBy 12 = .ok (.iconst 0, 1) := by decide +kernel
theorem dX8_madeBy_13 : decode cX8_madeBy 13 = .ok (.iaload, 1) := by decide +kernel
theorem dX8_madeBy_14 : decode cX8_madeBy 14 = .ok (.if_icmp .ge 25, 3) := by decide +kernel
theorem dX8_madeBy_17 : decode cX8_madeBy 17 = .ok (.iload 4, 2) := by decide +kernel
theorem dX8_madeBy_19 : decode cX8_madeBy 19 = .ok (.aload_n 0, 1) := by decide +kernel
theorem dX8_madeBy_20 : decode cX8_madeBy 20 = .ok (.iload 5, 2) := by decide +kernel
theorem dX8_madeBy_22 : decode cX8_madeBy 22 = .ok (.iload_n 1, 1) := by decide +kernel
theorem dX8_madeBy_23 : decode cX8_madeBy 23 = .ok (.iload_n 2, 1) := by decide +kernel
theorem dX8_madeBy_24 : decode cX8_madeBy 24 = .ok (.iload_n 3, 1) := by decide +kernel
theorem dX8_madeBy_25 : decode cX8_madeBy 25 = .ok (.ldc 215, 2) := by decide +kernel
theorem dX8_madeBy_27 : decode cX8_madeBy 27 = .ok (.invokevirtual 216, 3) := by decide +kernel
theorem dX8_madeBy_30 : decode cX8_madeBy 30 = .ok (.iadd, 1) := by decide +kernel
theorem dX8_madeBy_31 : decode cX8_madeBy 31 = .ok (.istore 4, 2) := by decide +kernel
theorem dX8_madeBy_33 : decode cX8_madeBy 33 = .ok (.iinc 5 1, 3) := by decide +kernel
theorem dX8_madeBy_36 : decode cX8_madeBy 36 = .ok (.goto (-30), 3) := by decide +kernel
theorem dX8_madeBy_39 : decode cX8_madeBy 39 = .ok (.iload 4, 2) := by decide +kernel
theorem dX8_madeBy_41 : decode cX8_madeBy 41 = .ok (.ireturn, 1) := by decide +kernel
set_option maxRecDepth 20000 in
theorem ggX8_made_X8_isNoRidge : GoodIn wsX8_made wsX8_isNoRidge := goodIn_r _ [8, 9, 59, 60, 61, 62, 63, 64, 65, 66, 67, 68, 69, 70, 71, 72, 73, 74, 75, 76, 77, 78, 79] (by decide +kernel) (by decide +kernel)
set_option maxRecDepth 20000 in
theorem gX8_made_X8_isNoRidge : GoodIn wsX8_made (wsV RX8 219 RX8 yX8_isNoRidge wsX8_isNoRidge) := goodIn_app (goodIn_of _ (by decide +kernel)) ggX8_made_X8_isNoRidge
set_option maxRecDepth 20000 in
theorem ggX8_made_X8_isWind : GoodIn wsX8_made wsX8_isWind := goodIn_r _ [12, 13, 14, 15, 7, 16, 17, 18, 19, 20] (by decide +kernel) (by decide +kernel)
set_option maxRecDepth 20000 in
theorem gX8_made_X8_isWind : GoodIn wsX8_made (va_wsS RX8 222 yX8_isWind wsX8_isWind) := goodIn_app (goodIn_of _ (by decide +kernel)) ggX8_made_X8_isWind
set_option maxRecDepth 20000 in
theorem ggX8_made_X8_in : GoodIn wsX8_made wsX8_in := goodIn_r _ [20] (by decide +kernel) (by decide +kernel)
set_option maxRecDepth 20000 in
theorem gX8_made_X8_in : GoodIn wsX8_made (va_wsS RX8 53 yX8_in wsX8_in) := goodIn_app (goodIn_of _ (by decide +kernel)) ggX8_made_X8_in
set_option maxRecDepth 20000 in
theorem ggX8_made_X8_madeBy : GoodIn wsX8_made wsX8_madeBy := goodIn_r _ [24, 9, 25, 26, 27, 28, 7, 29, 30, 31, 32, 33, 34, 35, 36, 37, 38, 39, 40, 41, 42, 43, 44, 45, 46, 47, 48, 49, 50, 51, 52, 53, 54, 18, 19, 20, 55, 56, 57, 58, 59, 60, 61, 62, 63, 64, 65, 66, 67, 68, 69, 70, 71, 72, 73, 74, 75, 76, 77, 78, 79] (by decide +kernel) (by decide +kernel)
set_option maxRecDepth 20000 in
theorem gX8_made_X8_madeBy : GoodIn wsX8_made (wsV RX8 230 RX8 yX8_madeBy wsX8_madeBy) := goodIn_app (goodIn_of _ (by decide +kernel)) ggX8_made_X8_madeBy
theorem dX8_made_0 : decode cX8_made 0 = .ok (.aload_n 0, 1) := by decide +kernel
theorem dX8_made_1 : decode cX8_made 1 = .ok (.invokevirtual 219, 3) := by decide +kernel
theorem dX8_made_4 : decode cX8_made 4 = .ok (.ifCond .eq 6, 3) := by decide +kernel
theorem dX8_made_7 : decode cX8_made 7 = .ok (.ldc 185, 2) := by decide +kernel
theorem dX8_made_9 : decode cX8_made 9 = .ok (.ireturn, 1) := by decide +kernel
theorem dX8_made_10 : decode cX8_made 10 = .ok (.iload_n 1, 1) := by decide +kernel
theorem dX8_made_11 : decode cX8_made 11 = .ok (.iload_n 2, 1) := by decide +kernel
theorem dX8_made_12 : decode cX8_made 12 = .ok (.invokestatic 222, 3) := by decide +kernel
theorem dX8_made_15 : decode cX8_made 15 = .ok (.ifCond .eq 25, 3) := by decide +kernel
theorem dX8_made_18 : decode cX8_made 18 = .ok (.iload_n 3, 1) := by decide +kernel
theorem dX8_made_19 : decode cX8_made 19 = .ok (.i2l, 1) := by decide +kernel
theorem dX8_made_20 : decode cX8_made 20 = .ok (.lconst 0, 1) := by decide +kernel
theorem dX8_made_21 : decode cX8_made 21 = .ok (.ldc2_w 86, 3) := by decide +kernel
theorem dX8_made_24 : decode cX8_made 24 = .ok (.invokestatic 53, 3) := by decide +kernel
theorem dX8_made_27 : decode cX8_made 27 = .ok (.ifCond .eq 13, 3) := by decide +kernel
theorem dX8_made_30 : decode cX8_made 30 = .ok (.aload_n 0, 1) := by decide +kernel
theorem dX8_made_31 : decode cX8_made 31 = .ok (.iload_n 1, 1) := by decide +kernel
theorem dX8_made_32 : decode cX8_made 32 = .ok (.iload_n 2, 1) := by decide +kernel
theorem dX8_made_33 : decode cX8_made 33 = .ok (.iload_n 3, 1) := by decide +kernel
theorem dX8_made_34 : decode cX8_made 34 = .ok (.invokevirtual 230, 3) := by decide +kernel
theorem dX8_made_37 : decode cX8_made 37 = .ok (.goto 5, 3) := by decide +kernel
theorem dX8_made_40 : decode cX8_made 40 = .ok (.ldc 63, 2) := by decide +kernel
theorem dX8_made_42 : decode cX8_made 42 = .ok (.ireturn, 1) := by decide +kernel
theorem dX8_bits_0 : decode cX8_bits 0 = .ok (.iconst 0, 1) := by decide +kernel
theorem dX8_bits_1 : decode cX8_bits 1 = .ok (.istore_n 1, 1) := by decide +kernel
theorem dX8_bits_2 : decode cX8_bits 2 = .ok (.iload_n 0, 1) := by decide +kernel
theorem dX8_bits_3 : decode cX8_bits 3 = .ok (.istore_n 2, 1) := by decide +kernel
theorem dX8_bits_4 : decode cX8_bits 4 = .ok (.iload_n 2, 1) := by decide +kernel
theorem dX8_bits_5 : decode cX8_bits 5 = .ok (.ifCond .eq 15, 3) := by decide +kernel
theorem dX8_bits_8 : decode cX8_bits 8 = .ok (.iinc 1 1, 3) := by decide +kernel
theorem dX8_bits_11 : decode cX8_bits 11 = .ok (.iload_n 2, 1) := by decide +kernel
theorem dX8_bits_12 : decode cX8_bits 12 = .ok (.iload_n 2, 1) := by decide +kernel
theorem dX8_bits_13 : decode cX8_bits 13 = .ok (.iconst 1, 1) := by decide +kernel
theorem dX8_bits_14 : decode cX8_bits 14 = .ok (.isub, 1) := by decide +kernel
theorem dX8_bits_15 : decode cX8_bits 15 = .ok (.iand, 1) := by decide +kernel
theorem dX8_bits_16 : decode cX8_bits 16 = .ok (.istore_n 2, 1) := by decide +kernel
theorem dX8_bits_17 : decode cX8_bits 17 = .ok (.goto (-13), 3) := by decide +kernel
theorem dX8_bits_20 : decode cX8_bits 20 = .ok (.iload_n 1, 1) := by decide +kernel
theorem dX8_bits_21 : decode cX8_bits 21 = .ok (.ireturn, 1) := by decide +kernel
set_option maxRecDepth 20000 in
theorem ggX8_bestSet_X8_madeBy : GoodIn wsX8_bestSet wsX8_madeBy := goodIn_r _ [6, 1, 7, 8, 9, 10, 5, 11, 12, 13, 14, 15, 16, 17, 18, 19, 20, 21, 22, 23, 24, 25, 26, 27, 28, 29, 30, 31, 32, 33, 34, 35, 36, 37, 38, 39, 40, 41, 42, 43, 47, 48, 49, 50, 51, 52, 53, 54, 55, 56, 57, 58, 59, 60, 61, 62, 63, 64, 65, 66, 67] (by decide +kernel) (by decide +kernel)
set_option maxRecDepth 20000 in
theorem gX8_bestSet_X8_madeBy : GoodIn wsX8_bestSet (wsV RX8 230 RX8 yX8_madeBy wsX8_madeBy) := goodIn_app (goodIn_of _ (by decide +kernel)) ggX8_bestSet_X8_madeBy
set_option maxRecDepth 20000 in
theorem ggX8_bestSet_X8_bits : GoodIn wsX8_bestSet wsX8_bits := goodIn_r _ [46] (by decide +kernel) (by decide +kernel)
set_option maxRecDepth 20000 in
theorem gX8_bestSet_X8_bits : GoodIn wsX8_bestSet (va_wsS RX8 234 yX8_bits wsX8_bits) := goodIn_app (goodIn_of _ (by decide +kernel)) ggX8_bestSet_X8_bits
theorem dX8_bestSet_0 : decode cX8_bestSet 0 = .ok (.iconst 0, 1) := by decide +kernel
theorem dX8_bestSet_1 : decode cX8_bestSet 1 = .ok (.istore_n 3, 1) := by decide +kernel
theorem dX8_bestSet_2 : decode cX8_bestSet 2 = .ok (.aload_n 0, 1) := by decide +kernel
theorem dX8_bestSet_3 : decode cX8_bestSet 3 = .ok (.iload_n 1, 1) := by decide +kernel
theorem dX8_bestSet_4 : decode cX8_bestSet 4 = .ok (.iload_n 2, 1) := by decide +kernel
theorem dX8_bestSet_5 : decode cX8_bestSet 5 = .ok (.iconst 0, 1) := by decide +kernel
theorem dX8_bestSet_6 : decode cX8_bestSet 6 = .ok (.invokevirtual 230, 3) := by decide +kernel
theorem dX8_bestSet_9 : decode cX8_bestSet 9 = .ok (.istore 4, 2) := by decide +kernel
theorem dX8_bestSet_11 : decode cX8_bestSet 11 = .ok (.iconst 1, 1) := by decide +kernel
theorem dX8_bestSet_12 : decode cX8_bestSet 12 = .ok (.istore 5, 2) := by decide +kernel
theorem dX8_bestSet_14 : decode cX8_bestSet 14 = .ok (.iload 5, 2) := by decide +kernel
theorem dX8_bestSet_16 : decode cX8_bestSet 16 = .ok (.iconst 1, 1) := by decide +kernel
theorem dX8_bestSet_17 : decode cX8_bestSet 17 = .ok (.aload_n 0, 1) := by decide +kernel
theorem dX8_bestSet_18 : decode cX8_bestSet 18 = .ok (.getfield 22, 3) := by decide +kernel
theorem dX8_bestSet_21 : decode cX8_bestSet 21 = .ok (.iconst 0, 1) := by decide +kernel
theorem dX8_bestSet_22 : decode cX8_bestSet 22 = .ok (.iaload, 1) := by decide +kernel
theorem dX8_bestSet_23 : decode cX8_bestSet 23 = .ok (.ishl, 1) := by decide +kernel
theorem dX8_bestSet_24 : decode cX8_bestSet 24 = .ok (.if_icmp .ge 78, 3) := by decide +kernel
theorem dX8_bestSet_27 : decode cX8_bestSet 27 = .ok (.aload_n 0, 1) := by decide +kernel
theorem dX8_bestSet_28 : decode cX8_bestSet 28 = .ok (.iload_n 1, 1) := by decide +kernel
theorem dX8_bestSet_29 : decode cX8_bestSet 29 = .ok (.iload_n 2, 1) := by decide +kernel
theorem dX8_bestSet_30 : decode cX8_bestSet 30 = .ok (.iload 5, 2) := by decide +kernel
theorem dX8_bestSet_32 : decode cX8_bestSet 32 = .ok (.invokevirtual 230, 3) := by decide +kernel
theorem dX8_bestSet_35 : decode cX8_bestSet 35 = .ok (.istore 6, 2) := by decide +kernel
theorem dX8_bestSet_37 : decode cX8_bestSet 37 = .ok (.iload 6, 2) := by decide +kernel
theorem dX8_bestSet_39 : decode cX8_bestSet 39 = .ok (.iload 4, 2) := by decide +kernel
theorem dX8_bestSet_41 : decode cX8_bestSet 41 = .ok (.if_icmp .gt 22, 3) := by decide +kernel
theorem dX8_bestSet_44 : decode cX8_bestSet 44 = .ok (.iload 6, 2) := by decide +kernel
theorem dX8_bestSet_46 : decode cX8_bestSet 46 = .ok (.iload 4, 2) := by decide +kernel
theorem dX8_bestSet_48 : decode cX8_bestSet 48 = .ok (.if_icmp .ne 19, 3) := by decide +kernel
theorem dX8_bestSet_51 : decode cX8_bestSet 51 = .ok (.iload 5, 2) := by decide +kernel
theorem dX8_bestSet_53 : decode cX8_bestSet 53 = .ok (.invokestatic 234, 3) := by decide +kernel
theorem dX8_bestSet_56 : decode cX8_bestSet 56 = .ok (.iload_n 3, 1) := by decide +kernel
theorem dX8_bestSet_57 : decode cX8_bestSet 57 = .ok (.invokestatic 234, 3) := by decide +kernel
theorem dX8_bestSet_60 : decode cX8_bestSet 60 = .ok (.if_icmp .ge 7, 3) := by decide +kernel
theorem dX8_bestSet_63 : decode cX8_bestSet 63 = .ok (.iconst 1, 1) := by decide +kernel
theorem dX8_bestSet_64 : decode cX8_bestSet 64 = .ok (.goto 4, 3) := by decide +kernel
theorem dX8_bestSet_67 : decode cX8_bestSet 67 = .ok (.iconst 0, 1) := by decide +kernel
theorem dX8_bestSet_68 : decode cX8_bestSet 68 = .ok (.istore 7, 2) := by decide +kernel
theorem dX8_bestSet_70 : decode cX8_bestSet 70 = .ok (.iload 7, 2) := by decide +kernel
theorem dX8_bestSet_72 : decode cX8_bestSet 72 = .ok (.ifCond .eq 8, 3) := by decide +kernel
theorem dX8_bestSet_75 : decode cX8_bestSet 75 = .ok (.iload 5, 2) := by decide +kernel
theorem dX8_bestSet_77 : decode cX8_bestSet 77 = .ok (.goto 4, 3) := by decide +kernel
theorem dX8_bestSet_80 : decode cX8_bestSet 80 = .ok (.iload_n 3, 1) := by decide +kernel
theorem dX8_bestSet_81 : decode cX8_bestSet 81 = .ok (.istore_n 3, 1) := by decide +kernel
theorem dX8_bestSet_82 : decode cX8_bestSet 82 = .ok (.iload 7, 2) := by decide +kernel
theorem dX8_bestSet_84 : decode cX8_bestSet 84 = .ok (.ifCond .eq 8, 3) := by decide +kernel
theorem dX8_bestSet_87 : decode cX8_bestSet 87 = .ok (.iload 6, 2) := by decide +kernel
theorem dX8_bestSet_89 : decode cX8_bestSet 89 = .ok (.goto 5, 3) := by decide +kernel
theorem dX8_bestSet_92 : decode cX8_bestSet 92 = .ok (.iload 4, 2) := by decide +kernel
theorem dX8_bestSet_94 : decode cX8_bestSet 94 = .ok (.istore 4, 2) := by decide +kernel
theorem dX8_bestSet_96 : decode cX8_bestSet 96 = .ok (.iinc 5 1, 3) := by decide +kernel
theorem dX8_bestSet_99 : decode cX8_bestSet 99 = .ok (.goto (-85), 3) := by decide +kernel
theorem dX8_bestSet_102 : decode cX8_bestSet 102 = .ok (.iload_n 3, 1) := by decide +kernel
theorem dX8_bestSet_103 : decode cX8_bestSet 103 = .ok (.ireturn, 1) := by decide +kernel
set_option maxRecDepth 20000 in
theorem ggX8_best_X8_isNoRidge : GoodIn wsX8_best wsX8_isNoRidge := goodIn_r _ [7, 8, 65, 66, 67, 68, 69, 70, 71, 72, 73, 74, 75, 76, 77, 78, 79, 80, 81, 82, 83, 84, 85] (by decide +kernel) (by decide +kernel)
set_option maxRecDepth 20000 in
theorem gX8_best_X8_isNoRidge : GoodIn wsX8_best (wsV RX8 219 RX8 yX8_isNoRidge wsX8_isNoRidge) := goodIn_app (goodIn_of _ (by decide +kernel)) ggX8_best_X8_isNoRidge
set_option maxRecDepth 20000 in
theorem ggX8_best_X8_isWind : GoodIn wsX8_best wsX8_isWind := goodIn_r _ [11, 12, 13, 14, 6, 15, 16, 17, 18, 19] (by decide +kernel) (by decide +kernel)
set_option maxRecDepth 20000 in
theorem gX8_best_X8_isWind : GoodIn wsX8_best (va_wsS RX8 222 yX8_isWind wsX8_isWind) := goodIn_app (goodIn_of _ (by decide +kernel)) ggX8_best_X8_isWind
set_option maxRecDepth 20000 in
theorem ggX8_best_X8_in : GoodIn wsX8_best wsX8_in := goodIn_r _ [19] (by decide +kernel) (by decide +kernel)
set_option maxRecDepth 20000 in
theorem gX8_best_X8_in : GoodIn wsX8_best (va_wsS RX8 53 yX8_in wsX8_in) := goodIn_app (goodIn_of _ (by decide +kernel)) ggX8_best_X8_in
set_option maxRecDepth 20000 in
theorem ggX8_best_X8_bestSet : GoodIn wsX8_best wsX8_bestSet := goodIn_r _ [23, 8, 24, 25, 26, 6, 27, 28, 29, 30, 31, 32, 33, 34, 35, 36, 37, 38, 39, 40, 41, 42, 43, 44, 45, 46, 47, 48, 49, 50, 51, 52, 53, 54, 55, 56, 57, 17, 18, 19, 58, 59, 60, 61, 62, 63, 64, 65, 66, 67, 68, 69, 70, 71, 72, 73, 74, 75, 76, 77, 78, 79, 80, 81, 82, 83, 84, 85] (by decide +kernel) (by decide +kernel)
set_option maxRecDepth 20000 in
theorem gX8_best_X8_bestSet : GoodIn wsX8_best (wsV RX8 237 RX8 yX8_bestSet wsX8_bestSet) := goodIn_app (goodIn_of _ (by decide +kernel)) ggX8_best_X8_bestSet
set_option maxRecDepth 20000 in
theorem ggX8_best_X8_madeBy : GoodIn wsX8_best wsX8_madeBy := goodIn_r _ [27, 8, 28, 29, 30, 31, 6, 32, 33, 34, 35, 36, 37, 38, 39, 40, 41, 42, 43, 44, 45, 46, 47, 48, 49, 50, 51, 52, 53, 54, 55, 56, 57, 17, 18, 19, 58, 59, 60, 61, 65, 66, 67, 68, 69, 70, 71, 72, 73, 74, 75, 76, 77, 78, 79, 80, 81, 82, 83, 84, 85] (by decide +kernel) (by decide +kernel)
set_option maxRecDepth 20000 in
theorem gX8_best_X8_madeBy : GoodIn wsX8_best (wsV RX8 230 RX8 yX8_madeBy wsX8_madeBy) := goodIn_app (goodIn_of _ (by decide +kernel)) ggX8_best_X8_madeBy
theorem dX8_best_0 : decode cX8_best 0 = .ok (.aload_n 0, 1) := by decide +kernel
theorem dX8_best_1 : decode cX8_best 1 = .ok (.invokevirtual 219, 3) := by decide +kernel
theorem dX8_best_4 : decode cX8_best 4 = .ok (.ifCond .eq 6, 3) := by decide +kernel
theorem dX8_best_7 : decode cX8_best 7 = .ok (.ldc 185, 2) := by decide +kernel
theorem dX8_best_9 : decode cX8_best 9 = .ok (.ireturn, 1) := by decide +kernel
theorem dX8_best_10 : decode cX8_best 10 = .ok (.iload_n 1, 1) := by decide +kernel
theorem dX8_best_11 : decode cX8_best 11 = .ok (.iload_n 2, 1) := by decide +kernel
theorem dX8_best_12 : decode cX8_best 12 = .ok (.invokestatic 222, 3) := by decide +kernel
theorem dX8_best_15 : decode cX8_best 15 = .ok (.ifCond .eq 13, 3) := by decide +kernel
theorem dX8_best_18 : decode cX8_best 18 = .ok (.iload_n 3, 1) := by decide +kernel
theorem dX8_best_19 : decode cX8_best 19 = .ok (.i2l, 1) := by decide +kernel
theorem dX8_best_20 : decode cX8_best 20 = .ok (.lconst 0, 1) := by decide +kernel
theorem dX8_best_21 : decode cX8_best 21 = .ok (.lconst 1, 1) := by decide +kernel
theorem dX8_best_22 : decode cX8_best 22 = .ok (.invokestatic 53, 3) := by decide +kernel
theorem dX8_best_25 : decode cX8_best 25 = .ok (.ifCond .ne 6, 3) := by decide +kernel
theorem dX8_best_28 : decode cX8_best 28 = .ok (.ldc 63, 2) := by decide +kernel
theorem dX8_best_30 : decode cX8_best 30 = .ok (.ireturn, 1) := by decide +kernel
theorem dX8_best_31 : decode cX8_best 31 = .ok (.aload_n 0, 1) := by decide +kernel
theorem dX8_best_32 : decode cX8_best 32 = .ok (.iload_n 1, 1) := by decide +kernel
theorem dX8_best_33 : decode cX8_best 33 = .ok (.iload_n 2, 1) := by decide +kernel
theorem dX8_best_34 : decode cX8_best 34 = .ok (.invokevirtual 237, 3) := by decide +kernel
theorem dX8_best_37 : decode cX8_best 37 = .ok (.istore 4, 2) := by decide +kernel
theorem dX8_best_39 : decode cX8_best 39 = .ok (.iload_n 3, 1) := by decide +kernel
theorem dX8_best_40 : decode cX8_best 40 = .ok (.ifCond .ne 14, 3) := by decide +kernel
theorem dX8_best_43 : decode cX8_best 43 = .ok (.aload_n 0, 1) := by decide +kernel
theorem dX8_best_44 : decode cX8_best 44 = .ok (.iload_n 1, 1) := by decide +kernel
theorem dX8_best_45 : decode cX8_best 45 = .ok (.iload_n 2, 1) := by decide +kernel
theorem dX8_best_46 : decode cX8_best 46 = .ok (.iload 4, 2) := by decide +kernel
theorem dX8_best_48 : decode cX8_best 48 = .ok (.invokevirtual 230, 3) := by decide +kernel
theorem dX8_best_51 : decode cX8_best 51 = .ok (.goto 5, 3) := by decide +kernel
theorem dX8_best_54 : decode cX8_best 54 = .ok (.iload 4, 2) := by decide +kernel
theorem dX8_best_56 : decode cX8_best 56 = .ok (.ireturn, 1) := by decide +kernel
set_option maxRecDepth 20000 in
theorem ggX8_loses_X8_grinds : GoodIn wsX8_loses wsX8_grinds := goodIn_r _ [6, 7, 8, 9, 5, 10, 11, 12, 13, 14, 15, 16, 17, 18, 19, 20, 21, 22, 23, 24, 25, 26, 27, 28, 29, 30, 31, 32, 33, 34, 35, 36, 37, 38, 39, 40, 41, 42, 43, 44, 45, 46, 47, 48, 49, 50, 51, 52, 53, 54, 55, 56, 57, 58, 59, 60] (by decide +kernel) (by decide +kernel)
set_option maxRecDepth 20000 in
theorem gX8_loses_X8_grinds : GoodIn wsX8_loses (wsV RX8 216 RX8 yX8_grinds wsX8_grinds) := goodIn_app (goodIn_of _ (by decide +kernel)) ggX8_loses_X8_grinds
theorem dX8_loses_0 : decode cX8_loses 0 = .ok (.aload_n 0, 1) := by decide +kernel
theorem dX8_loses_1 : decode cX8_loses 1 = .ok (.iload_n 1, 1) := by decide +kernel
theorem dX8_loses_2 : decode cX8_loses 2 = .ok (.iload_n 2, 1) := by decide +kernel
theorem dX8_loses_3 : decode cX8_loses 3 = .ok (.iload_n 3, 1) := by decide +kernel
theorem dX8_loses_4 : decode cX8_loses 4 = .ok (.iconst 0, 1) := by decide +kernel
theorem dX8_loses_5 : decode cX8_loses 5 = .ok (.ldc 215, 2) := by decide +kernel
theorem dX8_loses_7 : decode cX8_loses 7 = .ok (.invokevirtual 216, 3) := by decide +kernel
theorem dX8_loses_10 : decode cX8_loses 10 = .ok (.aload_n 0, 1) := by decide +kernel
theorem dX8_loses_11 : decode cX8_loses 11 = .ok (.iload_n 1, 1) := by decide +kernel
theorem dX8_loses_12 : decode cX8_loses 12 = .ok (.iload_n 2, 1) := by decide +kernel
theorem dX8_loses_13 : decode cX8_loses 13 = .ok (.iload_n 3, 1) := by decide +kernel
theorem dX8_loses_14 : decode cX8_loses 14 = .ok (.iload 4, 2) := by decide +kernel
theorem dX8_loses_16 : decode cX8_loses 16 = .ok (.ldc 215, 2) := by decide +kernel
theorem dX8_loses_18 : decode cX8_loses 18 = .ok (.invokevirtual 216, 3) := by decide +kernel
theorem dX8_loses_21 : decode cX8_loses 21 = .ok (.isub, 1) := by decide +kernel
theorem dX8_loses_22 : decode cX8_loses 22 = .ok (.istore 5, 2) := by decide +kernel
theorem dX8_loses_24 : decode cX8_loses 24 = .ok (.iload 5, 2) := by decide +kernel
theorem dX8_loses_26 : decode cX8_loses 26 = .ok (.ifCond .ge 7, 3) := by decide +kernel
theorem dX8_loses_29 : decode cX8_loses 29 = .ok (.iconst 0, 1) := by decide +kernel
theorem dX8_loses_30 : decode cX8_loses 30 = .ok (.goto 5, 3) := by decide +kernel
theorem dX8_loses_33 : decode cX8_loses 33 = .ok (.iload 5, 2) := by decide +kernel
theorem dX8_loses_35 : decode cX8_loses 35 = .ok (.ireturn, 1) := by decide +kernel
set_option maxRecDepth 20000 in
theorem ggX8_part_X8_isWind : GoodIn wsX8_part wsX8_isWind := goodIn_r _ [7, 8, 9, 10, 6, 11, 12, 13, 14, 15] (by decide +kernel) (by decide +kernel)
set_option maxRecDepth 20000 in
theorem gX8_part_X8_isWind : GoodIn wsX8_part (va_wsS RX8 222 yX8_isWind wsX8_isWind) := goodIn_app (goodIn_of _ (by decide +kernel)) ggX8_part_X8_isWind
set_option maxRecDepth 20000 in
theorem ggX8_part_X8_isMill : GoodIn wsX8_part wsX8_isMill := goodIn_r _ [19, 2, 13, 14, 6, 15, 68, 69, 70, 71, 72, 73, 74, 75, 76, 77, 78, 79, 80, 81, 82, 83, 84, 85, 86, 87, 88] (by decide +kernel) (by decide +kernel)
set_option maxRecDepth 20000 in
theorem gX8_part_X8_isMill : GoodIn wsX8_part (wsV RX8 174 RX8 yX8_isMill wsX8_isMill) := goodIn_app (goodIn_of _ (by decide +kernel)) ggX8_part_X8_isMill
set_option maxRecDepth 20000 in
theorem ggX8_part_X8_bestSet : GoodIn wsX8_part wsX8_bestSet := goodIn_r _ [23, 2, 24, 25, 26, 6, 27, 3, 28, 29, 30, 31, 32, 33, 34, 35, 36, 37, 38, 39, 40, 41, 42, 43, 44, 45, 46, 47, 48, 49, 50, 51, 52, 53, 54, 55, 56, 13, 14, 15, 57, 58, 59, 60, 61, 62, 63, 68, 69, 70, 71, 72, 73, 74, 75, 76, 77, 78, 79, 80, 81, 82, 83, 84, 85, 86, 87, 88] (by decide +kernel) (by decide +kernel)
set_option maxRecDepth 20000 in
theorem gX8_part_X8_bestSet : GoodIn wsX8_part (wsV RX8 237 RX8 yX8_bestSet wsX8_bestSet) := goodIn_app (goodIn_of _ (by decide +kernel)) ggX8_part_X8_bestSet
set_option maxRecDepth 20000 in
theorem ggX8_part_X8_madeBy : GoodIn wsX8_part wsX8_madeBy := goodIn_r _ [27, 2, 3, 28, 29, 30, 6, 31, 32, 33, 34, 35, 36, 37, 38, 39, 40, 41, 42, 43, 44, 45, 46, 47, 48, 49, 50, 51, 52, 53, 54, 55, 56, 13, 14, 15, 57, 58, 59, 60, 68, 69, 70, 71, 72, 73, 74, 75, 76, 77, 78, 79, 80, 81, 82, 83, 84, 85, 86, 87, 88] (by decide +kernel) (by decide +kernel)
set_option maxRecDepth 20000 in
theorem gX8_part_X8_madeBy : GoodIn wsX8_part (wsV RX8 230 RX8 yX8_madeBy wsX8_madeBy) := goodIn_app (goodIn_of _ (by decide +kernel)) ggX8_part_X8_madeBy
set_option maxRecDepth 20000 in
theorem ggX8_part_X8_loses : GoodIn wsX8_part wsX8_loses := goodIn_r _ [67, 3, 28, 29, 30, 6, 31, 32, 33, 34, 35, 2, 36, 37, 38, 39, 40, 41, 42, 43, 44, 45, 46, 47, 48, 49, 50, 51, 52, 53, 54, 55, 56, 13, 14, 15, 57, 58, 59, 60, 68, 69, 70, 71, 72, 73, 74, 75, 76, 77, 78, 79, 80, 81, 82, 83, 84, 85, 86, 87, 88] (by decide +kernel) (by decide +kernel)
set_option maxRecDepth 20000 in
theorem gX8_part_X8_loses : GoodIn wsX8_part (wsV RX8 240 RX8 yX8_loses wsX8_loses) := goodIn_app (goodIn_of _ (by decide +kernel)) ggX8_part_X8_loses
theorem dX8_part_0 : decode cX8_part 0 = .ok (.iload_n 1, 1) := by decide +kernel
theorem dX8_part_1 : decode cX8_part 1 = .ok (.iload_n 2, 1) := by decide +kernel
theorem dX8_part_2 : decode cX8_part 2 = .ok (.invokestatic 222, 3) := by decide +kernel
theorem dX8_part_5 : decode cX8_part 5 = .ok (.ifCond .eq 11, 3) := by decide +kernel
theorem dX8_part_8 : decode cX8_part 8 = .ok (.aload_n 0, 1) := by decide +kernel
theorem dX8_part_9 : decode cX8_part 9 = .ok (.iload_n 3, 1) := by decide +kernel
theorem dX8_part_10 : decode cX8_part 10 = .ok (.invokevirtual 174, 3) := by decide +kernel
theorem dX8_part_13 : decode cX8_part 13 = .ok (.ifCond .ne 6, 3) := by decide +kernel
theorem dX8_part_16 : decode cX8_part 16 = .ok (.ldc 63, 2) := by decide +kernel
theorem dX8_part_18 : decode cX8_part 18 = .ok (.ireturn, 1) := by decide +kernel
theorem dX8_part_19 : decode cX8_part 19 = .ok (.aload_n 0, 1) := by decide +kernel
theorem dX8_part_20 : decode cX8_part 20 = .ok (.iload_n 1, 1) := by decide +kernel
theorem dX8_part_21 : decode cX8_part 21 = .ok (.iload_n 2, 1) := by decide +kernel
theorem dX8_part_22 : decode cX8_part 22 = .ok (.invokevirtual 237, 3) := by decide +kernel
theorem dX8_part_25 : decode cX8_part 25 = .ok (.istore 4, 2) := by decide +kernel
theorem dX8_part_27 : decode cX8_part 27 = .ok (.aload_n 0, 1) := by decide +kernel
theorem dX8_part_28 : decode cX8_part 28 = .ok (.iload_n 1, 1) := by decide +kernel
theorem dX8_part_29 : decode cX8_part 29 = .ok (.iload_n 2, 1) := by decide +kernel
theorem dX8_part_30 : decode cX8_part 30 = .ok (.iload 4, 2) := by decide +kernel
theorem dX8_part_32 : decode cX8_part 32 = .ok (.invokevirtual 230, 3) := by decide +kernel
theorem dX8_part_35 : decode cX8_part 35 = .ok (.aload_n 0, 1) := by decide +kernel
theorem dX8_part_36 : decode cX8_part 36 = .ok (.iload_n 1, 1) := by decide +kernel
theorem dX8_part_37 : decode cX8_part 37 = .ok (.iload_n 2, 1) := by decide +kernel
theorem dX8_part_38 : decode cX8_part 38 = .ok (.iconst 0, 1) := by decide +kernel
theorem dX8_part_39 : decode cX8_part 39 = .ok (.invokevirtual 230, 3) := by decide +kernel
theorem dX8_part_42 : decode cX8_part 42 = .ok (.isub, 1) := by decide +kernel
theorem dX8_part_43 : decode cX8_part 43 = .ok (.istore 5, 2) := by decide +kernel
theorem dX8_part_45 : decode cX8_part 45 = .ok (.iconst 0, 1) := by decide +kernel
theorem dX8_part_46 : decode cX8_part 46 = .ok (.istore 6, 2) := by decide +kernel
theorem dX8_part_48 : decode cX8_part 48 = .ok (.iload 6, 2) := by decide +kernel
theorem dX8_part_50 : decode cX8_part 50 = .ok (.aload_n 0, 1) := by decide +kernel
theorem dX8_part_51 : decode cX8_part 51 = .ok (.getfield 22, 3) := by decide +kernel
theorem dX8_part_54 : decode cX8_part 54 = .ok (.iconst 0, 1) := by decide +kernel
theorem dX8_part_55 : decode cX8_part 55 = .ok (.iaload, 1) := by decide +kernel
theorem dX8_part_56 : decode cX8_part 56 = .ok (.if_icmp .ge 24, 3) := by decide +kernel
theorem dX8_part_59 : decode cX8_part 59 = .ok (.iload 5, 2) := by decide +kernel
theorem dX8_part_61 : decode cX8_part 61 = .ok (.aload_n 0, 1) := by decide +kernel
theorem dX8_part_62 : decode cX8_part 62 = .ok (.iload 6, 2) := by decide +kernel
theorem dX8_part_64 : decode cX8_part 64 = .ok (.iload_n 1, 1) := by decide +kernel
theorem dX8_part_65 : decode cX8_part 65 = .ok (.iload_n 2, 1) := by decide +kernel
theorem dX8_part_66 : decode cX8_part 66 = .ok (.iload 4, 2) := by decide +kernel
theorem dX8_part_68 : decode cX8_part 68 = .ok (.invokevirtual 240, 3) := by decide +kernel
theorem dX8_part_71 : decode cX8_part 71 = .ok (.isub, 1) := by decide +kernel
theorem dX8_part_72 : decode cX8_part 72 = .ok (.istore 5, 2) := by decide +kernel
theorem dX8_part_74 : decode cX8_part 74 = .ok (.iinc 6 1, 3) := by decide +kernel
theorem dX8_part_77 : decode cX8_part 77 = .ok (.goto (-29), 3) := by decide +kernel
theorem dX8_part_80 : decode cX8_part 80 = .ok (.iload 5, 2) := by decide +kernel
theorem dX8_part_82 : decode cX8_part 82 = .ok (.ifCond .ge 8, 3) := by decide +kernel
theorem dX8_part_85 : decode cX8_part 85 = .ok (.ldc 215, 2) := by decide +kernel
theorem dX8_part_87 : decode cX8_part 87 = .ok (.goto 23, 3) := by decide +kernel
theorem dX8_part_90 : decode cX8_part 90 = .ok (.aload_n 0, 1) := by decide +kernel
theorem dX8_part_91 : decode cX8_part 91 = .ok (.iload_n 3, 1) := by decide +kernel
theorem dX8_part_92 : decode cX8_part 92 = .ok (.iload_n 1, 1) := by decide +kernel
theorem dX8_part_93 : decode cX8_part 93 = .ok (.iload_n 2, 1) := by decide +kernel
theorem dX8_part_94 : decode cX8_part 94 = .ok (.iload 4, 2) := by decide +kernel
theorem dX8_part_96 : decode cX8_part 96 = .ok (.invokevirtual 240, 3) := by decide +kernel
theorem dX8_part_99 : decode cX8_part 99 = .ok (.iload_n 3, 1) := by decide +kernel
theorem dX8_part_100 : decode cX8_part 100 = .ok (.ifCond .ne 8, 3) := by decide +kernel
theorem dX8_part_103 : decode cX8_part 103 = .ok (.iload 5, 2) := by decide +kernel
theorem dX8_part_105 : decode cX8_part 105 = .ok (.goto 4, 3) := by decide +kernel
theorem dX8_part_108 : decode cX8_part 108 = .ok (.iconst 0, 1) := by decide +kernel
theorem dX8_part_109 : decode cX8_part 109 = .ok (.iadd, 1) := by decide +kernel
theorem dX8_part_110 : decode cX8_part 110 = .ok (.ireturn, 1) := by decide +kernel
set_option maxRecDepth 20000 in
theorem ggX8_still_X8_isWind : GoodIn wsX8_still wsX8_isWind := goodIn_r _ [8, 9, 10, 11, 7, 12, 13, 14, 15, 16] (by decide +kernel) (by decide +kernel)
set_option maxRecDepth 20000 in
theorem gX8_still_X8_isWind : GoodIn wsX8_still (va_wsS RX8 222 yX8_isWind wsX8_isWind) := goodIn_app (goodIn_of _ (by decide +kernel)) ggX8_still_X8_isWind
set_option maxRecDepth 20000 in
theorem ggX8_still_X8_isMill : GoodIn wsX8_still wsX8_isMill := goodIn_r _ [20, 4, 14, 15, 7, 16, 54, 55, 56, 57, 58, 59, 60, 61, 62, 63, 64, 65, 66, 67, 68, 69, 70, 71, 72, 73, 74] (by decide +kernel) (by decide +kernel)
set_option maxRecDepth 20000 in
theorem gX8_still_X8_isMill : GoodIn wsX8_still (wsV RX8 174 RX8 yX8_isMill wsX8_isMill) := goodIn_app (goodIn_of _ (by decide +kernel)) ggX8_still_X8_isMill
set_option maxRecDepth 20000 in
theorem ggX8_still_X8_in : GoodIn wsX8_still wsX8_in := goodIn_r _ [16] (by decide +kernel) (by decide +kernel)
set_option maxRecDepth 20000 in
theorem gX8_still_X8_in : GoodIn wsX8_still (va_wsS RX8 53 yX8_in wsX8_in) := goodIn_app (goodIn_of _ (by decide +kernel)) ggX8_still_X8_in
set_option maxRecDepth 20000 in
theorem ggX8_still_X8_grinds : GoodIn wsX8_still wsX8_grinds := goodIn_r _ [24, 25, 26, 27, 7, 28, 4, 29, 30, 31, 32, 33, 34, 35, 36, 37, 38, 39, 40, 41, 42, 43, 44, 45, 46, 47, 48, 49, 14, 15, 16, 50, 51, 52, 53, 54, 55, 56, 57, 58, 59, 60, 61, 62, 63, 64, 65, 66, 67, 68, 69, 70, 71, 72, 73, 74] (by decide +kernel) (by decide +kernel)
set_option maxRecDepth 20000 in
theorem gX8_still_X8_grinds : GoodIn wsX8_still (wsV RX8 216 RX8 yX8_grinds wsX8_grinds) := goodIn_app (goodIn_of _ (by decide +kernel)) ggX8_still_X8_grinds
theorem dX8_still_0 : decode cX8_still 0 = .ok (.iload_n 1, 1) := by decide +kernel
theorem dX8_still_1 : decode cX8_still 1 = .ok (.iload_n 2, 1) := by decide +kernel
theorem dX8_still_2 : decode cX8_still 2 = .ok (.invokestatic 222, 3) := by decide +kernel
theorem dX8_still_5 : decode cX8_still 5 = .ok (.ifCond .eq 39, 3) := by decide +kernel
theorem dX8_still_8 : decode cX8_still 8 = .ok (.aload_n 0, 1) := by decide +kernel
theorem dX8_still_9 : decode cX8_still 9 = .ok (.iload_n 3, 1) := by decide +kernel
theorem dX8_still_10 : decode cX8_still 10 = .ok (.invokevirtual 174, 3) := by decide +kernel
theorem dX8_still_13 : decode cX8_still 13 = .ok (.ifCond .eq 31, 3) := by decide +kernel
theorem dX8_still_16 : decode cX8_still 16 = .ok (.aload_n 0, 1) := by decide +kernel
theorem dX8_still_17 : decode cX8_still 17 = .ok (.iload 4, 2) := by decide +kernel
theorem dX8_still_19 : decode cX8_still 19 = .ok (.invokevirtual 174, 3) := by decide +kernel
theorem dX8_still_22 : decode cX8_still 22 = .ok (.ifCond .eq 22, 3) := by decide +kernel
theorem dX8_still_25 : decode cX8_still 25 = .ok (.iload_n 3, 1) := by decide +kernel
theorem dX8_still_26 : decode cX8_still 26 = .ok (.iload 4, 2) := by decide +kernel
theorem dX8_still_28 : decode cX8_still 28 = .ok (.if_icmp .eq 16, 3) := by decide +kernel
theorem dX8_still_31 : decode cX8_still 31 = .ok (.iload 5, 2) := by decide +kernel
theorem dX8_still_33 : decode cX8_still 33 = .ok (.i2l, 1) := by decide +kernel
theorem dX8_still_34 : decode cX8_still 34 = .ok (.lconst 0, 1) := by decide +kernel
theorem dX8_still_35 : decode cX8_still 35 = .ok (.ldc2_w 61, 3) := by decide +kernel
theorem dX8_still_38 : decode cX8_still 38 = .ok (.invokestatic 53, 3) := by decide +kernel
theorem dX8_still_41 : decode cX8_still 41 = .ok (.ifCond .ne 6, 3) := by decide +kernel
theorem dX8_still_44 : decode cX8_still 44 = .ok (.ldc 63, 2) := by decide +kernel
theorem dX8_still_46 : decode cX8_still 46 = .ok (.ireturn, 1) := by decide +kernel
theorem dX8_still_47 : decode cX8_still 47 = .ok (.aload_n 0, 1) := by decide +kernel
theorem dX8_still_48 : decode cX8_still 48 = .ok (.iload 4, 2) := by decide +kernel
theorem dX8_still_50 : decode cX8_still 50 = .ok (.iload_n 1, 1) := by decide +kernel
theorem dX8_still_51 : decode cX8_still 51 = .ok (.iload_n 2, 1) := by decide +kernel
theorem dX8_still_52 : decode cX8_still 52 = .ok (.iconst 1, 1) := by decide +kernel
theorem dX8_still_53 : decode cX8_still 53 = .ok (.iload_n 3, 1) := by decide +kernel
theorem dX8_still_54 : decode cX8_still 54 = .ok (.ishl, 1) := by decide +kernel
theorem dX8_still_55 : decode cX8_still 55 = .ok (.ldc 215, 2) := by decide +kernel
theorem dX8_still_57 : decode cX8_still 57 = .ok (.invokevirtual 216, 3) := by decide +kernel
theorem dX8_still_60 : decode cX8_still 60 = .ok (.aload_n 0, 1) := by decide +kernel
theorem dX8_still_61 : decode cX8_still 61 = .ok (.iload 4, 2) := by decide +kernel
theorem dX8_still_63 : decode cX8_still 63 = .ok (.iload_n 1, 1) := by decide +kernel
theorem dX8_still_64 : decode cX8_still 64 = .ok (.iload_n 2, 1) := by decide +kernel
theorem dX8_still_65 : decode cX8_still 65 = .ok (.iconst 0, 1) := by decide +kernel
theorem dX8_still_66 : decode cX8_still 66 = .ok (.ldc 215, 2) := by decide +kernel
theorem dX8_still_68 : decode cX8_still 68 = .ok (.invokevirtual 216, 3) := by decide +kernel
theorem dX8_still_71 : decode cX8_still 71 = .ok (.isub, 1) := by decide +kernel
theorem dX8_still_72 : decode cX8_still 72 = .ok (.istore 6, 2) := by decide +kernel
theorem dX8_still_74 : decode cX8_still 74 = .ok (.aload_n 0, 1) := by decide +kernel
theorem dX8_still_75 : decode cX8_still 75 = .ok (.iload_n 3, 1) := by decide +kernel
theorem dX8_still_76 : decode cX8_still 76 = .ok (.iload_n 1, 1) := by decide +kernel
theorem dX8_still_77 : decode cX8_still 77 = .ok (.iload_n 2, 1) := by decide +kernel
theorem dX8_still_78 : decode cX8_still 78 = .ok (.iconst 0, 1) := by decide +kernel
theorem dX8_still_79 : decode cX8_still 79 = .ok (.ldc 215, 2) := by decide +kernel
theorem dX8_still_81 : decode cX8_still 81 = .ok (.invokevirtual 216, 3) := by decide +kernel
theorem dX8_still_84 : decode cX8_still 84 = .ok (.istore 7, 2) := by decide +kernel
theorem dX8_still_86 : decode cX8_still 86 = .ok (.iload 5, 2) := by decide +kernel
theorem dX8_still_88 : decode cX8_still 88 = .ok (.ifCond .ne 8, 3) := by decide +kernel
theorem dX8_still_91 : decode cX8_still 91 = .ok (.iload 6, 2) := by decide +kernel
theorem dX8_still_93 : decode cX8_still 93 = .ok (.goto 33, 3) := by decide +kernel
theorem dX8_still_96 : decode cX8_still 96 = .ok (.iload 5, 2) := by decide +kernel
theorem dX8_still_98 : decode cX8_still 98 = .ok (.iconst 1, 1) := by decide +kernel
theorem dX8_still_99 : decode cX8_still 99 = .ok (.if_icmp .ne 8, 3) := by decide +kernel
theorem dX8_still_102 : decode cX8_still 102 = .ok (.iload 7, 2) := by decide +kernel
theorem dX8_still_104 : decode cX8_still 104 = .ok (.goto 22, 3) := by decide +kernel
theorem dX8_still_107 : decode cX8_still 107 = .ok (.iload 6, 2) := by decide +kernel
theorem dX8_still_109 : decode cX8_still 109 = .ok (.iload 7, 2) := by decide +kernel
theorem dX8_still_111 : decode cX8_still 111 = .ok (.isub, 1) := by decide +kernel
theorem dX8_still_112 : decode cX8_still 112 = .ok (.aload_n 0, 1) := by decide +kernel
theorem dX8_still_113 : decode cX8_still 113 = .ok (.getfield 22, 3) := by decide +kernel
theorem dX8_still_116 : decode cX8_still 116 = .ok (.iconst 4, 1) := by decide +kernel
theorem dX8_still_117 : decode cX8_still 117 = .ok (.iaload, 1) := by decide +kernel
theorem dX8_still_118 : decode cX8_still 118 = .ok (.if_icmp .lt 7, 3) := by decide +kernel
theorem dX8_still_121 : decode cX8_still 121 = .ok (.iconst 1, 1) := by decide +kernel
theorem dX8_still_122 : decode cX8_still 122 = .ok (.goto 4, 3) := by decide +kernel
theorem dX8_still_125 : decode cX8_still 125 = .ok (.iconst 0, 1) := by decide +kernel
theorem dX8_still_126 : decode cX8_still 126 = .ok (.ireturn, 1) := by decide +kernel
set_option maxRecDepth 20000 in
theorem ggX8_othersBy_X8_grinds : GoodIn wsX8_othersBy wsX8_grinds := goodIn_r _ [6, 7, 8, 9, 5, 10, 1, 11, 12, 13, 14, 15, 16, 17, 18, 19, 20, 21, 22, 23, 24, 25, 26, 27, 28, 29, 30, 31, 32, 33, 34, 35, 36, 37, 38, 39, 40, 41, 42, 43, 44, 45, 46, 47, 48, 49, 50, 51, 52, 53, 54, 55, 56, 57, 58, 59] (by decide +kernel) (by decide +kernel)
set_option maxRecDepth 20000 in
theorem gX8_othersBy_X8_grinds : GoodIn wsX8_othersBy (wsV RX8 216 RX8 yX8_grinds wsX8_grinds) := goodIn_app (goodIn_of _ (by decide +kernel)) ggX8_othersBy_X8_grinds
theorem dX8_othersBy_0 : decode cX8_othersBy 0 = .ok (.iconst 0, 1) := by decide +kernel
theorem dX8_othersBy_1 : decode cX8_othersBy 1 = .ok (.istore 6, 2) := by decide +kernel
theorem dX8_othersBy_3 : decode cX8_othersBy 3 = .ok (.iconst 0, 1) := by decide +kernel
theorem dX8_othersBy_4 : decode cX8_othersBy 4 = .ok (.istore 7, 2) := by decide +kernel
theorem dX8_othersBy_6 : decode cX8_othersBy 6 = .ok (.iload 7, 2) := by decide +kernel
theorem dX8_othersBy_8 : decode cX8_othersBy 8 = .ok (.aload_n 0, 1) := by decide +kernel
theorem dX8_othersBy_9 : decode cX8_othersBy 9 = .ok (.getfield 22, 3) := by decide +kernel
theorem dX8_othersBy_12 : decode cX8_othersBy 12 = .ok (.iconst 0, 1) := by decide +kernel
theorem dX8_othersBy_13 : decode cX8_othersBy 13 = .ok (.iaload, 1) := by decide +kernel
theorem dX8_othersBy_14 : decode cX8_othersBy 14 = .ok (.if_icmp .ge 36, 3) := by decide +kernel
theorem dX8_othersBy_17 : decode cX8_othersBy 17 = .ok (.iload 6, 2) := by decide +kernel
theorem dX8_othersBy_19 : decode cX8_othersBy 19 = .ok (.iload 7, 2) := by decide +kernel
theorem dX8_othersBy_21 : decode cX8_othersBy 21 = .ok (.iload_n 1, 1) := by decide +kernel
theorem dX8_othersBy_22 : decode cX8_othersBy 22 = .ok (.if_icmp .ne 7, 3) := by decide +kernel
theorem dX8_othersBy_25 : decode cX8_othersBy 25 = .ok (.iconst 0, 1) := by decide +kernel
theorem dX8_othersBy_26 : decode cX8_othersBy 26 = .ok (.goto 15, 3) := by decide +kernel
theorem dX8_othersBy_29 : decode cX8_othersBy 29 = .ok (.aload_n 0, 1) := by decide +kernel
theorem dX8_othersBy_30 : decode cX8_othersBy 30 = .ok (.iload 7, 2) := by decide +kernel
theorem dX8_othersBy_32 : decode cX8_othersBy 32 = .ok (.iload_n 2, 1) := by decide +kernel
theorem dX8_othersBy_33 : decode cX8_othersBy 33 = .ok (.iload_n 3, 1) := by decide +kernel
theorem dX8_othersBy_34 : decode cX8_othersBy 34 = .ok (.iload 4, 2) := by decide +kernel
theorem dX8_othersBy_36 : decode cX8_othersBy 36 = .ok (.iload 5, 2) := by decide +kernel
theorem dX8_othersBy_38 : decode cX8_othersBy 38 = .ok (.invokevirtual 216, 3) := by decide +kernel
theorem dX8_othersBy_41 : decode cX8_othersBy 41 = .ok (.iadd, 1) := by decide +kernel
theorem dX8_othersBy_42 : decode cX8_othersBy 42 = .ok (.istore 6, 2) := by decide +kernel
theorem dX8_othersBy_44 : decode cX8_othersBy 44 = .ok (.iinc 7 1, 3) := by decide +kernel
theorem dX8_othersBy_47 : decode cX8_othersBy 47 = .ok (.goto (-41), 3) := by decide +kernel
theorem dX8_othersBy_50 : decode cX8_othersBy 50 = .ok (.iload 6, 2) := by decide +kernel
theorem dX8_othersBy_52 : decode cX8_othersBy 52 = .ok (.ireturn, 1) := by decide +kernel
set_option maxRecDepth 20000 in
theorem ggX8_higher_X8_isWind : GoodIn wsX8_higher wsX8_isWind := goodIn_r _ [7, 8, 9, 10, 6, 11, 12, 13, 14, 15] (by decide +kernel) (by decide +kernel)
set_option maxRecDepth 20000 in
theorem gX8_higher_X8_isWind : GoodIn wsX8_higher (va_wsS RX8 222 yX8_isWind wsX8_isWind) := goodIn_app (goodIn_of _ (by decide +kernel)) ggX8_higher_X8_isWind
set_option maxRecDepth 20000 in
theorem ggX8_higher_X8_isMill : GoodIn wsX8_higher wsX8_isMill := goodIn_r _ [19, 20, 13, 14, 6, 15, 58, 59, 60, 61, 62, 63, 64, 65, 66, 67, 68, 69, 70, 71, 72, 73, 74, 75, 76, 77, 78] (by decide +kernel) (by decide +kernel)
set_option maxRecDepth 20000 in
theorem gX8_higher_X8_isMill : GoodIn wsX8_higher (wsV RX8 174 RX8 yX8_isMill wsX8_isMill) := goodIn_app (goodIn_of _ (by decide +kernel)) ggX8_higher_X8_isMill
set_option maxRecDepth 20000 in
theorem ggX8_higher_X8_in : GoodIn wsX8_higher wsX8_in := goodIn_r _ [15] (by decide +kernel) (by decide +kernel)
set_option maxRecDepth 20000 in
theorem gX8_higher_X8_in : GoodIn wsX8_higher (va_wsS RX8 53 yX8_in wsX8_in) := goodIn_app (goodIn_of _ (by decide +kernel)) ggX8_higher_X8_in
set_option maxRecDepth 20000 in
theorem ggX8_higher_X8_of : GoodIn wsX8_higher wsX8_of := goodIn_r _ [24, 20, 58, 59, 60, 61, 62, 63, 64, 65, 66, 67, 68, 69, 70, 71, 72, 73, 74, 75, 76, 77, 78] (by decide +kernel) (by decide +kernel)
set_option maxRecDepth 20000 in
theorem gX8_higher_X8_of : GoodIn wsX8_higher (wsV RX8 177 RX8 yX8_of wsX8_of) := goodIn_app (goodIn_of _ (by decide +kernel)) ggX8_higher_X8_of
set_option maxRecDepth 20000 in
theorem ggX8_higher_X8_othersBy : GoodIn wsX8_higher wsX8_othersBy := goodIn_r _ [28, 20, 29, 30, 31, 6, 32, 33, 34, 35, 36, 37, 38, 39, 40, 21, 22, 23, 24, 41, 42, 43, 44, 45, 46, 47, 48, 49, 50, 51, 52, 53, 13, 14, 15, 54, 55, 56, 57, 58, 59, 60, 61, 62, 63, 64, 65, 66, 67, 68, 69, 70, 71, 72, 73, 74, 75, 76, 77, 78] (by decide +kernel) (by decide +kernel)
set_option maxRecDepth 20000 in
theorem gX8_higher_X8_othersBy : GoodIn wsX8_higher (wsV RX8 244 RX8 yX8_othersBy wsX8_othersBy) := goodIn_app (goodIn_of _ (by decide +kernel)) ggX8_higher_X8_othersBy
set_option maxRecDepth 20000 in
theorem ggX8_higher_X8_grinds : GoodIn wsX8_higher wsX8_grinds := goodIn_r _ [32, 33, 34, 35, 6, 36, 20, 37, 38, 39, 40, 21, 22, 23, 24, 41, 42, 43, 44, 45, 46, 47, 48, 49, 50, 51, 52, 53, 13, 14, 15, 54, 55, 56, 57, 58, 59, 60, 61, 62, 63, 64, 65, 66, 67, 68, 69, 70, 71, 72, 73, 74, 75, 76, 77, 78] (by decide +kernel) (by decide +kernel)
set_option maxRecDepth 20000 in
theorem gX8_higher_X8_grinds : GoodIn wsX8_higher (wsV RX8 216 RX8 yX8_grinds wsX8_grinds) := goodIn_app (goodIn_of _ (by decide +kernel)) ggX8_higher_X8_grinds
theorem dX8_higher_0 : decode cX8_higher 0 = .ok (.iload_n 1, 1) := by decide +kernel
theorem dX8_higher_1 : decode cX8_higher 1 = .ok (.iload_n 2, 1) := by decide +kernel
theorem dX8_higher_2 : decode cX8_higher 2 = .ok (.invokestatic 222, 3) := by decide +kernel
theorem dX8_higher_5 : decode cX8_higher 5 = .ok (.ifCond .eq 24, 3) := by decide +kernel
theorem dX8_higher_8 : decode cX8_higher 8 = .ok (.aload_n 0, 1) := by decide +kernel
theorem dX8_higher_9 : decode cX8_higher 9 = .ok (.iload_n 3, 1) := by decide +kernel
theorem dX8_higher_10 : decode cX8_higher 10 = .ok (.invokevirtual 174, 3) := by decide +kernel
theorem dX8_higher_13 : decode cX8_higher 13 = .ok (.ifCond .eq 16, 3) := by decide +kernel
theorem dX8_higher_16 : decode cX8_higher 16 = .ok (.iload 4, 2) := by decide +kernel
theorem dX8_higher_18 : decode cX8_higher 18 = .ok (.i2l, 1) := by decide +kernel
theorem dX8_higher_19 : decode cX8_higher 19 = .ok (.lconst 0, 1) := by decide +kernel
theorem dX8_higher_20 : decode cX8_higher 20 = .ok (.ldc2_w 61, 3) := by decide +kernel
theorem dX8_higher_23 : decode cX8_higher 23 = .ok (.invokestatic 53, 3) := by decide +kernel
theorem dX8_higher_26 : decode cX8_higher 26 = .ok (.ifCond .ne 6, 3) := by decide +kernel
theorem dX8_higher_29 : decode cX8_higher 29 = .ok (.ldc 63, 2) := by decide +kernel
theorem dX8_higher_31 : decode cX8_higher 31 = .ok (.ireturn, 1) := by decide +kernel
theorem dX8_higher_32 : decode cX8_higher 32 = .ok (.aload_n 0, 1) := by decide +kernel
theorem dX8_higher_33 : decode cX8_higher 33 = .ok (.iload_n 3, 1) := by decide +kernel
theorem dX8_higher_34 : decode cX8_higher 34 = .ok (.iconst 0, 1) := by decide +kernel
theorem dX8_higher_35 : decode cX8_higher 35 = .ok (.invokevirtual 177, 3) := by decide +kernel
theorem dX8_higher_38 : decode cX8_higher 38 = .ok (.bipush 9, 2) := by decide +kernel
theorem dX8_higher_40 : decode cX8_higher 40 = .ok (.if_icmp .ge 7, 3) := by decide +kernel
theorem dX8_higher_43 : decode cX8_higher 43 = .ok (.iload_n 3, 1) := by decide +kernel
theorem dX8_higher_44 : decode cX8_higher 44 = .ok (.goto 5, 3) := by decide +kernel
theorem dX8_higher_47 : decode cX8_higher 47 = .ok (.ldc 215, 2) := by decide +kernel
theorem dX8_higher_49 : decode cX8_higher 49 = .ok (.istore 5, 2) := by decide +kernel
theorem dX8_higher_51 : decode cX8_higher 51 = .ok (.aload_n 0, 1) := by decide +kernel
theorem dX8_higher_52 : decode cX8_higher 52 = .ok (.iload_n 3, 1) := by decide +kernel
theorem dX8_higher_53 : decode cX8_higher 53 = .ok (.iload_n 1, 1) := by decide +kernel
theorem dX8_higher_54 : decode cX8_higher 54 = .ok (.iload_n 2, 1) := by decide +kernel
theorem dX8_higher_55 : decode cX8_higher 55 = .ok (.iconst 0, 1) := by decide +kernel
theorem dX8_higher_56 : decode cX8_higher 56 = .ok (.ldc 215, 2) := by decide +kernel
theorem dX8_higher_58 : decode cX8_higher 58 = .ok (.invokevirtual 244, 3) := by decide +kernel
theorem dX8_higher_61 : decode cX8_higher 61 = .ok (.istore 6, 2) := by decide +kernel
theorem dX8_higher_63 : decode cX8_higher 63 = .ok (.iload 4, 2) := by decide +kernel
theorem dX8_higher_65 : decode cX8_higher 65 = .ok (.ifCond .ne 25, 3) := by decide +kernel
theorem dX8_higher_68 : decode cX8_higher 68 = .ok (.aload_n 0, 1) := by decide +kernel
theorem dX8_higher_69 : decode cX8_higher 69 = .ok (.iload_n 3, 1) := by decide +kernel
theorem dX8_higher_70 : decode cX8_higher 70 = .ok (.iload_n 1, 1) := by decide +kernel
theorem dX8_higher_71 : decode cX8_higher 71 = .ok (.iload_n 2, 1) := by decide +kernel
theorem dX8_higher_72 : decode cX8_higher 72 = .ok (.iconst 0, 1) := by decide +kernel
theorem dX8_higher_73 : decode cX8_higher 73 = .ok (.iload 5, 2) := by decide +kernel
theorem dX8_higher_75 : decode cX8_higher 75 = .ok (.invokevirtual 216, 3) := by decide +kernel
theorem dX8_higher_78 : decode cX8_higher 78 = .ok (.aload_n 0, 1) := by decide +kernel
theorem dX8_higher_79 : decode cX8_higher 79 = .ok (.iload_n 3, 1) := by decide +kernel
theorem dX8_higher_80 : decode cX8_higher 80 = .ok (.iload_n 1, 1) := by decide +kernel
theorem dX8_higher_81 : decode cX8_higher 81 = .ok (.iload_n 2, 1) := by decide +kernel
theorem dX8_higher_82 : decode cX8_higher 82 = .ok (.iconst 0, 1) := by decide +kernel
theorem dX8_higher_83 : decode cX8_higher 83 = .ok (.ldc 215, 2) := by decide +kernel
theorem dX8_higher_85 : decode cX8_higher 85 = .ok (.invokevirtual 216, 3) := by decide +kernel
theorem dX8_higher_88 : decode cX8_higher 88 = .ok (.isub, 1) := by decide +kernel
theorem dX8_higher_89 : decode cX8_higher 89 = .ok (.ireturn, 1) := by decide +kernel
theorem dX8_higher_90 : decode cX8_higher 90 = .ok (.iload 4, 2) := by decide +kernel
theorem dX8_higher_92 : decode cX8_higher 92 = .ok (.iconst 1, 1) := by decide +kernel
theorem dX8_higher_93 : decode cX8_higher 93 = .ok (.if_icmp .ne 19, 3) := by decide +kernel
theorem dX8_higher_96 : decode cX8_higher 96 = .ok (.iload 6, 2) := by decide +kernel
theorem dX8_higher_98 : decode cX8_higher 98 = .ok (.aload_n 0, 1) := by decide +kernel
theorem dX8_higher_99 : decode cX8_higher 99 = .ok (.iload_n 3, 1) := by decide +kernel
theorem dX8_higher_100 : decode cX8_higher 100 = .ok (.iload_n 1, 1) := by decide +kernel
theorem dX8_higher_101 : decode cX8_higher 101 = .ok (.iload_n 2, 1) := by decide +kernel
theorem dX8_higher_102 : decode cX8_higher 102 = .ok (.iconst 0, 1) := by decide +kernel
theorem dX8_higher_103 : decode cX8_higher 103 = .ok (.iload 5, 2) := by decide +kernel
theorem dX8_higher_105 : decode cX8_higher 105 = .ok (.invokevirtual 244, 3) := by decide +kernel
theorem dX8_higher_108 : decode cX8_higher 108 = .ok (.isub, 1) := by decide +kernel
theorem dX8_higher_109 : decode cX8_higher 109 = .ok (.goto 18, 3) := by decide +kernel
theorem dX8_higher_112 : decode cX8_higher 112 = .ok (.aload_n 0, 1) := by decide +kernel
theorem dX8_higher_113 : decode cX8_higher 113 = .ok (.iload_n 3, 1) := by decide +kernel
theorem dX8_higher_114 : decode cX8_higher 114 = .ok (.iload_n 1, 1) := by decide +kernel
theorem dX8_higher_115 : decode cX8_higher 115 = .ok (.iload_n 2, 1) := by decide +kernel
theorem dX8_higher_116 : decode cX8_higher 116 = .ok (.iconst 1, 1) := by decide +kernel
theorem dX8_higher_117 : decode cX8_higher 117 = .ok (.iload_n 3, 1) := by decide +kernel
theorem dX8_higher_118 : decode cX8_higher 118 = .ok (.ishl, 1) := by decide +kernel
theorem dX8_higher_119 : decode cX8_higher 119 = .ok (.ldc 215, 2) := by decide +kernel
theorem dX8_higher_121 : decode cX8_higher 121 = .ok (.invokevirtual 244, 3) := by decide +kernel
theorem dX8_higher_124 : decode cX8_higher 124 = .ok (.iload 6, 2) := by decide +kernel
theorem dX8_higher_126 : decode cX8_higher 126 = .ok (.isub, 1) := by decide +kernel
theorem dX8_higher_127 : decode cX8_higher 127 = .ok (.ireturn, 1) := by decide +kernel
set_option maxRecDepth 20000 in
theorem ggX8_owes_X8_isWind : GoodIn wsX8_owes wsX8_isWind := goodIn_r _ [7, 8, 9, 10, 6, 11, 12, 13, 14, 15] (by decide +kernel) (by decide +kernel)
set_option maxRecDepth 20000 in
theorem gX8_owes_X8_isWind : GoodIn wsX8_owes (va_wsS RX8 222 yX8_isWind wsX8_isWind) := goodIn_app (goodIn_of _ (by decide +kernel)) ggX8_owes_X8_isWind
set_option maxRecDepth 20000 in
theorem ggX8_owes_X8_isMill : GoodIn wsX8_owes wsX8_isMill := goodIn_r _ [19, 3, 13, 14, 6, 15, 53, 54, 55, 56, 57, 58, 59, 60, 61, 62, 63, 64, 65, 66, 67, 68, 69, 70, 71, 72, 73] (by decide +kernel) (by decide +kernel)
set_option maxRecDepth 20000 in
theorem gX8_owes_X8_isMill : GoodIn wsX8_owes (wsV RX8 174 RX8 yX8_isMill wsX8_isMill) := goodIn_app (goodIn_of _ (by decide +kernel)) ggX8_owes_X8_isMill
set_option maxRecDepth 20000 in
theorem ggX8_owes_X8_takes : GoodIn wsX8_owes wsX8_takes := goodIn_r _ [23, 3, 24, 25, 26, 6, 27, 28, 29, 30, 31, 32, 33, 34, 53, 54, 55, 56, 57, 58, 59, 60, 61, 62, 63, 64, 65, 66, 67, 68, 69, 70, 71, 72, 73] (by decide +kernel) (by decide +kernel)
set_option maxRecDepth 20000 in
theorem gX8_owes_X8_takes : GoodIn wsX8_owes (wsV RX8 203 RX8 yX8_takes wsX8_takes) := goodIn_app (goodIn_of _ (by decide +kernel)) ggX8_owes_X8_takes
set_option maxRecDepth 20000 in
theorem ggX8_owes_X8_of : GoodIn wsX8_owes wsX8_of := goodIn_r _ [31, 3, 53, 54, 55, 56, 57, 58, 59, 60, 61, 62, 63, 64, 65, 66, 67, 68, 69, 70, 71, 72, 73] (by decide +kernel) (by decide +kernel)
set_option maxRecDepth 20000 in
theorem gX8_owes_X8_of : GoodIn wsX8_owes (wsV RX8 177 RX8 yX8_of wsX8_of) := goodIn_app (goodIn_of _ (by decide +kernel)) ggX8_owes_X8_of
set_option maxRecDepth 20000 in
theorem ggX8_owes_X8_isBehind : GoodIn wsX8_owes wsX8_isBehind := goodIn_r _ [38, 39, 40, 28, 29, 30, 6, 31, 3, 13, 14, 15, 53, 54, 55, 56, 57, 58, 59, 60, 61, 62, 63, 64, 65, 66, 67, 68, 69, 70, 71, 72, 73] (by decide +kernel) (by decide +kernel)
set_option maxRecDepth 20000 in
theorem gX8_owes_X8_isBehind : GoodIn wsX8_owes (wsV RX8 199 RX8 yX8_isBehind wsX8_isBehind) := goodIn_app (goodIn_of _ (by decide +kernel)) ggX8_owes_X8_isBehind
set_option maxRecDepth 20000 in
theorem ggX8_owes_X8_grinds : GoodIn wsX8_owes wsX8_grinds := goodIn_r _ [44, 45, 46, 47, 6, 48, 3, 24, 25, 26, 27, 28, 29, 30, 31, 32, 33, 34, 49, 50, 51, 52, 35, 36, 37, 38, 39, 40, 13, 14, 15, 20, 21, 22, 23, 53, 54, 55, 56, 57, 58, 59, 60, 61, 62, 63, 64, 65, 66, 67, 68, 69, 70, 71, 72, 73] (by decide +kernel) (by decide +kernel)
set_option maxRecDepth 20000 in
theorem gX8_owes_X8_grinds : GoodIn wsX8_owes (wsV RX8 216 RX8 yX8_grinds wsX8_grinds) := goodIn_app (goodIn_of _ (by decide +kernel)) ggX8_owes_X8_grinds
theorem dX8_owes_0 : decode cX8_owes 0 = .ok (.iload_n 1, 1) := by decide +kernel
theorem dX8_owes_1 : decode cX8_owes 1 = .ok (.iload_n 2, 1) := by decide +kernel
theorem dX8_owes_2 : decode cX8_owes 2 = .ok (.invokestatic 222, 3) := by decide +kernel
theorem dX8_owes_5 : decode cX8_owes 5 = .ok (.ifCond .eq 26, 3) := by decide +kernel
theorem dX8_owes_8 : decode cX8_owes 8 = .ok (.aload_n 0, 1) := by decide +kernel
theorem dX8_owes_9 : decode cX8_owes 9 = .ok (.iload_n 3, 1) := by decide +kernel
theorem dX8_owes_10 : decode cX8_owes 10 = .ok (.invokevirtual 174, 3) := by decide +kernel
theorem dX8_owes_13 : decode cX8_owes 13 = .ok (.ifCond .eq 18, 3) := by decide +kernel
theorem dX8_owes_16 : decode cX8_owes 16 = .ok (.aload_n 0, 1) := by decide +kernel
theorem dX8_owes_17 : decode cX8_owes 17 = .ok (.iload 4, 2) := by decide +kernel
theorem dX8_owes_19 : decode cX8_owes 19 = .ok (.invokevirtual 174, 3) := by decide +kernel
theorem dX8_owes_22 : decode cX8_owes 22 = .ok (.ifCond .eq 9, 3) := by decide +kernel
theorem dX8_owes_25 : decode cX8_owes 25 = .ok (.iload_n 3, 1) := by decide +kernel
theorem dX8_owes_26 : decode cX8_owes 26 = .ok (.iload 4, 2) := by decide +kernel
theorem dX8_owes_28 : decode cX8_owes 28 = .ok (.if_icmp .ne 6, 3) := by decide +kernel
theorem dX8_owes_31 : decode cX8_owes 31 = .ok (.ldc 63, 2) := by decide +kernel
theorem dX8_owes_33 : decode cX8_owes 33 = .ok (.ireturn, 1) := by decide +kernel
theorem dX8_owes_34 : decode cX8_owes 34 = .ok (.aload_n 0, 1) := by decide +kernel
theorem dX8_owes_35 : decode cX8_owes 35 = .ok (.iload_n 3, 1) := by decide +kernel
theorem dX8_owes_36 : decode cX8_owes 36 = .ok (.iload_n 1, 1) := by decide +kernel
theorem dX8_owes_37 : decode cX8_owes 37 = .ok (.iconst 0, 1) := by decide +kernel
theorem dX8_owes_38 : decode cX8_owes 38 = .ok (.invokevirtual 203, 3) := by decide +kernel
theorem dX8_owes_41 : decode cX8_owes 41 = .ok (.ifCond .eq 36, 3) := by decide +kernel
theorem dX8_owes_44 : decode cX8_owes 44 = .ok (.aload_n 0, 1) := by decide +kernel
theorem dX8_owes_45 : decode cX8_owes 45 = .ok (.iload 4, 2) := by decide +kernel
theorem dX8_owes_47 : decode cX8_owes 47 = .ok (.iconst 2, 1) := by decide +kernel
theorem dX8_owes_48 : decode cX8_owes 48 = .ok (.invokevirtual 177, 3) := by decide +kernel
theorem dX8_owes_51 : decode cX8_owes 51 = .ok (.aload_n 0, 1) := by decide +kernel
theorem dX8_owes_52 : decode cX8_owes 52 = .ok (.iload_n 3, 1) := by decide +kernel
theorem dX8_owes_53 : decode cX8_owes 53 = .ok (.iconst 2, 1) := by decide +kernel
theorem dX8_owes_54 : decode cX8_owes 54 = .ok (.invokevirtual 177, 3) := by decide +kernel
theorem dX8_owes_57 : decode cX8_owes 57 = .ok (.if_icmp .le 20, 3) := by decide +kernel
theorem dX8_owes_60 : decode cX8_owes 60 = .ok (.aload_n 0, 1) := by decide +kernel
theorem dX8_owes_61 : decode cX8_owes 61 = .ok (.iload 4, 2) := by decide +kernel
theorem dX8_owes_63 : decode cX8_owes 63 = .ok (.iload_n 3, 1) := by decide +kernel
theorem dX8_owes_64 : decode cX8_owes 64 = .ok (.iload_n 1, 1) := by decide +kernel
theorem dX8_owes_65 : decode cX8_owes 65 = .ok (.ldc 215, 2) := by decide +kernel
theorem dX8_owes_67 : decode cX8_owes 67 = .ok (.invokevirtual 199, 3) := by decide +kernel
theorem dX8_owes_70 : decode cX8_owes 70 = .ok (.ifCond .eq 7, 3) := by decide +kernel
theorem dX8_owes_73 : decode cX8_owes 73 = .ok (.iconst 1, 1) := by decide +kernel
theorem dX8_owes_74 : decode cX8_owes 74 = .ok (.goto 4, 3) := by decide +kernel
theorem dX8_owes_77 : decode cX8_owes 77 = .ok (.iconst 0, 1) := by decide +kernel
theorem dX8_owes_78 : decode cX8_owes 78 = .ok (.istore 5, 2) := by decide +kernel
theorem dX8_owes_80 : decode cX8_owes 80 = .ok (.iload 5, 2) := by decide +kernel
theorem dX8_owes_82 : decode cX8_owes 82 = .ok (.ifCond .eq 41, 3) := by decide +kernel
theorem dX8_owes_85 : decode cX8_owes 85 = .ok (.aload_n 0, 1) := by decide +kernel
theorem dX8_owes_86 : decode cX8_owes 86 = .ok (.getfield 22, 3) := by decide +kernel
theorem dX8_owes_89 : decode cX8_owes 89 = .ok (.iconst 3, 1) := by decide +kernel
theorem dX8_owes_90 : decode cX8_owes 90 = .ok (.iaload, 1) := by decide +kernel
theorem dX8_owes_91 : decode cX8_owes 91 = .ok (.aload_n 0, 1) := by decide +kernel
theorem dX8_owes_92 : decode cX8_owes 92 = .ok (.iload 4, 2) := by decide +kernel
theorem dX8_owes_94 : decode cX8_owes 94 = .ok (.iload_n 1, 1) := by decide +kernel
theorem dX8_owes_95 : decode cX8_owes 95 = .ok (.iload_n 2, 1) := by decide +kernel
theorem dX8_owes_96 : decode cX8_owes 96 = .ok (.iconst 1, 1) := by decide +kernel
theorem dX8_owes_97 : decode cX8_owes 97 = .ok (.iload_n 3, 1) := by decide +kernel
theorem dX8_owes_98 : decode cX8_owes 98 = .ok (.ishl, 1) := by decide +kernel
theorem dX8_owes_99 : decode cX8_owes 99 = .ok (.ldc 215, 2) := by decide +kernel
theorem dX8_owes_101 : decode cX8_owes 101 = .ok (.invokevirtual 216, 3) := by decide +kernel
theorem dX8_owes_104 : decode cX8_owes 104 = .ok (.aload_n 0, 1) := by decide +kernel
theorem dX8_owes_105 : decode cX8_owes 105 = .ok (.iload 4, 2) := by decide +kernel
theorem dX8_owes_107 : decode cX8_owes 107 = .ok (.iload_n 1, 1) := by decide +kernel
theorem dX8_owes_108 : decode cX8_owes 108 = .ok (.iload_n 2, 1) := by decide +kernel
theorem dX8_owes_109 : decode cX8_owes 109 = .ok (.iconst 0, 1) := by decide +kernel
theorem dX8_owes_110 : decode cX8_owes 110 = .ok (.ldc 215, 2) := by decide +kernel
theorem dX8_owes_112 : decode cX8_owes 112 = .ok (.invokevirtual 216, 3) := by decide +kernel
theorem dX8_owes_115 : decode cX8_owes 115 = .ok (.isub, 1) := by decide +kernel
theorem dX8_owes_116 : decode cX8_owes 116 = .ok (.imul, 1) := by decide +kernel
theorem dX8_owes_117 : decode cX8_owes 117 = .ok (.bipush 100, 2) := by decide +kernel
theorem dX8_owes_119 : decode cX8_owes 119 = .ok (.idiv, 1) := by decide +kernel
theorem dX8_owes_120 : decode cX8_owes 120 = .ok (.goto 4, 3) := by decide +kernel
theorem dX8_owes_123 : decode cX8_owes 123 = .ok (.iconst 0, 1) := by decide +kernel
theorem dX8_owes_124 : decode cX8_owes 124 = .ok (.ireturn, 1) := by decide +kernel
set_option maxRecDepth 20000 in
theorem ggX8_isNight_X8_grindsFree : GoodIn wsX8_isNight wsX8_grindsFree := goodIn_r _ [8, 1, 9, 10, 11, 7, 12, 13, 14, 15, 16, 17, 18, 19, 20, 21, 22, 23, 24, 25, 26, 27, 28, 29, 30, 31, 32, 33, 34, 35, 36, 37, 38, 39, 40, 41, 42, 43, 44, 45, 46, 47, 48, 49, 50, 51, 52, 53, 54, 55, 56, 57] (by decide +kernel) (by decide +kernel)
set_option maxRecDepth 20000 in
theorem gX8_isNight_X8_grindsFree : GoodIn wsX8_isNight (wsV RX8 210 RX8 yX8_grindsFree wsX8_grindsFree) := goodIn_app (goodIn_of _ (by decide +kernel)) ggX8_isNight_X8_grindsFree
set_option maxRecDepth 20000 in
theorem ggX8_isNight_X8_of : GoodIn wsX8_isNight wsX8_of := goodIn_r _ [16, 1, 37, 38, 39, 40, 41, 42, 43, 44, 45, 46, 47, 48, 49, 50, 51, 52, 53, 54, 55, 56, 57] (by decide +kernel) (by decide +kernel)
set_option maxRecDepth 20000 in
theorem gX8_isNight_X8_of : GoodIn wsX8_isNight (wsV RX8 177 RX8 yX8_of wsX8_of) := goodIn_app (goodIn_of _ (by decide +kernel)) ggX8_isNight_X8_of
theorem dX8_isNight_0 : decode cX8_isNight 0 = .ok (.iconst 1, 1) := by decide +kernel
theorem dX8_isNight_1 : decode cX8_isNight 1 = .ok (.istore 6, 2) := by decide +kernel
theorem dX8_isNight_3 : decode cX8_isNight 3 = .ok (.iconst 0, 1) := by decide +kernel
theorem dX8_isNight_4 : decode cX8_isNight 4 = .ok (.istore 7, 2) := by decide +kernel
theorem dX8_isNight_6 : decode cX8_isNight 6 = .ok (.iload 7, 2) := by decide +kernel
theorem dX8_isNight_8 : decode cX8_isNight 8 = .ok (.aload_n 0, 1) := by decide +kernel
theorem dX8_isNight_9 : decode cX8_isNight 9 = .ok (.getfield 22, 3) := by decide +kernel
theorem dX8_isNight_12 : decode cX8_isNight 12 = .ok (.iconst 0, 1) := by decide +kernel
theorem dX8_isNight_13 : decode cX8_isNight 13 = .ok (.iaload, 1) := by decide +kernel
theorem dX8_isNight_14 : decode cX8_isNight 14 = .ok (.if_icmp .ge 77, 3) := by decide +kernel
theorem dX8_isNight_17 : decode cX8_isNight 17 = .ok (.iload 6, 2) := by decide +kernel
theorem dX8_isNight_19 : decode cX8_isNight 19 = .ok (.ifCond .eq 72, 3) := by decide +kernel
theorem dX8_isNight_22 : decode cX8_isNight 22 = .ok (.iload_n 3, 1) := by decide +kernel
theorem dX8_isNight_23 : decode cX8_isNight 23 = .ok (.aload_n 0, 1) := by decide +kernel
theorem dX8_isNight_24 : decode cX8_isNight 24 = .ok (.iload 7, 2) := by decide +kernel
theorem dX8_isNight_26 : decode cX8_isNight 26 = .ok (.iload_n 1, 1) := by decide +kernel
theorem dX8_isNight_27 : decode cX8_isNight 27 = .ok (.iload_n 2, 1) := by decide +kernel
theorem dX8_isNight_28 : decode cX8_isNight 28 = .ok (.iload 5, 2) := by decide +kernel
theorem dX8_isNight_30 : decode cX8_isNight 30 = .ok (.ldc 215, 2) := by decide +kernel
theorem dX8_isNight_32 : decode cX8_isNight 32 = .ok (.invokevirtual 210, 3) := by decide +kernel
theorem dX8_isNight_35 : decode cX8_isNight 35 = .ok (.imul, 1) := by decide +kernel
theorem dX8_isNight_36 : decode cX8_isNight 36 = .ok (.istore 8, 2) := by decide +kernel
theorem dX8_isNight_38 : decode cX8_isNight 38 = .ok (.iload 8, 2) := by decide +kernel
theorem dX8_isNight_40 : decode cX8_isNight 40 = .ok (.aload_n 0, 1) := by decide +kernel
theorem dX8_isNight_41 : decode cX8_isNight 41 = .ok (.iload 7, 2) := by decide +kernel
theorem dX8_isNight_43 : decode cX8_isNight 43 = .ok (.iconst 3, 1) := by decide +kernel
theorem dX8_isNight_44 : decode cX8_isNight 44 = .ok (.invokevirtual 177, 3) := by decide +kernel
theorem dX8_isNight_47 : decode cX8_isNight 47 = .ok (.if_icmp .ge 8, 3) := by decide +kernel
theorem dX8_isNight_50 : decode cX8_isNight 50 = .ok (.iload 8, 2) := by decide +kernel
theorem dX8_isNight_52 : decode cX8_isNight 52 = .ok (.goto 10, 3) := by decide +kernel
theorem dX8_isNight_55 : decode cX8_isNight 55 = .ok (.aload_n 0, 1) := by decide +kernel
theorem dX8_isNight_56 : decode cX8_isNight 56 = .ok (.iload 7, 2) := by decide +kernel
theorem dX8_isNight_58 : decode cX8_isNight 58 = .ok (.iconst 3, 1) := by decide +kernel
theorem dX8_isNight_59 : decode cX8_isNight 59 = .ok (.invokevirtual 177, 3) := by decide +kernel
theorem dX8_isNight_62 : decode cX8_isNight 62 = .ok (.aload_n 0, 1) := by decide +kernel
theorem dX8_isNight_63 : decode cX8_isNight 63 = .ok (.getfield 16, 3) := by decide +kernel
theorem dX8_isNight_66 : decode cX8_isNight 66 = .ok (.bipush 40, 2) := by decide +kernel
theorem dX8_isNight_68 : decode cX8_isNight 68 = .ok (.iload 4, 2) := by decide +kernel
theorem dX8_isNight_70 : decode cX8_isNight 70 = .ok (.imul, 1) := by decide +kernel
theorem dX8_isNight_71 : decode cX8_isNight 71 = .ok (.iload 7, 2) := by decide +kernel
theorem dX8_isNight_73 : decode cX8_isNight 73 = .ok (.iadd, 1) := by decide +kernel
theorem dX8_isNight_74 : decode cX8_isNight 74 = .ok (.iaload, 1) := by decide +kernel
theorem dX8_isNight_75 : decode cX8_isNight 75 = .ok (.if_icmp .ne 7, 3) := by decide +kernel
theorem dX8_isNight_78 : decode cX8_isNight 78 = .ok (.iconst 1, 1) := by decide +kernel
theorem dX8_isNight_79 : decode cX8_isNight 79 = .ok (.goto 4, 3) := by decide +kernel
theorem dX8_isNight_82 : decode cX8_isNight 82 = .ok (.iconst 0, 1) := by decide +kernel
theorem dX8_isNight_83 : decode cX8_isNight 83 = .ok (.istore 6, 2) := by decide +kernel
theorem dX8_isNight_85 : decode cX8_isNight 85 = .ok (.iinc 7 1, 3) := by decide +kernel
theorem dX8_isNight_88 : decode cX8_isNight 88 = .ok (.goto (-82), 3) := by decide +kernel
theorem dX8_isNight_91 : decode cX8_isNight 91 = .ok (.iload 6, 2) := by decide +kernel
theorem dX8_isNight_93 : decode cX8_isNight 93 = .ok (.ireturn, 1) := by decide +kernel
set_option maxRecDepth 20000 in
theorem ggX8_night_X8_isNoRidge : GoodIn wsX8_night wsX8_isNoRidge := goodIn_r _ [11, 5, 72, 73, 74, 75, 76, 77, 78, 79, 80, 81, 82, 83, 84, 85, 86, 87, 88, 89, 90, 91, 92] (by decide +kernel) (by decide +kernel)
set_option maxRecDepth 20000 in
theorem gX8_night_X8_isNoRidge : GoodIn wsX8_night (wsV RX8 219 RX8 yX8_isNoRidge wsX8_isNoRidge) := goodIn_app (goodIn_of _ (by decide +kernel)) ggX8_night_X8_isNoRidge
set_option maxRecDepth 20000 in
theorem ggX8_night_X8_isWind : GoodIn wsX8_night wsX8_isWind := goodIn_r _ [14, 15, 16, 17, 10, 18, 19, 20, 21, 22] (by decide +kernel) (by decide +kernel)
set_option maxRecDepth 20000 in
theorem gX8_night_X8_isWind : GoodIn wsX8_night (va_wsS RX8 222 yX8_isWind wsX8_isWind) := goodIn_app (goodIn_of _ (by decide +kernel)) ggX8_night_X8_isWind
set_option maxRecDepth 20000 in
theorem ggX8_night_X8_in : GoodIn wsX8_night wsX8_in := goodIn_r _ [22] (by decide +kernel) (by decide +kernel)
set_option maxRecDepth 20000 in
theorem gX8_night_X8_in : GoodIn wsX8_night (va_wsS RX8 53 yX8_in wsX8_in) := goodIn_app (goodIn_of _ (by decide +kernel)) ggX8_night_X8_in
set_option maxRecDepth 20000 in
theorem ggX8_night_X8_isRow : GoodIn wsX8_night wsX8_isRow := goodIn_r _ [25, 26, 20, 21, 10, 22] (by decide +kernel) (by decide +kernel)
set_option maxRecDepth 20000 in
theorem gX8_night_X8_isRow : GoodIn wsX8_night (va_wsS RX8 57 yX8_isRow wsX8_isRow) := goodIn_app (goodIn_of _ (by decide +kernel)) ggX8_night_X8_isRow
set_option maxRecDepth 20000 in
theorem ggX8_night_X8_isMissing : GoodIn wsX8_night wsX8_isMissing := goodIn_r _ [30, 31, 72, 73, 74, 75, 76, 77, 78, 79, 80, 81, 82, 83, 84, 85, 86, 87, 88, 89, 90, 91, 92] (by decide +kernel) (by decide +kernel)
set_option maxRecDepth 20000 in
theorem gX8_night_X8_isMissing : GoodIn wsX8_night (wsV RX8 70 RX8 yX8_isMissing wsX8_isMissing) := goodIn_app (goodIn_of _ (by decide +kernel)) ggX8_night_X8_isMissing
set_option maxRecDepth 20000 in
theorem ggX8_night_X8_found : GoodIn wsX8_night wsX8_found := goodIn_r _ [35, 36, 37, 72, 73, 74, 75, 76, 77, 78, 79, 80, 81, 82, 83, 84, 85, 86, 87, 88, 89, 90, 91, 92] (by decide +kernel) (by decide +kernel)
set_option maxRecDepth 20000 in
theorem gX8_night_X8_found : GoodIn wsX8_night (wsV RX8 64 RX8 yX8_found wsX8_found) := goodIn_app (goodIn_of _ (by decide +kernel)) ggX8_night_X8_found
set_option maxRecDepth 20000 in
theorem ggX8_night_X8_has : GoodIn wsX8_night wsX8_has := goodIn_r _ [40] (by decide +kernel) (by decide +kernel)
set_option maxRecDepth 20000 in
theorem gX8_night_X8_has : GoodIn wsX8_night (va_wsS RX8 193 yX8_has wsX8_has) := goodIn_app (goodIn_of _ (by decide +kernel)) ggX8_night_X8_has
set_option maxRecDepth 20000 in
theorem ggX8_night_X8_of : GoodIn wsX8_night wsX8_of := goodIn_r _ [44, 5, 72, 73, 74, 75, 76, 77, 78, 79, 80, 81, 82, 83, 84, 85, 86, 87, 88, 89, 90, 91, 92] (by decide +kernel) (by decide +kernel)
set_option maxRecDepth 20000 in
theorem gX8_night_X8_of : GoodIn wsX8_night (wsV RX8 177 RX8 yX8_of wsX8_of) := goodIn_app (goodIn_of _ (by decide +kernel)) ggX8_night_X8_of
set_option maxRecDepth 20000 in
theorem ggX8_night_X8_isNight : GoodIn wsX8_night wsX8_isNight := goodIn_r _ [48, 5, 6, 49, 50, 51, 52, 10, 53, 54, 55, 56, 57, 41, 42, 43, 44, 38, 39, 40, 58, 59, 60, 61, 62, 63, 64, 65, 66, 67, 20, 21, 22, 68, 69, 70, 71, 72, 73, 74, 75, 76, 77, 78, 79, 80, 81, 82, 83, 84, 85, 86, 87, 88, 89, 90, 91, 92] (by decide +kernel) (by decide +kernel)
set_option maxRecDepth 20000 in
theorem gX8_night_X8_isNight : GoodIn wsX8_night (wsV RX8 247 RX8 yX8_isNight wsX8_isNight) := goodIn_app (goodIn_of _ (by decide +kernel)) ggX8_night_X8_isNight
theorem dX8_night_0 : decode cX8_night 0 = .ok (.aload_n 0, 1) := by decide +kernel
theorem dX8_night_1 : decode cX8_night 1 = .ok (.invokevirtual 219, 3) := by decide +kernel
theorem dX8_night_4 : decode cX8_night 4 = .ok (.ifCond .eq 6, 3) := by decide +kernel
theorem dX8_night_7 : decode cX8_night 7 = .ok (.ldc 185, 2) := by decide +kernel
theorem dX8_night_9 : decode cX8_night 9 = .ok (.ireturn, 1) := by decide +kernel
theorem dX8_night_10 : decode cX8_night 10 = .ok (.iload_n 1, 1) := by decide +kernel
theorem dX8_night_11 : decode cX8_night 11 = .ok (.iload_n 2, 1) := by decide +kernel
theorem dX8_night_12 : decode cX8_night 12 = .ok (.invokestatic 222, 3) := by decide +kernel
theorem dX8_night_15 : decode cX8_night 15 = .ok (.ifCond .eq 29, 3) := by decide +kernel
theorem dX8_night_18 : decode cX8_night 18 = .ok (.iload_n 3, 1) := by decide +kernel
theorem dX8_night_19 : decode cX8_night 19 = .ok (.i2l, 1) := by decide +kernel
theorem dX8_night_20 : decode cX8_night 20 = .ok (.lconst 1, 1) := by decide +kernel
theorem dX8_night_21 : decode cX8_night 21 = .ok (.ldc2_w 228, 3) := by decide +kernel
theorem dX8_night_24 : decode cX8_night 24 = .ok (.invokestatic 53, 3) := by decide +kernel
theorem dX8_night_27 : decode cX8_night 27 = .ok (.ifCond .eq 17, 3) := by decide +kernel
theorem dX8_night_30 : decode cX8_night 30 = .ok (.iload 4, 2) := by decide +kernel
theorem dX8_night_32 : decode cX8_night 32 = .ok (.invokestatic 57, 3) := by decide +kernel
theorem dX8_night_35 : decode cX8_night 35 = .ok (.ifCond .eq 9, 3) := by decide +kernel
theorem dX8_night_38 : decode cX8_night 38 = .ok (.iload 5, 2) := by decide +kernel
theorem dX8_night_40 : decode cX8_night 40 = .ok (.iconst (-1), 1) := by decide +kernel
theorem dX8_night_41 : decode cX8_night 41 = .ok (.if_icmp .ge 6, 3) := by decide +kernel
theorem dX8_night_44 : decode cX8_night 44 = .ok (.ldc 63, 2) := by decide +kernel
theorem dX8_night_46 : decode cX8_night 46 = .ok (.ireturn, 1) := by decide +kernel
theorem dX8_night_47 : decode cX8_night 47 = .ok (.aload_n 0, 1) := by decide +kernel
theorem dX8_night_48 : decode cX8_night 48 = .ok (.iload 4, 2) := by decide +kernel
theorem dX8_night_50 : decode cX8_night 50 = .ok (.invokevirtual 70, 3) := by decide +kernel
theorem dX8_night_53 : decode cX8_night 53 = .ok (.ifCond .eq 10, 3) := by decide +kernel
theorem dX8_night_56 : decode cX8_night 56 = .ok (.aload_n 0, 1) := by decide +kernel
theorem dX8_night_57 : decode cX8_night 57 = .ok (.iconst 1, 1) := by decide +kernel
theorem dX8_night_58 : decode cX8_night 58 = .ok (.iconst 0, 1) := by decide +kernel
theorem dX8_night_59 : decode cX8_night 59 = .ok (.invokevirtual 64, 3) := by decide +kernel
theorem dX8_night_62 : decode cX8_night 62 = .ok (.ireturn, 1) := by decide +kernel
theorem dX8_night_63 : decode cX8_night 63 = .ok (.aload_n 0, 1) := by decide +kernel
theorem dX8_night_64 : decode cX8_night 64 = .ok (.getfield 13, 3) := by decide +kernel
theorem dX8_night_67 : decode cX8_night 67 = .ok (.iload 4, 2) := by decide +kernel
theorem dX8_night_69 : decode cX8_night 69 = .ok (.iaload, 1) := by decide +kernel
theorem dX8_night_70 : decode cX8_night 70 = .ok (.aload_n 0, 1) := by decide +kernel
theorem dX8_night_71 : decode cX8_night 71 = .ok (.getfield 22, 3) := by decide +kernel
theorem dX8_night_74 : decode cX8_night 74 = .ok (.iconst 0, 1) := by decide +kernel
theorem dX8_night_75 : decode cX8_night 75 = .ok (.iaload, 1) := by decide +kernel
theorem dX8_night_76 : decode cX8_night 76 = .ok (.if_icmp .ge 10, 3) := by decide +kernel
theorem dX8_night_79 : decode cX8_night 79 = .ok (.aload_n 0, 1) := by decide +kernel
theorem dX8_night_80 : decode cX8_night 80 = .ok (.iconst 2, 1) := by decide +kernel
theorem dX8_night_81 : decode cX8_night 81 = .ok (.iconst 0, 1) := by decide +kernel
theorem dX8_night_82 : decode cX8_night 82 = .ok (.invokevirtual 64, 3) := by decide +kernel
theorem dX8_night_85 : decode cX8_night 85 = .ok (.ireturn, 1) := by decide +kernel
theorem dX8_night_86 : decode cX8_night 86 = .ok (.iconst 0, 1) := by decide +kernel
theorem dX8_night_87 : decode cX8_night 87 = .ok (.istore 6, 2) := by decide +kernel
theorem dX8_night_89 : decode cX8_night 89 = .ok (.ldc 215, 2) := by decide +kernel
theorem dX8_night_91 : decode cX8_night 91 = .ok (.istore 7, 2) := by decide +kernel
theorem dX8_night_93 : decode cX8_night 93 = .ok (.iconst 0, 1) := by decide +kernel
theorem dX8_night_94 : decode cX8_night 94 = .ok (.istore 8, 2) := by decide +kernel
theorem dX8_night_96 : decode cX8_night 96 = .ok (.iload 8, 2) := by decide +kernel
theorem dX8_night_98 : decode cX8_night 98 = .ok (.iconst 1, 1) := by decide +kernel
theorem dX8_night_99 : decode cX8_night 99 = .ok (.aload_n 0, 1) := by decide +kernel
theorem dX8_night_100 : decode cX8_night 100 = .ok (.getfield 22, 3) := by decide +kernel
theorem dX8_night_103 : decode cX8_night 103 = .ok (.iconst 0, 1) := by decide +kernel
theorem dX8_night_104 : decode cX8_night 104 = .ok (.iaload, 1) := by decide +kernel
theorem dX8_night_105 : decode cX8_night 105 = .ok (.ishl, 1) := by decide +kernel
theorem dX8_night_106 : decode cX8_night 106 = .ok (.if_icmp .ge 103, 3) := by decide +kernel
theorem dX8_night_109 : decode cX8_night 109 = .ok (.iconst 1, 1) := by decide +kernel
theorem dX8_night_110 : decode cX8_night 110 = .ok (.istore 9, 2) := by decide +kernel
theorem dX8_night_112 : decode cX8_night 112 = .ok (.iconst 0, 1) := by decide +kernel
theorem dX8_night_113 : decode cX8_night 113 = .ok (.istore 10, 2) := by decide +kernel
theorem dX8_night_115 : decode cX8_night 115 = .ok (.iload 10, 2) := by decide +kernel
theorem dX8_night_117 : decode cX8_night 117 = .ok (.aload_n 0, 1) := by decide +kernel
theorem dX8_night_118 : decode cX8_night 118 = .ok (.getfield 22, 3) := by decide +kernel
theorem dX8_night_121 : decode cX8_night 121 = .ok (.iconst 0, 1) := by decide +kernel
theorem dX8_night_122 : decode cX8_night 122 = .ok (.iaload, 1) := by decide +kernel
theorem dX8_night_123 : decode cX8_night 123 = .ok (.if_icmp .ge 42, 3) := by decide +kernel
theorem dX8_night_126 : decode cX8_night 126 = .ok (.iload 9, 2) := by decide +kernel
theorem dX8_night_128 : decode cX8_night 128 = .ok (.ifCond .eq 28, 3) := by decide +kernel
theorem dX8_night_131 : decode cX8_night 131 = .ok (.iload 8, 2) := by decide +kernel
theorem dX8_night_133 : decode cX8_night 133 = .ok (.iload 10, 2) := by decide +kernel
theorem dX8_night_135 : decode cX8_night 135 = .ok (.invokestatic 193, 3) := by decide +kernel
theorem dX8_night_138 : decode cX8_night 138 = .ok (.ifCond .eq 14, 3) := by decide +kernel
theorem dX8_night_141 : decode cX8_night 141 = .ok (.aload_n 0, 1) := by decide +kernel
theorem dX8_night_142 : decode cX8_night 142 = .ok (.iload 10, 2) := by decide +kernel
theorem dX8_night_144 : decode cX8_night 144 = .ok (.bipush 7, 2) := by decide +kernel
theorem dX8_night_146 : decode cX8_night 146 = .ok (.invokevirtual 177, 3) := by decide +kernel
theorem dX8_night_149 : decode cX8_night 149 = .ok (.ifCond .ne 7, 3) := by decide +kernel
theorem dX8_night_152 : decode cX8_night 152 = .ok (.iconst 1, 1) := by decide +kernel
theorem dX8_night_153 : decode cX8_night 153 = .ok (.goto 4, 3) := by decide +kernel
theorem dX8_night_156 : decode cX8_night 156 = .ok (.iconst 0, 1) := by decide +kernel
theorem dX8_night_157 : decode cX8_night 157 = .ok (.istore 9, 2) := by decide +kernel
theorem dX8_night_159 : decode cX8_night 159 = .ok (.iinc 10 1, 3) := by decide +kernel
theorem dX8_night_162 : decode cX8_night 162 = .ok (.goto (-47), 3) := by decide +kernel
theorem dX8_night_165 : decode cX8_night 165 = .ok (.iload 9, 2) := by decide +kernel
theorem dX8_night_167 : decode cX8_night 167 = .ok (.ifCond .eq 36, 3) := by decide +kernel
theorem dX8_night_170 : decode cX8_night 170 = .ok (.aload_n 0, 1) := by decide +kernel
theorem dX8_night_171 : decode cX8_night 171 = .ok (.iload_n 1, 1) := by decide +kernel
theorem dX8_night_172 : decode cX8_night 172 = .ok (.iload_n 2, 1) := by decide +kernel
theorem dX8_night_173 : decode cX8_night 173 = .ok (.iload_n 3, 1) := by decide +kernel
theorem dX8_night_174 : decode cX8_night 174 = .ok (.iload 4, 2) := by decide +kernel
theorem dX8_night_176 : decode cX8_night 176 = .ok (.iload 8, 2) := by decide +kernel
theorem dX8_night_178 : decode cX8_night 178 = .ok (.invokevirtual 247, 3) := by decide +kernel
theorem dX8_night_181 : decode cX8_night 181 = .ok (.ifCond .eq 22, 3) := by decide +kernel
theorem dX8_night_184 : decode cX8_night 184 = .ok (.iload 6, 2) := by decide +kernel
theorem dX8_night_186 : decode cX8_night 186 = .ok (.iload 5, 2) := by decide +kernel
theorem dX8_night_188 : decode cX8_night 188 = .ok (.if_icmp .ne 8, 3) := by decide +kernel
theorem dX8_night_191 : decode cX8_night 191 = .ok (.iload 8, 2) := by decide +kernel
theorem dX8_night_193 : decode cX8_night 193 = .ok (.goto 5, 3) := by decide +kernel
theorem dX8_night_196 : decode cX8_night 196 = .ok (.iload 7, 2) := by decide +kernel
theorem dX8_night_198 : decode cX8_night 198 = .ok (.istore 7, 2) := by decide +kernel
theorem dX8_night_200 : decode cX8_night 200 = .ok (.iinc 6 1, 3) := by decide +kernel
theorem dX8_night_203 : decode cX8_night 203 = .ok (.iinc 8 1, 3) := by decide +kernel
theorem dX8_night_206 : decode cX8_night 206 = .ok (.goto (-110), 3) := by decide +kernel
theorem dX8_night_209 : decode cX8_night 209 = .ok (.aload_n 0, 1) := by decide +kernel
theorem dX8_night_210 : decode cX8_night 210 = .ok (.iconst 0, 1) := by decide +kernel
theorem dX8_night_211 : decode cX8_night 211 = .ok (.iload 5, 2) := by decide +kernel
theorem dX8_night_213 : decode cX8_night 213 = .ok (.ifCond .ge 8, 3) := by decide +kernel
theorem dX8_night_216 : decode cX8_night 216 = .ok (.iload 6, 2) := by decide +kernel
theorem dX8_night_218 : decode cX8_night 218 = .ok (.goto 5, 3) := by decide +kernel
theorem dX8_night_221 : decode cX8_night 221 = .ok (.iload 7, 2) := by decide +kernel
theorem dX8_night_223 : decode cX8_night 223 = .ok (.invokevirtual 64, 3) := by decide +kernel
theorem dX8_night_226 : decode cX8_night 226 = .ok (.ireturn, 1) := by decide +kernel
set_option maxRecDepth 20000 in
theorem ggX8_years_X8_isNoRidge : GoodIn wsX8_years wsX8_isNoRidge := goodIn_r _ [15, 9, 52, 53, 54, 55, 56, 57, 58, 59, 60, 61, 62, 63, 64, 65, 66, 67, 68, 69, 70, 71, 72] (by decide +kernel) (by decide +kernel)
set_option maxRecDepth 20000 in
theorem gX8_years_X8_isNoRidge : GoodIn wsX8_years (wsV RX8 219 RX8 yX8_isNoRidge wsX8_isNoRidge) := goodIn_app (goodIn_of _ (by decide +kernel)) ggX8_years_X8_isNoRidge
set_option maxRecDepth 20000 in
theorem ggX8_years_X8_in : GoodIn wsX8_years wsX8_in := goodIn_r _ [18] (by decide +kernel) (by decide +kernel)
set_option maxRecDepth 20000 in
theorem gX8_years_X8_in : GoodIn wsX8_years (va_wsS RX8 53 yX8_in wsX8_in) := goodIn_app (goodIn_of _ (by decide +kernel)) ggX8_years_X8_in
set_option maxRecDepth 20000 in
theorem ggX8_years_X8_isMill : GoodIn wsX8_years wsX8_isMill := goodIn_r _ [22, 9, 16, 17, 14, 18, 52, 53, 54, 55, 56, 57, 58, 59, 60, 61, 62, 63, 64, 65, 66, 67, 68, 69, 70, 71, 72] (by decide +kernel) (by decide +kernel)
set_option maxRecDepth 20000 in
theorem gX8_years_X8_isMill : GoodIn wsX8_years (wsV RX8 174 RX8 yX8_isMill wsX8_isMill) := goodIn_app (goodIn_of _ (by decide +kernel)) ggX8_years_X8_isMill
set_option maxRecDepth 20000 in
theorem ggX8_years_X8_grindsFree : GoodIn wsX8_years wsX8_grindsFree := goodIn_r _ [26, 9, 27, 28, 29, 14, 30, 31, 32, 33, 34, 35, 36, 37, 38, 39, 40, 41, 42, 43, 44, 45, 46, 47, 16, 17, 18, 48, 49, 50, 51, 52, 53, 54, 55, 56, 57, 58, 59, 60, 61, 62, 63, 64, 65, 66, 67, 68, 69, 70, 71, 72] (by decide +kernel) (by decide +kernel)
set_option maxRecDepth 20000 in
theorem gX8_years_X8_grindsFree : GoodIn wsX8_years (wsV RX8 210 RX8 yX8_grindsFree wsX8_grindsFree) := goodIn_app (goodIn_of _ (by decide +kernel)) ggX8_years_X8_grindsFree
theorem dX8_years_0 : decode cX8_years 0 = .ok (.aload_n 0, 1) := by decide +kernel
theorem dX8_years_1 : decode cX8_years 1 = .ok (.invokevirtual 219, 3) := by decide +kernel
theorem dX8_years_4 : decode cX8_years 4 = .ok (.ifCond .eq 6, 3) := by decide +kernel
theorem dX8_years_7 : decode cX8_years 7 = .ok (.ldc 185, 2) := by decide +kernel
theorem dX8_years_9 : decode cX8_years 9 = .ok (.ireturn, 1) := by decide +kernel
theorem dX8_years_10 : decode cX8_years 10 = .ok (.iload_n 1, 1) := by decide +kernel
theorem dX8_years_11 : decode cX8_years 11 = .ok (.i2l, 1) := by decide +kernel
theorem dX8_years_12 : decode cX8_years 12 = .ok (.lconst 1, 1) := by decide +kernel
theorem dX8_years_13 : decode cX8_years 13 = .ok (.ldc2_w 251, 3) := by decide +kernel
theorem dX8_years_16 : decode cX8_years 16 = .ok (.invokestatic 53, 3) := by decide +kernel
theorem dX8_years_19 : decode cX8_years 19 = .ok (.ifCond .eq 28, 3) := by decide +kernel
theorem dX8_years_22 : decode cX8_years 22 = .ok (.iload_n 2, 1) := by decide +kernel
theorem dX8_years_23 : decode cX8_years 23 = .ok (.i2l, 1) := by decide +kernel
theorem dX8_years_24 : decode cX8_years 24 = .ok (.lconst 1, 1) := by decide +kernel
theorem dX8_years_25 : decode cX8_years 25 = .ok (.ldc2_w 253, 3) := by decide +kernel
theorem dX8_years_28 : decode cX8_years 28 = .ok (.invokestatic 53, 3) := by decide +kernel
theorem dX8_years_31 : decode cX8_years 31 = .ok (.ifCond .eq 16, 3) := by decide +kernel
theorem dX8_years_34 : decode cX8_years 34 = .ok (.iload_n 3, 1) := by decide +kernel
theorem dX8_years_35 : decode cX8_years 35 = .ok (.iconst (-1), 1) := by decide +kernel
theorem dX8_years_36 : decode cX8_years 36 = .ok (.if_icmp .eq 14, 3) := by decide +kernel
theorem dX8_years_39 : decode cX8_years 39 = .ok (.aload_n 0, 1) := by decide +kernel
theorem dX8_years_40 : decode cX8_years 40 = .ok (.iload_n 3, 1) := by decide +kernel
theorem dX8_years_41 : decode cX8_years 41 = .ok (.invokevirtual 174, 3) := by decide +kernel
theorem dX8_years_44 : decode cX8_years 44 = .ok (.ifCond .ne 6, 3) := by decide +kernel
theorem dX8_years_47 : decode cX8_years 47 = .ok (.ldc 63, 2) := by decide +kernel
theorem dX8_years_49 : decode cX8_years 49 = .ok (.ireturn, 1) := by decide +kernel
theorem dX8_years_50 : decode cX8_years 50 = .ok (.iload_n 2, 1) := by decide +kernel
theorem dX8_years_51 : decode cX8_years 51 = .ok (.i2l, 1) := by decide +kernel
theorem dX8_years_52 : decode cX8_years 52 = .ok (.lstore 4, 2) := by decide +kernel
theorem dX8_years_54 : decode cX8_years 54 = .ok (.iconst 0, 1) := by decide +kernel
theorem dX8_years_55 : decode cX8_years 55 = .ok (.istore 6, 2) := by decide +kernel
theorem dX8_years_57 : decode cX8_years 57 = .ok (.iconst 0, 1) := by decide +kernel
theorem dX8_years_58 : decode cX8_years 58 = .ok (.istore 7, 2) := by decide +kernel
theorem dX8_years_60 : decode cX8_years 60 = .ok (.iload 7, 2) := by decide +kernel
theorem dX8_years_62 : decode cX8_years 62 = .ok (.iload_n 1, 1) := by decide +kernel
theorem dX8_years_63 : decode cX8_years 63 = .ok (.if_icmp .ge 104, 3) := by decide +kernel
theorem dX8_years_66 : decode cX8_years 66 = .ok (.lload 4, 2) := by decide +kernel
theorem dX8_years_68 : decode cX8_years 68 = .ok (.ldc2_w 255, 3) := by decide +kernel
theorem dX8_years_71 : decode cX8_years 71 = .ok (.lmul, 1) := by decide +kernel
theorem dX8_years_72 : decode cX8_years 72 = .ok (.ldc2_w 257, 3) := by decide +kernel
theorem dX8_years_75 : decode cX8_years 75 = .ok (.lrem, 1) := by decide +kernel
theorem dX8_years_76 : decode cX8_years 76 = .ok (.lstore 4, 2) := by decide +kernel
theorem dX8_years_78 : decode cX8_years 78 = .ok (.lload 4, 2) := by decide +kernel
theorem dX8_years_80 : decode cX8_years 80 = .ok (.ldc2_w 259, 3) := by decide +kernel
theorem dX8_years_83 : decode cX8_years 83 = .ok (.lrem, 1) := by decide +kernel
theorem dX8_years_84 : decode cX8_years 84 = .ok (.l2i, 1) := by decide +kernel
theorem dX8_years_85 : decode cX8_years 85 = .ok (.istore 8, 2) := by decide +kernel
theorem dX8_years_87 : decode cX8_years 87 = .ok (.lload 4, 2) := by decide +kernel
theorem dX8_years_89 : decode cX8_years 89 = .ok (.ldc2_w 255, 3) := by decide +kernel
theorem dX8_years_92 : decode cX8_years 92 = .ok (.lmul, 1) := by decide +kernel
theorem dX8_years_93 : decode cX8_years 93 = .ok (.ldc2_w 257, 3) := by decide +kernel
theorem dX8_years_96 : decode cX8_years 96 = .ok (.lrem, 1) := by decide +kernel
theorem dX8_years_97 : decode cX8_years 97 = .ok (.lstore 4, 2) := by decide +kernel
theorem dX8_years_99 : decode cX8_years 99 = .ok (.lload 4, 2) := by decide +kernel
theorem dX8_years_101 : decode cX8_years 101 = .ok (.ldc2_w 261, 3) := by decide +kernel
theorem dX8_years_104 : decode cX8_years 104 = .ok (.lrem, 1) := by decide +kernel
theorem dX8_years_105 : decode cX8_years 105 = .ok (.l2i, 1) := by decide +kernel
theorem dX8_years_106 : decode cX8_years 106 = .ok (.istore 9, 2) := by decide +kernel
theorem dX8_years_108 : decode cX8_years 108 = .ok (.iconst 0, 1) := by decide +kernel
theorem dX8_years_109 : decode cX8_years 109 = .ok (.istore 10, 2) := by decide +kernel
theorem dX8_years_111 : decode cX8_years 111 = .ok (.iload 10, 2) := by decide +kernel
theorem dX8_years_113 : decode cX8_years 113 = .ok (.aload_n 0, 1) := by decide +kernel
theorem dX8_years_114 : decode cX8_years 114 = .ok (.getfield 22, 3) := by decide +kernel
theorem dX8_years_117 : decode cX8_years 117 = .ok (.iconst 0, 1) := by decide +kernel
theorem dX8_years_118 : decode cX8_years 118 = .ok (.iaload, 1) := by decide +kernel
theorem dX8_years_119 : decode cX8_years 119 = .ok (.if_icmp .ge 42, 3) := by decide +kernel
theorem dX8_years_122 : decode cX8_years 122 = .ok (.iload 6, 2) := by decide +kernel
theorem dX8_years_124 : decode cX8_years 124 = .ok (.iload_n 3, 1) := by decide +kernel
theorem dX8_years_125 : decode cX8_years 125 = .ok (.iconst (-1), 1) := by decide +kernel
theorem dX8_years_126 : decode cX8_years 126 = .ok (.if_icmp .eq 9, 3) := by decide +kernel
theorem dX8_years_129 : decode cX8_years 129 = .ok (.iload_n 3, 1) := by decide +kernel
theorem dX8_years_130 : decode cX8_years 130 = .ok (.iload 10, 2) := by decide +kernel
theorem dX8_years_132 : decode cX8_years 132 = .ok (.if_icmp .ne 19, 3) := by decide +kernel
theorem dX8_years_135 : decode cX8_years 135 = .ok (.aload_n 0, 1) := by decide +kernel
theorem dX8_years_136 : decode cX8_years 136 = .ok (.iload 10, 2) := by decide +kernel
theorem dX8_years_138 : decode cX8_years 138 = .ok (.iload 8, 2) := by decide +kernel
theorem dX8_years_140 : decode cX8_years 140 = .ok (.iload 9, 2) := by decide +kernel
theorem dX8_years_142 : decode cX8_years 142 = .ok (.iconst 0, 1) := by decide +kernel
theorem dX8_years_143 : decode cX8_years 143 = .ok (.ldc 215, 2) := by decide +kernel
theorem dX8_years_145 : decode cX8_years 145 = .ok (.invokevirtual 210, 3) := by decide +kernel
theorem dX8_years_148 : decode cX8_years 148 = .ok (.goto 4, 3) := by decide +kernel
theorem dX8_years_151 : decode cX8_years 151 = .ok (.iconst 0, 1) := by decide +kernel
theorem dX8_years_152 : decode cX8_years 152 = .ok (.iadd, 1) := by decide +kernel
theorem dX8_years_153 : decode cX8_years 153 = .ok (.istore 6, 2) := by decide +kernel
theorem dX8_years_155 : decode cX8_years 155 = .ok (.iinc 10 1, 3) := by decide +kernel
theorem dX8_years_158 : decode cX8_years 158 = .ok (.goto (-47), 3) := by decide +kernel
theorem dX8_years_161 : decode cX8_years 161 = .ok (.iinc 7 1, 3) := by decide +kernel
theorem dX8_years_164 : decode cX8_years 164 = .ok (.goto (-104), 3) := by decide +kernel
theorem dX8_years_167 : decode cX8_years 167 = .ok (.iload 6, 2) := by decide +kernel
theorem dX8_years_169 : decode cX8_years 169 = .ok (.ireturn, 1) := by decide +kernel
set_option maxRecDepth 20000 in
theorem ggX8_image_X8_in : GoodIn wsX8_image wsX8_in := goodIn_r _ [9] (by decide +kernel) (by decide +kernel)
set_option maxRecDepth 20000 in
theorem gX8_image_X8_in : GoodIn wsX8_image (va_wsS RX8 53 yX8_in wsX8_in) := goodIn_app (goodIn_of _ (by decide +kernel)) ggX8_image_X8_in
set_option maxRecDepth 20000 in
theorem ggX8_image_X8_isNoRidge : GoodIn wsX8_image wsX8_isNoRidge := goodIn_r _ [13, 3, 17, 18, 19, 20, 21, 22, 23, 24, 25, 26, 27, 28, 29, 30, 31, 32, 33, 34, 35, 36, 37] (by decide +kernel) (by decide +kernel)
set_option maxRecDepth 20000 in
theorem gX8_image_X8_isNoRidge : GoodIn wsX8_image (wsV RX8 219 RX8 yX8_isNoRidge wsX8_isNoRidge) := goodIn_app (goodIn_of _ (by decide +kernel)) ggX8_image_X8_isNoRidge
set_option maxRecDepth 20000 in
theorem ggX8_image_X8_copyRow : GoodIn wsX8_image wsX8_copyRow := goodIn_r _ [16] (by decide +kernel) (by decide +kernel)
set_option maxRecDepth 20000 in
theorem gX8_image_X8_copyRow : GoodIn wsX8_image (va_wsS RX8 170 yX8_copyRow wsX8_copyRow) := goodIn_app (goodIn_of _ (by decide +kernel)) ggX8_image_X8_copyRow
theorem dX8_image_0 : decode cX8_image 0 = .ok (.iload_n 1, 1) := by decide +kernel
theorem dX8_image_1 : decode cX8_image 1 = .ok (.i2l, 1) := by decide +kernel
theorem dX8_image_2 : decode cX8_image 2 = .ok (.lconst 0, 1) := by decide +kernel
theorem dX8_image_3 : decode cX8_image 3 = .ok (.lconst 1, 1) := by decide +kernel
theorem dX8_image_4 : decode cX8_image 4 = .ok (.invokestatic 53, 3) := by decide +kernel
theorem dX8_image_7 : decode cX8_image 7 = .ok (.ifCond .ne 6, 3) := by decide +kernel
theorem dX8_image_10 : decode cX8_image 10 = .ok (.ldc 63, 2) := by decide +kernel
theorem dX8_image_12 : decode cX8_image 12 = .ok (.ireturn, 1) := by decide +kernel
theorem dX8_image_13 : decode cX8_image 13 = .ok (.aload_n 0, 1) := by decide +kernel
theorem dX8_image_14 : decode cX8_image 14 = .ok (.invokevirtual 219, 3) := by decide +kernel
theorem dX8_image_17 : decode cX8_image 17 = .ok (.ifCond .eq 6, 3) := by decide +kernel
theorem dX8_image_20 : decode cX8_image 20 = .ok (.ldc 185, 2) := by decide +kernel
theorem dX8_image_22 : decode cX8_image 22 = .ok (.ireturn, 1) := by decide +kernel
theorem dX8_image_23 : decode cX8_image 23 = .ok (.iload_n 1, 1) := by decide +kernel
theorem dX8_image_24 : decode cX8_image 24 = .ok (.ifCond .ne 17, 3) := by decide +kernel
theorem dX8_image_27 : decode cX8_image 27 = .ok (.aload_n 0, 1) := by decide +kernel
theorem dX8_image_28 : decode cX8_image 28 = .ok (.getfield 22, 3) := by decide +kernel
theorem dX8_image_31 : decode cX8_image 31 = .ok (.aload_n 0, 1) := by decide +kernel
theorem dX8_image_32 : decode cX8_image 32 = .ok (.getfield 25, 3) := by decide +kernel
theorem dX8_image_35 : decode cX8_image 35 = .ok (.invokestatic 170, 3) := by decide +kernel
theorem dX8_image_38 : decode cX8_image 38 = .ok (.goto 14, 3) := by decide +kernel
theorem dX8_image_41 : decode cX8_image 41 = .ok (.aload_n 0, 1) := by decide +kernel
theorem dX8_image_42 : decode cX8_image 42 = .ok (.getfield 22, 3) := by decide +kernel
theorem dX8_image_45 : decode cX8_image 45 = .ok (.aload_n 0, 1) := by decide +kernel
theorem dX8_image_46 : decode cX8_image 46 = .ok (.getfield 28, 3) := by decide +kernel
theorem dX8_image_49 : decode cX8_image 49 = .ok (.invokestatic 170, 3) := by decide +kernel
theorem dX8_image_52 : decode cX8_image 52 = .ok (.iconst 1, 1) := by decide +kernel
theorem dX8_image_53 : decode cX8_image 53 = .ok (.ireturn, 1) := by decide +kernel
set_option maxRecDepth 20000 in
theorem ggX8_restore_X8_in : GoodIn wsX8_restore wsX8_in := goodIn_r _ [9] (by decide +kernel) (by decide +kernel)
set_option maxRecDepth 20000 in
theorem gX8_restore_X8_in : GoodIn wsX8_restore (va_wsS RX8 53 yX8_in wsX8_in) := goodIn_app (goodIn_of _ (by decide +kernel)) ggX8_restore_X8_in
set_option maxRecDepth 20000 in
theorem ggX8_restore_X8_copyRow : GoodIn wsX8_restore wsX8_copyRow := goodIn_r _ [12] (by decide +kernel) (by decide +kernel)
set_option maxRecDepth 20000 in
theorem gX8_restore_X8_copyRow : GoodIn wsX8_restore (va_wsS RX8 170 yX8_copyRow wsX8_copyRow) := goodIn_app (goodIn_of _ (by decide +kernel)) ggX8_restore_X8_copyRow
theorem dX8_restore_0 : decode cX8_restore 0 = .ok (.iload_n 1, 1) := by decide +kernel
theorem dX8_restore_1 : decode cX8_restore 1 = .ok (.i2l, 1) := by decide +kernel
theorem dX8_restore_2 : decode cX8_restore 2 = .ok (.lconst 0, 1) := by decide +kernel
theorem dX8_restore_3 : decode cX8_restore 3 = .ok (.lconst 1, 1) := by decide +kernel
theorem dX8_restore_4 : decode cX8_restore 4 = .ok (.invokestatic 53, 3) := by decide +kernel
theorem dX8_restore_7 : decode cX8_restore 7 = .ok (.ifCond .ne 6, 3) := by decide +kernel
theorem dX8_restore_10 : decode cX8_restore 10 = .ok (.ldc 63, 2) := by decide +kernel
theorem dX8_restore_12 : decode cX8_restore 12 = .ok (.ireturn, 1) := by decide +kernel
theorem dX8_restore_13 : decode cX8_restore 13 = .ok (.iload_n 1, 1) := by decide +kernel
theorem dX8_restore_14 : decode cX8_restore 14 = .ok (.ifCond .ne 12, 3) := by decide +kernel
theorem dX8_restore_17 : decode cX8_restore 17 = .ok (.aload_n 0, 1) := by decide +kernel
theorem dX8_restore_18 : decode cX8_restore 18 = .ok (.getfield 25, 3) := by decide +kernel
theorem dX8_restore_21 : decode cX8_restore 21 = .ok (.iconst 0, 1) := by decide +kernel
theorem dX8_restore_22 : decode cX8_restore 22 = .ok (.iaload, 1) := by decide +kernel
theorem dX8_restore_23 : decode cX8_restore 23 = .ok (.goto 9, 3) := by decide +kernel
theorem dX8_restore_26 : decode cX8_restore 26 = .ok (.aload_n 0, 1) := by decide +kernel
theorem dX8_restore_27 : decode cX8_restore 27 = .ok (.getfield 28, 3) := by decide +kernel
theorem dX8_restore_30 : decode cX8_restore 30 = .ok (.iconst 0, 1) := by decide +kernel
theorem dX8_restore_31 : decode cX8_restore 31 = .ok (.iaload, 1) := by decide +kernel
theorem dX8_restore_32 : decode cX8_restore 32 = .ok (.ifCond .ne 6, 3) := by decide +kernel
theorem dX8_restore_35 : decode cX8_restore 35 = .ok (.ldc 185, 2) := by decide +kernel
theorem dX8_restore_37 : decode cX8_restore 37 = .ok (.ireturn, 1) := by decide +kernel
theorem dX8_restore_38 : decode cX8_restore 38 = .ok (.iload_n 1, 1) := by decide +kernel
theorem dX8_restore_39 : decode cX8_restore 39 = .ok (.ifCond .ne 17, 3) := by decide +kernel
theorem dX8_restore_42 : decode cX8_restore 42 = .ok (.aload_n 0, 1) := by decide +kernel
theorem dX8_restore_43 : decode cX8_restore 43 = .ok (.getfield 25, 3) := by decide +kernel
theorem dX8_restore_46 : decode cX8_restore 46 = .ok (.aload_n 0, 1) := by decide +kernel
theorem dX8_restore_47 : decode cX8_restore 47 = .ok (.getfield 22, 3) := by decide +kernel
theorem dX8_restore_50 : decode cX8_restore 50 = .ok (.invokestatic 170, 3) := by decide +kernel
theorem dX8_restore_53 : decode cX8_restore 53 = .ok (.goto 14, 3) := by decide +kernel
theorem dX8_restore_56 : decode cX8_restore 56 = .ok (.aload_n 0, 1) := by decide +kernel
theorem dX8_restore_57 : decode cX8_restore 57 = .ok (.getfield 28, 3) := by decide +kernel
theorem dX8_restore_60 : decode cX8_restore 60 = .ok (.aload_n 0, 1) := by decide +kernel
theorem dX8_restore_61 : decode cX8_restore 61 = .ok (.getfield 22, 3) := by decide +kernel
theorem dX8_restore_64 : decode cX8_restore 64 = .ok (.invokestatic 170, 3) := by decide +kernel
theorem dX8_restore_67 : decode cX8_restore 67 = .ok (.iconst 1, 1) := by decide +kernel
theorem dX8_restore_68 : decode cX8_restore 68 = .ok (.ireturn, 1) := by decide +kernel
set_option maxRecDepth 20000 in
theorem ggX8_kind_X8_isMill : GoodIn wsX8_kind wsX8_isMill := goodIn_r _ [7, 1, 8, 9, 6, 10, 11, 12, 13, 14, 15, 16, 17, 18, 19, 20, 21, 22, 23, 24, 25, 26, 27, 28, 29, 30, 31] (by decide +kernel) (by decide +kernel)
set_option maxRecDepth 20000 in
theorem gX8_kind_X8_isMill : GoodIn wsX8_kind (wsV RX8 174 RX8 yX8_isMill wsX8_isMill) := goodIn_app (goodIn_of _ (by decide +kernel)) ggX8_kind_X8_isMill
theorem dX8_kind_0 : decode cX8_kind 0 = .ok (.aload_n 0, 1) := by decide +kernel
theorem dX8_kind_1 : decode cX8_kind 1 = .ok (.iload_n 1, 1) := by decide +kernel
theorem dX8_kind_2 : decode cX8_kind 2 = .ok (.invokevirtual 174, 3) := by decide +kernel
theorem dX8_kind_5 : decode cX8_kind 5 = .ok (.ifCond .eq 15, 3) := by decide +kernel
theorem dX8_kind_8 : decode cX8_kind 8 = .ok (.aload_n 0, 1) := by decide +kernel
theorem dX8_kind_9 : decode cX8_kind 9 = .ok (.getfield 22, 3) := by decide +kernel
theorem dX8_kind_12 : decode cX8_kind 12 = .ok (.bipush 85, 2) := by decide +kernel
theorem dX8_kind_14 : decode cX8_kind 14 = .ok (.iload_n 1, 1) := by decide +kernel
theorem dX8_kind_15 : decode cX8_kind 15 = .ok (.iadd, 1) := by decide +kernel
theorem dX8_kind_16 : decode cX8_kind 16 = .ok (.iaload, 1) := by decide +kernel
theorem dX8_kind_17 : decode cX8_kind 17 = .ok (.goto 5, 3) := by decide +kernel
theorem dX8_kind_20 : decode cX8_kind 20 = .ok (.ldc 63, 2) := by decide +kernel
theorem dX8_kind_22 : decode cX8_kind 22 = .ok (.ireturn, 1) := by decide +kernel
theorem dX8_isKind_0 : decode cX8_isKind 0 = .ok (.iload_n 1, 1) := by decide +kernel
theorem dX8_isKind_1 : decode cX8_isKind 1 = .ok (.iload_n 0, 1) := by decide +kernel
theorem dX8_isKind_2 : decode cX8_isKind 2 = .ok (.if_icmp .eq 27, 3) := by decide +kernel
theorem dX8_isKind_5 : decode cX8_isKind 5 = .ok (.iload_n 1, 1) := by decide +kernel
theorem dX8_isKind_6 : decode cX8_isKind 6 = .ok (.ifCond .eq 23, 3) := by decide +kernel
theorem dX8_isKind_9 : decode cX8_isKind 9 = .ok (.iload_n 1, 1) := by decide +kernel
theorem dX8_isKind_10 : decode cX8_isKind 10 = .ok (.iconst 1, 1) := by decide +kernel
theorem dX8_isKind_11 : decode cX8_isKind 11 = .ok (.if_icmp .ne 8, 3) := by decide +kernel
theorem dX8_isKind_14 : decode cX8_isKind 14 = .ok (.iload_n 0, 1) := by decide +kernel
theorem dX8_isKind_15 : decode cX8_isKind 15 = .ok (.iconst 4, 1) := by decide +kernel
theorem dX8_isKind_16 : decode cX8_isKind 16 = .ok (.if_icmp .ne 13, 3) := by decide +kernel
theorem dX8_isKind_19 : decode cX8_isKind 19 = .ok (.iload_n 1, 1) := by decide +kernel
theorem dX8_isKind_20 : decode cX8_isKind 20 = .ok (.iconst 2, 1) := by decide +kernel
theorem dX8_isKind_21 : decode cX8_isKind 21 = .ok (.if_icmp .ne 12, 3) := by decide +kernel
theorem dX8_isKind_24 : decode cX8_isKind 24 = .ok (.iload_n 0, 1) := by decide +kernel
theorem dX8_isKind_25 : decode cX8_isKind 25 = .ok (.iconst 3, 1) := by decide +kernel
theorem dX8_isKind_26 : decode cX8_isKind 26 = .ok (.if_icmp .ne 7, 3) := by decide +kernel
theorem dX8_isKind_29 : decode cX8_isKind 29 = .ok (.iconst 1, 1) := by decide +kernel
theorem dX8_isKind_30 : decode cX8_isKind 30 = .ok (.goto 4, 3) := by decide +kernel
theorem dX8_isKind_33 : decode cX8_isKind 33 = .ok (.iconst 0, 1) := by decide +kernel
theorem dX8_isKind_34 : decode cX8_isKind 34 = .ok (.ireturn, 1) := by decide +kernel
set_option maxRecDepth 20000 in
theorem ggX8_as_X8_isMill : GoodIn wsX8_as wsX8_isMill := goodIn_r _ [8, 3, 9, 10, 7, 11, 21, 22, 23, 24, 25, 26, 27, 28, 29, 30, 31, 32, 33, 34, 35, 36, 37, 38, 39, 40, 41] (by decide +kernel) (by decide +kernel)
set_option maxRecDepth 20000 in
theorem gX8_as_X8_isMill : GoodIn wsX8_as (wsV RX8 174 RX8 yX8_isMill wsX8_isMill) := goodIn_app (goodIn_of _ (by decide +kernel)) ggX8_as_X8_isMill
set_option maxRecDepth 20000 in
theorem ggX8_as_X8_in : GoodIn wsX8_as wsX8_in := goodIn_r _ [11] (by decide +kernel) (by decide +kernel)
set_option maxRecDepth 20000 in
theorem gX8_as_X8_in : GoodIn wsX8_as (va_wsS RX8 53 yX8_in wsX8_in) := goodIn_app (goodIn_of _ (by decide +kernel)) ggX8_as_X8_in
set_option maxRecDepth 20000 in
theorem ggX8_as_X8_isKind : GoodIn wsX8_as wsX8_isKind := goodIn_r _ [14] (by decide +kernel) (by decide +kernel)
set_option maxRecDepth 20000 in
theorem gX8_as_X8_isKind : GoodIn wsX8_as (va_wsS RX8 265 yX8_isKind wsX8_isKind) := goodIn_app (goodIn_of _ (by decide +kernel)) ggX8_as_X8_isKind
set_option maxRecDepth 20000 in
theorem ggX8_as_X8_found : GoodIn wsX8_as wsX8_found := goodIn_r _ [18, 19, 20, 21, 22, 23, 24, 25, 26, 27, 28, 29, 30, 31, 32, 33, 34, 35, 36, 37, 38, 39, 40, 41] (by decide +kernel) (by decide +kernel)
set_option maxRecDepth 20000 in
theorem gX8_as_X8_found : GoodIn wsX8_as (wsV RX8 64 RX8 yX8_found wsX8_found) := goodIn_app (goodIn_of _ (by decide +kernel)) ggX8_as_X8_found
theorem dX8_as_0 : decode cX8_as 0 = .ok (.aload_n 0, 1) := by decide +kernel
theorem dX8_as_1 : decode cX8_as 1 = .ok (.iload_n 1, 1) := by decide +kernel
theorem dX8_as_2 : decode cX8_as 2 = .ok (.invokevirtual 174, 3) := by decide +kernel
theorem dX8_as_5 : decode cX8_as 5 = .ok (.ifCond .eq 15, 3) := by decide +kernel
theorem dX8_as_8 : decode cX8_as 8 = .ok (.iload_n 2, 1) := by decide +kernel
theorem dX8_as_9 : decode cX8_as 9 = .ok (.i2l, 1) := by decide +kernel
theorem dX8_as_10 : decode cX8_as 10 = .ok (.lconst 0, 1) := by decide +kernel
theorem dX8_as_11 : decode cX8_as 11 = .ok (.ldc2_w 263, 3) := by decide +kernel
theorem dX8_as_14 : decode cX8_as 14 = .ok (.invokestatic 53, 3) := by decide +kernel
theorem dX8_as_17 : decode cX8_as 17 = .ok (.ifCond .ne 6, 3) := by decide +kernel
theorem dX8_as_20 : decode cX8_as 20 = .ok (.ldc 63, 2) := by decide +kernel
theorem dX8_as_22 : decode cX8_as 22 = .ok (.ireturn, 1) := by decide +kernel
theorem dX8_as_23 : decode cX8_as 23 = .ok (.aload_n 0, 1) := by decide +kernel
theorem dX8_as_24 : decode cX8_as 24 = .ok (.aload_n 0, 1) := by decide +kernel
theorem dX8_as_25 : decode cX8_as 25 = .ok (.getfield 22, 3) := by decide +kernel
theorem dX8_as_28 : decode cX8_as 28 = .ok (.bipush 85, 2) := by decide +kernel
theorem dX8_as_30 : decode cX8_as 30 = .ok (.iload_n 1, 1) := by decide +kernel
theorem dX8_as_31 : decode cX8_as 31 = .ok (.iadd, 1) := by decide +kernel
theorem dX8_as_32 : decode cX8_as 32 = .ok (.iaload, 1) := by decide +kernel
theorem dX8_as_33 : decode cX8_as 33 = .ok (.iload_n 2, 1) := by decide +kernel
theorem dX8_as_34 : decode cX8_as 34 = .ok (.invokestatic 265, 3) := by decide +kernel
theorem dX8_as_37 : decode cX8_as 37 = .ok (.ifCond .eq 7, 3) := by decide +kernel
theorem dX8_as_40 : decode cX8_as 40 = .ok (.iconst 0, 1) := by decide +kernel
theorem dX8_as_41 : decode cX8_as 41 = .ok (.goto 4, 3) := by decide +kernel
theorem dX8_as_44 : decode cX8_as 44 = .ok (.iconst 3, 1) := by decide +kernel
theorem dX8_as_45 : decode cX8_as 45 = .ok (.iload_n 1, 1) := by decide +kernel
theorem dX8_as_46 : decode cX8_as 46 = .ok (.invokevirtual 64, 3) := by decide +kernel
theorem dX8_as_49 : decode cX8_as 49 = .ok (.ireturn, 1) := by decide +kernel
theorem dX8_leave_0 : decode cX8_leave 0 = .ok (.aload_n 0, 1) := by decide +kernel
theorem dX8_leave_1 : decode cX8_leave 1 = .ok (.getfield 268, 3) := by decide +kernel
theorem dX8_leave_4 : decode cX8_leave 4 = .ok (.bipush 16, 2) := by decide +kernel
theorem dX8_leave_6 : decode cX8_leave 6 = .ok (.if_icmp .ge 23, 3) := by decide +kernel
theorem dX8_leave_9 : decode cX8_leave 9 = .ok (.aload_n 0, 1) := by decide +kernel
theorem dX8_leave_10 : decode cX8_leave 10 = .ok (.getfield 34, 3) := by decide +kernel
theorem dX8_leave_13 : decode cX8_leave 13 = .ok (.aload_n 0, 1) := by decide +kernel
theorem dX8_leave_14 : decode cX8_leave 14 = .ok (.getfield 268, 3) := by decide +kernel
theorem dX8_leave_17 : decode cX8_leave 17 = .ok (.iload_n 1, 1) := by decide +kernel
theorem dX8_leave_18 : decode cX8_leave 18 = .ok (.iastore, 1) := by decide +kernel
theorem dX8_leave_19 : decode cX8_leave 19 = .ok (.aload_n 0, 1) := by decide +kernel
theorem dX8_leave_20 : decode cX8_leave 20 = .ok (.dup, 1) := by decide +kernel
theorem dX8_leave_21 : decode cX8_leave 21 = .ok (.getfield 268, 3) := by decide +kernel
theorem dX8_leave_24 : decode cX8_leave 24 = .ok (.iconst 1, 1) := by decide +kernel
theorem dX8_leave_25 : decode cX8_leave 25 = .ok (.iadd, 1) := by decide +kernel
theorem dX8_leave_26 : decode cX8_leave 26 = .ok (.putfield 268, 3) := by decide +kernel
theorem dX8_leave_29 : decode cX8_leave 29 = .ok (.return_, 1) := by decide +kernel
set_option maxRecDepth 20000 in
theorem ggX8_markOfFixed_X8_leave : GoodIn wsX8_markOfFixed wsX8_leave := goodIn_r _ [5, 6, 7, 13, 14, 15, 16, 17, 18, 19, 20, 21, 22, 23, 24, 25, 26, 27, 28, 29, 30, 31, 32, 33] (by decide +kernel) (by decide +kernel)
set_option maxRecDepth 20000 in
theorem gX8_markOfFixed_X8_leave : GoodIn wsX8_markOfFixed (wsV RX8 271 RX8 yX8_leave wsX8_leave) := goodIn_app (goodIn_of _ (by decide +kernel)) ggX8_markOfFixed_X8_leave
set_option maxRecDepth 20000 in
theorem ggX8_markOfFixed_X8_of : GoodIn wsX8_markOfFixed wsX8_of := goodIn_r _ [11, 12, 13, 14, 15, 16, 17, 18, 19, 20, 21, 22, 23, 24, 25, 26, 27, 28, 29, 30, 31, 32, 33] (by decide +kernel) (by decide +kernel)
set_option maxRecDepth 20000 in
theorem gX8_markOfFixed_X8_of : GoodIn wsX8_markOfFixed (wsV RX8 177 RX8 yX8_of wsX8_of) := goodIn_app (goodIn_of _ (by decide +kernel)) ggX8_markOfFixed_X8_of
theorem dX8_markOfFixed_0 : decode cX8_markOfFixed 0 = .ok (.aload_n 0, 1) := by decide +kernel
theorem dX8_markOfFixed_1 : decode cX8_markOfFixed 1 = .ok (.bipush 21, 2) := by decide +kernel
theorem dX8_markOfFixed_3 : decode cX8_markOfFixed 3 = .ok (.invokevirtual 271, 3) := by decide +kernel
theorem dX8_markOfFixed_6 : decode cX8_markOfFixed 6 = .ok (.aload_n 0, 1) := by decide +kernel
theorem dX8_markOfFixed_7 : decode cX8_markOfFixed 7 = .ok (.bipush 20, 2) := by decide +kernel
theorem dX8_markOfFixed_9 : decode cX8_markOfFixed 9 = .ok (.invokevirtual 271, 3) := by decide +kernel
theorem dX8_markOfFixed_12 : decode cX8_markOfFixed 12 = .ok (.iload_n 1, 1) := by decide +kernel
theorem dX8_markOfFixed_13 : decode cX8_markOfFixed 13 = .ok (.bipush 10, 2) := by decide +kernel
theorem dX8_markOfFixed_15 : decode cX8_markOfFixed 15 = .ok (.aload_n 0, 1) := by decide +kernel
theorem dX8_markOfFixed_16 : decode cX8_markOfFixed 16 = .ok (.iload_n 1, 1) := by decide +kernel
theorem dX8_markOfFixed_17 : decode cX8_markOfFixed 17 = .ok (.iconst 0, 1) := by decide +kernel
theorem dX8_markOfFixed_18 : decode cX8_markOfFixed 18 = .ok (.invokevirtual 177, 3) := by decide +kernel
theorem dX8_markOfFixed_21 : decode cX8_markOfFixed 21 = .ok (.imul, 1) := by decide +kernel
theorem dX8_markOfFixed_22 : decode cX8_markOfFixed 22 = .ok (.iadd, 1) := by decide +kernel
theorem dX8_markOfFixed_23 : decode cX8_markOfFixed 23 = .ok (.ireturn, 1) := by decide +kernel
set_option maxRecDepth 20000 in
theorem ggX8_markOfHooded_X8_leave : GoodIn wsX8_markOfHooded wsX8_leave := goodIn_r _ [5, 6, 7, 17, 18, 19, 20, 21, 22, 23, 24, 25, 26, 27, 28, 29, 30, 31, 32, 33, 34, 35, 36, 37] (by decide +kernel) (by decide +kernel)
set_option maxRecDepth 20000 in
theorem gX8_markOfHooded_X8_leave : GoodIn wsX8_markOfHooded (wsV RX8 271 RX8 yX8_leave wsX8_leave) := goodIn_app (goodIn_of _ (by decide +kernel)) ggX8_markOfHooded_X8_leave
set_option maxRecDepth 20000 in
theorem ggX8_markOfHooded_X8_markOfFixed : GoodIn wsX8_markOfHooded wsX8_markOfFixed := goodIn_r _ [11, 1, 2, 3, 4, 5, 6, 7, 12, 13, 14, 15, 16, 17, 18, 19, 20, 21, 22, 23, 24, 25, 26, 27, 28, 29, 30, 31, 32, 33, 34, 35, 36, 37] (by decide +kernel) (by decide +kernel)
set_option maxRecDepth 20000 in
theorem gX8_markOfHooded_X8_markOfFixed : GoodIn wsX8_markOfHooded (wsV RX8 275 RX8 yX8_markOfFixed wsX8_markOfFixed) := goodIn_app (goodIn_of _ (by decide +kernel)) ggX8_markOfHooded_X8_markOfFixed
set_option maxRecDepth 20000 in
theorem ggX8_markOfHooded_X8_of : GoodIn wsX8_markOfHooded wsX8_of := goodIn_r _ [15, 16, 17, 18, 19, 20, 21, 22, 23, 24, 25, 26, 27, 28, 29, 30, 31, 32, 33, 34, 35, 36, 37] (by decide +kernel) (by decide +kernel)
set_option maxRecDepth 20000 in
theorem gX8_markOfHooded_X8_of : GoodIn wsX8_markOfHooded (wsV RX8 177 RX8 yX8_of wsX8_of) := goodIn_app (goodIn_of _ (by decide +kernel)) ggX8_markOfHooded_X8_of
theorem dX8_markOfHooded_0 : decode cX8_markOfHooded 0 = .ok (.aload_n 0, 1) := by decide +kernel
theorem dX8_markOfHooded_1 : decode cX8_markOfHooded 1 = .ok (.bipush 22, 2) := by decide +kernel
theorem dX8_markOfHooded_3 : decode cX8_markOfHooded 3 = .ok (.invokevirtual 271, 3) := by decide +kernel
theorem dX8_markOfHooded_6 : decode cX8_markOfHooded 6 = .ok (.aload_n 0, 1) := by decide +kernel
theorem dX8_markOfHooded_7 : decode cX8_markOfHooded 7 = .ok (.iload_n 1, 1) := by decide +kernel
theorem dX8_markOfHooded_8 : decode cX8_markOfHooded 8 = .ok (.invokevirtual 275, 3) := by decide +kernel
theorem dX8_markOfHooded_11 : decode cX8_markOfHooded 11 = .ok (.aload_n 0, 1) := by decide +kernel
theorem dX8_markOfHooded_12 : decode cX8_markOfHooded 12 = .ok (.iload_n 1, 1) := by decide +kernel
theorem dX8_markOfHooded_13 : decode cX8_markOfHooded 13 = .ok (.iconst 2, 1) := by decide +kernel
theorem dX8_markOfHooded_14 : decode cX8_markOfHooded 14 = .ok (.invokevirtual 177, 3) := by decide +kernel
theorem dX8_markOfHooded_17 : decode cX8_markOfHooded 17 = .ok (.isub, 1) := by decide +kernel
theorem dX8_markOfHooded_18 : decode cX8_markOfHooded 18 = .ok (.ireturn, 1) := by decide +kernel
set_option maxRecDepth 20000 in
theorem ggX8_sizeOfMill_X8_leave : GoodIn wsX8_sizeOfMill wsX8_leave := goodIn_r _ [5, 6, 7, 13, 14, 15, 16, 17, 18, 19, 20, 21, 22, 23, 24, 25, 26, 27, 28, 29, 30, 31, 32, 33] (by decide +kernel) (by decide +kernel)
set_option maxRecDepth 20000 in
theorem gX8_sizeOfMill_X8_leave : GoodIn wsX8_sizeOfMill (wsV RX8 271 RX8 yX8_leave wsX8_leave) := goodIn_app (goodIn_of _ (by decide +kernel)) ggX8_sizeOfMill_X8_leave
set_option maxRecDepth 20000 in
theorem ggX8_sizeOfMill_X8_of : GoodIn wsX8_sizeOfMill wsX8_of := goodIn_r _ [11, 12, 13, 14, 15, 16, 17, 18, 19, 20, 21, 22, 23, 24, 25, 26, 27, 28, 29, 30, 31, 32, 33] (by decide +kernel) (by decide +kernel)
set_option maxRecDepth 20000 in
theorem gX8_sizeOfMill_X8_of : GoodIn wsX8_sizeOfMill (wsV RX8 177 RX8 yX8_of wsX8_of) := goodIn_app (goodIn_of _ (by decide +kernel)) ggX8_sizeOfMill_X8_of
theorem dX8_sizeOfMill_0 : decode cX8_sizeOfMill 0 = .ok (.aload_n 0, 1) := by decide +kernel
theorem dX8_sizeOfMill_1 : decode cX8_sizeOfMill 1 = .ok (.bipush 10, 2) := by decide +kernel
theorem dX8_sizeOfMill_3 : decode cX8_sizeOfMill 3 = .ok (.invokevirtual 271, 3) := by decide +kernel
theorem dX8_sizeOfMill_6 : decode cX8_sizeOfMill 6 = .ok (.aload_n 0, 1) := by decide +kernel
theorem dX8_sizeOfMill_7 : decode cX8_sizeOfMill 7 = .ok (.iload_n 1, 1) := by decide +kernel
theorem dX8_sizeOfMill_8 : decode cX8_sizeOfMill 8 = .ok (.iconst 4, 1) := by decide +kernel
theorem dX8_sizeOfMill_9 : decode cX8_sizeOfMill 9 = .ok (.invokevirtual 177, 3) := by decide +kernel
theorem dX8_sizeOfMill_12 : decode cX8_sizeOfMill 12 = .ok (.ireturn, 1) := by decide +kernel
set_option maxRecDepth 20000 in
theorem ggX8_sizeOfWater_X8_leave : GoodIn wsX8_sizeOfWater wsX8_leave := goodIn_r _ [5, 6, 7, 17, 18, 19, 20, 21, 22, 23, 24, 25, 26, 27, 28, 29, 30, 31, 32, 33, 34, 35, 36, 37] (by decide +kernel) (by decide +kernel)
set_option maxRecDepth 20000 in
theorem gX8_sizeOfWater_X8_leave : GoodIn wsX8_sizeOfWater (wsV RX8 271 RX8 yX8_leave wsX8_leave) := goodIn_app (goodIn_of _ (by decide +kernel)) ggX8_sizeOfWater_X8_leave
set_option maxRecDepth 20000 in
theorem ggX8_sizeOfWater_X8_sizeOfMill : GoodIn wsX8_sizeOfWater wsX8_sizeOfMill := goodIn_r _ [11, 1, 2, 3, 4, 5, 6, 7, 12, 13, 14, 15, 16, 17, 18, 19, 20, 21, 22, 23, 24, 25, 26, 27, 28, 29, 30, 31, 32, 33, 34, 35, 36, 37] (by decide +kernel) (by decide +kernel)
set_option maxRecDepth 20000 in
theorem gX8_sizeOfWater_X8_sizeOfMill : GoodIn wsX8_sizeOfWater (wsV RX8 278 RX8 yX8_sizeOfMill wsX8_sizeOfMill) := goodIn_app (goodIn_of _ (by decide +kernel)) ggX8_sizeOfWater_X8_sizeOfMill
theorem dX8_sizeOfWater_0 : decode cX8_sizeOfWater 0 = .ok (.aload_n 0, 1) := by decide +kernel
theorem dX8_sizeOfWater_1 : decode cX8_sizeOfWater 1 = .ok (.bipush 13, 2) := by decide +kernel
theorem dX8_sizeOfWater_3 : decode cX8_sizeOfWater 3 = .ok (.invokevirtual 271, 3) := by decide +kernel
theorem dX8_sizeOfWater_6 : decode cX8_sizeOfWater 6 = .ok (.aload_n 0, 1) := by decide +kernel
theorem dX8_sizeOfWater_7 : decode cX8_sizeOfWater 7 = .ok (.iload_n 1, 1) := by decide +kernel
theorem dX8_sizeOfWater_8 : decode cX8_sizeOfWater 8 = .ok (.invokevirtual 278, 3) := by decide +kernel
theorem dX8_sizeOfWater_11 : decode cX8_sizeOfWater 11 = .ok (.bipush 100, 2) := by decide +kernel
theorem dX8_sizeOfWater_13 : decode cX8_sizeOfWater 13 = .ok (.isub, 1) := by decide +kernel
theorem dX8_sizeOfWater_14 : decode cX8_sizeOfWater 14 = .ok (.ireturn, 1) := by decide +kernel
set_option maxRecDepth 20000 in
theorem ggX8_mark_X8_markOfHooded : GoodIn wsX8_mark wsX8_markOfHooded := goodIn_r _ [6, 7, 8, 9, 5, 10, 11, 12, 13, 14, 15, 16, 17, 18, 19, 20, 1, 29, 30, 31, 32, 33, 34, 35, 36, 37, 38, 39, 40, 41, 42, 43, 44, 45, 46, 47, 48, 49] (by decide +kernel) (by decide +kernel)
set_option maxRecDepth 20000 in
theorem gX8_mark_X8_markOfHooded : GoodIn wsX8_mark (wsV RX8 281 RX8 yX8_markOfHooded wsX8_markOfHooded) := goodIn_app (goodIn_of _ (by decide +kernel)) ggX8_mark_X8_markOfHooded
set_option maxRecDepth 20000 in
theorem ggX8_mark_X8_leave : GoodIn wsX8_mark wsX8_leave := goodIn_r _ [10, 11, 12, 29, 30, 31, 32, 33, 34, 35, 36, 37, 38, 39, 40, 41, 42, 43, 44, 45, 46, 47, 48, 49] (by decide +kernel) (by decide +kernel)
set_option maxRecDepth 20000 in
theorem gX8_mark_X8_leave : GoodIn wsX8_mark (wsV RX8 271 RX8 yX8_leave wsX8_leave) := goodIn_app (goodIn_of _ (by decide +kernel)) ggX8_mark_X8_leave
set_option maxRecDepth 20000 in
theorem ggX8_mark_X8_sizeOfWater : GoodIn wsX8_mark wsX8_sizeOfWater := goodIn_r _ [24, 7, 8, 9, 5, 10, 11, 12, 25, 26, 27, 28, 17, 18, 19, 20, 1, 29, 30, 31, 32, 33, 34, 35, 36, 37, 38, 39, 40, 41, 42, 43, 44, 45, 46, 47, 48, 49] (by decide +kernel) (by decide +kernel)
set_option maxRecDepth 20000 in
theorem gX8_mark_X8_sizeOfWater : GoodIn wsX8_mark (wsV RX8 284 RX8 yX8_sizeOfWater wsX8_sizeOfWater) := goodIn_app (goodIn_of _ (by decide +kernel)) ggX8_mark_X8_sizeOfWater
set_option maxRecDepth 20000 in
theorem ggX8_mark_X8_markOfFixed : GoodIn wsX8_mark wsX8_markOfFixed := goodIn_r _ [16, 7, 8, 9, 5, 10, 11, 12, 17, 18, 19, 20, 1, 29, 30, 31, 32, 33, 34, 35, 36, 37, 38, 39, 40, 41, 42, 43, 44, 45, 46, 47, 48, 49] (by decide +kernel) (by decide +kernel)
set_option maxRecDepth 20000 in
theorem gX8_mark_X8_markOfFixed : GoodIn wsX8_mark (wsV RX8 275 RX8 yX8_markOfFixed wsX8_markOfFixed) := goodIn_app (goodIn_of _ (by decide +kernel)) ggX8_mark_X8_markOfFixed
theorem dX8_mark_0 : decode cX8_mark 0 = .ok (.aload_n 0, 1) := by decide +kernel
theorem dX8_mark_1 : decode cX8_mark 1 = .ok (.getfield 22, 3) := by decide +kernel
theorem dX8_mark_4 : decode cX8_mark 4 = .ok (.bipush 85, 2) := by decide +kernel
theorem dX8_mark_6 : decode cX8_mark 6 = .ok (.iload_n 1, 1) := by decide +kernel
theorem dX8_mark_7 : decode cX8_mark 7 = .ok (.iadd, 1) := by decide +kernel
theorem dX8_mark_8 : decode cX8_mark 8 = .ok (.iaload, 1) := by decide +kernel
theorem dX8_mark_9 : decode cX8_mark 9 = .ok (.tableswitch 67 2 4 #[27, 33, 47], 27) := by decide +kernel
theorem dX8_mark_36 : decode cX8_mark 36 = .ok (.aload_n 0, 1) := by decide +kernel
theorem dX8_mark_37 : decode cX8_mark 37 = .ok (.iload_n 1, 1) := by decide +kernel
theorem dX8_mark_38 : decode cX8_mark 38 = .ok (.invokevirtual 281, 3) := by decide +kernel
theorem dX8_mark_41 : decode cX8_mark 41 = .ok (.ireturn, 1) := by decide +kernel
theorem dX8_mark_42 : decode cX8_mark 42 = .ok (.aload_n 0, 1) := by decide +kernel
theorem dX8_mark_43 : decode cX8_mark 43 = .ok (.bipush 24, 2) := by decide +kernel
theorem dX8_mark_45 : decode cX8_mark 45 = .ok (.invokevirtual 271, 3) := by decide +kernel
theorem dX8_mark_48 : decode cX8_mark 48 = .ok (.iconst 2, 1) := by decide +kernel
theorem dX8_mark_49 : decode cX8_mark 49 = .ok (.aload_n 0, 1) := by decide +kernel
theorem dX8_mark_50 : decode cX8_mark 50 = .ok (.iload_n 1, 1) := by decide +kernel
theorem dX8_mark_51 : decode cX8_mark 51 = .ok (.invokevirtual 281, 3) := by decide +kernel
theorem dX8_mark_54 : decode cX8_mark 54 = .ok (.imul, 1) := by decide +kernel
theorem dX8_mark_55 : decode cX8_mark 55 = .ok (.ireturn, 1) := by decide +kernel
theorem dX8_mark_56 : decode cX8_mark 56 = .ok (.aload_n 0, 1) := by decide +kernel
theorem dX8_mark_57 : decode cX8_mark 57 = .ok (.bipush 23, 2) := by decide +kernel
theorem dX8_mark_59 : decode cX8_mark 59 = .ok (.invokevirtual 271, 3) := by decide +kernel
theorem dX8_mark_62 : decode cX8_mark 62 = .ok (.aload_n 0, 1) := by decide +kernel
theorem dX8_mark_63 : decode cX8_mark 63 = .ok (.bipush 20, 2) := by decide +kernel
theorem dX8_mark_65 : decode cX8_mark 65 = .ok (.invokevirtual 271, 3) := by decide +kernel
theorem dX8_mark_68 : decode cX8_mark 68 = .ok (.iload_n 1, 1) := by decide +kernel
theorem dX8_mark_69 : decode cX8_mark 69 = .ok (.aload_n 0, 1) := by decide +kernel
theorem dX8_mark_70 : decode cX8_mark 70 = .ok (.iload_n 1, 1) := by decide +kernel
theorem dX8_mark_71 : decode cX8_mark 71 = .ok (.invokevirtual 284, 3) := by decide +kernel
theorem dX8_mark_74 : decode cX8_mark 74 = .ok (.iadd, 1) := by decide +kernel
theorem dX8_mark_75 : decode cX8_mark 75 = .ok (.ireturn, 1) := by decide +kernel
theorem dX8_mark_76 : decode cX8_mark 76 = .ok (.aload_n 0, 1) := by decide +kernel
theorem dX8_mark_77 : decode cX8_mark 77 = .ok (.iload_n 1, 1) := by decide +kernel
theorem dX8_mark_78 : decode cX8_mark 78 = .ok (.invokevirtual 275, 3) := by decide +kernel
theorem dX8_mark_81 : decode cX8_mark 81 = .ok (.ireturn, 1) := by decide +kernel
set_option maxRecDepth 20000 in
theorem ggX8_sizeOfFixed_X8_leave : GoodIn wsX8_sizeOfFixed wsX8_leave := goodIn_r _ [5, 6, 7, 33, 34, 35, 36, 37, 38, 39, 40, 41, 42, 43, 44, 45, 46, 47, 48, 49, 50, 51, 52, 53] (by decide +kernel) (by decide +kernel)
set_option maxRecDepth 20000 in
theorem gX8_sizeOfFixed_X8_leave : GoodIn wsX8_sizeOfFixed (wsV RX8 271 RX8 yX8_leave wsX8_leave) := goodIn_app (goodIn_of _ (by decide +kernel)) ggX8_sizeOfFixed_X8_leave
set_option maxRecDepth 20000 in
theorem ggX8_sizeOfFixed_X8_sizeOfMill : GoodIn wsX8_sizeOfFixed wsX8_sizeOfMill := goodIn_r _ [11, 1, 2, 3, 4, 5, 6, 7, 12, 13, 14, 15, 16, 33, 34, 35, 36, 37, 38, 39, 40, 41, 42, 43, 44, 45, 46, 47, 48, 49, 50, 51, 52, 53] (by decide +kernel) (by decide +kernel)
set_option maxRecDepth 20000 in
theorem gX8_sizeOfFixed_X8_sizeOfMill : GoodIn wsX8_sizeOfFixed (wsV RX8 278 RX8 yX8_sizeOfMill wsX8_sizeOfMill) := goodIn_app (goodIn_of _ (by decide +kernel)) ggX8_sizeOfFixed_X8_sizeOfMill
set_option maxRecDepth 20000 in
theorem ggX8_sizeOfFixed_X8_mark : GoodIn wsX8_sizeOfFixed wsX8_mark := goodIn_r _ [20, 16, 21, 22, 23, 4, 24, 1, 2, 3, 5, 6, 7, 25, 26, 27, 28, 12, 13, 14, 15, 29, 30, 31, 32, 8, 9, 10, 11, 33, 34, 35, 36, 37, 38, 39, 40, 41, 42, 43, 44, 45, 46, 47, 48, 49, 50, 51, 52, 53] (by decide +kernel) (by decide +kernel)
set_option maxRecDepth 20000 in
theorem gX8_sizeOfFixed_X8_mark : GoodIn wsX8_sizeOfFixed (wsV RX8 287 RX8 yX8_mark wsX8_mark) := goodIn_app (goodIn_of _ (by decide +kernel)) ggX8_sizeOfFixed_X8_mark
theorem dX8_sizeOfFixed_0 : decode cX8_sizeOfFixed 0 = .ok (.aload_n 0, 1) := by decide +kernel
theorem dX8_sizeOfFixed_1 : decode cX8_sizeOfFixed 1 = .ok (.bipush 11, 2) := by decide +kernel
theorem dX8_sizeOfFixed_3 : decode cX8_sizeOfFixed 3 = .ok (.invokevirtual 271, 3) := by decide +kernel
theorem dX8_sizeOfFixed_6 : decode cX8_sizeOfFixed 6 = .ok (.aload_n 0, 1) := by decide +kernel
theorem dX8_sizeOfFixed_7 : decode cX8_sizeOfFixed 7 = .ok (.iload_n 1, 1) := by decide +kernel
theorem dX8_sizeOfFixed_8 : decode cX8_sizeOfFixed 8 = .ok (.invokevirtual 278, 3) := by decide +kernel
theorem dX8_sizeOfFixed_11 : decode cX8_sizeOfFixed 11 = .ok (.aload_n 0, 1) := by decide +kernel
theorem dX8_sizeOfFixed_12 : decode cX8_sizeOfFixed 12 = .ok (.iload_n 1, 1) := by decide +kernel
theorem dX8_sizeOfFixed_13 : decode cX8_sizeOfFixed 13 = .ok (.invokevirtual 287, 3) := by decide +kernel
theorem dX8_sizeOfFixed_16 : decode cX8_sizeOfFixed 16 = .ok (.iadd, 1) := by decide +kernel
theorem dX8_sizeOfFixed_17 : decode cX8_sizeOfFixed 17 = .ok (.ireturn, 1) := by decide +kernel
set_option maxRecDepth 20000 in
theorem ggX8_size_X8_leave : GoodIn wsX8_size wsX8_leave := goodIn_r _ [6, 7, 8, 37, 38, 39, 40, 41, 42, 43, 44, 45, 46, 47, 48, 49, 50, 51, 52, 53, 54, 55, 56, 57] (by decide +kernel) (by decide +kernel)
set_option maxRecDepth 20000 in
theorem gX8_size_X8_leave : GoodIn wsX8_size (wsV RX8 271 RX8 yX8_leave wsX8_leave) := goodIn_app (goodIn_of _ (by decide +kernel)) ggX8_size_X8_leave
set_option maxRecDepth 20000 in
theorem ggX8_size_X8_sizeOfFixed : GoodIn wsX8_size wsX8_sizeOfFixed := goodIn_r _ [12, 2, 3, 4, 5, 6, 7, 8, 13, 14, 15, 16, 17, 18, 19, 20, 1, 21, 22, 23, 24, 25, 26, 27, 28, 29, 30, 31, 32, 33, 34, 35, 36, 37, 38, 39, 40, 41, 42, 43, 44, 45, 46, 47, 48, 49, 50, 51, 52, 53, 54, 55, 56, 57] (by decide +kernel) (by decide +kernel)
set_option maxRecDepth 20000 in
theorem gX8_size_X8_sizeOfFixed : GoodIn wsX8_size (wsV RX8 290 RX8 yX8_sizeOfFixed wsX8_sizeOfFixed) := goodIn_app (goodIn_of _ (by decide +kernel)) ggX8_size_X8_sizeOfFixed
set_option maxRecDepth 20000 in
theorem ggX8_size_X8_sizeOfWater : GoodIn wsX8_size wsX8_sizeOfWater := goodIn_r _ [36, 2, 3, 4, 5, 6, 7, 8, 13, 14, 15, 16, 17, 18, 19, 20, 1, 37, 38, 39, 40, 41, 42, 43, 44, 45, 46, 47, 48, 49, 50, 51, 52, 53, 54, 55, 56, 57] (by decide +kernel) (by decide +kernel)
set_option maxRecDepth 20000 in
theorem gX8_size_X8_sizeOfWater : GoodIn wsX8_size (wsV RX8 284 RX8 yX8_sizeOfWater wsX8_sizeOfWater) := goodIn_app (goodIn_of _ (by decide +kernel)) ggX8_size_X8_sizeOfWater
theorem dX8_size_0 : decode cX8_size 0 = .ok (.aload_n 0, 1) := by decide +kernel
theorem dX8_size_1 : decode cX8_size 1 = .ok (.getfield 22, 3) := by decide +kernel
theorem dX8_size_4 : decode cX8_size 4 = .ok (.bipush 85, 2) := by decide +kernel
theorem dX8_size_6 : decode cX8_size 6 = .ok (.iload_n 1, 1) := by decide +kernel
theorem dX8_size_7 : decode cX8_size 7 = .ok (.iadd, 1) := by decide +kernel
theorem dX8_size_8 : decode cX8_size 8 = .ok (.iaload, 1) := by decide +kernel
theorem dX8_size_9 : decode cX8_size 9 = .ok (.tableswitch 60 3 5 #[27, 40, 46], 27) := by decide +kernel
theorem dX8_size_36 : decode cX8_size 36 = .ok (.aload_n 0, 1) := by decide +kernel
theorem dX8_size_37 : decode cX8_size 37 = .ok (.bipush 12, 2) := by decide +kernel
theorem dX8_size_39 : decode cX8_size 39 = .ok (.invokevirtual 271, 3) := by decide +kernel
theorem dX8_size_42 : decode cX8_size 42 = .ok (.aload_n 0, 1) := by decide +kernel
theorem dX8_size_43 : decode cX8_size 43 = .ok (.iload_n 1, 1) := by decide +kernel
theorem dX8_size_44 : decode cX8_size 44 = .ok (.invokevirtual 290, 3) := by decide +kernel
theorem dX8_size_47 : decode cX8_size 47 = .ok (.ineg, 1) := by decide +kernel
theorem dX8_size_48 : decode cX8_size 48 = .ok (.ireturn, 1) := by decide +kernel
theorem dX8_size_49 : decode cX8_size 49 = .ok (.aload_n 0, 1) := by decide +kernel
theorem dX8_size_50 : decode cX8_size 50 = .ok (.iload_n 1, 1) := by decide +kernel
theorem dX8_size_51 : decode cX8_size 51 = .ok (.invokevirtual 284, 3) := by decide +kernel
theorem dX8_size_54 : decode cX8_size 54 = .ok (.ireturn, 1) := by decide +kernel
theorem dX8_size_55 : decode cX8_size 55 = .ok (.aload_n 0, 1) := by decide +kernel
theorem dX8_size_56 : decode cX8_size 56 = .ok (.bipush 14, 2) := by decide +kernel
theorem dX8_size_58 : decode cX8_size 58 = .ok (.invokevirtual 271, 3) := by decide +kernel
theorem dX8_size_61 : decode cX8_size 61 = .ok (.iconst 2, 1) := by decide +kernel
theorem dX8_size_62 : decode cX8_size 62 = .ok (.aload_n 0, 1) := by decide +kernel
theorem dX8_size_63 : decode cX8_size 63 = .ok (.iload_n 1, 1) := by decide +kernel
theorem dX8_size_64 : decode cX8_size 64 = .ok (.invokevirtual 290, 3) := by decide +kernel
theorem dX8_size_67 : decode cX8_size 67 = .ok (.imul, 1) := by decide +kernel
theorem dX8_size_68 : decode cX8_size 68 = .ok (.ireturn, 1) := by decide +kernel
theorem dX8_size_69 : decode cX8_size 69 = .ok (.aload_n 0, 1) := by decide +kernel
theorem dX8_size_70 : decode cX8_size 70 = .ok (.iload_n 1, 1) := by decide +kernel
theorem dX8_size_71 : decode cX8_size 71 = .ok (.invokevirtual 290, 3) := by decide +kernel
theorem dX8_size_74 : decode cX8_size 74 = .ok (.ireturn, 1) := by decide +kernel
set_option maxRecDepth 20000 in
theorem ggX8_ask_X8_isMill : GoodIn wsX8_ask wsX8_isMill := goodIn_r _ [7, 8, 9, 10, 6, 11, 49, 50, 51, 52, 53, 54, 55, 56, 57, 58, 59, 60, 61, 62, 63, 64, 65, 66, 67, 68, 69] (by decide +kernel) (by decide +kernel)
set_option maxRecDepth 20000 in
theorem gX8_ask_X8_isMill : GoodIn wsX8_ask (wsV RX8 174 RX8 yX8_isMill wsX8_isMill) := goodIn_app (goodIn_of _ (by decide +kernel)) ggX8_ask_X8_isMill
set_option maxRecDepth 20000 in
theorem ggX8_ask_X8_in : GoodIn wsX8_ask wsX8_in := goodIn_r _ [11] (by decide +kernel) (by decide +kernel)
set_option maxRecDepth 20000 in
theorem gX8_ask_X8_in : GoodIn wsX8_ask (va_wsS RX8 53 yX8_in wsX8_in) := goodIn_app (goodIn_of _ (by decide +kernel)) ggX8_ask_X8_in
set_option maxRecDepth 20000 in
theorem ggX8_ask_X8_size : GoodIn wsX8_ask wsX8_size := goodIn_r _ [15, 8, 16, 17, 18, 6, 19, 2, 20, 21, 22, 23, 24, 25, 26, 27, 28, 29, 30, 31, 32, 33, 34, 35, 36, 37, 38, 39, 40, 41, 42, 43, 44, 45, 46, 47, 48, 49, 50, 51, 52, 53, 54, 55, 56, 57, 58, 59, 60, 61, 62, 63, 64, 65, 66, 67, 68, 69] (by decide +kernel) (by decide +kernel)
set_option maxRecDepth 20000 in
theorem gX8_ask_X8_size : GoodIn wsX8_ask (wsV RX8 293 RX8 yX8_size wsX8_size) := goodIn_app (goodIn_of _ (by decide +kernel)) ggX8_ask_X8_size
set_option maxRecDepth 20000 in
theorem ggX8_ask_X8_mark : GoodIn wsX8_ask wsX8_mark := goodIn_r _ [36, 8, 37, 38, 39, 6, 40, 16, 17, 18, 19, 2, 20, 41, 42, 43, 44, 29, 30, 31, 32, 45, 46, 47, 48, 25, 26, 27, 28, 49, 50, 51, 52, 53, 54, 55, 56, 57, 58, 59, 60, 61, 62, 63, 64, 65, 66, 67, 68, 69] (by decide +kernel) (by decide +kernel)
set_option maxRecDepth 20000 in
theorem gX8_ask_X8_mark : GoodIn wsX8_ask (wsV RX8 287 RX8 yX8_mark wsX8_mark) := goodIn_app (goodIn_of _ (by decide +kernel)) ggX8_ask_X8_mark
theorem dX8_ask_0 : decode cX8_ask 0 = .ok (.aload_n 0, 1) := by decide +kernel
theorem dX8_ask_1 : decode cX8_ask 1 = .ok (.iload_n 1, 1) := by decide +kernel
theorem dX8_ask_2 : decode cX8_ask 2 = .ok (.invokevirtual 174, 3) := by decide +kernel
theorem dX8_ask_5 : decode cX8_ask 5 = .ok (.ifCond .eq 13, 3) := by decide +kernel
theorem dX8_ask_8 : decode cX8_ask 8 = .ok (.iload_n 2, 1) := by decide +kernel
theorem dX8_ask_9 : decode cX8_ask 9 = .ok (.i2l, 1) := by decide +kernel
theorem dX8_ask_10 : decode cX8_ask 10 = .ok (.lconst 0, 1) := by decide +kernel
theorem dX8_ask_11 : decode cX8_ask 11 = .ok (.lconst 1, 1) := by decide +kernel
theorem dX8_ask_12 : decode cX8_ask 12 = .ok (.invokestatic 53, 3) := by decide +kernel
theorem dX8_ask_15 : decode cX8_ask 15 = .ok (.ifCond .ne 6, 3) := by decide +kernel
theorem dX8_ask_18 : decode cX8_ask 18 = .ok (.ldc 63, 2) := by decide +kernel
theorem dX8_ask_20 : decode cX8_ask 20 = .ok (.ireturn, 1) := by decide +kernel
theorem dX8_ask_21 : decode cX8_ask 21 = .ok (.aload_n 0, 1) := by decide +kernel
theorem dX8_ask_22 : decode cX8_ask 22 = .ok (.iconst 0, 1) := by decide +kernel
theorem dX8_ask_23 : decode cX8_ask 23 = .ok (.putfield 268, 3) := by decide +kernel
theorem dX8_ask_26 : decode cX8_ask 26 = .ok (.iload_n 2, 1) := by decide +kernel
theorem dX8_ask_27 : decode cX8_ask 27 = .ok (.ifCond .ne 11, 3) := by decide +kernel
theorem dX8_ask_30 : decode cX8_ask 30 = .ok (.aload_n 0, 1) := by decide +kernel
theorem dX8_ask_31 : decode cX8_ask 31 = .ok (.iload_n 1, 1) := by decide +kernel
theorem dX8_ask_32 : decode cX8_ask 32 = .ok (.invokevirtual 293, 3) := by decide +kernel
theorem dX8_ask_35 : decode cX8_ask 35 = .ok (.goto 8, 3) := by decide +kernel
theorem dX8_ask_38 : decode cX8_ask 38 = .ok (.aload_n 0, 1) := by decide +kernel
theorem dX8_ask_39 : decode cX8_ask 39 = .ok (.iload_n 1, 1) := by decide +kernel
theorem dX8_ask_40 : decode cX8_ask 40 = .ok (.invokevirtual 287, 3) := by decide +kernel
theorem dX8_ask_43 : decode cX8_ask 43 = .ok (.ireturn, 1) := by decide +kernel
set_option maxRecDepth 20000 in
theorem ggX8_trace_X8_in : GoodIn wsX8_trace wsX8_in := goodIn_r _ [7] (by decide +kernel) (by decide +kernel)
set_option maxRecDepth 20000 in
theorem gX8_trace_X8_in : GoodIn wsX8_trace (va_wsS RX8 53 yX8_in wsX8_in) := goodIn_app (goodIn_of _ (by decide +kernel)) ggX8_trace_X8_in
theorem dX8_trace_0 : decode cX8_trace 0 = .ok (.iload_n 1, 1) := by decide +kernel
theorem dX8_trace_1 : decode cX8_trace 1 = .ok (.i2l, 1) := by decide +kernel
theorem dX8_trace_2 : decode cX8_trace 2 = .ok (.lconst 0, 1) := by decide +kernel
theorem dX8_trace_3 : decode cX8_trace 3 = .ok (.aload_n 0, 1) := by decide +kernel
theorem dX8_trace_4 : decode cX8_trace 4 = .ok (.getfield 268, 3) := by decide +kernel
theorem dX8_trace_7 : decode cX8_trace 7 = .ok (.iconst 1, 1) := by decide +kernel
theorem dX8_trace_8 : decode cX8_trace 8 = .ok (.isub, 1) := by decide +kernel
theorem dX8_trace_9 : decode cX8_trace 9 = .ok (.i2l, 1) := by decide +kernel
theorem dX8_trace_10 : decode cX8_trace 10 = .ok (.invokestatic 53, 3) := by decide +kernel
theorem dX8_trace_13 : decode cX8_trace 13 = .ok (.ifCond .eq 12, 3) := by decide +kernel
theorem dX8_trace_16 : decode cX8_trace 16 = .ok (.aload_n 0, 1) := by decide +kernel
theorem dX8_trace_17 : decode cX8_trace 17 = .ok (.getfield 34, 3) := by decide +kernel
theorem dX8_trace_20 : decode cX8_trace 20 = .ok (.iload_n 1, 1) := by decide +kernel
theorem dX8_trace_21 : decode cX8_trace 21 = .ok (.iaload, 1) := by decide +kernel
theorem dX8_trace_22 : decode cX8_trace 22 = .ok (.goto 5, 3) := by decide +kernel
theorem dX8_trace_25 : decode cX8_trace 25 = .ok (.ldc 215, 2) := by decide +kernel
theorem dX8_trace_27 : decode cX8_trace 27 = .ok (.ireturn, 1) := by decide +kernel
set_option maxRecDepth 20000 in
theorem ggX8_count_X8_isMissing : GoodIn wsX8_count wsX8_isMissing := goodIn_r _ [8, 9, 14, 15, 16, 17, 18, 19, 20, 21, 22, 23, 24, 25, 26, 27, 28, 29, 30, 31, 32, 33, 34] (by decide +kernel) (by decide +kernel)
set_option maxRecDepth 20000 in
theorem gX8_count_X8_isMissing : GoodIn wsX8_count (wsV RX8 70 RX8 yX8_isMissing wsX8_isMissing) := goodIn_app (goodIn_of _ (by decide +kernel)) ggX8_count_X8_isMissing
set_option maxRecDepth 20000 in
theorem ggX8_count_X8_of : GoodIn wsX8_count wsX8_of := goodIn_r _ [13, 1, 14, 15, 16, 17, 18, 19, 20, 21, 22, 23, 24, 25, 26, 27, 28, 29, 30, 31, 32, 33, 34] (by decide +kernel) (by decide +kernel)
set_option maxRecDepth 20000 in
theorem gX8_count_X8_of : GoodIn wsX8_count (wsV RX8 177 RX8 yX8_of wsX8_of) := goodIn_app (goodIn_of _ (by decide +kernel)) ggX8_count_X8_of
theorem dX8_count_0 : decode cX8_count 0 = .ok (.iconst 0, 1) := by decide +kernel
theorem dX8_count_1 : decode cX8_count 1 = .ok (.istore_n 2, 1) := by decide +kernel
theorem dX8_count_2 : decode cX8_count 2 = .ok (.iload_n 1, 1) := by decide +kernel
theorem dX8_count_3 : decode cX8_count 3 = .ok (.tableswitch 147 0 5 #[37, 69, 76, 83, 112, 142], 37) := by decide +kernel
theorem dX8_count_40 : decode cX8_count 40 = .ok (.iconst 0, 1) := by decide +kernel
theorem dX8_count_41 : decode cX8_count 41 = .ok (.istore_n 3, 1) := by decide +kernel
theorem dX8_count_42 : decode cX8_count 42 = .ok (.iload_n 3, 1) := by decide +kernel
theorem dX8_count_43 : decode cX8_count 43 = .ok (.bipush 8, 2) := by decide +kernel
theorem dX8_count_45 : decode cX8_count 45 = .ok (.if_icmp .ge 25, 3) := by decide +kernel
theorem dX8_count_48 : decode cX8_count 48 = .ok (.iload_n 2, 1) := by decide +kernel
theorem dX8_count_49 : decode cX8_count 49 = .ok (.aload_n 0, 1) := by decide +kernel
theorem dX8_count_50 : decode cX8_count 50 = .ok (.iload_n 3, 1) := by decide +kernel
theorem dX8_count_51 : decode cX8_count 51 = .ok (.invokevirtual 70, 3) := by decide +kernel
theorem dX8_count_54 : decode cX8_count 54 = .ok (.ifCond .eq 7, 3) := by decide +kernel
theorem dX8_count_57 : decode cX8_count 57 = .ok (.iconst 0, 1) := by decide +kernel
theorem dX8_count_58 : decode cX8_count 58 = .ok (.goto 4, 3) := by decide +kernel
theorem dX8_count_61 : decode cX8_count 61 = .ok (.iconst 1, 1) := by decide +kernel
theorem dX8_count_62 : decode cX8_count 62 = .ok (.iadd, 1) := by decide +kernel
theorem dX8_count_63 : decode cX8_count 63 = .ok (.istore_n 2, 1) := by decide +kernel
theorem dX8_count_64 : decode cX8_count 64 = .ok (.iinc 3 1, 3) := by decide +kernel
theorem dX8_count_67 : decode cX8_count 67 = .ok (.goto (-25), 3) := by decide +kernel
theorem dX8_count_70 : decode cX8_count 70 = .ok (.iload_n 2, 1) := by decide +kernel
theorem dX8_count_71 : decode cX8_count 71 = .ok (.ireturn, 1) := by decide +kernel
theorem dX8_count_72 : decode cX8_count 72 = .ok (.aload_n 0, 1) := by decide +kernel
theorem dX8_count_73 : decode cX8_count 73 = .ok (.getfield 22, 3) := by decide +kernel
theorem dX8_count_76 : decode cX8_count 76 = .ok (.iconst 0, 1) := by decide +kernel
theorem dX8_count_77 : decode cX8_count 77 = .ok (.iaload, 1) := by decide +kernel
theorem dX8_count_78 : decode cX8_count 78 = .ok (.ireturn, 1) := by decide +kernel
theorem dX8_count_79 : decode cX8_count 79 = .ok (.aload_n 0, 1) := by decide +kernel
theorem dX8_count_80 : decode cX8_count 80 = .ok (.getfield 22, 3) := by decide +kernel
theorem dX8_count_83 : decode cX8_count 83 = .ok (.iconst 1, 1) := by decide +kernel
theorem dX8_count_84 : decode cX8_count 84 = .ok (.iaload, 1) := by decide +kernel
theorem dX8_count_85 : decode cX8_count 85 = .ok (.ireturn, 1) := by decide +kernel
theorem dX8_count_86 : decode cX8_count 86 = .ok (.iconst 0, 1) := by decide +kernel
theorem dX8_count_87 : decode cX8_count 87 = .ok (.istore_n 3, 1) := by decide +kernel
theorem dX8_count_88 : decode cX8_count 88 = .ok (.iload_n 3, 1) := by decide +kernel
theorem dX8_count_89 : decode cX8_count 89 = .ok (.aload_n 0, 1) := by decide +kernel
theorem dX8_count_90 : decode cX8_count 90 = .ok (.getfield 22, 3) := by decide +kernel
theorem dX8_count_93 : decode cX8_count 93 = .ok (.iconst 0, 1) := by decide +kernel
theorem dX8_count_94 : decode cX8_count 94 = .ok (.iaload, 1) := by decide +kernel
theorem dX8_count_95 : decode cX8_count 95 = .ok (.if_icmp .ge 18, 3) := by decide +kernel
theorem dX8_count_98 : decode cX8_count 98 = .ok (.iload_n 2, 1) := by decide +kernel
theorem dX8_count_99 : decode cX8_count 99 = .ok (.aload_n 0, 1) := by decide +kernel
theorem dX8_count_100 : decode cX8_count 100 = .ok (.iload_n 3, 1) := by decide +kernel
theorem dX8_count_101 : decode cX8_count 101 = .ok (.iconst 4, 1) := by decide +kernel
theorem dX8_count_102 : decode cX8_count 102 = .ok (.invokevirtual 177, 3) := by decide +kernel
theorem dX8_count_105 : decode cX8_count 105 = .ok (.iadd, 1) := by decide +kernel
theorem dX8_count_106 : decode cX8_count 106 = .ok (.istore_n 2, 1) := by decide +kernel
theorem dX8_count_107 : decode cX8_count 107 = .ok (.iinc 3 1, 3) := by decide +kernel
theorem dX8_count_110 : decode cX8_count 110 = .ok (.goto (-22), 3) := by decide +kernel
theorem dX8_count_113 : decode cX8_count 113 = .ok (.iload_n 2, 1) := by decide +kernel
theorem dX8_count_114 : decode cX8_count 114 = .ok (.ireturn, 1) := by decide +kernel
theorem dX8_count_115 : decode cX8_count 115 = .ok (.iconst 0, 1) := by decide +kernel
theorem dX8_count_116 : decode cX8_count 116 = .ok (.istore_n 3, 1) := by decide +kernel
theorem dX8_count_117 : decode cX8_count 117 = .ok (.iload_n 3, 1) := by decide +kernel
theorem dX8_count_118 : decode cX8_count 118 = .ok (.aload_n 0, 1) := by decide +kernel
theorem dX8_count_119 : decode cX8_count 119 = .ok (.getfield 22, 3) := by decide +kernel
theorem dX8_count_122 : decode cX8_count 122 = .ok (.iconst 0, 1) := by decide +kernel
theorem dX8_count_123 : decode cX8_count 123 = .ok (.iaload, 1) := by decide +kernel
theorem dX8_count_124 : decode cX8_count 124 = .ok (.if_icmp .ge 19, 3) := by decide +kernel
theorem dX8_count_127 : decode cX8_count 127 = .ok (.iload_n 2, 1) := by decide +kernel
theorem dX8_count_128 : decode cX8_count 128 = .ok (.aload_n 0, 1) := by decide +kernel
theorem dX8_count_129 : decode cX8_count 129 = .ok (.iload_n 3, 1) := by decide +kernel
theorem dX8_count_130 : decode cX8_count 130 = .ok (.bipush 7, 2) := by decide +kernel
theorem dX8_count_132 : decode cX8_count 132 = .ok (.invokevirtual 177, 3) := by decide +kernel
theorem dX8_count_135 : decode cX8_count 135 = .ok (.iadd, 1) := by decide +kernel
theorem dX8_count_136 : decode cX8_count 136 = .ok (.istore_n 2, 1) := by decide +kernel
theorem dX8_count_137 : decode cX8_count 137 = .ok (.iinc 3 1, 3) := by decide +kernel
theorem dX8_count_140 : decode cX8_count 140 = .ok (.goto (-23), 3) := by decide +kernel
theorem dX8_count_143 : decode cX8_count 143 = .ok (.iload_n 2, 1) := by decide +kernel
theorem dX8_count_144 : decode cX8_count 144 = .ok (.ireturn, 1) := by decide +kernel
theorem dX8_count_145 : decode cX8_count 145 = .ok (.aload_n 0, 1) := by decide +kernel
theorem dX8_count_146 : decode cX8_count 146 = .ok (.getfield 82, 3) := by decide +kernel
theorem dX8_count_149 : decode cX8_count 149 = .ok (.ireturn, 1) := by decide +kernel
theorem dX8_count_150 : decode cX8_count 150 = .ok (.ldc 63, 2) := by decide +kernel
theorem dX8_count_152 : decode cX8_count 152 = .ok (.ireturn, 1) := by decide +kernel
theorem dX8_status_0 : decode cX8_status 0 = .ok (.aload_n 0, 1) := by decide +kernel
theorem dX8_status_1 : decode cX8_status 1 = .ok (.getfield 46, 3) := by decide +kernel
theorem dX8_status_4 : decode cX8_status 4 = .ok (.ireturn, 1) := by decide +kernel
theorem dJ6_bitCount_0f7a4_0 : decode cJ6_bitCount_0f7a4 0 = .ok (.iload_n 0, 1) := by decide +kernel
theorem dJ6_bitCount_0f7a4_1 : decode cJ6_bitCount_0f7a4 1 = .ok (.iload_n 0, 1) := by decide +kernel
theorem dJ6_bitCount_0f7a4_2 : decode cJ6_bitCount_0f7a4 2 = .ok (.iconst 1, 1) := by decide +kernel
theorem dJ6_bitCount_0f7a4_3 : decode cJ6_bitCount_0f7a4 3 = .ok (.iushr, 1) := by decide +kernel
theorem dJ6_bitCount_0f7a4_4 : decode cJ6_bitCount_0f7a4 4 = .ok (.ldc_w 265, 3) := by decide +kernel
theorem dJ6_bitCount_0f7a4_7 : decode cJ6_bitCount_0f7a4 7 = .ok (.iand, 1) := by decide +kernel
theorem dJ6_bitCount_0f7a4_8 : decode cJ6_bitCount_0f7a4 8 = .ok (.isub, 1) := by decide +kernel
theorem dJ6_bitCount_0f7a4_9 : decode cJ6_bitCount_0f7a4 9 = .ok (.istore_n 0, 1) := by decide +kernel
theorem dJ6_bitCount_0f7a4_10 : decode cJ6_bitCount_0f7a4 10 = .ok (.iload_n 0, 1) := by decide +kernel
theorem dJ6_bitCount_0f7a4_11 : decode cJ6_bitCount_0f7a4 11 = .ok (.ldc_w 266, 3) := by decide +kernel
theorem dJ6_bitCount_0f7a4_14 : decode cJ6_bitCount_0f7a4 14 = .ok (.iand, 1) := by decide +kernel
theorem dJ6_bitCount_0f7a4_15 : decode cJ6_bitCount_0f7a4 15 = .ok (.iload_n 0, 1) := by decide +kernel
theorem dJ6_bitCount_0f7a4_16 : decode cJ6_bitCount_0f7a4 16 = .ok (.iconst 2, 1) := by decide +kernel
theorem dJ6_bitCount_0f7a4_17 : decode cJ6_bitCount_0f7a4 17 = .ok (.iushr, 1) := by decide +kernel
theorem dJ6_bitCount_0f7a4_18 : decode cJ6_bitCount_0f7a4 18 = .ok (.ldc_w 266, 3) := by decide +kernel
theorem dJ6_bitCount_0f7a4_21 : decode cJ6_bitCount_0f7a4 21 = .ok (.iand, 1) := by decide +kernel
theorem dJ6_bitCount_0f7a4_22 : decode cJ6_bitCount_0f7a4 22 = .ok (.iadd, 1) := by decide +kernel
theorem dJ6_bitCount_0f7a4_23 : decode cJ6_bitCount_0f7a4 23 = .ok (.istore_n 0, 1) := by decide +kernel
theorem dJ6_bitCount_0f7a4_24 : decode cJ6_bitCount_0f7a4 24 = .ok (.iload_n 0, 1) := by decide +kernel
theorem dJ6_bitCount_0f7a4_25 : decode cJ6_bitCount_0f7a4 25 = .ok (.iload_n 0, 1) := by decide +kernel
theorem dJ6_bitCount_0f7a4_26 : decode cJ6_bitCount_0f7a4 26 = .ok (.iconst 4, 1) := by decide +kernel
theorem dJ6_bitCount_0f7a4_27 : decode cJ6_bitCount_0f7a4 27 = .ok (.iushr, 1) := by decide +kernel
theorem dJ6_bitCount_0f7a4_28 : decode cJ6_bitCount_0f7a4 28 = .ok (.iadd, 1) := by decide +kernel
theorem dJ6_bitCount_0f7a4_29 : decode cJ6_bitCount_0f7a4 29 = .ok (.ldc_w 267, 3) := by decide +kernel
theorem dJ6_bitCount_0f7a4_32 : decode cJ6_bitCount_0f7a4 32 = .ok (.iand, 1) := by decide +kernel
theorem dJ6_bitCount_0f7a4_33 : decode cJ6_bitCount_0f7a4 33 = .ok (.istore_n 0, 1) := by decide +kernel
theorem dJ6_bitCount_0f7a4_34 : decode cJ6_bitCount_0f7a4 34 = .ok (.iload_n 0, 1) := by decide +kernel
theorem dJ6_bitCount_0f7a4_35 : decode cJ6_bitCount_0f7a4 35 = .ok (.iload_n 0, 1) := by decide +kernel
theorem dJ6_bitCount_0f7a4_36 : decode cJ6_bitCount_0f7a4 36 = .ok (.bipush 8, 2) := by decide +kernel
theorem dJ6_bitCount_0f7a4_38 : decode cJ6_bitCount_0f7a4 38 = .ok (.iushr, 1) := by decide +kernel
theorem dJ6_bitCount_0f7a4_39 : decode cJ6_bitCount_0f7a4 39 = .ok (.iadd, 1) := by decide +kernel
theorem dJ6_bitCount_0f7a4_40 : decode cJ6_bitCount_0f7a4 40 = .ok (.istore_n 0, 1) := by decide +kernel
theorem dJ6_bitCount_0f7a4_41 : decode cJ6_bitCount_0f7a4 41 = .ok (.iload_n 0, 1) := by decide +kernel
theorem dJ6_bitCount_0f7a4_42 : decode cJ6_bitCount_0f7a4 42 = .ok (.iload_n 0, 1) := by decide +kernel
theorem dJ6_bitCount_0f7a4_43 : decode cJ6_bitCount_0f7a4 43 = .ok (.bipush 16, 2) := by decide +kernel
theorem dJ6_bitCount_0f7a4_45 : decode cJ6_bitCount_0f7a4 45 = .ok (.iushr, 1) := by decide +kernel
theorem dJ6_bitCount_0f7a4_46 : decode cJ6_bitCount_0f7a4 46 = .ok (.iadd, 1) := by decide +kernel
theorem dJ6_bitCount_0f7a4_47 : decode cJ6_bitCount_0f7a4 47 = .ok (.istore_n 0, 1) := by decide +kernel
theorem dJ6_bitCount_0f7a4_48 : decode cJ6_bitCount_0f7a4 48 = .ok (.iload_n 0, 1) := by decide +kernel
theorem dJ6_bitCount_0f7a4_49 : decode cJ6_bitCount_0f7a4 49 = .ok (.bipush 63, 2) := by decide +kernel
theorem dJ6_bitCount_0f7a4_51 : decode cJ6_bitCount_0f7a4 51 = .ok (.iand, 1) := by decide +kernel
theorem dJ6_bitCount_0f7a4_52 : decode cJ6_bitCount_0f7a4 52 = .ok (.ireturn, 1) := by decide +kernel
theorem dJ9_max_7cf53_0 : decode cJ9_max_7cf53 0 = .ok (.iload_n 0, 1) := by decide +kernel
theorem dJ9_max_7cf53_1 : decode cJ9_max_7cf53 1 = .ok (.iload_n 1, 1) := by decide +kernel
theorem dJ9_max_7cf53_2 : decode cJ9_max_7cf53 2 = .ok (.if_icmp .lt 7, 3) := by decide +kernel
theorem dJ9_max_7cf53_5 : decode cJ9_max_7cf53 5 = .ok (.iload_n 0, 1) := by decide +kernel
theorem dJ9_max_7cf53_6 : decode cJ9_max_7cf53 6 = .ok (.goto 4, 3) := by decide +kernel
theorem dJ9_max_7cf53_9 : decode cJ9_max_7cf53 9 = .ok (.iload_n 1, 1) := by decide +kernel
theorem dJ9_max_7cf53_10 : decode cJ9_max_7cf53 10 = .ok (.ireturn, 1) := by decide +kernel
theorem dJ9_min_7cf53_0 : decode cJ9_min_7cf53 0 = .ok (.iload_n 0, 1) := by decide +kernel
theorem dJ9_min_7cf53_1 : decode cJ9_min_7cf53 1 = .ok (.iload_n 1, 1) := by decide +kernel
theorem dJ9_min_7cf53_2 : decode cJ9_min_7cf53 2 = .ok (.if_icmp .gt 7, 3) := by decide +kernel
theorem dJ9_min_7cf53_5 : decode cJ9_min_7cf53 5 = .ok (.iload_n 0, 1) := by decide +kernel
theorem dJ9_min_7cf53_6 : decode cJ9_min_7cf53 6 = .ok (.goto 4, 3) := by decide +kernel
theorem dJ9_min_7cf53_9 : decode cJ9_min_7cf53 9 = .ok (.iload_n 1, 1) := by decide +kernel
theorem dJ9_min_7cf53_10 : decode cJ9_min_7cf53 10 = .ok (.ireturn, 1) := by decide +kernel
set_option maxRecDepth 20000 in
theorem ggJ0_length_8abf5_J0_coder_7d493 : GoodIn wsJ0_length_8abf5 wsJ0_coder_7d493 := goodIn_r _ [6, 7, 8] (by decide +kernel) (by decide +kernel)
set_option maxRecDepth 20000 in
theorem gJ0_length_8abf5_J0_coder_7d493 : GoodIn wsJ0_length_8abf5 (wsV RJ0 335 RJ0 yJ0_coder_7d493 wsJ0_coder_7d493) := goodIn_app (goodIn_of _ (by decide +kernel)) ggJ0_length_8abf5_J0_coder_7d493
theorem dJ0_length_8abf5_0 : decode cJ0_length_8abf5 0 = .ok (.aload_n 0, 1) := by decide +kernel
theorem dJ0_length_8abf5_1 : decode cJ0_length_8abf5 1 = .ok (.getfield 9, 3) := by decide +kernel
theorem dJ0_length_8abf5_4 : decode cJ0_length_8abf5 4 = .ok (.arraylength, 1) := by decide +kernel
theorem dJ0_length_8abf5_5 : decode cJ0_length_8abf5 5 = .ok (.aload_n 0, 1) := by decide +kernel
theorem dJ0_length_8abf5_6 : decode cJ0_length_8abf5 6 = .ok (.invokevirtual 335, 3) := by decide +kernel
theorem dJ0_length_8abf5_9 : decode cJ0_length_8abf5 9 = .ok (.ishr, 1) := by decide +kernel
theorem dJ0_length_8abf5_10 : decode cJ0_length_8abf5 10 = .ok (.ireturn, 1) := by decide +kernel
set_option maxRecDepth 20000 in
theorem ggJ0_charAt_5068e_J0_isLatin1_aae02 : GoodIn wsJ0_charAt_5068e wsJ0_isLatin1_aae02 := goodIn_r _ [6, 7, 8] (by decide +kernel) (by decide +kernel)
set_option maxRecDepth 20000 in
theorem gJ0_charAt_5068e_J0_isLatin1_aae02 : GoodIn wsJ0_charAt_5068e (wsV RJ0 492 RJ0 yJ0_isLatin1_aae02 wsJ0_isLatin1_aae02) := goodIn_app (goodIn_of _ (by decide +kernel)) ggJ0_charAt_5068e_J0_isLatin1_aae02
set_option maxRecDepth 20000 in
theorem ggJ0_charAt_5068e_J1_charAt_3b067 : GoodIn wsJ0_charAt_5068e wsJ1_charAt_3b067 := goodIn_r _ [12, 13, 14, 5, 15, 16, 17, 18, 19, 20] (by decide +kernel) (by decide +kernel)
set_option maxRecDepth 20000 in
theorem gJ0_charAt_5068e_J1_charAt_3b067 : GoodIn wsJ0_charAt_5068e (va_wsS RJ0 495 yJ1_charAt_3b067 wsJ1_charAt_3b067) := goodIn_app (goodIn_of _ (by decide +kernel)) ggJ0_charAt_5068e_J1_charAt_3b067
set_option maxRecDepth 20000 in
theorem ggJ0_charAt_5068e_J2_charAt_3b067 : GoodIn wsJ0_charAt_5068e wsJ2_charAt_3b067 := goodIn_r _ [24, 25, 26, 23, 27, 28, 29, 30, 31, 14, 5, 15, 16, 17, 18, 19, 20, 32, 33, 34, 35, 36, 37] (by decide +kernel) (by decide +kernel)
set_option maxRecDepth 20000 in
theorem gJ0_charAt_5068e_J2_charAt_3b067 : GoodIn wsJ0_charAt_5068e (va_wsS RJ0 498 yJ2_charAt_3b067 wsJ2_charAt_3b067) := goodIn_app (goodIn_of _ (by decide +kernel)) ggJ0_charAt_5068e_J2_charAt_3b067
theorem dJ0_charAt_5068e_0 : decode cJ0_charAt_5068e 0 = .ok (.aload_n 0, 1) := by decide +kernel
theorem dJ0_charAt_5068e_1 : decode cJ0_charAt_5068e 1 = .ok (.invokevirtual 492, 3) := by decide +kernel
theorem dJ0_charAt_5068e_4 : decode cJ0_charAt_5068e 4 = .ok (.ifCond .eq 12, 3) := by decide +kernel
theorem dJ0_charAt_5068e_7 : decode cJ0_charAt_5068e 7 = .ok (.aload_n 0, 1) := by decide +kernel
theorem dJ0_charAt_5068e_8 : decode cJ0_charAt_5068e 8 = .ok (.getfield 9, 3) := by decide +kernel
theorem dJ0_charAt_5068e_11 : decode cJ0_charAt_5068e 11 = .ok (.iload_n 1, 1) := by decide +kernel
theorem dJ0_charAt_5068e_12 : decode cJ0_charAt_5068e 12 = .ok (.invokestatic 495, 3) := by decide +kernel
theorem dJ0_charAt_5068e_15 : decode cJ0_charAt_5068e 15 = .ok (.ireturn, 1) := by decide +kernel
theorem dJ0_charAt_5068e_16 : decode cJ0_charAt_5068e 16 = .ok (.aload_n 0, 1) := by decide +kernel
theorem dJ0_charAt_5068e_17 : decode cJ0_charAt_5068e 17 = .ok (.getfield 9, 3) := by decide +kernel
theorem dJ0_charAt_5068e_20 : decode cJ0_charAt_5068e 20 = .ok (.iload_n 1, 1) := by decide +kernel
theorem dJ0_charAt_5068e_21 : decode cJ0_charAt_5068e 21 = .ok (.invokestatic 498, 3) := by decide +kernel
theorem dJ0_charAt_5068e_24 : decode cJ0_charAt_5068e 24 = .ok (.ireturn, 1) := by decide +kernel
theorem dJ0_coder_7d493_0 : decode cJ0_coder_7d493 0 = .ok (.getstatic 38, 3) := by decide +kernel
theorem dJ0_coder_7d493_3 : decode cJ0_coder_7d493 3 = .ok (.ifCond .eq 10, 3) := by decide +kernel
theorem dJ0_coder_7d493_6 : decode cJ0_coder_7d493 6 = .ok (.aload_n 0, 1) := by decide +kernel
theorem dJ0_coder_7d493_7 : decode cJ0_coder_7d493 7 = .ok (.getfield 15, 3) := by decide +kernel
theorem dJ0_coder_7d493_10 : decode cJ0_coder_7d493 10 = .ok (.goto 4, 3) := by decide +kernel
theorem dJ0_coder_7d493_13 : decode cJ0_coder_7d493 13 = .ok (.iconst 1, 1) := by decide +kernel
theorem dJ0_coder_7d493_14 : decode cJ0_coder_7d493 14 = .ok (.ireturn, 1) := by decide +kernel
theorem dJ0_isLatin1_aae02_0 : decode cJ0_isLatin1_aae02 0 = .ok (.getstatic 38, 3) := by decide +kernel
theorem dJ0_isLatin1_aae02_3 : decode cJ0_isLatin1_aae02 3 = .ok (.ifCond .eq 14, 3) := by decide +kernel
theorem dJ0_isLatin1_aae02_6 : decode cJ0_isLatin1_aae02 6 = .ok (.aload_n 0, 1) := by decide +kernel
theorem dJ0_isLatin1_aae02_7 : decode cJ0_isLatin1_aae02 7 = .ok (.getfield 15, 3) := by decide +kernel
theorem dJ0_isLatin1_aae02_10 : decode cJ0_isLatin1_aae02 10 = .ok (.ifCond .ne 7, 3) := by decide +kernel
theorem dJ0_isLatin1_aae02_13 : decode cJ0_isLatin1_aae02 13 = .ok (.iconst 1, 1) := by decide +kernel
theorem dJ0_isLatin1_aae02_14 : decode cJ0_isLatin1_aae02 14 = .ok (.goto 4, 3) := by decide +kernel
theorem dJ0_isLatin1_aae02_17 : decode cJ0_isLatin1_aae02 17 = .ok (.iconst 0, 1) := by decide +kernel
theorem dJ0_isLatin1_aae02_18 : decode cJ0_isLatin1_aae02 18 = .ok (.ireturn, 1) := by decide +kernel
set_option maxRecDepth 20000 in
theorem ggJ0_checkIndex_df160_J3_checkIndex_8e157 : GoodIn wsJ0_checkIndex_df160 wsJ3_checkIndex_8e157 := goodIn_r _ [5] (by decide +kernel) (by decide +kernel)
set_option maxRecDepth 20000 in
theorem gJ0_checkIndex_df160_J3_checkIndex_8e157 : GoodIn wsJ0_checkIndex_df160 (va_wsS RJ0 1059 yJ3_checkIndex_8e157 wsJ3_checkIndex_8e157) := goodIn_app (goodIn_of _ (by decide +kernel)) ggJ0_checkIndex_df160_J3_checkIndex_8e157
theorem dJ0_checkIndex_df160_0 : decode cJ0_checkIndex_df160 0 = .ok (.iload_n 0, 1) := by decide +kernel
theorem dJ0_checkIndex_df160_1 : decode cJ0_checkIndex_df160 1 = .ok (.iload_n 1, 1) := by decide +kernel
theorem dJ0_checkIndex_df160_2 : decode cJ0_checkIndex_df160 2 = .ok (.getstatic 1053, 3) := by decide +kernel
theorem dJ0_checkIndex_df160_5 : decode cJ0_checkIndex_df160 5 = .ok (.invokestatic 1059, 3) := by decide +kernel
theorem dJ0_checkIndex_df160_8 : decode cJ0_checkIndex_df160 8 = .ok (.pop, 1) := by decide +kernel
theorem dJ0_checkIndex_df160_9 : decode cJ0_checkIndex_df160 9 = .ok (.return_, 1) := by decide +kernel
set_option maxRecDepth 20000 in
theorem ggJ1_charAt_3b067_J0_checkIndex_df160 : GoodIn wsJ1_charAt_3b067 wsJ0_checkIndex_df160 := goodIn_r _ [4, 5, 6, 7, 8, 9] (by decide +kernel) (by decide +kernel)
set_option maxRecDepth 20000 in
theorem gJ1_charAt_3b067_J0_checkIndex_df160 : GoodIn wsJ1_charAt_3b067 (va_wsS RJ1 9 yJ0_checkIndex_df160 wsJ0_checkIndex_df160) := goodIn_app (goodIn_of _ (by decide +kernel)) ggJ1_charAt_3b067_J0_checkIndex_df160
theorem dJ1_charAt_3b067_0 : decode cJ1_charAt_3b067 0 = .ok (.iload_n 1, 1) := by decide +kernel
theorem dJ1_charAt_3b067_1 : decode cJ1_charAt_3b067 1 = .ok (.aload_n 0, 1) := by decide +kernel
theorem dJ1_charAt_3b067_2 : decode cJ1_charAt_3b067 2 = .ok (.arraylength, 1) := by decide +kernel
theorem dJ1_charAt_3b067_3 : decode cJ1_charAt_3b067 3 = .ok (.invokestatic 9, 3) := by decide +kernel
theorem dJ1_charAt_3b067_6 : decode cJ1_charAt_3b067 6 = .ok (.aload_n 0, 1) := by decide +kernel
theorem dJ1_charAt_3b067_7 : decode cJ1_charAt_3b067 7 = .ok (.iload_n 1, 1) := by decide +kernel
theorem dJ1_charAt_3b067_8 : decode cJ1_charAt_3b067 8 = .ok (.baload, 1) := by decide +kernel
theorem dJ1_charAt_3b067_9 : decode cJ1_charAt_3b067 9 = .ok (.sipush 255, 3) := by decide +kernel
theorem dJ1_charAt_3b067_12 : decode cJ1_charAt_3b067 12 = .ok (.iand, 1) := by decide +kernel
theorem dJ1_charAt_3b067_13 : decode cJ1_charAt_3b067 13 = .ok (.i2c, 1) := by decide +kernel
theorem dJ1_charAt_3b067_14 : decode cJ1_charAt_3b067 14 = .ok (.ireturn, 1) := by decide +kernel
set_option maxRecDepth 20000 in
theorem ggJ2_getChar_3b067_J2_length_9d52b : GoodIn wsJ2_getChar_3b067 wsJ2_length_9d52b := goodIn_r _ [7] (by decide +kernel) (by decide +kernel)
set_option maxRecDepth 20000 in
theorem gJ2_getChar_3b067_J2_length_9d52b : GoodIn wsJ2_getChar_3b067 (va_wsS RJ2 48 yJ2_length_9d52b wsJ2_length_9d52b) := goodIn_app (goodIn_of _ (by decide +kernel)) ggJ2_getChar_3b067_J2_length_9d52b
theorem dJ2_getChar_3b067_0 : decode cJ2_getChar_3b067 0 = .ok (.getstatic 44, 3) := by decide +kernel
theorem dJ2_getChar_3b067_3 : decode cJ2_getChar_3b067 3 = .ok (.ifCond .ne 25, 3) := by decide +kernel
theorem dJ2_getChar_3b067_6 : decode cJ2_getChar_3b067 6 = .ok (.iload_n 1, 1) := by decide +kernel
theorem dJ2_getChar_3b067_7 : decode cJ2_getChar_3b067 7 = .ok (.ifCond .lt 11, 3) := by decide +kernel
theorem dJ2_getChar_3b067_10 : decode cJ2_getChar_3b067 10 = .ok (.iload_n 1, 1) := by decide +kernel
theorem dJ2_getChar_3b067_11 : decode cJ2_getChar_3b067 11 = .ok (.aload_n 0, 1) := by decide +kernel
theorem dJ2_getChar_3b067_12 : decode cJ2_getChar_3b067 12 = .ok (.invokestatic 48, 3) := by decide +kernel
theorem dJ2_getChar_3b067_15 : decode cJ2_getChar_3b067 15 = .ok (.if_icmp .lt 13, 3) := by decide +kernel
theorem dJ2_getChar_3b067_18 : decode cJ2_getChar_3b067 18 = .ok (.new 52, 3) := by decide +kernel
theorem dJ2_getChar_3b067_21 : decode cJ2_getChar_3b067 21 = .ok (.dup, 1) := by decide +kernel
theorem dJ2_getChar_3b067_22 : decode cJ2_getChar_3b067 22 = .ok (.ldc 54, 2) := by decide +kernel
theorem dJ2_getChar_3b067_24 : decode cJ2_getChar_3b067 24 = .ok (.invokespecial 56, 3) := by decide +kernel
theorem dJ2_getChar_3b067_27 : decode cJ2_getChar_3b067 27 = .ok (.athrow, 1) := by decide +kernel
theorem dJ2_getChar_3b067_28 : decode cJ2_getChar_3b067 28 = .ok (.iload_n 1, 1) := by decide +kernel
theorem dJ2_getChar_3b067_29 : decode cJ2_getChar_3b067 29 = .ok (.iconst 1, 1) := by decide +kernel
theorem dJ2_getChar_3b067_30 : decode cJ2_getChar_3b067 30 = .ok (.ishl, 1) := by decide +kernel
theorem dJ2_getChar_3b067_31 : decode cJ2_getChar_3b067 31 = .ok (.istore_n 1, 1) := by decide +kernel
theorem dJ2_getChar_3b067_32 : decode cJ2_getChar_3b067 32 = .ok (.aload_n 0, 1) := by decide +kernel
theorem dJ2_getChar_3b067_33 : decode cJ2_getChar_3b067 33 = .ok (.iload_n 1, 1) := by decide +kernel
theorem dJ2_getChar_3b067_34 : decode cJ2_getChar_3b067 34 = .ok (.iinc 1 1, 3) := by decide +kernel
theorem dJ2_getChar_3b067_37 : decode cJ2_getChar_3b067 37 = .ok (.baload, 1) := by decide +kernel
theorem dJ2_getChar_3b067_38 : decode cJ2_getChar_3b067 38 = .ok (.sipush 255, 3) := by decide +kernel
theorem dJ2_getChar_3b067_41 : decode cJ2_getChar_3b067 41 = .ok (.iand, 1) := by decide +kernel
theorem dJ2_getChar_3b067_42 : decode cJ2_getChar_3b067 42 = .ok (.getstatic 59, 3) := by decide +kernel
theorem dJ2_getChar_3b067_45 : decode cJ2_getChar_3b067 45 = .ok (.ishl, 1) := by decide +kernel
theorem dJ2_getChar_3b067_46 : decode cJ2_getChar_3b067 46 = .ok (.aload_n 0, 1) := by decide +kernel
theorem dJ2_getChar_3b067_47 : decode cJ2_getChar_3b067 47 = .ok (.iload_n 1, 1) := by decide +kernel
theorem dJ2_getChar_3b067_48 : decode cJ2_getChar_3b067 48 = .ok (.baload, 1) := by decide +kernel
theorem dJ2_getChar_3b067_49 : decode cJ2_getChar_3b067 49 = .ok (.sipush 255, 3) := by decide +kernel
theorem dJ2_getChar_3b067_52 : decode cJ2_getChar_3b067 52 = .ok (.iand, 1) := by decide +kernel
theorem dJ2_getChar_3b067_53 : decode cJ2_getChar_3b067 53 = .ok (.getstatic 63, 3) := by decide +kernel
theorem dJ2_getChar_3b067_56 : decode cJ2_getChar_3b067 56 = .ok (.ishl, 1) := by decide +kernel
theorem dJ2_getChar_3b067_57 : decode cJ2_getChar_3b067 57 = .ok (.ior, 1) := by decide +kernel
theorem dJ2_getChar_3b067_58 : decode cJ2_getChar_3b067 58 = .ok (.i2c, 1) := by decide +kernel
theorem dJ2_getChar_3b067_59 : decode cJ2_getChar_3b067 59 = .ok (.ireturn, 1) := by decide +kernel
theorem dJ2_length_9d52b_0 : decode cJ2_length_9d52b 0 = .ok (.aload_n 0, 1) := by decide +kernel
theorem dJ2_length_9d52b_1 : decode cJ2_length_9d52b 1 = .ok (.arraylength, 1) := by decide +kernel
theorem dJ2_length_9d52b_2 : decode cJ2_length_9d52b 2 = .ok (.iconst 1, 1) := by decide +kernel
theorem dJ2_length_9d52b_3 : decode cJ2_length_9d52b 3 = .ok (.ishr, 1) := by decide +kernel
theorem dJ2_length_9d52b_4 : decode cJ2_length_9d52b 4 = .ok (.ireturn, 1) := by decide +kernel
set_option maxRecDepth 20000 in
theorem ggJ2_charAt_3b067_J2_checkIndex_2214a : GoodIn wsJ2_charAt_3b067 wsJ2_checkIndex_2214a := goodIn_r _ [4, 5, 6, 3, 7, 8, 9, 10, 11, 12, 13, 14, 15, 16] (by decide +kernel) (by decide +kernel)
set_option maxRecDepth 20000 in
theorem gJ2_charAt_3b067_J2_checkIndex_2214a : GoodIn wsJ2_charAt_3b067 (va_wsS RJ2 67 yJ2_checkIndex_2214a wsJ2_checkIndex_2214a) := goodIn_app (goodIn_of _ (by decide +kernel)) ggJ2_charAt_3b067_J2_checkIndex_2214a
set_option maxRecDepth 20000 in
theorem ggJ2_charAt_3b067_J2_getChar_3b067 : GoodIn wsJ2_charAt_3b067 wsJ2_getChar_3b067 := goodIn_r _ [19, 20, 21, 22, 5, 6, 3, 7] (by decide +kernel) (by decide +kernel)
set_option maxRecDepth 20000 in
theorem gJ2_charAt_3b067_J2_getChar_3b067 : GoodIn wsJ2_charAt_3b067 (va_wsS RJ2 71 yJ2_getChar_3b067 wsJ2_getChar_3b067) := goodIn_app (goodIn_of _ (by decide +kernel)) ggJ2_charAt_3b067_J2_getChar_3b067
theorem dJ2_charAt_3b067_0 : decode cJ2_charAt_3b067 0 = .ok (.iload_n 1, 1) := by decide +kernel
theorem dJ2_charAt_3b067_1 : decode cJ2_charAt_3b067 1 = .ok (.aload_n 0, 1) := by decide +kernel
theorem dJ2_charAt_3b067_2 : decode cJ2_charAt_3b067 2 = .ok (.invokestatic 67, 3) := by decide +kernel
theorem dJ2_charAt_3b067_5 : decode cJ2_charAt_3b067 5 = .ok (.aload_n 0, 1) := by decide +kernel
theorem dJ2_charAt_3b067_6 : decode cJ2_charAt_3b067 6 = .ok (.iload_n 1, 1) := by decide +kernel
theorem dJ2_charAt_3b067_7 : decode cJ2_charAt_3b067 7 = .ok (.invokestatic 71, 3) := by decide +kernel
theorem dJ2_charAt_3b067_10 : decode cJ2_charAt_3b067 10 = .ok (.ireturn, 1) := by decide +kernel
set_option maxRecDepth 20000 in
theorem ggJ2_checkIndex_2214a_J2_length_9d52b : GoodIn wsJ2_checkIndex_2214a wsJ2_length_9d52b := goodIn_r _ [4] (by decide +kernel) (by decide +kernel)
set_option maxRecDepth 20000 in
theorem gJ2_checkIndex_2214a_J2_length_9d52b : GoodIn wsJ2_checkIndex_2214a (va_wsS RJ2 48 yJ2_length_9d52b wsJ2_length_9d52b) := goodIn_app (goodIn_of _ (by decide +kernel)) ggJ2_checkIndex_2214a_J2_length_9d52b
set_option maxRecDepth 20000 in
theorem ggJ2_checkIndex_2214a_J0_checkIndex_df160 : GoodIn wsJ2_checkIndex_2214a wsJ0_checkIndex_df160 := goodIn_r _ [8, 9, 10, 11, 12, 13] (by decide +kernel) (by decide +kernel)
set_option maxRecDepth 20000 in
theorem gJ2_checkIndex_2214a_J0_checkIndex_df160 : GoodIn wsJ2_checkIndex_2214a (va_wsS RJ2 414 yJ0_checkIndex_df160 wsJ0_checkIndex_df160) := goodIn_app (goodIn_of _ (by decide +kernel)) ggJ2_checkIndex_2214a_J0_checkIndex_df160
theorem dJ2_checkIndex_2214a_0 : decode cJ2_checkIndex_2214a 0 = .ok (.iload_n 0, 1) := by decide +kernel
theorem dJ2_checkIndex_2214a_1 : decode cJ2_checkIndex_2214a 1 = .ok (.aload_n 1, 1) := by decide +kernel
theorem dJ2_checkIndex_2214a_2 : decode cJ2_checkIndex_2214a 2 = .ok (.invokestatic 48, 3) := by decide +kernel
theorem dJ2_checkIndex_2214a_5 : decode cJ2_checkIndex_2214a 5 = .ok (.invokestatic 414, 3) := by decide +kernel
theorem dJ2_checkIndex_2214a_8 : decode cJ2_checkIndex_2214a 8 = .ok (.return_, 1) := by decide +kernel
theorem dJ3_checkIndex_8e157_0 : decode cJ3_checkIndex_8e157 0 = .ok (.iload_n 0, 1) := by decide +kernel
theorem dJ3_checkIndex_8e157_1 : decode cJ3_checkIndex_8e157 1 = .ok (.ifCond .lt 8, 3) := by decide +kernel
theorem dJ3_checkIndex_8e157_4 : decode cJ3_checkIndex_8e157 4 = .ok (.iload_n 0, 1) := by decide +kernel
theorem dJ3_checkIndex_8e157_5 : decode cJ3_checkIndex_8e157 5 = .ok (.iload_n 1, 1) := by decide +kernel
theorem dJ3_checkIndex_8e157_6 : decode cJ3_checkIndex_8e157 6 = .ok (.if_icmp .lt 10, 3) := by decide +kernel
theorem dJ3_checkIndex_8e157_9 : decode cJ3_checkIndex_8e157 9 = .ok (.aload_n 2, 1) := by decide +kernel
theorem dJ3_checkIndex_8e157_10 : decode cJ3_checkIndex_8e157 10 = .ok (.iload_n 0, 1) := by decide +kernel
theorem dJ3_checkIndex_8e157_11 : decode cJ3_checkIndex_8e157 11 = .ok (.iload_n 1, 1) := by decide +kernel
theorem dJ3_checkIndex_8e157_12 : decode cJ3_checkIndex_8e157 12 = .ok (.invokestatic 95, 3) := by decide +kernel
theorem dJ3_checkIndex_8e157_15 : decode cJ3_checkIndex_8e157 15 = .ok (.athrow, 1) := by decide +kernel
theorem dJ3_checkIndex_8e157_16 : decode cJ3_checkIndex_8e157 16 = .ok (.iload_n 0, 1) := by decide +kernel
theorem dJ3_checkIndex_8e157_17 : decode cJ3_checkIndex_8e157 17 = .ok (.ireturn, 1) := by decide +kernel
