set_option maxRecDepth 20000 in
theorem ggX7_init_X2_init : GoodIn wsX7_init wsX2_init := goodIn_r _ [27, 28, 2, 3, 29, 30, 31, 32, 33, 34, 35, 36, 37, 100, 101, 76, 77, 78, 79, 80, 81, 82] (by decide +kernel) (by decide +kernel)
set_option maxRecDepth 20000 in
theorem gX7_init_X2_init_n17 : GoodIn wsX7_init (wsX2_init) := ggX7_init_X2_init
set_option maxRecDepth 20000 in
theorem ggX7_init_X3_init : GoodIn wsX7_init wsX3_init := goodIn_r _ [40, 41, 2, 3, 42, 43, 44, 45, 46, 47, 48, 83, 84, 85, 86, 87, 88, 102, 103, 104, 105, 106, 107, 108, 109, 110, 111, 112, 113] (by decide +kernel) (by decide +kernel)
set_option maxRecDepth 20000 in
theorem gX7_init_X3_init : GoodIn wsX7_init (wsX3_init) := ggX7_init_X3_init
set_option maxRecDepth 20000 in
theorem ggX7_init_X6_init : GoodIn wsX7_init wsX6_init := goodIn_r _ [50, 51, 2, 3, 52, 53, 89, 90] (by decide +kernel) (by decide +kernel)
set_option maxRecDepth 20000 in
theorem gX7_init_X6_init_n44 : GoodIn wsX7_init (wsX6_init) := ggX7_init_X6_init
set_option maxRecDepth 20000 in
theorem ggX7_init_X4_init : GoodIn wsX7_init wsX4_init := goodIn_r _ [55, 56, 2, 3, 52, 57, 58, 91, 92, 93] (by decide +kernel) (by decide +kernel)
set_option maxRecDepth 20000 in
theorem gX7_init_X4_init_n49 : GoodIn wsX7_init (wsX4_init) := ggX7_init_X4_init
set_option maxRecDepth 20000 in
theorem ggX7_init_X1_init : GoodIn wsX7_init wsX1_init := goodIn_r _ [60, 61, 2, 3, 52, 62, 63, 64, 11, 12, 65, 66, 39, 40, 41, 42, 43, 44, 45, 46, 47, 48, 94, 95, 96, 97, 98, 99, 83, 84, 85, 86, 87, 88, 102, 103, 104, 105, 106, 107, 108, 109, 110, 111, 112, 113] (by decide +kernel) (by decide +kernel)
set_option maxRecDepth 20000 in
theorem gX7_init_X1_init_n50 : GoodIn wsX7_init (wsX1_init) := ggX7_init_X1_init
theorem dX7_init_0 : decode cX7_init 0 = .ok (.aload_n 0, 1) := by decide +kernel
theorem dX7_init_1 : decode cX7_init 1 = .ok (.invokespecial 1, 3) := by decide +kernel
theorem dX7_init_4 : decode cX7_init 4 = .ok (.aload_n 0, 1) := by decide +kernel
theorem dX7_init_5 : decode cX7_init 5 = .ok (.bipush 8, 2) := by decide +kernel
theorem dX7_init_7 : decode cX7_init 7 = .ok (.anewarray 9, 3) := by decide +kernel
theorem dX7_init_10 : decode cX7_init 10 = .ok (.putfield 11, 3) := by decide +kernel
theorem dX7_init_13 : decode cX7_init 13 = .ok (.aload_n 0, 1) := by decide +kernel
theorem dX7_init_14 : decode cX7_init 14 = .ok (.new 15, 3) := by decide +kernel
theorem dX7_init_17 : decode cX7_init 17 = .ok (.dup, 1) := by decide +kernel
theorem dX7_init_18 : decode cX7_init 18 = .ok (.invokespecial 17, 3) := by decide +kernel
theorem dX7_init_21 : decode cX7_init 21 = .ok (.putfield 18, 3) := by decide +kernel
theorem dX7_init_24 : decode cX7_init 24 = .ok (.aload_n 0, 1) := by decide +kernel
theorem dX7_init_25 : decode cX7_init 25 = .ok (.new 22, 3) := by decide +kernel
theorem dX7_init_28 : decode cX7_init 28 = .ok (.dup, 1) := by decide +kernel
theorem dX7_init_29 : decode cX7_init 29 = .ok (.invokespecial 24, 3) := by decide +kernel
theorem dX7_init_32 : decode cX7_init 32 = .ok (.putfield 25, 3) := by decide +kernel
theorem dX7_init_35 : decode cX7_init 35 = .ok (.aload_n 0, 1) := by decide +kernel
theorem dX7_init_36 : decode cX7_init 36 = .ok (.new 22, 3) := by decide +kernel
theorem dX7_init_39 : decode cX7_init 39 = .ok (.dup, 1) := by decide +kernel
theorem dX7_init_40 : decode cX7_init 40 = .ok (.invokespecial 24, 3) := by decide +kernel
theorem dX7_init_43 : decode cX7_init 43 = .ok (.putfield 29, 3) := by decide +kernel
theorem dX7_init_46 : decode cX7_init 46 = .ok (.aload_n 0, 1) := by decide +kernel
theorem dX7_init_47 : decode cX7_init 47 = .ok (.iconst 2, 1) := by decide +kernel
theorem dX7_init_48 : decode cX7_init 48 = .ok (.anewarray 22, 3) := by decide +kernel
theorem dX7_init_51 : decode cX7_init 51 = .ok (.putfield 32, 3) := by decide +kernel
theorem dX7_init_54 : decode cX7_init 54 = .ok (.aload_n 0, 1) := by decide +kernel
theorem dX7_init_55 : decode cX7_init 55 = .ok (.iconst 4, 1) := by decide +kernel
theorem dX7_init_56 : decode cX7_init 56 = .ok (.anewarray 36, 3) := by decide +kernel
theorem dX7_init_59 : decode cX7_init 59 = .ok (.putfield 38, 3) := by decide +kernel
theorem dX7_init_62 : decode cX7_init 62 = .ok (.aload_n 0, 1) := by decide +kernel
theorem dX7_init_63 : decode cX7_init 63 = .ok (.new 42, 3) := by decide +kernel
theorem dX7_init_66 : decode cX7_init 66 = .ok (.dup, 1) := by decide +kernel
theorem dX7_init_67 : decode cX7_init 67 = .ok (.invokespecial 44, 3) := by decide +kernel
theorem dX7_init_70 : decode cX7_init 70 = .ok (.putfield 45, 3) := by decide +kernel
theorem dX7_init_73 : decode cX7_init 73 = .ok (.iconst 0, 1) := by decide +kernel
theorem dX7_init_74 : decode cX7_init 74 = .ok (.istore_n 1, 1) := by decide +kernel
theorem dX7_init_75 : decode cX7_init 75 = .ok (.iload_n 1, 1) := by decide +kernel
theorem dX7_init_76 : decode cX7_init 76 = .ok (.bipush 8, 2) := by decide +kernel
theorem dX7_init_78 : decode cX7_init 78 = .ok (.if_icmp .ge 22, 3) := by decide +kernel
theorem dX7_init_81 : decode cX7_init 81 = .ok (.aload_n 0, 1) := by decide +kernel
theorem dX7_init_82 : decode cX7_init 82 = .ok (.getfield 11, 3) := by decide +kernel
theorem dX7_init_85 : decode cX7_init 85 = .ok (.iload_n 1, 1) := by decide +kernel
theorem dX7_init_86 : decode cX7_init 86 = .ok (.new 9, 3) := by decide +kernel
theorem dX7_init_89 : decode cX7_init 89 = .ok (.dup, 1) := by decide +kernel
theorem dX7_init_90 : decode cX7_init 90 = .ok (.invokespecial 49, 3) := by decide +kernel
theorem dX7_init_93 : decode cX7_init 93 = .ok (.aastore, 1) := by decide +kernel
theorem dX7_init_94 : decode cX7_init 94 = .ok (.iinc 1 1, 3) := by decide +kernel
theorem dX7_init_97 : decode cX7_init 97 = .ok (.goto (-22), 3) := by decide +kernel
theorem dX7_init_100 : decode cX7_init 100 = .ok (.iconst 0, 1) := by decide +kernel
theorem dX7_init_101 : decode cX7_init 101 = .ok (.istore_n 1, 1) := by decide +kernel
theorem dX7_init_102 : decode cX7_init 102 = .ok (.iload_n 1, 1) := by decide +kernel
theorem dX7_init_103 : decode cX7_init 103 = .ok (.iconst 2, 1) := by decide +kernel
theorem dX7_init_104 : decode cX7_init 104 = .ok (.if_icmp .ge 22, 3) := by decide +kernel
theorem dX7_init_107 : decode cX7_init 107 = .ok (.aload_n 0, 1) := by decide +kernel
theorem dX7_init_108 : decode cX7_init 108 = .ok (.getfield 32, 3) := by decide +kernel
theorem dX7_init_111 : decode cX7_init 111 = .ok (.iload_n 1, 1) := by decide +kernel
theorem dX7_init_112 : decode cX7_init 112 = .ok (.new 22, 3) := by decide +kernel
theorem dX7_init_115 : decode cX7_init 115 = .ok (.dup, 1) := by decide +kernel
theorem dX7_init_116 : decode cX7_init 116 = .ok (.invokespecial 24, 3) := by decide +kernel
theorem dX7_init_119 : decode cX7_init 119 = .ok (.aastore, 1) := by decide +kernel
theorem dX7_init_120 : decode cX7_init 120 = .ok (.iinc 1 1, 3) := by decide +kernel
theorem dX7_init_123 : decode cX7_init 123 = .ok (.goto (-21), 3) := by decide +kernel
theorem dX7_init_126 : decode cX7_init 126 = .ok (.iconst 0, 1) := by decide +kernel
theorem dX7_init_127 : decode cX7_init 127 = .ok (.istore_n 1, 1) := by decide +kernel
theorem dX7_init_128 : decode cX7_init 128 = .ok (.iload_n 1, 1) := by decide +kernel
theorem dX7_init_129 : decode cX7_init 129 = .ok (.iconst 4, 1) := by decide +kernel
theorem dX7_init_130 : decode cX7_init 130 = .ok (.if_icmp .ge 22, 3) := by decide +kernel
theorem dX7_init_133 : decode cX7_init 133 = .ok (.aload_n 0, 1) := by decide +kernel
theorem dX7_init_134 : decode cX7_init 134 = .ok (.getfield 38, 3) := by decide +kernel
theorem dX7_init_137 : decode cX7_init 137 = .ok (.iload_n 1, 1) := by decide +kernel
theorem dX7_init_138 : decode cX7_init 138 = .ok (.new 36, 3) := by decide +kernel
theorem dX7_init_141 : decode cX7_init 141 = .ok (.dup, 1) := by decide +kernel
theorem dX7_init_142 : decode cX7_init 142 = .ok (.invokespecial 50, 3) := by decide +kernel
theorem dX7_init_145 : decode cX7_init 145 = .ok (.aastore, 1) := by decide +kernel
theorem dX7_init_146 : decode cX7_init 146 = .ok (.iinc 1 1, 3) := by decide +kernel
theorem dX7_init_149 : decode cX7_init 149 = .ok (.goto (-21), 3) := by decide +kernel
theorem dX7_init_152 : decode cX7_init 152 = .ok (.return_, 1) := by decide +kernel
set_option maxRecDepth 20000 in
theorem ggX7_row_X7_isRow : GoodIn wsX7_row wsX7_isRow := goodIn_r _ [6, 7, 8, 5, 9] (by decide +kernel) (by decide +kernel)
set_option maxRecDepth 20000 in
theorem gX7_row_X7_isRow : GoodIn wsX7_row (va_wsS RX7 51 yX7_isRow wsX7_isRow) := goodIn_app (goodIn_of _ (by decide +kernel)) ggX7_row_X7_isRow
set_option maxRecDepth 20000 in
theorem ggX7_row_X7_isWithin : GoodIn wsX7_row wsX7_isWithin := goodIn_r _ [9] (by decide +kernel) (by decide +kernel)
set_option maxRecDepth 20000 in
theorem gX7_row_X7_isWithin : GoodIn wsX7_row (va_wsS RX7 55 yX7_isWithin wsX7_isWithin) := goodIn_app (goodIn_of _ (by decide +kernel)) ggX7_row_X7_isWithin
set_option maxRecDepth 20000 in
theorem ggX7_row_X7_found : GoodIn wsX7_row wsX7_found := goodIn_r _ [13, 14, 15, 28, 29, 30, 31, 32, 33, 34, 35, 36] (by decide +kernel) (by decide +kernel)
set_option maxRecDepth 20000 in
theorem gX7_row_X7_found : GoodIn wsX7_row (wsV RX7 60 RX7 yX7_found wsX7_found) := goodIn_app (goodIn_of _ (by decide +kernel)) ggX7_row_X7_found
set_option maxRecDepth 20000 in
theorem ggX7_row_X4_lay : GoodIn wsX7_row wsX4_lay := goodIn_r _ [20, 21, 22, 23, 37, 38, 39] (by decide +kernel) (by decide +kernel)
set_option maxRecDepth 20000 in
theorem gX7_row_X4_lay : GoodIn wsX7_row (wsV RX7 64 RX4 yX4_lay wsX4_lay) := goodIn_app (goodIn_of _ (by decide +kernel)) ggX7_row_X4_lay
set_option maxRecDepth 20000 in
theorem ggX7_row_X7_unfound : GoodIn wsX7_row wsX7_unfound := goodIn_r _ [27, 14, 28, 29, 30, 31, 32, 33, 34, 35, 36] (by decide +kernel) (by decide +kernel)
set_option maxRecDepth 20000 in
theorem gX7_row_X7_unfound : GoodIn wsX7_row (wsV RX7 68 RX7 yX7_unfound wsX7_unfound) := goodIn_app (goodIn_of _ (by decide +kernel)) ggX7_row_X7_unfound
theorem dX7_row_0 : decode cX7_row 0 = .ok (.iload_n 1, 1) := by decide +kernel
theorem dX7_row_1 : decode cX7_row 1 = .ok (.invokestatic 51, 3) := by decide +kernel
theorem dX7_row_4 : decode cX7_row 4 = .ok (.ifCond .eq 18, 3) := by decide +kernel
theorem dX7_row_7 : decode cX7_row 7 = .ok (.iload_n 2, 1) := by decide +kernel
theorem dX7_row_8 : decode cX7_row 8 = .ok (.iconst 0, 1) := by decide +kernel
theorem dX7_row_9 : decode cX7_row 9 = .ok (.iconst 2, 1) := by decide +kernel
theorem dX7_row_10 : decode cX7_row 10 = .ok (.invokestatic 55, 3) := by decide +kernel
theorem dX7_row_13 : decode cX7_row 13 = .ok (.ifCond .eq 9, 3) := by decide +kernel
theorem dX7_row_16 : decode cX7_row 16 = .ok (.iload_n 3, 1) := by decide +kernel
theorem dX7_row_17 : decode cX7_row 17 = .ok (.bipush 40, 2) := by decide +kernel
theorem dX7_row_19 : decode cX7_row 19 = .ok (.if_icmp .le 6, 3) := by decide +kernel
theorem dX7_row_22 : decode cX7_row 22 = .ok (.ldc 59, 2) := by decide +kernel
theorem dX7_row_24 : decode cX7_row 24 = .ok (.ireturn, 1) := by decide +kernel
theorem dX7_row_25 : decode cX7_row 25 = .ok (.iload_n 3, 1) := by decide +kernel
theorem dX7_row_26 : decode cX7_row 26 = .ok (.ifCond .ge 9, 3) := by decide +kernel
theorem dX7_row_29 : decode cX7_row 29 = .ok (.aload_n 0, 1) := by decide +kernel
theorem dX7_row_30 : decode cX7_row 30 = .ok (.iconst 4, 1) := by decide +kernel
theorem dX7_row_31 : decode cX7_row 31 = .ok (.invokevirtual 60, 3) := by decide +kernel
theorem dX7_row_34 : decode cX7_row 34 = .ok (.ireturn, 1) := by decide +kernel
theorem dX7_row_35 : decode cX7_row 35 = .ok (.aload_n 0, 1) := by decide +kernel
theorem dX7_row_36 : decode cX7_row 36 = .ok (.getfield 11, 3) := by decide +kernel
theorem dX7_row_39 : decode cX7_row 39 = .ok (.iload_n 1, 1) := by decide +kernel
theorem dX7_row_40 : decode cX7_row 40 = .ok (.aaload, 1) := by decide +kernel
theorem dX7_row_41 : decode cX7_row 41 = .ok (.iload_n 2, 1) := by decide +kernel
theorem dX7_row_42 : decode cX7_row 42 = .ok (.iload_n 3, 1) := by decide +kernel
theorem dX7_row_43 : decode cX7_row 43 = .ok (.invokevirtual 64, 3) := by decide +kernel
theorem dX7_row_46 : decode cX7_row 46 = .ok (.aload_n 0, 1) := by decide +kernel
theorem dX7_row_47 : decode cX7_row 47 = .ok (.iload_n 3, 1) := by decide +kernel
theorem dX7_row_48 : decode cX7_row 48 = .ok (.invokevirtual 68, 3) := by decide +kernel
theorem dX7_row_51 : decode cX7_row 51 = .ok (.ireturn, 1) := by decide +kernel
set_option maxRecDepth 20000 in
theorem ggX7_set_X7_isRow : GoodIn wsX7_set wsX7_isRow := goodIn_r _ [6, 7, 8, 5, 9] (by decide +kernel) (by decide +kernel)
set_option maxRecDepth 20000 in
theorem gX7_set_X7_isRow : GoodIn wsX7_set (va_wsS RX7 51 yX7_isRow wsX7_isRow) := goodIn_app (goodIn_of _ (by decide +kernel)) ggX7_set_X7_isRow
set_option maxRecDepth 20000 in
theorem ggX7_set_X4_isMissing : GoodIn wsX7_set wsX4_isMissing := goodIn_r _ [14, 15, 49, 50, 51] (by decide +kernel) (by decide +kernel)
set_option maxRecDepth 20000 in
theorem gX7_set_X4_isMissing : GoodIn wsX7_set (wsV RX7 71 RX4 yX4_isMissing wsX4_isMissing) := goodIn_app (goodIn_of _ (by decide +kernel)) ggX7_set_X4_isMissing
set_option maxRecDepth 20000 in
theorem ggX7_set_X7_found : GoodIn wsX7_set wsX7_found := goodIn_r _ [19, 20, 21, 40, 41, 42, 43, 44, 45, 46, 47, 48] (by decide +kernel) (by decide +kernel)
set_option maxRecDepth 20000 in
theorem gX7_set_X7_found : GoodIn wsX7_set (wsV RX7 60 RX7 yX7_found wsX7_found) := goodIn_app (goodIn_of _ (by decide +kernel)) ggX7_set_X7_found
set_option maxRecDepth 20000 in
theorem ggX7_set_X4_covers : GoodIn wsX7_set wsX4_covers := goodIn_r _ [25, 15, 49, 50, 51] (by decide +kernel) (by decide +kernel)
set_option maxRecDepth 20000 in
theorem gX7_set_X4_covers : GoodIn wsX7_set (wsV RX7 75 RX4 yX4_covers wsX4_covers) := goodIn_app (goodIn_of _ (by decide +kernel)) ggX7_set_X4_covers
set_option maxRecDepth 20000 in
theorem ggX7_set_X4_put : GoodIn wsX7_set wsX4_put := goodIn_r _ [29, 30, 31, 32, 33, 13, 34, 35, 49, 50, 51] (by decide +kernel) (by decide +kernel)
set_option maxRecDepth 20000 in
theorem gX7_set_X4_put : GoodIn wsX7_set (wsV RX7 79 RX4 yX4_put wsX4_put) := goodIn_app (goodIn_of _ (by decide +kernel)) ggX7_set_X4_put
set_option maxRecDepth 20000 in
theorem ggX7_set_X7_unfound : GoodIn wsX7_set wsX7_unfound := goodIn_r _ [39, 20, 40, 41, 42, 43, 44, 45, 46, 47, 48] (by decide +kernel) (by decide +kernel)
set_option maxRecDepth 20000 in
theorem gX7_set_X7_unfound : GoodIn wsX7_set (wsV RX7 68 RX7 yX7_unfound wsX7_unfound) := goodIn_app (goodIn_of _ (by decide +kernel)) ggX7_set_X7_unfound
theorem dX7_set_0 : decode cX7_set 0 = .ok (.iload_n 1, 1) := by decide +kernel
theorem dX7_set_1 : decode cX7_set 1 = .ok (.invokestatic 51, 3) := by decide +kernel
theorem dX7_set_4 : decode cX7_set 4 = .ok (.ifCond .ne 6, 3) := by decide +kernel
theorem dX7_set_7 : decode cX7_set 7 = .ok (.ldc 59, 2) := by decide +kernel
theorem dX7_set_9 : decode cX7_set 9 = .ok (.ireturn, 1) := by decide +kernel
theorem dX7_set_10 : decode cX7_set 10 = .ok (.aload_n 0, 1) := by decide +kernel
theorem dX7_set_11 : decode cX7_set 11 = .ok (.getfield 11, 3) := by decide +kernel
theorem dX7_set_14 : decode cX7_set 14 = .ok (.iload_n 1, 1) := by decide +kernel
theorem dX7_set_15 : decode cX7_set 15 = .ok (.aaload, 1) := by decide +kernel
theorem dX7_set_16 : decode cX7_set 16 = .ok (.astore 4, 2) := by decide +kernel
theorem dX7_set_18 : decode cX7_set 18 = .ok (.aload 4, 2) := by decide +kernel
theorem dX7_set_20 : decode cX7_set 20 = .ok (.invokevirtual 71, 3) := by decide +kernel
theorem dX7_set_23 : decode cX7_set 23 = .ok (.ifCond .eq 9, 3) := by decide +kernel
theorem dX7_set_26 : decode cX7_set 26 = .ok (.aload_n 0, 1) := by decide +kernel
theorem dX7_set_27 : decode cX7_set 27 = .ok (.iconst 1, 1) := by decide +kernel
theorem dX7_set_28 : decode cX7_set 28 = .ok (.invokevirtual 60, 3) := by decide +kernel
theorem dX7_set_31 : decode cX7_set 31 = .ok (.ireturn, 1) := by decide +kernel
theorem dX7_set_32 : decode cX7_set 32 = .ok (.aload 4, 2) := by decide +kernel
theorem dX7_set_34 : decode cX7_set 34 = .ok (.iload_n 2, 1) := by decide +kernel
theorem dX7_set_35 : decode cX7_set 35 = .ok (.iconst 1, 1) := by decide +kernel
theorem dX7_set_36 : decode cX7_set 36 = .ok (.invokevirtual 75, 3) := by decide +kernel
theorem dX7_set_39 : decode cX7_set 39 = .ok (.ifCond .ne 9, 3) := by decide +kernel
theorem dX7_set_42 : decode cX7_set 42 = .ok (.aload_n 0, 1) := by decide +kernel
theorem dX7_set_43 : decode cX7_set 43 = .ok (.iconst 2, 1) := by decide +kernel
theorem dX7_set_44 : decode cX7_set 44 = .ok (.invokevirtual 60, 3) := by decide +kernel
theorem dX7_set_47 : decode cX7_set 47 = .ok (.ireturn, 1) := by decide +kernel
theorem dX7_set_48 : decode cX7_set 48 = .ok (.aload_n 0, 1) := by decide +kernel
theorem dX7_set_49 : decode cX7_set 49 = .ok (.aload 4, 2) := by decide +kernel
theorem dX7_set_51 : decode cX7_set 51 = .ok (.iload_n 2, 1) := by decide +kernel
theorem dX7_set_52 : decode cX7_set 52 = .ok (.iload_n 3, 1) := by decide +kernel
theorem dX7_set_53 : decode cX7_set 53 = .ok (.invokevirtual 79, 3) := by decide +kernel
theorem dX7_set_56 : decode cX7_set 56 = .ok (.invokevirtual 68, 3) := by decide +kernel
theorem dX7_set_59 : decode cX7_set 59 = .ok (.ireturn, 1) := by decide +kernel
set_option maxRecDepth 20000 in
theorem ggX7_copy_X7_isRow : GoodIn wsX7_copy wsX7_isRow := goodIn_r _ [12, 13, 14, 11, 15] (by decide +kernel) (by decide +kernel)
set_option maxRecDepth 20000 in
theorem gX7_copy_X7_isRow : GoodIn wsX7_copy (va_wsS RX7 51 yX7_isRow wsX7_isRow) := goodIn_app (goodIn_of _ (by decide +kernel)) ggX7_copy_X7_isRow
set_option maxRecDepth 20000 in
theorem ggX7_copy_X4_isMissing : GoodIn wsX7_copy wsX4_isMissing := goodIn_r _ [20, 21, 45, 46, 47] (by decide +kernel) (by decide +kernel)
set_option maxRecDepth 20000 in
theorem gX7_copy_X4_isMissing : GoodIn wsX7_copy (wsV RX7 71 RX4 yX4_isMissing wsX4_isMissing) := goodIn_app (goodIn_of _ (by decide +kernel)) ggX7_copy_X4_isMissing
set_option maxRecDepth 20000 in
theorem ggX7_copy_X7_found : GoodIn wsX7_copy wsX7_found := goodIn_r _ [25, 26, 27, 36, 37, 38, 39, 40, 41, 42, 43, 44] (by decide +kernel) (by decide +kernel)
set_option maxRecDepth 20000 in
theorem gX7_copy_X7_found : GoodIn wsX7_copy (wsV RX7 60 RX7 yX7_found wsX7_found) := goodIn_app (goodIn_of _ (by decide +kernel)) ggX7_copy_X7_found
set_option maxRecDepth 20000 in
theorem ggX7_copy_X4_covers : GoodIn wsX7_copy wsX4_covers := goodIn_r _ [31, 21, 45, 46, 47] (by decide +kernel) (by decide +kernel)
set_option maxRecDepth 20000 in
theorem gX7_copy_X4_covers : GoodIn wsX7_copy (wsV RX7 75 RX4 yX4_covers wsX4_covers) := goodIn_app (goodIn_of _ (by decide +kernel)) ggX7_copy_X4_covers
set_option maxRecDepth 20000 in
theorem ggX7_copy_X7_unfound : GoodIn wsX7_copy wsX7_unfound := goodIn_r _ [35, 26, 36, 37, 38, 39, 40, 41, 42, 43, 44] (by decide +kernel) (by decide +kernel)
set_option maxRecDepth 20000 in
theorem gX7_copy_X7_unfound : GoodIn wsX7_copy (wsV RX7 68 RX7 yX7_unfound wsX7_unfound) := goodIn_app (goodIn_of _ (by decide +kernel)) ggX7_copy_X7_unfound
theorem dX7_copy_0 : decode cX7_copy 0 = .ok (.iload_n 1, 1) := by decide +kernel
theorem dX7_copy_1 : decode cX7_copy 1 = .ok (.invokestatic 51, 3) := by decide +kernel
theorem dX7_copy_4 : decode cX7_copy 4 = .ok (.ifCond .eq 10, 3) := by decide +kernel
theorem dX7_copy_7 : decode cX7_copy 7 = .ok (.iload_n 3, 1) := by decide +kernel
theorem dX7_copy_8 : decode cX7_copy 8 = .ok (.invokestatic 51, 3) := by decide +kernel
theorem dX7_copy_11 : decode cX7_copy 11 = .ok (.ifCond .ne 6, 3) := by decide +kernel
theorem dX7_copy_14 : decode cX7_copy 14 = .ok (.ldc 59, 2) := by decide +kernel
theorem dX7_copy_16 : decode cX7_copy 16 = .ok (.ireturn, 1) := by decide +kernel
theorem dX7_copy_17 : decode cX7_copy 17 = .ok (.aload_n 0, 1) := by decide +kernel
theorem dX7_copy_18 : decode cX7_copy 18 = .ok (.getfield 11, 3) := by decide +kernel
theorem dX7_copy_21 : decode cX7_copy 21 = .ok (.iload_n 1, 1) := by decide +kernel
theorem dX7_copy_22 : decode cX7_copy 22 = .ok (.aaload, 1) := by decide +kernel
theorem dX7_copy_23 : decode cX7_copy 23 = .ok (.astore 6, 2) := by decide +kernel
theorem dX7_copy_25 : decode cX7_copy 25 = .ok (.aload_n 0, 1) := by decide +kernel
theorem dX7_copy_26 : decode cX7_copy 26 = .ok (.getfield 11, 3) := by decide +kernel
theorem dX7_copy_29 : decode cX7_copy 29 = .ok (.iload_n 3, 1) := by decide +kernel
theorem dX7_copy_30 : decode cX7_copy 30 = .ok (.aaload, 1) := by decide +kernel
theorem dX7_copy_31 : decode cX7_copy 31 = .ok (.astore 7, 2) := by decide +kernel
theorem dX7_copy_33 : decode cX7_copy 33 = .ok (.aload 6, 2) := by decide +kernel
theorem dX7_copy_35 : decode cX7_copy 35 = .ok (.invokevirtual 71, 3) := by decide +kernel
theorem dX7_copy_38 : decode cX7_copy 38 = .ok (.ifCond .ne 11, 3) := by decide +kernel
theorem dX7_copy_41 : decode cX7_copy 41 = .ok (.aload 7, 2) := by decide +kernel
theorem dX7_copy_43 : decode cX7_copy 43 = .ok (.invokevirtual 71, 3) := by decide +kernel
theorem dX7_copy_46 : decode cX7_copy 46 = .ok (.ifCond .eq 9, 3) := by decide +kernel
theorem dX7_copy_49 : decode cX7_copy 49 = .ok (.aload_n 0, 1) := by decide +kernel
theorem dX7_copy_50 : decode cX7_copy 50 = .ok (.iconst 1, 1) := by decide +kernel
theorem dX7_copy_51 : decode cX7_copy 51 = .ok (.invokevirtual 60, 3) := by decide +kernel
theorem dX7_copy_54 : decode cX7_copy 54 = .ok (.ireturn, 1) := by decide +kernel
theorem dX7_copy_55 : decode cX7_copy 55 = .ok (.aload 6, 2) := by decide +kernel
theorem dX7_copy_57 : decode cX7_copy 57 = .ok (.getfield 83, 3) := by decide +kernel
theorem dX7_copy_60 : decode cX7_copy 60 = .ok (.aload 7, 2) := by decide +kernel
theorem dX7_copy_62 : decode cX7_copy 62 = .ok (.getfield 83, 3) := by decide +kernel
theorem dX7_copy_65 : decode cX7_copy 65 = .ok (.if_icmp .eq 9, 3) := by decide +kernel
theorem dX7_copy_68 : decode cX7_copy 68 = .ok (.aload_n 0, 1) := by decide +kernel
theorem dX7_copy_69 : decode cX7_copy 69 = .ok (.iconst 5, 1) := by decide +kernel
theorem dX7_copy_70 : decode cX7_copy 70 = .ok (.invokevirtual 60, 3) := by decide +kernel
theorem dX7_copy_73 : decode cX7_copy 73 = .ok (.ireturn, 1) := by decide +kernel
theorem dX7_copy_74 : decode cX7_copy 74 = .ok (.aload 6, 2) := by decide +kernel
theorem dX7_copy_76 : decode cX7_copy 76 = .ok (.iload_n 2, 1) := by decide +kernel
theorem dX7_copy_77 : decode cX7_copy 77 = .ok (.iload 5, 2) := by decide +kernel
theorem dX7_copy_79 : decode cX7_copy 79 = .ok (.invokevirtual 75, 3) := by decide +kernel
theorem dX7_copy_82 : decode cX7_copy 82 = .ok (.ifCond .eq 15, 3) := by decide +kernel
theorem dX7_copy_85 : decode cX7_copy 85 = .ok (.aload 7, 2) := by decide +kernel
theorem dX7_copy_87 : decode cX7_copy 87 = .ok (.iload 4, 2) := by decide +kernel
theorem dX7_copy_89 : decode cX7_copy 89 = .ok (.iload 5, 2) := by decide +kernel
theorem dX7_copy_91 : decode cX7_copy 91 = .ok (.invokevirtual 75, 3) := by decide +kernel
theorem dX7_copy_94 : decode cX7_copy 94 = .ok (.ifCond .ne 9, 3) := by decide +kernel
theorem dX7_copy_97 : decode cX7_copy 97 = .ok (.aload_n 0, 1) := by decide +kernel
theorem dX7_copy_98 : decode cX7_copy 98 = .ok (.iconst 2, 1) := by decide +kernel
theorem dX7_copy_99 : decode cX7_copy 99 = .ok (.invokevirtual 60, 3) := by decide +kernel
theorem dX7_copy_102 : decode cX7_copy 102 = .ok (.ireturn, 1) := by decide +kernel
theorem dX7_copy_103 : decode cX7_copy 103 = .ok (.aload 6, 2) := by decide +kernel
theorem dX7_copy_105 : decode cX7_copy 105 = .ok (.getfield 87, 3) := by decide +kernel
theorem dX7_copy_108 : decode cX7_copy 108 = .ok (.iload_n 2, 1) := by decide +kernel
theorem dX7_copy_109 : decode cX7_copy 109 = .ok (.aload 7, 2) := by decide +kernel
theorem dX7_copy_111 : decode cX7_copy 111 = .ok (.getfield 87, 3) := by decide +kernel
theorem dX7_copy_114 : decode cX7_copy 114 = .ok (.iload 4, 2) := by decide +kernel
theorem dX7_copy_116 : decode cX7_copy 116 = .ok (.iload 5, 2) := by decide +kernel
theorem dX7_copy_118 : decode cX7_copy 118 = .ok (.invokestatic 91, 3) := by decide +kernel
theorem dX7_copy_121 : decode cX7_copy 121 = .ok (.aload_n 0, 1) := by decide +kernel
theorem dX7_copy_122 : decode cX7_copy 122 = .ok (.iload 5, 2) := by decide +kernel
theorem dX7_copy_124 : decode cX7_copy 124 = .ok (.invokevirtual 68, 3) := by decide +kernel
theorem dX7_copy_127 : decode cX7_copy 127 = .ok (.ireturn, 1) := by decide +kernel
set_option maxRecDepth 20000 in
theorem ggX7_drop_X7_isRow : GoodIn wsX7_drop wsX7_isRow := goodIn_r _ [7, 8, 9, 6, 10] (by decide +kernel) (by decide +kernel)
set_option maxRecDepth 20000 in
theorem gX7_drop_X7_isRow : GoodIn wsX7_drop (va_wsS RX7 51 yX7_isRow wsX7_isRow) := goodIn_app (goodIn_of _ (by decide +kernel)) ggX7_drop_X7_isRow
set_option maxRecDepth 20000 in
theorem ggX7_drop_X4_isMissing : GoodIn wsX7_drop wsX4_isMissing := goodIn_r _ [15, 16, 36, 37, 38] (by decide +kernel) (by decide +kernel)
set_option maxRecDepth 20000 in
theorem gX7_drop_X4_isMissing : GoodIn wsX7_drop (wsV RX7 71 RX4 yX4_isMissing wsX4_isMissing) := goodIn_app (goodIn_of _ (by decide +kernel)) ggX7_drop_X4_isMissing
set_option maxRecDepth 20000 in
theorem ggX7_drop_X7_found : GoodIn wsX7_drop wsX7_found := goodIn_r _ [20, 21, 22, 27, 28, 29, 30, 31, 32, 33, 34, 35] (by decide +kernel) (by decide +kernel)
set_option maxRecDepth 20000 in
theorem gX7_drop_X7_found : GoodIn wsX7_drop (wsV RX7 60 RX7 yX7_found wsX7_found) := goodIn_app (goodIn_of _ (by decide +kernel)) ggX7_drop_X7_found
set_option maxRecDepth 20000 in
theorem ggX7_drop_X7_unfound : GoodIn wsX7_drop wsX7_unfound := goodIn_r _ [26, 21, 27, 28, 29, 30, 31, 32, 33, 34, 35] (by decide +kernel) (by decide +kernel)
set_option maxRecDepth 20000 in
theorem gX7_drop_X7_unfound : GoodIn wsX7_drop (wsV RX7 68 RX7 yX7_unfound wsX7_unfound) := goodIn_app (goodIn_of _ (by decide +kernel)) ggX7_drop_X7_unfound
theorem dX7_drop_0 : decode cX7_drop 0 = .ok (.iload_n 1, 1) := by decide +kernel
theorem dX7_drop_1 : decode cX7_drop 1 = .ok (.invokestatic 51, 3) := by decide +kernel
theorem dX7_drop_4 : decode cX7_drop 4 = .ok (.ifCond .ne 6, 3) := by decide +kernel
theorem dX7_drop_7 : decode cX7_drop 7 = .ok (.ldc 59, 2) := by decide +kernel
theorem dX7_drop_9 : decode cX7_drop 9 = .ok (.ireturn, 1) := by decide +kernel
theorem dX7_drop_10 : decode cX7_drop 10 = .ok (.aload_n 0, 1) := by decide +kernel
theorem dX7_drop_11 : decode cX7_drop 11 = .ok (.getfield 11, 3) := by decide +kernel
theorem dX7_drop_14 : decode cX7_drop 14 = .ok (.iload_n 1, 1) := by decide +kernel
theorem dX7_drop_15 : decode cX7_drop 15 = .ok (.aaload, 1) := by decide +kernel
theorem dX7_drop_16 : decode cX7_drop 16 = .ok (.astore_n 2, 1) := by decide +kernel
theorem dX7_drop_17 : decode cX7_drop 17 = .ok (.aload_n 2, 1) := by decide +kernel
theorem dX7_drop_18 : decode cX7_drop 18 = .ok (.invokevirtual 71, 3) := by decide +kernel
theorem dX7_drop_21 : decode cX7_drop 21 = .ok (.ifCond .eq 9, 3) := by decide +kernel
theorem dX7_drop_24 : decode cX7_drop 24 = .ok (.aload_n 0, 1) := by decide +kernel
theorem dX7_drop_25 : decode cX7_drop 25 = .ok (.iconst 1, 1) := by decide +kernel
theorem dX7_drop_26 : decode cX7_drop 26 = .ok (.invokevirtual 60, 3) := by decide +kernel
theorem dX7_drop_29 : decode cX7_drop 29 = .ok (.ireturn, 1) := by decide +kernel
theorem dX7_drop_30 : decode cX7_drop 30 = .ok (.aload_n 2, 1) := by decide +kernel
theorem dX7_drop_31 : decode cX7_drop 31 = .ok (.getfield 97, 3) := by decide +kernel
theorem dX7_drop_34 : decode cX7_drop 34 = .ok (.istore_n 3, 1) := by decide +kernel
theorem dX7_drop_35 : decode cX7_drop 35 = .ok (.aload_n 2, 1) := by decide +kernel
theorem dX7_drop_36 : decode cX7_drop 36 = .ok (.iconst (-1), 1) := by decide +kernel
theorem dX7_drop_37 : decode cX7_drop 37 = .ok (.putfield 97, 3) := by decide +kernel
theorem dX7_drop_40 : decode cX7_drop 40 = .ok (.aload_n 0, 1) := by decide +kernel
theorem dX7_drop_41 : decode cX7_drop 41 = .ok (.iload_n 3, 1) := by decide +kernel
theorem dX7_drop_42 : decode cX7_drop 42 = .ok (.invokevirtual 68, 3) := by decide +kernel
theorem dX7_drop_45 : decode cX7_drop 45 = .ok (.ireturn, 1) := by decide +kernel
set_option maxRecDepth 20000 in
theorem ggX7_feed_X7_isWithin : GoodIn wsX7_feed wsX7_isWithin := goodIn_r _ [9] (by decide +kernel) (by decide +kernel)
set_option maxRecDepth 20000 in
theorem gX7_feed_X7_isWithin : GoodIn wsX7_feed (va_wsS RX7 55 yX7_isWithin wsX7_isWithin) := goodIn_app (goodIn_of _ (by decide +kernel)) ggX7_feed_X7_isWithin
set_option maxRecDepth 20000 in
theorem ggX7_feed_X5_append : GoodIn wsX7_feed wsX5_append := goodIn_r _ [14, 15, 16, 33, 34] (by decide +kernel) (by decide +kernel)
set_option maxRecDepth 20000 in
theorem gX7_feed_X5_append : GoodIn wsX7_feed (wsV RX7 110 RX5 yX5_append wsX5_append) := goodIn_app (goodIn_of _ (by decide +kernel)) ggX7_feed_X5_append
theorem dX7_feed_0 : decode cX7_feed 0 = .ok (.iload_n 3, 1) := by decide +kernel
theorem dX7_feed_1 : decode cX7_feed 1 = .ok (.iconst 1, 1) := by decide +kernel
theorem dX7_feed_2 : decode cX7_feed 2 = .ok (.bipush 8, 2) := by decide +kernel
theorem dX7_feed_4 : decode cX7_feed 4 = .ok (.invokestatic 55, 3) := by decide +kernel
theorem dX7_feed_7 : decode cX7_feed 7 = .ok (.ifCond .ne 6, 3) := by decide +kernel
theorem dX7_feed_10 : decode cX7_feed 10 = .ok (.ldc 59, 2) := by decide +kernel
theorem dX7_feed_12 : decode cX7_feed 12 = .ok (.ireturn, 1) := by decide +kernel
theorem dX7_feed_13 : decode cX7_feed 13 = .ok (.aload_n 0, 1) := by decide +kernel
theorem dX7_feed_14 : decode cX7_feed 14 = .ok (.getfield 18, 3) := by decide +kernel
theorem dX7_feed_17 : decode cX7_feed 17 = .ok (.getfield 100, 3) := by decide +kernel
theorem dX7_feed_20 : decode cX7_feed 20 = .ok (.getfield 104, 3) := by decide +kernel
theorem dX7_feed_23 : decode cX7_feed 23 = .ok (.iload_n 3, 1) := by decide +kernel
theorem dX7_feed_24 : decode cX7_feed 24 = .ok (.iadd, 1) := by decide +kernel
theorem dX7_feed_25 : decode cX7_feed 25 = .ok (.sipush 400, 3) := by decide +kernel
theorem dX7_feed_28 : decode cX7_feed 28 = .ok (.if_icmp .le 6, 3) := by decide +kernel
theorem dX7_feed_31 : decode cX7_feed 31 = .ok (.ldc 109, 2) := by decide +kernel
theorem dX7_feed_33 : decode cX7_feed 33 = .ok (.ireturn, 1) := by decide +kernel
theorem dX7_feed_34 : decode cX7_feed 34 = .ok (.aload_n 0, 1) := by decide +kernel
theorem dX7_feed_35 : decode cX7_feed 35 = .ok (.getfield 18, 3) := by decide +kernel
theorem dX7_feed_38 : decode cX7_feed 38 = .ok (.getfield 100, 3) := by decide +kernel
theorem dX7_feed_41 : decode cX7_feed 41 = .ok (.lload_n 1, 1) := by decide +kernel
theorem dX7_feed_42 : decode cX7_feed 42 = .ok (.iload_n 3, 1) := by decide +kernel
theorem dX7_feed_43 : decode cX7_feed 43 = .ok (.invokevirtual 110, 3) := by decide +kernel
theorem dX7_feed_46 : decode cX7_feed 46 = .ok (.aload_n 0, 1) := by decide +kernel
theorem dX7_feed_47 : decode cX7_feed 47 = .ok (.getfield 18, 3) := by decide +kernel
theorem dX7_feed_50 : decode cX7_feed 50 = .ok (.getfield 100, 3) := by decide +kernel
theorem dX7_feed_53 : decode cX7_feed 53 = .ok (.getfield 104, 3) := by decide +kernel
theorem dX7_feed_56 : decode cX7_feed 56 = .ok (.ireturn, 1) := by decide +kernel
set_option maxRecDepth 20000 in
theorem ggX7_ridge_X2_read : GoodIn wsX7_ridge wsX2_read := goodIn_r _ [14, 15, 16, 17, 18, 19, 20, 21, 22, 13, 23, 24, 25, 26, 27, 28, 29, 30, 31, 32, 33, 34, 35, 36, 37, 38, 39, 40, 41, 42, 43, 44, 45, 46, 47, 48, 49, 50, 51, 52, 53, 54, 55, 56, 57, 58, 59, 60, 61, 62, 63, 64, 65, 66, 67, 68, 69, 70, 71, 72, 73, 74, 75, 76, 77, 78, 79, 80, 81, 82, 83, 84, 85, 86, 87, 88, 89, 90, 91, 92, 93, 94, 95, 96, 97, 98, 99, 100, 101, 102, 103, 104, 105, 106, 107, 108, 109, 110, 111, 112, 113, 114, 115, 116, 117, 118, 119, 120, 121, 122, 123, 124, 125, 126, 127, 128, 129, 130, 131, 132, 133, 134, 135, 136, 137, 138, 139, 140, 141, 142, 143, 144, 145, 146, 147, 148, 149, 150, 151, 152, 153, 154, 155, 156, 157, 158, 159, 160, 161, 162, 163, 164, 165, 166, 167, 168, 169, 170, 171, 172, 173, 201, 202, 203, 204, 205, 206, 207, 210, 211, 212, 213, 214, 215, 208, 209, 216, 217, 218, 219, 220, 221, 222, 223, 224, 225, 226, 227] (by decide +kernel) (by decide +kernel)
set_option maxRecDepth 20000 in
theorem gX7_ridge_X2_read : GoodIn wsX7_ridge (wsV RX7 114 RX2 yX2_read wsX2_read) := goodIn_app (goodIn_of _ (by decide +kernel)) ggX7_ridge_X2_read
set_option maxRecDepth 20000 in
theorem ggX7_ridge_X3_become : GoodIn wsX7_ridge wsX3_become := goodIn_r _ [177, 170, 178, 179, 180, 181, 171, 182, 183, 184, 157, 185, 159, 160, 186, 187, 188, 189, 190, 191, 161, 162, 163, 164, 210, 211, 212, 213, 214, 215, 216, 217, 218, 219, 220, 221, 222, 223, 224, 225, 226, 227] (by decide +kernel) (by decide +kernel)
set_option maxRecDepth 20000 in
theorem gX7_ridge_X3_become : GoodIn wsX7_ridge (wsV RX7 125 RX3 yX3_become wsX3_become) := goodIn_app (goodIn_of _ (by decide +kernel)) ggX7_ridge_X3_become
theorem dX7_ridge_0 : decode cX7_ridge 0 = .ok (.aload_n 0, 1) := by decide +kernel
theorem dX7_ridge_1 : decode cX7_ridge 1 = .ok (.getfield 18, 3) := by decide +kernel
theorem dX7_ridge_4 : decode cX7_ridge 4 = .ok (.aload_n 0, 1) := by decide +kernel
theorem dX7_ridge_5 : decode cX7_ridge 5 = .ok (.getfield 29, 3) := by decide +kernel
theorem dX7_ridge_8 : decode cX7_ridge 8 = .ok (.invokevirtual 114, 3) := by decide +kernel
theorem dX7_ridge_11 : decode cX7_ridge 11 = .ok (.istore_n 1, 1) := by decide +kernel
theorem dX7_ridge_12 : decode cX7_ridge 12 = .ok (.aload_n 0, 1) := by decide +kernel
theorem dX7_ridge_13 : decode cX7_ridge 13 = .ok (.getfield 18, 3) := by decide +kernel
theorem dX7_ridge_16 : decode cX7_ridge 16 = .ok (.getfield 100, 3) := by decide +kernel
theorem dX7_ridge_19 : decode cX7_ridge 19 = .ok (.iconst 0, 1) := by decide +kernel
theorem dX7_ridge_20 : decode cX7_ridge 20 = .ok (.putfield 104, 3) := by decide +kernel
theorem dX7_ridge_23 : decode cX7_ridge 23 = .ok (.iload_n 1, 1) := by decide +kernel
theorem dX7_ridge_24 : decode cX7_ridge 24 = .ok (.ifCond .eq 19, 3) := by decide +kernel
theorem dX7_ridge_27 : decode cX7_ridge 27 = .ok (.aload_n 0, 1) := by decide +kernel
theorem dX7_ridge_28 : decode cX7_ridge 28 = .ok (.iload_n 1, 1) := by decide +kernel
theorem dX7_ridge_29 : decode cX7_ridge 29 = .ok (.putfield 118, 3) := by decide +kernel
theorem dX7_ridge_32 : decode cX7_ridge 32 = .ok (.ldc 121, 2) := by decide +kernel
theorem dX7_ridge_34 : decode cX7_ridge 34 = .ok (.aload_n 0, 1) := by decide +kernel
theorem dX7_ridge_35 : decode cX7_ridge 35 = .ok (.getfield 18, 3) := by decide +kernel
theorem dX7_ridge_38 : decode cX7_ridge 38 = .ok (.getfield 122, 3) := by decide +kernel
theorem dX7_ridge_41 : decode cX7_ridge 41 = .ok (.isub, 1) := by decide +kernel
theorem dX7_ridge_42 : decode cX7_ridge 42 = .ok (.ireturn, 1) := by decide +kernel
theorem dX7_ridge_43 : decode cX7_ridge 43 = .ok (.aload_n 0, 1) := by decide +kernel
theorem dX7_ridge_44 : decode cX7_ridge 44 = .ok (.getfield 25, 3) := by decide +kernel
theorem dX7_ridge_47 : decode cX7_ridge 47 = .ok (.aload_n 0, 1) := by decide +kernel
theorem dX7_ridge_48 : decode cX7_ridge 48 = .ok (.getfield 29, 3) := by decide +kernel
theorem dX7_ridge_51 : decode cX7_ridge 51 = .ok (.invokevirtual 125, 3) := by decide +kernel
theorem dX7_ridge_54 : decode cX7_ridge 54 = .ok (.aload_n 0, 1) := by decide +kernel
theorem dX7_ridge_55 : decode cX7_ridge 55 = .ok (.getfield 25, 3) := by decide +kernel
theorem dX7_ridge_58 : decode cX7_ridge 58 = .ok (.getfield 129, 3) := by decide +kernel
theorem dX7_ridge_61 : decode cX7_ridge 61 = .ok (.ireturn, 1) := by decide +kernel
theorem dX7_fault_0 : decode cX7_fault 0 = .ok (.aload_n 0, 1) := by decide +kernel
theorem dX7_fault_1 : decode cX7_fault 1 = .ok (.getfield 118, 3) := by decide +kernel
theorem dX7_fault_4 : decode cX7_fault 4 = .ok (.ireturn, 1) := by decide +kernel
set_option maxRecDepth 20000 in
theorem ggX7_furl_X3_has : GoodIn wsX7_furl wsX3_has := goodIn_r _ [9, 10, 27, 28, 29, 30, 31, 32] (by decide +kernel) (by decide +kernel)
set_option maxRecDepth 20000 in
theorem gX7_furl_X3_has : GoodIn wsX7_furl (wsV RX7 132 RX3 yX3_has wsX3_has) := goodIn_app (goodIn_of _ (by decide +kernel)) ggX7_furl_X3_has
set_option maxRecDepth 20000 in
theorem ggX7_furl_X7_isWithin : GoodIn wsX7_furl wsX7_isWithin := goodIn_r _ [14] (by decide +kernel) (by decide +kernel)
set_option maxRecDepth 20000 in
theorem gX7_furl_X7_isWithin : GoodIn wsX7_furl (va_wsS RX7 55 yX7_isWithin wsX7_isWithin) := goodIn_app (goodIn_of _ (by decide +kernel)) ggX7_furl_X7_isWithin
set_option maxRecDepth 20000 in
theorem ggX7_furl_X7_bit : GoodIn wsX7_furl wsX7_bit := goodIn_r _ [17] (by decide +kernel) (by decide +kernel)
set_option maxRecDepth 20000 in
theorem gX7_furl_X7_bit : GoodIn wsX7_furl (va_wsS RX7 145 yX7_bit wsX7_bit) := goodIn_app (goodIn_of _ (by decide +kernel)) ggX7_furl_X7_bit
theorem dX7_furl_0 : decode cX7_furl 0 = .ok (.aload_n 0, 1) := by decide +kernel
theorem dX7_furl_1 : decode cX7_furl 1 = .ok (.getfield 25, 3) := by decide +kernel
theorem dX7_furl_4 : decode cX7_furl 4 = .ok (.iload_n 1, 1) := by decide +kernel
theorem dX7_furl_5 : decode cX7_furl 5 = .ok (.invokevirtual 132, 3) := by decide +kernel
theorem dX7_furl_8 : decode cX7_furl 8 = .ok (.ifCond .eq 12, 3) := by decide +kernel
theorem dX7_furl_11 : decode cX7_furl 11 = .ok (.iload_n 2, 1) := by decide +kernel
theorem dX7_furl_12 : decode cX7_furl 12 = .ok (.iconst 0, 1) := by decide +kernel
theorem dX7_furl_13 : decode cX7_furl 13 = .ok (.iconst 1, 1) := by decide +kernel
theorem dX7_furl_14 : decode cX7_furl 14 = .ok (.invokestatic 55, 3) := by decide +kernel
theorem dX7_furl_17 : decode cX7_furl 17 = .ok (.ifCond .ne 6, 3) := by decide +kernel
theorem dX7_furl_20 : decode cX7_furl 20 = .ok (.ldc 59, 2) := by decide +kernel
theorem dX7_furl_22 : decode cX7_furl 22 = .ok (.ireturn, 1) := by decide +kernel
theorem dX7_furl_23 : decode cX7_furl 23 = .ok (.aload_n 0, 1) := by decide +kernel
theorem dX7_furl_24 : decode cX7_furl 24 = .ok (.getfield 25, 3) := by decide +kernel
theorem dX7_furl_27 : decode cX7_furl 27 = .ok (.getfield 135, 3) := by decide +kernel
theorem dX7_furl_30 : decode cX7_furl 30 = .ok (.iload_n 1, 1) := by decide +kernel
theorem dX7_furl_31 : decode cX7_furl 31 = .ok (.aaload, 1) := by decide +kernel
theorem dX7_furl_32 : decode cX7_furl 32 = .ok (.getfield 139, 3) := by decide +kernel
theorem dX7_furl_35 : decode cX7_furl 35 = .ok (.invokestatic 145, 3) := by decide +kernel
theorem dX7_furl_38 : decode cX7_furl 38 = .ok (.istore_n 3, 1) := by decide +kernel
theorem dX7_furl_39 : decode cX7_furl 39 = .ok (.aload_n 0, 1) := by decide +kernel
theorem dX7_furl_40 : decode cX7_furl 40 = .ok (.getfield 25, 3) := by decide +kernel
theorem dX7_furl_43 : decode cX7_furl 43 = .ok (.getfield 135, 3) := by decide +kernel
theorem dX7_furl_46 : decode cX7_furl 46 = .ok (.iload_n 1, 1) := by decide +kernel
theorem dX7_furl_47 : decode cX7_furl 47 = .ok (.aaload, 1) := by decide +kernel
theorem dX7_furl_48 : decode cX7_furl 48 = .ok (.iload_n 2, 1) := by decide +kernel
theorem dX7_furl_49 : decode cX7_furl 49 = .ok (.iconst 1, 1) := by decide +kernel
theorem dX7_furl_50 : decode cX7_furl 50 = .ok (.if_icmp .ne 7, 3) := by decide +kernel
theorem dX7_furl_53 : decode cX7_furl 53 = .ok (.iconst 1, 1) := by decide +kernel
theorem dX7_furl_54 : decode cX7_furl 54 = .ok (.goto 4, 3) := by decide +kernel
theorem dX7_furl_57 : decode cX7_furl 57 = .ok (.iconst 0, 1) := by decide +kernel
theorem dX7_furl_58 : decode cX7_furl 58 = .ok (.putfield 139, 3) := by decide +kernel
theorem dX7_furl_61 : decode cX7_furl 61 = .ok (.iload_n 3, 1) := by decide +kernel
theorem dX7_furl_62 : decode cX7_furl 62 = .ok (.ireturn, 1) := by decide +kernel
set_option maxRecDepth 20000 in
theorem ggX7_face_X3_has : GoodIn wsX7_face wsX3_has := goodIn_r _ [11, 12, 29, 30, 31, 32, 33, 34] (by decide +kernel) (by decide +kernel)
set_option maxRecDepth 20000 in
theorem gX7_face_X3_has : GoodIn wsX7_face (wsV RX7 132 RX3 yX3_has wsX3_has) := goodIn_app (goodIn_of _ (by decide +kernel)) ggX7_face_X3_has
set_option maxRecDepth 20000 in
theorem ggX7_face_X7_isQuarter : GoodIn wsX7_face wsX7_isQuarter := goodIn_r _ [16, 17, 18, 15, 19] (by decide +kernel) (by decide +kernel)
set_option maxRecDepth 20000 in
theorem gX7_face_X7_isQuarter : GoodIn wsX7_face (va_wsS RX7 149 yX7_isQuarter wsX7_isQuarter) := goodIn_app (goodIn_of _ (by decide +kernel)) ggX7_face_X7_isQuarter
theorem dX7_face_0 : decode cX7_face 0 = .ok (.aload_n 0, 1) := by decide +kernel
theorem dX7_face_1 : decode cX7_face 1 = .ok (.getfield 25, 3) := by decide +kernel
theorem dX7_face_4 : decode cX7_face 4 = .ok (.iload_n 1, 1) := by decide +kernel
theorem dX7_face_5 : decode cX7_face 5 = .ok (.invokevirtual 132, 3) := by decide +kernel
theorem dX7_face_8 : decode cX7_face 8 = .ok (.ifCond .eq 10, 3) := by decide +kernel
theorem dX7_face_11 : decode cX7_face 11 = .ok (.iload_n 2, 1) := by decide +kernel
theorem dX7_face_12 : decode cX7_face 12 = .ok (.invokestatic 149, 3) := by decide +kernel
theorem dX7_face_15 : decode cX7_face 15 = .ok (.ifCond .ne 6, 3) := by decide +kernel
theorem dX7_face_18 : decode cX7_face 18 = .ok (.ldc 59, 2) := by decide +kernel
theorem dX7_face_20 : decode cX7_face 20 = .ok (.ireturn, 1) := by decide +kernel
theorem dX7_face_21 : decode cX7_face 21 = .ok (.aload_n 0, 1) := by decide +kernel
theorem dX7_face_22 : decode cX7_face 22 = .ok (.getfield 25, 3) := by decide +kernel
theorem dX7_face_25 : decode cX7_face 25 = .ok (.getfield 135, 3) := by decide +kernel
theorem dX7_face_28 : decode cX7_face 28 = .ok (.iload_n 1, 1) := by decide +kernel
theorem dX7_face_29 : decode cX7_face 29 = .ok (.aaload, 1) := by decide +kernel
theorem dX7_face_30 : decode cX7_face 30 = .ok (.astore_n 3, 1) := by decide +kernel
theorem dX7_face_31 : decode cX7_face 31 = .ok (.aload_n 3, 1) := by decide +kernel
theorem dX7_face_32 : decode cX7_face 32 = .ok (.getfield 152, 3) := by decide +kernel
theorem dX7_face_35 : decode cX7_face 35 = .ok (.iconst 5, 1) := by decide +kernel
theorem dX7_face_36 : decode cX7_face 36 = .ok (.if_icmp .ne 6, 3) := by decide +kernel
theorem dX7_face_39 : decode cX7_face 39 = .ok (.ldc 155, 2) := by decide +kernel
theorem dX7_face_41 : decode cX7_face 41 = .ok (.ireturn, 1) := by decide +kernel
theorem dX7_face_42 : decode cX7_face 42 = .ok (.aload_n 3, 1) := by decide +kernel
theorem dX7_face_43 : decode cX7_face 43 = .ok (.getfield 156, 3) := by decide +kernel
theorem dX7_face_46 : decode cX7_face 46 = .ok (.istore 4, 2) := by decide +kernel
theorem dX7_face_48 : decode cX7_face 48 = .ok (.aload_n 3, 1) := by decide +kernel
theorem dX7_face_49 : decode cX7_face 49 = .ok (.iload_n 2, 1) := by decide +kernel
theorem dX7_face_50 : decode cX7_face 50 = .ok (.putfield 156, 3) := by decide +kernel
theorem dX7_face_53 : decode cX7_face 53 = .ok (.iload 4, 2) := by decide +kernel
theorem dX7_face_55 : decode cX7_face 55 = .ok (.ireturn, 1) := by decide +kernel
set_option maxRecDepth 20000 in
theorem ggX7_build_X3_has : GoodIn wsX7_build wsX3_has := goodIn_r _ [10, 11, 21, 22, 23, 24, 25, 26] (by decide +kernel) (by decide +kernel)
set_option maxRecDepth 20000 in
theorem gX7_build_X3_has : GoodIn wsX7_build (wsV RX7 132 RX3 yX3_has wsX3_has) := goodIn_app (goodIn_of _ (by decide +kernel)) ggX7_build_X3_has
theorem dX7_build_0 : decode cX7_build 0 = .ok (.aload_n 0, 1) := by decide +kernel
theorem dX7_build_1 : decode cX7_build 1 = .ok (.getfield 25, 3) := by decide +kernel
theorem dX7_build_4 : decode cX7_build 4 = .ok (.iload_n 1, 1) := by decide +kernel
theorem dX7_build_5 : decode cX7_build 5 = .ok (.invokevirtual 132, 3) := by decide +kernel
theorem dX7_build_8 : decode cX7_build 8 = .ok (.ifCond .ne 6, 3) := by decide +kernel
theorem dX7_build_11 : decode cX7_build 11 = .ok (.ldc 59, 2) := by decide +kernel
theorem dX7_build_13 : decode cX7_build 13 = .ok (.ireturn, 1) := by decide +kernel
theorem dX7_build_14 : decode cX7_build 14 = .ok (.aload_n 0, 1) := by decide +kernel
theorem dX7_build_15 : decode cX7_build 15 = .ok (.getfield 25, 3) := by decide +kernel
theorem dX7_build_18 : decode cX7_build 18 = .ok (.getfield 135, 3) := by decide +kernel
theorem dX7_build_21 : decode cX7_build 21 = .ok (.iload_n 1, 1) := by decide +kernel
theorem dX7_build_22 : decode cX7_build 22 = .ok (.aaload, 1) := by decide +kernel
theorem dX7_build_23 : decode cX7_build 23 = .ok (.astore_n 2, 1) := by decide +kernel
theorem dX7_build_24 : decode cX7_build 24 = .ok (.aload_n 2, 1) := by decide +kernel
theorem dX7_build_25 : decode cX7_build 25 = .ok (.getfield 159, 3) := by decide +kernel
theorem dX7_build_28 : decode cX7_build 28 = .ok (.bipush 9, 2) := by decide +kernel
theorem dX7_build_30 : decode cX7_build 30 = .ok (.if_icmp .lt 6, 3) := by decide +kernel
theorem dX7_build_33 : decode cX7_build 33 = .ok (.ldc 109, 2) := by decide +kernel
theorem dX7_build_35 : decode cX7_build 35 = .ok (.ireturn, 1) := by decide +kernel
theorem dX7_build_36 : decode cX7_build 36 = .ok (.aload_n 2, 1) := by decide +kernel
theorem dX7_build_37 : decode cX7_build 37 = .ok (.dup, 1) := by decide +kernel
theorem dX7_build_38 : decode cX7_build 38 = .ok (.getfield 159, 3) := by decide +kernel
theorem dX7_build_41 : decode cX7_build 41 = .ok (.iconst 1, 1) := by decide +kernel
theorem dX7_build_42 : decode cX7_build 42 = .ok (.iadd, 1) := by decide +kernel
theorem dX7_build_43 : decode cX7_build 43 = .ok (.putfield 159, 3) := by decide +kernel
theorem dX7_build_46 : decode cX7_build 46 = .ok (.aload_n 2, 1) := by decide +kernel
theorem dX7_build_47 : decode cX7_build 47 = .ok (.getfield 159, 3) := by decide +kernel
theorem dX7_build_50 : decode cX7_build 50 = .ok (.ireturn, 1) := by decide +kernel
set_option maxRecDepth 20000 in
theorem ggX7_bring_X3_has : GoodIn wsX7_bring wsX3_has := goodIn_r _ [14, 15, 29, 30, 31, 32, 33, 34] (by decide +kernel) (by decide +kernel)
set_option maxRecDepth 20000 in
theorem gX7_bring_X3_has : GoodIn wsX7_bring (wsV RX7 132 RX3 yX3_has wsX3_has) := goodIn_app (goodIn_of _ (by decide +kernel)) ggX7_bring_X3_has
set_option maxRecDepth 20000 in
theorem ggX7_bring_X7_isWithin : GoodIn wsX7_bring wsX7_isWithin := goodIn_r _ [19] (by decide +kernel) (by decide +kernel)
set_option maxRecDepth 20000 in
theorem gX7_bring_X7_isWithin : GoodIn wsX7_bring (va_wsS RX7 55 yX7_isWithin wsX7_isWithin) := goodIn_app (goodIn_of _ (by decide +kernel)) ggX7_bring_X7_isWithin
theorem dX7_bring_0 : decode cX7_bring 0 = .ok (.aload_n 0, 1) := by decide +kernel
theorem dX7_bring_1 : decode cX7_bring 1 = .ok (.getfield 25, 3) := by decide +kernel
theorem dX7_bring_4 : decode cX7_bring 4 = .ok (.iload_n 1, 1) := by decide +kernel
theorem dX7_bring_5 : decode cX7_bring 5 = .ok (.invokevirtual 132, 3) := by decide +kernel
theorem dX7_bring_8 : decode cX7_bring 8 = .ok (.ifCond .eq 14, 3) := by decide +kernel
theorem dX7_bring_11 : decode cX7_bring 11 = .ok (.iload_n 2, 1) := by decide +kernel
theorem dX7_bring_12 : decode cX7_bring 12 = .ok (.iconst 0, 1) := by decide +kernel
theorem dX7_bring_13 : decode cX7_bring 13 = .ok (.sipush 999, 3) := by decide +kernel
theorem dX7_bring_16 : decode cX7_bring 16 = .ok (.invokestatic 55, 3) := by decide +kernel
theorem dX7_bring_19 : decode cX7_bring 19 = .ok (.ifCond .ne 6, 3) := by decide +kernel
theorem dX7_bring_22 : decode cX7_bring 22 = .ok (.ldc 59, 2) := by decide +kernel
theorem dX7_bring_24 : decode cX7_bring 24 = .ok (.ireturn, 1) := by decide +kernel
theorem dX7_bring_25 : decode cX7_bring 25 = .ok (.aload_n 0, 1) := by decide +kernel
theorem dX7_bring_26 : decode cX7_bring 26 = .ok (.getfield 25, 3) := by decide +kernel
theorem dX7_bring_29 : decode cX7_bring 29 = .ok (.getfield 135, 3) := by decide +kernel
theorem dX7_bring_32 : decode cX7_bring 32 = .ok (.iload_n 1, 1) := by decide +kernel
theorem dX7_bring_33 : decode cX7_bring 33 = .ok (.aaload, 1) := by decide +kernel
theorem dX7_bring_34 : decode cX7_bring 34 = .ok (.astore_n 3, 1) := by decide +kernel
theorem dX7_bring_35 : decode cX7_bring 35 = .ok (.aload_n 3, 1) := by decide +kernel
theorem dX7_bring_36 : decode cX7_bring 36 = .ok (.aload_n 3, 1) := by decide +kernel
theorem dX7_bring_37 : decode cX7_bring 37 = .ok (.getfield 162, 3) := by decide +kernel
theorem dX7_bring_40 : decode cX7_bring 40 = .ok (.iload_n 2, 1) := by decide +kernel
theorem dX7_bring_41 : decode cX7_bring 41 = .ok (.iadd, 1) := by decide +kernel
theorem dX7_bring_42 : decode cX7_bring 42 = .ok (.ldc 165, 2) := by decide +kernel
theorem dX7_bring_44 : decode cX7_bring 44 = .ok (.invokestatic 166, 3) := by decide +kernel
theorem dX7_bring_47 : decode cX7_bring 47 = .ok (.putfield 162, 3) := by decide +kernel
theorem dX7_bring_50 : decode cX7_bring 50 = .ok (.aload_n 3, 1) := by decide +kernel
theorem dX7_bring_51 : decode cX7_bring 51 = .ok (.getfield 162, 3) := by decide +kernel
theorem dX7_bring_54 : decode cX7_bring 54 = .ok (.ireturn, 1) := by decide +kernel
set_option maxRecDepth 20000 in
theorem ggX7_hour_X3_isNone : GoodIn wsX7_hour wsX3_isNone := goodIn_r _ [8, 9, 138, 139, 140, 141, 142, 143] (by decide +kernel) (by decide +kernel)
set_option maxRecDepth 20000 in
theorem gX7_hour_X3_isNone : GoodIn wsX7_hour (wsV RX7 171 RX3 yX3_isNone wsX3_isNone) := goodIn_app (goodIn_of _ (by decide +kernel)) ggX7_hour_X3_isNone
set_option maxRecDepth 20000 in
theorem ggX7_hour_X7_isWind : GoodIn wsX7_hour wsX7_isWind := goodIn_r _ [13, 14, 15, 12, 16, 17, 18, 19] (by decide +kernel) (by decide +kernel)
set_option maxRecDepth 20000 in
theorem gX7_hour_X7_isWind : GoodIn wsX7_hour (va_wsS RX7 174 yX7_isWind wsX7_isWind) := goodIn_app (goodIn_of _ (by decide +kernel)) ggX7_hour_X7_isWind
set_option maxRecDepth 20000 in
theorem ggX7_hour_X7_pass : GoodIn wsX7_hour wsX7_pass := goodIn_r _ [23, 1, 24, 25, 26, 27, 28, 29, 30, 31, 32, 12, 33, 34, 35, 36, 37, 38, 39, 40, 41, 42, 43, 44, 45, 46, 47, 48, 49, 50, 51, 52, 53, 54, 55, 7, 56, 9, 57, 58, 59, 60, 61, 62, 63, 64, 65, 66, 67, 68, 69, 70, 71, 72, 73, 74, 75, 76, 77, 78, 79, 80, 81, 82, 83, 84, 85, 86, 87, 88, 89, 90, 91, 92, 93, 94, 95, 96, 97, 18, 19, 98, 99, 100, 101, 102, 103, 104, 105, 106, 107, 108, 109, 110, 111, 112, 113, 114, 115, 116, 117, 118, 119, 120, 121, 122, 123, 124, 125, 126, 127, 128, 129, 130, 131, 132, 133, 134, 135, 136, 137, 138, 139, 140, 141, 142, 143, 144, 145, 146, 147, 148, 149, 150, 151, 152, 153, 154, 155, 156, 157, 158, 159, 160, 161] (by decide +kernel) (by decide +kernel)
set_option maxRecDepth 20000 in
theorem gX7_hour_X7_pass : GoodIn wsX7_hour (wsV RX7 177 RX7 yX7_pass wsX7_pass) := goodIn_app (goodIn_of _ (by decide +kernel)) ggX7_hour_X7_pass
theorem dX7_hour_0 : decode cX7_hour 0 = .ok (.aload_n 0, 1) := by decide +kernel
theorem dX7_hour_1 : decode cX7_hour 1 = .ok (.getfield 25, 3) := by decide +kernel
theorem dX7_hour_4 : decode cX7_hour 4 = .ok (.invokevirtual 171, 3) := by decide +kernel
theorem dX7_hour_7 : decode cX7_hour 7 = .ok (.ifCond .eq 6, 3) := by decide +kernel
theorem dX7_hour_10 : decode cX7_hour 10 = .ok (.ldc 155, 2) := by decide +kernel
theorem dX7_hour_12 : decode cX7_hour 12 = .ok (.ireturn, 1) := by decide +kernel
theorem dX7_hour_13 : decode cX7_hour 13 = .ok (.iload_n 1, 1) := by decide +kernel
theorem dX7_hour_14 : decode cX7_hour 14 = .ok (.iload_n 2, 1) := by decide +kernel
theorem dX7_hour_15 : decode cX7_hour 15 = .ok (.invokestatic 174, 3) := by decide +kernel
theorem dX7_hour_18 : decode cX7_hour 18 = .ok (.ifCond .ne 6, 3) := by decide +kernel
theorem dX7_hour_21 : decode cX7_hour 21 = .ok (.ldc 59, 2) := by decide +kernel
theorem dX7_hour_23 : decode cX7_hour 23 = .ok (.ireturn, 1) := by decide +kernel
theorem dX7_hour_24 : decode cX7_hour 24 = .ok (.aload_n 0, 1) := by decide +kernel
theorem dX7_hour_25 : decode cX7_hour 25 = .ok (.iload_n 1, 1) := by decide +kernel
theorem dX7_hour_26 : decode cX7_hour 26 = .ok (.iload_n 2, 1) := by decide +kernel
theorem dX7_hour_27 : decode cX7_hour 27 = .ok (.invokevirtual 177, 3) := by decide +kernel
theorem dX7_hour_30 : decode cX7_hour 30 = .ok (.ireturn, 1) := by decide +kernel
set_option maxRecDepth 20000 in
theorem ggX7_hours_X3_isNone : GoodIn wsX7_hours wsX3_isNone := goodIn_r _ [10, 11, 172, 173, 174, 175, 176, 177] (by decide +kernel) (by decide +kernel)
set_option maxRecDepth 20000 in
theorem gX7_hours_X3_isNone : GoodIn wsX7_hours (wsV RX7 171 RX3 yX3_isNone wsX3_isNone) := goodIn_app (goodIn_of _ (by decide +kernel)) ggX7_hours_X3_isNone
set_option maxRecDepth 20000 in
theorem ggX7_hours_X7_isRow : GoodIn wsX7_hours wsX7_isRow := goodIn_r _ [15, 16, 17, 14, 18] (by decide +kernel) (by decide +kernel)
set_option maxRecDepth 20000 in
theorem gX7_hours_X7_isRow : GoodIn wsX7_hours (va_wsS RX7 51 yX7_isRow wsX7_isRow) := goodIn_app (goodIn_of _ (by decide +kernel)) ggX7_hours_X7_isRow
set_option maxRecDepth 20000 in
theorem ggX7_hours_X7_isWithin : GoodIn wsX7_hours wsX7_isWithin := goodIn_r _ [18] (by decide +kernel) (by decide +kernel)
set_option maxRecDepth 20000 in
theorem gX7_hours_X7_isWithin : GoodIn wsX7_hours (va_wsS RX7 55 yX7_isWithin wsX7_isWithin) := goodIn_app (goodIn_of _ (by decide +kernel)) ggX7_hours_X7_isWithin
set_option maxRecDepth 20000 in
theorem ggX7_hours_X4_isMissing : GoodIn wsX7_hours wsX4_isMissing := goodIn_r _ [23, 24, 169, 170, 171] (by decide +kernel) (by decide +kernel)
set_option maxRecDepth 20000 in
theorem gX7_hours_X4_isMissing : GoodIn wsX7_hours (wsV RX7 71 RX4 yX4_isMissing wsX4_isMissing) := goodIn_app (goodIn_of _ (by decide +kernel)) ggX7_hours_X4_isMissing
set_option maxRecDepth 20000 in
theorem ggX7_hours_X7_found : GoodIn wsX7_hours wsX7_found := goodIn_r _ [28, 29, 30, 160, 161, 162, 163, 164, 165, 166, 167, 168] (by decide +kernel) (by decide +kernel)
set_option maxRecDepth 20000 in
theorem gX7_hours_X7_found : GoodIn wsX7_hours (wsV RX7 60 RX7 yX7_found wsX7_found) := goodIn_app (goodIn_of _ (by decide +kernel)) ggX7_hours_X7_found
set_option maxRecDepth 20000 in
theorem ggX7_hours_X4_covers : GoodIn wsX7_hours wsX4_covers := goodIn_r _ [34, 24, 169, 170, 171] (by decide +kernel) (by decide +kernel)
set_option maxRecDepth 20000 in
theorem gX7_hours_X4_covers : GoodIn wsX7_hours (wsV RX7 75 RX4 yX4_covers wsX4_covers) := goodIn_app (goodIn_of _ (by decide +kernel)) ggX7_hours_X4_covers
set_option maxRecDepth 20000 in
theorem ggX7_hours_X7_quarterOf : GoodIn wsX7_hours wsX7_quarterOf := goodIn_r _ [37] (by decide +kernel) (by decide +kernel)
set_option maxRecDepth 20000 in
theorem gX7_hours_X7_quarterOf : GoodIn wsX7_hours (va_wsS RX7 180 yX7_quarterOf wsX7_quarterOf) := goodIn_app (goodIn_of _ (by decide +kernel)) ggX7_hours_X7_quarterOf
set_option maxRecDepth 20000 in
theorem ggX7_hours_X7_strengthOf : GoodIn wsX7_hours wsX7_strengthOf := goodIn_r _ [40] (by decide +kernel) (by decide +kernel)
set_option maxRecDepth 20000 in
theorem gX7_hours_X7_strengthOf : GoodIn wsX7_hours (va_wsS RX7 183 yX7_strengthOf wsX7_strengthOf) := goodIn_app (goodIn_of _ (by decide +kernel)) ggX7_hours_X7_strengthOf
set_option maxRecDepth 20000 in
theorem ggX7_hours_X7_isWind : GoodIn wsX7_hours wsX7_isWind := goodIn_r _ [43, 44, 45, 14, 46, 16, 17, 18] (by decide +kernel) (by decide +kernel)
set_option maxRecDepth 20000 in
theorem gX7_hours_X7_isWind : GoodIn wsX7_hours (va_wsS RX7 174 yX7_isWind wsX7_isWind) := goodIn_app (goodIn_of _ (by decide +kernel)) ggX7_hours_X7_isWind
set_option maxRecDepth 20000 in
theorem ggX7_hours_X7_pass : GoodIn wsX7_hours wsX7_pass := goodIn_r _ [50, 1, 51, 52, 53, 54, 55, 56, 57, 58, 59, 14, 60, 61, 62, 63, 64, 65, 66, 67, 68, 69, 70, 71, 72, 73, 74, 75, 76, 77, 78, 79, 80, 81, 82, 9, 83, 11, 84, 85, 86, 87, 88, 89, 90, 91, 92, 93, 94, 95, 96, 97, 98, 99, 100, 101, 102, 103, 104, 105, 106, 107, 108, 109, 110, 111, 112, 113, 114, 115, 116, 117, 118, 119, 120, 121, 122, 123, 124, 17, 18, 125, 126, 127, 128, 129, 130, 131, 132, 133, 134, 135, 136, 137, 138, 139, 140, 141, 142, 143, 144, 145, 146, 147, 148, 149, 150, 151, 152, 153, 154, 155, 160, 161, 162, 163, 164, 165, 166, 167, 168, 172, 173, 174, 175, 176, 177, 178, 179, 180, 181, 182, 183, 184, 185, 186, 187, 188, 189, 190, 191, 192, 193, 194, 195] (by decide +kernel) (by decide +kernel)
set_option maxRecDepth 20000 in
theorem gX7_hours_X7_pass : GoodIn wsX7_hours (wsV RX7 177 RX7 yX7_pass wsX7_pass) := goodIn_app (goodIn_of _ (by decide +kernel)) ggX7_hours_X7_pass
set_option maxRecDepth 20000 in
theorem ggX7_hours_X7_unfound : GoodIn wsX7_hours wsX7_unfound := goodIn_r _ [159, 29, 160, 161, 162, 163, 164, 165, 166, 167, 168] (by decide +kernel) (by decide +kernel)
set_option maxRecDepth 20000 in
theorem gX7_hours_X7_unfound : GoodIn wsX7_hours (wsV RX7 68 RX7 yX7_unfound wsX7_unfound) := goodIn_app (goodIn_of _ (by decide +kernel)) ggX7_hours_X7_unfound
theorem dX7_hours_0 : decode cX7_hours 0 = .ok (.aload_n 0, 1) := by decide +kernel
theorem dX7_hours_1 : decode cX7_hours 1 = .ok (.getfield 25, 3) := by decide +kernel
theorem dX7_hours_4 : decode cX7_hours 4 = .ok (.invokevirtual 171, 3) := by decide +kernel
theorem dX7_hours_7 : decode cX7_hours 7 = .ok (.ifCond .eq 6, 3) := by decide +kernel
theorem dX7_hours_10 : decode cX7_hours 10 = .ok (.ldc 155, 2) := by decide +kernel
theorem dX7_hours_12 : decode cX7_hours 12 = .ok (.ireturn, 1) := by decide +kernel
theorem dX7_hours_13 : decode cX7_hours 13 = .ok (.iload_n 1, 1) := by decide +kernel
theorem dX7_hours_14 : decode cX7_hours 14 = .ok (.invokestatic 51, 3) := by decide +kernel
theorem dX7_hours_17 : decode cX7_hours 17 = .ok (.ifCond .eq 13, 3) := by decide +kernel
theorem dX7_hours_20 : decode cX7_hours 20 = .ok (.iload_n 3, 1) := by decide +kernel
theorem dX7_hours_21 : decode cX7_hours 21 = .ok (.iconst 1, 1) := by decide +kernel
theorem dX7_hours_22 : decode cX7_hours 22 = .ok (.bipush 24, 2) := by decide +kernel
theorem dX7_hours_24 : decode cX7_hours 24 = .ok (.invokestatic 55, 3) := by decide +kernel
theorem dX7_hours_27 : decode cX7_hours 27 = .ok (.ifCond .ne 6, 3) := by decide +kernel
theorem dX7_hours_30 : decode cX7_hours 30 = .ok (.ldc 59, 2) := by decide +kernel
theorem dX7_hours_32 : decode cX7_hours 32 = .ok (.ireturn, 1) := by decide +kernel
theorem dX7_hours_33 : decode cX7_hours 33 = .ok (.aload_n 0, 1) := by decide +kernel
theorem dX7_hours_34 : decode cX7_hours 34 = .ok (.getfield 11, 3) := by decide +kernel
theorem dX7_hours_37 : decode cX7_hours 37 = .ok (.iload_n 1, 1) := by decide +kernel
theorem dX7_hours_38 : decode cX7_hours 38 = .ok (.aaload, 1) := by decide +kernel
theorem dX7_hours_39 : decode cX7_hours 39 = .ok (.astore 4, 2) := by decide +kernel
theorem dX7_hours_41 : decode cX7_hours 41 = .ok (.aload 4, 2) := by decide +kernel
theorem dX7_hours_43 : decode cX7_hours 43 = .ok (.invokevirtual 71, 3) := by decide +kernel
theorem dX7_hours_46 : decode cX7_hours 46 = .ok (.ifCond .eq 9, 3) := by decide +kernel
theorem dX7_hours_49 : decode cX7_hours 49 = .ok (.aload_n 0, 1) := by decide +kernel
theorem dX7_hours_50 : decode cX7_hours 50 = .ok (.iconst 1, 1) := by decide +kernel
theorem dX7_hours_51 : decode cX7_hours 51 = .ok (.invokevirtual 60, 3) := by decide +kernel
theorem dX7_hours_54 : decode cX7_hours 54 = .ok (.ireturn, 1) := by decide +kernel
theorem dX7_hours_55 : decode cX7_hours 55 = .ok (.aload 4, 2) := by decide +kernel
theorem dX7_hours_57 : decode cX7_hours 57 = .ok (.iload_n 2, 1) := by decide +kernel
theorem dX7_hours_58 : decode cX7_hours 58 = .ok (.iload_n 3, 1) := by decide +kernel
theorem dX7_hours_59 : decode cX7_hours 59 = .ok (.invokevirtual 75, 3) := by decide +kernel
theorem dX7_hours_62 : decode cX7_hours 62 = .ok (.ifCond .ne 9, 3) := by decide +kernel
theorem dX7_hours_65 : decode cX7_hours 65 = .ok (.aload_n 0, 1) := by decide +kernel
theorem dX7_hours_66 : decode cX7_hours 66 = .ok (.iconst 2, 1) := by decide +kernel
theorem dX7_hours_67 : decode cX7_hours 67 = .ok (.invokevirtual 60, 3) := by decide +kernel
theorem dX7_hours_70 : decode cX7_hours 70 = .ok (.ireturn, 1) := by decide +kernel
theorem dX7_hours_71 : decode cX7_hours 71 = .ok (.iload_n 2, 1) := by decide +kernel
theorem dX7_hours_72 : decode cX7_hours 72 = .ok (.istore 5, 2) := by decide +kernel
theorem dX7_hours_74 : decode cX7_hours 74 = .ok (.iload 5, 2) := by decide +kernel
theorem dX7_hours_76 : decode cX7_hours 76 = .ok (.iload_n 2, 1) := by decide +kernel
theorem dX7_hours_77 : decode cX7_hours 77 = .ok (.iload_n 3, 1) := by decide +kernel
theorem dX7_hours_78 : decode cX7_hours 78 = .ok (.iadd, 1) := by decide +kernel
theorem dX7_hours_79 : decode cX7_hours 79 = .ok (.if_icmp .ge 40, 3) := by decide +kernel
theorem dX7_hours_82 : decode cX7_hours 82 = .ok (.aload 4, 2) := by decide +kernel
theorem dX7_hours_84 : decode cX7_hours 84 = .ok (.getfield 87, 3) := by decide +kernel
theorem dX7_hours_87 : decode cX7_hours 87 = .ok (.iload 5, 2) := by decide +kernel
theorem dX7_hours_89 : decode cX7_hours 89 = .ok (.iaload, 1) := by decide +kernel
theorem dX7_hours_90 : decode cX7_hours 90 = .ok (.invokestatic 180, 3) := by decide +kernel
theorem dX7_hours_93 : decode cX7_hours 93 = .ok (.aload 4, 2) := by decide +kernel
theorem dX7_hours_95 : decode cX7_hours 95 = .ok (.getfield 87, 3) := by decide +kernel
theorem dX7_hours_98 : decode cX7_hours 98 = .ok (.iload 5, 2) := by decide +kernel
theorem dX7_hours_100 : decode cX7_hours 100 = .ok (.iaload, 1) := by decide +kernel
theorem dX7_hours_101 : decode cX7_hours 101 = .ok (.invokestatic 183, 3) := by decide +kernel
theorem dX7_hours_104 : decode cX7_hours 104 = .ok (.invokestatic 174, 3) := by decide +kernel
theorem dX7_hours_107 : decode cX7_hours 107 = .ok (.ifCond .ne 6, 3) := by decide +kernel
theorem dX7_hours_110 : decode cX7_hours 110 = .ok (.ldc 59, 2) := by decide +kernel
theorem dX7_hours_112 : decode cX7_hours 112 = .ok (.ireturn, 1) := by decide +kernel
theorem dX7_hours_113 : decode cX7_hours 113 = .ok (.iinc 5 1, 3) := by decide +kernel
theorem dX7_hours_116 : decode cX7_hours 116 = .ok (.goto (-42), 3) := by decide +kernel
theorem dX7_hours_119 : decode cX7_hours 119 = .ok (.iconst 0, 1) := by decide +kernel
theorem dX7_hours_120 : decode cX7_hours 120 = .ok (.istore 5, 2) := by decide +kernel
theorem dX7_hours_122 : decode cX7_hours 122 = .ok (.iload_n 2, 1) := by decide +kernel
theorem dX7_hours_123 : decode cX7_hours 123 = .ok (.istore 6, 2) := by decide +kernel
theorem dX7_hours_125 : decode cX7_hours 125 = .ok (.iload 6, 2) := by decide +kernel
theorem dX7_hours_127 : decode cX7_hours 127 = .ok (.iload_n 2, 1) := by decide +kernel
theorem dX7_hours_128 : decode cX7_hours 128 = .ok (.iload_n 3, 1) := by decide +kernel
theorem dX7_hours_129 : decode cX7_hours 129 = .ok (.iadd, 1) := by decide +kernel
theorem dX7_hours_130 : decode cX7_hours 130 = .ok (.if_icmp .ge 40, 3) := by decide +kernel
theorem dX7_hours_133 : decode cX7_hours 133 = .ok (.iload 5, 2) := by decide +kernel
theorem dX7_hours_135 : decode cX7_hours 135 = .ok (.aload_n 0, 1) := by decide +kernel
theorem dX7_hours_136 : decode cX7_hours 136 = .ok (.aload 4, 2) := by decide +kernel
theorem dX7_hours_138 : decode cX7_hours 138 = .ok (.getfield 87, 3) := by decide +kernel
theorem dX7_hours_141 : decode cX7_hours 141 = .ok (.iload 6, 2) := by decide +kernel
theorem dX7_hours_143 : decode cX7_hours 143 = .ok (.iaload, 1) := by decide +kernel
theorem dX7_hours_144 : decode cX7_hours 144 = .ok (.invokestatic 180, 3) := by decide +kernel
theorem dX7_hours_147 : decode cX7_hours 147 = .ok (.aload 4, 2) := by decide +kernel
theorem dX7_hours_149 : decode cX7_hours 149 = .ok (.getfield 87, 3) := by decide +kernel
theorem dX7_hours_152 : decode cX7_hours 152 = .ok (.iload 6, 2) := by decide +kernel
theorem dX7_hours_154 : decode cX7_hours 154 = .ok (.iaload, 1) := by decide +kernel
theorem dX7_hours_155 : decode cX7_hours 155 = .ok (.invokestatic 183, 3) := by decide +kernel
theorem dX7_hours_158 : decode cX7_hours 158 = .ok (.invokevirtual 177, 3) := by decide +kernel
theorem dX7_hours_161 : decode cX7_hours 161 = .ok (.iadd, 1) := by decide +kernel
theorem dX7_hours_162 : decode cX7_hours 162 = .ok (.istore 5, 2) := by decide +kernel
theorem dX7_hours_164 : decode cX7_hours 164 = .ok (.iinc 6 1, 3) := by decide +kernel
theorem dX7_hours_167 : decode cX7_hours 167 = .ok (.goto (-42), 3) := by decide +kernel
theorem dX7_hours_170 : decode cX7_hours 170 = .ok (.aload_n 0, 1) := by decide +kernel
theorem dX7_hours_171 : decode cX7_hours 171 = .ok (.iload 5, 2) := by decide +kernel
theorem dX7_hours_173 : decode cX7_hours 173 = .ok (.invokevirtual 68, 3) := by decide +kernel
theorem dX7_hours_176 : decode cX7_hours 176 = .ok (.ireturn, 1) := by decide +kernel
set_option maxRecDepth 20000 in
theorem ggX7_mill_X3_has : GoodIn wsX7_mill wsX3_has := goodIn_r _ [18, 19, 33, 34, 35, 36, 37, 38] (by decide +kernel) (by decide +kernel)
set_option maxRecDepth 20000 in
theorem gX7_mill_X3_has : GoodIn wsX7_mill (wsV RX7 132 RX3 yX3_has wsX3_has) := goodIn_app (goodIn_of _ (by decide +kernel)) ggX7_mill_X3_has
set_option maxRecDepth 20000 in
theorem ggX7_mill_X7_bit : GoodIn wsX7_mill wsX7_bit := goodIn_r _ [23] (by decide +kernel) (by decide +kernel)
set_option maxRecDepth 20000 in
theorem gX7_mill_X7_bit : GoodIn wsX7_mill (va_wsS RX7 145 yX7_bit wsX7_bit) := goodIn_app (goodIn_of _ (by decide +kernel)) ggX7_mill_X7_bit
theorem dX7_mill_0 : decode cX7_mill 0 = .ok (.aload_n 0, 1) := by decide +kernel
theorem dX7_mill_1 : decode cX7_mill 1 = .ok (.getfield 25, 3) := by decide +kernel
theorem dX7_mill_4 : decode cX7_mill 4 = .ok (.iload_n 1, 1) := by decide +kernel
theorem dX7_mill_5 : decode cX7_mill 5 = .ok (.invokevirtual 132, 3) := by decide +kernel
theorem dX7_mill_8 : decode cX7_mill 8 = .ok (.ifCond .ne 6, 3) := by decide +kernel
theorem dX7_mill_11 : decode cX7_mill 11 = .ok (.ldc 59, 2) := by decide +kernel
theorem dX7_mill_13 : decode cX7_mill 13 = .ok (.ireturn, 1) := by decide +kernel
theorem dX7_mill_14 : decode cX7_mill 14 = .ok (.aload_n 0, 1) := by decide +kernel
theorem dX7_mill_15 : decode cX7_mill 15 = .ok (.getfield 25, 3) := by decide +kernel
theorem dX7_mill_18 : decode cX7_mill 18 = .ok (.getfield 135, 3) := by decide +kernel
theorem dX7_mill_21 : decode cX7_mill 21 = .ok (.iload_n 1, 1) := by decide +kernel
theorem dX7_mill_22 : decode cX7_mill 22 = .ok (.aaload, 1) := by decide +kernel
theorem dX7_mill_23 : decode cX7_mill 23 = .ok (.astore_n 3, 1) := by decide +kernel
theorem dX7_mill_24 : decode cX7_mill 24 = .ok (.iload_n 2, 1) := by decide +kernel
theorem dX7_mill_25 : decode cX7_mill 25 = .ok (.tableswitch 108 0 9 #[55, 60, 65, 70, 75, 80, 85, 90, 98, 103], 55) := by decide +kernel
theorem dX7_mill_80 : decode cX7_mill 80 = .ok (.aload_n 3, 1) := by decide +kernel
theorem dX7_mill_81 : decode cX7_mill 81 = .ok (.getfield 159, 3) := by decide +kernel
theorem dX7_mill_84 : decode cX7_mill 84 = .ok (.ireturn, 1) := by decide +kernel
theorem dX7_mill_85 : decode cX7_mill 85 = .ok (.aload_n 3, 1) := by decide +kernel
theorem dX7_mill_86 : decode cX7_mill 86 = .ok (.getfield 186, 3) := by decide +kernel
theorem dX7_mill_89 : decode cX7_mill 89 = .ok (.ireturn, 1) := by decide +kernel
theorem dX7_mill_90 : decode cX7_mill 90 = .ok (.aload_n 3, 1) := by decide +kernel
theorem dX7_mill_91 : decode cX7_mill 91 = .ok (.getfield 189, 3) := by decide +kernel
theorem dX7_mill_94 : decode cX7_mill 94 = .ok (.ireturn, 1) := by decide +kernel
theorem dX7_mill_95 : decode cX7_mill 95 = .ok (.aload_n 3, 1) := by decide +kernel
theorem dX7_mill_96 : decode cX7_mill 96 = .ok (.getfield 162, 3) := by decide +kernel
theorem dX7_mill_99 : decode cX7_mill 99 = .ok (.ireturn, 1) := by decide +kernel
theorem dX7_mill_100 : decode cX7_mill 100 = .ok (.aload_n 3, 1) := by decide +kernel
theorem dX7_mill_101 : decode cX7_mill 101 = .ok (.getfield 192, 3) := by decide +kernel
theorem dX7_mill_104 : decode cX7_mill 104 = .ok (.ireturn, 1) := by decide +kernel
theorem dX7_mill_105 : decode cX7_mill 105 = .ok (.aload_n 3, 1) := by decide +kernel
theorem dX7_mill_106 : decode cX7_mill 106 = .ok (.getfield 195, 3) := by decide +kernel
theorem dX7_mill_109 : decode cX7_mill 109 = .ok (.ireturn, 1) := by decide +kernel
theorem dX7_mill_110 : decode cX7_mill 110 = .ok (.aload_n 3, 1) := by decide +kernel
theorem dX7_mill_111 : decode cX7_mill 111 = .ok (.getfield 156, 3) := by decide +kernel
theorem dX7_mill_114 : decode cX7_mill 114 = .ok (.ireturn, 1) := by decide +kernel
theorem dX7_mill_115 : decode cX7_mill 115 = .ok (.aload_n 3, 1) := by decide +kernel
theorem dX7_mill_116 : decode cX7_mill 116 = .ok (.getfield 139, 3) := by decide +kernel
theorem dX7_mill_119 : decode cX7_mill 119 = .ok (.invokestatic 145, 3) := by decide +kernel
theorem dX7_mill_122 : decode cX7_mill 122 = .ok (.ireturn, 1) := by decide +kernel
theorem dX7_mill_123 : decode cX7_mill 123 = .ok (.aload_n 3, 1) := by decide +kernel
theorem dX7_mill_124 : decode cX7_mill 124 = .ok (.getfield 198, 3) := by decide +kernel
theorem dX7_mill_127 : decode cX7_mill 127 = .ok (.ireturn, 1) := by decide +kernel
theorem dX7_mill_128 : decode cX7_mill 128 = .ok (.aload_n 3, 1) := by decide +kernel
theorem dX7_mill_129 : decode cX7_mill 129 = .ok (.getfield 201, 3) := by decide +kernel
theorem dX7_mill_132 : decode cX7_mill 132 = .ok (.ireturn, 1) := by decide +kernel
theorem dX7_mill_133 : decode cX7_mill 133 = .ok (.ldc 59, 2) := by decide +kernel
theorem dX7_mill_135 : decode cX7_mill 135 = .ok (.ireturn, 1) := by decide +kernel
set_option maxRecDepth 20000 in
theorem ggX7_left_X3_has : GoodIn wsX7_left wsX3_has := goodIn_r _ [8, 9, 117, 118, 119, 120, 121, 122] (by decide +kernel) (by decide +kernel)
set_option maxRecDepth 20000 in
theorem gX7_left_X3_has : GoodIn wsX7_left (wsV RX7 132 RX3 yX3_has wsX3_has) := goodIn_app (goodIn_of _ (by decide +kernel)) ggX7_left_X3_has
set_option maxRecDepth 20000 in
theorem ggX7_left_X7_isWind : GoodIn wsX7_left wsX7_isWind := goodIn_r _ [13, 14, 15, 12, 16, 17, 18, 19] (by decide +kernel) (by decide +kernel)
set_option maxRecDepth 20000 in
theorem gX7_left_X7_isWind : GoodIn wsX7_left (va_wsS RX7 174 yX7_isWind wsX7_isWind) := goodIn_app (goodIn_of _ (by decide +kernel)) ggX7_left_X7_isWind
set_option maxRecDepth 20000 in
theorem ggX7_left_X7_isWithin : GoodIn wsX7_left wsX7_isWithin := goodIn_r _ [19] (by decide +kernel) (by decide +kernel)
set_option maxRecDepth 20000 in
theorem gX7_left_X7_isWithin : GoodIn wsX7_left (va_wsS RX7 55 yX7_isWithin wsX7_isWithin) := goodIn_app (goodIn_of _ (by decide +kernel)) ggX7_left_X7_isWithin
set_option maxRecDepth 20000 in
theorem ggX7_left_X7_windOf : GoodIn wsX7_left wsX7_windOf := goodIn_r _ [23, 24, 1, 25, 26, 27, 28, 29, 30, 31, 32, 33, 34, 35, 36, 37, 38, 39, 40, 41, 42, 43, 44, 45, 7, 46, 9, 47, 48, 49, 50, 51, 52, 53, 54, 55, 56, 57, 58, 59, 60, 61, 62, 63, 64, 65, 66, 67, 68, 69, 5, 6, 8, 70, 71, 72, 73, 74, 12, 75, 76, 77, 78, 79, 80, 81, 82, 83, 84, 18, 19, 85, 86, 87, 88, 89, 90, 102, 103, 104, 105, 106, 107, 108, 109, 110, 111, 112, 113, 114, 115, 116, 117, 118, 119, 120, 121, 122, 123, 124, 125, 126, 127, 128, 129, 130, 131, 132, 133, 134] (by decide +kernel) (by decide +kernel)
set_option maxRecDepth 20000 in
theorem gX7_left_X7_windOf : GoodIn wsX7_left (wsV RX7 204 RX7 yX7_windOf wsX7_windOf) := goodIn_app (goodIn_of _ (by decide +kernel)) ggX7_left_X7_windOf
set_option maxRecDepth 20000 in
theorem ggX7_left_X1_windLeft : GoodIn wsX7_left wsX1_windLeft := goodIn_r _ [94, 89, 42, 39, 95, 96, 97, 98, 99, 100, 101, 111, 112, 113, 114, 115, 116] (by decide +kernel) (by decide +kernel)
set_option maxRecDepth 20000 in
theorem gX7_left_X1_windLeft : GoodIn wsX7_left (wsV RX7 208 RX1 yX1_windLeft wsX1_windLeft) := goodIn_app (goodIn_of _ (by decide +kernel)) ggX7_left_X1_windLeft
theorem dX7_left_0 : decode cX7_left 0 = .ok (.aload_n 0, 1) := by decide +kernel
theorem dX7_left_1 : decode cX7_left 1 = .ok (.getfield 25, 3) := by decide +kernel
theorem dX7_left_4 : decode cX7_left 4 = .ok (.iload_n 1, 1) := by decide +kernel
theorem dX7_left_5 : decode cX7_left 5 = .ok (.invokevirtual 132, 3) := by decide +kernel
theorem dX7_left_8 : decode cX7_left 8 = .ok (.ifCond .eq 21, 3) := by decide +kernel
theorem dX7_left_11 : decode cX7_left 11 = .ok (.iload_n 2, 1) := by decide +kernel
theorem dX7_left_12 : decode cX7_left 12 = .ok (.iload_n 3, 1) := by decide +kernel
theorem dX7_left_13 : decode cX7_left 13 = .ok (.invokestatic 174, 3) := by decide +kernel
theorem dX7_left_16 : decode cX7_left 16 = .ok (.ifCond .eq 13, 3) := by decide +kernel
theorem dX7_left_19 : decode cX7_left 19 = .ok (.iload 4, 2) := by decide +kernel
theorem dX7_left_21 : decode cX7_left 21 = .ok (.iconst 0, 1) := by decide +kernel
theorem dX7_left_22 : decode cX7_left 22 = .ok (.iconst 1, 1) := by decide +kernel
theorem dX7_left_23 : decode cX7_left 23 = .ok (.invokestatic 55, 3) := by decide +kernel
theorem dX7_left_26 : decode cX7_left 26 = .ok (.ifCond .ne 6, 3) := by decide +kernel
theorem dX7_left_29 : decode cX7_left 29 = .ok (.ldc 59, 2) := by decide +kernel
theorem dX7_left_31 : decode cX7_left 31 = .ok (.ireturn, 1) := by decide +kernel
theorem dX7_left_32 : decode cX7_left 32 = .ok (.aload_n 0, 1) := by decide +kernel
theorem dX7_left_33 : decode cX7_left 33 = .ok (.iload_n 2, 1) := by decide +kernel
theorem dX7_left_34 : decode cX7_left 34 = .ok (.iload_n 3, 1) := by decide +kernel
theorem dX7_left_35 : decode cX7_left 35 = .ok (.invokevirtual 204, 3) := by decide +kernel
theorem dX7_left_38 : decode cX7_left 38 = .ok (.astore 5, 2) := by decide +kernel
theorem dX7_left_40 : decode cX7_left 40 = .ok (.iload 4, 2) := by decide +kernel
theorem dX7_left_42 : decode cX7_left 42 = .ok (.ifCond .ne 13, 3) := by decide +kernel
theorem dX7_left_45 : decode cX7_left 45 = .ok (.aload 5, 2) := by decide +kernel
theorem dX7_left_47 : decode cX7_left 47 = .ok (.iload_n 1, 1) := by decide +kernel
theorem dX7_left_48 : decode cX7_left 48 = .ok (.iconst 0, 1) := by decide +kernel
theorem dX7_left_49 : decode cX7_left 49 = .ok (.invokevirtual 208, 3) := by decide +kernel
theorem dX7_left_52 : decode cX7_left 52 = .ok (.goto 10, 3) := by decide +kernel
theorem dX7_left_55 : decode cX7_left 55 = .ok (.aload 5, 2) := by decide +kernel
theorem dX7_left_57 : decode cX7_left 57 = .ok (.getfield 211, 3) := by decide +kernel
theorem dX7_left_60 : decode cX7_left 60 = .ok (.iload_n 1, 1) := by decide +kernel
theorem dX7_left_61 : decode cX7_left 61 = .ok (.iaload, 1) := by decide +kernel
theorem dX7_left_62 : decode cX7_left 62 = .ok (.ireturn, 1) := by decide +kernel
set_option maxRecDepth 20000 in
theorem ggX7_made_X3_isNone : GoodIn wsX7_made wsX3_isNone := goodIn_r _ [8, 9, 128, 129, 130, 131, 132, 133] (by decide +kernel) (by decide +kernel)
set_option maxRecDepth 20000 in
theorem gX7_made_X3_isNone : GoodIn wsX7_made (wsV RX7 171 RX3 yX3_isNone wsX3_isNone) := goodIn_app (goodIn_of _ (by decide +kernel)) ggX7_made_X3_isNone
set_option maxRecDepth 20000 in
theorem ggX7_made_X7_isWind : GoodIn wsX7_made wsX7_isWind := goodIn_r _ [13, 14, 15, 12, 16, 17, 18, 19] (by decide +kernel) (by decide +kernel)
set_option maxRecDepth 20000 in
theorem gX7_made_X7_isWind : GoodIn wsX7_made (va_wsS RX7 174 yX7_isWind wsX7_isWind) := goodIn_app (goodIn_of _ (by decide +kernel)) ggX7_made_X7_isWind
set_option maxRecDepth 20000 in
theorem ggX7_made_X7_isWithin : GoodIn wsX7_made wsX7_isWithin := goodIn_r _ [19] (by decide +kernel) (by decide +kernel)
set_option maxRecDepth 20000 in
theorem gX7_made_X7_isWithin : GoodIn wsX7_made (va_wsS RX7 55 yX7_isWithin wsX7_isWithin) := goodIn_app (goodIn_of _ (by decide +kernel)) ggX7_made_X7_isWithin
set_option maxRecDepth 20000 in
theorem ggX7_made_X7_windOf : GoodIn wsX7_made wsX7_windOf := goodIn_r _ [23, 24, 1, 25, 26, 27, 28, 29, 30, 31, 32, 33, 34, 35, 36, 37, 38, 39, 40, 41, 42, 43, 44, 45, 7, 46, 9, 47, 48, 49, 50, 51, 52, 53, 54, 55, 56, 57, 58, 59, 60, 61, 62, 63, 64, 65, 66, 67, 68, 69, 70, 71, 72, 73, 74, 75, 76, 77, 12, 78, 79, 80, 81, 82, 83, 84, 85, 86, 87, 18, 19, 88, 89, 90, 91, 92, 93, 119, 120, 121, 122, 123, 124, 125, 126, 127, 134, 135, 136, 137, 138, 139, 128, 129, 130, 131, 132, 133, 140, 141, 142, 143, 144, 145, 146, 147, 148, 149, 150, 151] (by decide +kernel) (by decide +kernel)
set_option maxRecDepth 20000 in
theorem gX7_made_X7_windOf : GoodIn wsX7_made (wsV RX7 204 RX7 yX7_windOf wsX7_windOf) := goodIn_app (goodIn_of _ (by decide +kernel)) ggX7_made_X7_windOf
set_option maxRecDepth 20000 in
theorem ggX7_made_X1_madeBy : GoodIn wsX7_made wsX1_madeBy := goodIn_r _ [97, 30, 40, 98, 99, 100, 28, 101, 32, 102, 34, 35, 36, 37, 103, 104, 105, 106, 38, 41, 107, 108, 109, 110, 111, 92, 42, 39, 112, 113, 114, 115, 116, 117, 118, 134, 135, 136, 137, 138, 139, 128, 129, 130, 131, 132, 133, 140, 141, 142, 143, 144, 145, 146, 147, 148, 149, 150, 151] (by decide +kernel) (by decide +kernel)
set_option maxRecDepth 20000 in
theorem gX7_made_X1_madeBy : GoodIn wsX7_made (wsV RX7 214 RX1 yX1_madeBy wsX1_madeBy) := goodIn_app (goodIn_of _ (by decide +kernel)) ggX7_made_X1_madeBy
theorem dX7_made_0 : decode cX7_made 0 = .ok (.aload_n 0, 1) := by decide +kernel
theorem dX7_made_1 : decode cX7_made 1 = .ok (.getfield 25, 3) := by decide +kernel
theorem dX7_made_4 : decode cX7_made 4 = .ok (.invokevirtual 171, 3) := by decide +kernel
theorem dX7_made_7 : decode cX7_made 7 = .ok (.ifCond .eq 6, 3) := by decide +kernel
theorem dX7_made_10 : decode cX7_made 10 = .ok (.ldc 155, 2) := by decide +kernel
theorem dX7_made_12 : decode cX7_made 12 = .ok (.ireturn, 1) := by decide +kernel
theorem dX7_made_13 : decode cX7_made 13 = .ok (.iload_n 1, 1) := by decide +kernel
theorem dX7_made_14 : decode cX7_made 14 = .ok (.iload_n 2, 1) := by decide +kernel
theorem dX7_made_15 : decode cX7_made 15 = .ok (.invokestatic 174, 3) := by decide +kernel
theorem dX7_made_18 : decode cX7_made 18 = .ok (.ifCond .eq 14, 3) := by decide +kernel
theorem dX7_made_21 : decode cX7_made 21 = .ok (.iload_n 3, 1) := by decide +kernel
theorem dX7_made_22 : decode cX7_made 22 = .ok (.iconst 0, 1) := by decide +kernel
theorem dX7_made_23 : decode cX7_made 23 = .ok (.sipush 255, 3) := by decide +kernel
theorem dX7_made_26 : decode cX7_made 26 = .ok (.invokestatic 55, 3) := by decide +kernel
theorem dX7_made_29 : decode cX7_made 29 = .ok (.ifCond .ne 6, 3) := by decide +kernel
theorem dX7_made_32 : decode cX7_made 32 = .ok (.ldc 59, 2) := by decide +kernel
theorem dX7_made_34 : decode cX7_made 34 = .ok (.ireturn, 1) := by decide +kernel
theorem dX7_made_35 : decode cX7_made 35 = .ok (.aload_n 0, 1) := by decide +kernel
theorem dX7_made_36 : decode cX7_made 36 = .ok (.iload_n 1, 1) := by decide +kernel
theorem dX7_made_37 : decode cX7_made 37 = .ok (.iload_n 2, 1) := by decide +kernel
theorem dX7_made_38 : decode cX7_made 38 = .ok (.invokevirtual 204, 3) := by decide +kernel
theorem dX7_made_41 : decode cX7_made 41 = .ok (.iload_n 3, 1) := by decide +kernel
theorem dX7_made_42 : decode cX7_made 42 = .ok (.invokevirtual 214, 3) := by decide +kernel
theorem dX7_made_45 : decode cX7_made 45 = .ok (.ireturn, 1) := by decide +kernel
set_option maxRecDepth 20000 in
theorem ggX7_best_X3_isNone : GoodIn wsX7_best wsX3_isNone := goodIn_r _ [8, 9, 133, 134, 135, 136, 137, 138] (by decide +kernel) (by decide +kernel)
set_option maxRecDepth 20000 in
theorem gX7_best_X3_isNone : GoodIn wsX7_best (wsV RX7 171 RX3 yX3_isNone wsX3_isNone) := goodIn_app (goodIn_of _ (by decide +kernel)) ggX7_best_X3_isNone
set_option maxRecDepth 20000 in
theorem ggX7_best_X7_isWind : GoodIn wsX7_best wsX7_isWind := goodIn_r _ [13, 14, 15, 12, 16, 17, 18, 19] (by decide +kernel) (by decide +kernel)
set_option maxRecDepth 20000 in
theorem gX7_best_X7_isWind : GoodIn wsX7_best (va_wsS RX7 174 yX7_isWind wsX7_isWind) := goodIn_app (goodIn_of _ (by decide +kernel)) ggX7_best_X7_isWind
set_option maxRecDepth 20000 in
theorem ggX7_best_X7_isWithin : GoodIn wsX7_best wsX7_isWithin := goodIn_r _ [19] (by decide +kernel) (by decide +kernel)
set_option maxRecDepth 20000 in
theorem gX7_best_X7_isWithin : GoodIn wsX7_best (va_wsS RX7 55 yX7_isWithin wsX7_isWithin) := goodIn_app (goodIn_of _ (by decide +kernel)) ggX7_best_X7_isWithin
set_option maxRecDepth 20000 in
theorem ggX7_best_X7_windOf : GoodIn wsX7_best wsX7_windOf := goodIn_r _ [23, 24, 1, 25, 26, 27, 28, 29, 30, 31, 32, 33, 34, 35, 36, 37, 38, 39, 40, 41, 42, 43, 44, 45, 7, 46, 9, 47, 48, 49, 50, 51, 52, 53, 54, 55, 56, 57, 58, 59, 60, 61, 62, 63, 64, 65, 66, 67, 68, 69, 70, 71, 72, 73, 74, 75, 76, 77, 12, 78, 79, 80, 81, 82, 83, 84, 85, 86, 87, 18, 19, 88, 89, 90, 91, 92, 93, 124, 125, 126, 127, 128, 129, 130, 131, 132, 139, 140, 141, 142, 143, 144, 133, 134, 135, 136, 137, 138, 145, 146, 147, 148, 149, 150, 151, 152, 153, 154, 155, 156] (by decide +kernel) (by decide +kernel)
set_option maxRecDepth 20000 in
theorem gX7_best_X7_windOf : GoodIn wsX7_best (wsV RX7 204 RX7 yX7_windOf wsX7_windOf) := goodIn_app (goodIn_of _ (by decide +kernel)) ggX7_best_X7_windOf
set_option maxRecDepth 20000 in
theorem ggX7_best_X1_bestSet : GoodIn wsX7_best wsX1_bestSet := goodIn_r _ [97, 30, 40, 98, 99, 100, 28, 101, 102, 103, 104, 105, 32, 106, 34, 35, 36, 37, 107, 108, 109, 110, 38, 41, 111, 112, 113, 114, 115, 92, 42, 39, 116, 117, 118, 119, 120, 121, 122, 139, 140, 141, 142, 143, 144, 133, 134, 135, 136, 137, 138, 145, 146, 147, 148, 149, 150, 151, 152, 153, 154, 155, 156] (by decide +kernel) (by decide +kernel)
set_option maxRecDepth 20000 in
theorem gX7_best_X1_bestSet : GoodIn wsX7_best (wsV RX7 217 RX1 yX1_bestSet wsX1_bestSet) := goodIn_app (goodIn_of _ (by decide +kernel)) ggX7_best_X1_bestSet
set_option maxRecDepth 20000 in
theorem ggX7_best_X1_madeBy : GoodIn wsX7_best wsX1_madeBy := goodIn_r _ [101, 30, 40, 102, 103, 104, 28, 105, 32, 106, 34, 35, 36, 37, 107, 108, 109, 110, 38, 41, 111, 112, 113, 114, 115, 92, 42, 39, 116, 117, 118, 119, 120, 121, 122, 139, 140, 141, 142, 143, 144, 133, 134, 135, 136, 137, 138, 145, 146, 147, 148, 149, 150, 151, 152, 153, 154, 155, 156] (by decide +kernel) (by decide +kernel)
set_option maxRecDepth 20000 in
theorem gX7_best_X1_madeBy : GoodIn wsX7_best (wsV RX7 214 RX1 yX1_madeBy wsX1_madeBy) := goodIn_app (goodIn_of _ (by decide +kernel)) ggX7_best_X1_madeBy
theorem dX7_best_0 : decode cX7_best 0 = .ok (.aload_n 0, 1) := by decide +kernel
theorem dX7_best_1 : decode cX7_best 1 = .ok (.getfield 25, 3) := by decide +kernel
theorem dX7_best_4 : decode cX7_best 4 = .ok (.invokevirtual 171, 3) := by decide +kernel
theorem dX7_best_7 : decode cX7_best 7 = .ok (.ifCond .eq 6, 3) := by decide +kernel
theorem dX7_best_10 : decode cX7_best 10 = .ok (.ldc 155, 2) := by decide +kernel
theorem dX7_best_12 : decode cX7_best 12 = .ok (.ireturn, 1) := by decide +kernel
theorem dX7_best_13 : decode cX7_best 13 = .ok (.iload_n 1, 1) := by decide +kernel
theorem dX7_best_14 : decode cX7_best 14 = .ok (.iload_n 2, 1) := by decide +kernel
theorem dX7_best_15 : decode cX7_best 15 = .ok (.invokestatic 174, 3) := by decide +kernel
theorem dX7_best_18 : decode cX7_best 18 = .ok (.ifCond .eq 12, 3) := by decide +kernel
theorem dX7_best_21 : decode cX7_best 21 = .ok (.iload_n 3, 1) := by decide +kernel
theorem dX7_best_22 : decode cX7_best 22 = .ok (.iconst 0, 1) := by decide +kernel
theorem dX7_best_23 : decode cX7_best 23 = .ok (.iconst 1, 1) := by decide +kernel
theorem dX7_best_24 : decode cX7_best 24 = .ok (.invokestatic 55, 3) := by decide +kernel
theorem dX7_best_27 : decode cX7_best 27 = .ok (.ifCond .ne 6, 3) := by decide +kernel
theorem dX7_best_30 : decode cX7_best 30 = .ok (.ldc 59, 2) := by decide +kernel
theorem dX7_best_32 : decode cX7_best 32 = .ok (.ireturn, 1) := by decide +kernel
theorem dX7_best_33 : decode cX7_best 33 = .ok (.aload_n 0, 1) := by decide +kernel
theorem dX7_best_34 : decode cX7_best 34 = .ok (.iload_n 1, 1) := by decide +kernel
theorem dX7_best_35 : decode cX7_best 35 = .ok (.iload_n 2, 1) := by decide +kernel
theorem dX7_best_36 : decode cX7_best 36 = .ok (.invokevirtual 204, 3) := by decide +kernel
theorem dX7_best_39 : decode cX7_best 39 = .ok (.astore 4, 2) := by decide +kernel
theorem dX7_best_41 : decode cX7_best 41 = .ok (.aload 4, 2) := by decide +kernel
theorem dX7_best_43 : decode cX7_best 43 = .ok (.invokevirtual 217, 3) := by decide +kernel
theorem dX7_best_46 : decode cX7_best 46 = .ok (.istore 5, 2) := by decide +kernel
theorem dX7_best_48 : decode cX7_best 48 = .ok (.iload_n 3, 1) := by decide +kernel
theorem dX7_best_49 : decode cX7_best 49 = .ok (.ifCond .ne 13, 3) := by decide +kernel
theorem dX7_best_52 : decode cX7_best 52 = .ok (.aload 4, 2) := by decide +kernel
theorem dX7_best_54 : decode cX7_best 54 = .ok (.iload 5, 2) := by decide +kernel
theorem dX7_best_56 : decode cX7_best 56 = .ok (.invokevirtual 214, 3) := by decide +kernel
theorem dX7_best_59 : decode cX7_best 59 = .ok (.goto 5, 3) := by decide +kernel
theorem dX7_best_62 : decode cX7_best 62 = .ok (.iload 5, 2) := by decide +kernel
theorem dX7_best_64 : decode cX7_best 64 = .ok (.ireturn, 1) := by decide +kernel
set_option maxRecDepth 20000 in
theorem ggX7_part_X7_isWind : GoodIn wsX7_part wsX7_isWind := goodIn_r _ [8, 9, 10, 7, 11, 12, 13, 14] (by decide +kernel) (by decide +kernel)
set_option maxRecDepth 20000 in
theorem gX7_part_X7_isWind : GoodIn wsX7_part (va_wsS RX7 174 yX7_isWind wsX7_isWind) := goodIn_app (goodIn_of _ (by decide +kernel)) ggX7_part_X7_isWind
set_option maxRecDepth 20000 in
theorem ggX7_part_X3_has : GoodIn wsX7_part wsX3_has := goodIn_r _ [19, 20, 138, 139, 140, 141, 142, 143] (by decide +kernel) (by decide +kernel)
set_option maxRecDepth 20000 in
theorem gX7_part_X3_has : GoodIn wsX7_part (wsV RX7 132 RX3 yX3_has wsX3_has) := goodIn_app (goodIn_of _ (by decide +kernel)) ggX7_part_X3_has
set_option maxRecDepth 20000 in
theorem ggX7_part_X7_windOf : GoodIn wsX7_part wsX7_windOf := goodIn_r _ [24, 25, 1, 26, 27, 28, 29, 30, 31, 32, 33, 34, 35, 36, 37, 38, 39, 40, 41, 42, 43, 44, 45, 46, 18, 47, 20, 48, 49, 50, 51, 52, 53, 54, 55, 56, 57, 58, 59, 60, 61, 62, 63, 64, 65, 66, 67, 68, 69, 70, 16, 17, 19, 71, 72, 73, 74, 75, 7, 76, 77, 78, 79, 80, 81, 82, 83, 84, 85, 13, 14, 86, 87, 88, 89, 90, 91, 129, 130, 131, 132, 133, 134, 135, 136, 137, 144, 145, 146, 147, 148, 149, 138, 139, 140, 141, 142, 143, 150, 151, 152, 153, 154, 155, 156, 157, 158, 159, 160, 161] (by decide +kernel) (by decide +kernel)
set_option maxRecDepth 20000 in
theorem gX7_part_X7_windOf : GoodIn wsX7_part (wsV RX7 204 RX7 yX7_windOf wsX7_windOf) := goodIn_app (goodIn_of _ (by decide +kernel)) ggX7_part_X7_windOf
set_option maxRecDepth 20000 in
theorem ggX7_part_X1_bestSet : GoodIn wsX7_part wsX1_bestSet := goodIn_r _ [95, 31, 41, 96, 97, 98, 29, 99, 100, 101, 102, 103, 33, 104, 35, 36, 37, 38, 105, 106, 107, 108, 39, 42, 109, 110, 111, 112, 113, 90, 43, 40, 114, 115, 116, 117, 118, 119, 120, 144, 145, 146, 147, 148, 149, 138, 139, 140, 141, 142, 143, 150, 151, 152, 153, 154, 155, 156, 157, 158, 159, 160, 161] (by decide +kernel) (by decide +kernel)
set_option maxRecDepth 20000 in
theorem gX7_part_X1_bestSet : GoodIn wsX7_part (wsV RX7 217 RX1 yX1_bestSet wsX1_bestSet) := goodIn_app (goodIn_of _ (by decide +kernel)) ggX7_part_X1_bestSet
set_option maxRecDepth 20000 in
theorem ggX7_part_X1_madeBy : GoodIn wsX7_part wsX1_madeBy := goodIn_r _ [99, 31, 41, 100, 101, 102, 29, 103, 33, 104, 35, 36, 37, 38, 105, 106, 107, 108, 39, 42, 109, 110, 111, 112, 113, 90, 43, 40, 114, 115, 116, 117, 118, 119, 120, 144, 145, 146, 147, 148, 149, 138, 139, 140, 141, 142, 143, 150, 151, 152, 153, 154, 155, 156, 157, 158, 159, 160, 161] (by decide +kernel) (by decide +kernel)
set_option maxRecDepth 20000 in
theorem gX7_part_X1_madeBy : GoodIn wsX7_part (wsV RX7 214 RX1 yX1_madeBy wsX1_madeBy) := goodIn_app (goodIn_of _ (by decide +kernel)) ggX7_part_X1_madeBy
set_option maxRecDepth 20000 in
theorem ggX7_part_X1_lossBy : GoodIn wsX7_part wsX1_lossBy := goodIn_r _ [125, 126, 127, 37, 128, 100, 101, 102, 29, 103, 31, 33, 104, 35, 36, 38, 105, 106, 107, 108, 39, 42, 109, 110, 111, 112, 113, 90, 43, 40, 114, 115, 116, 117, 118, 119, 120, 144, 145, 146, 147, 148, 149, 138, 139, 140, 141, 142, 143, 150, 151, 152, 153, 154, 155, 156, 157, 158, 159, 160, 161] (by decide +kernel) (by decide +kernel)
set_option maxRecDepth 20000 in
theorem gX7_part_X1_lossBy : GoodIn wsX7_part (wsV RX7 221 RX1 yX1_lossBy wsX1_lossBy) := goodIn_app (goodIn_of _ (by decide +kernel)) ggX7_part_X1_lossBy
theorem dX7_part_0 : decode cX7_part 0 = .ok (.iload_n 1, 1) := by decide +kernel
theorem dX7_part_1 : decode cX7_part 1 = .ok (.iload_n 2, 1) := by decide +kernel
theorem dX7_part_2 : decode cX7_part 2 = .ok (.invokestatic 174, 3) := by decide +kernel
theorem dX7_part_5 : decode cX7_part 5 = .ok (.ifCond .eq 14, 3) := by decide +kernel
theorem dX7_part_8 : decode cX7_part 8 = .ok (.aload_n 0, 1) := by decide +kernel
theorem dX7_part_9 : decode cX7_part 9 = .ok (.getfield 25, 3) := by decide +kernel
theorem dX7_part_12 : decode cX7_part 12 = .ok (.iload_n 3, 1) := by decide +kernel
theorem dX7_part_13 : decode cX7_part 13 = .ok (.invokevirtual 132, 3) := by decide +kernel
theorem dX7_part_16 : decode cX7_part 16 = .ok (.ifCond .ne 6, 3) := by decide +kernel
theorem dX7_part_19 : decode cX7_part 19 = .ok (.ldc 59, 2) := by decide +kernel
theorem dX7_part_21 : decode cX7_part 21 = .ok (.ireturn, 1) := by decide +kernel
theorem dX7_part_22 : decode cX7_part 22 = .ok (.aload_n 0, 1) := by decide +kernel
theorem dX7_part_23 : decode cX7_part 23 = .ok (.iload_n 1, 1) := by decide +kernel
theorem dX7_part_24 : decode cX7_part 24 = .ok (.iload_n 2, 1) := by decide +kernel
theorem dX7_part_25 : decode cX7_part 25 = .ok (.invokevirtual 204, 3) := by decide +kernel
theorem dX7_part_28 : decode cX7_part 28 = .ok (.astore 4, 2) := by decide +kernel
theorem dX7_part_30 : decode cX7_part 30 = .ok (.aload 4, 2) := by decide +kernel
theorem dX7_part_32 : decode cX7_part 32 = .ok (.invokevirtual 217, 3) := by decide +kernel
theorem dX7_part_35 : decode cX7_part 35 = .ok (.istore 5, 2) := by decide +kernel
theorem dX7_part_37 : decode cX7_part 37 = .ok (.aload 4, 2) := by decide +kernel
theorem dX7_part_39 : decode cX7_part 39 = .ok (.iload 5, 2) := by decide +kernel
theorem dX7_part_41 : decode cX7_part 41 = .ok (.invokevirtual 214, 3) := by decide +kernel
theorem dX7_part_44 : decode cX7_part 44 = .ok (.aload 4, 2) := by decide +kernel
theorem dX7_part_46 : decode cX7_part 46 = .ok (.iconst 0, 1) := by decide +kernel
theorem dX7_part_47 : decode cX7_part 47 = .ok (.invokevirtual 214, 3) := by decide +kernel
theorem dX7_part_50 : decode cX7_part 50 = .ok (.isub, 1) := by decide +kernel
theorem dX7_part_51 : decode cX7_part 51 = .ok (.istore 6, 2) := by decide +kernel
theorem dX7_part_53 : decode cX7_part 53 = .ok (.iconst 0, 1) := by decide +kernel
theorem dX7_part_54 : decode cX7_part 54 = .ok (.istore 7, 2) := by decide +kernel
theorem dX7_part_56 : decode cX7_part 56 = .ok (.iload 7, 2) := by decide +kernel
theorem dX7_part_58 : decode cX7_part 58 = .ok (.aload_n 0, 1) := by decide +kernel
theorem dX7_part_59 : decode cX7_part 59 = .ok (.getfield 25, 3) := by decide +kernel
theorem dX7_part_62 : decode cX7_part 62 = .ok (.getfield 129, 3) := by decide +kernel
theorem dX7_part_65 : decode cX7_part 65 = .ok (.if_icmp .ge 23, 3) := by decide +kernel
theorem dX7_part_68 : decode cX7_part 68 = .ok (.iload 6, 2) := by decide +kernel
theorem dX7_part_70 : decode cX7_part 70 = .ok (.aload 4, 2) := by decide +kernel
theorem dX7_part_72 : decode cX7_part 72 = .ok (.iload 7, 2) := by decide +kernel
theorem dX7_part_74 : decode cX7_part 74 = .ok (.iload 5, 2) := by decide +kernel
theorem dX7_part_76 : decode cX7_part 76 = .ok (.invokevirtual 221, 3) := by decide +kernel
theorem dX7_part_79 : decode cX7_part 79 = .ok (.isub, 1) := by decide +kernel
theorem dX7_part_80 : decode cX7_part 80 = .ok (.istore 6, 2) := by decide +kernel
theorem dX7_part_82 : decode cX7_part 82 = .ok (.iinc 7 1, 3) := by decide +kernel
theorem dX7_part_85 : decode cX7_part 85 = .ok (.goto (-29), 3) := by decide +kernel
theorem dX7_part_88 : decode cX7_part 88 = .ok (.iload 6, 2) := by decide +kernel
theorem dX7_part_90 : decode cX7_part 90 = .ok (.ifCond .ge 6, 3) := by decide +kernel
theorem dX7_part_93 : decode cX7_part 93 = .ok (.ldc 224, 2) := by decide +kernel
theorem dX7_part_95 : decode cX7_part 95 = .ok (.ireturn, 1) := by decide +kernel
theorem dX7_part_96 : decode cX7_part 96 = .ok (.aload 4, 2) := by decide +kernel
theorem dX7_part_98 : decode cX7_part 98 = .ok (.iload_n 3, 1) := by decide +kernel
theorem dX7_part_99 : decode cX7_part 99 = .ok (.iload 5, 2) := by decide +kernel
theorem dX7_part_101 : decode cX7_part 101 = .ok (.invokevirtual 221, 3) := by decide +kernel
theorem dX7_part_104 : decode cX7_part 104 = .ok (.istore 7, 2) := by decide +kernel
theorem dX7_part_106 : decode cX7_part 106 = .ok (.iload_n 3, 1) := by decide +kernel
theorem dX7_part_107 : decode cX7_part 107 = .ok (.ifCond .ne 11, 3) := by decide +kernel
theorem dX7_part_110 : decode cX7_part 110 = .ok (.iload 7, 2) := by decide +kernel
theorem dX7_part_112 : decode cX7_part 112 = .ok (.iload 6, 2) := by decide +kernel
theorem dX7_part_114 : decode cX7_part 114 = .ok (.iadd, 1) := by decide +kernel
theorem dX7_part_115 : decode cX7_part 115 = .ok (.goto 5, 3) := by decide +kernel
theorem dX7_part_118 : decode cX7_part 118 = .ok (.iload 7, 2) := by decide +kernel
theorem dX7_part_120 : decode cX7_part 120 = .ok (.ireturn, 1) := by decide +kernel
set_option maxRecDepth 20000 in
theorem ggX7_still_X7_isWind : GoodIn wsX7_still wsX7_isWind := goodIn_r _ [7, 8, 9, 6, 10, 11, 12, 13] (by decide +kernel) (by decide +kernel)
set_option maxRecDepth 20000 in
theorem gX7_still_X7_isWind : GoodIn wsX7_still (va_wsS RX7 174 yX7_isWind wsX7_isWind) := goodIn_app (goodIn_of _ (by decide +kernel)) ggX7_still_X7_isWind
set_option maxRecDepth 20000 in
theorem ggX7_still_X3_has : GoodIn wsX7_still wsX3_has := goodIn_r _ [18, 19, 133, 134, 135, 136, 137, 138] (by decide +kernel) (by decide +kernel)
set_option maxRecDepth 20000 in
theorem gX7_still_X3_has : GoodIn wsX7_still (wsV RX7 132 RX3 yX3_has wsX3_has) := goodIn_app (goodIn_of _ (by decide +kernel)) ggX7_still_X3_has
set_option maxRecDepth 20000 in
theorem ggX7_still_X7_isWithin : GoodIn wsX7_still wsX7_isWithin := goodIn_r _ [13] (by decide +kernel) (by decide +kernel)
set_option maxRecDepth 20000 in
theorem gX7_still_X7_isWithin : GoodIn wsX7_still (va_wsS RX7 55 yX7_isWithin wsX7_isWithin) := goodIn_app (goodIn_of _ (by decide +kernel)) ggX7_still_X7_isWithin
set_option maxRecDepth 20000 in
theorem ggX7_still_X7_windOf : GoodIn wsX7_still wsX7_windOf := goodIn_r _ [23, 24, 1, 25, 26, 27, 28, 29, 30, 31, 32, 33, 34, 35, 36, 37, 38, 39, 40, 41, 42, 43, 44, 45, 17, 46, 19, 47, 48, 49, 50, 51, 52, 53, 54, 55, 56, 57, 58, 59, 60, 61, 62, 63, 64, 65, 66, 67, 68, 69, 15, 16, 18, 70, 71, 72, 73, 74, 6, 75, 76, 77, 78, 79, 80, 81, 82, 83, 84, 12, 13, 85, 86, 87, 88, 89, 90, 124, 125, 126, 127, 128, 129, 130, 131, 132, 139, 140, 141, 142, 143, 144, 133, 134, 135, 136, 137, 138, 145, 146, 147, 148, 149, 150, 151, 152, 153, 154, 155, 156] (by decide +kernel) (by decide +kernel)
set_option maxRecDepth 20000 in
theorem gX7_still_X7_windOf : GoodIn wsX7_still (wsV RX7 204 RX7 yX7_windOf wsX7_windOf) := goodIn_app (goodIn_of _ (by decide +kernel)) ggX7_still_X7_windOf
set_option maxRecDepth 20000 in
theorem ggX7_still_X1_gainBy : GoodIn wsX7_still wsX1_gainBy := goodIn_r _ [94, 95, 96, 36, 97, 98, 99, 100, 28, 101, 30, 32, 102, 34, 35, 37, 103, 104, 105, 106, 38, 41, 107, 108, 109, 110, 111, 89, 42, 39, 112, 113, 114, 115, 116, 117, 118, 139, 140, 141, 142, 143, 144, 133, 134, 135, 136, 137, 138, 145, 146, 147, 148, 149, 150, 151, 152, 153, 154, 155, 156] (by decide +kernel) (by decide +kernel)
set_option maxRecDepth 20000 in
theorem gX7_still_X1_gainBy : GoodIn wsX7_still (wsV RX7 225 RX1 yX1_gainBy wsX1_gainBy) := goodIn_app (goodIn_of _ (by decide +kernel)) ggX7_still_X1_gainBy
set_option maxRecDepth 20000 in
theorem ggX7_still_X1_lossBy : GoodIn wsX7_still wsX1_lossBy := goodIn_r _ [122, 95, 96, 36, 97, 98, 99, 100, 28, 101, 30, 32, 102, 34, 35, 37, 103, 104, 105, 106, 38, 41, 107, 108, 109, 110, 111, 89, 42, 39, 112, 113, 114, 115, 116, 117, 118, 139, 140, 141, 142, 143, 144, 133, 134, 135, 136, 137, 138, 145, 146, 147, 148, 149, 150, 151, 152, 153, 154, 155, 156] (by decide +kernel) (by decide +kernel)
set_option maxRecDepth 20000 in
theorem gX7_still_X1_lossBy : GoodIn wsX7_still (wsV RX7 221 RX1 yX1_lossBy wsX1_lossBy) := goodIn_app (goodIn_of _ (by decide +kernel)) ggX7_still_X1_lossBy
set_option maxRecDepth 20000 in
theorem ggX7_still_X7_bit : GoodIn wsX7_still wsX7_bit := goodIn_r _ [75] (by decide +kernel) (by decide +kernel)
set_option maxRecDepth 20000 in
theorem gX7_still_X7_bit : GoodIn wsX7_still (va_wsS RX7 145 yX7_bit wsX7_bit) := goodIn_app (goodIn_of _ (by decide +kernel)) ggX7_still_X7_bit
theorem dX7_still_0 : decode cX7_still 0 = .ok (.iload_n 1, 1) := by decide +kernel
theorem dX7_still_1 : decode cX7_still 1 = .ok (.iload_n 2, 1) := by decide +kernel
theorem dX7_still_2 : decode cX7_still 2 = .ok (.invokestatic 174, 3) := by decide +kernel
theorem dX7_still_5 : decode cX7_still 5 = .ok (.ifCond .eq 42, 3) := by decide +kernel
theorem dX7_still_8 : decode cX7_still 8 = .ok (.aload_n 0, 1) := by decide +kernel
theorem dX7_still_9 : decode cX7_still 9 = .ok (.getfield 25, 3) := by decide +kernel
theorem dX7_still_12 : decode cX7_still 12 = .ok (.iload_n 3, 1) := by decide +kernel
theorem dX7_still_13 : decode cX7_still 13 = .ok (.invokevirtual 132, 3) := by decide +kernel
theorem dX7_still_16 : decode cX7_still 16 = .ok (.ifCond .eq 31, 3) := by decide +kernel
theorem dX7_still_19 : decode cX7_still 19 = .ok (.aload_n 0, 1) := by decide +kernel
theorem dX7_still_20 : decode cX7_still 20 = .ok (.getfield 25, 3) := by decide +kernel
theorem dX7_still_23 : decode cX7_still 23 = .ok (.iload 4, 2) := by decide +kernel
theorem dX7_still_25 : decode cX7_still 25 = .ok (.invokevirtual 132, 3) := by decide +kernel
theorem dX7_still_28 : decode cX7_still 28 = .ok (.ifCond .eq 19, 3) := by decide +kernel
theorem dX7_still_31 : decode cX7_still 31 = .ok (.iload_n 3, 1) := by decide +kernel
theorem dX7_still_32 : decode cX7_still 32 = .ok (.iload 4, 2) := by decide +kernel
theorem dX7_still_34 : decode cX7_still 34 = .ok (.if_icmp .eq 13, 3) := by decide +kernel
theorem dX7_still_37 : decode cX7_still 37 = .ok (.iload 5, 2) := by decide +kernel
theorem dX7_still_39 : decode cX7_still 39 = .ok (.iconst 0, 1) := by decide +kernel
theorem dX7_still_40 : decode cX7_still 40 = .ok (.iconst 2, 1) := by decide +kernel
theorem dX7_still_41 : decode cX7_still 41 = .ok (.invokestatic 55, 3) := by decide +kernel
theorem dX7_still_44 : decode cX7_still 44 = .ok (.ifCond .ne 6, 3) := by decide +kernel
theorem dX7_still_47 : decode cX7_still 47 = .ok (.ldc 59, 2) := by decide +kernel
theorem dX7_still_49 : decode cX7_still 49 = .ok (.ireturn, 1) := by decide +kernel
theorem dX7_still_50 : decode cX7_still 50 = .ok (.aload_n 0, 1) := by decide +kernel
theorem dX7_still_51 : decode cX7_still 51 = .ok (.iload_n 1, 1) := by decide +kernel
theorem dX7_still_52 : decode cX7_still 52 = .ok (.iload_n 2, 1) := by decide +kernel
theorem dX7_still_53 : decode cX7_still 53 = .ok (.invokevirtual 204, 3) := by decide +kernel
theorem dX7_still_56 : decode cX7_still 56 = .ok (.astore 6, 2) := by decide +kernel
theorem dX7_still_58 : decode cX7_still 58 = .ok (.aload 6, 2) := by decide +kernel
theorem dX7_still_60 : decode cX7_still 60 = .ok (.iload 4, 2) := by decide +kernel
theorem dX7_still_62 : decode cX7_still 62 = .ok (.iconst 1, 1) := by decide +kernel
theorem dX7_still_63 : decode cX7_still 63 = .ok (.iload_n 3, 1) := by decide +kernel
theorem dX7_still_64 : decode cX7_still 64 = .ok (.ishl, 1) := by decide +kernel
theorem dX7_still_65 : decode cX7_still 65 = .ok (.invokevirtual 225, 3) := by decide +kernel
theorem dX7_still_68 : decode cX7_still 68 = .ok (.istore 7, 2) := by decide +kernel
theorem dX7_still_70 : decode cX7_still 70 = .ok (.aload 6, 2) := by decide +kernel
theorem dX7_still_72 : decode cX7_still 72 = .ok (.iload_n 3, 1) := by decide +kernel
theorem dX7_still_73 : decode cX7_still 73 = .ok (.iconst 1, 1) := by decide +kernel
theorem dX7_still_74 : decode cX7_still 74 = .ok (.iload_n 3, 1) := by decide +kernel
theorem dX7_still_75 : decode cX7_still 75 = .ok (.ishl, 1) := by decide +kernel
theorem dX7_still_76 : decode cX7_still 76 = .ok (.invokevirtual 221, 3) := by decide +kernel
theorem dX7_still_79 : decode cX7_still 79 = .ok (.istore 8, 2) := by decide +kernel
theorem dX7_still_81 : decode cX7_still 81 = .ok (.iload 5, 2) := by decide +kernel
theorem dX7_still_83 : decode cX7_still 83 = .ok (.lookupswitch 31 #[(0, 25), (1, 28)], 25) := by decide +kernel
theorem dX7_still_108 : decode cX7_still 108 = .ok (.iload 7, 2) := by decide +kernel
theorem dX7_still_110 : decode cX7_still 110 = .ok (.ireturn, 1) := by decide +kernel
theorem dX7_still_111 : decode cX7_still 111 = .ok (.iload 8, 2) := by decide +kernel
theorem dX7_still_113 : decode cX7_still 113 = .ok (.ireturn, 1) := by decide +kernel
theorem dX7_still_114 : decode cX7_still 114 = .ok (.iload 7, 2) := by decide +kernel
theorem dX7_still_116 : decode cX7_still 116 = .ok (.iload 8, 2) := by decide +kernel
theorem dX7_still_118 : decode cX7_still 118 = .ok (.isub, 1) := by decide +kernel
theorem dX7_still_119 : decode cX7_still 119 = .ok (.aload_n 0, 1) := by decide +kernel
theorem dX7_still_120 : decode cX7_still 120 = .ok (.getfield 25, 3) := by decide +kernel
theorem dX7_still_123 : decode cX7_still 123 = .ok (.getfield 228, 3) := by decide +kernel
theorem dX7_still_126 : decode cX7_still 126 = .ok (.if_icmp .lt 7, 3) := by decide +kernel
theorem dX7_still_129 : decode cX7_still 129 = .ok (.iconst 1, 1) := by decide +kernel
theorem dX7_still_130 : decode cX7_still 130 = .ok (.goto 4, 3) := by decide +kernel
theorem dX7_still_133 : decode cX7_still 133 = .ok (.iconst 0, 1) := by decide +kernel
theorem dX7_still_134 : decode cX7_still 134 = .ok (.invokestatic 145, 3) := by decide +kernel
theorem dX7_still_137 : decode cX7_still 137 = .ok (.ireturn, 1) := by decide +kernel
set_option maxRecDepth 20000 in
theorem ggX7_higher_X7_isWind : GoodIn wsX7_higher wsX7_isWind := goodIn_r _ [6, 7, 8, 5, 9, 10, 11, 12] (by decide +kernel) (by decide +kernel)
set_option maxRecDepth 20000 in
theorem gX7_higher_X7_isWind : GoodIn wsX7_higher (va_wsS RX7 174 yX7_isWind wsX7_isWind) := goodIn_app (goodIn_of _ (by decide +kernel)) ggX7_higher_X7_isWind
set_option maxRecDepth 20000 in
theorem ggX7_higher_X3_has : GoodIn wsX7_higher wsX3_has := goodIn_r _ [17, 18, 125, 126, 127, 128, 129, 130] (by decide +kernel) (by decide +kernel)
set_option maxRecDepth 20000 in
theorem gX7_higher_X3_has : GoodIn wsX7_higher (wsV RX7 132 RX3 yX3_has wsX3_has) := goodIn_app (goodIn_of _ (by decide +kernel)) ggX7_higher_X3_has
set_option maxRecDepth 20000 in
theorem ggX7_higher_X7_isWithin : GoodIn wsX7_higher wsX7_isWithin := goodIn_r _ [12] (by decide +kernel) (by decide +kernel)
set_option maxRecDepth 20000 in
theorem gX7_higher_X7_isWithin : GoodIn wsX7_higher (va_wsS RX7 55 yX7_isWithin wsX7_isWithin) := goodIn_app (goodIn_of _ (by decide +kernel)) ggX7_higher_X7_isWithin
set_option maxRecDepth 20000 in
theorem ggX7_higher_X7_windOf : GoodIn wsX7_higher wsX7_windOf := goodIn_r _ [22, 23, 1, 24, 25, 26, 27, 28, 29, 30, 31, 32, 33, 34, 35, 36, 37, 38, 39, 40, 41, 42, 43, 44, 16, 45, 18, 46, 47, 48, 49, 50, 51, 52, 53, 54, 55, 56, 57, 58, 59, 60, 61, 62, 63, 64, 65, 66, 67, 68, 14, 15, 17, 69, 70, 71, 72, 73, 5, 74, 75, 76, 77, 78, 79, 80, 81, 82, 83, 11, 12, 84, 85, 86, 87, 88, 89, 116, 117, 118, 119, 120, 121, 122, 123, 124, 131, 132, 133, 134, 135, 136, 125, 126, 127, 128, 129, 130, 137, 138, 139, 140, 141, 142, 143, 144, 145, 146, 147, 148] (by decide +kernel) (by decide +kernel)
set_option maxRecDepth 20000 in
theorem gX7_higher_X7_windOf : GoodIn wsX7_higher (wsV RX7 204 RX7 yX7_windOf wsX7_windOf) := goodIn_app (goodIn_of _ (by decide +kernel)) ggX7_higher_X7_windOf
set_option maxRecDepth 20000 in
theorem ggX7_higher_X1_grindsBy : GoodIn wsX7_higher wsX1_grindsBy := goodIn_r _ [93, 29, 31, 94, 33, 34, 35, 36, 95, 96, 97, 27, 98, 37, 40, 99, 100, 101, 102, 103, 88, 41, 38, 104, 105, 106, 107, 108, 109, 110, 131, 132, 133, 134, 135, 136, 125, 126, 127, 128, 129, 130, 137, 138, 139, 140, 141, 142, 143, 144, 145, 146, 147, 148] (by decide +kernel) (by decide +kernel)
set_option maxRecDepth 20000 in
theorem gX7_higher_X1_grindsBy : GoodIn wsX7_higher (wsV RX7 231 RX1 yX1_grindsBy wsX1_grindsBy) := goodIn_app (goodIn_of _ (by decide +kernel)) ggX7_higher_X1_grindsBy
set_option maxRecDepth 20000 in
theorem ggX7_higher_X1_madeBy : GoodIn wsX7_higher wsX1_madeBy := goodIn_r _ [114, 29, 39, 115, 91, 92, 27, 93, 31, 94, 33, 34, 35, 36, 95, 96, 97, 98, 37, 40, 99, 100, 101, 102, 103, 88, 41, 38, 104, 105, 106, 107, 108, 109, 110, 131, 132, 133, 134, 135, 136, 125, 126, 127, 128, 129, 130, 137, 138, 139, 140, 141, 142, 143, 144, 145, 146, 147, 148] (by decide +kernel) (by decide +kernel)
set_option maxRecDepth 20000 in
theorem gX7_higher_X1_madeBy : GoodIn wsX7_higher (wsV RX7 214 RX1 yX1_madeBy wsX1_madeBy) := goodIn_app (goodIn_of _ (by decide +kernel)) ggX7_higher_X1_madeBy
set_option maxRecDepth 20000 in
theorem ggX7_higher_X1_survey : GoodIn wsX7_higher wsX1_survey := goodIn_r _ [28, 29, 30, 31, 32, 33, 34, 35, 36, 37, 38, 39, 40, 41, 42, 43, 44, 16, 45, 18, 46, 47, 48, 49, 50, 51, 52, 53, 54, 55, 56, 57, 58, 59, 60, 61, 62, 63, 64, 65, 66, 67, 68, 14, 15, 17, 69, 70, 71, 72, 73, 5, 74, 75, 76, 77, 27, 78, 79, 80, 81, 82, 83, 11, 12, 131, 132, 133, 134, 135, 136, 125, 126, 127, 128, 129, 130, 137, 138, 139, 140, 141, 142, 143, 144, 145, 146, 147, 148] (by decide +kernel) (by decide +kernel)
set_option maxRecDepth 20000 in
theorem gX7_higher_X1_survey : GoodIn wsX7_higher (wsV RX7 234 RX1 yX1_survey wsX1_survey) := goodIn_app (goodIn_of _ (by decide +kernel)) ggX7_higher_X1_survey
theorem dX7_higher_0 : decode cX7_higher 0 = .ok (.iload_n 1, 1) := by decide +kernel
theorem dX7_higher_1 : decode cX7_higher 1 = .ok (.iload_n 2, 1) := by decide +kernel
theorem dX7_higher_2 : decode cX7_higher 2 = .ok (.invokestatic 174, 3) := by decide +kernel
theorem dX7_higher_5 : decode cX7_higher 5 = .ok (.ifCond .eq 24, 3) := by decide +kernel
theorem dX7_higher_8 : decode cX7_higher 8 = .ok (.aload_n 0, 1) := by decide +kernel
theorem dX7_higher_9 : decode cX7_higher 9 = .ok (.getfield 25, 3) := by decide +kernel
theorem dX7_higher_12 : decode cX7_higher 12 = .ok (.iload_n 3, 1) := by decide +kernel
theorem dX7_higher_13 : decode cX7_higher 13 = .ok (.invokevirtual 132, 3) := by decide +kernel
theorem dX7_higher_16 : decode cX7_higher 16 = .ok (.ifCond .eq 13, 3) := by decide +kernel
theorem dX7_higher_19 : decode cX7_higher 19 = .ok (.iload 4, 2) := by decide +kernel
theorem dX7_higher_21 : decode cX7_higher 21 = .ok (.iconst 0, 1) := by decide +kernel
theorem dX7_higher_22 : decode cX7_higher 22 = .ok (.iconst 2, 1) := by decide +kernel
theorem dX7_higher_23 : decode cX7_higher 23 = .ok (.invokestatic 55, 3) := by decide +kernel
theorem dX7_higher_26 : decode cX7_higher 26 = .ok (.ifCond .ne 6, 3) := by decide +kernel
theorem dX7_higher_29 : decode cX7_higher 29 = .ok (.ldc 59, 2) := by decide +kernel
theorem dX7_higher_31 : decode cX7_higher 31 = .ok (.ireturn, 1) := by decide +kernel
theorem dX7_higher_32 : decode cX7_higher 32 = .ok (.aload_n 0, 1) := by decide +kernel
theorem dX7_higher_33 : decode cX7_higher 33 = .ok (.iload_n 1, 1) := by decide +kernel
theorem dX7_higher_34 : decode cX7_higher 34 = .ok (.iload_n 2, 1) := by decide +kernel
theorem dX7_higher_35 : decode cX7_higher 35 = .ok (.invokevirtual 204, 3) := by decide +kernel
theorem dX7_higher_38 : decode cX7_higher 38 = .ok (.astore 5, 2) := by decide +kernel
theorem dX7_higher_40 : decode cX7_higher 40 = .ok (.aload 5, 2) := by decide +kernel
theorem dX7_higher_42 : decode cX7_higher 42 = .ok (.iload_n 3, 1) := by decide +kernel
theorem dX7_higher_43 : decode cX7_higher 43 = .ok (.iconst 0, 1) := by decide +kernel
theorem dX7_higher_44 : decode cX7_higher 44 = .ok (.invokevirtual 231, 3) := by decide +kernel
theorem dX7_higher_47 : decode cX7_higher 47 = .ok (.istore 6, 2) := by decide +kernel
theorem dX7_higher_49 : decode cX7_higher 49 = .ok (.aload 5, 2) := by decide +kernel
theorem dX7_higher_51 : decode cX7_higher 51 = .ok (.iconst 0, 1) := by decide +kernel
theorem dX7_higher_52 : decode cX7_higher 52 = .ok (.invokevirtual 214, 3) := by decide +kernel
theorem dX7_higher_55 : decode cX7_higher 55 = .ok (.iload 6, 2) := by decide +kernel
theorem dX7_higher_57 : decode cX7_higher 57 = .ok (.isub, 1) := by decide +kernel
theorem dX7_higher_58 : decode cX7_higher 58 = .ok (.istore 7, 2) := by decide +kernel
theorem dX7_higher_60 : decode cX7_higher 60 = .ok (.iload 4, 2) := by decide +kernel
theorem dX7_higher_62 : decode cX7_higher 62 = .ok (.iconst 2, 1) := by decide +kernel
theorem dX7_higher_63 : decode cX7_higher 63 = .ok (.if_icmp .ne 15, 3) := by decide +kernel
theorem dX7_higher_66 : decode cX7_higher 66 = .ok (.aload 5, 2) := by decide +kernel
theorem dX7_higher_68 : decode cX7_higher 68 = .ok (.iconst 1, 1) := by decide +kernel
theorem dX7_higher_69 : decode cX7_higher 69 = .ok (.iload_n 3, 1) := by decide +kernel
theorem dX7_higher_70 : decode cX7_higher 70 = .ok (.ishl, 1) := by decide +kernel
theorem dX7_higher_71 : decode cX7_higher 71 = .ok (.invokevirtual 214, 3) := by decide +kernel
theorem dX7_higher_74 : decode cX7_higher 74 = .ok (.iload 7, 2) := by decide +kernel
theorem dX7_higher_76 : decode cX7_higher 76 = .ok (.isub, 1) := by decide +kernel
theorem dX7_higher_77 : decode cX7_higher 77 = .ok (.ireturn, 1) := by decide +kernel
theorem dX7_higher_78 : decode cX7_higher 78 = .ok (.aload 5, 2) := by decide +kernel
theorem dX7_higher_80 : decode cX7_higher 80 = .ok (.aload_n 0, 1) := by decide +kernel
theorem dX7_higher_81 : decode cX7_higher 81 = .ok (.getfield 25, 3) := by decide +kernel
theorem dX7_higher_84 : decode cX7_higher 84 = .ok (.iload_n 1, 1) := by decide +kernel
theorem dX7_higher_85 : decode cX7_higher 85 = .ok (.iload_n 3, 1) := by decide +kernel
theorem dX7_higher_86 : decode cX7_higher 86 = .ok (.invokevirtual 234, 3) := by decide +kernel
theorem dX7_higher_89 : decode cX7_higher 89 = .ok (.aload 5, 2) := by decide +kernel
theorem dX7_higher_91 : decode cX7_higher 91 = .ok (.iload_n 3, 1) := by decide +kernel
theorem dX7_higher_92 : decode cX7_higher 92 = .ok (.iconst 0, 1) := by decide +kernel
theorem dX7_higher_93 : decode cX7_higher 93 = .ok (.invokevirtual 231, 3) := by decide +kernel
theorem dX7_higher_96 : decode cX7_higher 96 = .ok (.istore 8, 2) := by decide +kernel
theorem dX7_higher_98 : decode cX7_higher 98 = .ok (.aload 5, 2) := by decide +kernel
theorem dX7_higher_100 : decode cX7_higher 100 = .ok (.iconst 0, 1) := by decide +kernel
theorem dX7_higher_101 : decode cX7_higher 101 = .ok (.invokevirtual 214, 3) := by decide +kernel
theorem dX7_higher_104 : decode cX7_higher 104 = .ok (.iload 8, 2) := by decide +kernel
theorem dX7_higher_106 : decode cX7_higher 106 = .ok (.isub, 1) := by decide +kernel
theorem dX7_higher_107 : decode cX7_higher 107 = .ok (.istore 9, 2) := by decide +kernel
theorem dX7_higher_109 : decode cX7_higher 109 = .ok (.iload 4, 2) := by decide +kernel
theorem dX7_higher_111 : decode cX7_higher 111 = .ok (.ifCond .ne 11, 3) := by decide +kernel
theorem dX7_higher_114 : decode cX7_higher 114 = .ok (.iload 8, 2) := by decide +kernel
theorem dX7_higher_116 : decode cX7_higher 116 = .ok (.iload 6, 2) := by decide +kernel
theorem dX7_higher_118 : decode cX7_higher 118 = .ok (.isub, 1) := by decide +kernel
theorem dX7_higher_119 : decode cX7_higher 119 = .ok (.goto 8, 3) := by decide +kernel
theorem dX7_higher_122 : decode cX7_higher 122 = .ok (.iload 7, 2) := by decide +kernel
theorem dX7_higher_124 : decode cX7_higher 124 = .ok (.iload 9, 2) := by decide +kernel
theorem dX7_higher_126 : decode cX7_higher 126 = .ok (.isub, 1) := by decide +kernel
theorem dX7_higher_127 : decode cX7_higher 127 = .ok (.ireturn, 1) := by decide +kernel
set_option maxRecDepth 20000 in
theorem ggX7_owes_X7_isWind : GoodIn wsX7_owes wsX7_isWind := goodIn_r _ [9, 10, 11, 8, 12, 13, 14, 15] (by decide +kernel) (by decide +kernel)
set_option maxRecDepth 20000 in
theorem gX7_owes_X7_isWind : GoodIn wsX7_owes (va_wsS RX7 174 yX7_isWind wsX7_isWind) := goodIn_app (goodIn_of _ (by decide +kernel)) ggX7_owes_X7_isWind
set_option maxRecDepth 20000 in
theorem ggX7_owes_X3_has : GoodIn wsX7_owes wsX3_has := goodIn_r _ [20, 21, 134, 135, 136, 137, 138, 139] (by decide +kernel) (by decide +kernel)
set_option maxRecDepth 20000 in
theorem gX7_owes_X3_has : GoodIn wsX7_owes (wsV RX7 132 RX3 yX3_has wsX3_has) := goodIn_app (goodIn_of _ (by decide +kernel)) ggX7_owes_X3_has
set_option maxRecDepth 20000 in
theorem ggX7_owes_X7_windOf : GoodIn wsX7_owes wsX7_windOf := goodIn_r _ [25, 26, 1, 27, 28, 29, 30, 31, 32, 33, 34, 35, 36, 37, 38, 39, 40, 41, 42, 43, 44, 45, 46, 47, 19, 48, 21, 49, 50, 51, 52, 53, 54, 55, 56, 57, 58, 59, 60, 61, 62, 63, 64, 65, 66, 67, 68, 69, 70, 71, 17, 18, 20, 72, 73, 74, 75, 76, 8, 77, 78, 79, 80, 81, 82, 83, 84, 85, 86, 14, 15, 87, 88, 89, 90, 91, 92, 125, 126, 127, 128, 129, 130, 131, 132, 133, 152, 153, 154, 155, 156, 157, 134, 135, 136, 137, 138, 139, 140, 141, 142, 143, 144, 145, 146, 147, 148, 149, 150, 151] (by decide +kernel) (by decide +kernel)
set_option maxRecDepth 20000 in
theorem gX7_owes_X7_windOf : GoodIn wsX7_owes (wsV RX7 204 RX7 yX7_windOf wsX7_windOf) := goodIn_app (goodIn_of _ (by decide +kernel)) ggX7_owes_X7_windOf
set_option maxRecDepth 20000 in
theorem ggX7_owes_X1_takesFrom : GoodIn wsX7_owes wsX1_takesFrom := goodIn_r _ [96, 41, 44, 152, 153, 154, 155, 156, 157] (by decide +kernel) (by decide +kernel)
set_option maxRecDepth 20000 in
theorem gX7_owes_X1_takesFrom : GoodIn wsX7_owes (wsV RX7 238 RX1 yX1_takesFrom wsX1_takesFrom) := goodIn_app (goodIn_of _ (by decide +kernel)) ggX7_owes_X1_takesFrom
set_option maxRecDepth 20000 in
theorem ggX7_owes_X1_gainBy : GoodIn wsX7_owes wsX1_gainBy := goodIn_r _ [100, 101, 102, 38, 103, 104, 105, 106, 30, 107, 32, 34, 108, 36, 37, 39, 109, 110, 111, 112, 40, 43, 113, 114, 115, 116, 117, 91, 44, 41, 118, 119, 120, 121, 122, 123, 124, 152, 153, 154, 155, 156, 157, 134, 135, 136, 137, 138, 139, 140, 141, 142, 143, 144, 145, 146, 147, 148, 149, 150, 151] (by decide +kernel) (by decide +kernel)
set_option maxRecDepth 20000 in
theorem gX7_owes_X1_gainBy : GoodIn wsX7_owes (wsV RX7 225 RX1 yX1_gainBy wsX1_gainBy) := goodIn_app (goodIn_of _ (by decide +kernel)) ggX7_owes_X1_gainBy
theorem dX7_owes_0 : decode cX7_owes 0 = .ok (.iload_n 1, 1) := by decide +kernel
theorem dX7_owes_1 : decode cX7_owes 1 = .ok (.iload_n 2, 1) := by decide +kernel
theorem dX7_owes_2 : decode cX7_owes 2 = .ok (.invokestatic 174, 3) := by decide +kernel
theorem dX7_owes_5 : decode cX7_owes 5 = .ok (.ifCond .eq 32, 3) := by decide +kernel
theorem dX7_owes_8 : decode cX7_owes 8 = .ok (.aload_n 0, 1) := by decide +kernel
theorem dX7_owes_9 : decode cX7_owes 9 = .ok (.getfield 25, 3) := by decide +kernel
theorem dX7_owes_12 : decode cX7_owes 12 = .ok (.iload_n 3, 1) := by decide +kernel
theorem dX7_owes_13 : decode cX7_owes 13 = .ok (.invokevirtual 132, 3) := by decide +kernel
theorem dX7_owes_16 : decode cX7_owes 16 = .ok (.ifCond .eq 21, 3) := by decide +kernel
theorem dX7_owes_19 : decode cX7_owes 19 = .ok (.aload_n 0, 1) := by decide +kernel
theorem dX7_owes_20 : decode cX7_owes 20 = .ok (.getfield 25, 3) := by decide +kernel
theorem dX7_owes_23 : decode cX7_owes 23 = .ok (.iload 4, 2) := by decide +kernel
theorem dX7_owes_25 : decode cX7_owes 25 = .ok (.invokevirtual 132, 3) := by decide +kernel
theorem dX7_owes_28 : decode cX7_owes 28 = .ok (.ifCond .eq 9, 3) := by decide +kernel
theorem dX7_owes_31 : decode cX7_owes 31 = .ok (.iload_n 3, 1) := by decide +kernel
theorem dX7_owes_32 : decode cX7_owes 32 = .ok (.iload 4, 2) := by decide +kernel
theorem dX7_owes_34 : decode cX7_owes 34 = .ok (.if_icmp .ne 6, 3) := by decide +kernel
theorem dX7_owes_37 : decode cX7_owes 37 = .ok (.ldc 59, 2) := by decide +kernel
theorem dX7_owes_39 : decode cX7_owes 39 = .ok (.ireturn, 1) := by decide +kernel
theorem dX7_owes_40 : decode cX7_owes 40 = .ok (.aload_n 0, 1) := by decide +kernel
theorem dX7_owes_41 : decode cX7_owes 41 = .ok (.iload_n 1, 1) := by decide +kernel
theorem dX7_owes_42 : decode cX7_owes 42 = .ok (.iload_n 2, 1) := by decide +kernel
theorem dX7_owes_43 : decode cX7_owes 43 = .ok (.invokevirtual 204, 3) := by decide +kernel
theorem dX7_owes_46 : decode cX7_owes 46 = .ok (.astore 5, 2) := by decide +kernel
theorem dX7_owes_48 : decode cX7_owes 48 = .ok (.aload_n 0, 1) := by decide +kernel
theorem dX7_owes_49 : decode cX7_owes 49 = .ok (.getfield 25, 3) := by decide +kernel
theorem dX7_owes_52 : decode cX7_owes 52 = .ok (.getfield 135, 3) := by decide +kernel
theorem dX7_owes_55 : decode cX7_owes 55 = .ok (.iload 4, 2) := by decide +kernel
theorem dX7_owes_57 : decode cX7_owes 57 = .ok (.aaload, 1) := by decide +kernel
theorem dX7_owes_58 : decode cX7_owes 58 = .ok (.getfield 189, 3) := by decide +kernel
theorem dX7_owes_61 : decode cX7_owes 61 = .ok (.aload_n 0, 1) := by decide +kernel
theorem dX7_owes_62 : decode cX7_owes 62 = .ok (.getfield 25, 3) := by decide +kernel
theorem dX7_owes_65 : decode cX7_owes 65 = .ok (.getfield 135, 3) := by decide +kernel
theorem dX7_owes_68 : decode cX7_owes 68 = .ok (.iload_n 3, 1) := by decide +kernel
theorem dX7_owes_69 : decode cX7_owes 69 = .ok (.aaload, 1) := by decide +kernel
theorem dX7_owes_70 : decode cX7_owes 70 = .ok (.getfield 189, 3) := by decide +kernel
theorem dX7_owes_73 : decode cX7_owes 73 = .ok (.if_icmp .le 7, 3) := by decide +kernel
theorem dX7_owes_76 : decode cX7_owes 76 = .ok (.iconst 1, 1) := by decide +kernel
theorem dX7_owes_77 : decode cX7_owes 77 = .ok (.goto 4, 3) := by decide +kernel
theorem dX7_owes_80 : decode cX7_owes 80 = .ok (.iconst 0, 1) := by decide +kernel
theorem dX7_owes_81 : decode cX7_owes 81 = .ok (.istore 6, 2) := by decide +kernel
theorem dX7_owes_83 : decode cX7_owes 83 = .ok (.iload 6, 2) := by decide +kernel
theorem dX7_owes_85 : decode cX7_owes 85 = .ok (.ifCond .eq 14, 3) := by decide +kernel
theorem dX7_owes_88 : decode cX7_owes 88 = .ok (.aload 5, 2) := by decide +kernel
theorem dX7_owes_90 : decode cX7_owes 90 = .ok (.iload_n 3, 1) := by decide +kernel
theorem dX7_owes_91 : decode cX7_owes 91 = .ok (.iload 4, 2) := by decide +kernel
theorem dX7_owes_93 : decode cX7_owes 93 = .ok (.invokevirtual 238, 3) := by decide +kernel
theorem dX7_owes_96 : decode cX7_owes 96 = .ok (.ifCond .ne 5, 3) := by decide +kernel
theorem dX7_owes_99 : decode cX7_owes 99 = .ok (.iconst 0, 1) := by decide +kernel
theorem dX7_owes_100 : decode cX7_owes 100 = .ok (.ireturn, 1) := by decide +kernel
theorem dX7_owes_101 : decode cX7_owes 101 = .ok (.aload_n 0, 1) := by decide +kernel
theorem dX7_owes_102 : decode cX7_owes 102 = .ok (.getfield 25, 3) := by decide +kernel
theorem dX7_owes_105 : decode cX7_owes 105 = .ok (.getfield 241, 3) := by decide +kernel
theorem dX7_owes_108 : decode cX7_owes 108 = .ok (.aload 5, 2) := by decide +kernel
theorem dX7_owes_110 : decode cX7_owes 110 = .ok (.iload 4, 2) := by decide +kernel
theorem dX7_owes_112 : decode cX7_owes 112 = .ok (.iconst 1, 1) := by decide +kernel
theorem dX7_owes_113 : decode cX7_owes 113 = .ok (.iload_n 3, 1) := by decide +kernel
theorem dX7_owes_114 : decode cX7_owes 114 = .ok (.ishl, 1) := by decide +kernel
theorem dX7_owes_115 : decode cX7_owes 115 = .ok (.invokevirtual 225, 3) := by decide +kernel
theorem dX7_owes_118 : decode cX7_owes 118 = .ok (.imul, 1) := by decide +kernel
theorem dX7_owes_119 : decode cX7_owes 119 = .ok (.bipush 100, 2) := by decide +kernel
theorem dX7_owes_121 : decode cX7_owes 121 = .ok (.idiv, 1) := by decide +kernel
theorem dX7_owes_122 : decode cX7_owes 122 = .ok (.ireturn, 1) := by decide +kernel
set_option maxRecDepth 20000 in
theorem ggX7_night_X3_isNone : GoodIn wsX7_night wsX3_isNone := goodIn_r _ [10, 11, 160, 161, 162, 163, 164, 165] (by decide +kernel) (by decide +kernel)
set_option maxRecDepth 20000 in
theorem gX7_night_X3_isNone : GoodIn wsX7_night (wsV RX7 171 RX3 yX3_isNone wsX3_isNone) := goodIn_app (goodIn_of _ (by decide +kernel)) ggX7_night_X3_isNone
set_option maxRecDepth 20000 in
theorem ggX7_night_X7_isWind : GoodIn wsX7_night wsX7_isWind := goodIn_r _ [15, 16, 17, 14, 18, 19, 20, 21] (by decide +kernel) (by decide +kernel)
set_option maxRecDepth 20000 in
theorem gX7_night_X7_isWind : GoodIn wsX7_night (va_wsS RX7 174 yX7_isWind wsX7_isWind) := goodIn_app (goodIn_of _ (by decide +kernel)) ggX7_night_X7_isWind
set_option maxRecDepth 20000 in
theorem ggX7_night_X7_isWithin : GoodIn wsX7_night wsX7_isWithin := goodIn_r _ [21] (by decide +kernel) (by decide +kernel)
set_option maxRecDepth 20000 in
theorem gX7_night_X7_isWithin : GoodIn wsX7_night (va_wsS RX7 55 yX7_isWithin wsX7_isWithin) := goodIn_app (goodIn_of _ (by decide +kernel)) ggX7_night_X7_isWithin
set_option maxRecDepth 20000 in
theorem ggX7_night_X7_isRow : GoodIn wsX7_night wsX7_isRow := goodIn_r _ [24, 19, 20, 14, 21] (by decide +kernel) (by decide +kernel)
set_option maxRecDepth 20000 in
theorem gX7_night_X7_isRow : GoodIn wsX7_night (va_wsS RX7 51 yX7_isRow wsX7_isRow) := goodIn_app (goodIn_of _ (by decide +kernel)) ggX7_night_X7_isRow
set_option maxRecDepth 20000 in
theorem ggX7_night_X4_isMissing : GoodIn wsX7_night wsX4_isMissing := goodIn_r _ [29, 30, 166, 167, 168] (by decide +kernel) (by decide +kernel)
set_option maxRecDepth 20000 in
theorem gX7_night_X4_isMissing : GoodIn wsX7_night (wsV RX7 71 RX4 yX4_isMissing wsX4_isMissing) := goodIn_app (goodIn_of _ (by decide +kernel)) ggX7_night_X4_isMissing
set_option maxRecDepth 20000 in
theorem ggX7_night_X7_found : GoodIn wsX7_night wsX7_found := goodIn_r _ [34, 35, 36, 151, 152, 153, 154, 155, 156, 157, 158, 159] (by decide +kernel) (by decide +kernel)
set_option maxRecDepth 20000 in
theorem gX7_night_X7_found : GoodIn wsX7_night (wsV RX7 60 RX7 yX7_found wsX7_found) := goodIn_app (goodIn_of _ (by decide +kernel)) ggX7_night_X7_found
set_option maxRecDepth 20000 in
theorem ggX7_night_X4_covers : GoodIn wsX7_night wsX4_covers := goodIn_r _ [40, 30, 166, 167, 168] (by decide +kernel) (by decide +kernel)
set_option maxRecDepth 20000 in
theorem gX7_night_X4_covers : GoodIn wsX7_night (wsV RX7 75 RX4 yX4_covers wsX4_covers) := goodIn_app (goodIn_of _ (by decide +kernel)) ggX7_night_X4_covers
set_option maxRecDepth 20000 in
theorem ggX7_night_X7_windOf : GoodIn wsX7_night wsX7_windOf := goodIn_r _ [44, 45, 1, 46, 47, 48, 49, 50, 51, 52, 53, 54, 55, 56, 57, 58, 59, 60, 61, 62, 63, 64, 65, 66, 9, 67, 11, 68, 69, 70, 71, 72, 73, 74, 75, 76, 77, 78, 79, 80, 81, 82, 83, 84, 85, 86, 87, 88, 89, 90, 91, 92, 93, 94, 95, 96, 97, 98, 14, 99, 100, 101, 102, 103, 104, 105, 106, 107, 108, 20, 21, 109, 110, 111, 112, 113, 114, 151, 152, 153, 154, 155, 156, 157, 158, 159, 169, 170, 171, 172, 173, 174, 160, 161, 162, 163, 164, 165, 175, 176, 177, 178, 179, 180, 181, 182, 183, 184, 185, 186] (by decide +kernel) (by decide +kernel)
set_option maxRecDepth 20000 in
theorem gX7_night_X7_windOf : GoodIn wsX7_night (wsV RX7 204 RX7 yX7_windOf wsX7_windOf) := goodIn_app (goodIn_of _ (by decide +kernel)) ggX7_night_X7_windOf
set_option maxRecDepth 20000 in
theorem ggX7_night_X7_nightSet : GoodIn wsX7_night wsX7_nightSet := goodIn_r _ [118, 1, 5, 119, 120, 121, 122, 123, 9, 124, 11, 72, 125, 98, 14, 99, 126, 127, 128, 49, 129, 51, 61, 53, 130, 55, 56, 57, 58, 131, 132, 133, 134, 59, 62, 135, 136, 137, 138, 139, 113, 63, 60, 140, 141, 142, 143, 144, 145, 146, 151, 152, 153, 154, 155, 156, 157, 158, 159, 160, 161, 162, 163, 164, 165, 166, 167, 168, 175, 176, 177, 178, 179, 180, 181, 182, 183, 184, 185, 186, 169, 170, 171, 172, 173, 174] (by decide +kernel) (by decide +kernel)
set_option maxRecDepth 20000 in
theorem gX7_night_X7_nightSet : GoodIn wsX7_night (wsV RX7 244 RX7 yX7_nightSet wsX7_nightSet) := goodIn_app (goodIn_of _ (by decide +kernel)) ggX7_night_X7_nightSet
set_option maxRecDepth 20000 in
theorem ggX7_night_X7_unfound : GoodIn wsX7_night wsX7_unfound := goodIn_r _ [150, 35, 151, 152, 153, 154, 155, 156, 157, 158, 159] (by decide +kernel) (by decide +kernel)
set_option maxRecDepth 20000 in
theorem gX7_night_X7_unfound : GoodIn wsX7_night (wsV RX7 68 RX7 yX7_unfound wsX7_unfound) := goodIn_app (goodIn_of _ (by decide +kernel)) ggX7_night_X7_unfound
theorem dX7_night_0 : decode cX7_night 0 = .ok (.aload_n 0, 1) := by decide +kernel
theorem dX7_night_1 : decode cX7_night 1 = .ok (.getfield 25, 3) := by decide +kernel
theorem dX7_night_4 : decode cX7_night 4 = .ok (.invokevirtual 171, 3) := by decide +kernel
theorem dX7_night_7 : decode cX7_night 7 = .ok (.ifCond .eq 6, 3) := by decide +kernel
theorem dX7_night_10 : decode cX7_night 10 = .ok (.ldc 155, 2) := by decide +kernel
theorem dX7_night_12 : decode cX7_night 12 = .ok (.ireturn, 1) := by decide +kernel
theorem dX7_night_13 : decode cX7_night 13 = .ok (.iload_n 1, 1) := by decide +kernel
theorem dX7_night_14 : decode cX7_night 14 = .ok (.iload_n 2, 1) := by decide +kernel
theorem dX7_night_15 : decode cX7_night 15 = .ok (.invokestatic 174, 3) := by decide +kernel
theorem dX7_night_18 : decode cX7_night 18 = .ok (.ifCond .eq 27, 3) := by decide +kernel
theorem dX7_night_21 : decode cX7_night 21 = .ok (.iload_n 3, 1) := by decide +kernel
theorem dX7_night_22 : decode cX7_night 22 = .ok (.iconst 1, 1) := by decide +kernel
theorem dX7_night_23 : decode cX7_night 23 = .ok (.bipush 24, 2) := by decide +kernel
theorem dX7_night_25 : decode cX7_night 25 = .ok (.invokestatic 55, 3) := by decide +kernel
theorem dX7_night_28 : decode cX7_night 28 = .ok (.ifCond .eq 17, 3) := by decide +kernel
theorem dX7_night_31 : decode cX7_night 31 = .ok (.iload 4, 2) := by decide +kernel
theorem dX7_night_33 : decode cX7_night 33 = .ok (.invokestatic 51, 3) := by decide +kernel
theorem dX7_night_36 : decode cX7_night 36 = .ok (.ifCond .eq 9, 3) := by decide +kernel
theorem dX7_night_39 : decode cX7_night 39 = .ok (.iload 5, 2) := by decide +kernel
theorem dX7_night_41 : decode cX7_night 41 = .ok (.iconst (-1), 1) := by decide +kernel
theorem dX7_night_42 : decode cX7_night 42 = .ok (.if_icmp .ge 6, 3) := by decide +kernel
theorem dX7_night_45 : decode cX7_night 45 = .ok (.ldc 59, 2) := by decide +kernel
theorem dX7_night_47 : decode cX7_night 47 = .ok (.ireturn, 1) := by decide +kernel
theorem dX7_night_48 : decode cX7_night 48 = .ok (.aload_n 0, 1) := by decide +kernel
theorem dX7_night_49 : decode cX7_night 49 = .ok (.getfield 11, 3) := by decide +kernel
theorem dX7_night_52 : decode cX7_night 52 = .ok (.iload 4, 2) := by decide +kernel
theorem dX7_night_54 : decode cX7_night 54 = .ok (.aaload, 1) := by decide +kernel
theorem dX7_night_55 : decode cX7_night 55 = .ok (.astore 6, 2) := by decide +kernel
theorem dX7_night_57 : decode cX7_night 57 = .ok (.aload 6, 2) := by decide +kernel
theorem dX7_night_59 : decode cX7_night 59 = .ok (.invokevirtual 71, 3) := by decide +kernel
theorem dX7_night_62 : decode cX7_night 62 = .ok (.ifCond .eq 9, 3) := by decide +kernel
theorem dX7_night_65 : decode cX7_night 65 = .ok (.aload_n 0, 1) := by decide +kernel
theorem dX7_night_66 : decode cX7_night 66 = .ok (.iconst 1, 1) := by decide +kernel
theorem dX7_night_67 : decode cX7_night 67 = .ok (.invokevirtual 60, 3) := by decide +kernel
theorem dX7_night_70 : decode cX7_night 70 = .ok (.ireturn, 1) := by decide +kernel
theorem dX7_night_71 : decode cX7_night 71 = .ok (.aload 6, 2) := by decide +kernel
theorem dX7_night_73 : decode cX7_night 73 = .ok (.iconst 0, 1) := by decide +kernel
theorem dX7_night_74 : decode cX7_night 74 = .ok (.aload_n 0, 1) := by decide +kernel
theorem dX7_night_75 : decode cX7_night 75 = .ok (.getfield 25, 3) := by decide +kernel
theorem dX7_night_78 : decode cX7_night 78 = .ok (.getfield 129, 3) := by decide +kernel
theorem dX7_night_81 : decode cX7_night 81 = .ok (.invokevirtual 75, 3) := by decide +kernel
theorem dX7_night_84 : decode cX7_night 84 = .ok (.ifCond .ne 9, 3) := by decide +kernel
theorem dX7_night_87 : decode cX7_night 87 = .ok (.aload_n 0, 1) := by decide +kernel
theorem dX7_night_88 : decode cX7_night 88 = .ok (.iconst 2, 1) := by decide +kernel
theorem dX7_night_89 : decode cX7_night 89 = .ok (.invokevirtual 60, 3) := by decide +kernel
theorem dX7_night_92 : decode cX7_night 92 = .ok (.ireturn, 1) := by decide +kernel
theorem dX7_night_93 : decode cX7_night 93 = .ok (.aload_n 0, 1) := by decide +kernel
theorem dX7_night_94 : decode cX7_night 94 = .ok (.aload_n 0, 1) := by decide +kernel
theorem dX7_night_95 : decode cX7_night 95 = .ok (.aload_n 0, 1) := by decide +kernel
theorem dX7_night_96 : decode cX7_night 96 = .ok (.iload_n 1, 1) := by decide +kernel
theorem dX7_night_97 : decode cX7_night 97 = .ok (.iload_n 2, 1) := by decide +kernel
theorem dX7_night_98 : decode cX7_night 98 = .ok (.invokevirtual 204, 3) := by decide +kernel
theorem dX7_night_101 : decode cX7_night 101 = .ok (.iload_n 3, 1) := by decide +kernel
theorem dX7_night_102 : decode cX7_night 102 = .ok (.aload 6, 2) := by decide +kernel
theorem dX7_night_104 : decode cX7_night 104 = .ok (.iload 5, 2) := by decide +kernel
theorem dX7_night_106 : decode cX7_night 106 = .ok (.invokevirtual 244, 3) := by decide +kernel
theorem dX7_night_109 : decode cX7_night 109 = .ok (.invokevirtual 68, 3) := by decide +kernel
theorem dX7_night_112 : decode cX7_night 112 = .ok (.ireturn, 1) := by decide +kernel
set_option maxRecDepth 20000 in
theorem ggX7_years_X3_isNone : GoodIn wsX7_years wsX3_isNone := goodIn_r _ [14, 15, 120, 121, 122, 123, 124, 125] (by decide +kernel) (by decide +kernel)
set_option maxRecDepth 20000 in
theorem gX7_years_X3_isNone : GoodIn wsX7_years (wsV RX7 171 RX3 yX3_isNone wsX3_isNone) := goodIn_app (goodIn_of _ (by decide +kernel)) ggX7_years_X3_isNone
set_option maxRecDepth 20000 in
theorem ggX7_years_X3_has : GoodIn wsX7_years wsX3_has := goodIn_r _ [19, 15, 120, 121, 122, 123, 124, 125] (by decide +kernel) (by decide +kernel)
set_option maxRecDepth 20000 in
theorem gX7_years_X3_has : GoodIn wsX7_years (wsV RX7 132 RX3 yX3_has wsX3_has) := goodIn_app (goodIn_of _ (by decide +kernel)) ggX7_years_X3_has
set_option maxRecDepth 20000 in
theorem ggX7_years_X7_isWithin : GoodIn wsX7_years wsX7_isWithin := goodIn_r _ [23] (by decide +kernel) (by decide +kernel)
set_option maxRecDepth 20000 in
theorem gX7_years_X7_isWithin : GoodIn wsX7_years (va_wsS RX7 55 yX7_isWithin wsX7_isWithin) := goodIn_app (goodIn_of _ (by decide +kernel)) ggX7_years_X7_isWithin
set_option maxRecDepth 20000 in
theorem ggX7_years_X1_survey : GoodIn wsX7_years wsX1_survey := goodIn_r _ [28, 29, 30, 31, 32, 33, 34, 35, 36, 37, 38, 39, 40, 41, 42, 43, 44, 13, 45, 15, 46, 47, 48, 49, 50, 51, 52, 53, 54, 55, 56, 57, 58, 59, 60, 61, 62, 63, 64, 65, 66, 67, 68, 17, 18, 19, 69, 70, 71, 72, 73, 22, 74, 75, 76, 77, 27, 78, 79, 80, 81, 82, 83, 21, 23, 126, 127, 128, 129, 130, 131, 120, 121, 122, 123, 124, 125, 132, 133, 134, 135, 136, 137, 138, 139, 140, 141, 142, 143] (by decide +kernel) (by decide +kernel)
set_option maxRecDepth 20000 in
theorem gX7_years_X1_survey : GoodIn wsX7_years (wsV RX7 234 RX1 yX1_survey wsX1_survey) := goodIn_app (goodIn_of _ (by decide +kernel)) ggX7_years_X1_survey
set_option maxRecDepth 20000 in
theorem ggX7_years_X1_blow : GoodIn wsX7_years wsX1_blow := goodIn_r _ [87, 88, 29, 89, 126, 127, 128, 129, 130, 131, 120, 121, 122, 123, 124, 125] (by decide +kernel) (by decide +kernel)
set_option maxRecDepth 20000 in
theorem gX7_years_X1_blow : GoodIn wsX7_years (wsV RX7 257 RX1 yX1_blow wsX1_blow) := goodIn_app (goodIn_of _ (by decide +kernel)) ggX7_years_X1_blow
set_option maxRecDepth 20000 in
theorem ggX7_years_X1_strengthOfAll : GoodIn wsX7_years wsX1_strengthOfAll := goodIn_r _ [93, 29, 39, 94, 95, 96, 27, 97, 37, 31, 40, 98, 99, 100, 101, 102, 88, 41, 38, 103, 104, 105, 106, 107, 108, 109, 126, 127, 128, 129, 130, 131, 120, 121, 122, 123, 124, 125, 132, 133, 134, 135, 136, 137, 138, 139, 140, 141, 142, 143] (by decide +kernel) (by decide +kernel)
set_option maxRecDepth 20000 in
theorem gX7_years_X1_strengthOfAll : GoodIn wsX7_years (wsV RX7 261 RX1 yX1_strengthOfAll wsX1_strengthOfAll) := goodIn_app (goodIn_of _ (by decide +kernel)) ggX7_years_X1_strengthOfAll
set_option maxRecDepth 20000 in
theorem ggX7_years_X1_strengthOf : GoodIn wsX7_years wsX1_strengthOf := goodIn_r _ [97, 37, 29, 31, 40, 98, 99, 100, 101, 27, 102, 88, 41, 38, 103, 104, 105, 106, 107, 108, 109, 126, 127, 128, 129, 130, 131, 120, 121, 122, 123, 124, 125, 132, 133, 134, 135, 136, 137, 138, 139, 140, 141, 142, 143] (by decide +kernel) (by decide +kernel)
set_option maxRecDepth 20000 in
theorem gX7_years_X1_strengthOf : GoodIn wsX7_years (wsV RX7 264 RX1 yX1_strengthOf wsX1_strengthOf) := goodIn_app (goodIn_of _ (by decide +kernel)) ggX7_years_X1_strengthOf
theorem dX7_years_0 : decode cX7_years 0 = .ok (.aload_n 0, 1) := by decide +kernel
theorem dX7_years_1 : decode cX7_years 1 = .ok (.getfield 25, 3) := by decide +kernel
theorem dX7_years_4 : decode cX7_years 4 = .ok (.invokevirtual 171, 3) := by decide +kernel
theorem dX7_years_7 : decode cX7_years 7 = .ok (.ifCond .eq 6, 3) := by decide +kernel
theorem dX7_years_10 : decode cX7_years 10 = .ok (.ldc 155, 2) := by decide +kernel
theorem dX7_years_12 : decode cX7_years 12 = .ok (.ireturn, 1) := by decide +kernel
theorem dX7_years_13 : decode cX7_years 13 = .ok (.iload_n 3, 1) := by decide +kernel
theorem dX7_years_14 : decode cX7_years 14 = .ok (.iconst (-1), 1) := by decide +kernel
theorem dX7_years_15 : decode cX7_years 15 = .ok (.if_icmp .eq 14, 3) := by decide +kernel
theorem dX7_years_18 : decode cX7_years 18 = .ok (.aload_n 0, 1) := by decide +kernel
theorem dX7_years_19 : decode cX7_years 19 = .ok (.getfield 25, 3) := by decide +kernel
theorem dX7_years_22 : decode cX7_years 22 = .ok (.iload_n 3, 1) := by decide +kernel
theorem dX7_years_23 : decode cX7_years 23 = .ok (.invokevirtual 132, 3) := by decide +kernel
theorem dX7_years_26 : decode cX7_years 26 = .ok (.ifCond .eq 7, 3) := by decide +kernel
theorem dX7_years_29 : decode cX7_years 29 = .ok (.iconst 1, 1) := by decide +kernel
theorem dX7_years_30 : decode cX7_years 30 = .ok (.goto 4, 3) := by decide +kernel
theorem dX7_years_33 : decode cX7_years 33 = .ok (.iconst 0, 1) := by decide +kernel
theorem dX7_years_34 : decode cX7_years 34 = .ok (.istore 4, 2) := by decide +kernel
theorem dX7_years_36 : decode cX7_years 36 = .ok (.iload_n 1, 1) := by decide +kernel
theorem dX7_years_37 : decode cX7_years 37 = .ok (.iconst 1, 1) := by decide +kernel
theorem dX7_years_38 : decode cX7_years 38 = .ok (.sipush 1000, 3) := by decide +kernel
theorem dX7_years_41 : decode cX7_years 41 = .ok (.invokestatic 55, 3) := by decide +kernel
theorem dX7_years_44 : decode cX7_years 44 = .ok (.ifCond .eq 18, 3) := by decide +kernel
theorem dX7_years_47 : decode cX7_years 47 = .ok (.iload_n 2, 1) := by decide +kernel
theorem dX7_years_48 : decode cX7_years 48 = .ok (.iconst 1, 1) := by decide +kernel
theorem dX7_years_49 : decode cX7_years 49 = .ok (.ldc 248, 2) := by decide +kernel
theorem dX7_years_51 : decode cX7_years 51 = .ok (.invokestatic 55, 3) := by decide +kernel
theorem dX7_years_54 : decode cX7_years 54 = .ok (.ifCond .eq 8, 3) := by decide +kernel
theorem dX7_years_57 : decode cX7_years 57 = .ok (.iload 4, 2) := by decide +kernel
theorem dX7_years_59 : decode cX7_years 59 = .ok (.ifCond .ne 6, 3) := by decide +kernel
theorem dX7_years_62 : decode cX7_years 62 = .ok (.ldc 59, 2) := by decide +kernel
theorem dX7_years_64 : decode cX7_years 64 = .ok (.ireturn, 1) := by decide +kernel
theorem dX7_years_65 : decode cX7_years 65 = .ok (.iconst 0, 1) := by decide +kernel
theorem dX7_years_66 : decode cX7_years 66 = .ok (.istore 5, 2) := by decide +kernel
theorem dX7_years_68 : decode cX7_years 68 = .ok (.iload 5, 2) := by decide +kernel
theorem dX7_years_70 : decode cX7_years 70 = .ok (.iconst 4, 1) := by decide +kernel
theorem dX7_years_71 : decode cX7_years 71 = .ok (.if_icmp .ge 26, 3) := by decide +kernel
theorem dX7_years_74 : decode cX7_years 74 = .ok (.aload_n 0, 1) := by decide +kernel
theorem dX7_years_75 : decode cX7_years 75 = .ok (.getfield 38, 3) := by decide +kernel
theorem dX7_years_78 : decode cX7_years 78 = .ok (.iload 5, 2) := by decide +kernel
theorem dX7_years_80 : decode cX7_years 80 = .ok (.aaload, 1) := by decide +kernel
theorem dX7_years_81 : decode cX7_years 81 = .ok (.aload_n 0, 1) := by decide +kernel
theorem dX7_years_82 : decode cX7_years 82 = .ok (.getfield 25, 3) := by decide +kernel
theorem dX7_years_85 : decode cX7_years 85 = .ok (.iload 5, 2) := by decide +kernel
theorem dX7_years_87 : decode cX7_years 87 = .ok (.iconst (-1), 1) := by decide +kernel
theorem dX7_years_88 : decode cX7_years 88 = .ok (.invokevirtual 234, 3) := by decide +kernel
theorem dX7_years_91 : decode cX7_years 91 = .ok (.iinc 5 1, 3) := by decide +kernel
theorem dX7_years_94 : decode cX7_years 94 = .ok (.goto (-26), 3) := by decide +kernel
theorem dX7_years_97 : decode cX7_years 97 = .ok (.iconst 0, 1) := by decide +kernel
theorem dX7_years_98 : decode cX7_years 98 = .ok (.istore 5, 2) := by decide +kernel
theorem dX7_years_100 : decode cX7_years 100 = .ok (.iload_n 2, 1) := by decide +kernel
theorem dX7_years_101 : decode cX7_years 101 = .ok (.i2l, 1) := by decide +kernel
theorem dX7_years_102 : decode cX7_years 102 = .ok (.lstore 6, 2) := by decide +kernel
theorem dX7_years_104 : decode cX7_years 104 = .ok (.iconst 0, 1) := by decide +kernel
theorem dX7_years_105 : decode cX7_years 105 = .ok (.istore 8, 2) := by decide +kernel
theorem dX7_years_107 : decode cX7_years 107 = .ok (.iload 8, 2) := by decide +kernel
theorem dX7_years_109 : decode cX7_years 109 = .ok (.iload_n 1, 1) := by decide +kernel
theorem dX7_years_110 : decode cX7_years 110 = .ok (.if_icmp .ge 84, 3) := by decide +kernel
theorem dX7_years_113 : decode cX7_years 113 = .ok (.lload 6, 2) := by decide +kernel
theorem dX7_years_115 : decode cX7_years 115 = .ok (.ldc2_w 249, 3) := by decide +kernel
theorem dX7_years_118 : decode cX7_years 118 = .ok (.lmul, 1) := by decide +kernel
theorem dX7_years_119 : decode cX7_years 119 = .ok (.ldc2_w 251, 3) := by decide +kernel
theorem dX7_years_122 : decode cX7_years 122 = .ok (.lrem, 1) := by decide +kernel
theorem dX7_years_123 : decode cX7_years 123 = .ok (.lstore 6, 2) := by decide +kernel
theorem dX7_years_125 : decode cX7_years 125 = .ok (.aload_n 0, 1) := by decide +kernel
theorem dX7_years_126 : decode cX7_years 126 = .ok (.getfield 38, 3) := by decide +kernel
theorem dX7_years_129 : decode cX7_years 129 = .ok (.lload 6, 2) := by decide +kernel
theorem dX7_years_131 : decode cX7_years 131 = .ok (.ldc2_w 253, 3) := by decide +kernel
theorem dX7_years_134 : decode cX7_years 134 = .ok (.land, 1) := by decide +kernel
theorem dX7_years_135 : decode cX7_years 135 = .ok (.l2i, 1) := by decide +kernel
theorem dX7_years_136 : decode cX7_years 136 = .ok (.aaload, 1) := by decide +kernel
theorem dX7_years_137 : decode cX7_years 137 = .ok (.astore 9, 2) := by decide +kernel
theorem dX7_years_139 : decode cX7_years 139 = .ok (.lload 6, 2) := by decide +kernel
theorem dX7_years_141 : decode cX7_years 141 = .ok (.ldc2_w 249, 3) := by decide +kernel
theorem dX7_years_144 : decode cX7_years 144 = .ok (.lmul, 1) := by decide +kernel
theorem dX7_years_145 : decode cX7_years 145 = .ok (.ldc2_w 251, 3) := by decide +kernel
theorem dX7_years_148 : decode cX7_years 148 = .ok (.lrem, 1) := by decide +kernel
theorem dX7_years_149 : decode cX7_years 149 = .ok (.lstore 6, 2) := by decide +kernel
theorem dX7_years_151 : decode cX7_years 151 = .ok (.aload 9, 2) := by decide +kernel
theorem dX7_years_153 : decode cX7_years 153 = .ok (.lload 6, 2) := by decide +kernel
theorem dX7_years_155 : decode cX7_years 155 = .ok (.ldc2_w 255, 3) := by decide +kernel
theorem dX7_years_158 : decode cX7_years 158 = .ok (.lrem, 1) := by decide +kernel
theorem dX7_years_159 : decode cX7_years 159 = .ok (.l2i, 1) := by decide +kernel
theorem dX7_years_160 : decode cX7_years 160 = .ok (.invokevirtual 257, 3) := by decide +kernel
theorem dX7_years_163 : decode cX7_years 163 = .ok (.iload 5, 2) := by decide +kernel
theorem dX7_years_165 : decode cX7_years 165 = .ok (.iload_n 3, 1) := by decide +kernel
theorem dX7_years_166 : decode cX7_years 166 = .ok (.iconst (-1), 1) := by decide +kernel
theorem dX7_years_167 : decode cX7_years 167 = .ok (.if_icmp .ne 11, 3) := by decide +kernel
theorem dX7_years_170 : decode cX7_years 170 = .ok (.aload 9, 2) := by decide +kernel
theorem dX7_years_172 : decode cX7_years 172 = .ok (.invokevirtual 261, 3) := by decide +kernel
theorem dX7_years_175 : decode cX7_years 175 = .ok (.goto 10, 3) := by decide +kernel
theorem dX7_years_178 : decode cX7_years 178 = .ok (.aload 9, 2) := by decide +kernel
theorem dX7_years_180 : decode cX7_years 180 = .ok (.iload_n 3, 1) := by decide +kernel
theorem dX7_years_181 : decode cX7_years 181 = .ok (.iconst 0, 1) := by decide +kernel
theorem dX7_years_182 : decode cX7_years 182 = .ok (.invokevirtual 264, 3) := by decide +kernel
theorem dX7_years_185 : decode cX7_years 185 = .ok (.iadd, 1) := by decide +kernel
theorem dX7_years_186 : decode cX7_years 186 = .ok (.istore 5, 2) := by decide +kernel
theorem dX7_years_188 : decode cX7_years 188 = .ok (.iinc 8 1, 3) := by decide +kernel
theorem dX7_years_191 : decode cX7_years 191 = .ok (.goto (-84), 3) := by decide +kernel
theorem dX7_years_194 : decode cX7_years 194 = .ok (.iload 5, 2) := by decide +kernel
theorem dX7_years_196 : decode cX7_years 196 = .ok (.ireturn, 1) := by decide +kernel
set_option maxRecDepth 20000 in
theorem ggX7_image_X7_isWithin : GoodIn wsX7_image wsX7_isWithin := goodIn_r _ [8] (by decide +kernel) (by decide +kernel)
set_option maxRecDepth 20000 in
theorem gX7_image_X7_isWithin : GoodIn wsX7_image (va_wsS RX7 55 yX7_isWithin wsX7_isWithin) := goodIn_app (goodIn_of _ (by decide +kernel)) ggX7_image_X7_isWithin
set_option maxRecDepth 20000 in
theorem ggX7_image_X3_isNone : GoodIn wsX7_image wsX3_isNone := goodIn_r _ [13, 14, 50, 51, 52, 53, 54, 55] (by decide +kernel) (by decide +kernel)
set_option maxRecDepth 20000 in
theorem gX7_image_X3_isNone : GoodIn wsX7_image (wsV RX7 171 RX3 yX3_isNone wsX3_isNone) := goodIn_app (goodIn_of _ (by decide +kernel)) ggX7_image_X3_isNone
set_option maxRecDepth 20000 in
theorem ggX7_image_X3_become : GoodIn wsX7_image wsX3_become := goodIn_r _ [18, 14, 19, 20, 21, 22, 23, 24, 25, 26, 27, 28, 29, 30, 31, 32, 33, 34, 35, 36, 37, 38, 39, 40, 50, 51, 52, 53, 54, 55, 56, 57, 58, 59, 60, 61, 62, 63, 64, 65, 66, 67] (by decide +kernel) (by decide +kernel)
set_option maxRecDepth 20000 in
theorem gX7_image_X3_become : GoodIn wsX7_image (wsV RX7 125 RX3 yX3_become wsX3_become) := goodIn_app (goodIn_of _ (by decide +kernel)) ggX7_image_X3_become
theorem dX7_image_0 : decode cX7_image 0 = .ok (.iload_n 1, 1) := by decide +kernel
theorem dX7_image_1 : decode cX7_image 1 = .ok (.iconst 0, 1) := by decide +kernel
theorem dX7_image_2 : decode cX7_image 2 = .ok (.iconst 1, 1) := by decide +kernel
theorem dX7_image_3 : decode cX7_image 3 = .ok (.invokestatic 55, 3) := by decide +kernel
theorem dX7_image_6 : decode cX7_image 6 = .ok (.ifCond .ne 6, 3) := by decide +kernel
theorem dX7_image_9 : decode cX7_image 9 = .ok (.ldc 59, 2) := by decide +kernel
theorem dX7_image_11 : decode cX7_image 11 = .ok (.ireturn, 1) := by decide +kernel
theorem dX7_image_12 : decode cX7_image 12 = .ok (.aload_n 0, 1) := by decide +kernel
theorem dX7_image_13 : decode cX7_image 13 = .ok (.getfield 25, 3) := by decide +kernel
theorem dX7_image_16 : decode cX7_image 16 = .ok (.invokevirtual 171, 3) := by decide +kernel
theorem dX7_image_19 : decode cX7_image 19 = .ok (.ifCond .eq 6, 3) := by decide +kernel
theorem dX7_image_22 : decode cX7_image 22 = .ok (.ldc 155, 2) := by decide +kernel
theorem dX7_image_24 : decode cX7_image 24 = .ok (.ireturn, 1) := by decide +kernel
theorem dX7_image_25 : decode cX7_image 25 = .ok (.aload_n 0, 1) := by decide +kernel
theorem dX7_image_26 : decode cX7_image 26 = .ok (.getfield 32, 3) := by decide +kernel
theorem dX7_image_29 : decode cX7_image 29 = .ok (.iload_n 1, 1) := by decide +kernel
theorem dX7_image_30 : decode cX7_image 30 = .ok (.aaload, 1) := by decide +kernel
theorem dX7_image_31 : decode cX7_image 31 = .ok (.aload_n 0, 1) := by decide +kernel
theorem dX7_image_32 : decode cX7_image 32 = .ok (.getfield 25, 3) := by decide +kernel
theorem dX7_image_35 : decode cX7_image 35 = .ok (.invokevirtual 125, 3) := by decide +kernel
theorem dX7_image_38 : decode cX7_image 38 = .ok (.iconst 1, 1) := by decide +kernel
theorem dX7_image_39 : decode cX7_image 39 = .ok (.ireturn, 1) := by decide +kernel
set_option maxRecDepth 20000 in
theorem ggX7_restore_X7_isWithin : GoodIn wsX7_restore wsX7_isWithin := goodIn_r _ [8] (by decide +kernel) (by decide +kernel)
set_option maxRecDepth 20000 in
theorem gX7_restore_X7_isWithin : GoodIn wsX7_restore (va_wsS RX7 55 yX7_isWithin wsX7_isWithin) := goodIn_app (goodIn_of _ (by decide +kernel)) ggX7_restore_X7_isWithin
set_option maxRecDepth 20000 in
theorem ggX7_restore_X3_isNone : GoodIn wsX7_restore wsX3_isNone := goodIn_r _ [13, 14, 50, 51, 52, 53, 54, 55] (by decide +kernel) (by decide +kernel)
set_option maxRecDepth 20000 in
theorem gX7_restore_X3_isNone : GoodIn wsX7_restore (wsV RX7 171 RX3 yX3_isNone wsX3_isNone) := goodIn_app (goodIn_of _ (by decide +kernel)) ggX7_restore_X3_isNone
set_option maxRecDepth 20000 in
theorem ggX7_restore_X3_become : GoodIn wsX7_restore wsX3_become := goodIn_r _ [18, 14, 19, 20, 21, 22, 23, 24, 25, 26, 27, 28, 29, 30, 31, 32, 33, 34, 35, 36, 37, 38, 39, 40, 50, 51, 52, 53, 54, 55, 56, 57, 58, 59, 60, 61, 62, 63, 64, 65, 66, 67] (by decide +kernel) (by decide +kernel)
set_option maxRecDepth 20000 in
theorem gX7_restore_X3_become : GoodIn wsX7_restore (wsV RX7 125 RX3 yX3_become wsX3_become) := goodIn_app (goodIn_of _ (by decide +kernel)) ggX7_restore_X3_become
theorem dX7_restore_0 : decode cX7_restore 0 = .ok (.iload_n 1, 1) := by decide +kernel
theorem dX7_restore_1 : decode cX7_restore 1 = .ok (.iconst 0, 1) := by decide +kernel
theorem dX7_restore_2 : decode cX7_restore 2 = .ok (.iconst 1, 1) := by decide +kernel
theorem dX7_restore_3 : decode cX7_restore 3 = .ok (.invokestatic 55, 3) := by decide +kernel
theorem dX7_restore_6 : decode cX7_restore 6 = .ok (.ifCond .ne 6, 3) := by decide +kernel
theorem dX7_restore_9 : decode cX7_restore 9 = .ok (.ldc 59, 2) := by decide +kernel
theorem dX7_restore_11 : decode cX7_restore 11 = .ok (.ireturn, 1) := by decide +kernel
theorem dX7_restore_12 : decode cX7_restore 12 = .ok (.aload_n 0, 1) := by decide +kernel
theorem dX7_restore_13 : decode cX7_restore 13 = .ok (.getfield 32, 3) := by decide +kernel
theorem dX7_restore_16 : decode cX7_restore 16 = .ok (.iload_n 1, 1) := by decide +kernel
theorem dX7_restore_17 : decode cX7_restore 17 = .ok (.aaload, 1) := by decide +kernel
theorem dX7_restore_18 : decode cX7_restore 18 = .ok (.invokevirtual 171, 3) := by decide +kernel
theorem dX7_restore_21 : decode cX7_restore 21 = .ok (.ifCond .eq 6, 3) := by decide +kernel
theorem dX7_restore_24 : decode cX7_restore 24 = .ok (.ldc 155, 2) := by decide +kernel
theorem dX7_restore_26 : decode cX7_restore 26 = .ok (.ireturn, 1) := by decide +kernel
theorem dX7_restore_27 : decode cX7_restore 27 = .ok (.aload_n 0, 1) := by decide +kernel
theorem dX7_restore_28 : decode cX7_restore 28 = .ok (.getfield 25, 3) := by decide +kernel
theorem dX7_restore_31 : decode cX7_restore 31 = .ok (.aload_n 0, 1) := by decide +kernel
theorem dX7_restore_32 : decode cX7_restore 32 = .ok (.getfield 32, 3) := by decide +kernel
theorem dX7_restore_35 : decode cX7_restore 35 = .ok (.iload_n 1, 1) := by decide +kernel
theorem dX7_restore_36 : decode cX7_restore 36 = .ok (.aaload, 1) := by decide +kernel
theorem dX7_restore_37 : decode cX7_restore 37 = .ok (.invokevirtual 125, 3) := by decide +kernel
theorem dX7_restore_40 : decode cX7_restore 40 = .ok (.iconst 1, 1) := by decide +kernel
theorem dX7_restore_41 : decode cX7_restore 41 = .ok (.ireturn, 1) := by decide +kernel
set_option maxRecDepth 20000 in
theorem ggX7_kind_X3_has : GoodIn wsX7_kind wsX3_has := goodIn_r _ [9, 10, 20, 21, 22, 23, 24, 25] (by decide +kernel) (by decide +kernel)
set_option maxRecDepth 20000 in
theorem gX7_kind_X3_has : GoodIn wsX7_kind (wsV RX7 132 RX3 yX3_has wsX3_has) := goodIn_app (goodIn_of _ (by decide +kernel)) ggX7_kind_X3_has
theorem dX7_kind_0 : decode cX7_kind 0 = .ok (.aload_n 0, 1) := by decide +kernel
theorem dX7_kind_1 : decode cX7_kind 1 = .ok (.getfield 25, 3) := by decide +kernel
theorem dX7_kind_4 : decode cX7_kind 4 = .ok (.iload_n 1, 1) := by decide +kernel
theorem dX7_kind_5 : decode cX7_kind 5 = .ok (.invokevirtual 132, 3) := by decide +kernel
theorem dX7_kind_8 : decode cX7_kind 8 = .ok (.ifCond .eq 18, 3) := by decide +kernel
theorem dX7_kind_11 : decode cX7_kind 11 = .ok (.aload_n 0, 1) := by decide +kernel
theorem dX7_kind_12 : decode cX7_kind 12 = .ok (.getfield 25, 3) := by decide +kernel
theorem dX7_kind_15 : decode cX7_kind 15 = .ok (.getfield 135, 3) := by decide +kernel
theorem dX7_kind_18 : decode cX7_kind 18 = .ok (.iload_n 1, 1) := by decide +kernel
theorem dX7_kind_19 : decode cX7_kind 19 = .ok (.aaload, 1) := by decide +kernel
theorem dX7_kind_20 : decode cX7_kind 20 = .ok (.getfield 152, 3) := by decide +kernel
theorem dX7_kind_23 : decode cX7_kind 23 = .ok (.goto 5, 3) := by decide +kernel
theorem dX7_kind_26 : decode cX7_kind 26 = .ok (.ldc 59, 2) := by decide +kernel
theorem dX7_kind_28 : decode cX7_kind 28 = .ok (.ireturn, 1) := by decide +kernel
set_option maxRecDepth 20000 in
theorem ggX7_as_X3_has : GoodIn wsX7_as wsX3_has := goodIn_r _ [9, 10, 38, 39, 40, 41, 42, 43] (by decide +kernel) (by decide +kernel)
set_option maxRecDepth 20000 in
theorem gX7_as_X3_has : GoodIn wsX7_as (wsV RX7 132 RX3 yX3_has wsX3_has) := goodIn_app (goodIn_of _ (by decide +kernel)) ggX7_as_X3_has
set_option maxRecDepth 20000 in
theorem ggX7_as_X7_isWithin : GoodIn wsX7_as wsX7_isWithin := goodIn_r _ [14] (by decide +kernel) (by decide +kernel)
set_option maxRecDepth 20000 in
theorem gX7_as_X7_isWithin : GoodIn wsX7_as (va_wsS RX7 55 yX7_isWithin wsX7_isWithin) := goodIn_app (goodIn_of _ (by decide +kernel)) ggX7_as_X7_isWithin
set_option maxRecDepth 20000 in
theorem ggX7_as_X7_isKind : GoodIn wsX7_as wsX7_isKind := goodIn_r _ [17, 18] (by decide +kernel) (by decide +kernel)
set_option maxRecDepth 20000 in
theorem gX7_as_X7_isKind : GoodIn wsX7_as (va_wsS RX7 266 yX7_isKind wsX7_isKind) := goodIn_app (goodIn_of _ (by decide +kernel)) ggX7_as_X7_isKind
set_option maxRecDepth 20000 in
theorem ggX7_as_X7_unfound : GoodIn wsX7_as wsX7_unfound := goodIn_r _ [22, 23, 29, 30, 31, 32, 33, 34, 35, 36, 37] (by decide +kernel) (by decide +kernel)
set_option maxRecDepth 20000 in
theorem gX7_as_X7_unfound : GoodIn wsX7_as (wsV RX7 68 RX7 yX7_unfound wsX7_unfound) := goodIn_app (goodIn_of _ (by decide +kernel)) ggX7_as_X7_unfound
set_option maxRecDepth 20000 in
theorem ggX7_as_X7_found : GoodIn wsX7_as wsX7_found := goodIn_r _ [27, 23, 28, 29, 30, 31, 32, 33, 34, 35, 36, 37] (by decide +kernel) (by decide +kernel)
set_option maxRecDepth 20000 in
theorem gX7_as_X7_found : GoodIn wsX7_as (wsV RX7 60 RX7 yX7_found wsX7_found) := goodIn_app (goodIn_of _ (by decide +kernel)) ggX7_as_X7_found
theorem dX7_as_0 : decode cX7_as 0 = .ok (.aload_n 0, 1) := by decide +kernel
theorem dX7_as_1 : decode cX7_as 1 = .ok (.getfield 25, 3) := by decide +kernel
theorem dX7_as_4 : decode cX7_as 4 = .ok (.iload_n 1, 1) := by decide +kernel
theorem dX7_as_5 : decode cX7_as 5 = .ok (.invokevirtual 132, 3) := by decide +kernel
theorem dX7_as_8 : decode cX7_as 8 = .ok (.ifCond .eq 12, 3) := by decide +kernel
theorem dX7_as_11 : decode cX7_as 11 = .ok (.iload_n 2, 1) := by decide +kernel
theorem dX7_as_12 : decode cX7_as 12 = .ok (.iconst 0, 1) := by decide +kernel
theorem dX7_as_13 : decode cX7_as 13 = .ok (.iconst 5, 1) := by decide +kernel
theorem dX7_as_14 : decode cX7_as 14 = .ok (.invokestatic 55, 3) := by decide +kernel
theorem dX7_as_17 : decode cX7_as 17 = .ok (.ifCond .ne 6, 3) := by decide +kernel
theorem dX7_as_20 : decode cX7_as 20 = .ok (.ldc 59, 2) := by decide +kernel
theorem dX7_as_22 : decode cX7_as 22 = .ok (.ireturn, 1) := by decide +kernel
theorem dX7_as_23 : decode cX7_as 23 = .ok (.aload_n 0, 1) := by decide +kernel
theorem dX7_as_24 : decode cX7_as 24 = .ok (.getfield 25, 3) := by decide +kernel
theorem dX7_as_27 : decode cX7_as 27 = .ok (.getfield 135, 3) := by decide +kernel
theorem dX7_as_30 : decode cX7_as 30 = .ok (.iload_n 1, 1) := by decide +kernel
theorem dX7_as_31 : decode cX7_as 31 = .ok (.aaload, 1) := by decide +kernel
theorem dX7_as_32 : decode cX7_as 32 = .ok (.getfield 152, 3) := by decide +kernel
theorem dX7_as_35 : decode cX7_as 35 = .ok (.iload_n 2, 1) := by decide +kernel
theorem dX7_as_36 : decode cX7_as 36 = .ok (.invokestatic 266, 3) := by decide +kernel
theorem dX7_as_39 : decode cX7_as 39 = .ok (.ifCond .eq 11, 3) := by decide +kernel
theorem dX7_as_42 : decode cX7_as 42 = .ok (.aload_n 0, 1) := by decide +kernel
theorem dX7_as_43 : decode cX7_as 43 = .ok (.iload_n 1, 1) := by decide +kernel
theorem dX7_as_44 : decode cX7_as 44 = .ok (.invokevirtual 68, 3) := by decide +kernel
theorem dX7_as_47 : decode cX7_as 47 = .ok (.goto 8, 3) := by decide +kernel
theorem dX7_as_50 : decode cX7_as 50 = .ok (.aload_n 0, 1) := by decide +kernel
theorem dX7_as_51 : decode cX7_as 51 = .ok (.iconst 3, 1) := by decide +kernel
theorem dX7_as_52 : decode cX7_as 52 = .ok (.invokevirtual 60, 3) := by decide +kernel
theorem dX7_as_55 : decode cX7_as 55 = .ok (.ireturn, 1) := by decide +kernel
set_option maxRecDepth 20000 in
theorem ggX7_ask_X3_has : GoodIn wsX7_ask wsX3_has := goodIn_r _ [10, 11, 48, 49, 50, 51, 52, 53] (by decide +kernel) (by decide +kernel)
set_option maxRecDepth 20000 in
theorem gX7_ask_X3_has : GoodIn wsX7_ask (wsV RX7 132 RX3 yX3_has wsX3_has) := goodIn_app (goodIn_of _ (by decide +kernel)) ggX7_ask_X3_has
set_option maxRecDepth 20000 in
theorem ggX7_ask_X7_isWithin : GoodIn wsX7_ask wsX7_isWithin := goodIn_r _ [15] (by decide +kernel) (by decide +kernel)
set_option maxRecDepth 20000 in
theorem gX7_ask_X7_isWithin : GoodIn wsX7_ask (va_wsS RX7 55 yX7_isWithin wsX7_isWithin) := goodIn_app (goodIn_of _ (by decide +kernel)) ggX7_ask_X7_isWithin
set_option maxRecDepth 20000 in
theorem ggX7_ask_X7_sizeBody : GoodIn wsX7_ask wsX7_sizeBody := goodIn_r _ [18, 19, 20, 12, 13, 14, 15, 56, 57, 58, 59, 60, 61, 62, 63, 64, 65, 66, 67] (by decide +kernel) (by decide +kernel)
set_option maxRecDepth 20000 in
theorem gX7_ask_X7_sizeBody : GoodIn wsX7_ask (va_wsS RX7 270 yX7_sizeBody wsX7_sizeBody) := goodIn_app (goodIn_of _ (by decide +kernel)) ggX7_ask_X7_sizeBody
set_option maxRecDepth 20000 in
theorem ggX7_ask_X7_markBody : GoodIn wsX7_ask wsX7_markBody := goodIn_r _ [23, 19, 24, 12, 13, 14, 15, 56, 57, 58, 59, 60, 61, 62, 63, 64, 65, 66, 67] (by decide +kernel) (by decide +kernel)
set_option maxRecDepth 20000 in
theorem gX7_ask_X7_markBody : GoodIn wsX7_ask (va_wsS RX7 274 yX7_markBody wsX7_markBody) := goodIn_app (goodIn_of _ (by decide +kernel)) ggX7_ask_X7_markBody
set_option maxRecDepth 20000 in
theorem ggX7_ask_X7_gives : GoodIn wsX7_ask wsX7_gives := goodIn_r _ [27, 28, 29, 30, 31, 32, 33, 34, 35, 36, 37, 38, 25, 26, 14, 21, 22, 23, 19, 24, 12, 13, 15, 16, 17, 18, 20, 56, 57, 58, 59, 60, 61, 62, 63, 64, 65, 66, 67, 54, 55] (by decide +kernel) (by decide +kernel)
set_option maxRecDepth 20000 in
theorem gX7_ask_X7_gives : GoodIn wsX7_ask (va_wsS RX7 277 yX7_gives wsX7_gives) := goodIn_app (goodIn_of _ (by decide +kernel)) ggX7_ask_X7_gives
theorem dX7_ask_0 : decode cX7_ask 0 = .ok (.aload_n 0, 1) := by decide +kernel
theorem dX7_ask_1 : decode cX7_ask 1 = .ok (.getfield 25, 3) := by decide +kernel
theorem dX7_ask_4 : decode cX7_ask 4 = .ok (.iload_n 1, 1) := by decide +kernel
theorem dX7_ask_5 : decode cX7_ask 5 = .ok (.invokevirtual 132, 3) := by decide +kernel
theorem dX7_ask_8 : decode cX7_ask 8 = .ok (.ifCond .eq 12, 3) := by decide +kernel
theorem dX7_ask_11 : decode cX7_ask 11 = .ok (.iload_n 2, 1) := by decide +kernel
theorem dX7_ask_12 : decode cX7_ask 12 = .ok (.iconst 0, 1) := by decide +kernel
theorem dX7_ask_13 : decode cX7_ask 13 = .ok (.iconst 1, 1) := by decide +kernel
theorem dX7_ask_14 : decode cX7_ask 14 = .ok (.invokestatic 55, 3) := by decide +kernel
theorem dX7_ask_17 : decode cX7_ask 17 = .ok (.ifCond .ne 6, 3) := by decide +kernel
theorem dX7_ask_20 : decode cX7_ask 20 = .ok (.ldc 59, 2) := by decide +kernel
theorem dX7_ask_22 : decode cX7_ask 22 = .ok (.ireturn, 1) := by decide +kernel
theorem dX7_ask_23 : decode cX7_ask 23 = .ok (.aload_n 0, 1) := by decide +kernel
theorem dX7_ask_24 : decode cX7_ask 24 = .ok (.getfield 25, 3) := by decide +kernel
theorem dX7_ask_27 : decode cX7_ask 27 = .ok (.getfield 135, 3) := by decide +kernel
theorem dX7_ask_30 : decode cX7_ask 30 = .ok (.iload_n 1, 1) := by decide +kernel
theorem dX7_ask_31 : decode cX7_ask 31 = .ok (.aaload, 1) := by decide +kernel
theorem dX7_ask_32 : decode cX7_ask 32 = .ok (.astore_n 3, 1) := by decide +kernel
theorem dX7_ask_33 : decode cX7_ask 33 = .ok (.aload_n 0, 1) := by decide +kernel
theorem dX7_ask_34 : decode cX7_ask 34 = .ok (.getfield 45, 3) := by decide +kernel
theorem dX7_ask_37 : decode cX7_ask 37 = .ok (.iconst 0, 1) := by decide +kernel
theorem dX7_ask_38 : decode cX7_ask 38 = .ok (.putfield 269, 3) := by decide +kernel
theorem dX7_ask_41 : decode cX7_ask 41 = .ok (.iload_n 2, 1) := by decide +kernel
theorem dX7_ask_42 : decode cX7_ask 42 = .ok (.ifCond .ne 10, 3) := by decide +kernel
theorem dX7_ask_45 : decode cX7_ask 45 = .ok (.aload_n 3, 1) := by decide +kernel
theorem dX7_ask_46 : decode cX7_ask 46 = .ok (.invokestatic 270, 3) := by decide +kernel
theorem dX7_ask_49 : decode cX7_ask 49 = .ok (.goto 7, 3) := by decide +kernel
theorem dX7_ask_52 : decode cX7_ask 52 = .ok (.aload_n 3, 1) := by decide +kernel
theorem dX7_ask_53 : decode cX7_ask 53 = .ok (.invokestatic 274, 3) := by decide +kernel
theorem dX7_ask_56 : decode cX7_ask 56 = .ok (.aload_n 3, 1) := by decide +kernel
theorem dX7_ask_57 : decode cX7_ask 57 = .ok (.aload_n 0, 1) := by decide +kernel
theorem dX7_ask_58 : decode cX7_ask 58 = .ok (.getfield 45, 3) := by decide +kernel
theorem dX7_ask_61 : decode cX7_ask 61 = .ok (.iconst 0, 1) := by decide +kernel
theorem dX7_ask_62 : decode cX7_ask 62 = .ok (.invokestatic 277, 3) := by decide +kernel
theorem dX7_ask_65 : decode cX7_ask 65 = .ok (.ireturn, 1) := by decide +kernel
theorem dX7_trace_0 : decode cX7_trace 0 = .ok (.iload_n 1, 1) := by decide +kernel
theorem dX7_trace_1 : decode cX7_trace 1 = .ok (.ifCond .lt 26, 3) := by decide +kernel
theorem dX7_trace_4 : decode cX7_trace 4 = .ok (.iload_n 1, 1) := by decide +kernel
theorem dX7_trace_5 : decode cX7_trace 5 = .ok (.aload_n 0, 1) := by decide +kernel
theorem dX7_trace_6 : decode cX7_trace 6 = .ok (.getfield 45, 3) := by decide +kernel
theorem dX7_trace_9 : decode cX7_trace 9 = .ok (.getfield 269, 3) := by decide +kernel
theorem dX7_trace_12 : decode cX7_trace 12 = .ok (.if_icmp .ge 15, 3) := by decide +kernel
theorem dX7_trace_15 : decode cX7_trace 15 = .ok (.aload_n 0, 1) := by decide +kernel
theorem dX7_trace_16 : decode cX7_trace 16 = .ok (.getfield 45, 3) := by decide +kernel
theorem dX7_trace_19 : decode cX7_trace 19 = .ok (.getfield 281, 3) := by decide +kernel
theorem dX7_trace_22 : decode cX7_trace 22 = .ok (.iload_n 1, 1) := by decide +kernel
theorem dX7_trace_23 : decode cX7_trace 23 = .ok (.iaload, 1) := by decide +kernel
theorem dX7_trace_24 : decode cX7_trace 24 = .ok (.goto 5, 3) := by decide +kernel
theorem dX7_trace_27 : decode cX7_trace 27 = .ok (.ldc 224, 2) := by decide +kernel
theorem dX7_trace_29 : decode cX7_trace 29 = .ok (.ireturn, 1) := by decide +kernel
set_option maxRecDepth 20000 in
theorem ggX7_count_X7_rowsThere : GoodIn wsX7_count wsX7_rowsThere := goodIn_r _ [12, 13, 14, 15, 16, 17, 18, 19, 20, 21, 11, 22, 43, 44, 45, 46, 47, 48, 49, 50, 51, 67, 68, 69] (by decide +kernel) (by decide +kernel)
set_option maxRecDepth 20000 in
theorem gX7_count_X7_rowsThere : GoodIn wsX7_count (wsV RX7 284 RX7 yX7_rowsThere wsX7_rowsThere) := goodIn_app (goodIn_of _ (by decide +kernel)) ggX7_count_X7_rowsThere
set_option maxRecDepth 20000 in
theorem ggX7_count_X3_flourInAll : GoodIn wsX7_count wsX3_flourInAll := goodIn_r _ [27, 28, 29, 30, 52, 53, 54, 55, 56, 57, 70, 71, 72, 73, 74, 75, 76, 77, 78, 79, 80, 81] (by decide +kernel) (by decide +kernel)
set_option maxRecDepth 20000 in
theorem gX7_count_X3_flourInAll : GoodIn wsX7_count (wsV RX7 290 RX3 yX3_flourInAll wsX3_flourInAll) := goodIn_app (goodIn_of _ (by decide +kernel)) ggX7_count_X3_flourInAll
set_option maxRecDepth 20000 in
theorem ggX7_count_X3_furledSet : GoodIn wsX7_count wsX3_furledSet := goodIn_r _ [34, 28, 29, 35, 21, 11, 22, 52, 53, 54, 55, 56, 57, 70, 71, 72, 73, 74, 75, 76, 77, 78, 79, 80, 81] (by decide +kernel) (by decide +kernel)
set_option maxRecDepth 20000 in
theorem gX7_count_X3_furledSet : GoodIn wsX7_count (wsV RX7 293 RX3 yX3_furledSet wsX3_furledSet) := goodIn_app (goodIn_of _ (by decide +kernel)) ggX7_count_X3_furledSet
set_option maxRecDepth 20000 in
theorem ggX7_count_J6_bitCount_0f7a4 : GoodIn wsX7_count wsJ6_bitCount_0f7a4 := goodIn_r _ [39, 40, 41, 42] (by decide +kernel) (by decide +kernel)
set_option maxRecDepth 20000 in
theorem gX7_count_J6_bitCount_0f7a4 : GoodIn wsX7_count (va_wsS RX7 296 yJ6_bitCount_0f7a4 wsJ6_bitCount_0f7a4) := goodIn_app (goodIn_of _ (by decide +kernel)) ggX7_count_J6_bitCount_0f7a4
theorem dX7_count_0 : decode cX7_count 0 = .ok (.iload_n 1, 1) := by decide +kernel
theorem dX7_count_1 : decode cX7_count 1 = .ok (.tableswitch 90 0 5 #[39, 44, 52, 60, 68, 79], 39) := by decide +kernel
theorem dX7_count_40 : decode cX7_count 40 = .ok (.aload_n 0, 1) := by decide +kernel
theorem dX7_count_41 : decode cX7_count 41 = .ok (.invokevirtual 284, 3) := by decide +kernel
theorem dX7_count_44 : decode cX7_count 44 = .ok (.ireturn, 1) := by decide +kernel
theorem dX7_count_45 : decode cX7_count 45 = .ok (.aload_n 0, 1) := by decide +kernel
theorem dX7_count_46 : decode cX7_count 46 = .ok (.getfield 25, 3) := by decide +kernel
theorem dX7_count_49 : decode cX7_count 49 = .ok (.getfield 129, 3) := by decide +kernel
theorem dX7_count_52 : decode cX7_count 52 = .ok (.ireturn, 1) := by decide +kernel
theorem dX7_count_53 : decode cX7_count 53 = .ok (.aload_n 0, 1) := by decide +kernel
theorem dX7_count_54 : decode cX7_count 54 = .ok (.getfield 25, 3) := by decide +kernel
theorem dX7_count_57 : decode cX7_count 57 = .ok (.getfield 287, 3) := by decide +kernel
theorem dX7_count_60 : decode cX7_count 60 = .ok (.ireturn, 1) := by decide +kernel
theorem dX7_count_61 : decode cX7_count 61 = .ok (.aload_n 0, 1) := by decide +kernel
theorem dX7_count_62 : decode cX7_count 62 = .ok (.getfield 25, 3) := by decide +kernel
theorem dX7_count_65 : decode cX7_count 65 = .ok (.invokevirtual 290, 3) := by decide +kernel
theorem dX7_count_68 : decode cX7_count 68 = .ok (.ireturn, 1) := by decide +kernel
theorem dX7_count_69 : decode cX7_count 69 = .ok (.aload_n 0, 1) := by decide +kernel
theorem dX7_count_70 : decode cX7_count 70 = .ok (.getfield 25, 3) := by decide +kernel
theorem dX7_count_73 : decode cX7_count 73 = .ok (.invokevirtual 293, 3) := by decide +kernel
theorem dX7_count_76 : decode cX7_count 76 = .ok (.invokestatic 296, 3) := by decide +kernel
theorem dX7_count_79 : decode cX7_count 79 = .ok (.ireturn, 1) := by decide +kernel
theorem dX7_count_80 : decode cX7_count 80 = .ok (.aload_n 0, 1) := by decide +kernel
theorem dX7_count_81 : decode cX7_count 81 = .ok (.getfield 18, 3) := by decide +kernel
theorem dX7_count_84 : decode cX7_count 84 = .ok (.getfield 100, 3) := by decide +kernel
theorem dX7_count_87 : decode cX7_count 87 = .ok (.getfield 104, 3) := by decide +kernel
theorem dX7_count_90 : decode cX7_count 90 = .ok (.ireturn, 1) := by decide +kernel
theorem dX7_count_91 : decode cX7_count 91 = .ok (.ldc 59, 2) := by decide +kernel
theorem dX7_count_93 : decode cX7_count 93 = .ok (.ireturn, 1) := by decide +kernel
theorem dX7_status_0 : decode cX7_status 0 = .ok (.aload_n 0, 1) := by decide +kernel
theorem dX7_status_1 : decode cX7_status 1 = .ok (.getfield 301, 3) := by decide +kernel
theorem dX7_status_4 : decode cX7_status 4 = .ok (.ireturn, 1) := by decide +kernel
theorem dX7_found_0 : decode cX7_found 0 = .ok (.aload_n 0, 1) := by decide +kernel
theorem dX7_found_1 : decode cX7_found 1 = .ok (.iload_n 1, 1) := by decide +kernel
theorem dX7_found_2 : decode cX7_found 2 = .ok (.putfield 301, 3) := by decide +kernel
theorem dX7_found_5 : decode cX7_found 5 = .ok (.ldc_w 304, 3) := by decide +kernel
theorem dX7_found_8 : decode cX7_found 8 = .ok (.iload_n 1, 1) := by decide +kernel
theorem dX7_found_9 : decode cX7_found 9 = .ok (.isub, 1) := by decide +kernel
theorem dX7_found_10 : decode cX7_found 10 = .ok (.ireturn, 1) := by decide +kernel
theorem dX7_unfound_0 : decode cX7_unfound 0 = .ok (.aload_n 0, 1) := by decide +kernel
theorem dX7_unfound_1 : decode cX7_unfound 1 = .ok (.iconst 0, 1) := by decide +kernel
theorem dX7_unfound_2 : decode cX7_unfound 2 = .ok (.putfield 301, 3) := by decide +kernel
theorem dX7_unfound_5 : decode cX7_unfound 5 = .ok (.iload_n 1, 1) := by decide +kernel
theorem dX7_unfound_6 : decode cX7_unfound 6 = .ok (.ireturn, 1) := by decide +kernel
theorem dX7_isWithin_0 : decode cX7_isWithin 0 = .ok (.iload_n 0, 1) := by decide +kernel
theorem dX7_isWithin_1 : decode cX7_isWithin 1 = .ok (.iload_n 1, 1) := by decide +kernel
theorem dX7_isWithin_2 : decode cX7_isWithin 2 = .ok (.if_icmp .lt 12, 3) := by decide +kernel
theorem dX7_isWithin_5 : decode cX7_isWithin 5 = .ok (.iload_n 0, 1) := by decide +kernel
theorem dX7_isWithin_6 : decode cX7_isWithin 6 = .ok (.iload_n 2, 1) := by decide +kernel
theorem dX7_isWithin_7 : decode cX7_isWithin 7 = .ok (.if_icmp .gt 7, 3) := by decide +kernel
theorem dX7_isWithin_10 : decode cX7_isWithin 10 = .ok (.iconst 1, 1) := by decide +kernel
theorem dX7_isWithin_11 : decode cX7_isWithin 11 = .ok (.goto 4, 3) := by decide +kernel
theorem dX7_isWithin_14 : decode cX7_isWithin 14 = .ok (.iconst 0, 1) := by decide +kernel
theorem dX7_isWithin_15 : decode cX7_isWithin 15 = .ok (.ireturn, 1) := by decide +kernel
set_option maxRecDepth 20000 in
theorem ggX7_isRow_X7_isWithin : GoodIn wsX7_isRow wsX7_isWithin := goodIn_r _ [4] (by decide +kernel) (by decide +kernel)
set_option maxRecDepth 20000 in
theorem gX7_isRow_X7_isWithin : GoodIn wsX7_isRow (va_wsS RX7 55 yX7_isWithin wsX7_isWithin) := goodIn_app (goodIn_of _ (by decide +kernel)) ggX7_isRow_X7_isWithin
theorem dX7_isRow_0 : decode cX7_isRow 0 = .ok (.iload_n 0, 1) := by decide +kernel
theorem dX7_isRow_1 : decode cX7_isRow 1 = .ok (.iconst 0, 1) := by decide +kernel
theorem dX7_isRow_2 : decode cX7_isRow 2 = .ok (.bipush 7, 2) := by decide +kernel
theorem dX7_isRow_4 : decode cX7_isRow 4 = .ok (.invokestatic 55, 3) := by decide +kernel
theorem dX7_isRow_7 : decode cX7_isRow 7 = .ok (.ireturn, 1) := by decide +kernel
set_option maxRecDepth 20000 in
theorem ggX7_isQuarter_X7_isWithin : GoodIn wsX7_isQuarter wsX7_isWithin := goodIn_r _ [4] (by decide +kernel) (by decide +kernel)
set_option maxRecDepth 20000 in
theorem gX7_isQuarter_X7_isWithin : GoodIn wsX7_isQuarter (va_wsS RX7 55 yX7_isWithin wsX7_isWithin) := goodIn_app (goodIn_of _ (by decide +kernel)) ggX7_isQuarter_X7_isWithin
theorem dX7_isQuarter_0 : decode cX7_isQuarter 0 = .ok (.iload_n 0, 1) := by decide +kernel
theorem dX7_isQuarter_1 : decode cX7_isQuarter 1 = .ok (.iconst 0, 1) := by decide +kernel
theorem dX7_isQuarter_2 : decode cX7_isQuarter 2 = .ok (.iconst 3, 1) := by decide +kernel
theorem dX7_isQuarter_3 : decode cX7_isQuarter 3 = .ok (.invokestatic 55, 3) := by decide +kernel
theorem dX7_isQuarter_6 : decode cX7_isQuarter 6 = .ok (.ireturn, 1) := by decide +kernel
set_option maxRecDepth 20000 in
theorem ggX7_isWind_X7_isQuarter : GoodIn wsX7_isWind wsX7_isQuarter := goodIn_r _ [4, 5, 6, 3, 7] (by decide +kernel) (by decide +kernel)
set_option maxRecDepth 20000 in
theorem gX7_isWind_X7_isQuarter : GoodIn wsX7_isWind (va_wsS RX7 149 yX7_isQuarter wsX7_isQuarter) := goodIn_app (goodIn_of _ (by decide +kernel)) ggX7_isWind_X7_isQuarter
set_option maxRecDepth 20000 in
theorem ggX7_isWind_X7_isWithin : GoodIn wsX7_isWind wsX7_isWithin := goodIn_r _ [7] (by decide +kernel) (by decide +kernel)
set_option maxRecDepth 20000 in
theorem gX7_isWind_X7_isWithin : GoodIn wsX7_isWind (va_wsS RX7 55 yX7_isWithin wsX7_isWithin) := goodIn_app (goodIn_of _ (by decide +kernel)) ggX7_isWind_X7_isWithin
theorem dX7_isWind_0 : decode cX7_isWind 0 = .ok (.iload_n 0, 1) := by decide +kernel
theorem dX7_isWind_1 : decode cX7_isWind 1 = .ok (.invokestatic 149, 3) := by decide +kernel
theorem dX7_isWind_4 : decode cX7_isWind 4 = .ok (.ifCond .eq 17, 3) := by decide +kernel
theorem dX7_isWind_7 : decode cX7_isWind 7 = .ok (.iload_n 1, 1) := by decide +kernel
theorem dX7_isWind_8 : decode cX7_isWind 8 = .ok (.iconst 0, 1) := by decide +kernel
theorem dX7_isWind_9 : decode cX7_isWind 9 = .ok (.bipush 100, 2) := by decide +kernel
theorem dX7_isWind_11 : decode cX7_isWind 11 = .ok (.invokestatic 55, 3) := by decide +kernel
theorem dX7_isWind_14 : decode cX7_isWind 14 = .ok (.ifCond .eq 7, 3) := by decide +kernel
theorem dX7_isWind_17 : decode cX7_isWind 17 = .ok (.iconst 1, 1) := by decide +kernel
theorem dX7_isWind_18 : decode cX7_isWind 18 = .ok (.goto 4, 3) := by decide +kernel
theorem dX7_isWind_21 : decode cX7_isWind 21 = .ok (.iconst 0, 1) := by decide +kernel
theorem dX7_isWind_22 : decode cX7_isWind 22 = .ok (.ireturn, 1) := by decide +kernel
theorem dX7_bit_0 : decode cX7_bit 0 = .ok (.iload_n 0, 1) := by decide +kernel
theorem dX7_bit_1 : decode cX7_bit 1 = .ok (.ifCond .eq 7, 3) := by decide +kernel
theorem dX7_bit_4 : decode cX7_bit 4 = .ok (.iconst 1, 1) := by decide +kernel
theorem dX7_bit_5 : decode cX7_bit 5 = .ok (.goto 4, 3) := by decide +kernel
theorem dX7_bit_8 : decode cX7_bit 8 = .ok (.iconst 0, 1) := by decide +kernel
theorem dX7_bit_9 : decode cX7_bit 9 = .ok (.ireturn, 1) := by decide +kernel
theorem dX7_quarterOf_0 : decode cX7_quarterOf 0 = .ok (.iload_n 0, 1) := by decide +kernel
theorem dX7_quarterOf_1 : decode cX7_quarterOf 1 = .ok (.ifCond .ge 7, 3) := by decide +kernel
theorem dX7_quarterOf_4 : decode cX7_quarterOf 4 = .ok (.iconst (-1), 1) := by decide +kernel
theorem dX7_quarterOf_5 : decode cX7_quarterOf 5 = .ok (.goto 8, 3) := by decide +kernel
theorem dX7_quarterOf_8 : decode cX7_quarterOf 8 = .ok (.iload_n 0, 1) := by decide +kernel
theorem dX7_quarterOf_9 : decode cX7_quarterOf 9 = .ok (.sipush 1000, 3) := by decide +kernel
theorem dX7_quarterOf_12 : decode cX7_quarterOf 12 = .ok (.idiv, 1) := by decide +kernel
theorem dX7_quarterOf_13 : decode cX7_quarterOf 13 = .ok (.ireturn, 1) := by decide +kernel
theorem dX7_strengthOf_0 : decode cX7_strengthOf 0 = .ok (.iload_n 0, 1) := by decide +kernel
theorem dX7_strengthOf_1 : decode cX7_strengthOf 1 = .ok (.sipush 1000, 3) := by decide +kernel
theorem dX7_strengthOf_4 : decode cX7_strengthOf 4 = .ok (.irem, 1) := by decide +kernel
theorem dX7_strengthOf_5 : decode cX7_strengthOf 5 = .ok (.ireturn, 1) := by decide +kernel
set_option maxRecDepth 20000 in
theorem ggX7_rowsThere_X4_isMissing : GoodIn wsX7_rowsThere wsX4_isMissing := goodIn_r _ [6, 7, 21, 22, 23] (by decide +kernel) (by decide +kernel)
set_option maxRecDepth 20000 in
theorem gX7_rowsThere_X4_isMissing : GoodIn wsX7_rowsThere (wsV RX7 71 RX4 yX4_isMissing wsX4_isMissing) := goodIn_app (goodIn_of _ (by decide +kernel)) ggX7_rowsThere_X4_isMissing
set_option maxRecDepth 20000 in
theorem ggX7_rowsThere_X7_bit : GoodIn wsX7_rowsThere wsX7_bit := goodIn_r _ [11] (by decide +kernel) (by decide +kernel)
set_option maxRecDepth 20000 in
theorem gX7_rowsThere_X7_bit : GoodIn wsX7_rowsThere (va_wsS RX7 145 yX7_bit wsX7_bit) := goodIn_app (goodIn_of _ (by decide +kernel)) ggX7_rowsThere_X7_bit
theorem dX7_rowsThere_0 : decode cX7_rowsThere 0 = .ok (.iconst 0, 1) := by decide +kernel
theorem dX7_rowsThere_1 : decode cX7_rowsThere 1 = .ok (.istore_n 1, 1) := by decide +kernel
theorem dX7_rowsThere_2 : decode cX7_rowsThere 2 = .ok (.iconst 0, 1) := by decide +kernel
theorem dX7_rowsThere_3 : decode cX7_rowsThere 3 = .ok (.istore_n 2, 1) := by decide +kernel
theorem dX7_rowsThere_4 : decode cX7_rowsThere 4 = .ok (.iload_n 2, 1) := by decide +kernel
theorem dX7_rowsThere_5 : decode cX7_rowsThere 5 = .ok (.bipush 8, 2) := by decide +kernel
theorem dX7_rowsThere_7 : decode cX7_rowsThere 7 = .ok (.if_icmp .ge 32, 3) := by decide +kernel
theorem dX7_rowsThere_10 : decode cX7_rowsThere 10 = .ok (.iload_n 1, 1) := by decide +kernel
theorem dX7_rowsThere_11 : decode cX7_rowsThere 11 = .ok (.aload_n 0, 1) := by decide +kernel
theorem dX7_rowsThere_12 : decode cX7_rowsThere 12 = .ok (.getfield 11, 3) := by decide +kernel
theorem dX7_rowsThere_15 : decode cX7_rowsThere 15 = .ok (.iload_n 2, 1) := by decide +kernel
theorem dX7_rowsThere_16 : decode cX7_rowsThere 16 = .ok (.aaload, 1) := by decide +kernel
theorem dX7_rowsThere_17 : decode cX7_rowsThere 17 = .ok (.invokevirtual 71, 3) := by decide +kernel
theorem dX7_rowsThere_20 : decode cX7_rowsThere 20 = .ok (.ifCond .ne 7, 3) := by decide +kernel
theorem dX7_rowsThere_23 : decode cX7_rowsThere 23 = .ok (.iconst 1, 1) := by decide +kernel
theorem dX7_rowsThere_24 : decode cX7_rowsThere 24 = .ok (.goto 4, 3) := by decide +kernel
theorem dX7_rowsThere_27 : decode cX7_rowsThere 27 = .ok (.iconst 0, 1) := by decide +kernel
theorem dX7_rowsThere_28 : decode cX7_rowsThere 28 = .ok (.invokestatic 145, 3) := by decide +kernel
theorem dX7_rowsThere_31 : decode cX7_rowsThere 31 = .ok (.iadd, 1) := by decide +kernel
theorem dX7_rowsThere_32 : decode cX7_rowsThere 32 = .ok (.istore_n 1, 1) := by decide +kernel
theorem dX7_rowsThere_33 : decode cX7_rowsThere 33 = .ok (.iinc 2 1, 3) := by decide +kernel
theorem dX7_rowsThere_36 : decode cX7_rowsThere 36 = .ok (.goto (-32), 3) := by decide +kernel
theorem dX7_rowsThere_39 : decode cX7_rowsThere 39 = .ok (.iload_n 1, 1) := by decide +kernel
theorem dX7_rowsThere_40 : decode cX7_rowsThere 40 = .ok (.ireturn, 1) := by decide +kernel
set_option maxRecDepth 20000 in
theorem ggX7_windOf_X1_survey : GoodIn wsX7_windOf wsX1_survey := goodIn_r _ [7, 8, 9, 10, 11, 12, 13, 14, 15, 16, 17, 18, 19, 20, 21, 22, 23, 24, 25, 26, 27, 28, 29, 30, 31, 32, 33, 34, 35, 36, 37, 38, 39, 40, 41, 42, 43, 44, 45, 46, 47, 48, 49, 50, 51, 52, 53, 54, 55, 56, 57, 58, 59, 60, 61, 62, 6, 63, 64, 65, 66, 67, 68, 69, 70, 86, 87, 88, 89, 90, 91, 92, 93, 94, 95, 96, 97, 98, 99, 100, 101, 102, 103, 104, 105, 106, 107, 108, 109] (by decide +kernel) (by decide +kernel)
set_option maxRecDepth 20000 in
theorem gX7_windOf_X1_survey : GoodIn wsX7_windOf (wsV RX7 234 RX1 yX1_survey wsX1_survey) := goodIn_app (goodIn_of _ (by decide +kernel)) ggX7_windOf_X1_survey
set_option maxRecDepth 20000 in
theorem ggX7_windOf_X1_blow : GoodIn wsX7_windOf wsX1_blow := goodIn_r _ [74, 75, 8, 76, 86, 87, 88, 89, 90, 91, 92, 93, 94, 95, 96, 97] (by decide +kernel) (by decide +kernel)
set_option maxRecDepth 20000 in
theorem gX7_windOf_X1_blow : GoodIn wsX7_windOf (wsV RX7 257 RX1 yX1_blow wsX1_blow) := goodIn_app (goodIn_of _ (by decide +kernel)) ggX7_windOf_X1_blow
theorem dX7_windOf_0 : decode cX7_windOf 0 = .ok (.aload_n 0, 1) := by decide +kernel
theorem dX7_windOf_1 : decode cX7_windOf 1 = .ok (.getfield 38, 3) := by decide +kernel
theorem dX7_windOf_4 : decode cX7_windOf 4 = .ok (.iload_n 1, 1) := by decide +kernel
theorem dX7_windOf_5 : decode cX7_windOf 5 = .ok (.aaload, 1) := by decide +kernel
theorem dX7_windOf_6 : decode cX7_windOf 6 = .ok (.astore_n 3, 1) := by decide +kernel
theorem dX7_windOf_7 : decode cX7_windOf 7 = .ok (.aload_n 3, 1) := by decide +kernel
theorem dX7_windOf_8 : decode cX7_windOf 8 = .ok (.aload_n 0, 1) := by decide +kernel
theorem dX7_windOf_9 : decode cX7_windOf 9 = .ok (.getfield 25, 3) := by decide +kernel
theorem dX7_windOf_12 : decode cX7_windOf 12 = .ok (.iload_n 1, 1) := by decide +kernel
theorem dX7_windOf_13 : decode cX7_windOf 13 = .ok (.iconst (-1), 1) := by decide +kernel
theorem dX7_windOf_14 : decode cX7_windOf 14 = .ok (.invokevirtual 234, 3) := by decide +kernel
theorem dX7_windOf_17 : decode cX7_windOf 17 = .ok (.aload_n 3, 1) := by decide +kernel
theorem dX7_windOf_18 : decode cX7_windOf 18 = .ok (.iload_n 2, 1) := by decide +kernel
theorem dX7_windOf_19 : decode cX7_windOf 19 = .ok (.invokevirtual 257, 3) := by decide +kernel
theorem dX7_windOf_22 : decode cX7_windOf 22 = .ok (.aload_n 3, 1) := by decide +kernel
theorem dX7_windOf_23 : decode cX7_windOf 23 = .ok (.areturn, 1) := by decide +kernel
set_option maxRecDepth 20000 in
theorem ggX7_pass_X7_windOf : GoodIn wsX7_pass wsX7_windOf := goodIn_r _ [12, 13, 1, 14, 15, 16, 17, 18, 19, 20, 21, 22, 23, 24, 25, 26, 27, 28, 29, 30, 31, 32, 33, 34, 35, 36, 37, 38, 39, 40, 41, 42, 43, 44, 45, 46, 47, 48, 49, 50, 51, 52, 53, 54, 55, 56, 57, 58, 59, 60, 61, 62, 63, 64, 65, 66, 67, 68, 11, 69, 70, 71, 72, 73, 74, 75, 76, 77, 78, 79, 80, 81, 82, 83, 84, 85, 86, 112, 113, 114, 115, 116, 117, 118, 119, 120, 139, 140, 141, 142, 143, 144, 121, 122, 123, 124, 125, 126, 127, 128, 129, 130, 131, 132, 133, 134, 135, 136, 137, 138] (by decide +kernel) (by decide +kernel)
set_option maxRecDepth 20000 in
theorem gX7_pass_X7_windOf : GoodIn wsX7_pass (wsV RX7 204 RX7 yX7_windOf wsX7_windOf) := goodIn_app (goodIn_of _ (by decide +kernel)) ggX7_pass_X7_windOf
set_option maxRecDepth 20000 in
theorem ggX7_pass_X1_grindsBy : GoodIn wsX7_pass wsX1_grindsBy := goodIn_r _ [90, 19, 21, 91, 23, 24, 25, 26, 92, 93, 94, 17, 95, 27, 30, 96, 97, 98, 99, 100, 85, 31, 28, 101, 102, 103, 104, 105, 106, 107, 139, 140, 141, 142, 143, 144, 121, 122, 123, 124, 125, 126, 127, 128, 129, 130, 131, 132, 133, 134, 135, 136, 137, 138] (by decide +kernel) (by decide +kernel)
set_option maxRecDepth 20000 in
theorem gX7_pass_X1_grindsBy : GoodIn wsX7_pass (wsV RX7 231 RX1 yX1_grindsBy wsX1_grindsBy) := goodIn_app (goodIn_of _ (by decide +kernel)) ggX7_pass_X1_grindsBy
set_option maxRecDepth 20000 in
theorem ggX7_pass_X1_wearOf : GoodIn wsX7_pass wsX1_wearOf := goodIn_r _ [111, 28, 97, 98, 99, 17, 100, 85, 31, 101, 102, 103, 104, 105, 106, 107, 139, 140, 141, 142, 143, 144] (by decide +kernel) (by decide +kernel)
set_option maxRecDepth 20000 in
theorem gX7_pass_X1_wearOf : GoodIn wsX7_pass (wsV RX7 305 RX1 yX1_wearOf wsX1_wearOf) := goodIn_app (goodIn_of _ (by decide +kernel)) ggX7_pass_X1_wearOf
theorem dX7_pass_0 : decode cX7_pass 0 = .ok (.aload_n 0, 1) := by decide +kernel
theorem dX7_pass_1 : decode cX7_pass 1 = .ok (.iload_n 1, 1) := by decide +kernel
theorem dX7_pass_2 : decode cX7_pass 2 = .ok (.iload_n 2, 1) := by decide +kernel
theorem dX7_pass_3 : decode cX7_pass 3 = .ok (.invokevirtual 204, 3) := by decide +kernel
theorem dX7_pass_6 : decode cX7_pass 6 = .ok (.astore_n 3, 1) := by decide +kernel
theorem dX7_pass_7 : decode cX7_pass 7 = .ok (.iconst 0, 1) := by decide +kernel
theorem dX7_pass_8 : decode cX7_pass 8 = .ok (.istore 4, 2) := by decide +kernel
theorem dX7_pass_10 : decode cX7_pass 10 = .ok (.iconst 0, 1) := by decide +kernel
theorem dX7_pass_11 : decode cX7_pass 11 = .ok (.istore 5, 2) := by decide +kernel
theorem dX7_pass_13 : decode cX7_pass 13 = .ok (.iload 5, 2) := by decide +kernel
theorem dX7_pass_15 : decode cX7_pass 15 = .ok (.aload_n 0, 1) := by decide +kernel
theorem dX7_pass_16 : decode cX7_pass 16 = .ok (.getfield 25, 3) := by decide +kernel
theorem dX7_pass_19 : decode cX7_pass 19 = .ok (.getfield 129, 3) := by decide +kernel
theorem dX7_pass_22 : decode cX7_pass 22 = .ok (.if_icmp .ge 77, 3) := by decide +kernel
theorem dX7_pass_25 : decode cX7_pass 25 = .ok (.aload_n 0, 1) := by decide +kernel
theorem dX7_pass_26 : decode cX7_pass 26 = .ok (.getfield 25, 3) := by decide +kernel
theorem dX7_pass_29 : decode cX7_pass 29 = .ok (.getfield 135, 3) := by decide +kernel
theorem dX7_pass_32 : decode cX7_pass 32 = .ok (.iload 5, 2) := by decide +kernel
theorem dX7_pass_34 : decode cX7_pass 34 = .ok (.aaload, 1) := by decide +kernel
theorem dX7_pass_35 : decode cX7_pass 35 = .ok (.astore 6, 2) := by decide +kernel
theorem dX7_pass_37 : decode cX7_pass 37 = .ok (.aload_n 3, 1) := by decide +kernel
theorem dX7_pass_38 : decode cX7_pass 38 = .ok (.iload 5, 2) := by decide +kernel
theorem dX7_pass_40 : decode cX7_pass 40 = .ok (.iconst 0, 1) := by decide +kernel
theorem dX7_pass_41 : decode cX7_pass 41 = .ok (.invokevirtual 231, 3) := by decide +kernel
theorem dX7_pass_44 : decode cX7_pass 44 = .ok (.istore 7, 2) := by decide +kernel
theorem dX7_pass_46 : decode cX7_pass 46 = .ok (.aload 6, 2) := by decide +kernel
theorem dX7_pass_48 : decode cX7_pass 48 = .ok (.dup, 1) := by decide +kernel
theorem dX7_pass_49 : decode cX7_pass 49 = .ok (.getfield 162, 3) := by decide +kernel
theorem dX7_pass_52 : decode cX7_pass 52 = .ok (.iload 7, 2) := by decide +kernel
theorem dX7_pass_54 : decode cX7_pass 54 = .ok (.isub, 1) := by decide +kernel
theorem dX7_pass_55 : decode cX7_pass 55 = .ok (.putfield 162, 3) := by decide +kernel
theorem dX7_pass_58 : decode cX7_pass 58 = .ok (.aload 6, 2) := by decide +kernel
theorem dX7_pass_60 : decode cX7_pass 60 = .ok (.dup, 1) := by decide +kernel
theorem dX7_pass_61 : decode cX7_pass 61 = .ok (.getfield 192, 3) := by decide +kernel
theorem dX7_pass_64 : decode cX7_pass 64 = .ok (.iload 7, 2) := by decide +kernel
theorem dX7_pass_66 : decode cX7_pass 66 = .ok (.iadd, 1) := by decide +kernel
theorem dX7_pass_67 : decode cX7_pass 67 = .ok (.putfield 192, 3) := by decide +kernel
theorem dX7_pass_70 : decode cX7_pass 70 = .ok (.aload 6, 2) := by decide +kernel
theorem dX7_pass_72 : decode cX7_pass 72 = .ok (.dup, 1) := by decide +kernel
theorem dX7_pass_73 : decode cX7_pass 73 = .ok (.getfield 195, 3) := by decide +kernel
theorem dX7_pass_76 : decode cX7_pass 76 = .ok (.aload_n 3, 1) := by decide +kernel
theorem dX7_pass_77 : decode cX7_pass 77 = .ok (.iload 5, 2) := by decide +kernel
theorem dX7_pass_79 : decode cX7_pass 79 = .ok (.invokevirtual 305, 3) := by decide +kernel
theorem dX7_pass_82 : decode cX7_pass 82 = .ok (.iadd, 1) := by decide +kernel
theorem dX7_pass_83 : decode cX7_pass 83 = .ok (.putfield 195, 3) := by decide +kernel
theorem dX7_pass_86 : decode cX7_pass 86 = .ok (.iload 4, 2) := by decide +kernel
theorem dX7_pass_88 : decode cX7_pass 88 = .ok (.iload 7, 2) := by decide +kernel
theorem dX7_pass_90 : decode cX7_pass 90 = .ok (.iadd, 1) := by decide +kernel
theorem dX7_pass_91 : decode cX7_pass 91 = .ok (.istore 4, 2) := by decide +kernel
theorem dX7_pass_93 : decode cX7_pass 93 = .ok (.iinc 5 1, 3) := by decide +kernel
theorem dX7_pass_96 : decode cX7_pass 96 = .ok (.goto (-83), 3) := by decide +kernel
theorem dX7_pass_99 : decode cX7_pass 99 = .ok (.aload_n 0, 1) := by decide +kernel
theorem dX7_pass_100 : decode cX7_pass 100 = .ok (.getfield 25, 3) := by decide +kernel
theorem dX7_pass_103 : decode cX7_pass 103 = .ok (.dup, 1) := by decide +kernel
theorem dX7_pass_104 : decode cX7_pass 104 = .ok (.getfield 287, 3) := by decide +kernel
theorem dX7_pass_107 : decode cX7_pass 107 = .ok (.iconst 1, 1) := by decide +kernel
theorem dX7_pass_108 : decode cX7_pass 108 = .ok (.iadd, 1) := by decide +kernel
theorem dX7_pass_109 : decode cX7_pass 109 = .ok (.putfield 287, 3) := by decide +kernel
theorem dX7_pass_112 : decode cX7_pass 112 = .ok (.iload 4, 2) := by decide +kernel
theorem dX7_pass_114 : decode cX7_pass 114 = .ok (.ireturn, 1) := by decide +kernel
set_option maxRecDepth 20000 in
theorem ggX7_nightSet_X3_furledSet : GoodIn wsX7_nightSet wsX3_furledSet := goodIn_r _ [9, 10, 11, 12, 13, 14, 15, 59, 60, 61, 62, 63, 64, 68, 69, 70, 71, 72, 73, 74, 75, 76, 77, 78, 79] (by decide +kernel) (by decide +kernel)
set_option maxRecDepth 20000 in
theorem gX7_nightSet_X3_furledSet : GoodIn wsX7_nightSet (wsV RX7 293 RX3 yX3_furledSet wsX3_furledSet) := goodIn_app (goodIn_of _ (by decide +kernel)) ggX7_nightSet_X3_furledSet
set_option maxRecDepth 20000 in
theorem ggX7_nightSet_X1_wouldGrind : GoodIn wsX7_nightSet wsX1_wouldGrind := goodIn_r _ [20, 21, 22, 23, 24, 25, 26, 27, 28, 29, 30, 31, 19, 32, 33, 34, 35, 36, 37, 38, 39, 40, 41, 42, 43, 44, 45, 46, 47, 48, 49, 80, 81, 82, 83, 84, 85, 59, 60, 61, 62, 63, 64, 68, 69, 70, 71, 72, 73, 74, 75, 76, 77, 78, 79] (by decide +kernel) (by decide +kernel)
set_option maxRecDepth 20000 in
theorem gX7_nightSet_X1_wouldGrind : GoodIn wsX7_nightSet (wsV RX7 308 RX1 yX1_wouldGrind wsX1_wouldGrind) := goodIn_app (goodIn_of _ (by decide +kernel)) ggX7_nightSet_X1_wouldGrind
theorem dX7_nightSet_0 : decode cX7_nightSet 0 = .ok (.aload_n 0, 1) := by decide +kernel
theorem dX7_nightSet_1 : decode cX7_nightSet 1 = .ok (.getfield 25, 3) := by decide +kernel
theorem dX7_nightSet_4 : decode cX7_nightSet 4 = .ok (.invokevirtual 293, 3) := by decide +kernel
theorem dX7_nightSet_7 : decode cX7_nightSet 7 = .ok (.istore 5, 2) := by decide +kernel
theorem dX7_nightSet_9 : decode cX7_nightSet 9 = .ok (.iconst 0, 1) := by decide +kernel
theorem dX7_nightSet_10 : decode cX7_nightSet 10 = .ok (.istore 6, 2) := by decide +kernel
theorem dX7_nightSet_12 : decode cX7_nightSet 12 = .ok (.iconst 0, 1) := by decide +kernel
theorem dX7_nightSet_13 : decode cX7_nightSet 13 = .ok (.istore 7, 2) := by decide +kernel
theorem dX7_nightSet_15 : decode cX7_nightSet 15 = .ok (.iload 7, 2) := by decide +kernel
theorem dX7_nightSet_17 : decode cX7_nightSet 17 = .ok (.iconst 1, 1) := by decide +kernel
theorem dX7_nightSet_18 : decode cX7_nightSet 18 = .ok (.aload_n 0, 1) := by decide +kernel
theorem dX7_nightSet_19 : decode cX7_nightSet 19 = .ok (.getfield 25, 3) := by decide +kernel
theorem dX7_nightSet_22 : decode cX7_nightSet 22 = .ok (.getfield 129, 3) := by decide +kernel
theorem dX7_nightSet_25 : decode cX7_nightSet 25 = .ok (.ishl, 1) := by decide +kernel
theorem dX7_nightSet_26 : decode cX7_nightSet 26 = .ok (.if_icmp .ge 44, 3) := by decide +kernel
theorem dX7_nightSet_29 : decode cX7_nightSet 29 = .ok (.iload 7, 2) := by decide +kernel
theorem dX7_nightSet_31 : decode cX7_nightSet 31 = .ok (.iload 5, 2) := by decide +kernel
theorem dX7_nightSet_33 : decode cX7_nightSet 33 = .ok (.iand, 1) := by decide +kernel
theorem dX7_nightSet_34 : decode cX7_nightSet 34 = .ok (.ifCond .ne 30, 3) := by decide +kernel
theorem dX7_nightSet_37 : decode cX7_nightSet 37 = .ok (.aload_n 1, 1) := by decide +kernel
theorem dX7_nightSet_38 : decode cX7_nightSet 38 = .ok (.aload_n 3, 1) := by decide +kernel
theorem dX7_nightSet_39 : decode cX7_nightSet 39 = .ok (.getfield 87, 3) := by decide +kernel
theorem dX7_nightSet_42 : decode cX7_nightSet 42 = .ok (.iload_n 2, 1) := by decide +kernel
theorem dX7_nightSet_43 : decode cX7_nightSet 43 = .ok (.iload 7, 2) := by decide +kernel
theorem dX7_nightSet_45 : decode cX7_nightSet 45 = .ok (.invokevirtual 308, 3) := by decide +kernel
theorem dX7_nightSet_48 : decode cX7_nightSet 48 = .ok (.ifCond .eq 16, 3) := by decide +kernel
theorem dX7_nightSet_51 : decode cX7_nightSet 51 = .ok (.iload 6, 2) := by decide +kernel
theorem dX7_nightSet_53 : decode cX7_nightSet 53 = .ok (.iload 4, 2) := by decide +kernel
theorem dX7_nightSet_55 : decode cX7_nightSet 55 = .ok (.if_icmp .ne 6, 3) := by decide +kernel
theorem dX7_nightSet_58 : decode cX7_nightSet 58 = .ok (.iload 7, 2) := by decide +kernel
theorem dX7_nightSet_60 : decode cX7_nightSet 60 = .ok (.ireturn, 1) := by decide +kernel
theorem dX7_nightSet_61 : decode cX7_nightSet 61 = .ok (.iinc 6 1, 3) := by decide +kernel
theorem dX7_nightSet_64 : decode cX7_nightSet 64 = .ok (.iinc 7 1, 3) := by decide +kernel
theorem dX7_nightSet_67 : decode cX7_nightSet 67 = .ok (.goto (-52), 3) := by decide +kernel
theorem dX7_nightSet_70 : decode cX7_nightSet 70 = .ok (.iload 4, 2) := by decide +kernel
theorem dX7_nightSet_72 : decode cX7_nightSet 72 = .ok (.iconst (-1), 1) := by decide +kernel
theorem dX7_nightSet_73 : decode cX7_nightSet 73 = .ok (.if_icmp .ne 8, 3) := by decide +kernel
theorem dX7_nightSet_76 : decode cX7_nightSet 76 = .ok (.iload 6, 2) := by decide +kernel
theorem dX7_nightSet_78 : decode cX7_nightSet 78 = .ok (.goto 5, 3) := by decide +kernel
theorem dX7_nightSet_81 : decode cX7_nightSet 81 = .ok (.ldc 224, 2) := by decide +kernel
theorem dX7_nightSet_83 : decode cX7_nightSet 83 = .ok (.ireturn, 1) := by decide +kernel
theorem dX7_isKind_0 : decode cX7_isKind 0 = .ok (.iload_n 0, 1) := by decide +kernel
theorem dX7_isKind_1 : decode cX7_isKind 1 = .ok (.istore_n 2, 1) := by decide +kernel
theorem dX7_isKind_2 : decode cX7_isKind 2 = .ok (.iconst 0, 1) := by decide +kernel
theorem dX7_isKind_3 : decode cX7_isKind 3 = .ok (.istore_n 3, 1) := by decide +kernel
theorem dX7_isKind_4 : decode cX7_isKind 4 = .ok (.iload_n 3, 1) := by decide +kernel
theorem dX7_isKind_5 : decode cX7_isKind 5 = .ok (.getstatic 312, 3) := by decide +kernel
theorem dX7_isKind_8 : decode cX7_isKind 8 = .ok (.arraylength, 1) := by decide +kernel
theorem dX7_isKind_9 : decode cX7_isKind 9 = .ok (.if_icmp .ge 34, 3) := by decide +kernel
theorem dX7_isKind_12 : decode cX7_isKind 12 = .ok (.iload_n 2, 1) := by decide +kernel
theorem dX7_isKind_13 : decode cX7_isKind 13 = .ok (.iload_n 1, 1) := by decide +kernel
theorem dX7_isKind_14 : decode cX7_isKind 14 = .ok (.if_icmp .eq 29, 3) := by decide +kernel
theorem dX7_isKind_17 : decode cX7_isKind 17 = .ok (.iload_n 2, 1) := by decide +kernel
theorem dX7_isKind_18 : decode cX7_isKind 18 = .ok (.ifCond .le 11, 3) := by decide +kernel
theorem dX7_isKind_21 : decode cX7_isKind 21 = .ok (.iload_n 2, 1) := by decide +kernel
theorem dX7_isKind_22 : decode cX7_isKind 22 = .ok (.getstatic 312, 3) := by decide +kernel
theorem dX7_isKind_25 : decode cX7_isKind 25 = .ok (.arraylength, 1) := by decide +kernel
theorem dX7_isKind_26 : decode cX7_isKind 26 = .ok (.if_icmp .lt 5, 3) := by decide +kernel
theorem dX7_isKind_29 : decode cX7_isKind 29 = .ok (.iconst 0, 1) := by decide +kernel
theorem dX7_isKind_30 : decode cX7_isKind 30 = .ok (.ireturn, 1) := by decide +kernel
theorem dX7_isKind_31 : decode cX7_isKind 31 = .ok (.getstatic 312, 3) := by decide +kernel
theorem dX7_isKind_34 : decode cX7_isKind 34 = .ok (.iload_n 2, 1) := by decide +kernel
theorem dX7_isKind_35 : decode cX7_isKind 35 = .ok (.iaload, 1) := by decide +kernel
theorem dX7_isKind_36 : decode cX7_isKind 36 = .ok (.istore_n 2, 1) := by decide +kernel
theorem dX7_isKind_37 : decode cX7_isKind 37 = .ok (.iinc 3 1, 3) := by decide +kernel
theorem dX7_isKind_40 : decode cX7_isKind 40 = .ok (.goto (-36), 3) := by decide +kernel
theorem dX7_isKind_43 : decode cX7_isKind 43 = .ok (.iload_n 2, 1) := by decide +kernel
theorem dX7_isKind_44 : decode cX7_isKind 44 = .ok (.iload_n 1, 1) := by decide +kernel
theorem dX7_isKind_45 : decode cX7_isKind 45 = .ok (.if_icmp .ne 7, 3) := by decide +kernel
theorem dX7_isKind_48 : decode cX7_isKind 48 = .ok (.iconst 1, 1) := by decide +kernel
theorem dX7_isKind_49 : decode cX7_isKind 49 = .ok (.goto 4, 3) := by decide +kernel
theorem dX7_isKind_52 : decode cX7_isKind 52 = .ok (.iconst 0, 1) := by decide +kernel
theorem dX7_isKind_53 : decode cX7_isKind 53 = .ok (.ireturn, 1) := by decide +kernel
set_option maxRecDepth 20000 in
theorem ggX7_sizeBody_X7_isWithin : GoodIn wsX7_sizeBody wsX7_isWithin := goodIn_r _ [6] (by decide +kernel) (by decide +kernel)
set_option maxRecDepth 20000 in
theorem gX7_sizeBody_X7_isWithin : GoodIn wsX7_sizeBody (va_wsS RX7 55 yX7_isWithin wsX7_isWithin) := goodIn_app (goodIn_of _ (by decide +kernel)) ggX7_sizeBody_X7_isWithin
theorem dX7_sizeBody_0 : decode cX7_sizeBody 0 = .ok (.aload_n 0, 1) := by decide +kernel
theorem dX7_sizeBody_1 : decode cX7_sizeBody 1 = .ok (.getfield 152, 3) := by decide +kernel
theorem dX7_sizeBody_4 : decode cX7_sizeBody 4 = .ok (.iconst 0, 1) := by decide +kernel
theorem dX7_sizeBody_5 : decode cX7_sizeBody 5 = .ok (.iconst 5, 1) := by decide +kernel
theorem dX7_sizeBody_6 : decode cX7_sizeBody 6 = .ok (.invokestatic 55, 3) := by decide +kernel
theorem dX7_sizeBody_9 : decode cX7_sizeBody 9 = .ok (.ifCond .eq 14, 3) := by decide +kernel
theorem dX7_sizeBody_12 : decode cX7_sizeBody 12 = .ok (.getstatic 315, 3) := by decide +kernel
theorem dX7_sizeBody_15 : decode cX7_sizeBody 15 = .ok (.aload_n 0, 1) := by decide +kernel
theorem dX7_sizeBody_16 : decode cX7_sizeBody 16 = .ok (.getfield 152, 3) := by decide +kernel
theorem dX7_sizeBody_19 : decode cX7_sizeBody 19 = .ok (.iaload, 1) := by decide +kernel
theorem dX7_sizeBody_20 : decode cX7_sizeBody 20 = .ok (.goto 8, 3) := by decide +kernel
theorem dX7_sizeBody_23 : decode cX7_sizeBody 23 = .ok (.getstatic 315, 3) := by decide +kernel
theorem dX7_sizeBody_26 : decode cX7_sizeBody 26 = .ok (.iconst 0, 1) := by decide +kernel
theorem dX7_sizeBody_27 : decode cX7_sizeBody 27 = .ok (.iaload, 1) := by decide +kernel
theorem dX7_sizeBody_28 : decode cX7_sizeBody 28 = .ok (.ireturn, 1) := by decide +kernel
set_option maxRecDepth 20000 in
theorem ggX7_markBody_X7_isWithin : GoodIn wsX7_markBody wsX7_isWithin := goodIn_r _ [6] (by decide +kernel) (by decide +kernel)
set_option maxRecDepth 20000 in
theorem gX7_markBody_X7_isWithin : GoodIn wsX7_markBody (va_wsS RX7 55 yX7_isWithin wsX7_isWithin) := goodIn_app (goodIn_of _ (by decide +kernel)) ggX7_markBody_X7_isWithin
theorem dX7_markBody_0 : decode cX7_markBody 0 = .ok (.aload_n 0, 1) := by decide +kernel
theorem dX7_markBody_1 : decode cX7_markBody 1 = .ok (.getfield 152, 3) := by decide +kernel
theorem dX7_markBody_4 : decode cX7_markBody 4 = .ok (.iconst 0, 1) := by decide +kernel
theorem dX7_markBody_5 : decode cX7_markBody 5 = .ok (.iconst 5, 1) := by decide +kernel
theorem dX7_markBody_6 : decode cX7_markBody 6 = .ok (.invokestatic 55, 3) := by decide +kernel
theorem dX7_markBody_9 : decode cX7_markBody 9 = .ok (.ifCond .eq 14, 3) := by decide +kernel
theorem dX7_markBody_12 : decode cX7_markBody 12 = .ok (.getstatic 318, 3) := by decide +kernel
theorem dX7_markBody_15 : decode cX7_markBody 15 = .ok (.aload_n 0, 1) := by decide +kernel
theorem dX7_markBody_16 : decode cX7_markBody 16 = .ok (.getfield 152, 3) := by decide +kernel
theorem dX7_markBody_19 : decode cX7_markBody 19 = .ok (.iaload, 1) := by decide +kernel
theorem dX7_markBody_20 : decode cX7_markBody 20 = .ok (.goto 8, 3) := by decide +kernel
theorem dX7_markBody_23 : decode cX7_markBody 23 = .ok (.getstatic 318, 3) := by decide +kernel
theorem dX7_markBody_26 : decode cX7_markBody 26 = .ok (.iconst 0, 1) := by decide +kernel
theorem dX7_markBody_27 : decode cX7_markBody 27 = .ok (.iaload, 1) := by decide +kernel
theorem dX7_markBody_28 : decode cX7_markBody 28 = .ok (.ireturn, 1) := by decide +kernel
set_option maxRecDepth 20000 in
theorem ggX7_gives_X6_leave : GoodIn wsX7_gives wsX6_leave := goodIn_r _ [9, 10, 11, 39, 40] (by decide +kernel) (by decide +kernel)
set_option maxRecDepth 20000 in
theorem gX7_gives_X6_leave : GoodIn wsX7_gives (wsV RX7 321 RX6 yX6_leave wsX6_leave) := goodIn_app (goodIn_of _ (by decide +kernel)) ggX7_gives_X6_leave
set_option maxRecDepth 20000 in
theorem ggX7_gives_X7_gives : GoodIn wsX7_gives wsX7_gives := goodIn_r _ [0, 1, 2, 3, 4, 5, 6, 7, 8, 9, 10, 11, 12, 13, 14, 15, 16, 17, 18, 19, 20, 21, 22, 23, 24, 25, 26, 27, 28, 29, 30, 31, 32, 33, 34, 35, 36, 37, 38, 39, 40] (by decide +kernel) (by decide +kernel)
set_option maxRecDepth 20000 in
theorem gX7_gives_X7_gives : GoodIn wsX7_gives (va_wsS RX7 277 yX7_gives wsX7_gives) := goodIn_app (goodIn_of _ (by decide +kernel)) ggX7_gives_X7_gives
set_option maxRecDepth 20000 in
theorem ggX7_gives_X7_markBody : GoodIn wsX7_gives wsX7_markBody := goodIn_r _ [17, 18, 19, 20, 21, 14, 22, 27, 28, 29, 30, 31, 32, 33, 34, 35, 36, 37, 38] (by decide +kernel) (by decide +kernel)
set_option maxRecDepth 20000 in
theorem gX7_gives_X7_markBody : GoodIn wsX7_gives (va_wsS RX7 274 yX7_markBody wsX7_markBody) := goodIn_app (goodIn_of _ (by decide +kernel)) ggX7_gives_X7_markBody
set_option maxRecDepth 20000 in
theorem ggX7_gives_X7_sizeBody : GoodIn wsX7_gives wsX7_sizeBody := goodIn_r _ [25, 18, 26, 20, 21, 14, 22, 27, 28, 29, 30, 31, 32, 33, 34, 35, 36, 37, 38] (by decide +kernel) (by decide +kernel)
set_option maxRecDepth 20000 in
theorem gX7_gives_X7_sizeBody : GoodIn wsX7_gives (va_wsS RX7 270 yX7_sizeBody wsX7_sizeBody) := goodIn_app (goodIn_of _ (by decide +kernel)) ggX7_gives_X7_sizeBody
theorem dX7_gives_0 : decode cX7_gives 0 = .ok (.iload_n 3, 1) := by decide +kernel
theorem dX7_gives_1 : decode cX7_gives 1 = .ok (.bipush 16, 2) := by decide +kernel
theorem dX7_gives_3 : decode cX7_gives 3 = .ok (.if_icmp .le 5, 3) := by decide +kernel
theorem dX7_gives_6 : decode cX7_gives 6 = .ok (.iconst 0, 1) := by decide +kernel
theorem dX7_gives_7 : decode cX7_gives 7 = .ok (.ireturn, 1) := by decide +kernel
theorem dX7_gives_8 : decode cX7_gives 8 = .ok (.aload_n 2, 1) := by decide +kernel
theorem dX7_gives_9 : decode cX7_gives 9 = .ok (.iload_n 0, 1) := by decide +kernel
theorem dX7_gives_10 : decode cX7_gives 10 = .ok (.invokevirtual 321, 3) := by decide +kernel
theorem dX7_gives_13 : decode cX7_gives 13 = .ok (.iload_n 3, 1) := by decide +kernel
theorem dX7_gives_14 : decode cX7_gives 14 = .ok (.iconst 1, 1) := by decide +kernel
theorem dX7_gives_15 : decode cX7_gives 15 = .ok (.iadd, 1) := by decide +kernel
theorem dX7_gives_16 : decode cX7_gives 16 = .ok (.istore 4, 2) := by decide +kernel
theorem dX7_gives_18 : decode cX7_gives 18 = .ok (.iload_n 0, 1) := by decide +kernel
theorem dX7_gives_19 : decode cX7_gives 19 = .ok (.tableswitch 209 10 24 #[73, 78, 100, 112, 125, 209, 209, 209, 209, 209, 137, 142, 160, 175, 197], 73) := by decide +kernel
theorem dX7_gives_92 : decode cX7_gives 92 = .ok (.aload_n 1, 1) := by decide +kernel
theorem dX7_gives_93 : decode cX7_gives 93 = .ok (.getfield 192, 3) := by decide +kernel
theorem dX7_gives_96 : decode cX7_gives 96 = .ok (.ireturn, 1) := by decide +kernel
theorem dX7_gives_97 : decode cX7_gives 97 = .ok (.bipush 10, 2) := by decide +kernel
theorem dX7_gives_99 : decode cX7_gives 99 = .ok (.aload_n 1, 1) := by decide +kernel
theorem dX7_gives_100 : decode cX7_gives 100 = .ok (.aload_n 2, 1) := by decide +kernel
theorem dX7_gives_101 : decode cX7_gives 101 = .ok (.iload 4, 2) := by decide +kernel
theorem dX7_gives_103 : decode cX7_gives 103 = .ok (.invokestatic 277, 3) := by decide +kernel
theorem dX7_gives_106 : decode cX7_gives 106 = .ok (.aload_n 1, 1) := by decide +kernel
theorem dX7_gives_107 : decode cX7_gives 107 = .ok (.invokestatic 274, 3) := by decide +kernel
theorem dX7_gives_110 : decode cX7_gives 110 = .ok (.aload_n 1, 1) := by decide +kernel
theorem dX7_gives_111 : decode cX7_gives 111 = .ok (.aload_n 2, 1) := by decide +kernel
theorem dX7_gives_112 : decode cX7_gives 112 = .ok (.iload 4, 2) := by decide +kernel
theorem dX7_gives_114 : decode cX7_gives 114 = .ok (.invokestatic 277, 3) := by decide +kernel
theorem dX7_gives_117 : decode cX7_gives 117 = .ok (.iadd, 1) := by decide +kernel
theorem dX7_gives_118 : decode cX7_gives 118 = .ok (.ireturn, 1) := by decide +kernel
theorem dX7_gives_119 : decode cX7_gives 119 = .ok (.iconst 0, 1) := by decide +kernel
theorem dX7_gives_120 : decode cX7_gives 120 = .ok (.bipush 11, 2) := by decide +kernel
theorem dX7_gives_122 : decode cX7_gives 122 = .ok (.aload_n 1, 1) := by decide +kernel
theorem dX7_gives_123 : decode cX7_gives 123 = .ok (.aload_n 2, 1) := by decide +kernel
theorem dX7_gives_124 : decode cX7_gives 124 = .ok (.iload 4, 2) := by decide +kernel
theorem dX7_gives_126 : decode cX7_gives 126 = .ok (.invokestatic 277, 3) := by decide +kernel
theorem dX7_gives_129 : decode cX7_gives 129 = .ok (.isub, 1) := by decide +kernel
theorem dX7_gives_130 : decode cX7_gives 130 = .ok (.ireturn, 1) := by decide +kernel
theorem dX7_gives_131 : decode cX7_gives 131 = .ok (.bipush 10, 2) := by decide +kernel
theorem dX7_gives_133 : decode cX7_gives 133 = .ok (.aload_n 1, 1) := by decide +kernel
theorem dX7_gives_134 : decode cX7_gives 134 = .ok (.aload_n 2, 1) := by decide +kernel
theorem dX7_gives_135 : decode cX7_gives 135 = .ok (.iload 4, 2) := by decide +kernel
theorem dX7_gives_137 : decode cX7_gives 137 = .ok (.invokestatic 277, 3) := by decide +kernel
theorem dX7_gives_140 : decode cX7_gives 140 = .ok (.bipush 100, 2) := by decide +kernel
theorem dX7_gives_142 : decode cX7_gives 142 = .ok (.isub, 1) := by decide +kernel
theorem dX7_gives_143 : decode cX7_gives 143 = .ok (.ireturn, 1) := by decide +kernel
theorem dX7_gives_144 : decode cX7_gives 144 = .ok (.iconst 2, 1) := by decide +kernel
theorem dX7_gives_145 : decode cX7_gives 145 = .ok (.bipush 11, 2) := by decide +kernel
theorem dX7_gives_147 : decode cX7_gives 147 = .ok (.aload_n 1, 1) := by decide +kernel
theorem dX7_gives_148 : decode cX7_gives 148 = .ok (.aload_n 2, 1) := by decide +kernel
theorem dX7_gives_149 : decode cX7_gives 149 = .ok (.iload 4, 2) := by decide +kernel
theorem dX7_gives_151 : decode cX7_gives 151 = .ok (.invokestatic 277, 3) := by decide +kernel
theorem dX7_gives_154 : decode cX7_gives 154 = .ok (.imul, 1) := by decide +kernel
theorem dX7_gives_155 : decode cX7_gives 155 = .ok (.ireturn, 1) := by decide +kernel
theorem dX7_gives_156 : decode cX7_gives 156 = .ok (.aload_n 1, 1) := by decide +kernel
theorem dX7_gives_157 : decode cX7_gives 157 = .ok (.getfield 324, 3) := by decide +kernel
theorem dX7_gives_160 : decode cX7_gives 160 = .ok (.ireturn, 1) := by decide +kernel
theorem dX7_gives_161 : decode cX7_gives 161 = .ok (.bipush 20, 2) := by decide +kernel
theorem dX7_gives_163 : decode cX7_gives 163 = .ok (.aload_n 1, 1) := by decide +kernel
theorem dX7_gives_164 : decode cX7_gives 164 = .ok (.aload_n 2, 1) := by decide +kernel
theorem dX7_gives_165 : decode cX7_gives 165 = .ok (.iload 4, 2) := by decide +kernel
theorem dX7_gives_167 : decode cX7_gives 167 = .ok (.invokestatic 277, 3) := by decide +kernel
theorem dX7_gives_170 : decode cX7_gives 170 = .ok (.bipush 10, 2) := by decide +kernel
theorem dX7_gives_172 : decode cX7_gives 172 = .ok (.aload_n 1, 1) := by decide +kernel
theorem dX7_gives_173 : decode cX7_gives 173 = .ok (.getfield 159, 3) := by decide +kernel
theorem dX7_gives_176 : decode cX7_gives 176 = .ok (.imul, 1) := by decide +kernel
theorem dX7_gives_177 : decode cX7_gives 177 = .ok (.iadd, 1) := by decide +kernel
theorem dX7_gives_178 : decode cX7_gives 178 = .ok (.ireturn, 1) := by decide +kernel
theorem dX7_gives_179 : decode cX7_gives 179 = .ok (.bipush 21, 2) := by decide +kernel
theorem dX7_gives_181 : decode cX7_gives 181 = .ok (.aload_n 1, 1) := by decide +kernel
theorem dX7_gives_182 : decode cX7_gives 182 = .ok (.aload_n 2, 1) := by decide +kernel
theorem dX7_gives_183 : decode cX7_gives 183 = .ok (.iload 4, 2) := by decide +kernel
theorem dX7_gives_185 : decode cX7_gives 185 = .ok (.invokestatic 277, 3) := by decide +kernel
theorem dX7_gives_188 : decode cX7_gives 188 = .ok (.aload_n 1, 1) := by decide +kernel
theorem dX7_gives_189 : decode cX7_gives 189 = .ok (.getfield 189, 3) := by decide +kernel
theorem dX7_gives_192 : decode cX7_gives 192 = .ok (.isub, 1) := by decide +kernel
theorem dX7_gives_193 : decode cX7_gives 193 = .ok (.ireturn, 1) := by decide +kernel
theorem dX7_gives_194 : decode cX7_gives 194 = .ok (.bipush 20, 2) := by decide +kernel
theorem dX7_gives_196 : decode cX7_gives 196 = .ok (.aload_n 1, 1) := by decide +kernel
theorem dX7_gives_197 : decode cX7_gives 197 = .ok (.aload_n 2, 1) := by decide +kernel
theorem dX7_gives_198 : decode cX7_gives 198 = .ok (.iload 4, 2) := by decide +kernel
theorem dX7_gives_200 : decode cX7_gives 200 = .ok (.invokestatic 277, 3) := by decide +kernel
theorem dX7_gives_203 : decode cX7_gives 203 = .ok (.aload_n 1, 1) := by decide +kernel
theorem dX7_gives_204 : decode cX7_gives 204 = .ok (.invokestatic 270, 3) := by decide +kernel
theorem dX7_gives_207 : decode cX7_gives 207 = .ok (.aload_n 1, 1) := by decide +kernel
theorem dX7_gives_208 : decode cX7_gives 208 = .ok (.aload_n 2, 1) := by decide +kernel
theorem dX7_gives_209 : decode cX7_gives 209 = .ok (.iload 4, 2) := by decide +kernel
theorem dX7_gives_211 : decode cX7_gives 211 = .ok (.invokestatic 277, 3) := by decide +kernel
theorem dX7_gives_214 : decode cX7_gives 214 = .ok (.iadd, 1) := by decide +kernel
theorem dX7_gives_215 : decode cX7_gives 215 = .ok (.ireturn, 1) := by decide +kernel
theorem dX7_gives_216 : decode cX7_gives 216 = .ok (.iconst 2, 1) := by decide +kernel
theorem dX7_gives_217 : decode cX7_gives 217 = .ok (.bipush 22, 2) := by decide +kernel
theorem dX7_gives_219 : decode cX7_gives 219 = .ok (.aload_n 1, 1) := by decide +kernel
theorem dX7_gives_220 : decode cX7_gives 220 = .ok (.aload_n 2, 1) := by decide +kernel
theorem dX7_gives_221 : decode cX7_gives 221 = .ok (.iload 4, 2) := by decide +kernel
theorem dX7_gives_223 : decode cX7_gives 223 = .ok (.invokestatic 277, 3) := by decide +kernel
theorem dX7_gives_226 : decode cX7_gives 226 = .ok (.imul, 1) := by decide +kernel
theorem dX7_gives_227 : decode cX7_gives 227 = .ok (.ireturn, 1) := by decide +kernel
theorem dX7_gives_228 : decode cX7_gives 228 = .ok (.iconst 0, 1) := by decide +kernel
theorem dX7_gives_229 : decode cX7_gives 229 = .ok (.ireturn, 1) := by decide +kernel
