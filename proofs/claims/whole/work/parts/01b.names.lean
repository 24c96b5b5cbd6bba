theorem dX0_init_0 : decode cX0_init 0 = .ok (.aload_n 0, 1) := by decide +kernel
theorem dX0_init_1 : decode cX0_init 1 = .ok (.invokespecial 3, 3) := by decide +kernel
theorem dX0_init_4 : decode cX0_init 4 = .ok (.return_, 1) := by decide +kernel
theorem dX0_begin_0 : decode cX0_begin 0 = .ok (.aload_n 0, 1) := by decide +kernel
theorem dX0_begin_1 : decode cX0_begin 1 = .ok (.iload_n 1, 1) := by decide +kernel
theorem dX0_begin_2 : decode cX0_begin 2 = .ok (.putfield 9, 3) := by decide +kernel
theorem dX0_begin_5 : decode cX0_begin 5 = .ok (.aload_n 0, 1) := by decide +kernel
theorem dX0_begin_6 : decode cX0_begin 6 = .ok (.iload_n 2, 1) := by decide +kernel
theorem dX0_begin_7 : decode cX0_begin 7 = .ok (.putfield 15, 3) := by decide +kernel
theorem dX0_begin_10 : decode cX0_begin 10 = .ok (.aload_n 0, 1) := by decide +kernel
theorem dX0_begin_11 : decode cX0_begin 11 = .ok (.iconst 0, 1) := by decide +kernel
theorem dX0_begin_12 : decode cX0_begin 12 = .ok (.putfield 18, 3) := by decide +kernel
theorem dX0_begin_15 : decode cX0_begin 15 = .ok (.aload_n 0, 1) := by decide +kernel
theorem dX0_begin_16 : decode cX0_begin 16 = .ok (.iconst 0, 1) := by decide +kernel
theorem dX0_begin_17 : decode cX0_begin 17 = .ok (.putfield 21, 3) := by decide +kernel
theorem dX0_begin_20 : decode cX0_begin 20 = .ok (.aload_n 0, 1) := by decide +kernel
theorem dX0_begin_21 : decode cX0_begin 21 = .ok (.iconst 0, 1) := by decide +kernel
theorem dX0_begin_22 : decode cX0_begin 22 = .ok (.putfield 24, 3) := by decide +kernel
theorem dX0_begin_25 : decode cX0_begin 25 = .ok (.aload_n 0, 1) := by decide +kernel
theorem dX0_begin_26 : decode cX0_begin 26 = .ok (.iconst 0, 1) := by decide +kernel
theorem dX0_begin_27 : decode cX0_begin 27 = .ok (.putfield 27, 3) := by decide +kernel
theorem dX0_begin_30 : decode cX0_begin 30 = .ok (.return_, 1) := by decide +kernel
theorem dX0_become_0 : decode cX0_become 0 = .ok (.aload_n 0, 1) := by decide +kernel
theorem dX0_become_1 : decode cX0_become 1 = .ok (.aload_n 1, 1) := by decide +kernel
theorem dX0_become_2 : decode cX0_become 2 = .ok (.getfield 9, 3) := by decide +kernel
theorem dX0_become_5 : decode cX0_become 5 = .ok (.putfield 9, 3) := by decide +kernel
theorem dX0_become_8 : decode cX0_become 8 = .ok (.aload_n 0, 1) := by decide +kernel
theorem dX0_become_9 : decode cX0_become 9 = .ok (.aload_n 1, 1) := by decide +kernel
theorem dX0_become_10 : decode cX0_become 10 = .ok (.getfield 15, 3) := by decide +kernel
theorem dX0_become_13 : decode cX0_become 13 = .ok (.putfield 15, 3) := by decide +kernel
theorem dX0_become_16 : decode cX0_become 16 = .ok (.aload_n 0, 1) := by decide +kernel
theorem dX0_become_17 : decode cX0_become 17 = .ok (.aload_n 1, 1) := by decide +kernel
theorem dX0_become_18 : decode cX0_become 18 = .ok (.getfield 31, 3) := by decide +kernel
theorem dX0_become_21 : decode cX0_become 21 = .ok (.putfield 31, 3) := by decide +kernel
theorem dX0_become_24 : decode cX0_become 24 = .ok (.aload_n 0, 1) := by decide +kernel
theorem dX0_become_25 : decode cX0_become 25 = .ok (.aload_n 1, 1) := by decide +kernel
theorem dX0_become_26 : decode cX0_become 26 = .ok (.getfield 34, 3) := by decide +kernel
theorem dX0_become_29 : decode cX0_become 29 = .ok (.putfield 34, 3) := by decide +kernel
theorem dX0_become_32 : decode cX0_become 32 = .ok (.aload_n 0, 1) := by decide +kernel
theorem dX0_become_33 : decode cX0_become 33 = .ok (.aload_n 1, 1) := by decide +kernel
theorem dX0_become_34 : decode cX0_become 34 = .ok (.getfield 37, 3) := by decide +kernel
theorem dX0_become_37 : decode cX0_become 37 = .ok (.putfield 37, 3) := by decide +kernel
theorem dX0_become_40 : decode cX0_become 40 = .ok (.aload_n 0, 1) := by decide +kernel
theorem dX0_become_41 : decode cX0_become 41 = .ok (.aload_n 1, 1) := by decide +kernel
theorem dX0_become_42 : decode cX0_become 42 = .ok (.getfield 40, 3) := by decide +kernel
theorem dX0_become_45 : decode cX0_become 45 = .ok (.putfield 40, 3) := by decide +kernel
theorem dX0_become_48 : decode cX0_become 48 = .ok (.aload_n 0, 1) := by decide +kernel
theorem dX0_become_49 : decode cX0_become 49 = .ok (.aload_n 1, 1) := by decide +kernel
theorem dX0_become_50 : decode cX0_become 50 = .ok (.getfield 43, 3) := by decide +kernel
theorem dX0_become_53 : decode cX0_become 53 = .ok (.putfield 43, 3) := by decide +kernel
theorem dX0_become_56 : decode cX0_become 56 = .ok (.aload_n 0, 1) := by decide +kernel
theorem dX0_become_57 : decode cX0_become 57 = .ok (.aload_n 1, 1) := by decide +kernel
theorem dX0_become_58 : decode cX0_become 58 = .ok (.getfield 46, 3) := by decide +kernel
theorem dX0_become_61 : decode cX0_become 61 = .ok (.putfield 46, 3) := by decide +kernel
theorem dX0_become_64 : decode cX0_become 64 = .ok (.aload_n 0, 1) := by decide +kernel
theorem dX0_become_65 : decode cX0_become 65 = .ok (.aload_n 1, 1) := by decide +kernel
theorem dX0_become_66 : decode cX0_become 66 = .ok (.getfield 18, 3) := by decide +kernel
theorem dX0_become_69 : decode cX0_become 69 = .ok (.putfield 18, 3) := by decide +kernel
theorem dX0_become_72 : decode cX0_become 72 = .ok (.aload_n 0, 1) := by decide +kernel
theorem dX0_become_73 : decode cX0_become 73 = .ok (.aload_n 1, 1) := by decide +kernel
theorem dX0_become_74 : decode cX0_become 74 = .ok (.getfield 21, 3) := by decide +kernel
theorem dX0_become_77 : decode cX0_become 77 = .ok (.putfield 21, 3) := by decide +kernel
theorem dX0_become_80 : decode cX0_become 80 = .ok (.aload_n 0, 1) := by decide +kernel
theorem dX0_become_81 : decode cX0_become 81 = .ok (.aload_n 1, 1) := by decide +kernel
theorem dX0_become_82 : decode cX0_become 82 = .ok (.getfield 24, 3) := by decide +kernel
theorem dX0_become_85 : decode cX0_become 85 = .ok (.putfield 24, 3) := by decide +kernel
theorem dX0_become_88 : decode cX0_become 88 = .ok (.aload_n 0, 1) := by decide +kernel
theorem dX0_become_89 : decode cX0_become 89 = .ok (.aload_n 1, 1) := by decide +kernel
theorem dX0_become_90 : decode cX0_become 90 = .ok (.getfield 27, 3) := by decide +kernel
theorem dX0_become_93 : decode cX0_become 93 = .ok (.putfield 27, 3) := by decide +kernel
theorem dX0_become_96 : decode cX0_become 96 = .ok (.return_, 1) := by decide +kernel
theorem dX0_turnsIn_0 : decode cX0_turnsIn 0 = .ok (.aload_n 0, 1) := by decide +kernel
theorem dX0_turnsIn_1 : decode cX0_turnsIn 1 = .ok (.getfield 27, 3) := by decide +kernel
theorem dX0_turnsIn_4 : decode cX0_turnsIn 4 = .ok (.ifCond .ne 31, 3) := by decide +kernel
theorem dX0_turnsIn_7 : decode cX0_turnsIn 7 = .ok (.aload_n 0, 1) := by decide +kernel
theorem dX0_turnsIn_8 : decode cX0_turnsIn 8 = .ok (.getfield 15, 3) := by decide +kernel
theorem dX0_turnsIn_11 : decode cX0_turnsIn 11 = .ok (.iconst 5, 1) := by decide +kernel
theorem dX0_turnsIn_12 : decode cX0_turnsIn 12 = .ok (.if_icmp .eq 23, 3) := by decide +kernel
theorem dX0_turnsIn_15 : decode cX0_turnsIn 15 = .ok (.aload_n 0, 1) := by decide +kernel
theorem dX0_turnsIn_16 : decode cX0_turnsIn 16 = .ok (.getfield 15, 3) := by decide +kernel
theorem dX0_turnsIn_19 : decode cX0_turnsIn 19 = .ok (.iconst 1, 1) := by decide +kernel
theorem dX0_turnsIn_20 : decode cX0_turnsIn 20 = .ok (.if_icmp .ne 11, 3) := by decide +kernel
theorem dX0_turnsIn_23 : decode cX0_turnsIn 23 = .ok (.aload_n 0, 1) := by decide +kernel
theorem dX0_turnsIn_24 : decode cX0_turnsIn 24 = .ok (.getfield 24, 3) := by decide +kernel
theorem dX0_turnsIn_27 : decode cX0_turnsIn 27 = .ok (.iload_n 1, 1) := by decide +kernel
theorem dX0_turnsIn_28 : decode cX0_turnsIn 28 = .ok (.if_icmp .ne 7, 3) := by decide +kernel
theorem dX0_turnsIn_31 : decode cX0_turnsIn 31 = .ok (.iconst 1, 1) := by decide +kernel
theorem dX0_turnsIn_32 : decode cX0_turnsIn 32 = .ok (.goto 4, 3) := by decide +kernel
theorem dX0_turnsIn_35 : decode cX0_turnsIn 35 = .ok (.iconst 0, 1) := by decide +kernel
theorem dX0_turnsIn_36 : decode cX0_turnsIn 36 = .ok (.ireturn, 1) := by decide +kernel
set_option maxRecDepth 20000 in
theorem ggX1_init_X3_init : GoodIn wsX1_init wsX3_init := goodIn_r _ [13, 14, 2, 3, 15, 16, 17, 18, 19, 20, 21, 28, 29, 30, 31, 32, 33, 34, 35, 36, 37, 38, 39, 40, 41, 42, 43, 44, 45] (by decide +kernel) (by decide +kernel)
set_option maxRecDepth 20000 in
theorem gX1_init_X3_init : GoodIn wsX1_init (wsX3_init) := ggX1_init_X3_init
theorem dX1_init_0 : decode cX1_init 0 = .ok (.aload_n 0, 1) := by decide +kernel
theorem dX1_init_1 : decode cX1_init 1 = .ok (.invokespecial 3, 3) := by decide +kernel
theorem dX1_init_4 : decode cX1_init 4 = .ok (.aload_n 0, 1) := by decide +kernel
theorem dX1_init_5 : decode cX1_init 5 = .ok (.bipush 8, 2) := by decide +kernel
theorem dX1_init_7 : decode cX1_init 7 = .ok (.newarray .int, 2) := by decide +kernel
theorem dX1_init_9 : decode cX1_init 9 = .ok (.putfield 9, 3) := by decide +kernel
theorem dX1_init_12 : decode cX1_init 12 = .ok (.aload_n 0, 1) := by decide +kernel
theorem dX1_init_13 : decode cX1_init 13 = .ok (.bipush 9, 2) := by decide +kernel
theorem dX1_init_15 : decode cX1_init 15 = .ok (.newarray .int, 2) := by decide +kernel
theorem dX1_init_17 : decode cX1_init 17 = .ok (.putfield 15, 3) := by decide +kernel
theorem dX1_init_20 : decode cX1_init 20 = .ok (.aload_n 0, 1) := by decide +kernel
theorem dX1_init_21 : decode cX1_init 21 = .ok (.new 18, 3) := by decide +kernel
theorem dX1_init_24 : decode cX1_init 24 = .ok (.dup, 1) := by decide +kernel
theorem dX1_init_25 : decode cX1_init 25 = .ok (.invokespecial 20, 3) := by decide +kernel
theorem dX1_init_28 : decode cX1_init 28 = .ok (.putfield 21, 3) := by decide +kernel
theorem dX1_init_31 : decode cX1_init 31 = .ok (.return_, 1) := by decide +kernel
set_option maxRecDepth 20000 in
theorem ggX1_survey_X3_become : GoodIn wsX1_survey wsX3_become := goodIn_r _ [18, 19, 20, 21, 22, 23, 24, 25, 26, 27, 28, 29, 30, 31, 32, 33, 34, 35, 36, 37, 38, 39, 40, 41, 71, 72, 73, 74, 75, 76, 77, 78, 79, 80, 81, 82, 83, 84, 85, 86, 87, 88] (by decide +kernel) (by decide +kernel)
set_option maxRecDepth 20000 in
theorem gX1_survey_X3_become : GoodIn wsX1_survey (wsV RX1 25 RX3 yX3_become wsX3_become) := goodIn_app (goodIn_of _ (by decide +kernel)) ggX1_survey_X3_become
set_option maxRecDepth 20000 in
theorem ggX1_survey_X3_has : GoodIn wsX1_survey wsX3_has := goodIn_r _ [45, 19, 71, 72, 73, 74, 75, 76] (by decide +kernel) (by decide +kernel)
set_option maxRecDepth 20000 in
theorem gX1_survey_X3_has : GoodIn wsX1_survey (wsV RX1 33 RX3 yX3_has wsX3_has) := goodIn_app (goodIn_of _ (by decide +kernel)) ggX1_survey_X3_has
set_option maxRecDepth 20000 in
theorem ggX1_survey_X0_turnsIn : GoodIn wsX1_survey wsX0_turnsIn := goodIn_r _ [49, 41, 31, 40, 77, 78, 79, 80, 81, 82, 83, 84, 85, 86, 87, 88] (by decide +kernel) (by decide +kernel)
set_option maxRecDepth 20000 in
theorem gX1_survey_X0_turnsIn : GoodIn wsX1_survey (wsV RX1 61 RX0 yX0_turnsIn wsX0_turnsIn) := goodIn_app (goodIn_of _ (by decide +kernel)) ggX1_survey_X0_turnsIn
set_option maxRecDepth 20000 in
theorem ggX1_survey_X7_bit : GoodIn wsX1_survey wsX7_bit := goodIn_r _ [52] (by decide +kernel) (by decide +kernel)
set_option maxRecDepth 20000 in
theorem gX1_survey_X7_bit_n64 : GoodIn wsX1_survey (wsX7_bit) := ggX1_survey_X7_bit
set_option maxRecDepth 20000 in
theorem ggX1_survey_X1_isBehind : GoodIn wsX1_survey wsX1_isBehind := goodIn_r _ [57, 4, 58, 59, 2, 60, 61, 56, 62, 63, 51, 64, 77, 78, 79, 80, 81, 82, 83, 84, 85, 86, 87, 88, 65, 66, 67, 68, 69, 70] (by decide +kernel) (by decide +kernel)
set_option maxRecDepth 20000 in
theorem gX1_survey_X1_isBehind : GoodIn wsX1_survey (wsV RX1 71 RX1 yX1_isBehind wsX1_isBehind) := goodIn_app (goodIn_of _ (by decide +kernel)) ggX1_survey_X1_isBehind
theorem dX1_survey_0 : decode cX1_survey 0 = .ok (.aload_n 0, 1) := by decide +kernel
theorem dX1_survey_1 : decode cX1_survey 1 = .ok (.getfield 21, 3) := by decide +kernel
theorem dX1_survey_4 : decode cX1_survey 4 = .ok (.aload_n 1, 1) := by decide +kernel
theorem dX1_survey_5 : decode cX1_survey 5 = .ok (.invokevirtual 25, 3) := by decide +kernel
theorem dX1_survey_8 : decode cX1_survey 8 = .ok (.aload_n 0, 1) := by decide +kernel
theorem dX1_survey_9 : decode cX1_survey 9 = .ok (.iload_n 2, 1) := by decide +kernel
theorem dX1_survey_10 : decode cX1_survey 10 = .ok (.putfield 29, 3) := by decide +kernel
theorem dX1_survey_13 : decode cX1_survey 13 = .ok (.aload_n 0, 1) := by decide +kernel
theorem dX1_survey_14 : decode cX1_survey 14 = .ok (.getfield 21, 3) := by decide +kernel
theorem dX1_survey_17 : decode cX1_survey 17 = .ok (.iload_n 3, 1) := by decide +kernel
theorem dX1_survey_18 : decode cX1_survey 18 = .ok (.invokevirtual 33, 3) := by decide +kernel
theorem dX1_survey_21 : decode cX1_survey 21 = .ok (.ifCond .eq 31, 3) := by decide +kernel
theorem dX1_survey_24 : decode cX1_survey 24 = .ok (.aload_n 0, 1) := by decide +kernel
theorem dX1_survey_25 : decode cX1_survey 25 = .ok (.getfield 21, 3) := by decide +kernel
theorem dX1_survey_28 : decode cX1_survey 28 = .ok (.getfield 37, 3) := by decide +kernel
theorem dX1_survey_31 : decode cX1_survey 31 = .ok (.iload_n 3, 1) := by decide +kernel
theorem dX1_survey_32 : decode cX1_survey 32 = .ok (.aaload, 1) := by decide +kernel
theorem dX1_survey_33 : decode cX1_survey 33 = .ok (.astore 4, 2) := by decide +kernel
theorem dX1_survey_35 : decode cX1_survey 35 = .ok (.aload 4, 2) := by decide +kernel
theorem dX1_survey_37 : decode cX1_survey 37 = .ok (.aload 4, 2) := by decide +kernel
theorem dX1_survey_39 : decode cX1_survey 39 = .ok (.getfield 41, 3) := by decide +kernel
theorem dX1_survey_42 : decode cX1_survey 42 = .ok (.iconst 1, 1) := by decide +kernel
theorem dX1_survey_43 : decode cX1_survey 43 = .ok (.iadd, 1) := by decide +kernel
theorem dX1_survey_44 : decode cX1_survey 44 = .ok (.bipush 9, 2) := by decide +kernel
theorem dX1_survey_46 : decode cX1_survey 46 = .ok (.invokestatic 46, 3) := by decide +kernel
theorem dX1_survey_49 : decode cX1_survey 49 = .ok (.putfield 41, 3) := by decide +kernel
theorem dX1_survey_52 : decode cX1_survey 52 = .ok (.aload_n 0, 1) := by decide +kernel
theorem dX1_survey_53 : decode cX1_survey 53 = .ok (.iconst 0, 1) := by decide +kernel
theorem dX1_survey_54 : decode cX1_survey 54 = .ok (.putfield 52, 3) := by decide +kernel
theorem dX1_survey_57 : decode cX1_survey 57 = .ok (.aload_n 0, 1) := by decide +kernel
theorem dX1_survey_58 : decode cX1_survey 58 = .ok (.iconst 0, 1) := by decide +kernel
theorem dX1_survey_59 : decode cX1_survey 59 = .ok (.putfield 55, 3) := by decide +kernel
theorem dX1_survey_62 : decode cX1_survey 62 = .ok (.iconst 0, 1) := by decide +kernel
theorem dX1_survey_63 : decode cX1_survey 63 = .ok (.istore 4, 2) := by decide +kernel
theorem dX1_survey_65 : decode cX1_survey 65 = .ok (.iload 4, 2) := by decide +kernel
theorem dX1_survey_67 : decode cX1_survey 67 = .ok (.aload_n 0, 1) := by decide +kernel
theorem dX1_survey_68 : decode cX1_survey 68 = .ok (.getfield 21, 3) := by decide +kernel
theorem dX1_survey_71 : decode cX1_survey 71 = .ok (.getfield 58, 3) := by decide +kernel
theorem dX1_survey_74 : decode cX1_survey 74 = .ok (.if_icmp .ge 134, 3) := by decide +kernel
theorem dX1_survey_77 : decode cX1_survey 77 = .ok (.aload_n 0, 1) := by decide +kernel
theorem dX1_survey_78 : decode cX1_survey 78 = .ok (.getfield 21, 3) := by decide +kernel
theorem dX1_survey_81 : decode cX1_survey 81 = .ok (.getfield 37, 3) := by decide +kernel
theorem dX1_survey_84 : decode cX1_survey 84 = .ok (.iload 4, 2) := by decide +kernel
theorem dX1_survey_86 : decode cX1_survey 86 = .ok (.aaload, 1) := by decide +kernel
theorem dX1_survey_87 : decode cX1_survey 87 = .ok (.astore 5, 2) := by decide +kernel
theorem dX1_survey_89 : decode cX1_survey 89 = .ok (.aload 5, 2) := by decide +kernel
theorem dX1_survey_91 : decode cX1_survey 91 = .ok (.aload_n 0, 1) := by decide +kernel
theorem dX1_survey_92 : decode cX1_survey 92 = .ok (.getfield 29, 3) := by decide +kernel
theorem dX1_survey_95 : decode cX1_survey 95 = .ok (.invokevirtual 61, 3) := by decide +kernel
theorem dX1_survey_98 : decode cX1_survey 98 = .ok (.invokestatic 64, 3) := by decide +kernel
theorem dX1_survey_101 : decode cX1_survey 101 = .ok (.iload 4, 2) := by decide +kernel
theorem dX1_survey_103 : decode cX1_survey 103 = .ok (.ishl, 1) := by decide +kernel
theorem dX1_survey_104 : decode cX1_survey 104 = .ok (.istore 6, 2) := by decide +kernel
theorem dX1_survey_106 : decode cX1_survey 106 = .ok (.aload_n 0, 1) := by decide +kernel
theorem dX1_survey_107 : decode cX1_survey 107 = .ok (.dup, 1) := by decide +kernel
theorem dX1_survey_108 : decode cX1_survey 108 = .ok (.getfield 52, 3) := by decide +kernel
theorem dX1_survey_111 : decode cX1_survey 111 = .ok (.iload 6, 2) := by decide +kernel
theorem dX1_survey_113 : decode cX1_survey 113 = .ok (.ior, 1) := by decide +kernel
theorem dX1_survey_114 : decode cX1_survey 114 = .ok (.putfield 52, 3) := by decide +kernel
theorem dX1_survey_117 : decode cX1_survey 117 = .ok (.aload_n 0, 1) := by decide +kernel
theorem dX1_survey_118 : decode cX1_survey 118 = .ok (.dup, 1) := by decide +kernel
theorem dX1_survey_119 : decode cX1_survey 119 = .ok (.getfield 55, 3) := by decide +kernel
theorem dX1_survey_122 : decode cX1_survey 122 = .ok (.aload 5, 2) := by decide +kernel
theorem dX1_survey_124 : decode cX1_survey 124 = .ok (.getfield 68, 3) := by decide +kernel
theorem dX1_survey_127 : decode cX1_survey 127 = .ok (.iconst 4, 1) := by decide +kernel
theorem dX1_survey_128 : decode cX1_survey 128 = .ok (.if_icmp .ne 7, 3) := by decide +kernel
theorem dX1_survey_131 : decode cX1_survey 131 = .ok (.iconst 0, 1) := by decide +kernel
theorem dX1_survey_132 : decode cX1_survey 132 = .ok (.goto 5, 3) := by decide +kernel
theorem dX1_survey_135 : decode cX1_survey 135 = .ok (.iload 6, 2) := by decide +kernel
theorem dX1_survey_137 : decode cX1_survey 137 = .ok (.ior, 1) := by decide +kernel
theorem dX1_survey_138 : decode cX1_survey 138 = .ok (.putfield 55, 3) := by decide +kernel
theorem dX1_survey_141 : decode cX1_survey 141 = .ok (.aload_n 0, 1) := by decide +kernel
theorem dX1_survey_142 : decode cX1_survey 142 = .ok (.getfield 9, 3) := by decide +kernel
theorem dX1_survey_145 : decode cX1_survey 145 = .ok (.iload 4, 2) := by decide +kernel
theorem dX1_survey_147 : decode cX1_survey 147 = .ok (.iconst 0, 1) := by decide +kernel
theorem dX1_survey_148 : decode cX1_survey 148 = .ok (.iastore, 1) := by decide +kernel
theorem dX1_survey_149 : decode cX1_survey 149 = .ok (.iconst 0, 1) := by decide +kernel
theorem dX1_survey_150 : decode cX1_survey 150 = .ok (.istore 7, 2) := by decide +kernel
theorem dX1_survey_152 : decode cX1_survey 152 = .ok (.iload 7, 2) := by decide +kernel
theorem dX1_survey_154 : decode cX1_survey 154 = .ok (.aload_n 0, 1) := by decide +kernel
theorem dX1_survey_155 : decode cX1_survey 155 = .ok (.getfield 21, 3) := by decide +kernel
theorem dX1_survey_158 : decode cX1_survey 158 = .ok (.getfield 58, 3) := by decide +kernel
theorem dX1_survey_161 : decode cX1_survey 161 = .ok (.if_icmp .ge 41, 3) := by decide +kernel
theorem dX1_survey_164 : decode cX1_survey 164 = .ok (.aload_n 0, 1) := by decide +kernel
theorem dX1_survey_165 : decode cX1_survey 165 = .ok (.getfield 9, 3) := by decide +kernel
theorem dX1_survey_168 : decode cX1_survey 168 = .ok (.iload 4, 2) := by decide +kernel
theorem dX1_survey_170 : decode cX1_survey 170 = .ok (.dup2, 1) := by decide +kernel
theorem dX1_survey_171 : decode cX1_survey 171 = .ok (.iaload, 1) := by decide +kernel
theorem dX1_survey_172 : decode cX1_survey 172 = .ok (.aload_n 0, 1) := by decide +kernel
theorem dX1_survey_173 : decode cX1_survey 173 = .ok (.aload 5, 2) := by decide +kernel
theorem dX1_survey_175 : decode cX1_survey 175 = .ok (.aload_n 0, 1) := by decide +kernel
theorem dX1_survey_176 : decode cX1_survey 176 = .ok (.getfield 21, 3) := by decide +kernel
theorem dX1_survey_179 : decode cX1_survey 179 = .ok (.getfield 37, 3) := by decide +kernel
theorem dX1_survey_182 : decode cX1_survey 182 = .ok (.iload 7, 2) := by decide +kernel
theorem dX1_survey_184 : decode cX1_survey 184 = .ok (.aaload, 1) := by decide +kernel
theorem dX1_survey_185 : decode cX1_survey 185 = .ok (.invokevirtual 71, 3) := by decide +kernel
theorem dX1_survey_188 : decode cX1_survey 188 = .ok (.invokestatic 64, 3) := by decide +kernel
theorem dX1_survey_191 : decode cX1_survey 191 = .ok (.iload 7, 2) := by decide +kernel
theorem dX1_survey_193 : decode cX1_survey 193 = .ok (.ishl, 1) := by decide +kernel
theorem dX1_survey_194 : decode cX1_survey 194 = .ok (.ior, 1) := by decide +kernel
theorem dX1_survey_195 : decode cX1_survey 195 = .ok (.iastore, 1) := by decide +kernel
theorem dX1_survey_196 : decode cX1_survey 196 = .ok (.iinc 7 1, 3) := by decide +kernel
theorem dX1_survey_199 : decode cX1_survey 199 = .ok (.goto (-47), 3) := by decide +kernel
theorem dX1_survey_202 : decode cX1_survey 202 = .ok (.iinc 4 1, 3) := by decide +kernel
theorem dX1_survey_205 : decode cX1_survey 205 = .ok (.goto (-140), 3) := by decide +kernel
theorem dX1_survey_208 : decode cX1_survey 208 = .ok (.return_, 1) := by decide +kernel
set_option maxRecDepth 20000 in
theorem ggX1_isBehind_X1_isAhead : GoodIn wsX1_isBehind wsX1_isAhead := goodIn_r _ [8, 9, 10, 11] (by decide +kernel) (by decide +kernel)
set_option maxRecDepth 20000 in
theorem gX1_isBehind_X1_isAhead : GoodIn wsX1_isBehind (va_wsS RX1 81 yX1_isAhead wsX1_isAhead) := goodIn_app (goodIn_of _ (by decide +kernel)) ggX1_isBehind_X1_isAhead
theorem dX1_isBehind_0 : decode cX1_isBehind 0 = .ok (.aload_n 2, 1) := by decide +kernel
theorem dX1_isBehind_1 : decode cX1_isBehind 1 = .ok (.getfield 41, 3) := by decide +kernel
theorem dX1_isBehind_4 : decode cX1_isBehind 4 = .ok (.aload_n 1, 1) := by decide +kernel
theorem dX1_isBehind_5 : decode cX1_isBehind 5 = .ok (.getfield 41, 3) := by decide +kernel
theorem dX1_isBehind_8 : decode cX1_isBehind 8 = .ok (.if_icmp .ge 5, 3) := by decide +kernel
theorem dX1_isBehind_11 : decode cX1_isBehind 11 = .ok (.iconst 0, 1) := by decide +kernel
theorem dX1_isBehind_12 : decode cX1_isBehind 12 = .ok (.ireturn, 1) := by decide +kernel
theorem dX1_isBehind_13 : decode cX1_isBehind 13 = .ok (.aload_n 2, 1) := by decide +kernel
theorem dX1_isBehind_14 : decode cX1_isBehind 14 = .ok (.getfield 75, 3) := by decide +kernel
theorem dX1_isBehind_17 : decode cX1_isBehind 17 = .ok (.aload_n 1, 1) := by decide +kernel
theorem dX1_isBehind_18 : decode cX1_isBehind 18 = .ok (.getfield 75, 3) := by decide +kernel
theorem dX1_isBehind_21 : decode cX1_isBehind 21 = .ok (.isub, 1) := by decide +kernel
theorem dX1_isBehind_22 : decode cX1_isBehind 22 = .ok (.istore_n 3, 1) := by decide +kernel
theorem dX1_isBehind_23 : decode cX1_isBehind 23 = .ok (.aload_n 2, 1) := by decide +kernel
theorem dX1_isBehind_24 : decode cX1_isBehind 24 = .ok (.getfield 78, 3) := by decide +kernel
theorem dX1_isBehind_27 : decode cX1_isBehind 27 = .ok (.aload_n 1, 1) := by decide +kernel
theorem dX1_isBehind_28 : decode cX1_isBehind 28 = .ok (.getfield 78, 3) := by decide +kernel
theorem dX1_isBehind_31 : decode cX1_isBehind 31 = .ok (.isub, 1) := by decide +kernel
theorem dX1_isBehind_32 : decode cX1_isBehind 32 = .ok (.istore 4, 2) := by decide +kernel
theorem dX1_isBehind_34 : decode cX1_isBehind 34 = .ok (.aload_n 0, 1) := by decide +kernel
theorem dX1_isBehind_35 : decode cX1_isBehind 35 = .ok (.getfield 29, 3) := by decide +kernel
theorem dX1_isBehind_38 : decode cX1_isBehind 38 = .ok (.tableswitch 48 0 2 #[26, 34, 41], 26) := by decide +kernel
theorem dX1_isBehind_64 : decode cX1_isBehind 64 = .ok (.iload 4, 2) := by decide +kernel
theorem dX1_isBehind_66 : decode cX1_isBehind 66 = .ok (.ineg, 1) := by decide +kernel
theorem dX1_isBehind_67 : decode cX1_isBehind 67 = .ok (.iload_n 3, 1) := by decide +kernel
theorem dX1_isBehind_68 : decode cX1_isBehind 68 = .ok (.invokestatic 81, 3) := by decide +kernel
theorem dX1_isBehind_71 : decode cX1_isBehind 71 = .ok (.ireturn, 1) := by decide +kernel
theorem dX1_isBehind_72 : decode cX1_isBehind 72 = .ok (.iload_n 3, 1) := by decide +kernel
theorem dX1_isBehind_73 : decode cX1_isBehind 73 = .ok (.iload 4, 2) := by decide +kernel
theorem dX1_isBehind_75 : decode cX1_isBehind 75 = .ok (.invokestatic 81, 3) := by decide +kernel
theorem dX1_isBehind_78 : decode cX1_isBehind 78 = .ok (.ireturn, 1) := by decide +kernel
theorem dX1_isBehind_79 : decode cX1_isBehind 79 = .ok (.iload 4, 2) := by decide +kernel
theorem dX1_isBehind_81 : decode cX1_isBehind 81 = .ok (.iload_n 3, 1) := by decide +kernel
theorem dX1_isBehind_82 : decode cX1_isBehind 82 = .ok (.invokestatic 81, 3) := by decide +kernel
theorem dX1_isBehind_85 : decode cX1_isBehind 85 = .ok (.ireturn, 1) := by decide +kernel
theorem dX1_isBehind_86 : decode cX1_isBehind 86 = .ok (.iload_n 3, 1) := by decide +kernel
theorem dX1_isBehind_87 : decode cX1_isBehind 87 = .ok (.ineg, 1) := by decide +kernel
theorem dX1_isBehind_88 : decode cX1_isBehind 88 = .ok (.iload 4, 2) := by decide +kernel
theorem dX1_isBehind_90 : decode cX1_isBehind 90 = .ok (.invokestatic 81, 3) := by decide +kernel
theorem dX1_isBehind_93 : decode cX1_isBehind 93 = .ok (.ireturn, 1) := by decide +kernel
set_option maxRecDepth 20000 in
theorem ggX1_isAhead_X7_isWithin : GoodIn wsX1_isAhead wsX7_isWithin := goodIn_r _ [3] (by decide +kernel) (by decide +kernel)
set_option maxRecDepth 20000 in
theorem gX1_isAhead_X7_isWithin_n85 : GoodIn wsX1_isAhead (wsX7_isWithin) := ggX1_isAhead_X7_isWithin
theorem dX1_isAhead_0 : decode cX1_isAhead 0 = .ok (.iload_n 0, 1) := by decide +kernel
theorem dX1_isAhead_1 : decode cX1_isAhead 1 = .ok (.iconst 1, 1) := by decide +kernel
theorem dX1_isAhead_2 : decode cX1_isAhead 2 = .ok (.bipush 6, 2) := by decide +kernel
theorem dX1_isAhead_4 : decode cX1_isAhead 4 = .ok (.invokestatic 85, 3) := by decide +kernel
theorem dX1_isAhead_7 : decode cX1_isAhead 7 = .ok (.ifCond .eq 16, 3) := by decide +kernel
theorem dX1_isAhead_10 : decode cX1_isAhead 10 = .ok (.iload_n 1, 1) := by decide +kernel
theorem dX1_isAhead_11 : decode cX1_isAhead 11 = .ok (.iconst (-1), 1) := by decide +kernel
theorem dX1_isAhead_12 : decode cX1_isAhead 12 = .ok (.iconst 1, 1) := by decide +kernel
theorem dX1_isAhead_13 : decode cX1_isAhead 13 = .ok (.invokestatic 85, 3) := by decide +kernel
theorem dX1_isAhead_16 : decode cX1_isAhead 16 = .ok (.ifCond .eq 7, 3) := by decide +kernel
theorem dX1_isAhead_19 : decode cX1_isAhead 19 = .ok (.iconst 1, 1) := by decide +kernel
theorem dX1_isAhead_20 : decode cX1_isAhead 20 = .ok (.goto 4, 3) := by decide +kernel
theorem dX1_isAhead_23 : decode cX1_isAhead 23 = .ok (.iconst 0, 1) := by decide +kernel
theorem dX1_isAhead_24 : decode cX1_isAhead 24 = .ok (.ireturn, 1) := by decide +kernel
theorem dX1_blow_0 : decode cX1_blow 0 = .ok (.aload_n 0, 1) := by decide +kernel
theorem dX1_blow_1 : decode cX1_blow 1 = .ok (.getfield 15, 3) := by decide +kernel
theorem dX1_blow_4 : decode cX1_blow 4 = .ok (.iconst 0, 1) := by decide +kernel
theorem dX1_blow_5 : decode cX1_blow 5 = .ok (.iload_n 1, 1) := by decide +kernel
theorem dX1_blow_6 : decode cX1_blow 6 = .ok (.iastore, 1) := by decide +kernel
theorem dX1_blow_7 : decode cX1_blow 7 = .ok (.iconst 1, 1) := by decide +kernel
theorem dX1_blow_8 : decode cX1_blow 8 = .ok (.istore_n 2, 1) := by decide +kernel
theorem dX1_blow_9 : decode cX1_blow 9 = .ok (.iload_n 2, 1) := by decide +kernel
theorem dX1_blow_10 : decode cX1_blow 10 = .ok (.bipush 8, 2) := by decide +kernel
theorem dX1_blow_12 : decode cX1_blow 12 = .ok (.if_icmp .gt 43, 3) := by decide +kernel
theorem dX1_blow_15 : decode cX1_blow 15 = .ok (.aload_n 0, 1) := by decide +kernel
theorem dX1_blow_16 : decode cX1_blow 16 = .ok (.getfield 15, 3) := by decide +kernel
theorem dX1_blow_19 : decode cX1_blow 19 = .ok (.iload_n 2, 1) := by decide +kernel
theorem dX1_blow_20 : decode cX1_blow 20 = .ok (.aload_n 0, 1) := by decide +kernel
theorem dX1_blow_21 : decode cX1_blow 21 = .ok (.getfield 15, 3) := by decide +kernel
theorem dX1_blow_24 : decode cX1_blow 24 = .ok (.iload_n 2, 1) := by decide +kernel
theorem dX1_blow_25 : decode cX1_blow 25 = .ok (.iconst 1, 1) := by decide +kernel
theorem dX1_blow_26 : decode cX1_blow 26 = .ok (.isub, 1) := by decide +kernel
theorem dX1_blow_27 : decode cX1_blow 27 = .ok (.iaload, 1) := by decide +kernel
theorem dX1_blow_28 : decode cX1_blow 28 = .ok (.aload_n 0, 1) := by decide +kernel
theorem dX1_blow_29 : decode cX1_blow 29 = .ok (.getfield 21, 3) := by decide +kernel
theorem dX1_blow_32 : decode cX1_blow 32 = .ok (.getfield 89, 3) := by decide +kernel
theorem dX1_blow_35 : decode cX1_blow 35 = .ok (.aload_n 0, 1) := by decide +kernel
theorem dX1_blow_36 : decode cX1_blow 36 = .ok (.getfield 15, 3) := by decide +kernel
theorem dX1_blow_39 : decode cX1_blow 39 = .ok (.iload_n 2, 1) := by decide +kernel
theorem dX1_blow_40 : decode cX1_blow 40 = .ok (.iconst 1, 1) := by decide +kernel
theorem dX1_blow_41 : decode cX1_blow 41 = .ok (.isub, 1) := by decide +kernel
theorem dX1_blow_42 : decode cX1_blow 42 = .ok (.iaload, 1) := by decide +kernel
theorem dX1_blow_43 : decode cX1_blow 43 = .ok (.imul, 1) := by decide +kernel
theorem dX1_blow_44 : decode cX1_blow 44 = .ok (.bipush 100, 2) := by decide +kernel
theorem dX1_blow_46 : decode cX1_blow 46 = .ok (.idiv, 1) := by decide +kernel
theorem dX1_blow_47 : decode cX1_blow 47 = .ok (.isub, 1) := by decide +kernel
theorem dX1_blow_48 : decode cX1_blow 48 = .ok (.iastore, 1) := by decide +kernel
theorem dX1_blow_49 : decode cX1_blow 49 = .ok (.iinc 2 1, 3) := by decide +kernel
theorem dX1_blow_52 : decode cX1_blow 52 = .ok (.goto (-43), 3) := by decide +kernel
theorem dX1_blow_55 : decode cX1_blow 55 = .ok (.return_, 1) := by decide +kernel
set_option maxRecDepth 20000 in
theorem ggX1_windLeft_J6_bitCount_0f7a4 : GoodIn wsX1_windLeft wsJ6_bitCount_0f7a4 := goodIn_r _ [7, 8, 9, 10] (by decide +kernel) (by decide +kernel)
set_option maxRecDepth 20000 in
theorem gX1_windLeft_J6_bitCount_0f7a4 : GoodIn wsX1_windLeft (va_wsS RX1 92 yJ6_bitCount_0f7a4 wsJ6_bitCount_0f7a4) := goodIn_app (goodIn_of _ (by decide +kernel)) ggX1_windLeft_J6_bitCount_0f7a4
theorem dX1_windLeft_0 : decode cX1_windLeft 0 = .ok (.aload_n 0, 1) := by decide +kernel
theorem dX1_windLeft_1 : decode cX1_windLeft 1 = .ok (.getfield 15, 3) := by decide +kernel
theorem dX1_windLeft_4 : decode cX1_windLeft 4 = .ok (.aload_n 0, 1) := by decide +kernel
theorem dX1_windLeft_5 : decode cX1_windLeft 5 = .ok (.getfield 9, 3) := by decide +kernel
theorem dX1_windLeft_8 : decode cX1_windLeft 8 = .ok (.iload_n 1, 1) := by decide +kernel
theorem dX1_windLeft_9 : decode cX1_windLeft 9 = .ok (.iaload, 1) := by decide +kernel
theorem dX1_windLeft_10 : decode cX1_windLeft 10 = .ok (.aload_n 0, 1) := by decide +kernel
theorem dX1_windLeft_11 : decode cX1_windLeft 11 = .ok (.getfield 55, 3) := by decide +kernel
theorem dX1_windLeft_14 : decode cX1_windLeft 14 = .ok (.iand, 1) := by decide +kernel
theorem dX1_windLeft_15 : decode cX1_windLeft 15 = .ok (.iload_n 2, 1) := by decide +kernel
theorem dX1_windLeft_16 : decode cX1_windLeft 16 = .ok (.iconst (-1), 1) := by decide +kernel
theorem dX1_windLeft_17 : decode cX1_windLeft 17 = .ok (.ixor, 1) := by decide +kernel
theorem dX1_windLeft_18 : decode cX1_windLeft 18 = .ok (.iand, 1) := by decide +kernel
theorem dX1_windLeft_19 : decode cX1_windLeft 19 = .ok (.invokestatic 92, 3) := by decide +kernel
theorem dX1_windLeft_22 : decode cX1_windLeft 22 = .ok (.iaload, 1) := by decide +kernel
theorem dX1_windLeft_23 : decode cX1_windLeft 23 = .ok (.ireturn, 1) := by decide +kernel
set_option maxRecDepth 20000 in
theorem ggX1_strengthOf_X1_windLeft : GoodIn wsX1_strengthOf wsX1_windLeft := goodIn_r _ [10, 11, 12, 13, 14, 15, 16, 17, 18, 19, 20, 21, 22, 23, 24, 25, 26] (by decide +kernel) (by decide +kernel)
set_option maxRecDepth 20000 in
theorem gX1_strengthOf_X1_windLeft : GoodIn wsX1_strengthOf (wsV RX1 101 RX1 yX1_windLeft wsX1_windLeft) := goodIn_app (goodIn_of _ (by decide +kernel)) ggX1_strengthOf_X1_windLeft
theorem dX1_strengthOf_0 : decode cX1_strengthOf 0 = .ok (.aload_n 0, 1) := by decide +kernel
theorem dX1_strengthOf_1 : decode cX1_strengthOf 1 = .ok (.getfield 52, 3) := by decide +kernel
theorem dX1_strengthOf_4 : decode cX1_strengthOf 4 = .ok (.iload_n 2, 1) := by decide +kernel
theorem dX1_strengthOf_5 : decode cX1_strengthOf 5 = .ok (.iconst (-1), 1) := by decide +kernel
theorem dX1_strengthOf_6 : decode cX1_strengthOf 6 = .ok (.ixor, 1) := by decide +kernel
theorem dX1_strengthOf_7 : decode cX1_strengthOf 7 = .ok (.iand, 1) := by decide +kernel
theorem dX1_strengthOf_8 : decode cX1_strengthOf 8 = .ok (.iconst 1, 1) := by decide +kernel
theorem dX1_strengthOf_9 : decode cX1_strengthOf 9 = .ok (.iload_n 1, 1) := by decide +kernel
theorem dX1_strengthOf_10 : decode cX1_strengthOf 10 = .ok (.ishl, 1) := by decide +kernel
theorem dX1_strengthOf_11 : decode cX1_strengthOf 11 = .ok (.iand, 1) := by decide +kernel
theorem dX1_strengthOf_12 : decode cX1_strengthOf 12 = .ok (.ifCond .ne 5, 3) := by decide +kernel
theorem dX1_strengthOf_15 : decode cX1_strengthOf 15 = .ok (.iconst 0, 1) := by decide +kernel
theorem dX1_strengthOf_16 : decode cX1_strengthOf 16 = .ok (.ireturn, 1) := by decide +kernel
theorem dX1_strengthOf_17 : decode cX1_strengthOf 17 = .ok (.aload_n 0, 1) := by decide +kernel
theorem dX1_strengthOf_18 : decode cX1_strengthOf 18 = .ok (.getfield 21, 3) := by decide +kernel
theorem dX1_strengthOf_21 : decode cX1_strengthOf 21 = .ok (.getfield 37, 3) := by decide +kernel
theorem dX1_strengthOf_24 : decode cX1_strengthOf 24 = .ok (.iload_n 1, 1) := by decide +kernel
theorem dX1_strengthOf_25 : decode cX1_strengthOf 25 = .ok (.aaload, 1) := by decide +kernel
theorem dX1_strengthOf_26 : decode cX1_strengthOf 26 = .ok (.astore_n 3, 1) := by decide +kernel
theorem dX1_strengthOf_27 : decode cX1_strengthOf 27 = .ok (.aload_n 3, 1) := by decide +kernel
theorem dX1_strengthOf_28 : decode cX1_strengthOf 28 = .ok (.getfield 68, 3) := by decide +kernel
theorem dX1_strengthOf_31 : decode cX1_strengthOf 31 = .ok (.iconst 4, 1) := by decide +kernel
theorem dX1_strengthOf_32 : decode cX1_strengthOf 32 = .ok (.if_icmp .ne 10, 3) := by decide +kernel
theorem dX1_strengthOf_35 : decode cX1_strengthOf 35 = .ok (.iconst 5, 1) := by decide +kernel
theorem dX1_strengthOf_36 : decode cX1_strengthOf 36 = .ok (.aload_n 3, 1) := by decide +kernel
theorem dX1_strengthOf_37 : decode cX1_strengthOf 37 = .ok (.getfield 98, 3) := by decide +kernel
theorem dX1_strengthOf_40 : decode cX1_strengthOf 40 = .ok (.imul, 1) := by decide +kernel
theorem dX1_strengthOf_41 : decode cX1_strengthOf 41 = .ok (.ireturn, 1) := by decide +kernel
theorem dX1_strengthOf_42 : decode cX1_strengthOf 42 = .ok (.aload_n 0, 1) := by decide +kernel
theorem dX1_strengthOf_43 : decode cX1_strengthOf 43 = .ok (.iload_n 1, 1) := by decide +kernel
theorem dX1_strengthOf_44 : decode cX1_strengthOf 44 = .ok (.iload_n 2, 1) := by decide +kernel
theorem dX1_strengthOf_45 : decode cX1_strengthOf 45 = .ok (.invokevirtual 101, 3) := by decide +kernel
theorem dX1_strengthOf_48 : decode cX1_strengthOf 48 = .ok (.aload_n 3, 1) := by decide +kernel
theorem dX1_strengthOf_49 : decode cX1_strengthOf 49 = .ok (.getfield 98, 3) := by decide +kernel
theorem dX1_strengthOf_52 : decode cX1_strengthOf 52 = .ok (.imul, 1) := by decide +kernel
theorem dX1_strengthOf_53 : decode cX1_strengthOf 53 = .ok (.istore 4, 2) := by decide +kernel
theorem dX1_strengthOf_55 : decode cX1_strengthOf 55 = .ok (.aload_n 3, 1) := by decide +kernel
theorem dX1_strengthOf_56 : decode cX1_strengthOf 56 = .ok (.getfield 68, 3) := by decide +kernel
theorem dX1_strengthOf_59 : decode cX1_strengthOf 59 = .ok (.iconst 3, 1) := by decide +kernel
theorem dX1_strengthOf_60 : decode cX1_strengthOf 60 = .ok (.if_icmp .ne 11, 3) := by decide +kernel
theorem dX1_strengthOf_63 : decode cX1_strengthOf 63 = .ok (.iload 4, 2) := by decide +kernel
theorem dX1_strengthOf_65 : decode cX1_strengthOf 65 = .ok (.bipush 20, 2) := by decide +kernel
theorem dX1_strengthOf_67 : decode cX1_strengthOf 67 = .ok (.idiv, 1) := by decide +kernel
theorem dX1_strengthOf_68 : decode cX1_strengthOf 68 = .ok (.goto 8, 3) := by decide +kernel
theorem dX1_strengthOf_71 : decode cX1_strengthOf 71 = .ok (.iload 4, 2) := by decide +kernel
theorem dX1_strengthOf_73 : decode cX1_strengthOf 73 = .ok (.bipush 10, 2) := by decide +kernel
theorem dX1_strengthOf_75 : decode cX1_strengthOf 75 = .ok (.idiv, 1) := by decide +kernel
theorem dX1_strengthOf_76 : decode cX1_strengthOf 76 = .ok (.ireturn, 1) := by decide +kernel
set_option maxRecDepth 20000 in
theorem ggX1_strengthOfAll_X1_strengthOf : GoodIn wsX1_strengthOfAll wsX1_strengthOf := goodIn_r _ [7, 8, 1, 9, 10, 11, 12, 13, 14, 6, 15, 16, 17, 18, 19, 20, 21, 22, 23, 24, 25, 26, 27, 28, 29, 30, 31, 32, 33, 34, 35, 36, 37, 38, 39, 40, 41, 42, 43, 44, 45, 46, 47, 48, 49] (by decide +kernel) (by decide +kernel)
set_option maxRecDepth 20000 in
theorem gX1_strengthOfAll_X1_strengthOf : GoodIn wsX1_strengthOfAll (wsV RX1 104 RX1 yX1_strengthOf wsX1_strengthOf) := goodIn_app (goodIn_of _ (by decide +kernel)) ggX1_strengthOfAll_X1_strengthOf
theorem dX1_strengthOfAll_0 : decode cX1_strengthOfAll 0 = .ok (.iconst 0, 1) := by decide +kernel
theorem dX1_strengthOfAll_1 : decode cX1_strengthOfAll 1 = .ok (.istore_n 1, 1) := by decide +kernel
theorem dX1_strengthOfAll_2 : decode cX1_strengthOfAll 2 = .ok (.iconst 0, 1) := by decide +kernel
theorem dX1_strengthOfAll_3 : decode cX1_strengthOfAll 3 = .ok (.istore_n 2, 1) := by decide +kernel
theorem dX1_strengthOfAll_4 : decode cX1_strengthOfAll 4 = .ok (.iload_n 2, 1) := by decide +kernel
theorem dX1_strengthOfAll_5 : decode cX1_strengthOfAll 5 = .ok (.aload_n 0, 1) := by decide +kernel
theorem dX1_strengthOfAll_6 : decode cX1_strengthOfAll 6 = .ok (.getfield 21, 3) := by decide +kernel
theorem dX1_strengthOfAll_9 : decode cX1_strengthOfAll 9 = .ok (.getfield 58, 3) := by decide +kernel
theorem dX1_strengthOfAll_12 : decode cX1_strengthOfAll 12 = .ok (.if_icmp .ge 18, 3) := by decide +kernel
theorem dX1_strengthOfAll_15 : decode cX1_strengthOfAll 15 = .ok (.iload_n 1, 1) := by decide +kernel
theorem dX1_strengthOfAll_16 : decode cX1_strengthOfAll 16 = .ok (.aload_n 0, 1) := by decide +kernel
theorem dX1_strengthOfAll_17 : decode cX1_strengthOfAll 17 = .ok (.iload_n 2, 1) := by decide +kernel
theorem dX1_strengthOfAll_18 : decode cX1_strengthOfAll 18 = .ok (.iconst 0, 1) := by decide +kernel
theorem dX1_strengthOfAll_19 : decode cX1_strengthOfAll 19 = .ok (.invokevirtual 104, 3) := by decide +kernel
theorem dX1_strengthOfAll_22 : decode cX1_strengthOfAll 22 = .ok (.iadd, 1) := by decide +kernel
theorem dX1_strengthOfAll_23 : decode cX1_strengthOfAll 23 = .ok (.istore_n 1, 1) := by decide +kernel
theorem dX1_strengthOfAll_24 : decode cX1_strengthOfAll 24 = .ok (.iinc 2 1, 3) := by decide +kernel
theorem dX1_strengthOfAll_27 : decode cX1_strengthOfAll 27 = .ok (.goto (-23), 3) := by decide +kernel
theorem dX1_strengthOfAll_30 : decode cX1_strengthOfAll 30 = .ok (.iload_n 1, 1) := by decide +kernel
theorem dX1_strengthOfAll_31 : decode cX1_strengthOfAll 31 = .ok (.ireturn, 1) := by decide +kernel
set_option maxRecDepth 20000 in
theorem ggX1_grindsBy_X1_strengthOf : GoodIn wsX1_grindsBy wsX1_strengthOf := goodIn_r _ [12, 13, 1, 2, 14, 15, 16, 17, 18, 11, 19, 20, 21, 22, 23, 24, 25, 26, 27, 28, 29, 30, 31, 32, 33, 34, 35, 36, 37, 38, 39, 40, 41, 42, 43, 44, 45, 46, 47, 48, 49, 50, 51, 52, 53] (by decide +kernel) (by decide +kernel)
set_option maxRecDepth 20000 in
theorem gX1_grindsBy_X1_strengthOf : GoodIn wsX1_grindsBy (wsV RX1 104 RX1 yX1_strengthOf wsX1_strengthOf) := goodIn_app (goodIn_of _ (by decide +kernel)) ggX1_grindsBy_X1_strengthOf
theorem dX1_grindsBy_0 : decode cX1_grindsBy 0 = .ok (.aload_n 0, 1) := by decide +kernel
theorem dX1_grindsBy_1 : decode cX1_grindsBy 1 = .ok (.iload_n 1, 1) := by decide +kernel
theorem dX1_grindsBy_2 : decode cX1_grindsBy 2 = .ok (.iload_n 2, 1) := by decide +kernel
theorem dX1_grindsBy_3 : decode cX1_grindsBy 3 = .ok (.invokevirtual 104, 3) := by decide +kernel
theorem dX1_grindsBy_6 : decode cX1_grindsBy 6 = .ok (.aload_n 0, 1) := by decide +kernel
theorem dX1_grindsBy_7 : decode cX1_grindsBy 7 = .ok (.getfield 21, 3) := by decide +kernel
theorem dX1_grindsBy_10 : decode cX1_grindsBy 10 = .ok (.getfield 37, 3) := by decide +kernel
theorem dX1_grindsBy_13 : decode cX1_grindsBy 13 = .ok (.iload_n 1, 1) := by decide +kernel
theorem dX1_grindsBy_14 : decode cX1_grindsBy 14 = .ok (.aaload, 1) := by decide +kernel
theorem dX1_grindsBy_15 : decode cX1_grindsBy 15 = .ok (.getfield 107, 3) := by decide +kernel
theorem dX1_grindsBy_18 : decode cX1_grindsBy 18 = .ok (.invokestatic 46, 3) := by decide +kernel
theorem dX1_grindsBy_21 : decode cX1_grindsBy 21 = .ok (.ireturn, 1) := by decide +kernel
set_option maxRecDepth 20000 in
theorem ggX1_madeBy_X1_grindsBy : GoodIn wsX1_madeBy wsX1_grindsBy := goodIn_r _ [7, 1, 8, 9, 10, 11, 12, 13, 14, 15, 16, 6, 17, 18, 19, 20, 21, 22, 23, 24, 25, 26, 27, 28, 29, 30, 31, 32, 33, 34, 35, 36, 37, 38, 39, 40, 41, 42, 43, 44, 45, 46, 47, 48, 49, 50, 51, 52, 53, 54, 55, 56, 57, 58] (by decide +kernel) (by decide +kernel)
set_option maxRecDepth 20000 in
theorem gX1_madeBy_X1_grindsBy : GoodIn wsX1_madeBy (wsV RX1 110 RX1 yX1_grindsBy wsX1_grindsBy) := goodIn_app (goodIn_of _ (by decide +kernel)) ggX1_madeBy_X1_grindsBy
theorem dX1_madeBy_0 : decode cX1_madeBy 0 = .ok (.iconst 0, 1) := by decide +kernel
theorem dX1_madeBy_1 : decode cX1_madeBy 1 = .ok (.istore_n 2, 1) := by decide +kernel
theorem dX1_madeBy_2 : decode cX1_madeBy 2 = .ok (.iconst 0, 1) := by decide +kernel
theorem dX1_madeBy_3 : decode cX1_madeBy 3 = .ok (.istore_n 3, 1) := by decide +kernel
theorem dX1_madeBy_4 : decode cX1_madeBy 4 = .ok (.iload_n 3, 1) := by decide +kernel
theorem dX1_madeBy_5 : decode cX1_madeBy 5 = .ok (.aload_n 0, 1) := by decide +kernel
theorem dX1_madeBy_6 : decode cX1_madeBy 6 = .ok (.getfield 21, 3) := by decide +kernel
theorem dX1_madeBy_9 : decode cX1_madeBy 9 = .ok (.getfield 58, 3) := by decide +kernel
theorem dX1_madeBy_12 : decode cX1_madeBy 12 = .ok (.if_icmp .ge 18, 3) := by decide +kernel
theorem dX1_madeBy_15 : decode cX1_madeBy 15 = .ok (.iload_n 2, 1) := by decide +kernel
theorem dX1_madeBy_16 : decode cX1_madeBy 16 = .ok (.aload_n 0, 1) := by decide +kernel
theorem dX1_madeBy_17 : decode cX1_madeBy 17 = .ok (.iload_n 3, 1) := by decide +kernel
theorem dX1_madeBy_18 : decode cX1_madeBy 18 = .ok (.iload_n 1, 1) := by decide +kernel
theorem dX1_madeBy_19 : decode cX1_madeBy 19 = .ok (.invokevirtual 110, 3) := by decide +kernel
theorem dX1_madeBy_22 : decode cX1_madeBy 22 = .ok (.iadd, 1) := by decide +kernel
theorem dX1_madeBy_23 : decode cX1_madeBy 23 = .ok (.istore_n 2, 1) := by decide +kernel
theorem dX1_madeBy_24 : decode cX1_madeBy 24 = .ok (.iinc 3 1, 3) := by decide +kernel
theorem dX1_madeBy_27 : decode cX1_madeBy 27 = .ok (.goto (-23), 3) := by decide +kernel
theorem dX1_madeBy_30 : decode cX1_madeBy 30 = .ok (.iload_n 2, 1) := by decide +kernel
theorem dX1_madeBy_31 : decode cX1_madeBy 31 = .ok (.ireturn, 1) := by decide +kernel
set_option maxRecDepth 20000 in
theorem ggX1_gainBy_X1_grindsBy : GoodIn wsX1_gainBy wsX1_grindsBy := goodIn_r _ [9, 10, 11, 12, 13, 14, 3, 15, 16, 17, 18, 8, 19, 20, 21, 22, 23, 24, 25, 26, 27, 28, 29, 30, 31, 32, 33, 34, 35, 36, 37, 38, 39, 40, 41, 42, 43, 44, 45, 46, 47, 48, 49, 50, 51, 52, 53, 54, 55, 56, 57, 58, 59, 60] (by decide +kernel) (by decide +kernel)
set_option maxRecDepth 20000 in
theorem gX1_gainBy_X1_grindsBy : GoodIn wsX1_gainBy (wsV RX1 110 RX1 yX1_grindsBy wsX1_grindsBy) := goodIn_app (goodIn_of _ (by decide +kernel)) ggX1_gainBy_X1_grindsBy
theorem dX1_gainBy_0 : decode cX1_gainBy 0 = .ok (.aload_n 0, 1) := by decide +kernel
theorem dX1_gainBy_1 : decode cX1_gainBy 1 = .ok (.iload_n 1, 1) := by decide +kernel
theorem dX1_gainBy_2 : decode cX1_gainBy 2 = .ok (.iload_n 2, 1) := by decide +kernel
theorem dX1_gainBy_3 : decode cX1_gainBy 3 = .ok (.invokevirtual 110, 3) := by decide +kernel
theorem dX1_gainBy_6 : decode cX1_gainBy 6 = .ok (.aload_n 0, 1) := by decide +kernel
theorem dX1_gainBy_7 : decode cX1_gainBy 7 = .ok (.iload_n 1, 1) := by decide +kernel
theorem dX1_gainBy_8 : decode cX1_gainBy 8 = .ok (.iconst 0, 1) := by decide +kernel
theorem dX1_gainBy_9 : decode cX1_gainBy 9 = .ok (.invokevirtual 110, 3) := by decide +kernel
theorem dX1_gainBy_12 : decode cX1_gainBy 12 = .ok (.isub, 1) := by decide +kernel
theorem dX1_gainBy_13 : decode cX1_gainBy 13 = .ok (.iconst 0, 1) := by decide +kernel
theorem dX1_gainBy_14 : decode cX1_gainBy 14 = .ok (.invokestatic 113, 3) := by decide +kernel
theorem dX1_gainBy_17 : decode cX1_gainBy 17 = .ok (.ireturn, 1) := by decide +kernel
set_option maxRecDepth 20000 in
theorem ggX1_lossBy_X1_grindsBy : GoodIn wsX1_lossBy wsX1_grindsBy := goodIn_r _ [9, 10, 11, 12, 13, 14, 3, 15, 16, 17, 18, 8, 19, 20, 21, 22, 23, 24, 25, 26, 27, 28, 29, 30, 31, 32, 33, 34, 35, 36, 37, 38, 39, 40, 41, 42, 43, 44, 45, 46, 47, 48, 49, 50, 51, 52, 53, 54, 55, 56, 57, 58, 59, 60] (by decide +kernel) (by decide +kernel)
set_option maxRecDepth 20000 in
theorem gX1_lossBy_X1_grindsBy : GoodIn wsX1_lossBy (wsV RX1 110 RX1 yX1_grindsBy wsX1_grindsBy) := goodIn_app (goodIn_of _ (by decide +kernel)) ggX1_lossBy_X1_grindsBy
theorem dX1_lossBy_0 : decode cX1_lossBy 0 = .ok (.aload_n 0, 1) := by decide +kernel
theorem dX1_lossBy_1 : decode cX1_lossBy 1 = .ok (.iload_n 1, 1) := by decide +kernel
theorem dX1_lossBy_2 : decode cX1_lossBy 2 = .ok (.iconst 0, 1) := by decide +kernel
theorem dX1_lossBy_3 : decode cX1_lossBy 3 = .ok (.invokevirtual 110, 3) := by decide +kernel
theorem dX1_lossBy_6 : decode cX1_lossBy 6 = .ok (.aload_n 0, 1) := by decide +kernel
theorem dX1_lossBy_7 : decode cX1_lossBy 7 = .ok (.iload_n 1, 1) := by decide +kernel
theorem dX1_lossBy_8 : decode cX1_lossBy 8 = .ok (.iload_n 2, 1) := by decide +kernel
theorem dX1_lossBy_9 : decode cX1_lossBy 9 = .ok (.invokevirtual 110, 3) := by decide +kernel
theorem dX1_lossBy_12 : decode cX1_lossBy 12 = .ok (.isub, 1) := by decide +kernel
theorem dX1_lossBy_13 : decode cX1_lossBy 13 = .ok (.iconst 0, 1) := by decide +kernel
theorem dX1_lossBy_14 : decode cX1_lossBy 14 = .ok (.invokestatic 113, 3) := by decide +kernel
theorem dX1_lossBy_17 : decode cX1_lossBy 17 = .ok (.ireturn, 1) := by decide +kernel
set_option maxRecDepth 20000 in
theorem ggX1_wearOf_X1_windLeft : GoodIn wsX1_wearOf wsX1_windLeft := goodIn_r _ [6, 7, 8, 1, 9, 10, 11, 12, 13, 14, 15, 16, 17, 18, 19, 20, 21] (by decide +kernel) (by decide +kernel)
set_option maxRecDepth 20000 in
theorem gX1_wearOf_X1_windLeft : GoodIn wsX1_wearOf (wsV RX1 101 RX1 yX1_windLeft wsX1_windLeft) := goodIn_app (goodIn_of _ (by decide +kernel)) ggX1_wearOf_X1_windLeft
theorem dX1_wearOf_0 : decode cX1_wearOf 0 = .ok (.aload_n 0, 1) := by decide +kernel
theorem dX1_wearOf_1 : decode cX1_wearOf 1 = .ok (.getfield 55, 3) := by decide +kernel
theorem dX1_wearOf_4 : decode cX1_wearOf 4 = .ok (.iconst 1, 1) := by decide +kernel
theorem dX1_wearOf_5 : decode cX1_wearOf 5 = .ok (.iload_n 1, 1) := by decide +kernel
theorem dX1_wearOf_6 : decode cX1_wearOf 6 = .ok (.ishl, 1) := by decide +kernel
theorem dX1_wearOf_7 : decode cX1_wearOf 7 = .ok (.iand, 1) := by decide +kernel
theorem dX1_wearOf_8 : decode cX1_wearOf 8 = .ok (.ifCond .ne 7, 3) := by decide +kernel
theorem dX1_wearOf_11 : decode cX1_wearOf 11 = .ok (.iconst 0, 1) := by decide +kernel
theorem dX1_wearOf_12 : decode cX1_wearOf 12 = .ok (.goto 12, 3) := by decide +kernel
theorem dX1_wearOf_15 : decode cX1_wearOf 15 = .ok (.aload_n 0, 1) := by decide +kernel
theorem dX1_wearOf_16 : decode cX1_wearOf 16 = .ok (.iload_n 1, 1) := by decide +kernel
theorem dX1_wearOf_17 : decode cX1_wearOf 17 = .ok (.iconst 0, 1) := by decide +kernel
theorem dX1_wearOf_18 : decode cX1_wearOf 18 = .ok (.invokevirtual 101, 3) := by decide +kernel
theorem dX1_wearOf_21 : decode cX1_wearOf 21 = .ok (.bipush 10, 2) := by decide +kernel
theorem dX1_wearOf_23 : decode cX1_wearOf 23 = .ok (.idiv, 1) := by decide +kernel
theorem dX1_wearOf_24 : decode cX1_wearOf 24 = .ok (.ireturn, 1) := by decide +kernel
theorem dX1_takesFrom_0 : decode cX1_takesFrom 0 = .ok (.aload_n 0, 1) := by decide +kernel
theorem dX1_takesFrom_1 : decode cX1_takesFrom 1 = .ok (.getfield 55, 3) := by decide +kernel
theorem dX1_takesFrom_4 : decode cX1_takesFrom 4 = .ok (.aload_n 0, 1) := by decide +kernel
theorem dX1_takesFrom_5 : decode cX1_takesFrom 5 = .ok (.getfield 9, 3) := by decide +kernel
theorem dX1_takesFrom_8 : decode cX1_takesFrom 8 = .ok (.iload_n 2, 1) := by decide +kernel
theorem dX1_takesFrom_9 : decode cX1_takesFrom 9 = .ok (.iaload, 1) := by decide +kernel
theorem dX1_takesFrom_10 : decode cX1_takesFrom 10 = .ok (.iand, 1) := by decide +kernel
theorem dX1_takesFrom_11 : decode cX1_takesFrom 11 = .ok (.iconst 1, 1) := by decide +kernel
theorem dX1_takesFrom_12 : decode cX1_takesFrom 12 = .ok (.iload_n 1, 1) := by decide +kernel
theorem dX1_takesFrom_13 : decode cX1_takesFrom 13 = .ok (.ishl, 1) := by decide +kernel
theorem dX1_takesFrom_14 : decode cX1_takesFrom 14 = .ok (.iand, 1) := by decide +kernel
theorem dX1_takesFrom_15 : decode cX1_takesFrom 15 = .ok (.ifCond .eq 7, 3) := by decide +kernel
theorem dX1_takesFrom_18 : decode cX1_takesFrom 18 = .ok (.iconst 1, 1) := by decide +kernel
theorem dX1_takesFrom_19 : decode cX1_takesFrom 19 = .ok (.goto 4, 3) := by decide +kernel
theorem dX1_takesFrom_22 : decode cX1_takesFrom 22 = .ok (.iconst 0, 1) := by decide +kernel
theorem dX1_takesFrom_23 : decode cX1_takesFrom 23 = .ok (.ireturn, 1) := by decide +kernel
set_option maxRecDepth 20000 in
theorem ggX1_bestSet_X1_madeBy : GoodIn wsX1_bestSet wsX1_madeBy := goodIn_r _ [7, 1, 2, 8, 9, 10, 6, 11, 12, 13, 14, 15, 16, 17, 18, 19, 20, 21, 22, 23, 24, 25, 26, 27, 28, 29, 30, 31, 32, 33, 34, 35, 36, 37, 38, 39, 40, 41, 42, 43, 44, 45, 46, 47, 48, 49, 50, 51, 52, 53, 54, 55, 56, 57, 58, 59, 60, 61, 62] (by decide +kernel) (by decide +kernel)
set_option maxRecDepth 20000 in
theorem gX1_bestSet_X1_madeBy : GoodIn wsX1_bestSet (wsV RX1 116 RX1 yX1_madeBy wsX1_madeBy) := goodIn_app (goodIn_of _ (by decide +kernel)) ggX1_bestSet_X1_madeBy
set_option maxRecDepth 20000 in
theorem ggX1_bestSet_J6_bitCount_0f7a4 : GoodIn wsX1_bestSet wsJ6_bitCount_0f7a4 := goodIn_r _ [35, 36, 37, 38] (by decide +kernel) (by decide +kernel)
set_option maxRecDepth 20000 in
theorem gX1_bestSet_J6_bitCount_0f7a4 : GoodIn wsX1_bestSet (va_wsS RX1 92 yJ6_bitCount_0f7a4 wsJ6_bitCount_0f7a4) := goodIn_app (goodIn_of _ (by decide +kernel)) ggX1_bestSet_J6_bitCount_0f7a4
theorem dX1_bestSet_0 : decode cX1_bestSet 0 = .ok (.iconst 0, 1) := by decide +kernel
theorem dX1_bestSet_1 : decode cX1_bestSet 1 = .ok (.istore_n 1, 1) := by decide +kernel
theorem dX1_bestSet_2 : decode cX1_bestSet 2 = .ok (.aload_n 0, 1) := by decide +kernel
theorem dX1_bestSet_3 : decode cX1_bestSet 3 = .ok (.iconst 0, 1) := by decide +kernel
theorem dX1_bestSet_4 : decode cX1_bestSet 4 = .ok (.invokevirtual 116, 3) := by decide +kernel
theorem dX1_bestSet_7 : decode cX1_bestSet 7 = .ok (.istore_n 2, 1) := by decide +kernel
theorem dX1_bestSet_8 : decode cX1_bestSet 8 = .ok (.iconst 1, 1) := by decide +kernel
theorem dX1_bestSet_9 : decode cX1_bestSet 9 = .ok (.istore_n 3, 1) := by decide +kernel
theorem dX1_bestSet_10 : decode cX1_bestSet 10 = .ok (.iload_n 3, 1) := by decide +kernel
theorem dX1_bestSet_11 : decode cX1_bestSet 11 = .ok (.iconst 1, 1) := by decide +kernel
theorem dX1_bestSet_12 : decode cX1_bestSet 12 = .ok (.aload_n 0, 1) := by decide +kernel
theorem dX1_bestSet_13 : decode cX1_bestSet 13 = .ok (.getfield 21, 3) := by decide +kernel
theorem dX1_bestSet_16 : decode cX1_bestSet 16 = .ok (.getfield 58, 3) := by decide +kernel
theorem dX1_bestSet_19 : decode cX1_bestSet 19 = .ok (.ishl, 1) := by decide +kernel
theorem dX1_bestSet_20 : decode cX1_bestSet 20 = .ok (.if_icmp .ge 56, 3) := by decide +kernel
theorem dX1_bestSet_23 : decode cX1_bestSet 23 = .ok (.aload_n 0, 1) := by decide +kernel
theorem dX1_bestSet_24 : decode cX1_bestSet 24 = .ok (.iload_n 3, 1) := by decide +kernel
theorem dX1_bestSet_25 : decode cX1_bestSet 25 = .ok (.invokevirtual 116, 3) := by decide +kernel
theorem dX1_bestSet_28 : decode cX1_bestSet 28 = .ok (.istore 4, 2) := by decide +kernel
theorem dX1_bestSet_30 : decode cX1_bestSet 30 = .ok (.iload_n 3, 1) := by decide +kernel
theorem dX1_bestSet_31 : decode cX1_bestSet 31 = .ok (.invokestatic 92, 3) := by decide +kernel
theorem dX1_bestSet_34 : decode cX1_bestSet 34 = .ok (.iload_n 1, 1) := by decide +kernel
theorem dX1_bestSet_35 : decode cX1_bestSet 35 = .ok (.invokestatic 92, 3) := by decide +kernel
theorem dX1_bestSet_38 : decode cX1_bestSet 38 = .ok (.if_icmp .ge 7, 3) := by decide +kernel
theorem dX1_bestSet_41 : decode cX1_bestSet 41 = .ok (.iconst 1, 1) := by decide +kernel
theorem dX1_bestSet_42 : decode cX1_bestSet 42 = .ok (.goto 4, 3) := by decide +kernel
theorem dX1_bestSet_45 : decode cX1_bestSet 45 = .ok (.iconst 0, 1) := by decide +kernel
theorem dX1_bestSet_46 : decode cX1_bestSet 46 = .ok (.istore 5, 2) := by decide +kernel
theorem dX1_bestSet_48 : decode cX1_bestSet 48 = .ok (.iload 4, 2) := by decide +kernel
theorem dX1_bestSet_50 : decode cX1_bestSet 50 = .ok (.iload_n 2, 1) := by decide +kernel
theorem dX1_bestSet_51 : decode cX1_bestSet 51 = .ok (.if_icmp .gt 14, 3) := by decide +kernel
theorem dX1_bestSet_54 : decode cX1_bestSet 54 = .ok (.iload 4, 2) := by decide +kernel
theorem dX1_bestSet_56 : decode cX1_bestSet 56 = .ok (.iload_n 2, 1) := by decide +kernel
theorem dX1_bestSet_57 : decode cX1_bestSet 57 = .ok (.if_icmp .ne 13, 3) := by decide +kernel
theorem dX1_bestSet_60 : decode cX1_bestSet 60 = .ok (.iload 5, 2) := by decide +kernel
theorem dX1_bestSet_62 : decode cX1_bestSet 62 = .ok (.ifCond .eq 8, 3) := by decide +kernel
theorem dX1_bestSet_65 : decode cX1_bestSet 65 = .ok (.iload 4, 2) := by decide +kernel
theorem dX1_bestSet_67 : decode cX1_bestSet 67 = .ok (.istore_n 2, 1) := by decide +kernel
theorem dX1_bestSet_68 : decode cX1_bestSet 68 = .ok (.iload_n 3, 1) := by decide +kernel
theorem dX1_bestSet_69 : decode cX1_bestSet 69 = .ok (.istore_n 1, 1) := by decide +kernel
theorem dX1_bestSet_70 : decode cX1_bestSet 70 = .ok (.iinc 3 1, 3) := by decide +kernel
theorem dX1_bestSet_73 : decode cX1_bestSet 73 = .ok (.goto (-63), 3) := by decide +kernel
theorem dX1_bestSet_76 : decode cX1_bestSet 76 = .ok (.iload_n 1, 1) := by decide +kernel
theorem dX1_bestSet_77 : decode cX1_bestSet 77 = .ok (.ireturn, 1) := by decide +kernel
set_option maxRecDepth 20000 in
theorem ggX1_wouldGrind_X1_strengthOf : GoodIn wsX1_wouldGrind wsX1_strengthOf := goodIn_r _ [13, 14, 1, 3, 15, 16, 17, 18, 19, 12, 20, 21, 22, 23, 24, 25, 26, 27, 28, 29, 30, 31, 32, 33, 34, 35, 36, 37, 38, 39, 40, 41, 42, 43, 44, 45, 46, 47, 48, 49, 50, 51, 52, 53, 54] (by decide +kernel) (by decide +kernel)
set_option maxRecDepth 20000 in
theorem gX1_wouldGrind_X1_strengthOf : GoodIn wsX1_wouldGrind (wsV RX1 104 RX1 yX1_strengthOf wsX1_strengthOf) := goodIn_app (goodIn_of _ (by decide +kernel)) ggX1_wouldGrind_X1_strengthOf
theorem dX1_wouldGrind_0 : decode cX1_wouldGrind 0 = .ok (.iconst 0, 1) := by decide +kernel
theorem dX1_wouldGrind_1 : decode cX1_wouldGrind 1 = .ok (.istore 4, 2) := by decide +kernel
theorem dX1_wouldGrind_3 : decode cX1_wouldGrind 3 = .ok (.iload 4, 2) := by decide +kernel
theorem dX1_wouldGrind_5 : decode cX1_wouldGrind 5 = .ok (.aload_n 0, 1) := by decide +kernel
theorem dX1_wouldGrind_6 : decode cX1_wouldGrind 6 = .ok (.getfield 21, 3) := by decide +kernel
theorem dX1_wouldGrind_9 : decode cX1_wouldGrind 9 = .ok (.getfield 58, 3) := by decide +kernel
theorem dX1_wouldGrind_12 : decode cX1_wouldGrind 12 = .ok (.if_icmp .ge 54, 3) := by decide +kernel
theorem dX1_wouldGrind_15 : decode cX1_wouldGrind 15 = .ok (.iload 4, 2) := by decide +kernel
theorem dX1_wouldGrind_17 : decode cX1_wouldGrind 17 = .ok (.aload_n 1, 1) := by decide +kernel
theorem dX1_wouldGrind_18 : decode cX1_wouldGrind 18 = .ok (.arraylength, 1) := by decide +kernel
theorem dX1_wouldGrind_19 : decode cX1_wouldGrind 19 = .ok (.if_icmp .ge 47, 3) := by decide +kernel
theorem dX1_wouldGrind_22 : decode cX1_wouldGrind 22 = .ok (.iload_n 2, 1) := by decide +kernel
theorem dX1_wouldGrind_23 : decode cX1_wouldGrind 23 = .ok (.aload_n 0, 1) := by decide +kernel
theorem dX1_wouldGrind_24 : decode cX1_wouldGrind 24 = .ok (.iload 4, 2) := by decide +kernel
theorem dX1_wouldGrind_26 : decode cX1_wouldGrind 26 = .ok (.iload_n 3, 1) := by decide +kernel
theorem dX1_wouldGrind_27 : decode cX1_wouldGrind 27 = .ok (.invokevirtual 104, 3) := by decide +kernel
theorem dX1_wouldGrind_30 : decode cX1_wouldGrind 30 = .ok (.imul, 1) := by decide +kernel
theorem dX1_wouldGrind_31 : decode cX1_wouldGrind 31 = .ok (.aload_n 0, 1) := by decide +kernel
theorem dX1_wouldGrind_32 : decode cX1_wouldGrind 32 = .ok (.getfield 21, 3) := by decide +kernel
theorem dX1_wouldGrind_35 : decode cX1_wouldGrind 35 = .ok (.getfield 37, 3) := by decide +kernel
theorem dX1_wouldGrind_38 : decode cX1_wouldGrind 38 = .ok (.iload 4, 2) := by decide +kernel
theorem dX1_wouldGrind_40 : decode cX1_wouldGrind 40 = .ok (.aaload, 1) := by decide +kernel
theorem dX1_wouldGrind_41 : decode cX1_wouldGrind 41 = .ok (.getfield 107, 3) := by decide +kernel
theorem dX1_wouldGrind_44 : decode cX1_wouldGrind 44 = .ok (.invokestatic 46, 3) := by decide +kernel
theorem dX1_wouldGrind_47 : decode cX1_wouldGrind 47 = .ok (.istore 5, 2) := by decide +kernel
theorem dX1_wouldGrind_49 : decode cX1_wouldGrind 49 = .ok (.iload 5, 2) := by decide +kernel
theorem dX1_wouldGrind_51 : decode cX1_wouldGrind 51 = .ok (.aload_n 1, 1) := by decide +kernel
theorem dX1_wouldGrind_52 : decode cX1_wouldGrind 52 = .ok (.iload 4, 2) := by decide +kernel
theorem dX1_wouldGrind_54 : decode cX1_wouldGrind 54 = .ok (.iaload, 1) := by decide +kernel
theorem dX1_wouldGrind_55 : decode cX1_wouldGrind 55 = .ok (.if_icmp .eq 5, 3) := by decide +kernel
theorem dX1_wouldGrind_58 : decode cX1_wouldGrind 58 = .ok (.iconst 0, 1) := by decide +kernel
theorem dX1_wouldGrind_59 : decode cX1_wouldGrind 59 = .ok (.ireturn, 1) := by decide +kernel
theorem dX1_wouldGrind_60 : decode cX1_wouldGrind 60 = .ok (.iinc 4 1, 3) := by decide +kernel
theorem dX1_wouldGrind_63 : decode cX1_wouldGrind 63 = .ok (.goto (-60), 3) := by decide +kernel
theorem dX1_wouldGrind_66 : decode cX1_wouldGrind 66 = .ok (.iconst 1, 1) := by decide +kernel
theorem dX1_wouldGrind_67 : decode cX1_wouldGrind 67 = .ok (.ireturn, 1) := by decide +kernel
set_option maxRecDepth 20000 in
theorem ggX2_init_X5_init : GoodIn wsX2_init wsX5_init := goodIn_r _ [9, 10, 2, 3, 11, 12, 13, 14] (by decide +kernel) (by decide +kernel)
set_option maxRecDepth 20000 in
theorem gX2_init_X5_init_n11 : GoodIn wsX2_init (wsX5_init) := ggX2_init_X5_init
theorem dX2_init_0 : decode cX2_init 0 = .ok (.aload_n 0, 1) := by decide +kernel
theorem dX2_init_1 : decode cX2_init 1 = .ok (.invokespecial 3, 3) := by decide +kernel
theorem dX2_init_4 : decode cX2_init 4 = .ok (.aload_n 0, 1) := by decide +kernel
theorem dX2_init_5 : decode cX2_init 5 = .ok (.new 9, 3) := by decide +kernel
theorem dX2_init_8 : decode cX2_init 8 = .ok (.dup, 1) := by decide +kernel
theorem dX2_init_9 : decode cX2_init 9 = .ok (.invokespecial 11, 3) := by decide +kernel
theorem dX2_init_12 : decode cX2_init 12 = .ok (.putfield 12, 3) := by decide +kernel
theorem dX2_init_15 : decode cX2_init 15 = .ok (.return_, 1) := by decide +kernel
set_option maxRecDepth 20000 in
theorem ggX2_read_X2_step : GoodIn wsX2_read wsX2_step := goodIn_r _ [10, 11, 1, 12, 13, 5, 14, 15, 16, 17, 18, 19, 20, 21, 22, 23, 24, 25, 26, 27, 28, 29, 30, 31, 32, 33, 34, 161, 162, 163, 164, 165, 166, 167, 174, 175] (by decide +kernel) (by decide +kernel)
set_option maxRecDepth 20000 in
theorem gX2_read_X2_step : GoodIn wsX2_read (wsV RX2 33 RX2 yX2_step wsX2_step) := goodIn_app (goodIn_of _ (by decide +kernel)) ggX2_read_X2_step
set_option maxRecDepth 20000 in
theorem ggX2_read_X2_readLaw : GoodIn wsX2_read wsX2_readLaw := goodIn_r _ [38, 39, 40, 41, 42, 43, 44, 9, 45, 46, 47, 48, 49, 5, 11, 12, 1, 50, 51, 52, 19, 53, 21, 22, 54, 55, 56, 57, 58, 59, 60, 61, 62, 63, 64, 65, 66, 67, 68, 69, 70, 71, 72, 73, 74, 75, 76, 77, 78, 79, 80, 81, 82, 83, 84, 85, 86, 87, 88, 89, 90, 91, 92, 93, 94, 95, 96, 97, 98, 99, 100, 101, 102, 103, 104, 105, 106, 2, 107, 108, 109, 110, 111, 6, 7, 8, 10, 13, 14, 15, 16, 17, 18, 20, 23, 24, 25, 26, 27, 28, 29, 30, 31, 32, 33, 34, 112, 113, 114, 115, 116, 117, 118, 119, 120, 121, 122, 168, 169, 170, 171, 172, 173, 161, 162, 163, 164, 165, 166, 167, 174, 175] (by decide +kernel) (by decide +kernel)
set_option maxRecDepth 20000 in
theorem gX2_read_X2_readLaw : GoodIn wsX2_read (wsV RX2 36 RX2 yX2_readLaw wsX2_readLaw) := goodIn_app (goodIn_of _ (by decide +kernel)) ggX2_read_X2_readLaw
set_option maxRecDepth 20000 in
theorem ggX2_read_X2_readMill : GoodIn wsX2_read wsX2_readMill := goodIn_r _ [126, 3, 2, 127, 128, 5, 14, 129, 130, 131, 132, 133, 46, 47, 48, 9, 49, 11, 12, 1, 50, 51, 52, 19, 53, 21, 22, 54, 55, 56, 57, 58, 59, 60, 61, 62, 63, 64, 65, 66, 67, 68, 69, 70, 71, 72, 73, 74, 75, 76, 77, 78, 79, 80, 81, 82, 83, 84, 85, 86, 87, 88, 89, 90, 91, 92, 93, 94, 95, 96, 97, 98, 99, 100, 101, 102, 107, 108, 109, 110, 111, 42, 43, 44, 45, 103, 104, 105, 106, 6, 7, 8, 10, 13, 15, 16, 17, 18, 20, 23, 24, 25, 26, 27, 28, 29, 30, 31, 32, 33, 34, 134, 135, 136, 137, 138, 139, 140, 141, 142, 143, 144, 145, 146, 147, 148, 149, 150, 151, 112, 113, 114, 115, 116, 117, 118, 152, 153, 154, 155, 156, 157, 158, 159, 160, 119, 120, 121, 122, 168, 169, 170, 171, 172, 173, 161, 162, 163, 164, 165, 166, 167, 176, 177, 178, 179, 180, 181, 182, 183, 184, 185, 186, 187, 174, 175] (by decide +kernel) (by decide +kernel)
set_option maxRecDepth 20000 in
theorem gX2_read_X2_readMill : GoodIn wsX2_read (wsV RX2 40 RX2 yX2_readMill wsX2_readMill) := goodIn_app (goodIn_of _ (by decide +kernel)) ggX2_read_X2_readMill
theorem dX2_read_0 : decode cX2_read 0 = .ok (.aload_n 0, 1) := by decide +kernel
theorem dX2_read_1 : decode cX2_read 1 = .ok (.iconst 0, 1) := by decide +kernel
theorem dX2_read_2 : decode cX2_read 2 = .ok (.putfield 18, 3) := by decide +kernel
theorem dX2_read_5 : decode cX2_read 5 = .ok (.aload_n 0, 1) := by decide +kernel
theorem dX2_read_6 : decode cX2_read 6 = .ok (.iconst 0, 1) := by decide +kernel
theorem dX2_read_7 : decode cX2_read 7 = .ok (.putfield 22, 3) := by decide +kernel
theorem dX2_read_10 : decode cX2_read 10 = .ok (.aload_n 1, 1) := by decide +kernel
theorem dX2_read_11 : decode cX2_read 11 = .ok (.iconst 0, 1) := by decide +kernel
theorem dX2_read_12 : decode cX2_read 12 = .ok (.putfield 25, 3) := by decide +kernel
theorem dX2_read_15 : decode cX2_read 15 = .ok (.aload_n 1, 1) := by decide +kernel
theorem dX2_read_16 : decode cX2_read 16 = .ok (.iconst 0, 1) := by decide +kernel
theorem dX2_read_17 : decode cX2_read 17 = .ok (.putfield 30, 3) := by decide +kernel
theorem dX2_read_20 : decode cX2_read 20 = .ok (.aload_n 0, 1) := by decide +kernel
theorem dX2_read_21 : decode cX2_read 21 = .ok (.invokevirtual 33, 3) := by decide +kernel
theorem dX2_read_24 : decode cX2_read 24 = .ok (.aload_n 0, 1) := by decide +kernel
theorem dX2_read_25 : decode cX2_read 25 = .ok (.aload_n 1, 1) := by decide +kernel
theorem dX2_read_26 : decode cX2_read 26 = .ok (.invokevirtual 36, 3) := by decide +kernel
theorem dX2_read_29 : decode cX2_read 29 = .ok (.aload_n 0, 1) := by decide +kernel
theorem dX2_read_30 : decode cX2_read 30 = .ok (.aload_n 1, 1) := by decide +kernel
theorem dX2_read_31 : decode cX2_read 31 = .ok (.invokevirtual 40, 3) := by decide +kernel
theorem dX2_read_34 : decode cX2_read 34 = .ok (.iconst 0, 1) := by decide +kernel
theorem dX2_read_35 : decode cX2_read 35 = .ok (.istore_n 2, 1) := by decide +kernel
theorem dX2_read_36 : decode cX2_read 36 = .ok (.iload_n 2, 1) := by decide +kernel
theorem dX2_read_37 : decode cX2_read 37 = .ok (.bipush 8, 2) := by decide +kernel
theorem dX2_read_39 : decode cX2_read 39 = .ok (.if_icmp .ge 28, 3) := by decide +kernel
theorem dX2_read_42 : decode cX2_read 42 = .ok (.aload_n 0, 1) := by decide +kernel
theorem dX2_read_43 : decode cX2_read 43 = .ok (.getfield 22, 3) := by decide +kernel
theorem dX2_read_46 : decode cX2_read 46 = .ok (.ifCond .ne 21, 3) := by decide +kernel
theorem dX2_read_49 : decode cX2_read 49 = .ok (.aload_n 0, 1) := by decide +kernel
theorem dX2_read_50 : decode cX2_read 50 = .ok (.getfield 43, 3) := by decide +kernel
theorem dX2_read_53 : decode cX2_read 53 = .ok (.ifCond .eq 14, 3) := by decide +kernel
theorem dX2_read_56 : decode cX2_read 56 = .ok (.aload_n 0, 1) := by decide +kernel
theorem dX2_read_57 : decode cX2_read 57 = .ok (.aload_n 1, 1) := by decide +kernel
theorem dX2_read_58 : decode cX2_read 58 = .ok (.invokevirtual 40, 3) := by decide +kernel
theorem dX2_read_61 : decode cX2_read 61 = .ok (.iinc 2 1, 3) := by decide +kernel
theorem dX2_read_64 : decode cX2_read 64 = .ok (.goto (-28), 3) := by decide +kernel
theorem dX2_read_67 : decode cX2_read 67 = .ok (.aload_n 0, 1) := by decide +kernel
theorem dX2_read_68 : decode cX2_read 68 = .ok (.getfield 22, 3) := by decide +kernel
theorem dX2_read_71 : decode cX2_read 71 = .ok (.ireturn, 1) := by decide +kernel
set_option maxRecDepth 20000 in
theorem ggX2_readLaw_X2_takeName : GoodIn wsX2_readLaw wsX2_takeName := goodIn_r _ [8, 9, 10, 11, 7, 12, 13, 14, 15, 16, 17, 18, 19, 20, 21, 22, 23, 24, 25, 26, 27, 28, 29, 30, 31, 32, 33, 34, 35, 36, 37, 38, 39, 40, 41, 42, 43, 44, 45, 46, 47, 48, 49, 50, 51, 52, 53, 54, 55, 56, 57, 58, 59, 60, 61, 62, 63, 64, 65, 66, 67, 68, 69, 70, 71, 72, 73, 74, 75, 76, 77, 78, 79, 80, 81, 82, 83, 84, 85, 86, 87, 88, 89, 90, 91, 92, 93, 94, 95, 96, 97, 98, 99, 100, 101, 102, 103, 104, 105, 123, 124, 125, 126, 127, 128, 129, 130, 131] (by decide +kernel) (by decide +kernel)
set_option maxRecDepth 20000 in
theorem gX2_readLaw_X2_takeName : GoodIn wsX2_readLaw (wsV RX2 48 RX2 yX2_takeName wsX2_takeName) := goodIn_app (goodIn_of _ (by decide +kernel)) ggX2_readLaw_X2_takeName
set_option maxRecDepth 20000 in
theorem ggX2_readLaw_X2_takeNumber : GoodIn wsX2_readLaw wsX2_takeNumber := goodIn_r _ [109, 13, 88, 110, 111, 112, 78, 79, 80, 7, 81, 77, 15, 82, 73, 74, 75, 76, 83, 84, 85, 86, 14, 16, 87, 89, 90, 91, 92, 20, 93, 22, 23, 94, 95, 96, 97, 98, 99, 100, 101, 102, 103, 104, 105, 123, 124, 125, 126, 127, 128, 129, 130, 131] (by decide +kernel) (by decide +kernel)
set_option maxRecDepth 20000 in
theorem gX2_readLaw_X2_takeNumber : GoodIn wsX2_readLaw (wsV RX2 52 RX2 yX2_takeNumber wsX2_takeNumber) := goodIn_app (goodIn_of _ (by decide +kernel)) ggX2_readLaw_X2_takeNumber
set_option maxRecDepth 20000 in
theorem ggX2_readLaw_X2_takeSign : GoodIn wsX2_readLaw wsX2_takeSign := goodIn_r _ [116, 13, 73, 74, 75, 7, 76, 77, 78, 79, 80, 81, 15, 82, 83, 84, 85, 86, 14, 16, 87, 88, 89, 90, 91, 92, 20, 93, 22, 23, 94, 95, 96, 97, 98, 99, 100, 101, 102, 103, 104, 105, 123, 124, 125, 126, 127, 128, 129, 130, 131] (by decide +kernel) (by decide +kernel)
set_option maxRecDepth 20000 in
theorem gX2_readLaw_X2_takeSign : GoodIn wsX2_readLaw (wsV RX2 65 RX2 yX2_takeSign wsX2_takeSign) := goodIn_app (goodIn_of _ (by decide +kernel)) ggX2_readLaw_X2_takeSign
theorem dX2_readLaw_0 : decode cX2_readLaw 0 = .ok (.aload_n 0, 1) := by decide +kernel
theorem dX2_readLaw_1 : decode cX2_readLaw 1 = .ok (.ldc 46, 2) := by decide +kernel
theorem dX2_readLaw_3 : decode cX2_readLaw 3 = .ok (.invokevirtual 48, 3) := by decide +kernel
theorem dX2_readLaw_6 : decode cX2_readLaw 6 = .ok (.aload_n 1, 1) := by decide +kernel
theorem dX2_readLaw_7 : decode cX2_readLaw 7 = .ok (.aload_n 0, 1) := by decide +kernel
theorem dX2_readLaw_8 : decode cX2_readLaw 8 = .ok (.iconst 0, 1) := by decide +kernel
theorem dX2_readLaw_9 : decode cX2_readLaw 9 = .ok (.bipush 90, 2) := by decide +kernel
theorem dX2_readLaw_11 : decode cX2_readLaw 11 = .ok (.invokevirtual 52, 3) := by decide +kernel
theorem dX2_readLaw_14 : decode cX2_readLaw 14 = .ok (.putfield 56, 3) := by decide +kernel
theorem dX2_readLaw_17 : decode cX2_readLaw 17 = .ok (.aload_n 1, 1) := by decide +kernel
theorem dX2_readLaw_18 : decode cX2_readLaw 18 = .ok (.aload_n 0, 1) := by decide +kernel
theorem dX2_readLaw_19 : decode cX2_readLaw 19 = .ok (.iconst 0, 1) := by decide +kernel
theorem dX2_readLaw_20 : decode cX2_readLaw 20 = .ok (.bipush 50, 2) := by decide +kernel
theorem dX2_readLaw_22 : decode cX2_readLaw 22 = .ok (.invokevirtual 52, 3) := by decide +kernel
theorem dX2_readLaw_25 : decode cX2_readLaw 25 = .ok (.putfield 59, 3) := by decide +kernel
theorem dX2_readLaw_28 : decode cX2_readLaw 28 = .ok (.aload_n 1, 1) := by decide +kernel
theorem dX2_readLaw_29 : decode cX2_readLaw 29 = .ok (.aload_n 0, 1) := by decide +kernel
theorem dX2_readLaw_30 : decode cX2_readLaw 30 = .ok (.iconst 0, 1) := by decide +kernel
theorem dX2_readLaw_31 : decode cX2_readLaw 31 = .ok (.bipush 99, 2) := by decide +kernel
theorem dX2_readLaw_33 : decode cX2_readLaw 33 = .ok (.invokevirtual 52, 3) := by decide +kernel
theorem dX2_readLaw_36 : decode cX2_readLaw 36 = .ok (.putfield 62, 3) := by decide +kernel
theorem dX2_readLaw_39 : decode cX2_readLaw 39 = .ok (.aload_n 0, 1) := by decide +kernel
theorem dX2_readLaw_40 : decode cX2_readLaw 40 = .ok (.invokevirtual 65, 3) := by decide +kernel
theorem dX2_readLaw_43 : decode cX2_readLaw 43 = .ok (.return_, 1) := by decide +kernel
set_option maxRecDepth 20000 in
theorem ggX2_readMill_X2_isName : GoodIn wsX2_readMill wsX2_isName := goodIn_r _ [16, 5, 17, 18, 19, 20, 21, 22, 23, 24, 25, 26, 27, 28, 29, 30, 31, 32, 33, 34, 35, 36, 37, 38, 39, 40, 41, 42, 43, 44, 45, 46, 47, 48, 49, 50, 51, 52, 53, 54, 55, 56, 57, 58, 59, 60, 61, 62, 63, 64, 65, 66, 67, 68, 69, 70, 71, 72, 73, 74, 75, 155, 156, 157, 158, 159, 160, 161, 174, 175] (by decide +kernel) (by decide +kernel)
set_option maxRecDepth 20000 in
theorem gX2_readMill_X2_isName : GoodIn wsX2_readMill (wsV RX2 70 RX2 yX2_isName wsX2_isName) := goodIn_app (goodIn_of _ (by decide +kernel)) ggX2_readMill_X2_isName
set_option maxRecDepth 20000 in
theorem ggX2_readMill_X2_refuse : GoodIn wsX2_readMill wsX2_refuse := goodIn_r _ [79, 2, 18, 80, 155, 156, 157, 158, 159, 160, 161] (by decide +kernel) (by decide +kernel)
set_option maxRecDepth 20000 in
theorem gX2_readMill_X2_refuse : GoodIn wsX2_readMill (wsV RX2 74 RX2 yX2_refuse wsX2_refuse) := goodIn_app (goodIn_of _ (by decide +kernel)) ggX2_readMill_X2_refuse
set_option maxRecDepth 20000 in
theorem ggX2_readMill_X2_takeName : GoodIn wsX2_readMill wsX2_takeName := goodIn_r _ [84, 12, 13, 14, 15, 16, 5, 17, 18, 19, 20, 21, 22, 23, 24, 25, 26, 27, 28, 29, 30, 31, 32, 33, 34, 35, 36, 37, 38, 39, 40, 41, 42, 43, 44, 45, 46, 47, 48, 49, 50, 51, 52, 53, 54, 55, 56, 57, 58, 59, 60, 61, 62, 63, 64, 65, 66, 67, 68, 69, 70, 71, 72, 73, 74, 75, 85, 86, 87, 88, 2, 76, 77, 78, 79, 80, 89, 90, 91, 92, 93, 6, 94, 95, 96, 97, 98, 99, 100, 101, 102, 103, 104, 105, 106, 107, 108, 109, 110, 155, 156, 157, 158, 159, 160, 161, 174, 175] (by decide +kernel) (by decide +kernel)
set_option maxRecDepth 20000 in
theorem gX2_readMill_X2_takeName : GoodIn wsX2_readMill (wsV RX2 48 RX2 yX2_takeName wsX2_takeName) := goodIn_app (goodIn_of _ (by decide +kernel)) ggX2_readMill_X2_takeName
set_option maxRecDepth 20000 in
theorem ggX2_readMill_X2_takeSort : GoodIn wsX2_readMill wsX2_takeSort := goodIn_r _ [114, 115, 116, 15, 117, 12, 13, 14, 16, 5, 17, 18, 19, 20, 21, 22, 23, 24, 25, 26, 27, 28, 29, 30, 31, 32, 33, 34, 35, 36, 37, 38, 39, 40, 41, 42, 43, 44, 45, 46, 47, 48, 49, 50, 51, 52, 53, 54, 55, 56, 57, 58, 59, 60, 61, 62, 63, 64, 65, 66, 67, 68, 69, 70, 71, 72, 73, 74, 75, 85, 86, 87, 88, 2, 76, 77, 78, 79, 80, 89, 90, 91, 92, 93, 6, 94, 95, 96, 97, 98, 99, 100, 101, 102, 103, 104, 105, 106, 107, 108, 109, 110, 155, 156, 157, 158, 159, 160, 161, 174, 175] (by decide +kernel) (by decide +kernel)
set_option maxRecDepth 20000 in
theorem gX2_readMill_X2_takeSort : GoodIn wsX2_readMill (wsV RX2 82 RX2 yX2_takeSort wsX2_takeSort) := goodIn_app (goodIn_of _ (by decide +kernel)) ggX2_readMill_X2_takeSort
set_option maxRecDepth 20000 in
theorem ggX2_readMill_X0_begin : GoodIn wsX2_readMill wsX0_begin := goodIn_r _ [122, 123, 124, 125, 126, 127, 128, 162, 163, 164, 165, 166, 167, 168, 169, 170, 171, 172, 173] (by decide +kernel) (by decide +kernel)
set_option maxRecDepth 20000 in
theorem gX2_readMill_X0_begin : GoodIn wsX2_readMill (wsV RX2 86 RX0 yX0_begin wsX0_begin) := goodIn_app (goodIn_of _ (by decide +kernel)) ggX2_readMill_X0_begin
set_option maxRecDepth 20000 in
theorem ggX2_readMill_X2_takeNumber : GoodIn wsX2_readMill wsX2_takeNumber := goodIn_r _ [132, 5, 6, 133, 134, 135, 76, 77, 78, 15, 79, 2, 18, 80, 85, 86, 87, 88, 89, 90, 91, 92, 17, 19, 93, 94, 95, 96, 97, 23, 98, 25, 26, 99, 100, 101, 102, 103, 104, 105, 106, 107, 108, 109, 110, 155, 156, 157, 158, 159, 160, 161, 174, 175] (by decide +kernel) (by decide +kernel)
set_option maxRecDepth 20000 in
theorem gX2_readMill_X2_takeNumber : GoodIn wsX2_readMill (wsV RX2 52 RX2 yX2_takeNumber wsX2_takeNumber) := goodIn_app (goodIn_of _ (by decide +kernel)) ggX2_readMill_X2_takeNumber
set_option maxRecDepth 20000 in
theorem ggX2_readMill_X3_isTaken : GoodIn wsX2_readMill wsX3_isTaken := goodIn_r _ [140, 141, 142, 143, 144, 149, 150, 151, 152, 153, 154, 162, 163, 164, 165, 166, 167, 168, 169, 170, 171, 172, 173] (by decide +kernel) (by decide +kernel)
set_option maxRecDepth 20000 in
theorem gX2_readMill_X3_isTaken : GoodIn wsX2_readMill (wsV RX2 98 RX3 yX3_isTaken wsX3_isTaken) := goodIn_app (goodIn_of _ (by decide +kernel)) ggX2_readMill_X3_isTaken
set_option maxRecDepth 20000 in
theorem ggX2_readMill_X2_takeSign : GoodIn wsX2_readMill wsX2_takeSign := goodIn_r _ [148, 5, 85, 86, 87, 15, 88, 2, 76, 77, 78, 79, 18, 80, 89, 90, 91, 92, 17, 19, 93, 6, 94, 95, 96, 97, 23, 98, 25, 26, 99, 100, 101, 102, 103, 104, 105, 106, 107, 108, 109, 110, 155, 156, 157, 158, 159, 160, 161, 174, 175] (by decide +kernel) (by decide +kernel)
set_option maxRecDepth 20000 in
theorem gX2_readMill_X2_takeSign : GoodIn wsX2_readMill (wsV RX2 65 RX2 yX2_takeSign wsX2_takeSign) := goodIn_app (goodIn_of _ (by decide +kernel)) ggX2_readMill_X2_takeSign
theorem dX2_readMill_0 : decode cX2_readMill 0 = .ok (.aload_n 1, 1) := by decide +kernel
theorem dX2_readMill_1 : decode cX2_readMill 1 = .ok (.getfield 25, 3) := by decide +kernel
theorem dX2_readMill_4 : decode cX2_readMill 4 = .ok (.bipush 8, 2) := by decide +kernel
theorem dX2_readMill_6 : decode cX2_readMill 6 = .ok (.if_icmp .lt 7, 3) := by decide +kernel
theorem dX2_readMill_9 : decode cX2_readMill 9 = .ok (.iconst 1, 1) := by decide +kernel
theorem dX2_readMill_10 : decode cX2_readMill 10 = .ok (.goto 4, 3) := by decide +kernel
theorem dX2_readMill_13 : decode cX2_readMill 13 = .ok (.iconst 0, 1) := by decide +kernel
theorem dX2_readMill_14 : decode cX2_readMill 14 = .ok (.istore_n 2, 1) := by decide +kernel
theorem dX2_readMill_15 : decode cX2_readMill 15 = .ok (.iload_n 2, 1) := by decide +kernel
theorem dX2_readMill_16 : decode cX2_readMill 16 = .ok (.ifCond .eq 17, 3) := by decide +kernel
theorem dX2_readMill_19 : decode cX2_readMill 19 = .ok (.aload_n 0, 1) := by decide +kernel
theorem dX2_readMill_20 : decode cX2_readMill 20 = .ok (.ldc 68, 2) := by decide +kernel
theorem dX2_readMill_22 : decode cX2_readMill 22 = .ok (.invokevirtual 70, 3) := by decide +kernel
theorem dX2_readMill_25 : decode cX2_readMill 25 = .ok (.ifCond .eq 8, 3) := by decide +kernel
theorem dX2_readMill_28 : decode cX2_readMill 28 = .ok (.aload_n 0, 1) := by decide +kernel
theorem dX2_readMill_29 : decode cX2_readMill 29 = .ok (.iconst 3, 1) := by decide +kernel
theorem dX2_readMill_30 : decode cX2_readMill 30 = .ok (.invokevirtual 74, 3) := by decide +kernel
theorem dX2_readMill_33 : decode cX2_readMill 33 = .ok (.aload_n 0, 1) := by decide +kernel
theorem dX2_readMill_34 : decode cX2_readMill 34 = .ok (.ldc 68, 2) := by decide +kernel
theorem dX2_readMill_36 : decode cX2_readMill 36 = .ok (.invokevirtual 48, 3) := by decide +kernel
theorem dX2_readMill_39 : decode cX2_readMill 39 = .ok (.iload_n 2, 1) := by decide +kernel
theorem dX2_readMill_40 : decode cX2_readMill 40 = .ok (.ifCond .ne 10, 3) := by decide +kernel
theorem dX2_readMill_43 : decode cX2_readMill 43 = .ok (.aload_n 0, 1) := by decide +kernel
theorem dX2_readMill_44 : decode cX2_readMill 44 = .ok (.getfield 22, 3) := by decide +kernel
theorem dX2_readMill_47 : decode cX2_readMill 47 = .ok (.ifCond .eq 4, 3) := by decide +kernel
theorem dX2_readMill_50 : decode cX2_readMill 50 = .ok (.return_, 1) := by decide +kernel
theorem dX2_readMill_51 : decode cX2_readMill 51 = .ok (.aload_n 1, 1) := by decide +kernel
theorem dX2_readMill_52 : decode cX2_readMill 52 = .ok (.getfield 78, 3) := by decide +kernel
theorem dX2_readMill_55 : decode cX2_readMill 55 = .ok (.aload_n 1, 1) := by decide +kernel
theorem dX2_readMill_56 : decode cX2_readMill 56 = .ok (.getfield 25, 3) := by decide +kernel
theorem dX2_readMill_59 : decode cX2_readMill 59 = .ok (.aaload, 1) := by decide +kernel
theorem dX2_readMill_60 : decode cX2_readMill 60 = .ok (.astore_n 3, 1) := by decide +kernel
theorem dX2_readMill_61 : decode cX2_readMill 61 = .ok (.aload_n 3, 1) := by decide +kernel
theorem dX2_readMill_62 : decode cX2_readMill 62 = .ok (.aload_n 1, 1) := by decide +kernel
theorem dX2_readMill_63 : decode cX2_readMill 63 = .ok (.getfield 25, 3) := by decide +kernel
theorem dX2_readMill_66 : decode cX2_readMill 66 = .ok (.aload_n 0, 1) := by decide +kernel
theorem dX2_readMill_67 : decode cX2_readMill 67 = .ok (.invokevirtual 82, 3) := by decide +kernel
theorem dX2_readMill_70 : decode cX2_readMill 70 = .ok (.invokevirtual 86, 3) := by decide +kernel
theorem dX2_readMill_73 : decode cX2_readMill 73 = .ok (.aload_n 3, 1) := by decide +kernel
theorem dX2_readMill_74 : decode cX2_readMill 74 = .ok (.aload_n 0, 1) := by decide +kernel
theorem dX2_readMill_75 : decode cX2_readMill 75 = .ok (.iconst 0, 1) := by decide +kernel
theorem dX2_readMill_76 : decode cX2_readMill 76 = .ok (.bipush 20, 2) := by decide +kernel
theorem dX2_readMill_78 : decode cX2_readMill 78 = .ok (.invokevirtual 52, 3) := by decide +kernel
theorem dX2_readMill_81 : decode cX2_readMill 81 = .ok (.putfield 92, 3) := by decide +kernel
theorem dX2_readMill_84 : decode cX2_readMill 84 = .ok (.aload_n 0, 1) := by decide +kernel
theorem dX2_readMill_85 : decode cX2_readMill 85 = .ok (.getfield 43, 3) := by decide +kernel
theorem dX2_readMill_88 : decode cX2_readMill 88 = .ok (.iconst 2, 1) := by decide +kernel
theorem dX2_readMill_89 : decode cX2_readMill 89 = .ok (.if_icmp .ne 23, 3) := by decide +kernel
theorem dX2_readMill_92 : decode cX2_readMill 92 = .ok (.aload_n 1, 1) := by decide +kernel
theorem dX2_readMill_93 : decode cX2_readMill 93 = .ok (.aload_n 3, 1) := by decide +kernel
theorem dX2_readMill_94 : decode cX2_readMill 94 = .ok (.getfield 92, 3) := by decide +kernel
theorem dX2_readMill_97 : decode cX2_readMill 97 = .ok (.aload_n 0, 1) := by decide +kernel
theorem dX2_readMill_98 : decode cX2_readMill 98 = .ok (.getfield 95, 3) := by decide +kernel
theorem dX2_readMill_101 : decode cX2_readMill 101 = .ok (.invokevirtual 98, 3) := by decide +kernel
theorem dX2_readMill_104 : decode cX2_readMill 104 = .ok (.ifCond .eq 8, 3) := by decide +kernel
theorem dX2_readMill_107 : decode cX2_readMill 107 = .ok (.aload_n 0, 1) := by decide +kernel
theorem dX2_readMill_108 : decode cX2_readMill 108 = .ok (.iconst 2, 1) := by decide +kernel
theorem dX2_readMill_109 : decode cX2_readMill 109 = .ok (.invokevirtual 74, 3) := by decide +kernel
theorem dX2_readMill_112 : decode cX2_readMill 112 = .ok (.aload_n 3, 1) := by decide +kernel
theorem dX2_readMill_113 : decode cX2_readMill 113 = .ok (.aload_n 0, 1) := by decide +kernel
theorem dX2_readMill_114 : decode cX2_readMill 114 = .ok (.iconst 0, 1) := by decide +kernel
theorem dX2_readMill_115 : decode cX2_readMill 115 = .ok (.bipush 20, 2) := by decide +kernel
theorem dX2_readMill_117 : decode cX2_readMill 117 = .ok (.invokevirtual 52, 3) := by decide +kernel
theorem dX2_readMill_120 : decode cX2_readMill 120 = .ok (.putfield 102, 3) := by decide +kernel
theorem dX2_readMill_123 : decode cX2_readMill 123 = .ok (.aload_n 3, 1) := by decide +kernel
theorem dX2_readMill_124 : decode cX2_readMill 124 = .ok (.aload_n 0, 1) := by decide +kernel
theorem dX2_readMill_125 : decode cX2_readMill 125 = .ok (.iconst 1, 1) := by decide +kernel
theorem dX2_readMill_126 : decode cX2_readMill 126 = .ok (.bipush 9, 2) := by decide +kernel
theorem dX2_readMill_128 : decode cX2_readMill 128 = .ok (.invokevirtual 52, 3) := by decide +kernel
theorem dX2_readMill_131 : decode cX2_readMill 131 = .ok (.putfield 105, 3) := by decide +kernel
theorem dX2_readMill_134 : decode cX2_readMill 134 = .ok (.aload_n 3, 1) := by decide +kernel
theorem dX2_readMill_135 : decode cX2_readMill 135 = .ok (.aload_n 0, 1) := by decide +kernel
theorem dX2_readMill_136 : decode cX2_readMill 136 = .ok (.iconst 1, 1) := by decide +kernel
theorem dX2_readMill_137 : decode cX2_readMill 137 = .ok (.bipush 9, 2) := by decide +kernel
theorem dX2_readMill_139 : decode cX2_readMill 139 = .ok (.invokevirtual 52, 3) := by decide +kernel
theorem dX2_readMill_142 : decode cX2_readMill 142 = .ok (.putfield 108, 3) := by decide +kernel
theorem dX2_readMill_145 : decode cX2_readMill 145 = .ok (.aload_n 3, 1) := by decide +kernel
theorem dX2_readMill_146 : decode cX2_readMill 146 = .ok (.aload_n 0, 1) := by decide +kernel
theorem dX2_readMill_147 : decode cX2_readMill 147 = .ok (.iconst 0, 1) := by decide +kernel
theorem dX2_readMill_148 : decode cX2_readMill 148 = .ok (.bipush 99, 2) := by decide +kernel
theorem dX2_readMill_150 : decode cX2_readMill 150 = .ok (.invokevirtual 52, 3) := by decide +kernel
theorem dX2_readMill_153 : decode cX2_readMill 153 = .ok (.putfield 111, 3) := by decide +kernel
theorem dX2_readMill_156 : decode cX2_readMill 156 = .ok (.aload_n 3, 1) := by decide +kernel
theorem dX2_readMill_157 : decode cX2_readMill 157 = .ok (.aload_n 0, 1) := by decide +kernel
theorem dX2_readMill_158 : decode cX2_readMill 158 = .ok (.iconst 0, 1) := by decide +kernel
theorem dX2_readMill_159 : decode cX2_readMill 159 = .ok (.sipush 999, 3) := by decide +kernel
theorem dX2_readMill_162 : decode cX2_readMill 162 = .ok (.invokevirtual 52, 3) := by decide +kernel
theorem dX2_readMill_165 : decode cX2_readMill 165 = .ok (.putfield 114, 3) := by decide +kernel
theorem dX2_readMill_168 : decode cX2_readMill 168 = .ok (.aload_n 0, 1) := by decide +kernel
theorem dX2_readMill_169 : decode cX2_readMill 169 = .ok (.invokevirtual 65, 3) := by decide +kernel
theorem dX2_readMill_172 : decode cX2_readMill 172 = .ok (.aload_n 1, 1) := by decide +kernel
theorem dX2_readMill_173 : decode cX2_readMill 173 = .ok (.dup, 1) := by decide +kernel
theorem dX2_readMill_174 : decode cX2_readMill 174 = .ok (.getfield 25, 3) := by decide +kernel
theorem dX2_readMill_177 : decode cX2_readMill 177 = .ok (.iconst 1, 1) := by decide +kernel
theorem dX2_readMill_178 : decode cX2_readMill 178 = .ok (.iadd, 1) := by decide +kernel
theorem dX2_readMill_179 : decode cX2_readMill 179 = .ok (.putfield 25, 3) := by decide +kernel
theorem dX2_readMill_182 : decode cX2_readMill 182 = .ok (.return_, 1) := by decide +kernel
theorem dX2_refuse_0 : decode cX2_refuse 0 = .ok (.aload_n 0, 1) := by decide +kernel
theorem dX2_refuse_1 : decode cX2_refuse 1 = .ok (.getfield 22, 3) := by decide +kernel
theorem dX2_refuse_4 : decode cX2_refuse 4 = .ok (.ifCond .ne 16, 3) := by decide +kernel
theorem dX2_refuse_7 : decode cX2_refuse 7 = .ok (.aload_n 0, 1) := by decide +kernel
theorem dX2_refuse_8 : decode cX2_refuse 8 = .ok (.iload_n 1, 1) := by decide +kernel
theorem dX2_refuse_9 : decode cX2_refuse 9 = .ok (.putfield 22, 3) := by decide +kernel
theorem dX2_refuse_12 : decode cX2_refuse 12 = .ok (.aload_n 0, 1) := by decide +kernel
theorem dX2_refuse_13 : decode cX2_refuse 13 = .ok (.aload_n 0, 1) := by decide +kernel
theorem dX2_refuse_14 : decode cX2_refuse 14 = .ok (.getfield 117, 3) := by decide +kernel
theorem dX2_refuse_17 : decode cX2_refuse 17 = .ok (.putfield 120, 3) := by decide +kernel
theorem dX2_refuse_20 : decode cX2_refuse 20 = .ok (.return_, 1) := by decide +kernel
set_option maxRecDepth 20000 in
theorem ggX2_takeName_X2_isName : GoodIn wsX2_takeName wsX2_isName := goodIn_r _ [5, 6, 7, 8, 9, 10, 11, 12, 13, 14, 15, 16, 17, 18, 19, 20, 21, 22, 23, 24, 25, 26, 27, 28, 29, 30, 31, 32, 33, 34, 35, 36, 37, 38, 39, 40, 41, 42, 43, 44, 45, 46, 47, 48, 49, 50, 51, 52, 53, 54, 55, 56, 57, 58, 59, 60, 61, 62, 63, 64, 65, 99, 100, 101, 102, 103, 104, 105, 106, 107] (by decide +kernel) (by decide +kernel)
set_option maxRecDepth 20000 in
theorem gX2_takeName_X2_isName : GoodIn wsX2_takeName (wsV RX2 70 RX2 yX2_isName wsX2_isName) := goodIn_app (goodIn_of _ (by decide +kernel)) ggX2_takeName_X2_isName
set_option maxRecDepth 20000 in
theorem ggX2_takeName_X2_take : GoodIn wsX2_takeName wsX2_take := goodIn_r _ [69, 70, 71, 72, 73, 4, 74, 8, 75, 76, 77, 78, 79, 7, 9, 80, 6, 81, 82, 83, 84, 85, 13, 86, 15, 16, 87, 88, 89, 90, 91, 92, 93, 94, 95, 96, 97, 98, 99, 100, 101, 102, 103, 104, 105, 106, 107] (by decide +kernel) (by decide +kernel)
set_option maxRecDepth 20000 in
theorem gX2_takeName_X2_take : GoodIn wsX2_takeName (wsV RX2 123 RX2 yX2_take wsX2_take) := goodIn_app (goodIn_of _ (by decide +kernel)) ggX2_takeName_X2_take
theorem dX2_takeName_0 : decode cX2_takeName 0 = .ok (.aload_n 0, 1) := by decide +kernel
theorem dX2_takeName_1 : decode cX2_takeName 1 = .ok (.aload_n 0, 1) := by decide +kernel
theorem dX2_takeName_2 : decode cX2_takeName 2 = .ok (.aload_n 1, 1) := by decide +kernel
theorem dX2_takeName_3 : decode cX2_takeName 3 = .ok (.invokevirtual 70, 3) := by decide +kernel
theorem dX2_takeName_6 : decode cX2_takeName 6 = .ok (.invokevirtual 123, 3) := by decide +kernel
theorem dX2_takeName_9 : decode cX2_takeName 9 = .ok (.return_, 1) := by decide +kernel
set_option maxRecDepth 20000 in
theorem ggX2_takeSign_X2_take : GoodIn wsX2_takeSign wsX2_take := goodIn_r _ [6, 7, 8, 9, 10, 5, 11, 12, 13, 14, 15, 16, 17, 18, 19, 20, 1, 21, 22, 23, 24, 25, 26, 27, 28, 29, 30, 31, 32, 33, 34, 35, 36, 37, 38, 39, 40, 41, 42, 43, 44, 45, 46, 47, 48, 49, 50] (by decide +kernel) (by decide +kernel)
set_option maxRecDepth 20000 in
theorem gX2_takeSign_X2_take : GoodIn wsX2_takeSign (wsV RX2 123 RX2 yX2_take wsX2_take) := goodIn_app (goodIn_of _ (by decide +kernel)) ggX2_takeSign_X2_take
theorem dX2_takeSign_0 : decode cX2_takeSign 0 = .ok (.aload_n 0, 1) := by decide +kernel
theorem dX2_takeSign_1 : decode cX2_takeSign 1 = .ok (.aload_n 0, 1) := by decide +kernel
theorem dX2_takeSign_2 : decode cX2_takeSign 2 = .ok (.getfield 43, 3) := by decide +kernel
theorem dX2_takeSign_5 : decode cX2_takeSign 5 = .ok (.iconst 3, 1) := by decide +kernel
theorem dX2_takeSign_6 : decode cX2_takeSign 6 = .ok (.if_icmp .ne 7, 3) := by decide +kernel
theorem dX2_takeSign_9 : decode cX2_takeSign 9 = .ok (.iconst 1, 1) := by decide +kernel
theorem dX2_takeSign_10 : decode cX2_takeSign 10 = .ok (.goto 4, 3) := by decide +kernel
theorem dX2_takeSign_13 : decode cX2_takeSign 13 = .ok (.iconst 0, 1) := by decide +kernel
theorem dX2_takeSign_14 : decode cX2_takeSign 14 = .ok (.invokevirtual 123, 3) := by decide +kernel
theorem dX2_takeSign_17 : decode cX2_takeSign 17 = .ok (.return_, 1) := by decide +kernel
set_option maxRecDepth 20000 in
theorem ggX2_takeSort_X2_sortName : GoodIn wsX2_takeSort wsX2_sortName := goodIn_r _ [4] (by decide +kernel) (by decide +kernel)
set_option maxRecDepth 20000 in
theorem gX2_takeSort_X2_sortName : GoodIn wsX2_takeSort (va_wsS RX2 126 yX2_sortName wsX2_sortName) := goodIn_app (goodIn_of _ (by decide +kernel)) ggX2_takeSort_X2_sortName
set_option maxRecDepth 20000 in
theorem ggX2_takeSort_X2_isName : GoodIn wsX2_takeSort wsX2_isName := goodIn_r _ [8, 9, 10, 11, 12, 13, 14, 15, 16, 17, 18, 19, 20, 21, 22, 23, 24, 25, 26, 27, 28, 29, 30, 31, 32, 33, 34, 35, 36, 37, 38, 39, 40, 41, 42, 43, 44, 45, 46, 47, 48, 49, 50, 51, 52, 53, 54, 55, 56, 57, 58, 59, 60, 61, 62, 63, 64, 65, 66, 67, 68, 102, 103, 104, 105, 106, 107, 108, 109, 110] (by decide +kernel) (by decide +kernel)
set_option maxRecDepth 20000 in
theorem gX2_takeSort_X2_isName : GoodIn wsX2_takeSort (wsV RX2 70 RX2 yX2_isName wsX2_isName) := goodIn_app (goodIn_of _ (by decide +kernel)) ggX2_takeSort_X2_isName
set_option maxRecDepth 20000 in
theorem ggX2_takeSort_X2_take : GoodIn wsX2_takeSort wsX2_take := goodIn_r _ [72, 73, 74, 75, 76, 3, 77, 11, 78, 79, 80, 81, 82, 10, 12, 83, 9, 84, 85, 86, 87, 88, 16, 89, 18, 19, 90, 91, 92, 93, 94, 95, 96, 97, 98, 99, 100, 101, 102, 103, 104, 105, 106, 107, 108, 109, 110] (by decide +kernel) (by decide +kernel)
set_option maxRecDepth 20000 in
theorem gX2_takeSort_X2_take : GoodIn wsX2_takeSort (wsV RX2 123 RX2 yX2_take wsX2_take) := goodIn_app (goodIn_of _ (by decide +kernel)) ggX2_takeSort_X2_take
theorem dX2_takeSort_0 : decode cX2_takeSort 0 = .ok (.iconst 0, 1) := by decide +kernel
theorem dX2_takeSort_1 : decode cX2_takeSort 1 = .ok (.istore_n 1, 1) := by decide +kernel
theorem dX2_takeSort_2 : decode cX2_takeSort 2 = .ok (.iconst 1, 1) := by decide +kernel
theorem dX2_takeSort_3 : decode cX2_takeSort 3 = .ok (.istore_n 2, 1) := by decide +kernel
theorem dX2_takeSort_4 : decode cX2_takeSort 4 = .ok (.iload_n 2, 1) := by decide +kernel
theorem dX2_takeSort_5 : decode cX2_takeSort 5 = .ok (.iconst 5, 1) := by decide +kernel
theorem dX2_takeSort_6 : decode cX2_takeSort 6 = .ok (.if_icmp .gt 22, 3) := by decide +kernel
theorem dX2_takeSort_9 : decode cX2_takeSort 9 = .ok (.aload_n 0, 1) := by decide +kernel
theorem dX2_takeSort_10 : decode cX2_takeSort 10 = .ok (.iload_n 2, 1) := by decide +kernel
theorem dX2_takeSort_11 : decode cX2_takeSort 11 = .ok (.invokestatic 126, 3) := by decide +kernel
theorem dX2_takeSort_14 : decode cX2_takeSort 14 = .ok (.invokevirtual 70, 3) := by decide +kernel
theorem dX2_takeSort_17 : decode cX2_takeSort 17 = .ok (.ifCond .eq 5, 3) := by decide +kernel
theorem dX2_takeSort_20 : decode cX2_takeSort 20 = .ok (.iload_n 2, 1) := by decide +kernel
theorem dX2_takeSort_21 : decode cX2_takeSort 21 = .ok (.istore_n 1, 1) := by decide +kernel
theorem dX2_takeSort_22 : decode cX2_takeSort 22 = .ok (.iinc 2 1, 3) := by decide +kernel
theorem dX2_takeSort_25 : decode cX2_takeSort 25 = .ok (.goto (-21), 3) := by decide +kernel
theorem dX2_takeSort_28 : decode cX2_takeSort 28 = .ok (.aload_n 0, 1) := by decide +kernel
theorem dX2_takeSort_29 : decode cX2_takeSort 29 = .ok (.iload_n 1, 1) := by decide +kernel
theorem dX2_takeSort_30 : decode cX2_takeSort 30 = .ok (.ifCond .eq 7, 3) := by decide +kernel
theorem dX2_takeSort_33 : decode cX2_takeSort 33 = .ok (.iconst 1, 1) := by decide +kernel
theorem dX2_takeSort_34 : decode cX2_takeSort 34 = .ok (.goto 4, 3) := by decide +kernel
theorem dX2_takeSort_37 : decode cX2_takeSort 37 = .ok (.iconst 0, 1) := by decide +kernel
theorem dX2_takeSort_38 : decode cX2_takeSort 38 = .ok (.invokevirtual 123, 3) := by decide +kernel
theorem dX2_takeSort_41 : decode cX2_takeSort 41 = .ok (.iload_n 1, 1) := by decide +kernel
theorem dX2_takeSort_42 : decode cX2_takeSort 42 = .ok (.ireturn, 1) := by decide +kernel
set_option maxRecDepth 20000 in
theorem ggX2_takeNumber_X7_isWithin : GoodIn wsX2_takeNumber wsX7_isWithin := goodIn_r _ [5] (by decide +kernel) (by decide +kernel)
set_option maxRecDepth 20000 in
theorem gX2_takeNumber_X7_isWithin_n130 : GoodIn wsX2_takeNumber (wsX7_isWithin) := ggX2_takeNumber_X7_isWithin
set_option maxRecDepth 20000 in
theorem ggX2_takeNumber_X2_refuse : GoodIn wsX2_takeNumber wsX2_refuse := goodIn_r _ [10, 11, 12, 13, 45, 46, 47, 48, 49, 50, 51] (by decide +kernel) (by decide +kernel)
set_option maxRecDepth 20000 in
theorem gX2_takeNumber_X2_refuse : GoodIn wsX2_takeNumber (wsV RX2 74 RX2 yX2_refuse wsX2_refuse) := goodIn_app (goodIn_of _ (by decide +kernel)) ggX2_takeNumber_X2_refuse
set_option maxRecDepth 20000 in
theorem ggX2_takeNumber_X2_take : GoodIn wsX2_takeNumber wsX2_take := goodIn_r _ [17, 11, 6, 7, 8, 9, 10, 12, 13, 18, 19, 20, 21, 22, 23, 24, 1, 2, 25, 26, 27, 28, 29, 30, 31, 32, 33, 34, 35, 36, 37, 38, 39, 40, 41, 42, 43, 44, 45, 46, 47, 48, 49, 50, 51, 52, 53] (by decide +kernel) (by decide +kernel)
set_option maxRecDepth 20000 in
theorem gX2_takeNumber_X2_take : GoodIn wsX2_takeNumber (wsV RX2 123 RX2 yX2_take wsX2_take) := goodIn_app (goodIn_of _ (by decide +kernel)) ggX2_takeNumber_X2_take
theorem dX2_takeNumber_0 : decode cX2_takeNumber 0 = .ok (.aload_n 0, 1) := by decide +kernel
theorem dX2_takeNumber_1 : decode cX2_takeNumber 1 = .ok (.getfield 43, 3) := by decide +kernel
theorem dX2_takeNumber_4 : decode cX2_takeNumber 4 = .ok (.iconst 2, 1) := by decide +kernel
theorem dX2_takeNumber_5 : decode cX2_takeNumber 5 = .ok (.if_icmp .ne 20, 3) := by decide +kernel
theorem dX2_takeNumber_8 : decode cX2_takeNumber 8 = .ok (.aload_n 0, 1) := by decide +kernel
theorem dX2_takeNumber_9 : decode cX2_takeNumber 9 = .ok (.getfield 95, 3) := by decide +kernel
theorem dX2_takeNumber_12 : decode cX2_takeNumber 12 = .ok (.iload_n 1, 1) := by decide +kernel
theorem dX2_takeNumber_13 : decode cX2_takeNumber 13 = .ok (.iload_n 2, 1) := by decide +kernel
theorem dX2_takeNumber_14 : decode cX2_takeNumber 14 = .ok (.invokestatic 130, 3) := by decide +kernel
theorem dX2_takeNumber_17 : decode cX2_takeNumber 17 = .ok (.ifCond .ne 8, 3) := by decide +kernel
theorem dX2_takeNumber_20 : decode cX2_takeNumber 20 = .ok (.aload_n 0, 1) := by decide +kernel
theorem dX2_takeNumber_21 : decode cX2_takeNumber 21 = .ok (.iconst 2, 1) := by decide +kernel
theorem dX2_takeNumber_22 : decode cX2_takeNumber 22 = .ok (.invokevirtual 74, 3) := by decide +kernel
theorem dX2_takeNumber_25 : decode cX2_takeNumber 25 = .ok (.aload_n 0, 1) := by decide +kernel
theorem dX2_takeNumber_26 : decode cX2_takeNumber 26 = .ok (.getfield 95, 3) := by decide +kernel
theorem dX2_takeNumber_29 : decode cX2_takeNumber 29 = .ok (.istore_n 3, 1) := by decide +kernel
theorem dX2_takeNumber_30 : decode cX2_takeNumber 30 = .ok (.aload_n 0, 1) := by decide +kernel
theorem dX2_takeNumber_31 : decode cX2_takeNumber 31 = .ok (.aload_n 0, 1) := by decide +kernel
theorem dX2_takeNumber_32 : decode cX2_takeNumber 32 = .ok (.getfield 43, 3) := by decide +kernel
theorem dX2_takeNumber_35 : decode cX2_takeNumber 35 = .ok (.iconst 2, 1) := by decide +kernel
theorem dX2_takeNumber_36 : decode cX2_takeNumber 36 = .ok (.if_icmp .ne 7, 3) := by decide +kernel
theorem dX2_takeNumber_39 : decode cX2_takeNumber 39 = .ok (.iconst 1, 1) := by decide +kernel
theorem dX2_takeNumber_40 : decode cX2_takeNumber 40 = .ok (.goto 4, 3) := by decide +kernel
theorem dX2_takeNumber_43 : decode cX2_takeNumber 43 = .ok (.iconst 0, 1) := by decide +kernel
theorem dX2_takeNumber_44 : decode cX2_takeNumber 44 = .ok (.invokevirtual 123, 3) := by decide +kernel
theorem dX2_takeNumber_47 : decode cX2_takeNumber 47 = .ok (.iload_n 3, 1) := by decide +kernel
theorem dX2_takeNumber_48 : decode cX2_takeNumber 48 = .ok (.ireturn, 1) := by decide +kernel
set_option maxRecDepth 20000 in
theorem ggX2_take_X2_refuse : GoodIn wsX2_take wsX2_refuse := goodIn_r _ [6, 1, 7, 8, 38, 39, 40, 41, 42, 43, 44] (by decide +kernel) (by decide +kernel)
set_option maxRecDepth 20000 in
theorem gX2_take_X2_refuse : GoodIn wsX2_take (wsV RX2 74 RX2 yX2_refuse wsX2_refuse) := goodIn_app (goodIn_of _ (by decide +kernel)) ggX2_take_X2_refuse
set_option maxRecDepth 20000 in
theorem ggX2_take_X2_step : GoodIn wsX2_take wsX2_step := goodIn_r _ [12, 13, 14, 7, 15, 16, 17, 18, 19, 20, 21, 22, 23, 24, 25, 26, 27, 28, 29, 30, 31, 32, 33, 34, 35, 36, 37, 38, 39, 40, 41, 42, 43, 44, 45, 46] (by decide +kernel) (by decide +kernel)
set_option maxRecDepth 20000 in
theorem gX2_take_X2_step : GoodIn wsX2_take (wsV RX2 33 RX2 yX2_step wsX2_step) := goodIn_app (goodIn_of _ (by decide +kernel)) ggX2_take_X2_step
theorem dX2_take_0 : decode cX2_take 0 = .ok (.iload_n 1, 1) := by decide +kernel
theorem dX2_take_1 : decode cX2_take 1 = .ok (.ifCond .ne 8, 3) := by decide +kernel
theorem dX2_take_4 : decode cX2_take 4 = .ok (.aload_n 0, 1) := by decide +kernel
theorem dX2_take_5 : decode cX2_take 5 = .ok (.iconst 1, 1) := by decide +kernel
theorem dX2_take_6 : decode cX2_take 6 = .ok (.invokevirtual 74, 3) := by decide +kernel
theorem dX2_take_9 : decode cX2_take 9 = .ok (.aload_n 0, 1) := by decide +kernel
theorem dX2_take_10 : decode cX2_take 10 = .ok (.getfield 22, 3) := by decide +kernel
theorem dX2_take_13 : decode cX2_take 13 = .ok (.ifCond .ne 7, 3) := by decide +kernel
theorem dX2_take_16 : decode cX2_take 16 = .ok (.aload_n 0, 1) := by decide +kernel
theorem dX2_take_17 : decode cX2_take 17 = .ok (.invokevirtual 33, 3) := by decide +kernel
theorem dX2_take_20 : decode cX2_take 20 = .ok (.return_, 1) := by decide +kernel
set_option maxRecDepth 20000 in
theorem ggX2_isName_X5_tells : GoodIn wsX2_isName wsX5_tells := goodIn_r _ [9, 10, 11, 12, 13, 14, 15, 16, 17, 18, 19, 20, 21, 22, 23, 24, 25, 26, 27, 28, 29, 30, 31, 32, 33, 34, 35, 36, 37, 38, 39, 40, 41, 42, 43, 44, 45, 46, 47, 48, 49, 50, 51, 52, 53, 54, 55, 56, 57, 58, 59, 60, 68, 69] (by decide +kernel) (by decide +kernel)
set_option maxRecDepth 20000 in
theorem gX2_isName_X5_tells : GoodIn wsX2_isName (wsV RX2 134 RX5 yX5_tells wsX5_tells) := goodIn_app (goodIn_of _ (by decide +kernel)) ggX2_isName_X5_tells
theorem dX2_isName_0 : decode cX2_isName 0 = .ok (.aload_n 0, 1) := by decide +kernel
theorem dX2_isName_1 : decode cX2_isName 1 = .ok (.getfield 43, 3) := by decide +kernel
theorem dX2_isName_4 : decode cX2_isName 4 = .ok (.iconst 1, 1) := by decide +kernel
theorem dX2_isName_5 : decode cX2_isName 5 = .ok (.if_icmp .ne 26, 3) := by decide +kernel
theorem dX2_isName_8 : decode cX2_isName 8 = .ok (.aload_n 0, 1) := by decide +kernel
theorem dX2_isName_9 : decode cX2_isName 9 = .ok (.getfield 12, 3) := by decide +kernel
theorem dX2_isName_12 : decode cX2_isName 12 = .ok (.aload_n 1, 1) := by decide +kernel
theorem dX2_isName_13 : decode cX2_isName 13 = .ok (.aload_n 0, 1) := by decide +kernel
theorem dX2_isName_14 : decode cX2_isName 14 = .ok (.getfield 117, 3) := by decide +kernel
theorem dX2_isName_17 : decode cX2_isName 17 = .ok (.aload_n 0, 1) := by decide +kernel
theorem dX2_isName_18 : decode cX2_isName 18 = .ok (.getfield 18, 3) := by decide +kernel
theorem dX2_isName_21 : decode cX2_isName 21 = .ok (.invokevirtual 134, 3) := by decide +kernel
theorem dX2_isName_24 : decode cX2_isName 24 = .ok (.ifCond .eq 7, 3) := by decide +kernel
theorem dX2_isName_27 : decode cX2_isName 27 = .ok (.iconst 1, 1) := by decide +kernel
theorem dX2_isName_28 : decode cX2_isName 28 = .ok (.goto 4, 3) := by decide +kernel
theorem dX2_isName_31 : decode cX2_isName 31 = .ok (.iconst 0, 1) := by decide +kernel
theorem dX2_isName_32 : decode cX2_isName 32 = .ok (.ireturn, 1) := by decide +kernel
set_option maxRecDepth 20000 in
theorem ggX2_step_X5_blanksEnd : GoodIn wsX2_step wsX5_blanksEnd := goodIn_r _ [12, 13, 14, 34, 35] (by decide +kernel) (by decide +kernel)
set_option maxRecDepth 20000 in
theorem gX2_step_X5_blanksEnd : GoodIn wsX2_step (wsV RX2 138 RX5 yX5_blanksEnd wsX5_blanksEnd) := goodIn_app (goodIn_of _ (by decide +kernel)) ggX2_step_X5_blanksEnd
set_option maxRecDepth 20000 in
theorem ggX2_step_X5_lettersEnd : GoodIn wsX2_step wsX5_lettersEnd := goodIn_r _ [18, 13, 14, 34, 35] (by decide +kernel) (by decide +kernel)
set_option maxRecDepth 20000 in
theorem gX2_step_X5_lettersEnd : GoodIn wsX2_step (wsV RX2 142 RX5 yX5_lettersEnd wsX5_lettersEnd) := goodIn_app (goodIn_of _ (by decide +kernel)) ggX2_step_X5_lettersEnd
set_option maxRecDepth 20000 in
theorem ggX2_step_X5_figuresEnd : GoodIn wsX2_step wsX5_figuresEnd := goodIn_r _ [22, 13, 14, 34, 35] (by decide +kernel) (by decide +kernel)
set_option maxRecDepth 20000 in
theorem gX2_step_X5_figuresEnd : GoodIn wsX2_step (wsV RX2 145 RX5 yX5_figuresEnd wsX5_figuresEnd) := goodIn_app (goodIn_of _ (by decide +kernel)) ggX2_step_X5_figuresEnd
set_option maxRecDepth 20000 in
theorem ggX2_step_X5_valueOf : GoodIn wsX2_step wsX5_valueOf := goodIn_r _ [26, 13, 14, 34, 35] (by decide +kernel) (by decide +kernel)
set_option maxRecDepth 20000 in
theorem gX2_step_X5_valueOf : GoodIn wsX2_step (wsV RX2 151 RX5 yX5_valueOf wsX5_valueOf) := goodIn_app (goodIn_of _ (by decide +kernel)) ggX2_step_X5_valueOf
theorem dX2_step_0 : decode cX2_step 0 = .ok (.aload_n 0, 1) := by decide +kernel
theorem dX2_step_1 : decode cX2_step 1 = .ok (.aload_n 0, 1) := by decide +kernel
theorem dX2_step_2 : decode cX2_step 2 = .ok (.getfield 12, 3) := by decide +kernel
theorem dX2_step_5 : decode cX2_step 5 = .ok (.aload_n 0, 1) := by decide +kernel
theorem dX2_step_6 : decode cX2_step 6 = .ok (.getfield 18, 3) := by decide +kernel
theorem dX2_step_9 : decode cX2_step 9 = .ok (.invokevirtual 138, 3) := by decide +kernel
theorem dX2_step_12 : decode cX2_step 12 = .ok (.putfield 117, 3) := by decide +kernel
theorem dX2_step_15 : decode cX2_step 15 = .ok (.aload_n 0, 1) := by decide +kernel
theorem dX2_step_16 : decode cX2_step 16 = .ok (.getfield 12, 3) := by decide +kernel
theorem dX2_step_19 : decode cX2_step 19 = .ok (.aload_n 0, 1) := by decide +kernel
theorem dX2_step_20 : decode cX2_step 20 = .ok (.getfield 117, 3) := by decide +kernel
theorem dX2_step_23 : decode cX2_step 23 = .ok (.invokevirtual 142, 3) := by decide +kernel
theorem dX2_step_26 : decode cX2_step 26 = .ok (.istore_n 1, 1) := by decide +kernel
theorem dX2_step_27 : decode cX2_step 27 = .ok (.aload_n 0, 1) := by decide +kernel
theorem dX2_step_28 : decode cX2_step 28 = .ok (.getfield 12, 3) := by decide +kernel
theorem dX2_step_31 : decode cX2_step 31 = .ok (.aload_n 0, 1) := by decide +kernel
theorem dX2_step_32 : decode cX2_step 32 = .ok (.getfield 117, 3) := by decide +kernel
theorem dX2_step_35 : decode cX2_step 35 = .ok (.invokevirtual 145, 3) := by decide +kernel
theorem dX2_step_38 : decode cX2_step 38 = .ok (.istore_n 2, 1) := by decide +kernel
theorem dX2_step_39 : decode cX2_step 39 = .ok (.aload_n 0, 1) := by decide +kernel
theorem dX2_step_40 : decode cX2_step 40 = .ok (.getfield 117, 3) := by decide +kernel
theorem dX2_step_43 : decode cX2_step 43 = .ok (.aload_n 0, 1) := by decide +kernel
theorem dX2_step_44 : decode cX2_step 44 = .ok (.getfield 12, 3) := by decide +kernel
theorem dX2_step_47 : decode cX2_step 47 = .ok (.getfield 148, 3) := by decide +kernel
theorem dX2_step_50 : decode cX2_step 50 = .ok (.if_icmp .lt 11, 3) := by decide +kernel
theorem dX2_step_53 : decode cX2_step 53 = .ok (.aload_n 0, 1) := by decide +kernel
theorem dX2_step_54 : decode cX2_step 54 = .ok (.iconst 0, 1) := by decide +kernel
theorem dX2_step_55 : decode cX2_step 55 = .ok (.putfield 43, 3) := by decide +kernel
theorem dX2_step_58 : decode cX2_step 58 = .ok (.goto 115, 3) := by decide +kernel
theorem dX2_step_61 : decode cX2_step 61 = .ok (.iload_n 1, 1) := by decide +kernel
theorem dX2_step_62 : decode cX2_step 62 = .ok (.aload_n 0, 1) := by decide +kernel
theorem dX2_step_63 : decode cX2_step 63 = .ok (.getfield 117, 3) := by decide +kernel
theorem dX2_step_66 : decode cX2_step 66 = .ok (.if_icmp .le 16, 3) := by decide +kernel
theorem dX2_step_69 : decode cX2_step 69 = .ok (.aload_n 0, 1) := by decide +kernel
theorem dX2_step_70 : decode cX2_step 70 = .ok (.iconst 1, 1) := by decide +kernel
theorem dX2_step_71 : decode cX2_step 71 = .ok (.putfield 43, 3) := by decide +kernel
theorem dX2_step_74 : decode cX2_step 74 = .ok (.aload_n 0, 1) := by decide +kernel
theorem dX2_step_75 : decode cX2_step 75 = .ok (.iload_n 1, 1) := by decide +kernel
theorem dX2_step_76 : decode cX2_step 76 = .ok (.putfield 18, 3) := by decide +kernel
theorem dX2_step_79 : decode cX2_step 79 = .ok (.goto 94, 3) := by decide +kernel
theorem dX2_step_82 : decode cX2_step 82 = .ok (.iload_n 2, 1) := by decide +kernel
theorem dX2_step_83 : decode cX2_step 83 = .ok (.aload_n 0, 1) := by decide +kernel
theorem dX2_step_84 : decode cX2_step 84 = .ok (.getfield 117, 3) := by decide +kernel
theorem dX2_step_87 : decode cX2_step 87 = .ok (.isub, 1) := by decide +kernel
theorem dX2_step_88 : decode cX2_step 88 = .ok (.iconst 3, 1) := by decide +kernel
theorem dX2_step_89 : decode cX2_step 89 = .ok (.if_icmp .le 11, 3) := by decide +kernel
theorem dX2_step_92 : decode cX2_step 92 = .ok (.aload_n 0, 1) := by decide +kernel
theorem dX2_step_93 : decode cX2_step 93 = .ok (.iconst 4, 1) := by decide +kernel
theorem dX2_step_94 : decode cX2_step 94 = .ok (.putfield 43, 3) := by decide +kernel
theorem dX2_step_97 : decode cX2_step 97 = .ok (.goto 76, 3) := by decide +kernel
theorem dX2_step_100 : decode cX2_step 100 = .ok (.iload_n 2, 1) := by decide +kernel
theorem dX2_step_101 : decode cX2_step 101 = .ok (.aload_n 0, 1) := by decide +kernel
theorem dX2_step_102 : decode cX2_step 102 = .ok (.getfield 117, 3) := by decide +kernel
theorem dX2_step_105 : decode cX2_step 105 = .ok (.if_icmp .le 32, 3) := by decide +kernel
theorem dX2_step_108 : decode cX2_step 108 = .ok (.aload_n 0, 1) := by decide +kernel
theorem dX2_step_109 : decode cX2_step 109 = .ok (.iconst 2, 1) := by decide +kernel
theorem dX2_step_110 : decode cX2_step 110 = .ok (.putfield 43, 3) := by decide +kernel
theorem dX2_step_113 : decode cX2_step 113 = .ok (.aload_n 0, 1) := by decide +kernel
theorem dX2_step_114 : decode cX2_step 114 = .ok (.aload_n 0, 1) := by decide +kernel
theorem dX2_step_115 : decode cX2_step 115 = .ok (.getfield 12, 3) := by decide +kernel
theorem dX2_step_118 : decode cX2_step 118 = .ok (.aload_n 0, 1) := by decide +kernel
theorem dX2_step_119 : decode cX2_step 119 = .ok (.getfield 117, 3) := by decide +kernel
theorem dX2_step_122 : decode cX2_step 122 = .ok (.iload_n 2, 1) := by decide +kernel
theorem dX2_step_123 : decode cX2_step 123 = .ok (.invokevirtual 151, 3) := by decide +kernel
theorem dX2_step_126 : decode cX2_step 126 = .ok (.putfield 95, 3) := by decide +kernel
theorem dX2_step_129 : decode cX2_step 129 = .ok (.aload_n 0, 1) := by decide +kernel
theorem dX2_step_130 : decode cX2_step 130 = .ok (.iload_n 2, 1) := by decide +kernel
theorem dX2_step_131 : decode cX2_step 131 = .ok (.putfield 18, 3) := by decide +kernel
theorem dX2_step_134 : decode cX2_step 134 = .ok (.goto 39, 3) := by decide +kernel
theorem dX2_step_137 : decode cX2_step 137 = .ok (.aload_n 0, 1) := by decide +kernel
theorem dX2_step_138 : decode cX2_step 138 = .ok (.aload_n 0, 1) := by decide +kernel
theorem dX2_step_139 : decode cX2_step 139 = .ok (.getfield 12, 3) := by decide +kernel
theorem dX2_step_142 : decode cX2_step 142 = .ok (.getfield 154, 3) := by decide +kernel
theorem dX2_step_145 : decode cX2_step 145 = .ok (.aload_n 0, 1) := by decide +kernel
theorem dX2_step_146 : decode cX2_step 146 = .ok (.getfield 117, 3) := by decide +kernel
theorem dX2_step_149 : decode cX2_step 149 = .ok (.baload, 1) := by decide +kernel
theorem dX2_step_150 : decode cX2_step 150 = .ok (.bipush 59, 2) := by decide +kernel
theorem dX2_step_152 : decode cX2_step 152 = .ok (.if_icmp .ne 7, 3) := by decide +kernel
theorem dX2_step_155 : decode cX2_step 155 = .ok (.iconst 3, 1) := by decide +kernel
theorem dX2_step_156 : decode cX2_step 156 = .ok (.goto 4, 3) := by decide +kernel
theorem dX2_step_159 : decode cX2_step 159 = .ok (.iconst 4, 1) := by decide +kernel
theorem dX2_step_160 : decode cX2_step 160 = .ok (.putfield 43, 3) := by decide +kernel
theorem dX2_step_163 : decode cX2_step 163 = .ok (.aload_n 0, 1) := by decide +kernel
theorem dX2_step_164 : decode cX2_step 164 = .ok (.aload_n 0, 1) := by decide +kernel
theorem dX2_step_165 : decode cX2_step 165 = .ok (.getfield 117, 3) := by decide +kernel
theorem dX2_step_168 : decode cX2_step 168 = .ok (.iconst 1, 1) := by decide +kernel
theorem dX2_step_169 : decode cX2_step 169 = .ok (.iadd, 1) := by decide +kernel
theorem dX2_step_170 : decode cX2_step 170 = .ok (.putfield 18, 3) := by decide +kernel
theorem dX2_step_173 : decode cX2_step 173 = .ok (.return_, 1) := by decide +kernel
theorem dX2_sortName_0 : decode cX2_sortName 0 = .ok (.iload_n 0, 1) := by decide +kernel
theorem dX2_sortName_1 : decode cX2_sortName 1 = .ok (.tableswitch 43 1 4 #[31, 34, 37, 40], 31) := by decide +kernel
theorem dX2_sortName_32 : decode cX2_sortName 32 = .ok (.ldc 158, 2) := by decide +kernel
theorem dX2_sortName_34 : decode cX2_sortName 34 = .ok (.areturn, 1) := by decide +kernel
theorem dX2_sortName_35 : decode cX2_sortName 35 = .ok (.ldc 160, 2) := by decide +kernel
theorem dX2_sortName_37 : decode cX2_sortName 37 = .ok (.areturn, 1) := by decide +kernel
theorem dX2_sortName_38 : decode cX2_sortName 38 = .ok (.ldc 162, 2) := by decide +kernel
theorem dX2_sortName_40 : decode cX2_sortName 40 = .ok (.areturn, 1) := by decide +kernel
theorem dX2_sortName_41 : decode cX2_sortName 41 = .ok (.ldc 164, 2) := by decide +kernel
theorem dX2_sortName_43 : decode cX2_sortName 43 = .ok (.areturn, 1) := by decide +kernel
theorem dX2_sortName_44 : decode cX2_sortName 44 = .ok (.ldc 166, 2) := by decide +kernel
theorem dX2_sortName_46 : decode cX2_sortName 46 = .ok (.areturn, 1) := by decide +kernel
set_option maxRecDepth 20000 in
theorem ggX3_init_X0_init : GoodIn wsX3_init wsX0_init := goodIn_r _ [9, 10, 2, 3] (by decide +kernel) (by decide +kernel)
set_option maxRecDepth 20000 in
theorem gX3_init_X0_init_n17 : GoodIn wsX3_init (wsX0_init) := ggX3_init_X0_init
theorem dX3_init_0 : decode cX3_init 0 = .ok (.aload_n 0, 1) := by decide +kernel
theorem dX3_init_1 : decode cX3_init 1 = .ok (.invokespecial 3, 3) := by decide +kernel
theorem dX3_init_4 : decode cX3_init 4 = .ok (.aload_n 0, 1) := by decide +kernel
theorem dX3_init_5 : decode cX3_init 5 = .ok (.bipush 8, 2) := by decide +kernel
theorem dX3_init_7 : decode cX3_init 7 = .ok (.anewarray 9, 3) := by decide +kernel
theorem dX3_init_10 : decode cX3_init 10 = .ok (.putfield 11, 3) := by decide +kernel
theorem dX3_init_13 : decode cX3_init 13 = .ok (.iconst 0, 1) := by decide +kernel
theorem dX3_init_14 : decode cX3_init 14 = .ok (.istore_n 1, 1) := by decide +kernel
theorem dX3_init_15 : decode cX3_init 15 = .ok (.iload_n 1, 1) := by decide +kernel
theorem dX3_init_16 : decode cX3_init 16 = .ok (.bipush 8, 2) := by decide +kernel
theorem dX3_init_18 : decode cX3_init 18 = .ok (.if_icmp .ge 22, 3) := by decide +kernel
theorem dX3_init_21 : decode cX3_init 21 = .ok (.aload_n 0, 1) := by decide +kernel
theorem dX3_init_22 : decode cX3_init 22 = .ok (.getfield 11, 3) := by decide +kernel
theorem dX3_init_25 : decode cX3_init 25 = .ok (.iload_n 1, 1) := by decide +kernel
theorem dX3_init_26 : decode cX3_init 26 = .ok (.new 9, 3) := by decide +kernel
theorem dX3_init_29 : decode cX3_init 29 = .ok (.dup, 1) := by decide +kernel
theorem dX3_init_30 : decode cX3_init 30 = .ok (.invokespecial 17, 3) := by decide +kernel
theorem dX3_init_33 : decode cX3_init 33 = .ok (.aastore, 1) := by decide +kernel
theorem dX3_init_34 : decode cX3_init 34 = .ok (.iinc 1 1, 3) := by decide +kernel
theorem dX3_init_37 : decode cX3_init 37 = .ok (.goto (-22), 3) := by decide +kernel
theorem dX3_init_40 : decode cX3_init 40 = .ok (.return_, 1) := by decide +kernel
theorem dX3_isNone_0 : decode cX3_isNone 0 = .ok (.aload_n 0, 1) := by decide +kernel
theorem dX3_isNone_1 : decode cX3_isNone 1 = .ok (.getfield 18, 3) := by decide +kernel
theorem dX3_isNone_4 : decode cX3_isNone 4 = .ok (.ifCond .ne 7, 3) := by decide +kernel
theorem dX3_isNone_7 : decode cX3_isNone 7 = .ok (.iconst 1, 1) := by decide +kernel
theorem dX3_isNone_8 : decode cX3_isNone 8 = .ok (.goto 4, 3) := by decide +kernel
theorem dX3_isNone_11 : decode cX3_isNone 11 = .ok (.iconst 0, 1) := by decide +kernel
theorem dX3_isNone_12 : decode cX3_isNone 12 = .ok (.ireturn, 1) := by decide +kernel
theorem dX3_has_0 : decode cX3_has 0 = .ok (.iload_n 1, 1) := by decide +kernel
theorem dX3_has_1 : decode cX3_has 1 = .ok (.ifCond .lt 15, 3) := by decide +kernel
theorem dX3_has_4 : decode cX3_has 4 = .ok (.iload_n 1, 1) := by decide +kernel
theorem dX3_has_5 : decode cX3_has 5 = .ok (.aload_n 0, 1) := by decide +kernel
theorem dX3_has_6 : decode cX3_has 6 = .ok (.getfield 18, 3) := by decide +kernel
theorem dX3_has_9 : decode cX3_has 9 = .ok (.if_icmp .ge 7, 3) := by decide +kernel
theorem dX3_has_12 : decode cX3_has 12 = .ok (.iconst 1, 1) := by decide +kernel
theorem dX3_has_13 : decode cX3_has 13 = .ok (.goto 4, 3) := by decide +kernel
theorem dX3_has_16 : decode cX3_has 16 = .ok (.iconst 0, 1) := by decide +kernel
theorem dX3_has_17 : decode cX3_has 17 = .ok (.ireturn, 1) := by decide +kernel
set_option maxRecDepth 20000 in
theorem ggX3_become_X0_become : GoodIn wsX3_become wsX0_become := goodIn_r _ [11, 12, 13, 14, 15, 16, 17, 18, 19, 20, 21, 22, 23, 30, 31, 32, 33, 34, 35, 36, 37, 38, 39, 40, 41] (by decide +kernel) (by decide +kernel)
set_option maxRecDepth 20000 in
theorem gX3_become_X0_become : GoodIn wsX3_become (wsV RX3 34 RX0 yX0_become wsX0_become) := goodIn_app (goodIn_of _ (by decide +kernel)) ggX3_become_X0_become
theorem dX3_become_0 : decode cX3_become 0 = .ok (.aload_n 0, 1) := by decide +kernel
theorem dX3_become_1 : decode cX3_become 1 = .ok (.aload_n 1, 1) := by decide +kernel
theorem dX3_become_2 : decode cX3_become 2 = .ok (.getfield 18, 3) := by decide +kernel
theorem dX3_become_5 : decode cX3_become 5 = .ok (.putfield 18, 3) := by decide +kernel
theorem dX3_become_8 : decode cX3_become 8 = .ok (.aload_n 0, 1) := by decide +kernel
theorem dX3_become_9 : decode cX3_become 9 = .ok (.aload_n 1, 1) := by decide +kernel
theorem dX3_become_10 : decode cX3_become 10 = .ok (.getfield 22, 3) := by decide +kernel
theorem dX3_become_13 : decode cX3_become 13 = .ok (.putfield 22, 3) := by decide +kernel
theorem dX3_become_16 : decode cX3_become 16 = .ok (.aload_n 0, 1) := by decide +kernel
theorem dX3_become_17 : decode cX3_become 17 = .ok (.aload_n 1, 1) := by decide +kernel
theorem dX3_become_18 : decode cX3_become 18 = .ok (.getfield 25, 3) := by decide +kernel
theorem dX3_become_21 : decode cX3_become 21 = .ok (.putfield 25, 3) := by decide +kernel
theorem dX3_become_24 : decode cX3_become 24 = .ok (.aload_n 0, 1) := by decide +kernel
theorem dX3_become_25 : decode cX3_become 25 = .ok (.aload_n 1, 1) := by decide +kernel
theorem dX3_become_26 : decode cX3_become 26 = .ok (.getfield 28, 3) := by decide +kernel
theorem dX3_become_29 : decode cX3_become 29 = .ok (.putfield 28, 3) := by decide +kernel
theorem dX3_become_32 : decode cX3_become 32 = .ok (.aload_n 0, 1) := by decide +kernel
theorem dX3_become_33 : decode cX3_become 33 = .ok (.aload_n 1, 1) := by decide +kernel
theorem dX3_become_34 : decode cX3_become 34 = .ok (.getfield 31, 3) := by decide +kernel
theorem dX3_become_37 : decode cX3_become 37 = .ok (.putfield 31, 3) := by decide +kernel
theorem dX3_become_40 : decode cX3_become 40 = .ok (.iconst 0, 1) := by decide +kernel
theorem dX3_become_41 : decode cX3_become 41 = .ok (.istore_n 2, 1) := by decide +kernel
theorem dX3_become_42 : decode cX3_become 42 = .ok (.iload_n 2, 1) := by decide +kernel
theorem dX3_become_43 : decode cX3_become 43 = .ok (.bipush 8, 2) := by decide +kernel
theorem dX3_become_45 : decode cX3_become 45 = .ok (.if_icmp .ge 24, 3) := by decide +kernel
theorem dX3_become_48 : decode cX3_become 48 = .ok (.aload_n 0, 1) := by decide +kernel
theorem dX3_become_49 : decode cX3_become 49 = .ok (.getfield 11, 3) := by decide +kernel
theorem dX3_become_52 : decode cX3_become 52 = .ok (.iload_n 2, 1) := by decide +kernel
theorem dX3_become_53 : decode cX3_become 53 = .ok (.aaload, 1) := by decide +kernel
theorem dX3_become_54 : decode cX3_become 54 = .ok (.aload_n 1, 1) := by decide +kernel
theorem dX3_become_55 : decode cX3_become 55 = .ok (.getfield 11, 3) := by decide +kernel
theorem dX3_become_58 : decode cX3_become 58 = .ok (.iload_n 2, 1) := by decide +kernel
theorem dX3_become_59 : decode cX3_become 59 = .ok (.aaload, 1) := by decide +kernel
theorem dX3_become_60 : decode cX3_become 60 = .ok (.invokevirtual 34, 3) := by decide +kernel
theorem dX3_become_63 : decode cX3_become 63 = .ok (.iinc 2 1, 3) := by decide +kernel
theorem dX3_become_66 : decode cX3_become 66 = .ok (.goto (-24), 3) := by decide +kernel
theorem dX3_become_69 : decode cX3_become 69 = .ok (.return_, 1) := by decide +kernel
theorem dX3_isTaken_0 : decode cX3_isTaken 0 = .ok (.iconst 0, 1) := by decide +kernel
theorem dX3_isTaken_1 : decode cX3_isTaken 1 = .ok (.istore_n 3, 1) := by decide +kernel
theorem dX3_isTaken_2 : decode cX3_isTaken 2 = .ok (.iload_n 3, 1) := by decide +kernel
theorem dX3_isTaken_3 : decode cX3_isTaken 3 = .ok (.aload_n 0, 1) := by decide +kernel
theorem dX3_isTaken_4 : decode cX3_isTaken 4 = .ok (.getfield 18, 3) := by decide +kernel
theorem dX3_isTaken_7 : decode cX3_isTaken 7 = .ok (.if_icmp .ge 37, 3) := by decide +kernel
theorem dX3_isTaken_10 : decode cX3_isTaken 10 = .ok (.aload_n 0, 1) := by decide +kernel
theorem dX3_isTaken_11 : decode cX3_isTaken 11 = .ok (.getfield 11, 3) := by decide +kernel
theorem dX3_isTaken_14 : decode cX3_isTaken 14 = .ok (.iload_n 3, 1) := by decide +kernel
theorem dX3_isTaken_15 : decode cX3_isTaken 15 = .ok (.aaload, 1) := by decide +kernel
theorem dX3_isTaken_16 : decode cX3_isTaken 16 = .ok (.getfield 38, 3) := by decide +kernel
theorem dX3_isTaken_19 : decode cX3_isTaken 19 = .ok (.iload_n 1, 1) := by decide +kernel
theorem dX3_isTaken_20 : decode cX3_isTaken 20 = .ok (.if_icmp .ne 18, 3) := by decide +kernel
theorem dX3_isTaken_23 : decode cX3_isTaken 23 = .ok (.aload_n 0, 1) := by decide +kernel
theorem dX3_isTaken_24 : decode cX3_isTaken 24 = .ok (.getfield 11, 3) := by decide +kernel
theorem dX3_isTaken_27 : decode cX3_isTaken 27 = .ok (.iload_n 3, 1) := by decide +kernel
theorem dX3_isTaken_28 : decode cX3_isTaken 28 = .ok (.aaload, 1) := by decide +kernel
theorem dX3_isTaken_29 : decode cX3_isTaken 29 = .ok (.getfield 41, 3) := by decide +kernel
theorem dX3_isTaken_32 : decode cX3_isTaken 32 = .ok (.iload_n 2, 1) := by decide +kernel
theorem dX3_isTaken_33 : decode cX3_isTaken 33 = .ok (.if_icmp .ne 5, 3) := by decide +kernel
theorem dX3_isTaken_36 : decode cX3_isTaken 36 = .ok (.iconst 1, 1) := by decide +kernel
theorem dX3_isTaken_37 : decode cX3_isTaken 37 = .ok (.ireturn, 1) := by decide +kernel
theorem dX3_isTaken_38 : decode cX3_isTaken 38 = .ok (.iinc 3 1, 3) := by decide +kernel
theorem dX3_isTaken_41 : decode cX3_isTaken 41 = .ok (.goto (-39), 3) := by decide +kernel
theorem dX3_isTaken_44 : decode cX3_isTaken 44 = .ok (.iconst 0, 1) := by decide +kernel
theorem dX3_isTaken_45 : decode cX3_isTaken 45 = .ok (.ireturn, 1) := by decide +kernel
set_option maxRecDepth 20000 in
theorem ggX3_furledSet_X7_bit : GoodIn wsX3_furledSet wsX7_bit := goodIn_r _ [6] (by decide +kernel) (by decide +kernel)
set_option maxRecDepth 20000 in
theorem gX3_furledSet_X7_bit_n48 : GoodIn wsX3_furledSet (wsX7_bit) := ggX3_furledSet_X7_bit
theorem dX3_furledSet_0 : decode cX3_furledSet 0 = .ok (.iconst 0, 1) := by decide +kernel
theorem dX3_furledSet_1 : decode cX3_furledSet 1 = .ok (.istore_n 1, 1) := by decide +kernel
theorem dX3_furledSet_2 : decode cX3_furledSet 2 = .ok (.iconst 0, 1) := by decide +kernel
theorem dX3_furledSet_3 : decode cX3_furledSet 3 = .ok (.istore_n 2, 1) := by decide +kernel
theorem dX3_furledSet_4 : decode cX3_furledSet 4 = .ok (.iload_n 2, 1) := by decide +kernel
theorem dX3_furledSet_5 : decode cX3_furledSet 5 = .ok (.aload_n 0, 1) := by decide +kernel
theorem dX3_furledSet_6 : decode cX3_furledSet 6 = .ok (.getfield 18, 3) := by decide +kernel
theorem dX3_furledSet_9 : decode cX3_furledSet 9 = .ok (.if_icmp .ge 26, 3) := by decide +kernel
theorem dX3_furledSet_12 : decode cX3_furledSet 12 = .ok (.iload_n 1, 1) := by decide +kernel
theorem dX3_furledSet_13 : decode cX3_furledSet 13 = .ok (.aload_n 0, 1) := by decide +kernel
theorem dX3_furledSet_14 : decode cX3_furledSet 14 = .ok (.getfield 11, 3) := by decide +kernel
theorem dX3_furledSet_17 : decode cX3_furledSet 17 = .ok (.iload_n 2, 1) := by decide +kernel
theorem dX3_furledSet_18 : decode cX3_furledSet 18 = .ok (.aaload, 1) := by decide +kernel
theorem dX3_furledSet_19 : decode cX3_furledSet 19 = .ok (.getfield 44, 3) := by decide +kernel
theorem dX3_furledSet_22 : decode cX3_furledSet 22 = .ok (.invokestatic 48, 3) := by decide +kernel
theorem dX3_furledSet_25 : decode cX3_furledSet 25 = .ok (.iload_n 2, 1) := by decide +kernel
theorem dX3_furledSet_26 : decode cX3_furledSet 26 = .ok (.ishl, 1) := by decide +kernel
theorem dX3_furledSet_27 : decode cX3_furledSet 27 = .ok (.ior, 1) := by decide +kernel
theorem dX3_furledSet_28 : decode cX3_furledSet 28 = .ok (.istore_n 1, 1) := by decide +kernel
theorem dX3_furledSet_29 : decode cX3_furledSet 29 = .ok (.iinc 2 1, 3) := by decide +kernel
theorem dX3_furledSet_32 : decode cX3_furledSet 32 = .ok (.goto (-28), 3) := by decide +kernel
theorem dX3_furledSet_35 : decode cX3_furledSet 35 = .ok (.iload_n 1, 1) := by decide +kernel
theorem dX3_furledSet_36 : decode cX3_furledSet 36 = .ok (.ireturn, 1) := by decide +kernel
theorem dX3_flourInAll_0 : decode cX3_flourInAll 0 = .ok (.iconst 0, 1) := by decide +kernel
theorem dX3_flourInAll_1 : decode cX3_flourInAll 1 = .ok (.istore_n 1, 1) := by decide +kernel
theorem dX3_flourInAll_2 : decode cX3_flourInAll 2 = .ok (.iconst 0, 1) := by decide +kernel
theorem dX3_flourInAll_3 : decode cX3_flourInAll 3 = .ok (.istore_n 2, 1) := by decide +kernel
theorem dX3_flourInAll_4 : decode cX3_flourInAll 4 = .ok (.iload_n 2, 1) := by decide +kernel
theorem dX3_flourInAll_5 : decode cX3_flourInAll 5 = .ok (.aload_n 0, 1) := by decide +kernel
theorem dX3_flourInAll_6 : decode cX3_flourInAll 6 = .ok (.getfield 18, 3) := by decide +kernel
theorem dX3_flourInAll_9 : decode cX3_flourInAll 9 = .ok (.if_icmp .ge 21, 3) := by decide +kernel
theorem dX3_flourInAll_12 : decode cX3_flourInAll 12 = .ok (.iload_n 1, 1) := by decide +kernel
theorem dX3_flourInAll_13 : decode cX3_flourInAll 13 = .ok (.aload_n 0, 1) := by decide +kernel
theorem dX3_flourInAll_14 : decode cX3_flourInAll 14 = .ok (.getfield 11, 3) := by decide +kernel
theorem dX3_flourInAll_17 : decode cX3_flourInAll 17 = .ok (.iload_n 2, 1) := by decide +kernel
theorem dX3_flourInAll_18 : decode cX3_flourInAll 18 = .ok (.aaload, 1) := by decide +kernel
theorem dX3_flourInAll_19 : decode cX3_flourInAll 19 = .ok (.getfield 52, 3) := by decide +kernel
theorem dX3_flourInAll_22 : decode cX3_flourInAll 22 = .ok (.iadd, 1) := by decide +kernel
theorem dX3_flourInAll_23 : decode cX3_flourInAll 23 = .ok (.istore_n 1, 1) := by decide +kernel
theorem dX3_flourInAll_24 : decode cX3_flourInAll 24 = .ok (.iinc 2 1, 3) := by decide +kernel
theorem dX3_flourInAll_27 : decode cX3_flourInAll 27 = .ok (.goto (-23), 3) := by decide +kernel
theorem dX3_flourInAll_30 : decode cX3_flourInAll 30 = .ok (.iload_n 1, 1) := by decide +kernel
theorem dX3_flourInAll_31 : decode cX3_flourInAll 31 = .ok (.ireturn, 1) := by decide +kernel
theorem dX4_init_0 : decode cX4_init 0 = .ok (.aload_n 0, 1) := by decide +kernel
theorem dX4_init_1 : decode cX4_init 1 = .ok (.invokespecial 3, 3) := by decide +kernel
theorem dX4_init_4 : decode cX4_init 4 = .ok (.aload_n 0, 1) := by decide +kernel
theorem dX4_init_5 : decode cX4_init 5 = .ok (.bipush 40, 2) := by decide +kernel
theorem dX4_init_7 : decode cX4_init 7 = .ok (.newarray .int, 2) := by decide +kernel
theorem dX4_init_9 : decode cX4_init 9 = .ok (.putfield 9, 3) := by decide +kernel
theorem dX4_init_12 : decode cX4_init 12 = .ok (.aload_n 0, 1) := by decide +kernel
theorem dX4_init_13 : decode cX4_init 13 = .ok (.iconst (-1), 1) := by decide +kernel
theorem dX4_init_14 : decode cX4_init 14 = .ok (.putfield 15, 3) := by decide +kernel
theorem dX4_init_17 : decode cX4_init 17 = .ok (.return_, 1) := by decide +kernel
theorem dX4_isMissing_0 : decode cX4_isMissing 0 = .ok (.aload_n 0, 1) := by decide +kernel
theorem dX4_isMissing_1 : decode cX4_isMissing 1 = .ok (.getfield 15, 3) := by decide +kernel
theorem dX4_isMissing_4 : decode cX4_isMissing 4 = .ok (.iconst (-1), 1) := by decide +kernel
theorem dX4_isMissing_5 : decode cX4_isMissing 5 = .ok (.if_icmp .ne 7, 3) := by decide +kernel
theorem dX4_isMissing_8 : decode cX4_isMissing 8 = .ok (.iconst 1, 1) := by decide +kernel
theorem dX4_isMissing_9 : decode cX4_isMissing 9 = .ok (.goto 4, 3) := by decide +kernel
theorem dX4_isMissing_12 : decode cX4_isMissing 12 = .ok (.iconst 0, 1) := by decide +kernel
theorem dX4_isMissing_13 : decode cX4_isMissing 13 = .ok (.ireturn, 1) := by decide +kernel
theorem dX4_lay_0 : decode cX4_lay 0 = .ok (.aload_n 0, 1) := by decide +kernel
theorem dX4_lay_1 : decode cX4_lay 1 = .ok (.iload_n 1, 1) := by decide +kernel
theorem dX4_lay_2 : decode cX4_lay 2 = .ok (.putfield 19, 3) := by decide +kernel
theorem dX4_lay_5 : decode cX4_lay 5 = .ok (.aload_n 0, 1) := by decide +kernel
theorem dX4_lay_6 : decode cX4_lay 6 = .ok (.iload_n 2, 1) := by decide +kernel
theorem dX4_lay_7 : decode cX4_lay 7 = .ok (.putfield 15, 3) := by decide +kernel
theorem dX4_lay_10 : decode cX4_lay 10 = .ok (.iconst 0, 1) := by decide +kernel
theorem dX4_lay_11 : decode cX4_lay 11 = .ok (.istore_n 3, 1) := by decide +kernel
theorem dX4_lay_12 : decode cX4_lay 12 = .ok (.iload_n 3, 1) := by decide +kernel
theorem dX4_lay_13 : decode cX4_lay 13 = .ok (.bipush 40, 2) := by decide +kernel
theorem dX4_lay_15 : decode cX4_lay 15 = .ok (.if_icmp .ge 16, 3) := by decide +kernel
theorem dX4_lay_18 : decode cX4_lay 18 = .ok (.aload_n 0, 1) := by decide +kernel
theorem dX4_lay_19 : decode cX4_lay 19 = .ok (.getfield 9, 3) := by decide +kernel
theorem dX4_lay_22 : decode cX4_lay 22 = .ok (.iload_n 3, 1) := by decide +kernel
theorem dX4_lay_23 : decode cX4_lay 23 = .ok (.iconst 0, 1) := by decide +kernel
theorem dX4_lay_24 : decode cX4_lay 24 = .ok (.iastore, 1) := by decide +kernel
theorem dX4_lay_25 : decode cX4_lay 25 = .ok (.iinc 3 1, 3) := by decide +kernel
theorem dX4_lay_28 : decode cX4_lay 28 = .ok (.goto (-16), 3) := by decide +kernel
theorem dX4_lay_31 : decode cX4_lay 31 = .ok (.return_, 1) := by decide +kernel
theorem dX4_covers_0 : decode cX4_covers 0 = .ok (.iload_n 1, 1) := by decide +kernel
theorem dX4_covers_1 : decode cX4_covers 1 = .ok (.ifCond .lt 21, 3) := by decide +kernel
theorem dX4_covers_4 : decode cX4_covers 4 = .ok (.iload_n 2, 1) := by decide +kernel
theorem dX4_covers_5 : decode cX4_covers 5 = .ok (.ifCond .lt 17, 3) := by decide +kernel
theorem dX4_covers_8 : decode cX4_covers 8 = .ok (.iload_n 2, 1) := by decide +kernel
theorem dX4_covers_9 : decode cX4_covers 9 = .ok (.aload_n 0, 1) := by decide +kernel
theorem dX4_covers_10 : decode cX4_covers 10 = .ok (.getfield 15, 3) := by decide +kernel
theorem dX4_covers_13 : decode cX4_covers 13 = .ok (.iload_n 1, 1) := by decide +kernel
theorem dX4_covers_14 : decode cX4_covers 14 = .ok (.isub, 1) := by decide +kernel
theorem dX4_covers_15 : decode cX4_covers 15 = .ok (.if_icmp .gt 7, 3) := by decide +kernel
theorem dX4_covers_18 : decode cX4_covers 18 = .ok (.iconst 1, 1) := by decide +kernel
theorem dX4_covers_19 : decode cX4_covers 19 = .ok (.goto 4, 3) := by decide +kernel
theorem dX4_covers_22 : decode cX4_covers 22 = .ok (.iconst 0, 1) := by decide +kernel
theorem dX4_covers_23 : decode cX4_covers 23 = .ok (.ireturn, 1) := by decide +kernel
set_option maxRecDepth 20000 in
theorem ggX4_put_X4_narrowed : GoodIn wsX4_put wsX4_narrowed := goodIn_r _ [6, 7, 8, 9, 10] (by decide +kernel) (by decide +kernel)
set_option maxRecDepth 20000 in
theorem gX4_put_X4_narrowed : GoodIn wsX4_put (wsV RX4 22 RX4 yX4_narrowed wsX4_narrowed) := goodIn_app (goodIn_of _ (by decide +kernel)) ggX4_put_X4_narrowed
theorem dX4_put_0 : decode cX4_put 0 = .ok (.aload_n 0, 1) := by decide +kernel
theorem dX4_put_1 : decode cX4_put 1 = .ok (.getfield 9, 3) := by decide +kernel
theorem dX4_put_4 : decode cX4_put 4 = .ok (.iload_n 1, 1) := by decide +kernel
theorem dX4_put_5 : decode cX4_put 5 = .ok (.aload_n 0, 1) := by decide +kernel
theorem dX4_put_6 : decode cX4_put 6 = .ok (.iload_n 2, 1) := by decide +kernel
theorem dX4_put_7 : decode cX4_put 7 = .ok (.invokevirtual 22, 3) := by decide +kernel
theorem dX4_put_10 : decode cX4_put 10 = .ok (.iastore, 1) := by decide +kernel
theorem dX4_put_11 : decode cX4_put 11 = .ok (.aload_n 0, 1) := by decide +kernel
theorem dX4_put_12 : decode cX4_put 12 = .ok (.getfield 9, 3) := by decide +kernel
theorem dX4_put_15 : decode cX4_put 15 = .ok (.iload_n 1, 1) := by decide +kernel
theorem dX4_put_16 : decode cX4_put 16 = .ok (.iaload, 1) := by decide +kernel
theorem dX4_put_17 : decode cX4_put 17 = .ok (.ireturn, 1) := by decide +kernel
theorem dX4_narrowed_0 : decode cX4_narrowed 0 = .ok (.aload_n 0, 1) := by decide +kernel
theorem dX4_narrowed_1 : decode cX4_narrowed 1 = .ok (.getfield 19, 3) := by decide +kernel
theorem dX4_narrowed_4 : decode cX4_narrowed 4 = .ok (.lookupswitch 34 #[(0, 28), (1, 31)], 28) := by decide +kernel
theorem dX4_narrowed_32 : decode cX4_narrowed 32 = .ok (.iload_n 1, 1) := by decide +kernel
theorem dX4_narrowed_33 : decode cX4_narrowed 33 = .ok (.i2b, 1) := by decide +kernel
theorem dX4_narrowed_34 : decode cX4_narrowed 34 = .ok (.ireturn, 1) := by decide +kernel
theorem dX4_narrowed_35 : decode cX4_narrowed 35 = .ok (.iload_n 1, 1) := by decide +kernel
theorem dX4_narrowed_36 : decode cX4_narrowed 36 = .ok (.i2s, 1) := by decide +kernel
theorem dX4_narrowed_37 : decode cX4_narrowed 37 = .ok (.ireturn, 1) := by decide +kernel
theorem dX4_narrowed_38 : decode cX4_narrowed 38 = .ok (.iload_n 1, 1) := by decide +kernel
theorem dX4_narrowed_39 : decode cX4_narrowed 39 = .ok (.ireturn, 1) := by decide +kernel
theorem dX5_init_0 : decode cX5_init 0 = .ok (.aload_n 0, 1) := by decide +kernel
theorem dX5_init_1 : decode cX5_init 1 = .ok (.invokespecial 3, 3) := by decide +kernel
theorem dX5_init_4 : decode cX5_init 4 = .ok (.aload_n 0, 1) := by decide +kernel
theorem dX5_init_5 : decode cX5_init 5 = .ok (.sipush 400, 3) := by decide +kernel
theorem dX5_init_8 : decode cX5_init 8 = .ok (.newarray .byte, 2) := by decide +kernel
theorem dX5_init_10 : decode cX5_init 10 = .ok (.putfield 9, 3) := by decide +kernel
theorem dX5_init_13 : decode cX5_init 13 = .ok (.return_, 1) := by decide +kernel
theorem dX5_append_0 : decode cX5_append 0 = .ok (.iload_n 3, 1) := by decide +kernel
theorem dX5_append_1 : decode cX5_append 1 = .ok (.iconst 1, 1) := by decide +kernel
theorem dX5_append_2 : decode cX5_append 2 = .ok (.isub, 1) := by decide +kernel
theorem dX5_append_3 : decode cX5_append 3 = .ok (.istore 4, 2) := by decide +kernel
theorem dX5_append_5 : decode cX5_append 5 = .ok (.iload 4, 2) := by decide +kernel
theorem dX5_append_7 : decode cX5_append 7 = .ok (.ifCond .lt 37, 3) := by decide +kernel
theorem dX5_append_10 : decode cX5_append 10 = .ok (.aload_n 0, 1) := by decide +kernel
theorem dX5_append_11 : decode cX5_append 11 = .ok (.getfield 9, 3) := by decide +kernel
theorem dX5_append_14 : decode cX5_append 14 = .ok (.aload_n 0, 1) := by decide +kernel
theorem dX5_append_15 : decode cX5_append 15 = .ok (.getfield 15, 3) := by decide +kernel
theorem dX5_append_18 : decode cX5_append 18 = .ok (.lload_n 1, 1) := by decide +kernel
theorem dX5_append_19 : decode cX5_append 19 = .ok (.bipush 8, 2) := by decide +kernel
theorem dX5_append_21 : decode cX5_append 21 = .ok (.iload 4, 2) := by decide +kernel
theorem dX5_append_23 : decode cX5_append 23 = .ok (.imul, 1) := by decide +kernel
theorem dX5_append_24 : decode cX5_append 24 = .ok (.lshr, 1) := by decide +kernel
theorem dX5_append_25 : decode cX5_append 25 = .ok (.l2i, 1) := by decide +kernel
theorem dX5_append_26 : decode cX5_append 26 = .ok (.i2b, 1) := by decide +kernel
theorem dX5_append_27 : decode cX5_append 27 = .ok (.bastore, 1) := by decide +kernel
theorem dX5_append_28 : decode cX5_append 28 = .ok (.aload_n 0, 1) := by decide +kernel
theorem dX5_append_29 : decode cX5_append 29 = .ok (.dup, 1) := by decide +kernel
theorem dX5_append_30 : decode cX5_append 30 = .ok (.getfield 15, 3) := by decide +kernel
theorem dX5_append_33 : decode cX5_append 33 = .ok (.iconst 1, 1) := by decide +kernel
theorem dX5_append_34 : decode cX5_append 34 = .ok (.iadd, 1) := by decide +kernel
theorem dX5_append_35 : decode cX5_append 35 = .ok (.putfield 15, 3) := by decide +kernel
theorem dX5_append_38 : decode cX5_append 38 = .ok (.iinc 4 (-1), 3) := by decide +kernel
theorem dX5_append_41 : decode cX5_append 41 = .ok (.goto (-36), 3) := by decide +kernel
theorem dX5_append_44 : decode cX5_append 44 = .ok (.return_, 1) := by decide +kernel
theorem dX5_blanksEnd_0 : decode cX5_blanksEnd 0 = .ok (.iload_n 1, 1) := by decide +kernel
theorem dX5_blanksEnd_1 : decode cX5_blanksEnd 1 = .ok (.istore_n 2, 1) := by decide +kernel
theorem dX5_blanksEnd_2 : decode cX5_blanksEnd 2 = .ok (.iload_n 2, 1) := by decide +kernel
theorem dX5_blanksEnd_3 : decode cX5_blanksEnd 3 = .ok (.aload_n 0, 1) := by decide +kernel
theorem dX5_blanksEnd_4 : decode cX5_blanksEnd 4 = .ok (.getfield 15, 3) := by decide +kernel
theorem dX5_blanksEnd_7 : decode cX5_blanksEnd 7 = .ok (.if_icmp .ge 31, 3) := by decide +kernel
theorem dX5_blanksEnd_10 : decode cX5_blanksEnd 10 = .ok (.aload_n 0, 1) := by decide +kernel
theorem dX5_blanksEnd_11 : decode cX5_blanksEnd 11 = .ok (.getfield 9, 3) := by decide +kernel
theorem dX5_blanksEnd_14 : decode cX5_blanksEnd 14 = .ok (.iload_n 2, 1) := by decide +kernel
theorem dX5_blanksEnd_15 : decode cX5_blanksEnd 15 = .ok (.baload, 1) := by decide +kernel
theorem dX5_blanksEnd_16 : decode cX5_blanksEnd 16 = .ok (.bipush 32, 2) := by decide +kernel
theorem dX5_blanksEnd_18 : decode cX5_blanksEnd 18 = .ok (.if_icmp .eq 14, 3) := by decide +kernel
theorem dX5_blanksEnd_21 : decode cX5_blanksEnd 21 = .ok (.aload_n 0, 1) := by decide +kernel
theorem dX5_blanksEnd_22 : decode cX5_blanksEnd 22 = .ok (.getfield 9, 3) := by decide +kernel
theorem dX5_blanksEnd_25 : decode cX5_blanksEnd 25 = .ok (.iload_n 2, 1) := by decide +kernel
theorem dX5_blanksEnd_26 : decode cX5_blanksEnd 26 = .ok (.baload, 1) := by decide +kernel
theorem dX5_blanksEnd_27 : decode cX5_blanksEnd 27 = .ok (.bipush 10, 2) := by decide +kernel
theorem dX5_blanksEnd_29 : decode cX5_blanksEnd 29 = .ok (.if_icmp .ne 9, 3) := by decide +kernel
theorem dX5_blanksEnd_32 : decode cX5_blanksEnd 32 = .ok (.iinc 2 1, 3) := by decide +kernel
theorem dX5_blanksEnd_35 : decode cX5_blanksEnd 35 = .ok (.goto (-33), 3) := by decide +kernel
theorem dX5_blanksEnd_38 : decode cX5_blanksEnd 38 = .ok (.iload_n 2, 1) := by decide +kernel
theorem dX5_blanksEnd_39 : decode cX5_blanksEnd 39 = .ok (.ireturn, 1) := by decide +kernel
theorem dX5_lettersEnd_0 : decode cX5_lettersEnd 0 = .ok (.iload_n 1, 1) := by decide +kernel
theorem dX5_lettersEnd_1 : decode cX5_lettersEnd 1 = .ok (.istore_n 2, 1) := by decide +kernel
theorem dX5_lettersEnd_2 : decode cX5_lettersEnd 2 = .ok (.iload_n 2, 1) := by decide +kernel
theorem dX5_lettersEnd_3 : decode cX5_lettersEnd 3 = .ok (.aload_n 0, 1) := by decide +kernel
theorem dX5_lettersEnd_4 : decode cX5_lettersEnd 4 = .ok (.getfield 15, 3) := by decide +kernel
theorem dX5_lettersEnd_7 : decode cX5_lettersEnd 7 = .ok (.if_icmp .ge 31, 3) := by decide +kernel
theorem dX5_lettersEnd_10 : decode cX5_lettersEnd 10 = .ok (.aload_n 0, 1) := by decide +kernel
theorem dX5_lettersEnd_11 : decode cX5_lettersEnd 11 = .ok (.getfield 9, 3) := by decide +kernel
theorem dX5_lettersEnd_14 : decode cX5_lettersEnd 14 = .ok (.iload_n 2, 1) := by decide +kernel
theorem dX5_lettersEnd_15 : decode cX5_lettersEnd 15 = .ok (.baload, 1) := by decide +kernel
theorem dX5_lettersEnd_16 : decode cX5_lettersEnd 16 = .ok (.bipush 97, 2) := by decide +kernel
theorem dX5_lettersEnd_18 : decode cX5_lettersEnd 18 = .ok (.if_icmp .lt 20, 3) := by decide +kernel
theorem dX5_lettersEnd_21 : decode cX5_lettersEnd 21 = .ok (.aload_n 0, 1) := by decide +kernel
theorem dX5_lettersEnd_22 : decode cX5_lettersEnd 22 = .ok (.getfield 9, 3) := by decide +kernel
theorem dX5_lettersEnd_25 : decode cX5_lettersEnd 25 = .ok (.iload_n 2, 1) := by decide +kernel
theorem dX5_lettersEnd_26 : decode cX5_lettersEnd 26 = .ok (.baload, 1) := by decide +kernel
theorem dX5_lettersEnd_27 : decode cX5_lettersEnd 27 = .ok (.bipush 122, 2) := by decide +kernel
theorem dX5_lettersEnd_29 : decode cX5_lettersEnd 29 = .ok (.if_icmp .gt 9, 3) := by decide +kernel
theorem dX5_lettersEnd_32 : decode cX5_lettersEnd 32 = .ok (.iinc 2 1, 3) := by decide +kernel
theorem dX5_lettersEnd_35 : decode cX5_lettersEnd 35 = .ok (.goto (-33), 3) := by decide +kernel
theorem dX5_lettersEnd_38 : decode cX5_lettersEnd 38 = .ok (.iload_n 2, 1) := by decide +kernel
theorem dX5_lettersEnd_39 : decode cX5_lettersEnd 39 = .ok (.ireturn, 1) := by decide +kernel
theorem dX5_figuresEnd_0 : decode cX5_figuresEnd 0 = .ok (.iload_n 1, 1) := by decide +kernel
theorem dX5_figuresEnd_1 : decode cX5_figuresEnd 1 = .ok (.istore_n 2, 1) := by decide +kernel
theorem dX5_figuresEnd_2 : decode cX5_figuresEnd 2 = .ok (.iload_n 2, 1) := by decide +kernel
theorem dX5_figuresEnd_3 : decode cX5_figuresEnd 3 = .ok (.aload_n 0, 1) := by decide +kernel
theorem dX5_figuresEnd_4 : decode cX5_figuresEnd 4 = .ok (.getfield 15, 3) := by decide +kernel
theorem dX5_figuresEnd_7 : decode cX5_figuresEnd 7 = .ok (.if_icmp .ge 31, 3) := by decide +kernel
theorem dX5_figuresEnd_10 : decode cX5_figuresEnd 10 = .ok (.aload_n 0, 1) := by decide +kernel
theorem dX5_figuresEnd_11 : decode cX5_figuresEnd 11 = .ok (.getfield 9, 3) := by decide +kernel
theorem dX5_figuresEnd_14 : decode cX5_figuresEnd 14 = .ok (.iload_n 2, 1) := by decide +kernel
theorem dX5_figuresEnd_15 : decode cX5_figuresEnd 15 = .ok (.baload, 1) := by decide +kernel
theorem dX5_figuresEnd_16 : decode cX5_figuresEnd 16 = .ok (.bipush 48, 2) := by decide +kernel
theorem dX5_figuresEnd_18 : decode cX5_figuresEnd 18 = .ok (.if_icmp .lt 20, 3) := by decide +kernel
theorem dX5_figuresEnd_21 : decode cX5_figuresEnd 21 = .ok (.aload_n 0, 1) := by decide +kernel
theorem dX5_figuresEnd_22 : decode cX5_figuresEnd 22 = .ok (.getfield 9, 3) := by decide +kernel
theorem dX5_figuresEnd_25 : decode cX5_figuresEnd 25 = .ok (.iload_n 2, 1) := by decide +kernel
theorem dX5_figuresEnd_26 : decode cX5_figuresEnd 26 = .ok (.baload, 1) := by decide +kernel
theorem dX5_figuresEnd_27 : decode cX5_figuresEnd 27 = .ok (.bipush 57, 2) := by decide +kernel
theorem dX5_figuresEnd_29 : decode cX5_figuresEnd 29 = .ok (.if_icmp .gt 9, 3) := by decide +kernel
theorem dX5_figuresEnd_32 : decode cX5_figuresEnd 32 = .ok (.iinc 2 1, 3) := by decide +kernel
theorem dX5_figuresEnd_35 : decode cX5_figuresEnd 35 = .ok (.goto (-33), 3) := by decide +kernel
theorem dX5_figuresEnd_38 : decode cX5_figuresEnd 38 = .ok (.iload_n 2, 1) := by decide +kernel
theorem dX5_figuresEnd_39 : decode cX5_figuresEnd 39 = .ok (.ireturn, 1) := by decide +kernel
theorem dX5_valueOf_0 : decode cX5_valueOf 0 = .ok (.iconst 0, 1) := by decide +kernel
theorem dX5_valueOf_1 : decode cX5_valueOf 1 = .ok (.istore_n 3, 1) := by decide +kernel
theorem dX5_valueOf_2 : decode cX5_valueOf 2 = .ok (.iload_n 1, 1) := by decide +kernel
theorem dX5_valueOf_3 : decode cX5_valueOf 3 = .ok (.istore 4, 2) := by decide +kernel
theorem dX5_valueOf_5 : decode cX5_valueOf 5 = .ok (.iload 4, 2) := by decide +kernel
theorem dX5_valueOf_7 : decode cX5_valueOf 7 = .ok (.iload_n 2, 1) := by decide +kernel
theorem dX5_valueOf_8 : decode cX5_valueOf 8 = .ok (.if_icmp .ge 34, 3) := by decide +kernel
theorem dX5_valueOf_11 : decode cX5_valueOf 11 = .ok (.iload 4, 2) := by decide +kernel
theorem dX5_valueOf_13 : decode cX5_valueOf 13 = .ok (.aload_n 0, 1) := by decide +kernel
theorem dX5_valueOf_14 : decode cX5_valueOf 14 = .ok (.getfield 15, 3) := by decide +kernel
theorem dX5_valueOf_17 : decode cX5_valueOf 17 = .ok (.if_icmp .ge 25, 3) := by decide +kernel
theorem dX5_valueOf_20 : decode cX5_valueOf 20 = .ok (.iload_n 3, 1) := by decide +kernel
theorem dX5_valueOf_21 : decode cX5_valueOf 21 = .ok (.bipush 10, 2) := by decide +kernel
theorem dX5_valueOf_23 : decode cX5_valueOf 23 = .ok (.imul, 1) := by decide +kernel
theorem dX5_valueOf_24 : decode cX5_valueOf 24 = .ok (.aload_n 0, 1) := by decide +kernel
theorem dX5_valueOf_25 : decode cX5_valueOf 25 = .ok (.getfield 9, 3) := by decide +kernel
theorem dX5_valueOf_28 : decode cX5_valueOf 28 = .ok (.iload 4, 2) := by decide +kernel
theorem dX5_valueOf_30 : decode cX5_valueOf 30 = .ok (.baload, 1) := by decide +kernel
theorem dX5_valueOf_31 : decode cX5_valueOf 31 = .ok (.iadd, 1) := by decide +kernel
theorem dX5_valueOf_32 : decode cX5_valueOf 32 = .ok (.bipush 48, 2) := by decide +kernel
theorem dX5_valueOf_34 : decode cX5_valueOf 34 = .ok (.isub, 1) := by decide +kernel
theorem dX5_valueOf_35 : decode cX5_valueOf 35 = .ok (.istore_n 3, 1) := by decide +kernel
theorem dX5_valueOf_36 : decode cX5_valueOf 36 = .ok (.iinc 4 1, 3) := by decide +kernel
theorem dX5_valueOf_39 : decode cX5_valueOf 39 = .ok (.goto (-34), 3) := by decide +kernel
theorem dX5_valueOf_42 : decode cX5_valueOf 42 = .ok (.iload_n 3, 1) := by decide +kernel
theorem dX5_valueOf_43 : decode cX5_valueOf 43 = .ok (.ireturn, 1) := by decide +kernel
set_option maxRecDepth 20000 in
theorem ggX5_tells_J0_length_8abf5 : GoodIn wsX5_tells wsJ0_length_8abf5 := goodIn_r _ [7, 8, 9, 10, 11, 6, 12, 13, 14] (by decide +kernel) (by decide +kernel)
set_option maxRecDepth 20000 in
theorem gX5_tells_J0_length_8abf5 : GoodIn wsX5_tells (wsV RX5 19 RJ0 yJ0_length_8abf5 wsJ0_length_8abf5) := goodIn_app (goodIn_of _ (by decide +kernel)) ggX5_tells_J0_length_8abf5
set_option maxRecDepth 20000 in
theorem ggX5_tells_J0_charAt_5068e : GoodIn wsX5_tells wsJ0_charAt_5068e := goodIn_r _ [18, 8, 19, 20, 21, 6, 22, 13, 14, 23, 24, 25, 26, 27, 28, 29, 30, 31, 32, 33, 34, 35, 36, 37, 38, 39, 40, 41, 42, 43, 44, 45, 46, 47, 48, 49, 50, 51] (by decide +kernel) (by decide +kernel)
set_option maxRecDepth 20000 in
theorem gX5_tells_J0_charAt_5068e : GoodIn wsX5_tells (wsV RX5 24 RJ0 yJ0_charAt_5068e wsJ0_charAt_5068e) := goodIn_app (goodIn_of _ (by decide +kernel)) ggX5_tells_J0_charAt_5068e
theorem dX5_tells_0 : decode cX5_tells 0 = .ok (.iload_n 3, 1) := by decide +kernel
theorem dX5_tells_1 : decode cX5_tells 1 = .ok (.iload_n 2, 1) := by decide +kernel
theorem dX5_tells_2 : decode cX5_tells 2 = .ok (.isub, 1) := by decide +kernel
theorem dX5_tells_3 : decode cX5_tells 3 = .ok (.aload_n 1, 1) := by decide +kernel
theorem dX5_tells_4 : decode cX5_tells 4 = .ok (.invokevirtual 19, 3) := by decide +kernel
theorem dX5_tells_7 : decode cX5_tells 7 = .ok (.if_icmp .ne 11, 3) := by decide +kernel
theorem dX5_tells_10 : decode cX5_tells 10 = .ok (.iload_n 3, 1) := by decide +kernel
theorem dX5_tells_11 : decode cX5_tells 11 = .ok (.aload_n 0, 1) := by decide +kernel
theorem dX5_tells_12 : decode cX5_tells 12 = .ok (.getfield 15, 3) := by decide +kernel
theorem dX5_tells_15 : decode cX5_tells 15 = .ok (.if_icmp .le 5, 3) := by decide +kernel
theorem dX5_tells_18 : decode cX5_tells 18 = .ok (.iconst 0, 1) := by decide +kernel
theorem dX5_tells_19 : decode cX5_tells 19 = .ok (.ireturn, 1) := by decide +kernel
theorem dX5_tells_20 : decode cX5_tells 20 = .ok (.iload_n 2, 1) := by decide +kernel
theorem dX5_tells_21 : decode cX5_tells 21 = .ok (.istore 4, 2) := by decide +kernel
theorem dX5_tells_23 : decode cX5_tells 23 = .ok (.iload 4, 2) := by decide +kernel
theorem dX5_tells_25 : decode cX5_tells 25 = .ok (.iload_n 3, 1) := by decide +kernel
theorem dX5_tells_26 : decode cX5_tells 26 = .ok (.if_icmp .ge 29, 3) := by decide +kernel
theorem dX5_tells_29 : decode cX5_tells 29 = .ok (.aload_n 0, 1) := by decide +kernel
theorem dX5_tells_30 : decode cX5_tells 30 = .ok (.getfield 9, 3) := by decide +kernel
theorem dX5_tells_33 : decode cX5_tells 33 = .ok (.iload 4, 2) := by decide +kernel
theorem dX5_tells_35 : decode cX5_tells 35 = .ok (.baload, 1) := by decide +kernel
theorem dX5_tells_36 : decode cX5_tells 36 = .ok (.aload_n 1, 1) := by decide +kernel
theorem dX5_tells_37 : decode cX5_tells 37 = .ok (.iload 4, 2) := by decide +kernel
theorem dX5_tells_39 : decode cX5_tells 39 = .ok (.iload_n 2, 1) := by decide +kernel
theorem dX5_tells_40 : decode cX5_tells 40 = .ok (.isub, 1) := by decide +kernel
theorem dX5_tells_41 : decode cX5_tells 41 = .ok (.invokevirtual 24, 3) := by decide +kernel
theorem dX5_tells_44 : decode cX5_tells 44 = .ok (.if_icmp .eq 5, 3) := by decide +kernel
theorem dX5_tells_47 : decode cX5_tells 47 = .ok (.iconst 0, 1) := by decide +kernel
theorem dX5_tells_48 : decode cX5_tells 48 = .ok (.ireturn, 1) := by decide +kernel
theorem dX5_tells_49 : decode cX5_tells 49 = .ok (.iinc 4 1, 3) := by decide +kernel
theorem dX5_tells_52 : decode cX5_tells 52 = .ok (.goto (-29), 3) := by decide +kernel
theorem dX5_tells_55 : decode cX5_tells 55 = .ok (.iconst 1, 1) := by decide +kernel
theorem dX5_tells_56 : decode cX5_tells 56 = .ok (.ireturn, 1) := by decide +kernel
theorem dX6_init_0 : decode cX6_init 0 = .ok (.aload_n 0, 1) := by decide +kernel
theorem dX6_init_1 : decode cX6_init 1 = .ok (.invokespecial 3, 3) := by decide +kernel
theorem dX6_init_4 : decode cX6_init 4 = .ok (.aload_n 0, 1) := by decide +kernel
theorem dX6_init_5 : decode cX6_init 5 = .ok (.bipush 16, 2) := by decide +kernel
theorem dX6_init_7 : decode cX6_init 7 = .ok (.newarray .int, 2) := by decide +kernel
theorem dX6_init_9 : decode cX6_init 9 = .ok (.putfield 9, 3) := by decide +kernel
theorem dX6_init_12 : decode cX6_init 12 = .ok (.return_, 1) := by decide +kernel
theorem dX6_leave_0 : decode cX6_leave 0 = .ok (.aload_n 0, 1) := by decide +kernel
theorem dX6_leave_1 : decode cX6_leave 1 = .ok (.getfield 15, 3) := by decide +kernel
theorem dX6_leave_4 : decode cX6_leave 4 = .ok (.bipush 16, 2) := by decide +kernel
theorem dX6_leave_6 : decode cX6_leave 6 = .ok (.if_icmp .ge 23, 3) := by decide +kernel
theorem dX6_leave_9 : decode cX6_leave 9 = .ok (.aload_n 0, 1) := by decide +kernel
theorem dX6_leave_10 : decode cX6_leave 10 = .ok (.getfield 9, 3) := by decide +kernel
theorem dX6_leave_13 : decode cX6_leave 13 = .ok (.aload_n 0, 1) := by decide +kernel
theorem dX6_leave_14 : decode cX6_leave 14 = .ok (.getfield 15, 3) := by decide +kernel
theorem dX6_leave_17 : decode cX6_leave 17 = .ok (.iload_n 1, 1) := by decide +kernel
theorem dX6_leave_18 : decode cX6_leave 18 = .ok (.iastore, 1) := by decide +kernel
theorem dX6_leave_19 : decode cX6_leave 19 = .ok (.aload_n 0, 1) := by decide +kernel
theorem dX6_leave_20 : decode cX6_leave 20 = .ok (.dup, 1) := by decide +kernel
theorem dX6_leave_21 : decode cX6_leave 21 = .ok (.getfield 15, 3) := by decide +kernel
theorem dX6_leave_24 : decode cX6_leave 24 = .ok (.iconst 1, 1) := by decide +kernel
theorem dX6_leave_25 : decode cX6_leave 25 = .ok (.iadd, 1) := by decide +kernel
theorem dX6_leave_26 : decode cX6_leave 26 = .ok (.putfield 15, 3) := by decide +kernel
theorem dX6_leave_29 : decode cX6_leave 29 = .ok (.return_, 1) := by decide +kernel
