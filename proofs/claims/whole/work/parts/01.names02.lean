set_option maxRecDepth 20000 in
theorem ggX7_init_X2_init : GoodIn wsX7_init wsX2_init := goodIn_r _ [46, 47, 2, 3, 48, 49, 50, 51, 52, 79, 80, 81, 82] (by decide +kernel) (by decide +kernel)
set_option maxRecDepth 20000 in
theorem gX7_init_X2_init_n39 : GoodIn wsX7_init (wsX2_init) := ggX7_init_X2_init
set_option maxRecDepth 20000 in
theorem ggX7_init_X5_init : GoodIn wsX7_init wsX5_init := goodIn_r _ [54, 55, 2, 3] (by decide +kernel) (by decide +kernel)
set_option maxRecDepth 20000 in
theorem gX7_init_X5_init_n53 : GoodIn wsX7_init (wsX5_init) := ggX7_init_X5_init
set_option maxRecDepth 20000 in
theorem ggX7_init_X4_init : GoodIn wsX7_init wsX4_init := goodIn_r _ [57, 58, 2, 3, 15, 59, 60, 61, 62, 87, 88, 89, 90] (by decide +kernel) (by decide +kernel)
set_option maxRecDepth 20000 in
theorem gX7_init_X4_init_n64 : GoodIn wsX7_init (wsX4_init) := ggX7_init_X4_init
theorem dX7_init_0 : decode cX7_init 0 = .ok (.aload_n 0, 1) := by decide +kernel
theorem dX7_init_1 : decode cX7_init 1 = .ok (.invokespecial 1, 3) := by decide +kernel
theorem dX7_init_4 : decode cX7_init 4 = .ok (.aload_n 0, 1) := by decide +kernel
theorem dX7_init_5 : decode cX7_init 5 = .ok (.bipush 16, 2) := by decide +kernel
theorem dX7_init_7 : decode cX7_init 7 = .ok (.anewarray 9, 3) := by decide +kernel
theorem dX7_init_10 : decode cX7_init 10 = .ok (.putfield 11, 3) := by decide +kernel
theorem dX7_init_13 : decode cX7_init 13 = .ok (.aload_n 0, 1) := by decide +kernel
theorem dX7_init_14 : decode cX7_init 14 = .ok (.iconst 0, 1) := by decide +kernel
theorem dX7_init_15 : decode cX7_init 15 = .ok (.putfield 15, 3) := by decide +kernel
theorem dX7_init_18 : decode cX7_init 18 = .ok (.aload_n 0, 1) := by decide +kernel
theorem dX7_init_19 : decode cX7_init 19 = .ok (.bipush 8, 2) := by decide +kernel
theorem dX7_init_21 : decode cX7_init 21 = .ok (.anewarray 19, 3) := by decide +kernel
theorem dX7_init_24 : decode cX7_init 24 = .ok (.putfield 21, 3) := by decide +kernel
theorem dX7_init_27 : decode cX7_init 27 = .ok (.iconst 0, 1) := by decide +kernel
theorem dX7_init_28 : decode cX7_init 28 = .ok (.istore_n 1, 1) := by decide +kernel
theorem dX7_init_29 : decode cX7_init 29 = .ok (.iload_n 1, 1) := by decide +kernel
theorem dX7_init_30 : decode cX7_init 30 = .ok (.bipush 8, 2) := by decide +kernel
theorem dX7_init_32 : decode cX7_init 32 = .ok (.if_icmp .ge 22, 3) := by decide +kernel
theorem dX7_init_35 : decode cX7_init 35 = .ok (.aload_n 0, 1) := by decide +kernel
theorem dX7_init_36 : decode cX7_init 36 = .ok (.getfield 21, 3) := by decide +kernel
theorem dX7_init_39 : decode cX7_init 39 = .ok (.iload_n 1, 1) := by decide +kernel
theorem dX7_init_40 : decode cX7_init 40 = .ok (.new 19, 3) := by decide +kernel
theorem dX7_init_43 : decode cX7_init 43 = .ok (.dup, 1) := by decide +kernel
theorem dX7_init_44 : decode cX7_init 44 = .ok (.invokespecial 25, 3) := by decide +kernel
theorem dX7_init_47 : decode cX7_init 47 = .ok (.aastore, 1) := by decide +kernel
theorem dX7_init_48 : decode cX7_init 48 = .ok (.iinc 1 1, 3) := by decide +kernel
theorem dX7_init_51 : decode cX7_init 51 = .ok (.goto (-22), 3) := by decide +kernel
theorem dX7_init_54 : decode cX7_init 54 = .ok (.aload_n 0, 1) := by decide +kernel
theorem dX7_init_55 : decode cX7_init 55 = .ok (.new 26, 3) := by decide +kernel
theorem dX7_init_58 : decode cX7_init 58 = .ok (.dup, 1) := by decide +kernel
theorem dX7_init_59 : decode cX7_init 59 = .ok (.invokespecial 28, 3) := by decide +kernel
theorem dX7_init_62 : decode cX7_init 62 = .ok (.putfield 29, 3) := by decide +kernel
theorem dX7_init_65 : decode cX7_init 65 = .ok (.aload_n 0, 1) := by decide +kernel
theorem dX7_init_66 : decode cX7_init 66 = .ok (.iconst 4, 1) := by decide +kernel
theorem dX7_init_67 : decode cX7_init 67 = .ok (.newarray .int, 2) := by decide +kernel
theorem dX7_init_69 : decode cX7_init 69 = .ok (.dup, 1) := by decide +kernel
theorem dX7_init_70 : decode cX7_init 70 = .ok (.iconst 0, 1) := by decide +kernel
theorem dX7_init_71 : decode cX7_init 71 = .ok (.bipush 100, 2) := by decide +kernel
theorem dX7_init_73 : decode cX7_init 73 = .ok (.iastore, 1) := by decide +kernel
theorem dX7_init_74 : decode cX7_init 74 = .ok (.dup, 1) := by decide +kernel
theorem dX7_init_75 : decode cX7_init 75 = .ok (.iconst 1, 1) := by decide +kernel
theorem dX7_init_76 : decode cX7_init 76 = .ok (.bipush 10, 2) := by decide +kernel
theorem dX7_init_78 : decode cX7_init 78 = .ok (.iastore, 1) := by decide +kernel
theorem dX7_init_79 : decode cX7_init 79 = .ok (.dup, 1) := by decide +kernel
theorem dX7_init_80 : decode cX7_init 80 = .ok (.iconst 2, 1) := by decide +kernel
theorem dX7_init_81 : decode cX7_init 81 = .ok (.bipush 20, 2) := by decide +kernel
theorem dX7_init_83 : decode cX7_init 83 = .ok (.iastore, 1) := by decide +kernel
theorem dX7_init_84 : decode cX7_init 84 = .ok (.dup, 1) := by decide +kernel
theorem dX7_init_85 : decode cX7_init 85 = .ok (.iconst 3, 1) := by decide +kernel
theorem dX7_init_86 : decode cX7_init 86 = .ok (.bipush 10, 2) := by decide +kernel
theorem dX7_init_88 : decode cX7_init 88 = .ok (.iastore, 1) := by decide +kernel
theorem dX7_init_89 : decode cX7_init 89 = .ok (.putfield 33, 3) := by decide +kernel
theorem dX7_init_92 : decode cX7_init 92 = .ok (.aload_n 0, 1) := by decide +kernel
theorem dX7_init_93 : decode cX7_init 93 = .ok (.new 37, 3) := by decide +kernel
theorem dX7_init_96 : decode cX7_init 96 = .ok (.dup, 1) := by decide +kernel
theorem dX7_init_97 : decode cX7_init 97 = .ok (.invokespecial 39, 3) := by decide +kernel
theorem dX7_init_100 : decode cX7_init 100 = .ok (.putfield 40, 3) := by decide +kernel
theorem dX7_init_103 : decode cX7_init 103 = .ok (.aload_n 0, 1) := by decide +kernel
theorem dX7_init_104 : decode cX7_init 104 = .ok (.bipush 52, 2) := by decide +kernel
theorem dX7_init_106 : decode cX7_init 106 = .ok (.newarray .boolean, 2) := by decide +kernel
theorem dX7_init_108 : decode cX7_init 108 = .ok (.putfield 44, 3) := by decide +kernel
theorem dX7_init_111 : decode cX7_init 111 = .ok (.aload_n 0, 1) := by decide +kernel
theorem dX7_init_112 : decode cX7_init 112 = .ok (.bipush 52, 2) := by decide +kernel
theorem dX7_init_114 : decode cX7_init 114 = .ok (.newarray .int, 2) := by decide +kernel
theorem dX7_init_116 : decode cX7_init 116 = .ok (.putfield 48, 3) := by decide +kernel
theorem dX7_init_119 : decode cX7_init 119 = .ok (.aload_n 0, 1) := by decide +kernel
theorem dX7_init_120 : decode cX7_init 120 = .ok (.new 51, 3) := by decide +kernel
theorem dX7_init_123 : decode cX7_init 123 = .ok (.dup, 1) := by decide +kernel
theorem dX7_init_124 : decode cX7_init 124 = .ok (.invokespecial 53, 3) := by decide +kernel
theorem dX7_init_127 : decode cX7_init 127 = .ok (.putfield 54, 3) := by decide +kernel
theorem dX7_init_130 : decode cX7_init 130 = .ok (.aload_n 0, 1) := by decide +kernel
theorem dX7_init_131 : decode cX7_init 131 = .ok (.iconst 4, 1) := by decide +kernel
theorem dX7_init_132 : decode cX7_init 132 = .ok (.anewarray 58, 3) := by decide +kernel
theorem dX7_init_135 : decode cX7_init 135 = .ok (.putfield 60, 3) := by decide +kernel
theorem dX7_init_138 : decode cX7_init 138 = .ok (.iconst 0, 1) := by decide +kernel
theorem dX7_init_139 : decode cX7_init 139 = .ok (.istore_n 1, 1) := by decide +kernel
theorem dX7_init_140 : decode cX7_init 140 = .ok (.iload_n 1, 1) := by decide +kernel
theorem dX7_init_141 : decode cX7_init 141 = .ok (.iconst 4, 1) := by decide +kernel
theorem dX7_init_142 : decode cX7_init 142 = .ok (.if_icmp .ge 22, 3) := by decide +kernel
theorem dX7_init_145 : decode cX7_init 145 = .ok (.aload_n 0, 1) := by decide +kernel
theorem dX7_init_146 : decode cX7_init 146 = .ok (.getfield 60, 3) := by decide +kernel
theorem dX7_init_149 : decode cX7_init 149 = .ok (.iload_n 1, 1) := by decide +kernel
theorem dX7_init_150 : decode cX7_init 150 = .ok (.new 58, 3) := by decide +kernel
theorem dX7_init_153 : decode cX7_init 153 = .ok (.dup, 1) := by decide +kernel
theorem dX7_init_154 : decode cX7_init 154 = .ok (.invokespecial 64, 3) := by decide +kernel
theorem dX7_init_157 : decode cX7_init 157 = .ok (.aastore, 1) := by decide +kernel
theorem dX7_init_158 : decode cX7_init 158 = .ok (.iinc 1 1, 3) := by decide +kernel
theorem dX7_init_161 : decode cX7_init 161 = .ok (.goto (-21), 3) := by decide +kernel
theorem dX7_init_164 : decode cX7_init 164 = .ok (.aload_n 0, 1) := by decide +kernel
theorem dX7_init_165 : decode cX7_init 165 = .ok (.iconst 0, 1) := by decide +kernel
theorem dX7_init_166 : decode cX7_init 166 = .ok (.putfield 65, 3) := by decide +kernel
theorem dX7_init_169 : decode cX7_init 169 = .ok (.return_, 1) := by decide +kernel
set_option maxRecDepth 20000 in
theorem ggX7_letter_X7_within : GoodIn wsX7_letter wsX7_within := goodIn_r _ [9] (by decide +kernel) (by decide +kernel)
set_option maxRecDepth 20000 in
theorem gX7_letter_X7_within : GoodIn wsX7_letter (va_wsS RX7 68 yX7_within wsX7_within) := goodIn_app (goodIn_of _ (by decide +kernel)) ggX7_letter_X7_within
set_option maxRecDepth 20000 in
theorem ggX7_letter_X0_init : GoodIn wsX7_letter wsX0_init := goodIn_r _ [12, 13, 14, 15, 16, 17, 18, 19, 20, 32, 33, 34, 35] (by decide +kernel) (by decide +kernel)
set_option maxRecDepth 20000 in
theorem gX7_letter_X0_init : GoodIn wsX7_letter (wsX0_init) := ggX7_letter_X0_init
theorem dX7_letter_0 : decode cX7_letter 0 = .ok (.iload_n 1, 1) := by decide +kernel
theorem dX7_letter_1 : decode cX7_letter 1 = .ok (.iconst 1, 1) := by decide +kernel
theorem dX7_letter_2 : decode cX7_letter 2 = .ok (.iconst 5, 1) := by decide +kernel
theorem dX7_letter_3 : decode cX7_letter 3 = .ok (.invokestatic 68, 3) := by decide +kernel
theorem dX7_letter_6 : decode cX7_letter 6 = .ok (.ifCond .eq 23, 3) := by decide +kernel
theorem dX7_letter_9 : decode cX7_letter 9 = .ok (.iload_n 2, 1) := by decide +kernel
theorem dX7_letter_10 : decode cX7_letter 10 = .ok (.iconst 1, 1) := by decide +kernel
theorem dX7_letter_11 : decode cX7_letter 11 = .ok (.bipush 9, 2) := by decide +kernel
theorem dX7_letter_13 : decode cX7_letter 13 = .ok (.invokestatic 68, 3) := by decide +kernel
theorem dX7_letter_16 : decode cX7_letter 16 = .ok (.ifCond .eq 13, 3) := by decide +kernel
theorem dX7_letter_19 : decode cX7_letter 19 = .ok (.iload_n 3, 1) := by decide +kernel
theorem dX7_letter_20 : decode cX7_letter 20 = .ok (.iconst 1, 1) := by decide +kernel
theorem dX7_letter_21 : decode cX7_letter 21 = .ok (.bipush 99, 2) := by decide +kernel
theorem dX7_letter_23 : decode cX7_letter 23 = .ok (.invokestatic 68, 3) := by decide +kernel
theorem dX7_letter_26 : decode cX7_letter 26 = .ok (.ifCond .ne 6, 3) := by decide +kernel
theorem dX7_letter_29 : decode cX7_letter 29 = .ok (.bipush (-2), 2) := by decide +kernel
theorem dX7_letter_31 : decode cX7_letter 31 = .ok (.ireturn, 1) := by decide +kernel
theorem dX7_letter_32 : decode cX7_letter 32 = .ok (.aload_n 0, 1) := by decide +kernel
theorem dX7_letter_33 : decode cX7_letter 33 = .ok (.getfield 15, 3) := by decide +kernel
theorem dX7_letter_36 : decode cX7_letter 36 = .ok (.bipush 16, 2) := by decide +kernel
theorem dX7_letter_38 : decode cX7_letter 38 = .ok (.if_icmp .lt 6, 3) := by decide +kernel
theorem dX7_letter_41 : decode cX7_letter 41 = .ok (.bipush (-4), 2) := by decide +kernel
theorem dX7_letter_43 : decode cX7_letter 43 = .ok (.ireturn, 1) := by decide +kernel
theorem dX7_letter_44 : decode cX7_letter 44 = .ok (.aload_n 0, 1) := by decide +kernel
theorem dX7_letter_45 : decode cX7_letter 45 = .ok (.getfield 11, 3) := by decide +kernel
theorem dX7_letter_48 : decode cX7_letter 48 = .ok (.aload_n 0, 1) := by decide +kernel
theorem dX7_letter_49 : decode cX7_letter 49 = .ok (.getfield 15, 3) := by decide +kernel
theorem dX7_letter_52 : decode cX7_letter 52 = .ok (.new 9, 3) := by decide +kernel
theorem dX7_letter_55 : decode cX7_letter 55 = .ok (.dup, 1) := by decide +kernel
theorem dX7_letter_56 : decode cX7_letter 56 = .ok (.iload_n 1, 1) := by decide +kernel
theorem dX7_letter_57 : decode cX7_letter 57 = .ok (.iload_n 2, 1) := by decide +kernel
theorem dX7_letter_58 : decode cX7_letter 58 = .ok (.iload_n 3, 1) := by decide +kernel
theorem dX7_letter_59 : decode cX7_letter 59 = .ok (.invokespecial 72, 3) := by decide +kernel
theorem dX7_letter_62 : decode cX7_letter 62 = .ok (.aastore, 1) := by decide +kernel
theorem dX7_letter_63 : decode cX7_letter 63 = .ok (.aload_n 0, 1) := by decide +kernel
theorem dX7_letter_64 : decode cX7_letter 64 = .ok (.dup, 1) := by decide +kernel
theorem dX7_letter_65 : decode cX7_letter 65 = .ok (.getfield 15, 3) := by decide +kernel
theorem dX7_letter_68 : decode cX7_letter 68 = .ok (.iconst 1, 1) := by decide +kernel
theorem dX7_letter_69 : decode cX7_letter 69 = .ok (.iadd, 1) := by decide +kernel
theorem dX7_letter_70 : decode cX7_letter 70 = .ok (.putfield 15, 3) := by decide +kernel
theorem dX7_letter_73 : decode cX7_letter 73 = .ok (.aload_n 0, 1) := by decide +kernel
theorem dX7_letter_74 : decode cX7_letter 74 = .ok (.getfield 15, 3) := by decide +kernel
theorem dX7_letter_77 : decode cX7_letter 77 = .ok (.iconst 1, 1) := by decide +kernel
theorem dX7_letter_78 : decode cX7_letter 78 = .ok (.isub, 1) := by decide +kernel
theorem dX7_letter_79 : decode cX7_letter 79 = .ok (.ireturn, 1) := by decide +kernel
set_option maxRecDepth 20000 in
theorem ggX7_strip_X7_letterAt : GoodIn wsX7_strip wsX7_letterAt := goodIn_r _ [6, 7, 8, 9, 10, 5, 11, 22, 23, 24, 25, 26, 27, 28, 29, 30, 31, 32] (by decide +kernel) (by decide +kernel)
set_option maxRecDepth 20000 in
theorem gX7_strip_X7_letterAt : GoodIn wsX7_strip (wsV RX7 75 RX7 yX7_letterAt wsX7_letterAt) := goodIn_app (goodIn_of _ (by decide +kernel)) ggX7_strip_X7_letterAt
set_option maxRecDepth 20000 in
theorem ggX7_strip_X0_hasStrip : GoodIn wsX7_strip wsX0_hasStrip := goodIn_r _ [16, 17, 10, 5, 11, 18, 19, 20, 21] (by decide +kernel) (by decide +kernel)
set_option maxRecDepth 20000 in
theorem gX7_strip_X0_hasStrip : GoodIn wsX7_strip (wsV RX7 79 RX0 yX0_hasStrip wsX0_hasStrip) := goodIn_app (goodIn_of _ (by decide +kernel)) ggX7_strip_X0_hasStrip
set_option maxRecDepth 20000 in
theorem ggX7_strip_X7_within : GoodIn wsX7_strip wsX7_within := goodIn_r _ [11] (by decide +kernel) (by decide +kernel)
set_option maxRecDepth 20000 in
theorem gX7_strip_X7_within : GoodIn wsX7_strip (va_wsS RX7 68 yX7_within wsX7_within) := goodIn_app (goodIn_of _ (by decide +kernel)) ggX7_strip_X7_within
theorem dX7_strip_0 : decode cX7_strip 0 = .ok (.aload_n 0, 1) := by decide +kernel
theorem dX7_strip_1 : decode cX7_strip 1 = .ok (.iload_n 1, 1) := by decide +kernel
theorem dX7_strip_2 : decode cX7_strip 2 = .ok (.invokevirtual 75, 3) := by decide +kernel
theorem dX7_strip_5 : decode cX7_strip 5 = .ok (.astore 4, 2) := by decide +kernel
theorem dX7_strip_7 : decode cX7_strip 7 = .ok (.aload 4, 2) := by decide +kernel
theorem dX7_strip_9 : decode cX7_strip 9 = .ok (.ifnull 22, 3) := by decide +kernel
theorem dX7_strip_12 : decode cX7_strip 12 = .ok (.aload 4, 2) := by decide +kernel
theorem dX7_strip_14 : decode cX7_strip 14 = .ok (.iload_n 2, 1) := by decide +kernel
theorem dX7_strip_15 : decode cX7_strip 15 = .ok (.invokevirtual 79, 3) := by decide +kernel
theorem dX7_strip_18 : decode cX7_strip 18 = .ok (.ifCond .eq 13, 3) := by decide +kernel
theorem dX7_strip_21 : decode cX7_strip 21 = .ok (.iload_n 3, 1) := by decide +kernel
theorem dX7_strip_22 : decode cX7_strip 22 = .ok (.iconst 0, 1) := by decide +kernel
theorem dX7_strip_23 : decode cX7_strip 23 = .ok (.bipush 31, 2) := by decide +kernel
theorem dX7_strip_25 : decode cX7_strip 25 = .ok (.invokestatic 68, 3) := by decide +kernel
theorem dX7_strip_28 : decode cX7_strip 28 = .ok (.ifCond .ne 6, 3) := by decide +kernel
theorem dX7_strip_31 : decode cX7_strip 31 = .ok (.bipush (-2), 2) := by decide +kernel
theorem dX7_strip_33 : decode cX7_strip 33 = .ok (.ireturn, 1) := by decide +kernel
theorem dX7_strip_34 : decode cX7_strip 34 = .ok (.aload 4, 2) := by decide +kernel
theorem dX7_strip_36 : decode cX7_strip 36 = .ok (.getfield 83, 3) := by decide +kernel
theorem dX7_strip_39 : decode cX7_strip 39 = .ok (.iload_n 2, 1) := by decide +kernel
theorem dX7_strip_40 : decode cX7_strip 40 = .ok (.iaload, 1) := by decide +kernel
theorem dX7_strip_41 : decode cX7_strip 41 = .ok (.istore 5, 2) := by decide +kernel
theorem dX7_strip_43 : decode cX7_strip 43 = .ok (.aload 4, 2) := by decide +kernel
theorem dX7_strip_45 : decode cX7_strip 45 = .ok (.getfield 83, 3) := by decide +kernel
theorem dX7_strip_48 : decode cX7_strip 48 = .ok (.iload_n 2, 1) := by decide +kernel
theorem dX7_strip_49 : decode cX7_strip 49 = .ok (.iload_n 3, 1) := by decide +kernel
theorem dX7_strip_50 : decode cX7_strip 50 = .ok (.iastore, 1) := by decide +kernel
theorem dX7_strip_51 : decode cX7_strip 51 = .ok (.iload 5, 2) := by decide +kernel
theorem dX7_strip_53 : decode cX7_strip 53 = .ok (.ireturn, 1) := by decide +kernel
set_option maxRecDepth 20000 in
theorem ggX7_about_X7_letterAt : GoodIn wsX7_about wsX7_letterAt := goodIn_r _ [9, 10, 11, 12, 13, 8, 14, 25, 26, 27, 28, 29, 30, 31, 32, 33, 34, 35] (by decide +kernel) (by decide +kernel)
set_option maxRecDepth 20000 in
theorem gX7_about_X7_letterAt : GoodIn wsX7_about (wsV RX7 75 RX7 yX7_letterAt wsX7_letterAt) := goodIn_app (goodIn_of _ (by decide +kernel)) ggX7_about_X7_letterAt
set_option maxRecDepth 20000 in
theorem ggX7_about_X0_hasStrip : GoodIn wsX7_about wsX0_hasStrip := goodIn_r _ [19, 20, 13, 8, 14, 21, 22, 23, 24] (by decide +kernel) (by decide +kernel)
set_option maxRecDepth 20000 in
theorem gX7_about_X0_hasStrip : GoodIn wsX7_about (wsV RX7 79 RX0 yX0_hasStrip wsX0_hasStrip) := goodIn_app (goodIn_of _ (by decide +kernel)) ggX7_about_X0_hasStrip
theorem dX7_about_0 : decode cX7_about 0 = .ok (.aload_n 0, 1) := by decide +kernel
theorem dX7_about_1 : decode cX7_about 1 = .ok (.iload_n 1, 1) := by decide +kernel
theorem dX7_about_2 : decode cX7_about 2 = .ok (.invokevirtual 75, 3) := by decide +kernel
theorem dX7_about_5 : decode cX7_about 5 = .ok (.astore_n 3, 1) := by decide +kernel
theorem dX7_about_6 : decode cX7_about 6 = .ok (.aload_n 3, 1) := by decide +kernel
theorem dX7_about_7 : decode cX7_about 7 = .ok (.ifnonnull 6, 3) := by decide +kernel
theorem dX7_about_10 : decode cX7_about 10 = .ok (.bipush (-2), 2) := by decide +kernel
theorem dX7_about_12 : decode cX7_about 12 = .ok (.ireturn, 1) := by decide +kernel
theorem dX7_about_13 : decode cX7_about 13 = .ok (.iload_n 2, 1) := by decide +kernel
theorem dX7_about_14 : decode cX7_about 14 = .ok (.tableswitch 41 0 2 #[26, 31, 36], 26) := by decide +kernel
theorem dX7_about_40 : decode cX7_about 40 = .ok (.aload_n 3, 1) := by decide +kernel
theorem dX7_about_41 : decode cX7_about 41 = .ok (.getfield 86, 3) := by decide +kernel
theorem dX7_about_44 : decode cX7_about 44 = .ok (.ireturn, 1) := by decide +kernel
theorem dX7_about_45 : decode cX7_about 45 = .ok (.aload_n 3, 1) := by decide +kernel
theorem dX7_about_46 : decode cX7_about 46 = .ok (.getfield 89, 3) := by decide +kernel
theorem dX7_about_49 : decode cX7_about 49 = .ok (.ireturn, 1) := by decide +kernel
theorem dX7_about_50 : decode cX7_about 50 = .ok (.aload_n 3, 1) := by decide +kernel
theorem dX7_about_51 : decode cX7_about 51 = .ok (.getfield 92, 3) := by decide +kernel
theorem dX7_about_54 : decode cX7_about 54 = .ok (.ireturn, 1) := by decide +kernel
theorem dX7_about_55 : decode cX7_about 55 = .ok (.iload_n 2, 1) := by decide +kernel
theorem dX7_about_56 : decode cX7_about 56 = .ok (.bipush 10, 2) := by decide +kernel
theorem dX7_about_58 : decode cX7_about 58 = .ok (.if_icmp .lt 26, 3) := by decide +kernel
theorem dX7_about_61 : decode cX7_about 61 = .ok (.aload_n 3, 1) := by decide +kernel
theorem dX7_about_62 : decode cX7_about 62 = .ok (.iload_n 2, 1) := by decide +kernel
theorem dX7_about_63 : decode cX7_about 63 = .ok (.bipush 10, 2) := by decide +kernel
theorem dX7_about_65 : decode cX7_about 65 = .ok (.isub, 1) := by decide +kernel
theorem dX7_about_66 : decode cX7_about 66 = .ok (.invokevirtual 79, 3) := by decide +kernel
theorem dX7_about_69 : decode cX7_about 69 = .ok (.ifCond .eq 15, 3) := by decide +kernel
theorem dX7_about_72 : decode cX7_about 72 = .ok (.aload_n 3, 1) := by decide +kernel
theorem dX7_about_73 : decode cX7_about 73 = .ok (.getfield 83, 3) := by decide +kernel
theorem dX7_about_76 : decode cX7_about 76 = .ok (.iload_n 2, 1) := by decide +kernel
theorem dX7_about_77 : decode cX7_about 77 = .ok (.bipush 10, 2) := by decide +kernel
theorem dX7_about_79 : decode cX7_about 79 = .ok (.isub, 1) := by decide +kernel
theorem dX7_about_80 : decode cX7_about 80 = .ok (.iaload, 1) := by decide +kernel
theorem dX7_about_81 : decode cX7_about 81 = .ok (.goto 5, 3) := by decide +kernel
theorem dX7_about_84 : decode cX7_about 84 = .ok (.bipush (-2), 2) := by decide +kernel
theorem dX7_about_86 : decode cX7_about 86 = .ok (.ireturn, 1) := by decide +kernel
set_option maxRecDepth 20000 in
theorem ggX7_spell_X7_wordAt : GoodIn wsX7_spell wsX7_wordAt := goodIn_r _ [6, 7, 8, 9, 5, 10, 26, 27, 28, 29, 30, 31, 32, 33, 34, 35, 36] (by decide +kernel) (by decide +kernel)
set_option maxRecDepth 20000 in
theorem gX7_spell_X7_wordAt : GoodIn wsX7_spell (wsV RX7 95 RX7 yX7_wordAt wsX7_wordAt) := goodIn_app (goodIn_of _ (by decide +kernel)) ggX7_spell_X7_wordAt
set_option maxRecDepth 20000 in
theorem ggX7_spell_X7_letterAt : GoodIn wsX7_spell wsX7_letterAt := goodIn_r _ [14, 15, 16, 8, 9, 5, 10, 26, 27, 28, 29, 30, 31, 32, 33, 34, 35, 36] (by decide +kernel) (by decide +kernel)
set_option maxRecDepth 20000 in
theorem gX7_spell_X7_letterAt : GoodIn wsX7_spell (wsV RX7 75 RX7 yX7_letterAt wsX7_letterAt) := goodIn_app (goodIn_of _ (by decide +kernel)) ggX7_spell_X7_letterAt
set_option maxRecDepth 20000 in
theorem ggX7_spell_X6_append : GoodIn wsX7_spell wsX6_append := goodIn_r _ [21, 22, 23, 24, 25] (by decide +kernel) (by decide +kernel)
set_option maxRecDepth 20000 in
theorem gX7_spell_X6_append : GoodIn wsX7_spell (wsV RX7 99 RX6 yX6_append wsX6_append) := goodIn_app (goodIn_of _ (by decide +kernel)) ggX7_spell_X6_append
theorem dX7_spell_0 : decode cX7_spell 0 = .ok (.aload_n 0, 1) := by decide +kernel
theorem dX7_spell_1 : decode cX7_spell 1 = .ok (.iload_n 1, 1) := by decide +kernel
theorem dX7_spell_2 : decode cX7_spell 2 = .ok (.invokevirtual 95, 3) := by decide +kernel
theorem dX7_spell_5 : decode cX7_spell 5 = .ok (.astore_n 3, 1) := by decide +kernel
theorem dX7_spell_6 : decode cX7_spell 6 = .ok (.aload_n 0, 1) := by decide +kernel
theorem dX7_spell_7 : decode cX7_spell 7 = .ok (.iload_n 2, 1) := by decide +kernel
theorem dX7_spell_8 : decode cX7_spell 8 = .ok (.invokevirtual 75, 3) := by decide +kernel
theorem dX7_spell_11 : decode cX7_spell 11 = .ok (.astore 4, 2) := by decide +kernel
theorem dX7_spell_13 : decode cX7_spell 13 = .ok (.aload_n 3, 1) := by decide +kernel
theorem dX7_spell_14 : decode cX7_spell 14 = .ok (.ifnull 8, 3) := by decide +kernel
theorem dX7_spell_17 : decode cX7_spell 17 = .ok (.aload 4, 2) := by decide +kernel
theorem dX7_spell_19 : decode cX7_spell 19 = .ok (.ifnonnull 6, 3) := by decide +kernel
theorem dX7_spell_22 : decode cX7_spell 22 = .ok (.bipush (-2), 2) := by decide +kernel
theorem dX7_spell_24 : decode cX7_spell 24 = .ok (.ireturn, 1) := by decide +kernel
theorem dX7_spell_25 : decode cX7_spell 25 = .ok (.aload_n 3, 1) := by decide +kernel
theorem dX7_spell_26 : decode cX7_spell 26 = .ok (.aload 4, 2) := by decide +kernel
theorem dX7_spell_28 : decode cX7_spell 28 = .ok (.invokevirtual 99, 3) := by decide +kernel
theorem dX7_spell_31 : decode cX7_spell 31 = .ok (.ifCond .eq 10, 3) := by decide +kernel
theorem dX7_spell_34 : decode cX7_spell 34 = .ok (.aload_n 3, 1) := by decide +kernel
theorem dX7_spell_35 : decode cX7_spell 35 = .ok (.getfield 103, 3) := by decide +kernel
theorem dX7_spell_38 : decode cX7_spell 38 = .ok (.goto 5, 3) := by decide +kernel
theorem dX7_spell_41 : decode cX7_spell 41 = .ok (.bipush (-4), 2) := by decide +kernel
theorem dX7_spell_43 : decode cX7_spell 43 = .ok (.ireturn, 1) := by decide +kernel
set_option maxRecDepth 20000 in
theorem ggX7_wipe_X7_wordAt : GoodIn wsX7_wipe wsX7_wordAt := goodIn_r _ [6, 7, 8, 9, 5, 10, 13, 14, 15, 16, 17, 18, 19, 20, 21, 22, 23] (by decide +kernel) (by decide +kernel)
set_option maxRecDepth 20000 in
theorem gX7_wipe_X7_wordAt : GoodIn wsX7_wipe (wsV RX7 95 RX7 yX7_wordAt wsX7_wordAt) := goodIn_app (goodIn_of _ (by decide +kernel)) ggX7_wipe_X7_wordAt
theorem dX7_wipe_0 : decode cX7_wipe 0 = .ok (.aload_n 0, 1) := by decide +kernel
theorem dX7_wipe_1 : decode cX7_wipe 1 = .ok (.iload_n 1, 1) := by decide +kernel
theorem dX7_wipe_2 : decode cX7_wipe 2 = .ok (.invokevirtual 95, 3) := by decide +kernel
theorem dX7_wipe_5 : decode cX7_wipe 5 = .ok (.astore_n 2, 1) := by decide +kernel
theorem dX7_wipe_6 : decode cX7_wipe 6 = .ok (.aload_n 2, 1) := by decide +kernel
theorem dX7_wipe_7 : decode cX7_wipe 7 = .ok (.ifnonnull 6, 3) := by decide +kernel
theorem dX7_wipe_10 : decode cX7_wipe 10 = .ok (.bipush (-2), 2) := by decide +kernel
theorem dX7_wipe_12 : decode cX7_wipe 12 = .ok (.ireturn, 1) := by decide +kernel
theorem dX7_wipe_13 : decode cX7_wipe 13 = .ok (.aload_n 2, 1) := by decide +kernel
theorem dX7_wipe_14 : decode cX7_wipe 14 = .ok (.getfield 103, 3) := by decide +kernel
theorem dX7_wipe_17 : decode cX7_wipe 17 = .ok (.istore_n 3, 1) := by decide +kernel
theorem dX7_wipe_18 : decode cX7_wipe 18 = .ok (.aload_n 2, 1) := by decide +kernel
theorem dX7_wipe_19 : decode cX7_wipe 19 = .ok (.iconst 0, 1) := by decide +kernel
theorem dX7_wipe_20 : decode cX7_wipe 20 = .ok (.putfield 103, 3) := by decide +kernel
theorem dX7_wipe_23 : decode cX7_wipe 23 = .ok (.iload_n 3, 1) := by decide +kernel
theorem dX7_wipe_24 : decode cX7_wipe 24 = .ok (.ireturn, 1) := by decide +kernel
set_option maxRecDepth 20000 in
theorem ggX7_slots_X7_within : GoodIn wsX7_slots wsX7_within := goodIn_r _ [6] (by decide +kernel) (by decide +kernel)
set_option maxRecDepth 20000 in
theorem gX7_slots_X7_within : GoodIn wsX7_slots (va_wsS RX7 68 yX7_within wsX7_within) := goodIn_app (goodIn_of _ (by decide +kernel)) ggX7_slots_X7_within
theorem dX7_slots_0 : decode cX7_slots 0 = .ok (.iload_n 1, 1) := by decide +kernel
theorem dX7_slots_1 : decode cX7_slots 1 = .ok (.iconst 5, 1) := by decide +kernel
theorem dX7_slots_2 : decode cX7_slots 2 = .ok (.bipush 60, 2) := by decide +kernel
theorem dX7_slots_4 : decode cX7_slots 4 = .ok (.invokestatic 68, 3) := by decide +kernel
theorem dX7_slots_7 : decode cX7_slots 7 = .ok (.ifCond .ne 6, 3) := by decide +kernel
theorem dX7_slots_10 : decode cX7_slots 10 = .ok (.bipush (-2), 2) := by decide +kernel
theorem dX7_slots_12 : decode cX7_slots 12 = .ok (.ireturn, 1) := by decide +kernel
theorem dX7_slots_13 : decode cX7_slots 13 = .ok (.aload_n 0, 1) := by decide +kernel
theorem dX7_slots_14 : decode cX7_slots 14 = .ok (.getfield 29, 3) := by decide +kernel
theorem dX7_slots_17 : decode cX7_slots 17 = .ok (.getfield 106, 3) := by decide +kernel
theorem dX7_slots_20 : decode cX7_slots 20 = .ok (.istore_n 2, 1) := by decide +kernel
theorem dX7_slots_21 : decode cX7_slots 21 = .ok (.aload_n 0, 1) := by decide +kernel
theorem dX7_slots_22 : decode cX7_slots 22 = .ok (.getfield 29, 3) := by decide +kernel
theorem dX7_slots_25 : decode cX7_slots 25 = .ok (.iload_n 1, 1) := by decide +kernel
theorem dX7_slots_26 : decode cX7_slots 26 = .ok (.putfield 106, 3) := by decide +kernel
theorem dX7_slots_29 : decode cX7_slots 29 = .ok (.iload_n 2, 1) := by decide +kernel
theorem dX7_slots_30 : decode cX7_slots 30 = .ok (.ireturn, 1) := by decide +kernel
set_option maxRecDepth 20000 in
theorem ggX7_gap_X7_within : GoodIn wsX7_gap wsX7_within := goodIn_r _ [6] (by decide +kernel) (by decide +kernel)
set_option maxRecDepth 20000 in
theorem gX7_gap_X7_within : GoodIn wsX7_gap (va_wsS RX7 68 yX7_within wsX7_within) := goodIn_app (goodIn_of _ (by decide +kernel)) ggX7_gap_X7_within
theorem dX7_gap_0 : decode cX7_gap 0 = .ok (.iload_n 1, 1) := by decide +kernel
theorem dX7_gap_1 : decode cX7_gap 1 = .ok (.iconst 0, 1) := by decide +kernel
theorem dX7_gap_2 : decode cX7_gap 2 = .ok (.iconst 3, 1) := by decide +kernel
theorem dX7_gap_3 : decode cX7_gap 3 = .ok (.invokestatic 68, 3) := by decide +kernel
theorem dX7_gap_6 : decode cX7_gap 6 = .ok (.ifCond .ne 6, 3) := by decide +kernel
theorem dX7_gap_9 : decode cX7_gap 9 = .ok (.bipush (-2), 2) := by decide +kernel
theorem dX7_gap_11 : decode cX7_gap 11 = .ok (.ireturn, 1) := by decide +kernel
theorem dX7_gap_12 : decode cX7_gap 12 = .ok (.aload_n 0, 1) := by decide +kernel
theorem dX7_gap_13 : decode cX7_gap 13 = .ok (.getfield 29, 3) := by decide +kernel
theorem dX7_gap_16 : decode cX7_gap 16 = .ok (.getfield 109, 3) := by decide +kernel
theorem dX7_gap_19 : decode cX7_gap 19 = .ok (.istore_n 2, 1) := by decide +kernel
theorem dX7_gap_20 : decode cX7_gap 20 = .ok (.aload_n 0, 1) := by decide +kernel
theorem dX7_gap_21 : decode cX7_gap 21 = .ok (.getfield 29, 3) := by decide +kernel
theorem dX7_gap_24 : decode cX7_gap 24 = .ok (.iload_n 1, 1) := by decide +kernel
theorem dX7_gap_25 : decode cX7_gap 25 = .ok (.putfield 109, 3) := by decide +kernel
theorem dX7_gap_28 : decode cX7_gap 28 = .ok (.iload_n 2, 1) := by decide +kernel
theorem dX7_gap_29 : decode cX7_gap 29 = .ok (.ireturn, 1) := by decide +kernel
set_option maxRecDepth 20000 in
theorem ggX7_wide_X7_wordAt : GoodIn wsX7_wide wsX7_wordAt := goodIn_r _ [6, 7, 8, 9, 5, 10, 20, 21, 22, 23, 24, 25, 26, 27, 28, 29, 30] (by decide +kernel) (by decide +kernel)
set_option maxRecDepth 20000 in
theorem gX7_wide_X7_wordAt : GoodIn wsX7_wide (wsV RX7 95 RX7 yX7_wordAt wsX7_wordAt) := goodIn_app (goodIn_of _ (by decide +kernel)) ggX7_wide_X7_wordAt
set_option maxRecDepth 20000 in
theorem ggX7_wide_X3_widthOf : GoodIn wsX7_wide wsX3_widthOf := goodIn_r _ [15, 16, 17, 18, 19, 31, 32, 33, 34, 35, 36, 37, 38, 39] (by decide +kernel) (by decide +kernel)
set_option maxRecDepth 20000 in
theorem gX7_wide_X3_widthOf : GoodIn wsX7_wide (wsV RX7 112 RX3 yX3_widthOf wsX3_widthOf) := goodIn_app (goodIn_of _ (by decide +kernel)) ggX7_wide_X3_widthOf
theorem dX7_wide_0 : decode cX7_wide 0 = .ok (.aload_n 0, 1) := by decide +kernel
theorem dX7_wide_1 : decode cX7_wide 1 = .ok (.iload_n 1, 1) := by decide +kernel
theorem dX7_wide_2 : decode cX7_wide 2 = .ok (.invokevirtual 95, 3) := by decide +kernel
theorem dX7_wide_5 : decode cX7_wide 5 = .ok (.astore_n 2, 1) := by decide +kernel
theorem dX7_wide_6 : decode cX7_wide 6 = .ok (.aload_n 2, 1) := by decide +kernel
theorem dX7_wide_7 : decode cX7_wide 7 = .ok (.ifnonnull 8, 3) := by decide +kernel
theorem dX7_wide_10 : decode cX7_wide 10 = .ok (.bipush (-2), 2) := by decide +kernel
theorem dX7_wide_12 : decode cX7_wide 12 = .ok (.goto 11, 3) := by decide +kernel
theorem dX7_wide_15 : decode cX7_wide 15 = .ok (.aload_n 0, 1) := by decide +kernel
theorem dX7_wide_16 : decode cX7_wide 16 = .ok (.getfield 29, 3) := by decide +kernel
theorem dX7_wide_19 : decode cX7_wide 19 = .ok (.aload_n 2, 1) := by decide +kernel
theorem dX7_wide_20 : decode cX7_wide 20 = .ok (.invokevirtual 112, 3) := by decide +kernel
theorem dX7_wide_23 : decode cX7_wide 23 = .ok (.ireturn, 1) := by decide +kernel
set_option maxRecDepth 20000 in
theorem ggX7_longest_X3_fits : GoodIn wsX7_longest wsX3_fits := goodIn_r _ [7, 8, 9, 10, 11, 12, 6, 13, 14, 15, 16, 35, 36, 37, 38, 39, 40, 41, 42, 43] (by decide +kernel) (by decide +kernel)
set_option maxRecDepth 20000 in
theorem gX7_longest_X3_fits : GoodIn wsX7_longest (wsV RX7 116 RX3 yX3_fits wsX3_fits) := goodIn_app (goodIn_of _ (by decide +kernel)) ggX7_longest_X3_fits
set_option maxRecDepth 20000 in
theorem ggX7_longest_X7_isLonger : GoodIn wsX7_longest wsX7_isLonger := goodIn_r _ [21, 22, 1, 23, 11, 12, 6, 13, 8, 14, 15, 16, 35, 36, 24, 25, 26, 27, 28, 29, 30, 31, 32, 33, 34, 40, 41, 42, 43, 37, 38, 39] (by decide +kernel) (by decide +kernel)
set_option maxRecDepth 20000 in
theorem gX7_longest_X7_isLonger : GoodIn wsX7_longest (wsV RX7 120 RX7 yX7_isLonger wsX7_isLonger) := goodIn_app (goodIn_of _ (by decide +kernel)) ggX7_longest_X7_isLonger
theorem dX7_longest_0 : decode cX7_longest 0 = .ok (.iconst (-1), 1) := by decide +kernel
theorem dX7_longest_1 : decode cX7_longest 1 = .ok (.istore_n 1, 1) := by decide +kernel
theorem dX7_longest_2 : decode cX7_longest 2 = .ok (.iconst 0, 1) := by decide +kernel
theorem dX7_longest_3 : decode cX7_longest 3 = .ok (.istore_n 2, 1) := by decide +kernel
theorem dX7_longest_4 : decode cX7_longest 4 = .ok (.iload_n 2, 1) := by decide +kernel
theorem dX7_longest_5 : decode cX7_longest 5 = .ok (.bipush 8, 2) := by decide +kernel
theorem dX7_longest_7 : decode cX7_longest 7 = .ok (.if_icmp .ge 51, 3) := by decide +kernel
theorem dX7_longest_10 : decode cX7_longest 10 = .ok (.aload_n 0, 1) := by decide +kernel
theorem dX7_longest_11 : decode cX7_longest 11 = .ok (.getfield 29, 3) := by decide +kernel
theorem dX7_longest_14 : decode cX7_longest 14 = .ok (.aload_n 0, 1) := by decide +kernel
theorem dX7_longest_15 : decode cX7_longest 15 = .ok (.getfield 21, 3) := by decide +kernel
theorem dX7_longest_18 : decode cX7_longest 18 = .ok (.iload_n 2, 1) := by decide +kernel
theorem dX7_longest_19 : decode cX7_longest 19 = .ok (.aaload, 1) := by decide +kernel
theorem dX7_longest_20 : decode cX7_longest 20 = .ok (.invokevirtual 116, 3) := by decide +kernel
theorem dX7_longest_23 : decode cX7_longest 23 = .ok (.ifCond .eq 29, 3) := by decide +kernel
theorem dX7_longest_26 : decode cX7_longest 26 = .ok (.iload_n 1, 1) := by decide +kernel
theorem dX7_longest_27 : decode cX7_longest 27 = .ok (.iconst (-1), 1) := by decide +kernel
theorem dX7_longest_28 : decode cX7_longest 28 = .ok (.if_icmp .eq 22, 3) := by decide +kernel
theorem dX7_longest_31 : decode cX7_longest 31 = .ok (.aload_n 0, 1) := by decide +kernel
theorem dX7_longest_32 : decode cX7_longest 32 = .ok (.aload_n 0, 1) := by decide +kernel
theorem dX7_longest_33 : decode cX7_longest 33 = .ok (.getfield 21, 3) := by decide +kernel
theorem dX7_longest_36 : decode cX7_longest 36 = .ok (.iload_n 2, 1) := by decide +kernel
theorem dX7_longest_37 : decode cX7_longest 37 = .ok (.aaload, 1) := by decide +kernel
theorem dX7_longest_38 : decode cX7_longest 38 = .ok (.aload_n 0, 1) := by decide +kernel
theorem dX7_longest_39 : decode cX7_longest 39 = .ok (.getfield 21, 3) := by decide +kernel
theorem dX7_longest_42 : decode cX7_longest 42 = .ok (.iload_n 1, 1) := by decide +kernel
theorem dX7_longest_43 : decode cX7_longest 43 = .ok (.aaload, 1) := by decide +kernel
theorem dX7_longest_44 : decode cX7_longest 44 = .ok (.invokevirtual 120, 3) := by decide +kernel
theorem dX7_longest_47 : decode cX7_longest 47 = .ok (.ifCond .eq 5, 3) := by decide +kernel
theorem dX7_longest_50 : decode cX7_longest 50 = .ok (.iload_n 2, 1) := by decide +kernel
theorem dX7_longest_51 : decode cX7_longest 51 = .ok (.istore_n 1, 1) := by decide +kernel
theorem dX7_longest_52 : decode cX7_longest 52 = .ok (.iinc 2 1, 3) := by decide +kernel
theorem dX7_longest_55 : decode cX7_longest 55 = .ok (.goto (-51), 3) := by decide +kernel
theorem dX7_longest_58 : decode cX7_longest 58 = .ok (.iload_n 1, 1) := by decide +kernel
theorem dX7_longest_59 : decode cX7_longest 59 = .ok (.ireturn, 1) := by decide +kernel
set_option maxRecDepth 20000 in
theorem ggX7_isLonger_X3_widthOf : GoodIn wsX7_isLonger wsX3_widthOf := goodIn_r _ [7, 8, 9, 10, 11, 12, 13, 25, 26, 27, 28, 29, 30, 31] (by decide +kernel) (by decide +kernel)
set_option maxRecDepth 20000 in
theorem gX7_isLonger_X3_widthOf : GoodIn wsX7_isLonger (wsV RX7 112 RX3 yX3_widthOf wsX3_widthOf) := goodIn_app (goodIn_of _ (by decide +kernel)) ggX7_isLonger_X3_widthOf
theorem dX7_isLonger_0 : decode cX7_isLonger 0 = .ok (.aload_n 1, 1) := by decide +kernel
theorem dX7_isLonger_1 : decode cX7_isLonger 1 = .ok (.getfield 103, 3) := by decide +kernel
theorem dX7_isLonger_4 : decode cX7_isLonger 4 = .ok (.aload_n 2, 1) := by decide +kernel
theorem dX7_isLonger_5 : decode cX7_isLonger 5 = .ok (.getfield 103, 3) := by decide +kernel
theorem dX7_isLonger_8 : decode cX7_isLonger 8 = .ok (.if_icmp .eq 20, 3) := by decide +kernel
theorem dX7_isLonger_11 : decode cX7_isLonger 11 = .ok (.aload_n 1, 1) := by decide +kernel
theorem dX7_isLonger_12 : decode cX7_isLonger 12 = .ok (.getfield 103, 3) := by decide +kernel
theorem dX7_isLonger_15 : decode cX7_isLonger 15 = .ok (.aload_n 2, 1) := by decide +kernel
theorem dX7_isLonger_16 : decode cX7_isLonger 16 = .ok (.getfield 103, 3) := by decide +kernel
theorem dX7_isLonger_19 : decode cX7_isLonger 19 = .ok (.if_icmp .le 7, 3) := by decide +kernel
theorem dX7_isLonger_22 : decode cX7_isLonger 22 = .ok (.iconst 1, 1) := by decide +kernel
theorem dX7_isLonger_23 : decode cX7_isLonger 23 = .ok (.goto 4, 3) := by decide +kernel
theorem dX7_isLonger_26 : decode cX7_isLonger 26 = .ok (.iconst 0, 1) := by decide +kernel
theorem dX7_isLonger_27 : decode cX7_isLonger 27 = .ok (.ireturn, 1) := by decide +kernel
theorem dX7_isLonger_28 : decode cX7_isLonger 28 = .ok (.aload_n 0, 1) := by decide +kernel
theorem dX7_isLonger_29 : decode cX7_isLonger 29 = .ok (.getfield 29, 3) := by decide +kernel
theorem dX7_isLonger_32 : decode cX7_isLonger 32 = .ok (.aload_n 1, 1) := by decide +kernel
theorem dX7_isLonger_33 : decode cX7_isLonger 33 = .ok (.invokevirtual 112, 3) := by decide +kernel
theorem dX7_isLonger_36 : decode cX7_isLonger 36 = .ok (.aload_n 0, 1) := by decide +kernel
theorem dX7_isLonger_37 : decode cX7_isLonger 37 = .ok (.getfield 29, 3) := by decide +kernel
theorem dX7_isLonger_40 : decode cX7_isLonger 40 = .ok (.aload_n 2, 1) := by decide +kernel
theorem dX7_isLonger_41 : decode cX7_isLonger 41 = .ok (.invokevirtual 112, 3) := by decide +kernel
theorem dX7_isLonger_44 : decode cX7_isLonger 44 = .ok (.if_icmp .le 7, 3) := by decide +kernel
theorem dX7_isLonger_47 : decode cX7_isLonger 47 = .ok (.iconst 1, 1) := by decide +kernel
theorem dX7_isLonger_48 : decode cX7_isLonger 48 = .ok (.goto 4, 3) := by decide +kernel
theorem dX7_isLonger_51 : decode cX7_isLonger 51 = .ok (.iconst 0, 1) := by decide +kernel
theorem dX7_isLonger_52 : decode cX7_isLonger 52 = .ok (.ireturn, 1) := by decide +kernel
set_option maxRecDepth 20000 in
theorem ggX7_cut_X7_wordAt : GoodIn wsX7_cut wsX7_wordAt := goodIn_r _ [7, 8, 9, 10, 6, 11, 47, 48, 49, 50, 51, 52, 53, 54, 55, 56, 57] (by decide +kernel) (by decide +kernel)
set_option maxRecDepth 20000 in
theorem gX7_cut_X7_wordAt : GoodIn wsX7_cut (wsV RX7 95 RX7 yX7_wordAt wsX7_wordAt) := goodIn_app (goodIn_of _ (by decide +kernel)) ggX7_cut_X7_wordAt
set_option maxRecDepth 20000 in
theorem ggX7_cut_X7_within : GoodIn wsX7_cut wsX7_within := goodIn_r _ [11] (by decide +kernel) (by decide +kernel)
set_option maxRecDepth 20000 in
theorem gX7_cut_X7_within : GoodIn wsX7_cut (va_wsS RX7 68 yX7_within wsX7_within) := goodIn_app (goodIn_of _ (by decide +kernel)) ggX7_cut_X7_within
set_option maxRecDepth 20000 in
theorem ggX7_cut_X3_fits : GoodIn wsX7_cut wsX3_fits := goodIn_r _ [16, 17, 18, 19, 20, 21, 15, 22, 23, 24, 25, 61, 62, 58, 59, 60, 63, 64, 65, 66] (by decide +kernel) (by decide +kernel)
set_option maxRecDepth 20000 in
theorem gX7_cut_X3_fits : GoodIn wsX7_cut (wsV RX7 116 RX3 yX3_fits wsX3_fits) := goodIn_app (goodIn_of _ (by decide +kernel)) ggX7_cut_X3_fits
set_option maxRecDepth 20000 in
theorem ggX7_cut_X3_lay : GoodIn wsX7_cut wsX3_lay := goodIn_r _ [29, 30, 17, 23, 24, 31, 25, 32, 33, 34, 35, 58, 59, 60, 61, 62, 63, 64, 65, 66] (by decide +kernel) (by decide +kernel)
set_option maxRecDepth 20000 in
theorem gX7_cut_X3_lay : GoodIn wsX7_cut (wsV RX7 124 RX3 yX3_lay wsX3_lay) := goodIn_app (goodIn_of _ (by decide +kernel)) ggX7_cut_X3_lay
set_option maxRecDepth 20000 in
theorem ggX7_cut_X3_seen : GoodIn wsX7_cut wsX3_seen := goodIn_r _ [39, 30, 40, 41, 42, 15, 43, 18, 44, 45, 46, 58, 59, 60] (by decide +kernel) (by decide +kernel)
set_option maxRecDepth 20000 in
theorem gX7_cut_X3_seen : GoodIn wsX7_cut (wsV RX7 128 RX3 yX3_seen wsX3_seen) := goodIn_app (goodIn_of _ (by decide +kernel)) ggX7_cut_X3_seen
theorem dX7_cut_0 : decode cX7_cut 0 = .ok (.aload_n 0, 1) := by decide +kernel
theorem dX7_cut_1 : decode cX7_cut 1 = .ok (.iload_n 1, 1) := by decide +kernel
theorem dX7_cut_2 : decode cX7_cut 2 = .ok (.invokevirtual 95, 3) := by decide +kernel
theorem dX7_cut_5 : decode cX7_cut 5 = .ok (.astore 5, 2) := by decide +kernel
theorem dX7_cut_7 : decode cX7_cut 7 = .ok (.aload_n 0, 1) := by decide +kernel
theorem dX7_cut_8 : decode cX7_cut 8 = .ok (.getfield 29, 3) := by decide +kernel
theorem dX7_cut_11 : decode cX7_cut 11 = .ok (.getfield 106, 3) := by decide +kernel
theorem dX7_cut_14 : decode cX7_cut 14 = .ok (.iconst 1, 1) := by decide +kernel
theorem dX7_cut_15 : decode cX7_cut 15 = .ok (.isub, 1) := by decide +kernel
theorem dX7_cut_16 : decode cX7_cut 16 = .ok (.istore 6, 2) := by decide +kernel
theorem dX7_cut_18 : decode cX7_cut 18 = .ok (.aload 5, 2) := by decide +kernel
theorem dX7_cut_20 : decode cX7_cut 20 = .ok (.ifnull 33, 3) := by decide +kernel
theorem dX7_cut_23 : decode cX7_cut 23 = .ok (.iload_n 2, 1) := by decide +kernel
theorem dX7_cut_24 : decode cX7_cut 24 = .ok (.iconst 0, 1) := by decide +kernel
theorem dX7_cut_25 : decode cX7_cut 25 = .ok (.iload 6, 2) := by decide +kernel
theorem dX7_cut_27 : decode cX7_cut 27 = .ok (.invokestatic 68, 3) := by decide +kernel
theorem dX7_cut_30 : decode cX7_cut 30 = .ok (.ifCond .eq 23, 3) := by decide +kernel
theorem dX7_cut_33 : decode cX7_cut 33 = .ok (.iload_n 3, 1) := by decide +kernel
theorem dX7_cut_34 : decode cX7_cut 34 = .ok (.iconst 0, 1) := by decide +kernel
theorem dX7_cut_35 : decode cX7_cut 35 = .ok (.iconst 3, 1) := by decide +kernel
theorem dX7_cut_36 : decode cX7_cut 36 = .ok (.invokestatic 68, 3) := by decide +kernel
theorem dX7_cut_39 : decode cX7_cut 39 = .ok (.ifCond .eq 14, 3) := by decide +kernel
theorem dX7_cut_42 : decode cX7_cut 42 = .ok (.iload 4, 2) := by decide +kernel
theorem dX7_cut_44 : decode cX7_cut 44 = .ok (.iconst 0, 1) := by decide +kernel
theorem dX7_cut_45 : decode cX7_cut 45 = .ok (.iload 6, 2) := by decide +kernel
theorem dX7_cut_47 : decode cX7_cut 47 = .ok (.invokestatic 68, 3) := by decide +kernel
theorem dX7_cut_50 : decode cX7_cut 50 = .ok (.ifCond .ne 6, 3) := by decide +kernel
theorem dX7_cut_53 : decode cX7_cut 53 = .ok (.bipush (-2), 2) := by decide +kernel
theorem dX7_cut_55 : decode cX7_cut 55 = .ok (.ireturn, 1) := by decide +kernel
theorem dX7_cut_56 : decode cX7_cut 56 = .ok (.aload_n 0, 1) := by decide +kernel
theorem dX7_cut_57 : decode cX7_cut 57 = .ok (.getfield 29, 3) := by decide +kernel
theorem dX7_cut_60 : decode cX7_cut 60 = .ok (.aload 5, 2) := by decide +kernel
theorem dX7_cut_62 : decode cX7_cut 62 = .ok (.invokevirtual 116, 3) := by decide +kernel
theorem dX7_cut_65 : decode cX7_cut 65 = .ok (.ifCond .ne 6, 3) := by decide +kernel
theorem dX7_cut_68 : decode cX7_cut 68 = .ok (.bipush (-3), 2) := by decide +kernel
theorem dX7_cut_70 : decode cX7_cut 70 = .ok (.ireturn, 1) := by decide +kernel
theorem dX7_cut_71 : decode cX7_cut 71 = .ok (.aload_n 0, 1) := by decide +kernel
theorem dX7_cut_72 : decode cX7_cut 72 = .ok (.getfield 29, 3) := by decide +kernel
theorem dX7_cut_75 : decode cX7_cut 75 = .ok (.aload 5, 2) := by decide +kernel
theorem dX7_cut_77 : decode cX7_cut 77 = .ok (.invokevirtual 124, 3) := by decide +kernel
theorem dX7_cut_80 : decode cX7_cut 80 = .ok (.aload_n 0, 1) := by decide +kernel
theorem dX7_cut_81 : decode cX7_cut 81 = .ok (.getfield 29, 3) := by decide +kernel
theorem dX7_cut_84 : decode cX7_cut 84 = .ok (.iload_n 2, 1) := by decide +kernel
theorem dX7_cut_85 : decode cX7_cut 85 = .ok (.iload_n 3, 1) := by decide +kernel
theorem dX7_cut_86 : decode cX7_cut 86 = .ok (.iload 4, 2) := by decide +kernel
theorem dX7_cut_88 : decode cX7_cut 88 = .ok (.invokevirtual 128, 3) := by decide +kernel
theorem dX7_cut_91 : decode cX7_cut 91 = .ok (.ireturn, 1) := by decide +kernel
set_option maxRecDepth 20000 in
theorem ggX7_readings_X7_troubleOfSheet : GoodIn wsX7_readings wsX7_troubleOfSheet := goodIn_r _ [6, 1, 7, 8, 9, 5, 10, 11, 12, 13, 14, 15, 16, 17, 18, 74, 75, 76, 77, 78, 79, 80, 81, 82, 83, 84, 85, 86, 87, 88] (by decide +kernel) (by decide +kernel)
set_option maxRecDepth 20000 in
theorem gX7_readings_X7_troubleOfSheet : GoodIn wsX7_readings (wsV RX7 132 RX7 yX7_troubleOfSheet wsX7_troubleOfSheet) := goodIn_app (goodIn_of _ (by decide +kernel)) ggX7_readings_X7_troubleOfSheet
set_option maxRecDepth 20000 in
theorem ggX7_readings_X7_readingsOfWord : GoodIn wsX7_readings wsX7_readingsOfWord := goodIn_r _ [22, 23, 24, 25, 26, 27, 28, 29, 30, 31, 32, 33, 34, 35, 36, 37, 38, 39, 40, 41, 42, 43, 44, 45, 46, 47, 48, 49, 50, 51, 52, 53, 54, 55, 56, 57, 58, 59, 60, 61, 62, 12, 5, 13, 63, 64, 65, 66, 67, 68, 69, 70, 71, 72, 73, 74, 75, 76, 77, 78, 79, 80, 81, 82, 83, 84, 89, 90, 91, 92, 93, 94, 95, 96, 97, 85, 86, 87, 88] (by decide +kernel) (by decide +kernel)
set_option maxRecDepth 20000 in
theorem gX7_readings_X7_readingsOfWord : GoodIn wsX7_readings (wsV RX7 136 RX7 yX7_readingsOfWord wsX7_readingsOfWord) := goodIn_app (goodIn_of _ (by decide +kernel)) ggX7_readings_X7_readingsOfWord
theorem dX7_readings_0 : decode cX7_readings 0 = .ok (.aload_n 0, 1) := by decide +kernel
theorem dX7_readings_1 : decode cX7_readings 1 = .ok (.iload_n 1, 1) := by decide +kernel
theorem dX7_readings_2 : decode cX7_readings 2 = .ok (.invokevirtual 132, 3) := by decide +kernel
theorem dX7_readings_5 : decode cX7_readings 5 = .ok (.istore_n 2, 1) := by decide +kernel
theorem dX7_readings_6 : decode cX7_readings 6 = .ok (.iload_n 2, 1) := by decide +kernel
theorem dX7_readings_7 : decode cX7_readings 7 = .ok (.ifCond .eq 5, 3) := by decide +kernel
theorem dX7_readings_10 : decode cX7_readings 10 = .ok (.iload_n 2, 1) := by decide +kernel
theorem dX7_readings_11 : decode cX7_readings 11 = .ok (.ireturn, 1) := by decide +kernel
theorem dX7_readings_12 : decode cX7_readings 12 = .ok (.iconst 0, 1) := by decide +kernel
theorem dX7_readings_13 : decode cX7_readings 13 = .ok (.istore_n 3, 1) := by decide +kernel
theorem dX7_readings_14 : decode cX7_readings 14 = .ok (.iconst 0, 1) := by decide +kernel
theorem dX7_readings_15 : decode cX7_readings 15 = .ok (.istore 4, 2) := by decide +kernel
theorem dX7_readings_17 : decode cX7_readings 17 = .ok (.iload 4, 2) := by decide +kernel
theorem dX7_readings_19 : decode cX7_readings 19 = .ok (.bipush 8, 2) := by decide +kernel
theorem dX7_readings_21 : decode cX7_readings 21 = .ok (.if_icmp .ge 24, 3) := by decide +kernel
theorem dX7_readings_24 : decode cX7_readings 24 = .ok (.iload_n 3, 1) := by decide +kernel
theorem dX7_readings_25 : decode cX7_readings 25 = .ok (.aload_n 0, 1) := by decide +kernel
theorem dX7_readings_26 : decode cX7_readings 26 = .ok (.iload 4, 2) := by decide +kernel
theorem dX7_readings_28 : decode cX7_readings 28 = .ok (.aload_n 0, 1) := by decide +kernel
theorem dX7_readings_29 : decode cX7_readings 29 = .ok (.getfield 60, 3) := by decide +kernel
theorem dX7_readings_32 : decode cX7_readings 32 = .ok (.iload_n 1, 1) := by decide +kernel
theorem dX7_readings_33 : decode cX7_readings 33 = .ok (.aaload, 1) := by decide +kernel
theorem dX7_readings_34 : decode cX7_readings 34 = .ok (.invokevirtual 136, 3) := by decide +kernel
theorem dX7_readings_37 : decode cX7_readings 37 = .ok (.iadd, 1) := by decide +kernel
theorem dX7_readings_38 : decode cX7_readings 38 = .ok (.istore_n 3, 1) := by decide +kernel
theorem dX7_readings_39 : decode cX7_readings 39 = .ok (.iinc 4 1, 3) := by decide +kernel
theorem dX7_readings_42 : decode cX7_readings 42 = .ok (.goto (-25), 3) := by decide +kernel
theorem dX7_readings_45 : decode cX7_readings 45 = .ok (.iload_n 3, 1) := by decide +kernel
theorem dX7_readings_46 : decode cX7_readings 46 = .ok (.ireturn, 1) := by decide +kernel
set_option maxRecDepth 20000 in
theorem ggX7_reading_X7_troubleOfSheet : GoodIn wsX7_reading wsX7_troubleOfSheet := goodIn_r _ [7, 1, 8, 9, 10, 6, 11, 12, 13, 14, 15, 16, 17, 18, 19, 78, 79, 80, 81, 82, 83, 84, 85, 86, 87, 88, 89, 90, 91, 92] (by decide +kernel) (by decide +kernel)
set_option maxRecDepth 20000 in
theorem gX7_reading_X7_troubleOfSheet : GoodIn wsX7_reading (wsV RX7 132 RX7 yX7_troubleOfSheet wsX7_troubleOfSheet) := goodIn_app (goodIn_of _ (by decide +kernel)) ggX7_reading_X7_troubleOfSheet
set_option maxRecDepth 20000 in
theorem ggX7_reading_X7_readingsOfWord : GoodIn wsX7_reading wsX7_readingsOfWord := goodIn_r _ [23, 2, 24, 25, 26, 27, 28, 29, 30, 31, 32, 33, 34, 35, 36, 37, 38, 39, 40, 41, 42, 43, 44, 45, 46, 47, 48, 49, 50, 51, 52, 53, 54, 55, 56, 57, 58, 59, 60, 61, 62, 13, 6, 14, 63, 64, 65, 66, 67, 68, 69, 70, 71, 72, 73, 78, 79, 80, 81, 82, 83, 84, 85, 86, 87, 88, 93, 94, 95, 96, 97, 98, 99, 100, 101, 89, 90, 91, 92] (by decide +kernel) (by decide +kernel)
set_option maxRecDepth 20000 in
theorem gX7_reading_X7_readingsOfWord : GoodIn wsX7_reading (wsV RX7 136 RX7 yX7_readingsOfWord wsX7_readingsOfWord) := goodIn_app (goodIn_of _ (by decide +kernel)) ggX7_reading_X7_readingsOfWord
set_option maxRecDepth 20000 in
theorem ggX7_reading_X3_readingOf : GoodIn wsX7_reading wsX3_readingOf := goodIn_r _ [77, 31, 53, 54, 55, 28, 56, 57, 58, 59, 60, 61, 62, 13, 6, 14, 63, 64, 65, 66, 43, 67, 68, 69, 70, 71, 72, 73, 95, 96, 97, 89, 90, 91, 92] (by decide +kernel) (by decide +kernel)
set_option maxRecDepth 20000 in
theorem gX7_reading_X3_readingOf : GoodIn wsX7_reading (wsV RX7 140 RX3 yX3_readingOf wsX3_readingOf) := goodIn_app (goodIn_of _ (by decide +kernel)) ggX7_reading_X3_readingOf
theorem dX7_reading_0 : decode cX7_reading 0 = .ok (.iload_n 2, 1) := by decide +kernel
theorem dX7_reading_1 : decode cX7_reading 1 = .ok (.ifCond .ge 6, 3) := by decide +kernel
theorem dX7_reading_4 : decode cX7_reading 4 = .ok (.bipush (-2), 2) := by decide +kernel
theorem dX7_reading_6 : decode cX7_reading 6 = .ok (.ireturn, 1) := by decide +kernel
theorem dX7_reading_7 : decode cX7_reading 7 = .ok (.aload_n 0, 1) := by decide +kernel
theorem dX7_reading_8 : decode cX7_reading 8 = .ok (.iload_n 1, 1) := by decide +kernel
theorem dX7_reading_9 : decode cX7_reading 9 = .ok (.invokevirtual 132, 3) := by decide +kernel
theorem dX7_reading_12 : decode cX7_reading 12 = .ok (.istore_n 3, 1) := by decide +kernel
theorem dX7_reading_13 : decode cX7_reading 13 = .ok (.iload_n 3, 1) := by decide +kernel
theorem dX7_reading_14 : decode cX7_reading 14 = .ok (.ifCond .eq 5, 3) := by decide +kernel
theorem dX7_reading_17 : decode cX7_reading 17 = .ok (.iload_n 3, 1) := by decide +kernel
theorem dX7_reading_18 : decode cX7_reading 18 = .ok (.ireturn, 1) := by decide +kernel
theorem dX7_reading_19 : decode cX7_reading 19 = .ok (.iload_n 2, 1) := by decide +kernel
theorem dX7_reading_20 : decode cX7_reading 20 = .ok (.istore 4, 2) := by decide +kernel
theorem dX7_reading_22 : decode cX7_reading 22 = .ok (.iconst 0, 1) := by decide +kernel
theorem dX7_reading_23 : decode cX7_reading 23 = .ok (.istore 5, 2) := by decide +kernel
theorem dX7_reading_25 : decode cX7_reading 25 = .ok (.iload 5, 2) := by decide +kernel
theorem dX7_reading_27 : decode cX7_reading 27 = .ok (.bipush 8, 2) := by decide +kernel
theorem dX7_reading_29 : decode cX7_reading 29 = .ok (.if_icmp .ge 60, 3) := by decide +kernel
theorem dX7_reading_32 : decode cX7_reading 32 = .ok (.aload_n 0, 1) := by decide +kernel
theorem dX7_reading_33 : decode cX7_reading 33 = .ok (.iload 5, 2) := by decide +kernel
theorem dX7_reading_35 : decode cX7_reading 35 = .ok (.aload_n 0, 1) := by decide +kernel
theorem dX7_reading_36 : decode cX7_reading 36 = .ok (.getfield 60, 3) := by decide +kernel
theorem dX7_reading_39 : decode cX7_reading 39 = .ok (.iload_n 1, 1) := by decide +kernel
theorem dX7_reading_40 : decode cX7_reading 40 = .ok (.aaload, 1) := by decide +kernel
theorem dX7_reading_41 : decode cX7_reading 41 = .ok (.invokevirtual 136, 3) := by decide +kernel
theorem dX7_reading_44 : decode cX7_reading 44 = .ok (.istore 6, 2) := by decide +kernel
theorem dX7_reading_46 : decode cX7_reading 46 = .ok (.iload 4, 2) := by decide +kernel
theorem dX7_reading_48 : decode cX7_reading 48 = .ok (.iload 6, 2) := by decide +kernel
theorem dX7_reading_50 : decode cX7_reading 50 = .ok (.if_icmp .ge 26, 3) := by decide +kernel
theorem dX7_reading_53 : decode cX7_reading 53 = .ok (.sipush 1000, 3) := by decide +kernel
theorem dX7_reading_56 : decode cX7_reading 56 = .ok (.iload 5, 2) := by decide +kernel
theorem dX7_reading_58 : decode cX7_reading 58 = .ok (.imul, 1) := by decide +kernel
theorem dX7_reading_59 : decode cX7_reading 59 = .ok (.aload_n 0, 1) := by decide +kernel
theorem dX7_reading_60 : decode cX7_reading 60 = .ok (.getfield 29, 3) := by decide +kernel
theorem dX7_reading_63 : decode cX7_reading 63 = .ok (.aload_n 0, 1) := by decide +kernel
theorem dX7_reading_64 : decode cX7_reading 64 = .ok (.getfield 60, 3) := by decide +kernel
theorem dX7_reading_67 : decode cX7_reading 67 = .ok (.iload_n 1, 1) := by decide +kernel
theorem dX7_reading_68 : decode cX7_reading 68 = .ok (.aaload, 1) := by decide +kernel
theorem dX7_reading_69 : decode cX7_reading 69 = .ok (.iload 4, 2) := by decide +kernel
theorem dX7_reading_71 : decode cX7_reading 71 = .ok (.invokevirtual 140, 3) := by decide +kernel
theorem dX7_reading_74 : decode cX7_reading 74 = .ok (.iadd, 1) := by decide +kernel
theorem dX7_reading_75 : decode cX7_reading 75 = .ok (.ireturn, 1) := by decide +kernel
theorem dX7_reading_76 : decode cX7_reading 76 = .ok (.iload 4, 2) := by decide +kernel
theorem dX7_reading_78 : decode cX7_reading 78 = .ok (.iload 6, 2) := by decide +kernel
theorem dX7_reading_80 : decode cX7_reading 80 = .ok (.isub, 1) := by decide +kernel
theorem dX7_reading_81 : decode cX7_reading 81 = .ok (.istore 4, 2) := by decide +kernel
theorem dX7_reading_83 : decode cX7_reading 83 = .ok (.iinc 5 1, 3) := by decide +kernel
theorem dX7_reading_86 : decode cX7_reading 86 = .ok (.goto (-61), 3) := by decide +kernel
theorem dX7_reading_89 : decode cX7_reading 89 = .ok (.iconst (-1), 1) := by decide +kernel
theorem dX7_reading_90 : decode cX7_reading 90 = .ok (.ireturn, 1) := by decide +kernel
set_option maxRecDepth 20000 in
theorem ggX7_words_X7_troubleOfSheet : GoodIn wsX7_words wsX7_troubleOfSheet := goodIn_r _ [6, 1, 7, 8, 9, 5, 10, 11, 12, 13, 14, 15, 16, 17, 18, 74, 75, 76, 77, 78, 79, 80, 81, 82, 83, 84, 85, 86, 87, 88] (by decide +kernel) (by decide +kernel)
set_option maxRecDepth 20000 in
theorem gX7_words_X7_troubleOfSheet : GoodIn wsX7_words (wsV RX7 132 RX7 yX7_troubleOfSheet wsX7_troubleOfSheet) := goodIn_app (goodIn_of _ (by decide +kernel)) ggX7_words_X7_troubleOfSheet
set_option maxRecDepth 20000 in
theorem ggX7_words_X7_readingsOfWord : GoodIn wsX7_words wsX7_readingsOfWord := goodIn_r _ [22, 23, 24, 25, 26, 27, 28, 29, 30, 31, 32, 33, 34, 35, 36, 37, 38, 39, 40, 41, 42, 43, 44, 45, 46, 47, 48, 49, 50, 51, 52, 53, 54, 55, 56, 57, 58, 59, 60, 61, 62, 12, 5, 13, 63, 64, 65, 66, 67, 68, 69, 70, 71, 72, 73, 74, 75, 76, 77, 78, 79, 80, 81, 82, 83, 84, 89, 90, 91, 92, 93, 94, 95, 96, 97, 85, 86, 87, 88] (by decide +kernel) (by decide +kernel)
set_option maxRecDepth 20000 in
theorem gX7_words_X7_readingsOfWord : GoodIn wsX7_words (wsV RX7 136 RX7 yX7_readingsOfWord wsX7_readingsOfWord) := goodIn_app (goodIn_of _ (by decide +kernel)) ggX7_words_X7_readingsOfWord
theorem dX7_words_0 : decode cX7_words 0 = .ok (.aload_n 0, 1) := by decide +kernel
theorem dX7_words_1 : decode cX7_words 1 = .ok (.iload_n 1, 1) := by decide +kernel
theorem dX7_words_2 : decode cX7_words 2 = .ok (.invokevirtual 132, 3) := by decide +kernel
theorem dX7_words_5 : decode cX7_words 5 = .ok (.istore_n 2, 1) := by decide +kernel
theorem dX7_words_6 : decode cX7_words 6 = .ok (.iload_n 2, 1) := by decide +kernel
theorem dX7_words_7 : decode cX7_words 7 = .ok (.ifCond .eq 5, 3) := by decide +kernel
theorem dX7_words_10 : decode cX7_words 10 = .ok (.iload_n 2, 1) := by decide +kernel
theorem dX7_words_11 : decode cX7_words 11 = .ok (.ireturn, 1) := by decide +kernel
theorem dX7_words_12 : decode cX7_words 12 = .ok (.iconst 0, 1) := by decide +kernel
theorem dX7_words_13 : decode cX7_words 13 = .ok (.istore_n 3, 1) := by decide +kernel
theorem dX7_words_14 : decode cX7_words 14 = .ok (.iconst 0, 1) := by decide +kernel
theorem dX7_words_15 : decode cX7_words 15 = .ok (.istore 4, 2) := by decide +kernel
theorem dX7_words_17 : decode cX7_words 17 = .ok (.iload 4, 2) := by decide +kernel
theorem dX7_words_19 : decode cX7_words 19 = .ok (.bipush 8, 2) := by decide +kernel
theorem dX7_words_21 : decode cX7_words 21 = .ok (.if_icmp .ge 31, 3) := by decide +kernel
theorem dX7_words_24 : decode cX7_words 24 = .ok (.aload_n 0, 1) := by decide +kernel
theorem dX7_words_25 : decode cX7_words 25 = .ok (.iload 4, 2) := by decide +kernel
theorem dX7_words_27 : decode cX7_words 27 = .ok (.aload_n 0, 1) := by decide +kernel
theorem dX7_words_28 : decode cX7_words 28 = .ok (.getfield 60, 3) := by decide +kernel
theorem dX7_words_31 : decode cX7_words 31 = .ok (.iload_n 1, 1) := by decide +kernel
theorem dX7_words_32 : decode cX7_words 32 = .ok (.aaload, 1) := by decide +kernel
theorem dX7_words_33 : decode cX7_words 33 = .ok (.invokevirtual 136, 3) := by decide +kernel
theorem dX7_words_36 : decode cX7_words 36 = .ok (.ifCond .le 10, 3) := by decide +kernel
theorem dX7_words_39 : decode cX7_words 39 = .ok (.iload_n 3, 1) := by decide +kernel
theorem dX7_words_40 : decode cX7_words 40 = .ok (.iconst 1, 1) := by decide +kernel
theorem dX7_words_41 : decode cX7_words 41 = .ok (.iload 4, 2) := by decide +kernel
theorem dX7_words_43 : decode cX7_words 43 = .ok (.ishl, 1) := by decide +kernel
theorem dX7_words_44 : decode cX7_words 44 = .ok (.ior, 1) := by decide +kernel
theorem dX7_words_45 : decode cX7_words 45 = .ok (.istore_n 3, 1) := by decide +kernel
theorem dX7_words_46 : decode cX7_words 46 = .ok (.iinc 4 1, 3) := by decide +kernel
theorem dX7_words_49 : decode cX7_words 49 = .ok (.goto (-32), 3) := by decide +kernel
theorem dX7_words_52 : decode cX7_words 52 = .ok (.iload_n 3, 1) := by decide +kernel
theorem dX7_words_53 : decode cX7_words 53 = .ok (.ireturn, 1) := by decide +kernel
set_option maxRecDepth 20000 in
theorem ggX7_readingsOfWord_X3_fits : GoodIn wsX7_readingsOfWord wsX3_fits := goodIn_r _ [7, 8, 9, 10, 11, 12, 6, 13, 14, 15, 16, 66, 67, 68, 69, 70, 71, 72, 73, 74] (by decide +kernel) (by decide +kernel)
set_option maxRecDepth 20000 in
theorem gX7_readingsOfWord_X3_fits : GoodIn wsX7_readingsOfWord (wsV RX7 116 RX3 yX3_fits wsX3_fits) := goodIn_app (goodIn_of _ (by decide +kernel)) ggX7_readingsOfWord_X3_fits
set_option maxRecDepth 20000 in
theorem ggX7_readingsOfWord_X3_lay : GoodIn wsX7_readingsOfWord wsX3_lay := goodIn_r _ [20, 21, 8, 14, 15, 22, 16, 23, 24, 25, 26, 68, 69, 70, 66, 67, 71, 72, 73, 74] (by decide +kernel) (by decide +kernel)
set_option maxRecDepth 20000 in
theorem gX7_readingsOfWord_X3_lay : GoodIn wsX7_readingsOfWord (wsV RX7 124 RX3 yX3_lay wsX3_lay) := goodIn_app (goodIn_of _ (by decide +kernel)) ggX7_readingsOfWord_X3_lay
set_option maxRecDepth 20000 in
theorem ggX7_readingsOfWord_X3_countReadings : GoodIn wsX7_readingsOfWord wsX3_countReadings := goodIn_r _ [30, 9, 31, 32, 33, 6, 34, 35, 36, 37, 38, 39, 40, 41, 42, 43, 44, 45, 46, 47, 21, 48, 49, 50, 51, 52, 53, 54, 68, 69, 70, 75, 76, 77, 78] (by decide +kernel) (by decide +kernel)
set_option maxRecDepth 20000 in
theorem gX7_readingsOfWord_X3_countReadings : GoodIn wsX7_readingsOfWord (wsV RX7 144 RX3 yX3_countReadings wsX3_countReadings) := goodIn_app (goodIn_of _ (by decide +kernel)) ggX7_readingsOfWord_X3_countReadings
theorem dX7_readingsOfWord_0 : decode cX7_readingsOfWord 0 = .ok (.aload_n 0, 1) := by decide +kernel
theorem dX7_readingsOfWord_1 : decode cX7_readingsOfWord 1 = .ok (.getfield 29, 3) := by decide +kernel
theorem dX7_readingsOfWord_4 : decode cX7_readingsOfWord 4 = .ok (.aload_n 0, 1) := by decide +kernel
theorem dX7_readingsOfWord_5 : decode cX7_readingsOfWord 5 = .ok (.getfield 21, 3) := by decide +kernel
theorem dX7_readingsOfWord_8 : decode cX7_readingsOfWord 8 = .ok (.iload_n 1, 1) := by decide +kernel
theorem dX7_readingsOfWord_9 : decode cX7_readingsOfWord 9 = .ok (.aaload, 1) := by decide +kernel
theorem dX7_readingsOfWord_10 : decode cX7_readingsOfWord 10 = .ok (.invokevirtual 116, 3) := by decide +kernel
theorem dX7_readingsOfWord_13 : decode cX7_readingsOfWord 13 = .ok (.ifCond .ne 5, 3) := by decide +kernel
theorem dX7_readingsOfWord_16 : decode cX7_readingsOfWord 16 = .ok (.iconst 0, 1) := by decide +kernel
theorem dX7_readingsOfWord_17 : decode cX7_readingsOfWord 17 = .ok (.ireturn, 1) := by decide +kernel
theorem dX7_readingsOfWord_18 : decode cX7_readingsOfWord 18 = .ok (.aload_n 0, 1) := by decide +kernel
theorem dX7_readingsOfWord_19 : decode cX7_readingsOfWord 19 = .ok (.getfield 29, 3) := by decide +kernel
theorem dX7_readingsOfWord_22 : decode cX7_readingsOfWord 22 = .ok (.aload_n 0, 1) := by decide +kernel
theorem dX7_readingsOfWord_23 : decode cX7_readingsOfWord 23 = .ok (.getfield 21, 3) := by decide +kernel
theorem dX7_readingsOfWord_26 : decode cX7_readingsOfWord 26 = .ok (.iload_n 1, 1) := by decide +kernel
theorem dX7_readingsOfWord_27 : decode cX7_readingsOfWord 27 = .ok (.aaload, 1) := by decide +kernel
theorem dX7_readingsOfWord_28 : decode cX7_readingsOfWord 28 = .ok (.invokevirtual 124, 3) := by decide +kernel
theorem dX7_readingsOfWord_31 : decode cX7_readingsOfWord 31 = .ok (.aload_n 0, 1) := by decide +kernel
theorem dX7_readingsOfWord_32 : decode cX7_readingsOfWord 32 = .ok (.getfield 29, 3) := by decide +kernel
theorem dX7_readingsOfWord_35 : decode cX7_readingsOfWord 35 = .ok (.aload_n 2, 1) := by decide +kernel
theorem dX7_readingsOfWord_36 : decode cX7_readingsOfWord 36 = .ok (.invokevirtual 144, 3) := by decide +kernel
theorem dX7_readingsOfWord_39 : decode cX7_readingsOfWord 39 = .ok (.ireturn, 1) := by decide +kernel
set_option maxRecDepth 20000 in
theorem ggX7_order_X7_wordAt : GoodIn wsX7_order wsX7_wordAt := goodIn_r _ [6, 7, 8, 9, 5, 10, 29, 30, 31, 32, 33, 34, 35, 36, 37, 38, 39] (by decide +kernel) (by decide +kernel)
set_option maxRecDepth 20000 in
theorem gX7_order_X7_wordAt : GoodIn wsX7_order (wsV RX7 95 RX7 yX7_wordAt wsX7_wordAt) := goodIn_app (goodIn_of _ (by decide +kernel)) ggX7_order_X7_wordAt
set_option maxRecDepth 20000 in
theorem ggX7_order_X7_within : GoodIn wsX7_order wsX7_within := goodIn_r _ [10] (by decide +kernel) (by decide +kernel)
set_option maxRecDepth 20000 in
theorem gX7_order_X7_within : GoodIn wsX7_order (va_wsS RX7 68 yX7_within wsX7_within) := goodIn_app (goodIn_of _ (by decide +kernel)) ggX7_order_X7_within
set_option maxRecDepth 20000 in
theorem ggX7_order_X6_placeInOrder : GoodIn wsX7_order wsX6_placeInOrder := goodIn_r _ [15, 16, 17, 18, 19, 14, 20, 21, 22, 23, 24, 25, 26, 27, 28, 40, 41, 42, 43] (by decide +kernel) (by decide +kernel)
set_option maxRecDepth 20000 in
theorem gX7_order_X6_placeInOrder : GoodIn wsX7_order (wsV RX7 148 RX6 yX6_placeInOrder wsX6_placeInOrder) := goodIn_app (goodIn_of _ (by decide +kernel)) ggX7_order_X6_placeInOrder
theorem dX7_order_0 : decode cX7_order 0 = .ok (.aload_n 0, 1) := by decide +kernel
theorem dX7_order_1 : decode cX7_order 1 = .ok (.iload_n 1, 1) := by decide +kernel
theorem dX7_order_2 : decode cX7_order 2 = .ok (.invokevirtual 95, 3) := by decide +kernel
theorem dX7_order_5 : decode cX7_order 5 = .ok (.astore_n 3, 1) := by decide +kernel
theorem dX7_order_6 : decode cX7_order 6 = .ok (.aload_n 3, 1) := by decide +kernel
theorem dX7_order_7 : decode cX7_order 7 = .ok (.ifnull 17, 3) := by decide +kernel
theorem dX7_order_10 : decode cX7_order 10 = .ok (.iload_n 2, 1) := by decide +kernel
theorem dX7_order_11 : decode cX7_order 11 = .ok (.iconst 0, 1) := by decide +kernel
theorem dX7_order_12 : decode cX7_order 12 = .ok (.aload_n 3, 1) := by decide +kernel
theorem dX7_order_13 : decode cX7_order 13 = .ok (.getfield 103, 3) := by decide +kernel
theorem dX7_order_16 : decode cX7_order 16 = .ok (.iconst 1, 1) := by decide +kernel
theorem dX7_order_17 : decode cX7_order 17 = .ok (.isub, 1) := by decide +kernel
theorem dX7_order_18 : decode cX7_order 18 = .ok (.invokestatic 68, 3) := by decide +kernel
theorem dX7_order_21 : decode cX7_order 21 = .ok (.ifCond .ne 6, 3) := by decide +kernel
theorem dX7_order_24 : decode cX7_order 24 = .ok (.bipush (-2), 2) := by decide +kernel
theorem dX7_order_26 : decode cX7_order 26 = .ok (.ireturn, 1) := by decide +kernel
theorem dX7_order_27 : decode cX7_order 27 = .ok (.aload_n 3, 1) := by decide +kernel
theorem dX7_order_28 : decode cX7_order 28 = .ok (.iload_n 2, 1) := by decide +kernel
theorem dX7_order_29 : decode cX7_order 29 = .ok (.invokevirtual 148, 3) := by decide +kernel
theorem dX7_order_32 : decode cX7_order 32 = .ok (.ireturn, 1) := by decide +kernel
set_option maxRecDepth 20000 in
theorem ggX7_late_X7_wordAt : GoodIn wsX7_late wsX7_wordAt := goodIn_r _ [5, 6, 7, 8, 4, 9, 31, 32, 33, 34, 35, 36, 37, 38, 39, 40, 41] (by decide +kernel) (by decide +kernel)
set_option maxRecDepth 20000 in
theorem gX7_late_X7_wordAt : GoodIn wsX7_late (wsV RX7 95 RX7 yX7_wordAt wsX7_wordAt) := goodIn_app (goodIn_of _ (by decide +kernel)) ggX7_late_X7_wordAt
set_option maxRecDepth 20000 in
theorem ggX7_late_X6_greatestLate : GoodIn wsX7_late wsX6_greatestLate := goodIn_r _ [14, 15, 16, 17, 18, 19, 20, 21, 22, 13, 23, 24, 25, 26, 27, 28, 29, 30, 42, 43, 44, 45, 46, 47] (by decide +kernel) (by decide +kernel)
set_option maxRecDepth 20000 in
theorem gX7_late_X6_greatestLate : GoodIn wsX7_late (wsV RX7 151 RX6 yX6_greatestLate wsX6_greatestLate) := goodIn_app (goodIn_of _ (by decide +kernel)) ggX7_late_X6_greatestLate
theorem dX7_late_0 : decode cX7_late 0 = .ok (.aload_n 0, 1) := by decide +kernel
theorem dX7_late_1 : decode cX7_late 1 = .ok (.iload_n 1, 1) := by decide +kernel
theorem dX7_late_2 : decode cX7_late 2 = .ok (.invokevirtual 95, 3) := by decide +kernel
theorem dX7_late_5 : decode cX7_late 5 = .ok (.astore_n 2, 1) := by decide +kernel
theorem dX7_late_6 : decode cX7_late 6 = .ok (.aload_n 2, 1) := by decide +kernel
theorem dX7_late_7 : decode cX7_late 7 = .ok (.ifnonnull 8, 3) := by decide +kernel
theorem dX7_late_10 : decode cX7_late 10 = .ok (.bipush (-2), 2) := by decide +kernel
theorem dX7_late_12 : decode cX7_late 12 = .ok (.goto 7, 3) := by decide +kernel
theorem dX7_late_15 : decode cX7_late 15 = .ok (.aload_n 2, 1) := by decide +kernel
theorem dX7_late_16 : decode cX7_late 16 = .ok (.invokevirtual 151, 3) := by decide +kernel
theorem dX7_late_19 : decode cX7_late 19 = .ok (.ireturn, 1) := by decide +kernel
set_option maxRecDepth 20000 in
theorem ggX7_spoiled_X7_wordAt : GoodIn wsX7_spoiled wsX7_wordAt := goodIn_r _ [5, 6, 7, 8, 4, 9, 27, 28, 29, 30, 31, 32, 33, 34, 35, 36, 37] (by decide +kernel) (by decide +kernel)
set_option maxRecDepth 20000 in
theorem gX7_spoiled_X7_wordAt : GoodIn wsX7_spoiled (wsV RX7 95 RX7 yX7_wordAt wsX7_wordAt) := goodIn_app (goodIn_of _ (by decide +kernel)) ggX7_spoiled_X7_wordAt
set_option maxRecDepth 20000 in
theorem ggX7_spoiled_X6_countLate : GoodIn wsX7_spoiled wsX6_countLate := goodIn_r _ [14, 15, 16, 17, 18, 13, 19, 20, 21, 22, 23, 24, 25, 26, 38, 39, 40, 41, 42, 43] (by decide +kernel) (by decide +kernel)
set_option maxRecDepth 20000 in
theorem gX7_spoiled_X6_countLate : GoodIn wsX7_spoiled (wsV RX7 155 RX6 yX6_countLate wsX6_countLate) := goodIn_app (goodIn_of _ (by decide +kernel)) ggX7_spoiled_X6_countLate
theorem dX7_spoiled_0 : decode cX7_spoiled 0 = .ok (.aload_n 0, 1) := by decide +kernel
theorem dX7_spoiled_1 : decode cX7_spoiled 1 = .ok (.iload_n 1, 1) := by decide +kernel
theorem dX7_spoiled_2 : decode cX7_spoiled 2 = .ok (.invokevirtual 95, 3) := by decide +kernel
theorem dX7_spoiled_5 : decode cX7_spoiled 5 = .ok (.astore_n 2, 1) := by decide +kernel
theorem dX7_spoiled_6 : decode cX7_spoiled 6 = .ok (.aload_n 2, 1) := by decide +kernel
theorem dX7_spoiled_7 : decode cX7_spoiled 7 = .ok (.ifnonnull 8, 3) := by decide +kernel
theorem dX7_spoiled_10 : decode cX7_spoiled 10 = .ok (.bipush (-2), 2) := by decide +kernel
theorem dX7_spoiled_12 : decode cX7_spoiled 12 = .ok (.goto 7, 3) := by decide +kernel
theorem dX7_spoiled_15 : decode cX7_spoiled 15 = .ok (.aload_n 2, 1) := by decide +kernel
theorem dX7_spoiled_16 : decode cX7_spoiled 16 = .ok (.invokevirtual 155, 3) := by decide +kernel
theorem dX7_spoiled_19 : decode cX7_spoiled 19 = .ok (.ireturn, 1) := by decide +kernel
set_option maxRecDepth 20000 in
theorem ggX7_set_X7_within : GoodIn wsX7_set wsX7_within := goodIn_r _ [7] (by decide +kernel) (by decide +kernel)
set_option maxRecDepth 20000 in
theorem gX7_set_X7_within : GoodIn wsX7_set (va_wsS RX7 68 yX7_within wsX7_within) := goodIn_app (goodIn_of _ (by decide +kernel)) ggX7_set_X7_within
theorem dX7_set_0 : decode cX7_set 0 = .ok (.iload_n 1, 1) := by decide +kernel
theorem dX7_set_1 : decode cX7_set 1 = .ok (.iconst 0, 1) := by decide +kernel
theorem dX7_set_2 : decode cX7_set 2 = .ok (.iconst 3, 1) := by decide +kernel
theorem dX7_set_3 : decode cX7_set 3 = .ok (.invokestatic 68, 3) := by decide +kernel
theorem dX7_set_6 : decode cX7_set 6 = .ok (.ifCond .eq 20, 3) := by decide +kernel
theorem dX7_set_9 : decode cX7_set 9 = .ok (.iload_n 2, 1) := by decide +kernel
theorem dX7_set_10 : decode cX7_set 10 = .ok (.getstatic 158, 3) := by decide +kernel
theorem dX7_set_13 : decode cX7_set 13 = .ok (.iload_n 1, 1) := by decide +kernel
theorem dX7_set_14 : decode cX7_set 14 = .ok (.iaload, 1) := by decide +kernel
theorem dX7_set_15 : decode cX7_set 15 = .ok (.getstatic 161, 3) := by decide +kernel
theorem dX7_set_18 : decode cX7_set 18 = .ok (.iload_n 1, 1) := by decide +kernel
theorem dX7_set_19 : decode cX7_set 19 = .ok (.iaload, 1) := by decide +kernel
theorem dX7_set_20 : decode cX7_set 20 = .ok (.invokestatic 68, 3) := by decide +kernel
theorem dX7_set_23 : decode cX7_set 23 = .ok (.ifCond .ne 6, 3) := by decide +kernel
theorem dX7_set_26 : decode cX7_set 26 = .ok (.bipush (-2), 2) := by decide +kernel
theorem dX7_set_28 : decode cX7_set 28 = .ok (.ireturn, 1) := by decide +kernel
theorem dX7_set_29 : decode cX7_set 29 = .ok (.aload_n 0, 1) := by decide +kernel
theorem dX7_set_30 : decode cX7_set 30 = .ok (.getfield 33, 3) := by decide +kernel
theorem dX7_set_33 : decode cX7_set 33 = .ok (.iload_n 1, 1) := by decide +kernel
theorem dX7_set_34 : decode cX7_set 34 = .ok (.iaload, 1) := by decide +kernel
theorem dX7_set_35 : decode cX7_set 35 = .ok (.istore_n 3, 1) := by decide +kernel
theorem dX7_set_36 : decode cX7_set 36 = .ok (.aload_n 0, 1) := by decide +kernel
theorem dX7_set_37 : decode cX7_set 37 = .ok (.getfield 33, 3) := by decide +kernel
theorem dX7_set_40 : decode cX7_set 40 = .ok (.iload_n 1, 1) := by decide +kernel
theorem dX7_set_41 : decode cX7_set 41 = .ok (.iload_n 2, 1) := by decide +kernel
theorem dX7_set_42 : decode cX7_set 42 = .ok (.iastore, 1) := by decide +kernel
theorem dX7_set_43 : decode cX7_set 43 = .ok (.iload_n 3, 1) := by decide +kernel
theorem dX7_set_44 : decode cX7_set 44 = .ok (.ireturn, 1) := by decide +kernel
set_option maxRecDepth 20000 in
theorem ggX7_lump_X7_wordAt : GoodIn wsX7_lump wsX7_wordAt := goodIn_r _ [12, 13, 14, 15, 11, 16, 68, 69, 70, 71, 72, 73, 74, 75, 76, 77, 78] (by decide +kernel) (by decide +kernel)
set_option maxRecDepth 20000 in
theorem gX7_lump_X7_wordAt : GoodIn wsX7_lump (wsV RX7 95 RX7 yX7_wordAt wsX7_wordAt) := goodIn_app (goodIn_of _ (by decide +kernel)) ggX7_lump_X7_wordAt
set_option maxRecDepth 20000 in
theorem ggX7_lump_X7_within : GoodIn wsX7_lump wsX7_within := goodIn_r _ [16] (by decide +kernel) (by decide +kernel)
set_option maxRecDepth 20000 in
theorem gX7_lump_X7_within : GoodIn wsX7_lump (va_wsS RX7 68 yX7_within wsX7_within) := goodIn_app (goodIn_of _ (by decide +kernel)) ggX7_lump_X7_within
set_option maxRecDepth 20000 in
theorem ggX7_lump_X2_latestDay : GoodIn wsX7_lump wsX2_latestDay := goodIn_r _ [21, 22, 23, 24, 85, 86, 87, 88, 79, 80, 81, 82, 83, 84] (by decide +kernel) (by decide +kernel)
set_option maxRecDepth 20000 in
theorem gX7_lump_X2_latestDay : GoodIn wsX7_lump (wsV RX7 164 RX2 yX2_latestDay wsX2_latestDay) := goodIn_app (goodIn_of _ (by decide +kernel)) ggX7_lump_X2_latestDay
set_option maxRecDepth 20000 in
theorem ggX7_lump_X3_fits : GoodIn wsX7_lump wsX3_fits := goodIn_r _ [29, 30, 31, 32, 33, 34, 28, 35, 36, 37, 38, 89, 90, 91, 92, 93, 94, 95, 96, 97] (by decide +kernel) (by decide +kernel)
set_option maxRecDepth 20000 in
theorem gX7_lump_X3_fits : GoodIn wsX7_lump (wsV RX7 116 RX3 yX3_fits wsX3_fits) := goodIn_app (goodIn_of _ (by decide +kernel)) ggX7_lump_X3_fits
set_option maxRecDepth 20000 in
theorem ggX7_lump_X2_isFull : GoodIn wsX7_lump wsX2_isFull := goodIn_r _ [42, 22, 85, 86, 87, 88] (by decide +kernel) (by decide +kernel)
set_option maxRecDepth 20000 in
theorem gX7_lump_X2_isFull : GoodIn wsX7_lump (wsV RX7 167 RX2 yX2_isFull wsX2_isFull) := goodIn_app (goodIn_of _ (by decide +kernel)) ggX7_lump_X2_isFull
set_option maxRecDepth 20000 in
theorem ggX7_lump_X7_sticksOf : GoodIn wsX7_lump wsX7_sticksOf := goodIn_r _ [46, 3, 68, 69, 70, 71, 72, 73, 74, 75, 76, 77, 78] (by decide +kernel) (by decide +kernel)
set_option maxRecDepth 20000 in
theorem gX7_lump_X7_sticksOf : GoodIn wsX7_lump (wsV RX7 171 RX7 yX7_sticksOf wsX7_sticksOf) := goodIn_app (goodIn_of _ (by decide +kernel)) ggX7_lump_X7_sticksOf
set_option maxRecDepth 20000 in
theorem ggX7_lump_X1_init : GoodIn wsX7_lump wsX1_init := goodIn_r _ [49, 50, 51, 52, 53, 54, 55, 56, 57, 58, 79, 80, 81, 82, 83, 84] (by decide +kernel) (by decide +kernel)
set_option maxRecDepth 20000 in
theorem gX7_lump_X1_init : GoodIn wsX7_lump (wsX1_init) := ggX7_lump_X1_init
set_option maxRecDepth 20000 in
theorem ggX7_lump_X2_enter : GoodIn wsX7_lump wsX2_enter := goodIn_r _ [62, 23, 22, 63, 64, 65, 66, 67, 40, 41, 20, 42, 85, 86, 87, 88, 79, 80, 81, 82, 83, 84] (by decide +kernel) (by decide +kernel)
set_option maxRecDepth 20000 in
theorem gX7_lump_X2_enter : GoodIn wsX7_lump (wsV RX7 182 RX2 yX2_enter wsX2_enter) := goodIn_app (goodIn_of _ (by decide +kernel)) ggX7_lump_X2_enter
theorem dX7_lump_0 : decode cX7_lump 0 = .ok (.aload_n 0, 1) := by decide +kernel
theorem dX7_lump_1 : decode cX7_lump 1 = .ok (.iload_n 1, 1) := by decide +kernel
theorem dX7_lump_2 : decode cX7_lump 2 = .ok (.invokevirtual 95, 3) := by decide +kernel
theorem dX7_lump_5 : decode cX7_lump 5 = .ok (.astore 5, 2) := by decide +kernel
theorem dX7_lump_7 : decode cX7_lump 7 = .ok (.aload 5, 2) := by decide +kernel
theorem dX7_lump_9 : decode cX7_lump 9 = .ok (.ifnull 25, 3) := by decide +kernel
theorem dX7_lump_12 : decode cX7_lump 12 = .ok (.iload_n 2, 1) := by decide +kernel
theorem dX7_lump_13 : decode cX7_lump 13 = .ok (.iconst 0, 1) := by decide +kernel
theorem dX7_lump_14 : decode cX7_lump 14 = .ok (.bipush 9, 2) := by decide +kernel
theorem dX7_lump_16 : decode cX7_lump 16 = .ok (.invokestatic 68, 3) := by decide +kernel
theorem dX7_lump_19 : decode cX7_lump 19 = .ok (.ifCond .eq 15, 3) := by decide +kernel
theorem dX7_lump_22 : decode cX7_lump 22 = .ok (.iload 4, 2) := by decide +kernel
theorem dX7_lump_24 : decode cX7_lump 24 = .ok (.iconst 1, 1) := by decide +kernel
theorem dX7_lump_25 : decode cX7_lump 25 = .ok (.sipush 200, 3) := by decide +kernel
theorem dX7_lump_28 : decode cX7_lump 28 = .ok (.invokestatic 68, 3) := by decide +kernel
theorem dX7_lump_31 : decode cX7_lump 31 = .ok (.ifCond .ne 6, 3) := by decide +kernel
theorem dX7_lump_34 : decode cX7_lump 34 = .ok (.bipush (-2), 2) := by decide +kernel
theorem dX7_lump_36 : decode cX7_lump 36 = .ok (.ireturn, 1) := by decide +kernel
theorem dX7_lump_37 : decode cX7_lump 37 = .ok (.iload_n 3, 1) := by decide +kernel
theorem dX7_lump_38 : decode cX7_lump 38 = .ok (.aload_n 0, 1) := by decide +kernel
theorem dX7_lump_39 : decode cX7_lump 39 = .ok (.getfield 40, 3) := by decide +kernel
theorem dX7_lump_42 : decode cX7_lump 42 = .ok (.invokevirtual 164, 3) := by decide +kernel
theorem dX7_lump_45 : decode cX7_lump 45 = .ok (.sipush 999, 3) := by decide +kernel
theorem dX7_lump_48 : decode cX7_lump 48 = .ok (.invokestatic 68, 3) := by decide +kernel
theorem dX7_lump_51 : decode cX7_lump 51 = .ok (.ifCond .ne 6, 3) := by decide +kernel
theorem dX7_lump_54 : decode cX7_lump 54 = .ok (.bipush (-2), 2) := by decide +kernel
theorem dX7_lump_56 : decode cX7_lump 56 = .ok (.ireturn, 1) := by decide +kernel
theorem dX7_lump_57 : decode cX7_lump 57 = .ok (.aload_n 0, 1) := by decide +kernel
theorem dX7_lump_58 : decode cX7_lump 58 = .ok (.getfield 29, 3) := by decide +kernel
theorem dX7_lump_61 : decode cX7_lump 61 = .ok (.aload 5, 2) := by decide +kernel
theorem dX7_lump_63 : decode cX7_lump 63 = .ok (.invokevirtual 116, 3) := by decide +kernel
theorem dX7_lump_66 : decode cX7_lump 66 = .ok (.ifCond .ne 6, 3) := by decide +kernel
theorem dX7_lump_69 : decode cX7_lump 69 = .ok (.bipush (-3), 2) := by decide +kernel
theorem dX7_lump_71 : decode cX7_lump 71 = .ok (.ireturn, 1) := by decide +kernel
theorem dX7_lump_72 : decode cX7_lump 72 = .ok (.aload_n 0, 1) := by decide +kernel
theorem dX7_lump_73 : decode cX7_lump 73 = .ok (.getfield 40, 3) := by decide +kernel
theorem dX7_lump_76 : decode cX7_lump 76 = .ok (.invokevirtual 167, 3) := by decide +kernel
theorem dX7_lump_79 : decode cX7_lump 79 = .ok (.ifCond .eq 6, 3) := by decide +kernel
theorem dX7_lump_82 : decode cX7_lump 82 = .ok (.bipush (-4), 2) := by decide +kernel
theorem dX7_lump_84 : decode cX7_lump 84 = .ok (.ireturn, 1) := by decide +kernel
theorem dX7_lump_85 : decode cX7_lump 85 = .ok (.iload 4, 2) := by decide +kernel
theorem dX7_lump_87 : decode cX7_lump 87 = .ok (.aload_n 0, 1) := by decide +kernel
theorem dX7_lump_88 : decode cX7_lump 88 = .ok (.getfield 33, 3) := by decide +kernel
theorem dX7_lump_91 : decode cX7_lump 91 = .ok (.iconst 0, 1) := by decide +kernel
theorem dX7_lump_92 : decode cX7_lump 92 = .ok (.iaload, 1) := by decide +kernel
theorem dX7_lump_93 : decode cX7_lump 93 = .ok (.imul, 1) := by decide +kernel
theorem dX7_lump_94 : decode cX7_lump 94 = .ok (.istore 6, 2) := by decide +kernel
theorem dX7_lump_96 : decode cX7_lump 96 = .ok (.aload_n 0, 1) := by decide +kernel
theorem dX7_lump_97 : decode cX7_lump 97 = .ok (.iload 6, 2) := by decide +kernel
theorem dX7_lump_99 : decode cX7_lump 99 = .ok (.invokevirtual 171, 3) := by decide +kernel
theorem dX7_lump_102 : decode cX7_lump 102 = .ok (.istore 7, 2) := by decide +kernel
theorem dX7_lump_104 : decode cX7_lump 104 = .ok (.iload 6, 2) := by decide +kernel
theorem dX7_lump_106 : decode cX7_lump 106 = .ok (.iload 7, 2) := by decide +kernel
theorem dX7_lump_108 : decode cX7_lump 108 = .ok (.aload_n 0, 1) := by decide +kernel
theorem dX7_lump_109 : decode cX7_lump 109 = .ok (.getfield 33, 3) := by decide +kernel
theorem dX7_lump_112 : decode cX7_lump 112 = .ok (.iconst 2, 1) := by decide +kernel
theorem dX7_lump_113 : decode cX7_lump 113 = .ok (.iaload, 1) := by decide +kernel
theorem dX7_lump_114 : decode cX7_lump 114 = .ok (.imul, 1) := by decide +kernel
theorem dX7_lump_115 : decode cX7_lump 115 = .ok (.isub, 1) := by decide +kernel
theorem dX7_lump_116 : decode cX7_lump 116 = .ok (.istore 8, 2) := by decide +kernel
theorem dX7_lump_118 : decode cX7_lump 118 = .ok (.aload_n 0, 1) := by decide +kernel
theorem dX7_lump_119 : decode cX7_lump 119 = .ok (.getfield 40, 3) := by decide +kernel
theorem dX7_lump_122 : decode cX7_lump 122 = .ok (.new 174, 3) := by decide +kernel
theorem dX7_lump_125 : decode cX7_lump 125 = .ok (.dup, 1) := by decide +kernel
theorem dX7_lump_126 : decode cX7_lump 126 = .ok (.iload_n 1, 1) := by decide +kernel
theorem dX7_lump_127 : decode cX7_lump 127 = .ok (.iload_n 2, 1) := by decide +kernel
theorem dX7_lump_128 : decode cX7_lump 128 = .ok (.iload_n 3, 1) := by decide +kernel
theorem dX7_lump_129 : decode cX7_lump 129 = .ok (.aload_n 0, 1) := by decide +kernel
theorem dX7_lump_130 : decode cX7_lump 130 = .ok (.getfield 40, 3) := by decide +kernel
theorem dX7_lump_133 : decode cX7_lump 133 = .ok (.getfield 176, 3) := by decide +kernel
theorem dX7_lump_136 : decode cX7_lump 136 = .ok (.iload 7, 2) := by decide +kernel
theorem dX7_lump_138 : decode cX7_lump 138 = .ok (.iload 8, 2) := by decide +kernel
theorem dX7_lump_140 : decode cX7_lump 140 = .ok (.invokespecial 179, 3) := by decide +kernel
theorem dX7_lump_143 : decode cX7_lump 143 = .ok (.invokevirtual 182, 3) := by decide +kernel
theorem dX7_lump_146 : decode cX7_lump 146 = .ok (.iload 7, 2) := by decide +kernel
theorem dX7_lump_148 : decode cX7_lump 148 = .ok (.ireturn, 1) := by decide +kernel
theorem dX7_sticksOf_0 : decode cX7_sticksOf 0 = .ok (.iload_n 1, 1) := by decide +kernel
theorem dX7_sticksOf_1 : decode cX7_sticksOf 1 = .ok (.iconst 2, 1) := by decide +kernel
theorem dX7_sticksOf_2 : decode cX7_sticksOf 2 = .ok (.aload_n 0, 1) := by decide +kernel
theorem dX7_sticksOf_3 : decode cX7_sticksOf 3 = .ok (.getfield 33, 3) := by decide +kernel
theorem dX7_sticksOf_6 : decode cX7_sticksOf 6 = .ok (.iconst 1, 1) := by decide +kernel
theorem dX7_sticksOf_7 : decode cX7_sticksOf 7 = .ok (.iaload, 1) := by decide +kernel
theorem dX7_sticksOf_8 : decode cX7_sticksOf 8 = .ok (.imul, 1) := by decide +kernel
theorem dX7_sticksOf_9 : decode cX7_sticksOf 9 = .ok (.isub, 1) := by decide +kernel
theorem dX7_sticksOf_10 : decode cX7_sticksOf 10 = .ok (.istore_n 2, 1) := by decide +kernel
theorem dX7_sticksOf_11 : decode cX7_sticksOf 11 = .ok (.aload_n 0, 1) := by decide +kernel
theorem dX7_sticksOf_12 : decode cX7_sticksOf 12 = .ok (.getfield 33, 3) := by decide +kernel
theorem dX7_sticksOf_15 : decode cX7_sticksOf 15 = .ok (.iconst 2, 1) := by decide +kernel
theorem dX7_sticksOf_16 : decode cX7_sticksOf 16 = .ok (.iaload, 1) := by decide +kernel
