theorem dX7_troubleOfItem_15 : decode cX7_troubleOfItem 15 = .ok (.istore 4, 2) := by decide +kernel
theorem dX7_troubleOfItem_17 : decode cX7_troubleOfItem 17 = .ok (.iload 4, 2) := by decide +kernel
theorem dX7_troubleOfItem_19 : decode cX7_troubleOfItem 19 = .ok (.ifCond .eq 6, 3) := by decide +kernel
theorem dX7_troubleOfItem_22 : decode cX7_troubleOfItem 22 = .ok (.iload 4, 2) := by decide +kernel
theorem dX7_troubleOfItem_24 : decode cX7_troubleOfItem 24 = .ok (.ireturn, 1) := by decide +kernel
theorem dX7_troubleOfItem_25 : decode cX7_troubleOfItem 25 = .ok (.aload_n 0, 1) := by decide +kernel
theorem dX7_troubleOfItem_26 : decode cX7_troubleOfItem 26 = .ok (.getfield 60, 3) := by decide +kernel
theorem dX7_troubleOfItem_29 : decode cX7_troubleOfItem 29 = .ok (.iload_n 1, 1) := by decide +kernel
theorem dX7_troubleOfItem_30 : decode cX7_troubleOfItem 30 = .ok (.aaload, 1) := by decide +kernel
theorem dX7_troubleOfItem_31 : decode cX7_troubleOfItem 31 = .ok (.getfield 294, 3) := by decide +kernel
theorem dX7_troubleOfItem_34 : decode cX7_troubleOfItem 34 = .ok (.iload_n 2, 1) := by decide +kernel
theorem dX7_troubleOfItem_35 : decode cX7_troubleOfItem 35 = .ok (.if_icmp .eq 9, 3) := by decide +kernel
theorem dX7_troubleOfItem_38 : decode cX7_troubleOfItem 38 = .ok (.aload_n 0, 1) := by decide +kernel
theorem dX7_troubleOfItem_39 : decode cX7_troubleOfItem 39 = .ok (.iconst 3, 1) := by decide +kernel
theorem dX7_troubleOfItem_40 : decode cX7_troubleOfItem 40 = .ok (.invokevirtual 272, 3) := by decide +kernel
theorem dX7_troubleOfItem_43 : decode cX7_troubleOfItem 43 = .ok (.ireturn, 1) := by decide +kernel
theorem dX7_troubleOfItem_44 : decode cX7_troubleOfItem 44 = .ok (.aload_n 0, 1) := by decide +kernel
theorem dX7_troubleOfItem_45 : decode cX7_troubleOfItem 45 = .ok (.getfield 60, 3) := by decide +kernel
theorem dX7_troubleOfItem_48 : decode cX7_troubleOfItem 48 = .ok (.iload_n 1, 1) := by decide +kernel
theorem dX7_troubleOfItem_49 : decode cX7_troubleOfItem 49 = .ok (.aaload, 1) := by decide +kernel
theorem dX7_troubleOfItem_50 : decode cX7_troubleOfItem 50 = .ok (.iload_n 3, 1) := by decide +kernel
theorem dX7_troubleOfItem_51 : decode cX7_troubleOfItem 51 = .ok (.invokevirtual 335, 3) := by decide +kernel
theorem dX7_troubleOfItem_54 : decode cX7_troubleOfItem 54 = .ok (.ifCond .eq 7, 3) := by decide +kernel
theorem dX7_troubleOfItem_57 : decode cX7_troubleOfItem 57 = .ok (.iconst 0, 1) := by decide +kernel
theorem dX7_troubleOfItem_58 : decode cX7_troubleOfItem 58 = .ok (.goto 8, 3) := by decide +kernel
theorem dX7_troubleOfItem_61 : decode cX7_troubleOfItem 61 = .ok (.aload_n 0, 1) := by decide +kernel
theorem dX7_troubleOfItem_62 : decode cX7_troubleOfItem 62 = .ok (.iconst 2, 1) := by decide +kernel
theorem dX7_troubleOfItem_63 : decode cX7_troubleOfItem 63 = .ok (.invokevirtual 272, 3) := by decide +kernel
theorem dX7_troubleOfItem_66 : decode cX7_troubleOfItem 66 = .ok (.ireturn, 1) := by decide +kernel
theorem dX8_init_0 : decode cX8_init 0 = .ok (.aload_n 0, 1) := by decide +kernel
theorem dX8_init_1 : decode cX8_init 1 = .ok (.invokespecial 1, 3) := by decide +kernel
theorem dX8_init_4 : decode cX8_init 4 = .ok (.aload_n 0, 1) := by decide +kernel
theorem dX8_init_5 : decode cX8_init 5 = .ok (.iconst 4, 1) := by decide +kernel
theorem dX8_init_6 : decode cX8_init 6 = .ok (.newarray .int, 2) := by decide +kernel
theorem dX8_init_8 : decode cX8_init 8 = .ok (.putfield 7, 3) := by decide +kernel
theorem dX8_init_11 : decode cX8_init 11 = .ok (.aload_n 0, 1) := by decide +kernel
theorem dX8_init_12 : decode cX8_init 12 = .ok (.bipush 16, 2) := by decide +kernel
theorem dX8_init_14 : decode cX8_init 14 = .ok (.newarray .int, 2) := by decide +kernel
theorem dX8_init_16 : decode cX8_init 16 = .ok (.putfield 13, 3) := by decide +kernel
theorem dX8_init_19 : decode cX8_init 19 = .ok (.aload_n 0, 1) := by decide +kernel
theorem dX8_init_20 : decode cX8_init 20 = .ok (.bipush 16, 2) := by decide +kernel
theorem dX8_init_22 : decode cX8_init 22 = .ok (.newarray .int, 2) := by decide +kernel
theorem dX8_init_24 : decode cX8_init 24 = .ok (.putfield 16, 3) := by decide +kernel
theorem dX8_init_27 : decode cX8_init 27 = .ok (.aload_n 0, 1) := by decide +kernel
theorem dX8_init_28 : decode cX8_init 28 = .ok (.bipush 16, 2) := by decide +kernel
theorem dX8_init_30 : decode cX8_init 30 = .ok (.newarray .int, 2) := by decide +kernel
theorem dX8_init_32 : decode cX8_init 32 = .ok (.putfield 19, 3) := by decide +kernel
theorem dX8_init_35 : decode cX8_init 35 = .ok (.aload_n 0, 1) := by decide +kernel
theorem dX8_init_36 : decode cX8_init 36 = .ok (.bipush 80, 2) := by decide +kernel
theorem dX8_init_38 : decode cX8_init 38 = .ok (.newarray .int, 2) := by decide +kernel
theorem dX8_init_40 : decode cX8_init 40 = .ok (.putfield 22, 3) := by decide +kernel
theorem dX8_init_43 : decode cX8_init 43 = .ok (.aload_n 0, 1) := by decide +kernel
theorem dX8_init_44 : decode cX8_init 44 = .ok (.bipush 8, 2) := by decide +kernel
theorem dX8_init_46 : decode cX8_init 46 = .ok (.newarray .int, 2) := by decide +kernel
theorem dX8_init_48 : decode cX8_init 48 = .ok (.putfield 25, 3) := by decide +kernel
theorem dX8_init_51 : decode cX8_init 51 = .ok (.aload_n 0, 1) := by decide +kernel
theorem dX8_init_52 : decode cX8_init 52 = .ok (.bipush 80, 2) := by decide +kernel
theorem dX8_init_54 : decode cX8_init 54 = .ok (.newarray .int, 2) := by decide +kernel
theorem dX8_init_56 : decode cX8_init 56 = .ok (.putfield 28, 3) := by decide +kernel
theorem dX8_init_59 : decode cX8_init 59 = .ok (.aload_n 0, 1) := by decide +kernel
theorem dX8_init_60 : decode cX8_init 60 = .ok (.bipush 30, 2) := by decide +kernel
theorem dX8_init_62 : decode cX8_init 62 = .ok (.putfield 31, 3) := by decide +kernel
theorem dX8_init_65 : decode cX8_init 65 = .ok (.aload_n 0, 1) := by decide +kernel
theorem dX8_init_66 : decode cX8_init 66 = .ok (.iconst 1, 1) := by decide +kernel
theorem dX8_init_67 : decode cX8_init 67 = .ok (.putfield 35, 3) := by decide +kernel
theorem dX8_init_70 : decode cX8_init 70 = .ok (.aload_n 0, 1) := by decide +kernel
theorem dX8_init_71 : decode cX8_init 71 = .ok (.bipush 60, 2) := by decide +kernel
theorem dX8_init_73 : decode cX8_init 73 = .ok (.newarray .int, 2) := by decide +kernel
theorem dX8_init_75 : decode cX8_init 75 = .ok (.putfield 38, 3) := by decide +kernel
theorem dX8_init_78 : decode cX8_init 78 = .ok (.aload_n 0, 1) := by decide +kernel
theorem dX8_init_79 : decode cX8_init 79 = .ok (.bipush 10, 2) := by decide +kernel
theorem dX8_init_81 : decode cX8_init 81 = .ok (.newarray .int, 2) := by decide +kernel
theorem dX8_init_83 : decode cX8_init 83 = .ok (.putfield 41, 3) := by decide +kernel
theorem dX8_init_86 : decode cX8_init 86 = .ok (.aload_n 0, 1) := by decide +kernel
theorem dX8_init_87 : decode cX8_init 87 = .ok (.sipush 240, 3) := by decide +kernel
theorem dX8_init_90 : decode cX8_init 90 = .ok (.newarray .int, 2) := by decide +kernel
theorem dX8_init_92 : decode cX8_init 92 = .ok (.putfield 44, 3) := by decide +kernel
theorem dX8_init_95 : decode cX8_init 95 = .ok (.aload_n 0, 1) := by decide +kernel
theorem dX8_init_96 : decode cX8_init 96 = .ok (.bipush 52, 2) := by decide +kernel
theorem dX8_init_98 : decode cX8_init 98 = .ok (.newarray .boolean, 2) := by decide +kernel
theorem dX8_init_100 : decode cX8_init 100 = .ok (.putfield 47, 3) := by decide +kernel
theorem dX8_init_103 : decode cX8_init 103 = .ok (.aload_n 0, 1) := by decide +kernel
theorem dX8_init_104 : decode cX8_init 104 = .ok (.bipush 52, 2) := by decide +kernel
theorem dX8_init_106 : decode cX8_init 106 = .ok (.newarray .int, 2) := by decide +kernel
theorem dX8_init_108 : decode cX8_init 108 = .ok (.putfield 51, 3) := by decide +kernel
theorem dX8_init_111 : decode cX8_init 111 = .ok (.aload_n 0, 1) := by decide +kernel
theorem dX8_init_112 : decode cX8_init 112 = .ok (.iconst 4, 1) := by decide +kernel
theorem dX8_init_113 : decode cX8_init 113 = .ok (.newarray .int, 2) := by decide +kernel
theorem dX8_init_115 : decode cX8_init 115 = .ok (.putfield 54, 3) := by decide +kernel
theorem dX8_init_118 : decode cX8_init 118 = .ok (.aload_n 0, 1) := by decide +kernel
theorem dX8_init_119 : decode cX8_init 119 = .ok (.iconst 4, 1) := by decide +kernel
theorem dX8_init_120 : decode cX8_init 120 = .ok (.newarray .int, 2) := by decide +kernel
theorem dX8_init_122 : decode cX8_init 122 = .ok (.putfield 57, 3) := by decide +kernel
theorem dX8_init_125 : decode cX8_init 125 = .ok (.aload_n 0, 1) := by decide +kernel
theorem dX8_init_126 : decode cX8_init 126 = .ok (.sipush 240, 3) := by decide +kernel
theorem dX8_init_129 : decode cX8_init 129 = .ok (.newarray .int, 2) := by decide +kernel
theorem dX8_init_131 : decode cX8_init 131 = .ok (.putfield 60, 3) := by decide +kernel
theorem dX8_init_134 : decode cX8_init 134 = .ok (.aload_n 0, 1) := by decide +kernel
theorem dX8_init_135 : decode cX8_init 135 = .ok (.bipush 60, 2) := by decide +kernel
theorem dX8_init_137 : decode cX8_init 137 = .ok (.newarray .int, 2) := by decide +kernel
theorem dX8_init_139 : decode cX8_init 139 = .ok (.putfield 63, 3) := by decide +kernel
theorem dX8_init_142 : decode cX8_init 142 = .ok (.aload_n 0, 1) := by decide +kernel
theorem dX8_init_143 : decode cX8_init 143 = .ok (.getfield 7, 3) := by decide +kernel
theorem dX8_init_146 : decode cX8_init 146 = .ok (.iconst 0, 1) := by decide +kernel
theorem dX8_init_147 : decode cX8_init 147 = .ok (.bipush 100, 2) := by decide +kernel
theorem dX8_init_149 : decode cX8_init 149 = .ok (.iastore, 1) := by decide +kernel
theorem dX8_init_150 : decode cX8_init 150 = .ok (.aload_n 0, 1) := by decide +kernel
theorem dX8_init_151 : decode cX8_init 151 = .ok (.getfield 7, 3) := by decide +kernel
theorem dX8_init_154 : decode cX8_init 154 = .ok (.iconst 1, 1) := by decide +kernel
theorem dX8_init_155 : decode cX8_init 155 = .ok (.bipush 10, 2) := by decide +kernel
theorem dX8_init_157 : decode cX8_init 157 = .ok (.iastore, 1) := by decide +kernel
theorem dX8_init_158 : decode cX8_init 158 = .ok (.aload_n 0, 1) := by decide +kernel
theorem dX8_init_159 : decode cX8_init 159 = .ok (.getfield 7, 3) := by decide +kernel
theorem dX8_init_162 : decode cX8_init 162 = .ok (.iconst 2, 1) := by decide +kernel
theorem dX8_init_163 : decode cX8_init 163 = .ok (.bipush 20, 2) := by decide +kernel
theorem dX8_init_165 : decode cX8_init 165 = .ok (.iastore, 1) := by decide +kernel
theorem dX8_init_166 : decode cX8_init 166 = .ok (.aload_n 0, 1) := by decide +kernel
theorem dX8_init_167 : decode cX8_init 167 = .ok (.getfield 7, 3) := by decide +kernel
theorem dX8_init_170 : decode cX8_init 170 = .ok (.iconst 3, 1) := by decide +kernel
theorem dX8_init_171 : decode cX8_init 171 = .ok (.bipush 10, 2) := by decide +kernel
theorem dX8_init_173 : decode cX8_init 173 = .ok (.iastore, 1) := by decide +kernel
theorem dX8_init_174 : decode cX8_init 174 = .ok (.iconst 0, 1) := by decide +kernel
theorem dX8_init_175 : decode cX8_init 175 = .ok (.istore_n 1, 1) := by decide +kernel
theorem dX8_init_176 : decode cX8_init 176 = .ok (.iload_n 1, 1) := by decide +kernel
theorem dX8_init_177 : decode cX8_init 177 = .ok (.iconst 4, 1) := by decide +kernel
theorem dX8_init_178 : decode cX8_init 178 = .ok (.if_icmp .ge 16, 3) := by decide +kernel
theorem dX8_init_181 : decode cX8_init 181 = .ok (.aload_n 0, 1) := by decide +kernel
theorem dX8_init_182 : decode cX8_init 182 = .ok (.getfield 54, 3) := by decide +kernel
theorem dX8_init_185 : decode cX8_init 185 = .ok (.iload_n 1, 1) := by decide +kernel
theorem dX8_init_186 : decode cX8_init 186 = .ok (.iconst (-1), 1) := by decide +kernel
theorem dX8_init_187 : decode cX8_init 187 = .ok (.iastore, 1) := by decide +kernel
theorem dX8_init_188 : decode cX8_init 188 = .ok (.iinc 1 1, 3) := by decide +kernel
theorem dX8_init_191 : decode cX8_init 191 = .ok (.goto (-15), 3) := by decide +kernel
theorem dX8_init_194 : decode cX8_init 194 = .ok (.return_, 1) := by decide +kernel
theorem dX8_in_0 : decode cX8_in 0 = .ok (.lload_n 0, 1) := by decide +kernel
theorem dX8_in_1 : decode cX8_in 1 = .ok (.lload_n 2, 1) := by decide +kernel
theorem dX8_in_2 : decode cX8_in 2 = .ok (.lcmp, 1) := by decide +kernel
theorem dX8_in_3 : decode cX8_in 3 = .ok (.ifCond .lt 14, 3) := by decide +kernel
theorem dX8_in_6 : decode cX8_in 6 = .ok (.lload_n 0, 1) := by decide +kernel
theorem dX8_in_7 : decode cX8_in 7 = .ok (.lload 4, 2) := by decide +kernel
theorem dX8_in_9 : decode cX8_in 9 = .ok (.lcmp, 1) := by decide +kernel
theorem dX8_in_10 : decode cX8_in 10 = .ok (.ifCond .gt 7, 3) := by decide +kernel
theorem dX8_in_13 : decode cX8_in 13 = .ok (.iconst 1, 1) := by decide +kernel
theorem dX8_in_14 : decode cX8_in 14 = .ok (.goto 4, 3) := by decide +kernel
theorem dX8_in_17 : decode cX8_in 17 = .ok (.iconst 0, 1) := by decide +kernel
theorem dX8_in_18 : decode cX8_in 18 = .ok (.ireturn, 1) := by decide +kernel
set_option maxRecDepth 20000 in
theorem ggX8_isLetter_X8_in : GoodIn wsX8_isLetter wsX8_in := goodIn_r _ [5] (by decide +kernel) (by decide +kernel)
set_option maxRecDepth 20000 in
theorem gX8_isLetter_X8_in : GoodIn wsX8_isLetter (va_wsS RX8 69 yX8_in wsX8_in) := goodIn_app (goodIn_of _ (by decide +kernel)) ggX8_isLetter_X8_in
theorem dX8_isLetter_0 : decode cX8_isLetter 0 = .ok (.iload_n 1, 1) := by decide +kernel
theorem dX8_isLetter_1 : decode cX8_isLetter 1 = .ok (.i2l, 1) := by decide +kernel
theorem dX8_isLetter_2 : decode cX8_isLetter 2 = .ok (.lconst 0, 1) := by decide +kernel
theorem dX8_isLetter_3 : decode cX8_isLetter 3 = .ok (.aload_n 0, 1) := by decide +kernel
theorem dX8_isLetter_4 : decode cX8_isLetter 4 = .ok (.getfield 66, 3) := by decide +kernel
theorem dX8_isLetter_7 : decode cX8_isLetter 7 = .ok (.iconst 1, 1) := by decide +kernel
theorem dX8_isLetter_8 : decode cX8_isLetter 8 = .ok (.isub, 1) := by decide +kernel
theorem dX8_isLetter_9 : decode cX8_isLetter 9 = .ok (.i2l, 1) := by decide +kernel
theorem dX8_isLetter_10 : decode cX8_isLetter 10 = .ok (.invokestatic 69, 3) := by decide +kernel
theorem dX8_isLetter_13 : decode cX8_isLetter 13 = .ok (.ireturn, 1) := by decide +kernel
set_option maxRecDepth 20000 in
theorem ggX8_isWord_X8_in : GoodIn wsX8_isWord wsX8_in := goodIn_r _ [5] (by decide +kernel) (by decide +kernel)
set_option maxRecDepth 20000 in
theorem gX8_isWord_X8_in : GoodIn wsX8_isWord (va_wsS RX8 69 yX8_in wsX8_in) := goodIn_app (goodIn_of _ (by decide +kernel)) ggX8_isWord_X8_in
theorem dX8_isWord_0 : decode cX8_isWord 0 = .ok (.iload_n 0, 1) := by decide +kernel
theorem dX8_isWord_1 : decode cX8_isWord 1 = .ok (.i2l, 1) := by decide +kernel
theorem dX8_isWord_2 : decode cX8_isWord 2 = .ok (.lconst 0, 1) := by decide +kernel
theorem dX8_isWord_3 : decode cX8_isWord 3 = .ok (.ldc2_w 73, 3) := by decide +kernel
theorem dX8_isWord_6 : decode cX8_isWord 6 = .ok (.invokestatic 69, 3) := by decide +kernel
theorem dX8_isWord_9 : decode cX8_isWord 9 = .ok (.ireturn, 1) := by decide +kernel
set_option maxRecDepth 20000 in
theorem ggX8_letter_X8_in : GoodIn wsX8_letter wsX8_in := goodIn_r _ [11] (by decide +kernel) (by decide +kernel)
set_option maxRecDepth 20000 in
theorem gX8_letter_X8_in : GoodIn wsX8_letter (va_wsS RX8 69 yX8_in wsX8_in) := goodIn_app (goodIn_of _ (by decide +kernel)) ggX8_letter_X8_in
theorem dX8_letter_0 : decode cX8_letter 0 = .ok (.iload_n 1, 1) := by decide +kernel
theorem dX8_letter_1 : decode cX8_letter 1 = .ok (.i2l, 1) := by decide +kernel
theorem dX8_letter_2 : decode cX8_letter 2 = .ok (.lconst 1, 1) := by decide +kernel
theorem dX8_letter_3 : decode cX8_letter 3 = .ok (.ldc2_w 75, 3) := by decide +kernel
theorem dX8_letter_6 : decode cX8_letter 6 = .ok (.invokestatic 69, 3) := by decide +kernel
theorem dX8_letter_9 : decode cX8_letter 9 = .ok (.ifCond .eq 27, 3) := by decide +kernel
theorem dX8_letter_12 : decode cX8_letter 12 = .ok (.iload_n 2, 1) := by decide +kernel
theorem dX8_letter_13 : decode cX8_letter 13 = .ok (.i2l, 1) := by decide +kernel
theorem dX8_letter_14 : decode cX8_letter 14 = .ok (.lconst 1, 1) := by decide +kernel
theorem dX8_letter_15 : decode cX8_letter 15 = .ok (.ldc2_w 77, 3) := by decide +kernel
theorem dX8_letter_18 : decode cX8_letter 18 = .ok (.invokestatic 69, 3) := by decide +kernel
theorem dX8_letter_21 : decode cX8_letter 21 = .ok (.ifCond .eq 15, 3) := by decide +kernel
theorem dX8_letter_24 : decode cX8_letter 24 = .ok (.iload_n 3, 1) := by decide +kernel
theorem dX8_letter_25 : decode cX8_letter 25 = .ok (.i2l, 1) := by decide +kernel
theorem dX8_letter_26 : decode cX8_letter 26 = .ok (.lconst 1, 1) := by decide +kernel
theorem dX8_letter_27 : decode cX8_letter 27 = .ok (.ldc2_w 79, 3) := by decide +kernel
theorem dX8_letter_30 : decode cX8_letter 30 = .ok (.invokestatic 69, 3) := by decide +kernel
theorem dX8_letter_33 : decode cX8_letter 33 = .ok (.ifCond .ne 6, 3) := by decide +kernel
theorem dX8_letter_36 : decode cX8_letter 36 = .ok (.bipush (-2), 2) := by decide +kernel
theorem dX8_letter_38 : decode cX8_letter 38 = .ok (.ireturn, 1) := by decide +kernel
theorem dX8_letter_39 : decode cX8_letter 39 = .ok (.aload_n 0, 1) := by decide +kernel
theorem dX8_letter_40 : decode cX8_letter 40 = .ok (.getfield 66, 3) := by decide +kernel
theorem dX8_letter_43 : decode cX8_letter 43 = .ok (.bipush 16, 2) := by decide +kernel
theorem dX8_letter_45 : decode cX8_letter 45 = .ok (.if_icmp .ne 6, 3) := by decide +kernel
theorem dX8_letter_48 : decode cX8_letter 48 = .ok (.bipush (-4), 2) := by decide +kernel
theorem dX8_letter_50 : decode cX8_letter 50 = .ok (.ireturn, 1) := by decide +kernel
theorem dX8_letter_51 : decode cX8_letter 51 = .ok (.aload_n 0, 1) := by decide +kernel
theorem dX8_letter_52 : decode cX8_letter 52 = .ok (.getfield 13, 3) := by decide +kernel
theorem dX8_letter_55 : decode cX8_letter 55 = .ok (.aload_n 0, 1) := by decide +kernel
theorem dX8_letter_56 : decode cX8_letter 56 = .ok (.getfield 66, 3) := by decide +kernel
theorem dX8_letter_59 : decode cX8_letter 59 = .ok (.iload_n 1, 1) := by decide +kernel
theorem dX8_letter_60 : decode cX8_letter 60 = .ok (.iastore, 1) := by decide +kernel
theorem dX8_letter_61 : decode cX8_letter 61 = .ok (.aload_n 0, 1) := by decide +kernel
theorem dX8_letter_62 : decode cX8_letter 62 = .ok (.getfield 16, 3) := by decide +kernel
theorem dX8_letter_65 : decode cX8_letter 65 = .ok (.aload_n 0, 1) := by decide +kernel
theorem dX8_letter_66 : decode cX8_letter 66 = .ok (.getfield 66, 3) := by decide +kernel
theorem dX8_letter_69 : decode cX8_letter 69 = .ok (.iload_n 2, 1) := by decide +kernel
theorem dX8_letter_70 : decode cX8_letter 70 = .ok (.iastore, 1) := by decide +kernel
theorem dX8_letter_71 : decode cX8_letter 71 = .ok (.aload_n 0, 1) := by decide +kernel
theorem dX8_letter_72 : decode cX8_letter 72 = .ok (.getfield 19, 3) := by decide +kernel
theorem dX8_letter_75 : decode cX8_letter 75 = .ok (.aload_n 0, 1) := by decide +kernel
theorem dX8_letter_76 : decode cX8_letter 76 = .ok (.getfield 66, 3) := by decide +kernel
theorem dX8_letter_79 : decode cX8_letter 79 = .ok (.iload_n 3, 1) := by decide +kernel
theorem dX8_letter_80 : decode cX8_letter 80 = .ok (.iastore, 1) := by decide +kernel
theorem dX8_letter_81 : decode cX8_letter 81 = .ok (.aload_n 0, 1) := by decide +kernel
theorem dX8_letter_82 : decode cX8_letter 82 = .ok (.dup, 1) := by decide +kernel
theorem dX8_letter_83 : decode cX8_letter 83 = .ok (.getfield 66, 3) := by decide +kernel
theorem dX8_letter_86 : decode cX8_letter 86 = .ok (.iconst 1, 1) := by decide +kernel
theorem dX8_letter_87 : decode cX8_letter 87 = .ok (.iadd, 1) := by decide +kernel
theorem dX8_letter_88 : decode cX8_letter 88 = .ok (.putfield 66, 3) := by decide +kernel
theorem dX8_letter_91 : decode cX8_letter 91 = .ok (.aload_n 0, 1) := by decide +kernel
theorem dX8_letter_92 : decode cX8_letter 92 = .ok (.getfield 66, 3) := by decide +kernel
theorem dX8_letter_95 : decode cX8_letter 95 = .ok (.iconst 1, 1) := by decide +kernel
theorem dX8_letter_96 : decode cX8_letter 96 = .ok (.isub, 1) := by decide +kernel
theorem dX8_letter_97 : decode cX8_letter 97 = .ok (.ireturn, 1) := by decide +kernel
set_option maxRecDepth 20000 in
theorem ggX8_strip_X8_isLetter : GoodIn wsX8_strip wsX8_isLetter := goodIn_r _ [8, 9, 10, 11, 7, 12, 13, 14, 15, 16, 17, 18, 19, 20, 21, 22, 23, 24, 25, 26, 27, 28, 29, 30, 31, 32, 33, 34, 35, 36, 37, 38, 39, 40] (by decide +kernel) (by decide +kernel)
set_option maxRecDepth 20000 in
theorem gX8_strip_X8_isLetter : GoodIn wsX8_strip (wsV RX8 81 RX8 yX8_isLetter wsX8_isLetter) := goodIn_app (goodIn_of _ (by decide +kernel)) ggX8_strip_X8_isLetter
set_option maxRecDepth 20000 in
theorem ggX8_strip_X8_in : GoodIn wsX8_strip wsX8_in := goodIn_r _ [12] (by decide +kernel) (by decide +kernel)
set_option maxRecDepth 20000 in
theorem gX8_strip_X8_in : GoodIn wsX8_strip (va_wsS RX8 69 yX8_in wsX8_in) := goodIn_app (goodIn_of _ (by decide +kernel)) ggX8_strip_X8_in
theorem dX8_strip_0 : decode cX8_strip 0 = .ok (.aload_n 0, 1) := by decide +kernel
theorem dX8_strip_1 : decode cX8_strip 1 = .ok (.iload_n 1, 1) := by decide +kernel
theorem dX8_strip_2 : decode cX8_strip 2 = .ok (.invokevirtual 81, 3) := by decide +kernel
theorem dX8_strip_5 : decode cX8_strip 5 = .ok (.ifCond .eq 33, 3) := by decide +kernel
theorem dX8_strip_8 : decode cX8_strip 8 = .ok (.iload_n 2, 1) := by decide +kernel
theorem dX8_strip_9 : decode cX8_strip 9 = .ok (.i2l, 1) := by decide +kernel
theorem dX8_strip_10 : decode cX8_strip 10 = .ok (.lconst 0, 1) := by decide +kernel
theorem dX8_strip_11 : decode cX8_strip 11 = .ok (.aload_n 0, 1) := by decide +kernel
theorem dX8_strip_12 : decode cX8_strip 12 = .ok (.getfield 13, 3) := by decide +kernel
theorem dX8_strip_15 : decode cX8_strip 15 = .ok (.iload_n 1, 1) := by decide +kernel
theorem dX8_strip_16 : decode cX8_strip 16 = .ok (.iaload, 1) := by decide +kernel
theorem dX8_strip_17 : decode cX8_strip 17 = .ok (.iconst 1, 1) := by decide +kernel
theorem dX8_strip_18 : decode cX8_strip 18 = .ok (.isub, 1) := by decide +kernel
theorem dX8_strip_19 : decode cX8_strip 19 = .ok (.i2l, 1) := by decide +kernel
theorem dX8_strip_20 : decode cX8_strip 20 = .ok (.invokestatic 69, 3) := by decide +kernel
theorem dX8_strip_23 : decode cX8_strip 23 = .ok (.ifCond .eq 15, 3) := by decide +kernel
theorem dX8_strip_26 : decode cX8_strip 26 = .ok (.iload_n 3, 1) := by decide +kernel
theorem dX8_strip_27 : decode cX8_strip 27 = .ok (.i2l, 1) := by decide +kernel
theorem dX8_strip_28 : decode cX8_strip 28 = .ok (.lconst 0, 1) := by decide +kernel
theorem dX8_strip_29 : decode cX8_strip 29 = .ok (.ldc2_w 85, 3) := by decide +kernel
theorem dX8_strip_32 : decode cX8_strip 32 = .ok (.invokestatic 69, 3) := by decide +kernel
theorem dX8_strip_35 : decode cX8_strip 35 = .ok (.ifCond .ne 6, 3) := by decide +kernel
theorem dX8_strip_38 : decode cX8_strip 38 = .ok (.bipush (-2), 2) := by decide +kernel
theorem dX8_strip_40 : decode cX8_strip 40 = .ok (.ireturn, 1) := by decide +kernel
theorem dX8_strip_41 : decode cX8_strip 41 = .ok (.aload_n 0, 1) := by decide +kernel
theorem dX8_strip_42 : decode cX8_strip 42 = .ok (.getfield 22, 3) := by decide +kernel
theorem dX8_strip_45 : decode cX8_strip 45 = .ok (.iconst 5, 1) := by decide +kernel
theorem dX8_strip_46 : decode cX8_strip 46 = .ok (.iload_n 1, 1) := by decide +kernel
theorem dX8_strip_47 : decode cX8_strip 47 = .ok (.imul, 1) := by decide +kernel
theorem dX8_strip_48 : decode cX8_strip 48 = .ok (.iload_n 2, 1) := by decide +kernel
theorem dX8_strip_49 : decode cX8_strip 49 = .ok (.iadd, 1) := by decide +kernel
theorem dX8_strip_50 : decode cX8_strip 50 = .ok (.iaload, 1) := by decide +kernel
theorem dX8_strip_51 : decode cX8_strip 51 = .ok (.istore 4, 2) := by decide +kernel
theorem dX8_strip_53 : decode cX8_strip 53 = .ok (.aload_n 0, 1) := by decide +kernel
theorem dX8_strip_54 : decode cX8_strip 54 = .ok (.getfield 22, 3) := by decide +kernel
theorem dX8_strip_57 : decode cX8_strip 57 = .ok (.iconst 5, 1) := by decide +kernel
theorem dX8_strip_58 : decode cX8_strip 58 = .ok (.iload_n 1, 1) := by decide +kernel
theorem dX8_strip_59 : decode cX8_strip 59 = .ok (.imul, 1) := by decide +kernel
theorem dX8_strip_60 : decode cX8_strip 60 = .ok (.iload_n 2, 1) := by decide +kernel
theorem dX8_strip_61 : decode cX8_strip 61 = .ok (.iadd, 1) := by decide +kernel
theorem dX8_strip_62 : decode cX8_strip 62 = .ok (.iload_n 3, 1) := by decide +kernel
theorem dX8_strip_63 : decode cX8_strip 63 = .ok (.iastore, 1) := by decide +kernel
theorem dX8_strip_64 : decode cX8_strip 64 = .ok (.iload 4, 2) := by decide +kernel
theorem dX8_strip_66 : decode cX8_strip 66 = .ok (.ireturn, 1) := by decide +kernel
set_option maxRecDepth 20000 in
theorem ggX8_about_X8_isLetter : GoodIn wsX8_about wsX8_isLetter := goodIn_r _ [10, 11, 12, 13, 9, 14, 15, 16, 17, 18, 19, 20, 21, 22, 23, 24, 25, 26, 27, 28, 29, 30, 31, 32, 33, 34, 35, 36, 37, 38, 39, 40, 41, 42] (by decide +kernel) (by decide +kernel)
set_option maxRecDepth 20000 in
theorem gX8_about_X8_isLetter : GoodIn wsX8_about (wsV RX8 81 RX8 yX8_isLetter wsX8_isLetter) := goodIn_app (goodIn_of _ (by decide +kernel)) ggX8_about_X8_isLetter
set_option maxRecDepth 20000 in
theorem ggX8_about_X8_in : GoodIn wsX8_about wsX8_in := goodIn_r _ [14] (by decide +kernel) (by decide +kernel)
set_option maxRecDepth 20000 in
theorem gX8_about_X8_in : GoodIn wsX8_about (va_wsS RX8 69 yX8_in wsX8_in) := goodIn_app (goodIn_of _ (by decide +kernel)) ggX8_about_X8_in
theorem dX8_about_0 : decode cX8_about 0 = .ok (.aload_n 0, 1) := by decide +kernel
theorem dX8_about_1 : decode cX8_about 1 = .ok (.iload_n 1, 1) := by decide +kernel
theorem dX8_about_2 : decode cX8_about 2 = .ok (.invokevirtual 81, 3) := by decide +kernel
theorem dX8_about_5 : decode cX8_about 5 = .ok (.ifCond .ne 6, 3) := by decide +kernel
theorem dX8_about_8 : decode cX8_about 8 = .ok (.bipush (-2), 2) := by decide +kernel
theorem dX8_about_10 : decode cX8_about 10 = .ok (.ireturn, 1) := by decide +kernel
theorem dX8_about_11 : decode cX8_about 11 = .ok (.iload_n 2, 1) := by decide +kernel
theorem dX8_about_12 : decode cX8_about 12 = .ok (.tableswitch 49 0 2 #[28, 35, 42], 28) := by decide +kernel
theorem dX8_about_40 : decode cX8_about 40 = .ok (.aload_n 0, 1) := by decide +kernel
theorem dX8_about_41 : decode cX8_about 41 = .ok (.getfield 13, 3) := by decide +kernel
theorem dX8_about_44 : decode cX8_about 44 = .ok (.iload_n 1, 1) := by decide +kernel
theorem dX8_about_45 : decode cX8_about 45 = .ok (.iaload, 1) := by decide +kernel
theorem dX8_about_46 : decode cX8_about 46 = .ok (.ireturn, 1) := by decide +kernel
theorem dX8_about_47 : decode cX8_about 47 = .ok (.aload_n 0, 1) := by decide +kernel
theorem dX8_about_48 : decode cX8_about 48 = .ok (.getfield 16, 3) := by decide +kernel
theorem dX8_about_51 : decode cX8_about 51 = .ok (.iload_n 1, 1) := by decide +kernel
theorem dX8_about_52 : decode cX8_about 52 = .ok (.iaload, 1) := by decide +kernel
theorem dX8_about_53 : decode cX8_about 53 = .ok (.ireturn, 1) := by decide +kernel
theorem dX8_about_54 : decode cX8_about 54 = .ok (.aload_n 0, 1) := by decide +kernel
theorem dX8_about_55 : decode cX8_about 55 = .ok (.getfield 19, 3) := by decide +kernel
theorem dX8_about_58 : decode cX8_about 58 = .ok (.iload_n 1, 1) := by decide +kernel
theorem dX8_about_59 : decode cX8_about 59 = .ok (.iaload, 1) := by decide +kernel
theorem dX8_about_60 : decode cX8_about 60 = .ok (.ireturn, 1) := by decide +kernel
theorem dX8_about_61 : decode cX8_about 61 = .ok (.iload_n 2, 1) := by decide +kernel
theorem dX8_about_62 : decode cX8_about 62 = .ok (.i2l, 1) := by decide +kernel
theorem dX8_about_63 : decode cX8_about 63 = .ok (.ldc2_w 87, 3) := by decide +kernel
theorem dX8_about_66 : decode cX8_about 66 = .ok (.bipush 9, 2) := by decide +kernel
theorem dX8_about_68 : decode cX8_about 68 = .ok (.aload_n 0, 1) := by decide +kernel
theorem dX8_about_69 : decode cX8_about 69 = .ok (.getfield 13, 3) := by decide +kernel
theorem dX8_about_72 : decode cX8_about 72 = .ok (.iload_n 1, 1) := by decide +kernel
theorem dX8_about_73 : decode cX8_about 73 = .ok (.iaload, 1) := by decide +kernel
theorem dX8_about_74 : decode cX8_about 74 = .ok (.iadd, 1) := by decide +kernel
theorem dX8_about_75 : decode cX8_about 75 = .ok (.i2l, 1) := by decide +kernel
theorem dX8_about_76 : decode cX8_about 76 = .ok (.invokestatic 69, 3) := by decide +kernel
theorem dX8_about_79 : decode cX8_about 79 = .ok (.ifCond .eq 19, 3) := by decide +kernel
theorem dX8_about_82 : decode cX8_about 82 = .ok (.aload_n 0, 1) := by decide +kernel
theorem dX8_about_83 : decode cX8_about 83 = .ok (.getfield 22, 3) := by decide +kernel
theorem dX8_about_86 : decode cX8_about 86 = .ok (.iconst 5, 1) := by decide +kernel
theorem dX8_about_87 : decode cX8_about 87 = .ok (.iload_n 1, 1) := by decide +kernel
theorem dX8_about_88 : decode cX8_about 88 = .ok (.imul, 1) := by decide +kernel
theorem dX8_about_89 : decode cX8_about 89 = .ok (.iload_n 2, 1) := by decide +kernel
theorem dX8_about_90 : decode cX8_about 90 = .ok (.iadd, 1) := by decide +kernel
theorem dX8_about_91 : decode cX8_about 91 = .ok (.bipush 10, 2) := by decide +kernel
theorem dX8_about_93 : decode cX8_about 93 = .ok (.isub, 1) := by decide +kernel
theorem dX8_about_94 : decode cX8_about 94 = .ok (.iaload, 1) := by decide +kernel
theorem dX8_about_95 : decode cX8_about 95 = .ok (.goto 5, 3) := by decide +kernel
theorem dX8_about_98 : decode cX8_about 98 = .ok (.bipush (-2), 2) := by decide +kernel
theorem dX8_about_100 : decode cX8_about 100 = .ok (.ireturn, 1) := by decide +kernel
set_option maxRecDepth 20000 in
theorem ggX8_spell_X8_isWord : GoodIn wsX8_spell wsX8_isWord := goodIn_r _ [6, 7, 8, 9, 5, 10] (by decide +kernel) (by decide +kernel)
set_option maxRecDepth 20000 in
theorem gX8_spell_X8_isWord : GoodIn wsX8_spell (va_wsS RX8 89 yX8_isWord wsX8_isWord) := goodIn_app (goodIn_of _ (by decide +kernel)) ggX8_spell_X8_isWord
set_option maxRecDepth 20000 in
theorem ggX8_spell_X8_isLetter : GoodIn wsX8_spell wsX8_isLetter := goodIn_r _ [14, 15, 8, 9, 5, 10, 16, 17, 18, 19, 20, 21, 22, 23, 24, 25, 26, 27, 28, 29, 30, 31, 32, 33, 34, 35, 36, 37, 38, 39, 40, 41, 42, 43] (by decide +kernel) (by decide +kernel)
set_option maxRecDepth 20000 in
theorem gX8_spell_X8_isLetter : GoodIn wsX8_spell (wsV RX8 81 RX8 yX8_isLetter wsX8_isLetter) := goodIn_app (goodIn_of _ (by decide +kernel)) ggX8_spell_X8_isLetter
theorem dX8_spell_0 : decode cX8_spell 0 = .ok (.iload_n 1, 1) := by decide +kernel
theorem dX8_spell_1 : decode cX8_spell 1 = .ok (.invokestatic 89, 3) := by decide +kernel
theorem dX8_spell_4 : decode cX8_spell 4 = .ok (.ifCond .eq 11, 3) := by decide +kernel
theorem dX8_spell_7 : decode cX8_spell 7 = .ok (.aload_n 0, 1) := by decide +kernel
theorem dX8_spell_8 : decode cX8_spell 8 = .ok (.iload_n 2, 1) := by decide +kernel
theorem dX8_spell_9 : decode cX8_spell 9 = .ok (.invokevirtual 81, 3) := by decide +kernel
theorem dX8_spell_12 : decode cX8_spell 12 = .ok (.ifCond .ne 6, 3) := by decide +kernel
theorem dX8_spell_15 : decode cX8_spell 15 = .ok (.bipush (-2), 2) := by decide +kernel
theorem dX8_spell_17 : decode cX8_spell 17 = .ok (.ireturn, 1) := by decide +kernel
theorem dX8_spell_18 : decode cX8_spell 18 = .ok (.aload_n 0, 1) := by decide +kernel
theorem dX8_spell_19 : decode cX8_spell 19 = .ok (.getfield 25, 3) := by decide +kernel
theorem dX8_spell_22 : decode cX8_spell 22 = .ok (.iload_n 1, 1) := by decide +kernel
theorem dX8_spell_23 : decode cX8_spell 23 = .ok (.iaload, 1) := by decide +kernel
theorem dX8_spell_24 : decode cX8_spell 24 = .ok (.bipush 10, 2) := by decide +kernel
theorem dX8_spell_26 : decode cX8_spell 26 = .ok (.if_icmp .ne 6, 3) := by decide +kernel
theorem dX8_spell_29 : decode cX8_spell 29 = .ok (.bipush (-4), 2) := by decide +kernel
theorem dX8_spell_31 : decode cX8_spell 31 = .ok (.ireturn, 1) := by decide +kernel
theorem dX8_spell_32 : decode cX8_spell 32 = .ok (.aload_n 0, 1) := by decide +kernel
theorem dX8_spell_33 : decode cX8_spell 33 = .ok (.getfield 28, 3) := by decide +kernel
theorem dX8_spell_36 : decode cX8_spell 36 = .ok (.bipush 10, 2) := by decide +kernel
theorem dX8_spell_38 : decode cX8_spell 38 = .ok (.iload_n 1, 1) := by decide +kernel
theorem dX8_spell_39 : decode cX8_spell 39 = .ok (.imul, 1) := by decide +kernel
theorem dX8_spell_40 : decode cX8_spell 40 = .ok (.aload_n 0, 1) := by decide +kernel
theorem dX8_spell_41 : decode cX8_spell 41 = .ok (.getfield 25, 3) := by decide +kernel
theorem dX8_spell_44 : decode cX8_spell 44 = .ok (.iload_n 1, 1) := by decide +kernel
theorem dX8_spell_45 : decode cX8_spell 45 = .ok (.iaload, 1) := by decide +kernel
theorem dX8_spell_46 : decode cX8_spell 46 = .ok (.iadd, 1) := by decide +kernel
theorem dX8_spell_47 : decode cX8_spell 47 = .ok (.iload_n 2, 1) := by decide +kernel
theorem dX8_spell_48 : decode cX8_spell 48 = .ok (.iastore, 1) := by decide +kernel
theorem dX8_spell_49 : decode cX8_spell 49 = .ok (.aload_n 0, 1) := by decide +kernel
theorem dX8_spell_50 : decode cX8_spell 50 = .ok (.getfield 25, 3) := by decide +kernel
theorem dX8_spell_53 : decode cX8_spell 53 = .ok (.iload_n 1, 1) := by decide +kernel
theorem dX8_spell_54 : decode cX8_spell 54 = .ok (.dup2, 1) := by decide +kernel
theorem dX8_spell_55 : decode cX8_spell 55 = .ok (.iaload, 1) := by decide +kernel
theorem dX8_spell_56 : decode cX8_spell 56 = .ok (.iconst 1, 1) := by decide +kernel
theorem dX8_spell_57 : decode cX8_spell 57 = .ok (.iadd, 1) := by decide +kernel
theorem dX8_spell_58 : decode cX8_spell 58 = .ok (.iastore, 1) := by decide +kernel
theorem dX8_spell_59 : decode cX8_spell 59 = .ok (.aload_n 0, 1) := by decide +kernel
theorem dX8_spell_60 : decode cX8_spell 60 = .ok (.getfield 25, 3) := by decide +kernel
theorem dX8_spell_63 : decode cX8_spell 63 = .ok (.iload_n 1, 1) := by decide +kernel
theorem dX8_spell_64 : decode cX8_spell 64 = .ok (.iaload, 1) := by decide +kernel
theorem dX8_spell_65 : decode cX8_spell 65 = .ok (.ireturn, 1) := by decide +kernel
set_option maxRecDepth 20000 in
theorem ggX8_wipe_X8_isWord : GoodIn wsX8_wipe wsX8_isWord := goodIn_r _ [5, 6, 7, 8, 4, 9] (by decide +kernel) (by decide +kernel)
set_option maxRecDepth 20000 in
theorem gX8_wipe_X8_isWord : GoodIn wsX8_wipe (va_wsS RX8 89 yX8_isWord wsX8_isWord) := goodIn_app (goodIn_of _ (by decide +kernel)) ggX8_wipe_X8_isWord
theorem dX8_wipe_0 : decode cX8_wipe 0 = .ok (.iload_n 1, 1) := by decide +kernel
theorem dX8_wipe_1 : decode cX8_wipe 1 = .ok (.invokestatic 89, 3) := by decide +kernel
theorem dX8_wipe_4 : decode cX8_wipe 4 = .ok (.ifCond .ne 6, 3) := by decide +kernel
theorem dX8_wipe_7 : decode cX8_wipe 7 = .ok (.bipush (-2), 2) := by decide +kernel
theorem dX8_wipe_9 : decode cX8_wipe 9 = .ok (.ireturn, 1) := by decide +kernel
theorem dX8_wipe_10 : decode cX8_wipe 10 = .ok (.aload_n 0, 1) := by decide +kernel
theorem dX8_wipe_11 : decode cX8_wipe 11 = .ok (.getfield 25, 3) := by decide +kernel
theorem dX8_wipe_14 : decode cX8_wipe 14 = .ok (.iload_n 1, 1) := by decide +kernel
theorem dX8_wipe_15 : decode cX8_wipe 15 = .ok (.iaload, 1) := by decide +kernel
theorem dX8_wipe_16 : decode cX8_wipe 16 = .ok (.istore_n 2, 1) := by decide +kernel
theorem dX8_wipe_17 : decode cX8_wipe 17 = .ok (.aload_n 0, 1) := by decide +kernel
theorem dX8_wipe_18 : decode cX8_wipe 18 = .ok (.getfield 25, 3) := by decide +kernel
theorem dX8_wipe_21 : decode cX8_wipe 21 = .ok (.iload_n 1, 1) := by decide +kernel
theorem dX8_wipe_22 : decode cX8_wipe 22 = .ok (.iconst 0, 1) := by decide +kernel
theorem dX8_wipe_23 : decode cX8_wipe 23 = .ok (.iastore, 1) := by decide +kernel
theorem dX8_wipe_24 : decode cX8_wipe 24 = .ok (.iload_n 2, 1) := by decide +kernel
theorem dX8_wipe_25 : decode cX8_wipe 25 = .ok (.ireturn, 1) := by decide +kernel
set_option maxRecDepth 20000 in
theorem ggX8_slots_X8_in : GoodIn wsX8_slots wsX8_in := goodIn_r _ [7] (by decide +kernel) (by decide +kernel)
set_option maxRecDepth 20000 in
theorem gX8_slots_X8_in : GoodIn wsX8_slots (va_wsS RX8 69 yX8_in wsX8_in) := goodIn_app (goodIn_of _ (by decide +kernel)) ggX8_slots_X8_in
theorem dX8_slots_0 : decode cX8_slots 0 = .ok (.iload_n 1, 1) := by decide +kernel
theorem dX8_slots_1 : decode cX8_slots 1 = .ok (.i2l, 1) := by decide +kernel
theorem dX8_slots_2 : decode cX8_slots 2 = .ok (.ldc2_w 75, 3) := by decide +kernel
theorem dX8_slots_5 : decode cX8_slots 5 = .ok (.ldc2_w 92, 3) := by decide +kernel
theorem dX8_slots_8 : decode cX8_slots 8 = .ok (.invokestatic 69, 3) := by decide +kernel
theorem dX8_slots_11 : decode cX8_slots 11 = .ok (.ifCond .ne 6, 3) := by decide +kernel
theorem dX8_slots_14 : decode cX8_slots 14 = .ok (.bipush (-2), 2) := by decide +kernel
theorem dX8_slots_16 : decode cX8_slots 16 = .ok (.ireturn, 1) := by decide +kernel
theorem dX8_slots_17 : decode cX8_slots 17 = .ok (.aload_n 0, 1) := by decide +kernel
theorem dX8_slots_18 : decode cX8_slots 18 = .ok (.getfield 31, 3) := by decide +kernel
theorem dX8_slots_21 : decode cX8_slots 21 = .ok (.istore_n 2, 1) := by decide +kernel
theorem dX8_slots_22 : decode cX8_slots 22 = .ok (.aload_n 0, 1) := by decide +kernel
theorem dX8_slots_23 : decode cX8_slots 23 = .ok (.iload_n 1, 1) := by decide +kernel
theorem dX8_slots_24 : decode cX8_slots 24 = .ok (.putfield 31, 3) := by decide +kernel
theorem dX8_slots_27 : decode cX8_slots 27 = .ok (.iload_n 2, 1) := by decide +kernel
theorem dX8_slots_28 : decode cX8_slots 28 = .ok (.ireturn, 1) := by decide +kernel
set_option maxRecDepth 20000 in
theorem ggX8_gap_X8_in : GoodIn wsX8_gap wsX8_in := goodIn_r _ [6] (by decide +kernel) (by decide +kernel)
set_option maxRecDepth 20000 in
theorem gX8_gap_X8_in : GoodIn wsX8_gap (va_wsS RX8 69 yX8_in wsX8_in) := goodIn_app (goodIn_of _ (by decide +kernel)) ggX8_gap_X8_in
theorem dX8_gap_0 : decode cX8_gap 0 = .ok (.iload_n 1, 1) := by decide +kernel
theorem dX8_gap_1 : decode cX8_gap 1 = .ok (.i2l, 1) := by decide +kernel
theorem dX8_gap_2 : decode cX8_gap 2 = .ok (.lconst 0, 1) := by decide +kernel
theorem dX8_gap_3 : decode cX8_gap 3 = .ok (.ldc2_w 94, 3) := by decide +kernel
theorem dX8_gap_6 : decode cX8_gap 6 = .ok (.invokestatic 69, 3) := by decide +kernel
theorem dX8_gap_9 : decode cX8_gap 9 = .ok (.ifCond .ne 6, 3) := by decide +kernel
theorem dX8_gap_12 : decode cX8_gap 12 = .ok (.bipush (-2), 2) := by decide +kernel
theorem dX8_gap_14 : decode cX8_gap 14 = .ok (.ireturn, 1) := by decide +kernel
theorem dX8_gap_15 : decode cX8_gap 15 = .ok (.aload_n 0, 1) := by decide +kernel
theorem dX8_gap_16 : decode cX8_gap 16 = .ok (.getfield 35, 3) := by decide +kernel
theorem dX8_gap_19 : decode cX8_gap 19 = .ok (.istore_n 2, 1) := by decide +kernel
theorem dX8_gap_20 : decode cX8_gap 20 = .ok (.aload_n 0, 1) := by decide +kernel
theorem dX8_gap_21 : decode cX8_gap 21 = .ok (.iload_n 1, 1) := by decide +kernel
theorem dX8_gap_22 : decode cX8_gap 22 = .ok (.putfield 35, 3) := by decide +kernel
theorem dX8_gap_25 : decode cX8_gap 25 = .ok (.iload_n 2, 1) := by decide +kernel
theorem dX8_gap_26 : decode cX8_gap 26 = .ok (.ireturn, 1) := by decide +kernel
theorem dX8_wideOf_0 : decode cX8_wideOf 0 = .ok (.iconst 0, 1) := by decide +kernel
theorem dX8_wideOf_1 : decode cX8_wideOf 1 = .ok (.istore_n 2, 1) := by decide +kernel
theorem dX8_wideOf_2 : decode cX8_wideOf 2 = .ok (.iconst 0, 1) := by decide +kernel
theorem dX8_wideOf_3 : decode cX8_wideOf 3 = .ok (.istore_n 3, 1) := by decide +kernel
theorem dX8_wideOf_4 : decode cX8_wideOf 4 = .ok (.iload_n 3, 1) := by decide +kernel
theorem dX8_wideOf_5 : decode cX8_wideOf 5 = .ok (.aload_n 0, 1) := by decide +kernel
theorem dX8_wideOf_6 : decode cX8_wideOf 6 = .ok (.getfield 25, 3) := by decide +kernel
theorem dX8_wideOf_9 : decode cX8_wideOf 9 = .ok (.iload_n 1, 1) := by decide +kernel
theorem dX8_wideOf_10 : decode cX8_wideOf 10 = .ok (.iaload, 1) := by decide +kernel
theorem dX8_wideOf_11 : decode cX8_wideOf 11 = .ok (.if_icmp .ge 33, 3) := by decide +kernel
theorem dX8_wideOf_14 : decode cX8_wideOf 14 = .ok (.iload_n 2, 1) := by decide +kernel
theorem dX8_wideOf_15 : decode cX8_wideOf 15 = .ok (.aload_n 0, 1) := by decide +kernel
theorem dX8_wideOf_16 : decode cX8_wideOf 16 = .ok (.getfield 13, 3) := by decide +kernel
theorem dX8_wideOf_19 : decode cX8_wideOf 19 = .ok (.aload_n 0, 1) := by decide +kernel
theorem dX8_wideOf_20 : decode cX8_wideOf 20 = .ok (.getfield 28, 3) := by decide +kernel
theorem dX8_wideOf_23 : decode cX8_wideOf 23 = .ok (.bipush 10, 2) := by decide +kernel
theorem dX8_wideOf_25 : decode cX8_wideOf 25 = .ok (.iload_n 1, 1) := by decide +kernel
theorem dX8_wideOf_26 : decode cX8_wideOf 26 = .ok (.imul, 1) := by decide +kernel
theorem dX8_wideOf_27 : decode cX8_wideOf 27 = .ok (.iload_n 3, 1) := by decide +kernel
theorem dX8_wideOf_28 : decode cX8_wideOf 28 = .ok (.iadd, 1) := by decide +kernel
theorem dX8_wideOf_29 : decode cX8_wideOf 29 = .ok (.iaload, 1) := by decide +kernel
theorem dX8_wideOf_30 : decode cX8_wideOf 30 = .ok (.iaload, 1) := by decide +kernel
theorem dX8_wideOf_31 : decode cX8_wideOf 31 = .ok (.aload_n 0, 1) := by decide +kernel
theorem dX8_wideOf_32 : decode cX8_wideOf 32 = .ok (.getfield 35, 3) := by decide +kernel
theorem dX8_wideOf_35 : decode cX8_wideOf 35 = .ok (.iadd, 1) := by decide +kernel
theorem dX8_wideOf_36 : decode cX8_wideOf 36 = .ok (.iadd, 1) := by decide +kernel
theorem dX8_wideOf_37 : decode cX8_wideOf 37 = .ok (.istore_n 2, 1) := by decide +kernel
theorem dX8_wideOf_38 : decode cX8_wideOf 38 = .ok (.iinc 3 1, 3) := by decide +kernel
theorem dX8_wideOf_41 : decode cX8_wideOf 41 = .ok (.goto (-37), 3) := by decide +kernel
theorem dX8_wideOf_44 : decode cX8_wideOf 44 = .ok (.iload_n 2, 1) := by decide +kernel
theorem dX8_wideOf_45 : decode cX8_wideOf 45 = .ok (.ireturn, 1) := by decide +kernel
set_option maxRecDepth 20000 in
theorem ggX8_fits_X8_wideOf : GoodIn wsX8_fits wsX8_wideOf := goodIn_r _ [7, 1, 8, 9, 10, 11, 12, 13, 14, 15, 16, 17, 18, 19, 20, 21, 22, 23, 24, 25, 26, 27, 28, 29, 30, 31, 32, 33, 34, 35, 36, 37, 38] (by decide +kernel) (by decide +kernel)
set_option maxRecDepth 20000 in
theorem gX8_fits_X8_wideOf : GoodIn wsX8_fits (wsV RX8 96 RX8 yX8_wideOf wsX8_wideOf) := goodIn_app (goodIn_of _ (by decide +kernel)) ggX8_fits_X8_wideOf
theorem dX8_fits_0 : decode cX8_fits 0 = .ok (.aload_n 0, 1) := by decide +kernel
theorem dX8_fits_1 : decode cX8_fits 1 = .ok (.getfield 25, 3) := by decide +kernel
theorem dX8_fits_4 : decode cX8_fits 4 = .ok (.iload_n 1, 1) := by decide +kernel
theorem dX8_fits_5 : decode cX8_fits 5 = .ok (.iaload, 1) := by decide +kernel
theorem dX8_fits_6 : decode cX8_fits 6 = .ok (.ifCond .le 19, 3) := by decide +kernel
theorem dX8_fits_9 : decode cX8_fits 9 = .ok (.aload_n 0, 1) := by decide +kernel
theorem dX8_fits_10 : decode cX8_fits 10 = .ok (.iload_n 1, 1) := by decide +kernel
theorem dX8_fits_11 : decode cX8_fits 11 = .ok (.invokevirtual 96, 3) := by decide +kernel
theorem dX8_fits_14 : decode cX8_fits 14 = .ok (.aload_n 0, 1) := by decide +kernel
theorem dX8_fits_15 : decode cX8_fits 15 = .ok (.getfield 31, 3) := by decide +kernel
theorem dX8_fits_18 : decode cX8_fits 18 = .ok (.if_icmp .gt 7, 3) := by decide +kernel
theorem dX8_fits_21 : decode cX8_fits 21 = .ok (.iconst 1, 1) := by decide +kernel
theorem dX8_fits_22 : decode cX8_fits 22 = .ok (.goto 4, 3) := by decide +kernel
theorem dX8_fits_25 : decode cX8_fits 25 = .ok (.iconst 0, 1) := by decide +kernel
theorem dX8_fits_26 : decode cX8_fits 26 = .ok (.ireturn, 1) := by decide +kernel
set_option maxRecDepth 20000 in
theorem ggX8_wide_X8_isWord : GoodIn wsX8_wide wsX8_isWord := goodIn_r _ [4, 5, 6, 7, 3, 8] (by decide +kernel) (by decide +kernel)
set_option maxRecDepth 20000 in
theorem gX8_wide_X8_isWord : GoodIn wsX8_wide (va_wsS RX8 89 yX8_isWord wsX8_isWord) := goodIn_app (goodIn_of _ (by decide +kernel)) ggX8_wide_X8_isWord
set_option maxRecDepth 20000 in
theorem ggX8_wide_X8_wideOf : GoodIn wsX8_wide wsX8_wideOf := goodIn_r _ [12, 13, 14, 15, 16, 17, 18, 19, 20, 21, 22, 23, 24, 25, 26, 27, 28, 29, 30, 31, 32, 33, 34, 35, 36, 37, 38, 39, 40, 41, 42, 43, 44] (by decide +kernel) (by decide +kernel)
set_option maxRecDepth 20000 in
theorem gX8_wide_X8_wideOf : GoodIn wsX8_wide (wsV RX8 96 RX8 yX8_wideOf wsX8_wideOf) := goodIn_app (goodIn_of _ (by decide +kernel)) ggX8_wide_X8_wideOf
theorem dX8_wide_0 : decode cX8_wide 0 = .ok (.iload_n 1, 1) := by decide +kernel
theorem dX8_wide_1 : decode cX8_wide 1 = .ok (.invokestatic 89, 3) := by decide +kernel
theorem dX8_wide_4 : decode cX8_wide 4 = .ok (.ifCond .eq 11, 3) := by decide +kernel
theorem dX8_wide_7 : decode cX8_wide 7 = .ok (.aload_n 0, 1) := by decide +kernel
theorem dX8_wide_8 : decode cX8_wide 8 = .ok (.iload_n 1, 1) := by decide +kernel
theorem dX8_wide_9 : decode cX8_wide 9 = .ok (.invokevirtual 96, 3) := by decide +kernel
theorem dX8_wide_12 : decode cX8_wide 12 = .ok (.goto 5, 3) := by decide +kernel
theorem dX8_wide_15 : decode cX8_wide 15 = .ok (.bipush (-2), 2) := by decide +kernel
theorem dX8_wide_17 : decode cX8_wide 17 = .ok (.ireturn, 1) := by decide +kernel
set_option maxRecDepth 20000 in
theorem ggX8_longest_X8_fits : GoodIn wsX8_longest wsX8_fits := goodIn_r _ [6, 1, 7, 8, 9, 10, 5, 11, 12, 13, 14, 15, 16, 17, 18, 19, 20, 21, 22, 23, 24, 25, 26, 27, 28, 29, 30, 31, 32, 33, 34, 35, 36, 37, 38, 39, 40, 41, 42] (by decide +kernel) (by decide +kernel)
set_option maxRecDepth 20000 in
theorem gX8_longest_X8_fits : GoodIn wsX8_longest (wsV RX8 100 RX8 yX8_fits wsX8_fits) := goodIn_app (goodIn_of _ (by decide +kernel)) ggX8_longest_X8_fits
set_option maxRecDepth 20000 in
theorem ggX8_longest_X8_wideOf : GoodIn wsX8_longest wsX8_wideOf := goodIn_r _ [11, 1, 12, 13, 14, 15, 16, 17, 18, 19, 20, 21, 22, 23, 24, 25, 26, 27, 28, 29, 30, 31, 32, 33, 34, 35, 36, 37, 38, 39, 40, 41, 42] (by decide +kernel) (by decide +kernel)
set_option maxRecDepth 20000 in
theorem gX8_longest_X8_wideOf : GoodIn wsX8_longest (wsV RX8 96 RX8 yX8_wideOf wsX8_wideOf) := goodIn_app (goodIn_of _ (by decide +kernel)) ggX8_longest_X8_wideOf
theorem dX8_longest_0 : decode cX8_longest 0 = .ok (.iconst (-1), 1) := by decide +kernel
theorem dX8_longest_1 : decode cX8_longest 1 = .ok (.istore_n 1, 1) := by decide +kernel
theorem dX8_longest_2 : decode cX8_longest 2 = .ok (.iconst 0, 1) := by decide +kernel
theorem dX8_longest_3 : decode cX8_longest 3 = .ok (.istore_n 2, 1) := by decide +kernel
theorem dX8_longest_4 : decode cX8_longest 4 = .ok (.iload_n 2, 1) := by decide +kernel
theorem dX8_longest_5 : decode cX8_longest 5 = .ok (.bipush 8, 2) := by decide +kernel
theorem dX8_longest_7 : decode cX8_longest 7 = .ok (.if_icmp .ge 67, 3) := by decide +kernel
theorem dX8_longest_10 : decode cX8_longest 10 = .ok (.aload_n 0, 1) := by decide +kernel
theorem dX8_longest_11 : decode cX8_longest 11 = .ok (.iload_n 2, 1) := by decide +kernel
theorem dX8_longest_12 : decode cX8_longest 12 = .ok (.invokevirtual 100, 3) := by decide +kernel
theorem dX8_longest_15 : decode cX8_longest 15 = .ok (.ifCond .eq 53, 3) := by decide +kernel
theorem dX8_longest_18 : decode cX8_longest 18 = .ok (.iload_n 1, 1) := by decide +kernel
theorem dX8_longest_19 : decode cX8_longest 19 = .ok (.iconst (-1), 1) := by decide +kernel
theorem dX8_longest_20 : decode cX8_longest 20 = .ok (.if_icmp .eq 46, 3) := by decide +kernel
theorem dX8_longest_23 : decode cX8_longest 23 = .ok (.aload_n 0, 1) := by decide +kernel
theorem dX8_longest_24 : decode cX8_longest 24 = .ok (.getfield 25, 3) := by decide +kernel
theorem dX8_longest_27 : decode cX8_longest 27 = .ok (.iload_n 2, 1) := by decide +kernel
theorem dX8_longest_28 : decode cX8_longest 28 = .ok (.iaload, 1) := by decide +kernel
theorem dX8_longest_29 : decode cX8_longest 29 = .ok (.aload_n 0, 1) := by decide +kernel
theorem dX8_longest_30 : decode cX8_longest 30 = .ok (.getfield 25, 3) := by decide +kernel
theorem dX8_longest_33 : decode cX8_longest 33 = .ok (.iload_n 1, 1) := by decide +kernel
theorem dX8_longest_34 : decode cX8_longest 34 = .ok (.iaload, 1) := by decide +kernel
theorem dX8_longest_35 : decode cX8_longest 35 = .ok (.if_icmp .gt 31, 3) := by decide +kernel
theorem dX8_longest_38 : decode cX8_longest 38 = .ok (.aload_n 0, 1) := by decide +kernel
theorem dX8_longest_39 : decode cX8_longest 39 = .ok (.getfield 25, 3) := by decide +kernel
theorem dX8_longest_42 : decode cX8_longest 42 = .ok (.iload_n 2, 1) := by decide +kernel
theorem dX8_longest_43 : decode cX8_longest 43 = .ok (.iaload, 1) := by decide +kernel
theorem dX8_longest_44 : decode cX8_longest 44 = .ok (.aload_n 0, 1) := by decide +kernel
theorem dX8_longest_45 : decode cX8_longest 45 = .ok (.getfield 25, 3) := by decide +kernel
theorem dX8_longest_48 : decode cX8_longest 48 = .ok (.iload_n 1, 1) := by decide +kernel
theorem dX8_longest_49 : decode cX8_longest 49 = .ok (.iaload, 1) := by decide +kernel
theorem dX8_longest_50 : decode cX8_longest 50 = .ok (.if_icmp .ne 18, 3) := by decide +kernel
theorem dX8_longest_53 : decode cX8_longest 53 = .ok (.aload_n 0, 1) := by decide +kernel
theorem dX8_longest_54 : decode cX8_longest 54 = .ok (.iload_n 2, 1) := by decide +kernel
theorem dX8_longest_55 : decode cX8_longest 55 = .ok (.invokevirtual 96, 3) := by decide +kernel
theorem dX8_longest_58 : decode cX8_longest 58 = .ok (.aload_n 0, 1) := by decide +kernel
theorem dX8_longest_59 : decode cX8_longest 59 = .ok (.iload_n 1, 1) := by decide +kernel
theorem dX8_longest_60 : decode cX8_longest 60 = .ok (.invokevirtual 96, 3) := by decide +kernel
theorem dX8_longest_63 : decode cX8_longest 63 = .ok (.if_icmp .le 5, 3) := by decide +kernel
theorem dX8_longest_66 : decode cX8_longest 66 = .ok (.iload_n 2, 1) := by decide +kernel
theorem dX8_longest_67 : decode cX8_longest 67 = .ok (.istore_n 1, 1) := by decide +kernel
theorem dX8_longest_68 : decode cX8_longest 68 = .ok (.iinc 2 1, 3) := by decide +kernel
theorem dX8_longest_71 : decode cX8_longest 71 = .ok (.goto (-67), 3) := by decide +kernel
theorem dX8_longest_74 : decode cX8_longest 74 = .ok (.iload_n 1, 1) := by decide +kernel
theorem dX8_longest_75 : decode cX8_longest 75 = .ok (.ireturn, 1) := by decide +kernel
theorem dX8_lay_0 : decode cX8_lay 0 = .ok (.iconst 0, 1) := by decide +kernel
theorem dX8_lay_1 : decode cX8_lay 1 = .ok (.istore_n 2, 1) := by decide +kernel
theorem dX8_lay_2 : decode cX8_lay 2 = .ok (.iload_n 2, 1) := by decide +kernel
theorem dX8_lay_3 : decode cX8_lay 3 = .ok (.bipush 60, 2) := by decide +kernel
theorem dX8_lay_5 : decode cX8_lay 5 = .ok (.if_icmp .ge 16, 3) := by decide +kernel
theorem dX8_lay_8 : decode cX8_lay 8 = .ok (.aload_n 0, 1) := by decide +kernel
theorem dX8_lay_9 : decode cX8_lay 9 = .ok (.getfield 38, 3) := by decide +kernel
theorem dX8_lay_12 : decode cX8_lay 12 = .ok (.iload_n 2, 1) := by decide +kernel
theorem dX8_lay_13 : decode cX8_lay 13 = .ok (.iconst 0, 1) := by decide +kernel
theorem dX8_lay_14 : decode cX8_lay 14 = .ok (.iastore, 1) := by decide +kernel
theorem dX8_lay_15 : decode cX8_lay 15 = .ok (.iinc 2 1, 3) := by decide +kernel
theorem dX8_lay_18 : decode cX8_lay 18 = .ok (.goto (-16), 3) := by decide +kernel
theorem dX8_lay_21 : decode cX8_lay 21 = .ok (.iconst 0, 1) := by decide +kernel
theorem dX8_lay_22 : decode cX8_lay 22 = .ok (.istore_n 2, 1) := by decide +kernel
theorem dX8_lay_23 : decode cX8_lay 23 = .ok (.iconst 0, 1) := by decide +kernel
theorem dX8_lay_24 : decode cX8_lay 24 = .ok (.istore_n 3, 1) := by decide +kernel
theorem dX8_lay_25 : decode cX8_lay 25 = .ok (.iload_n 3, 1) := by decide +kernel
theorem dX8_lay_26 : decode cX8_lay 26 = .ok (.aload_n 0, 1) := by decide +kernel
theorem dX8_lay_27 : decode cX8_lay 27 = .ok (.getfield 25, 3) := by decide +kernel
theorem dX8_lay_30 : decode cX8_lay 30 = .ok (.iload_n 1, 1) := by decide +kernel
theorem dX8_lay_31 : decode cX8_lay 31 = .ok (.iaload, 1) := by decide +kernel
theorem dX8_lay_32 : decode cX8_lay 32 = .ok (.if_icmp .ge 79, 3) := by decide +kernel
theorem dX8_lay_35 : decode cX8_lay 35 = .ok (.aload_n 0, 1) := by decide +kernel
theorem dX8_lay_36 : decode cX8_lay 36 = .ok (.getfield 28, 3) := by decide +kernel
theorem dX8_lay_39 : decode cX8_lay 39 = .ok (.bipush 10, 2) := by decide +kernel
theorem dX8_lay_41 : decode cX8_lay 41 = .ok (.iload_n 1, 1) := by decide +kernel
theorem dX8_lay_42 : decode cX8_lay 42 = .ok (.imul, 1) := by decide +kernel
theorem dX8_lay_43 : decode cX8_lay 43 = .ok (.iload_n 3, 1) := by decide +kernel
theorem dX8_lay_44 : decode cX8_lay 44 = .ok (.iadd, 1) := by decide +kernel
theorem dX8_lay_45 : decode cX8_lay 45 = .ok (.iaload, 1) := by decide +kernel
theorem dX8_lay_46 : decode cX8_lay 46 = .ok (.istore 4, 2) := by decide +kernel
theorem dX8_lay_48 : decode cX8_lay 48 = .ok (.iconst 0, 1) := by decide +kernel
theorem dX8_lay_49 : decode cX8_lay 49 = .ok (.istore 5, 2) := by decide +kernel
theorem dX8_lay_51 : decode cX8_lay 51 = .ok (.iload 5, 2) := by decide +kernel
theorem dX8_lay_53 : decode cX8_lay 53 = .ok (.aload_n 0, 1) := by decide +kernel
theorem dX8_lay_54 : decode cX8_lay 54 = .ok (.getfield 13, 3) := by decide +kernel
theorem dX8_lay_57 : decode cX8_lay 57 = .ok (.iload 4, 2) := by decide +kernel
theorem dX8_lay_59 : decode cX8_lay 59 = .ok (.iaload, 1) := by decide +kernel
theorem dX8_lay_60 : decode cX8_lay 60 = .ok (.if_icmp .ge 30, 3) := by decide +kernel
theorem dX8_lay_63 : decode cX8_lay 63 = .ok (.aload_n 0, 1) := by decide +kernel
theorem dX8_lay_64 : decode cX8_lay 64 = .ok (.getfield 38, 3) := by decide +kernel
theorem dX8_lay_67 : decode cX8_lay 67 = .ok (.iload_n 2, 1) := by decide +kernel
theorem dX8_lay_68 : decode cX8_lay 68 = .ok (.iload 5, 2) := by decide +kernel
theorem dX8_lay_70 : decode cX8_lay 70 = .ok (.iadd, 1) := by decide +kernel
theorem dX8_lay_71 : decode cX8_lay 71 = .ok (.aload_n 0, 1) := by decide +kernel
theorem dX8_lay_72 : decode cX8_lay 72 = .ok (.getfield 22, 3) := by decide +kernel
theorem dX8_lay_75 : decode cX8_lay 75 = .ok (.iconst 5, 1) := by decide +kernel
theorem dX8_lay_76 : decode cX8_lay 76 = .ok (.iload 4, 2) := by decide +kernel
theorem dX8_lay_78 : decode cX8_lay 78 = .ok (.imul, 1) := by decide +kernel
theorem dX8_lay_79 : decode cX8_lay 79 = .ok (.iload 5, 2) := by decide +kernel
theorem dX8_lay_81 : decode cX8_lay 81 = .ok (.iadd, 1) := by decide +kernel
theorem dX8_lay_82 : decode cX8_lay 82 = .ok (.iaload, 1) := by decide +kernel
theorem dX8_lay_83 : decode cX8_lay 83 = .ok (.iastore, 1) := by decide +kernel
theorem dX8_lay_84 : decode cX8_lay 84 = .ok (.iinc 5 1, 3) := by decide +kernel
theorem dX8_lay_87 : decode cX8_lay 87 = .ok (.goto (-36), 3) := by decide +kernel
theorem dX8_lay_90 : decode cX8_lay 90 = .ok (.iload_n 2, 1) := by decide +kernel
theorem dX8_lay_91 : decode cX8_lay 91 = .ok (.aload_n 0, 1) := by decide +kernel
theorem dX8_lay_92 : decode cX8_lay 92 = .ok (.getfield 13, 3) := by decide +kernel
theorem dX8_lay_95 : decode cX8_lay 95 = .ok (.iload 4, 2) := by decide +kernel
theorem dX8_lay_97 : decode cX8_lay 97 = .ok (.iaload, 1) := by decide +kernel
theorem dX8_lay_98 : decode cX8_lay 98 = .ok (.aload_n 0, 1) := by decide +kernel
theorem dX8_lay_99 : decode cX8_lay 99 = .ok (.getfield 35, 3) := by decide +kernel
theorem dX8_lay_102 : decode cX8_lay 102 = .ok (.iadd, 1) := by decide +kernel
theorem dX8_lay_103 : decode cX8_lay 103 = .ok (.iadd, 1) := by decide +kernel
theorem dX8_lay_104 : decode cX8_lay 104 = .ok (.istore_n 2, 1) := by decide +kernel
theorem dX8_lay_105 : decode cX8_lay 105 = .ok (.iinc 3 1, 3) := by decide +kernel
theorem dX8_lay_108 : decode cX8_lay 108 = .ok (.goto (-83), 3) := by decide +kernel
theorem dX8_lay_111 : decode cX8_lay 111 = .ok (.return_, 1) := by decide +kernel
theorem dX8_upsideDown_0 : decode cX8_upsideDown 0 = .ok (.iconst 0, 1) := by decide +kernel
theorem dX8_upsideDown_1 : decode cX8_upsideDown 1 = .ok (.istore_n 1, 1) := by decide +kernel
theorem dX8_upsideDown_2 : decode cX8_upsideDown 2 = .ok (.iconst 0, 1) := by decide +kernel
theorem dX8_upsideDown_3 : decode cX8_upsideDown 3 = .ok (.istore_n 2, 1) := by decide +kernel
theorem dX8_upsideDown_4 : decode cX8_upsideDown 4 = .ok (.iload_n 2, 1) := by decide +kernel
theorem dX8_upsideDown_5 : decode cX8_upsideDown 5 = .ok (.iconst 5, 1) := by decide +kernel
theorem dX8_upsideDown_6 : decode cX8_upsideDown 6 = .ok (.if_icmp .ge 21, 3) := by decide +kernel
theorem dX8_upsideDown_9 : decode cX8_upsideDown 9 = .ok (.iload_n 1, 1) := by decide +kernel
theorem dX8_upsideDown_10 : decode cX8_upsideDown 10 = .ok (.iload_n 0, 1) := by decide +kernel
theorem dX8_upsideDown_11 : decode cX8_upsideDown 11 = .ok (.iload_n 2, 1) := by decide +kernel
theorem dX8_upsideDown_12 : decode cX8_upsideDown 12 = .ok (.ishr, 1) := by decide +kernel
theorem dX8_upsideDown_13 : decode cX8_upsideDown 13 = .ok (.iconst 1, 1) := by decide +kernel
theorem dX8_upsideDown_14 : decode cX8_upsideDown 14 = .ok (.iand, 1) := by decide +kernel
theorem dX8_upsideDown_15 : decode cX8_upsideDown 15 = .ok (.iconst 4, 1) := by decide +kernel
theorem dX8_upsideDown_16 : decode cX8_upsideDown 16 = .ok (.iload_n 2, 1) := by decide +kernel
theorem dX8_upsideDown_17 : decode cX8_upsideDown 17 = .ok (.isub, 1) := by decide +kernel
theorem dX8_upsideDown_18 : decode cX8_upsideDown 18 = .ok (.ishl, 1) := by decide +kernel
theorem dX8_upsideDown_19 : decode cX8_upsideDown 19 = .ok (.ior, 1) := by decide +kernel
theorem dX8_upsideDown_20 : decode cX8_upsideDown 20 = .ok (.istore_n 1, 1) := by decide +kernel
theorem dX8_upsideDown_21 : decode cX8_upsideDown 21 = .ok (.iinc 2 1, 3) := by decide +kernel
theorem dX8_upsideDown_24 : decode cX8_upsideDown 24 = .ok (.goto (-20), 3) := by decide +kernel
theorem dX8_upsideDown_27 : decode cX8_upsideDown 27 = .ok (.iload_n 1, 1) := by decide +kernel
theorem dX8_upsideDown_28 : decode cX8_upsideDown 28 = .ok (.ireturn, 1) := by decide +kernel
set_option maxRecDepth 20000 in
theorem ggX8_cutAt_X8_upsideDown : GoodIn wsX8_cutAt wsX8_upsideDown := goodIn_r _ [6] (by decide +kernel) (by decide +kernel)
set_option maxRecDepth 20000 in
theorem gX8_cutAt_X8_upsideDown : GoodIn wsX8_cutAt (va_wsS RX8 103 yX8_upsideDown wsX8_upsideDown) := goodIn_app (goodIn_of _ (by decide +kernel)) ggX8_cutAt_X8_upsideDown
theorem dX8_cutAt_0 : decode cX8_cutAt 0 = .ok (.iload_n 2, 1) := by decide +kernel
theorem dX8_cutAt_1 : decode cX8_cutAt 1 = .ok (.iconst 1, 1) := by decide +kernel
theorem dX8_cutAt_2 : decode cX8_cutAt 2 = .ok (.iand, 1) := by decide +kernel
theorem dX8_cutAt_3 : decode cX8_cutAt 3 = .ok (.ifCond .ne 14, 3) := by decide +kernel
theorem dX8_cutAt_6 : decode cX8_cutAt 6 = .ok (.iload_n 3, 1) := by decide +kernel
theorem dX8_cutAt_7 : decode cX8_cutAt 7 = .ok (.iload_n 1, 1) := by decide +kernel
theorem dX8_cutAt_8 : decode cX8_cutAt 8 = .ok (.iadd, 1) := by decide +kernel
theorem dX8_cutAt_9 : decode cX8_cutAt 9 = .ok (.aload_n 0, 1) := by decide +kernel
theorem dX8_cutAt_10 : decode cX8_cutAt 10 = .ok (.getfield 31, 3) := by decide +kernel
theorem dX8_cutAt_13 : decode cX8_cutAt 13 = .ok (.irem, 1) := by decide +kernel
theorem dX8_cutAt_14 : decode cX8_cutAt 14 = .ok (.goto 16, 3) := by decide +kernel
theorem dX8_cutAt_17 : decode cX8_cutAt 17 = .ok (.iload_n 1, 1) := by decide +kernel
theorem dX8_cutAt_18 : decode cX8_cutAt 18 = .ok (.iload_n 3, 1) := by decide +kernel
theorem dX8_cutAt_19 : decode cX8_cutAt 19 = .ok (.isub, 1) := by decide +kernel
theorem dX8_cutAt_20 : decode cX8_cutAt 20 = .ok (.aload_n 0, 1) := by decide +kernel
theorem dX8_cutAt_21 : decode cX8_cutAt 21 = .ok (.getfield 31, 3) := by decide +kernel
theorem dX8_cutAt_24 : decode cX8_cutAt 24 = .ok (.iadd, 1) := by decide +kernel
theorem dX8_cutAt_25 : decode cX8_cutAt 25 = .ok (.aload_n 0, 1) := by decide +kernel
theorem dX8_cutAt_26 : decode cX8_cutAt 26 = .ok (.getfield 31, 3) := by decide +kernel
theorem dX8_cutAt_29 : decode cX8_cutAt 29 = .ok (.irem, 1) := by decide +kernel
theorem dX8_cutAt_30 : decode cX8_cutAt 30 = .ok (.istore 4, 2) := by decide +kernel
theorem dX8_cutAt_32 : decode cX8_cutAt 32 = .ok (.iload_n 2, 1) := by decide +kernel
theorem dX8_cutAt_33 : decode cX8_cutAt 33 = .ok (.iconst 2, 1) := by decide +kernel
theorem dX8_cutAt_34 : decode cX8_cutAt 34 = .ok (.if_icmp .ge 13, 3) := by decide +kernel
theorem dX8_cutAt_37 : decode cX8_cutAt 37 = .ok (.aload_n 0, 1) := by decide +kernel
theorem dX8_cutAt_38 : decode cX8_cutAt 38 = .ok (.getfield 38, 3) := by decide +kernel
theorem dX8_cutAt_41 : decode cX8_cutAt 41 = .ok (.iload 4, 2) := by decide +kernel
theorem dX8_cutAt_43 : decode cX8_cutAt 43 = .ok (.iaload, 1) := by decide +kernel
theorem dX8_cutAt_44 : decode cX8_cutAt 44 = .ok (.goto 13, 3) := by decide +kernel
theorem dX8_cutAt_47 : decode cX8_cutAt 47 = .ok (.aload_n 0, 1) := by decide +kernel
theorem dX8_cutAt_48 : decode cX8_cutAt 48 = .ok (.getfield 38, 3) := by decide +kernel
theorem dX8_cutAt_51 : decode cX8_cutAt 51 = .ok (.iload 4, 2) := by decide +kernel
theorem dX8_cutAt_53 : decode cX8_cutAt 53 = .ok (.iaload, 1) := by decide +kernel
theorem dX8_cutAt_54 : decode cX8_cutAt 54 = .ok (.invokestatic 103, 3) := by decide +kernel
theorem dX8_cutAt_57 : decode cX8_cutAt 57 = .ok (.ireturn, 1) := by decide +kernel
set_option maxRecDepth 20000 in
theorem ggX8_cut_X8_isWord : GoodIn wsX8_cut wsX8_isWord := goodIn_r _ [6, 7, 8, 9, 5, 10] (by decide +kernel) (by decide +kernel)
set_option maxRecDepth 20000 in
theorem gX8_cut_X8_isWord : GoodIn wsX8_cut (va_wsS RX8 89 yX8_isWord wsX8_isWord) := goodIn_app (goodIn_of _ (by decide +kernel)) ggX8_cut_X8_isWord
set_option maxRecDepth 20000 in
theorem ggX8_cut_X8_in : GoodIn wsX8_cut wsX8_in := goodIn_r _ [10] (by decide +kernel) (by decide +kernel)
set_option maxRecDepth 20000 in
theorem gX8_cut_X8_in : GoodIn wsX8_cut (va_wsS RX8 69 yX8_in wsX8_in) := goodIn_app (goodIn_of _ (by decide +kernel)) ggX8_cut_X8_in
set_option maxRecDepth 20000 in
theorem ggX8_cut_X8_fits : GoodIn wsX8_cut wsX8_fits := goodIn_r _ [14, 15, 1, 16, 17, 18, 5, 19, 20, 21, 22, 36, 37, 38, 39, 40, 41, 42, 43, 44, 45, 46, 47, 48, 49, 50, 51, 52, 53, 54, 55, 56, 57, 58, 59, 60, 61, 62, 63] (by decide +kernel) (by decide +kernel)
set_option maxRecDepth 20000 in
theorem gX8_cut_X8_fits : GoodIn wsX8_cut (wsV RX8 100 RX8 yX8_fits wsX8_fits) := goodIn_app (goodIn_of _ (by decide +kernel)) ggX8_cut_X8_fits
set_option maxRecDepth 20000 in
theorem ggX8_cut_X8_lay : GoodIn wsX8_cut wsX8_lay := goodIn_r _ [26, 27, 15, 21, 20, 28, 22, 36, 37, 38, 39, 40, 41, 42, 43, 44, 45, 46, 47, 48, 49, 50, 51, 52, 53, 54, 55, 56, 57, 58, 59, 60, 61, 62, 63] (by decide +kernel) (by decide +kernel)
set_option maxRecDepth 20000 in
theorem gX8_cut_X8_lay : GoodIn wsX8_cut (wsV RX8 106 RX8 yX8_lay wsX8_lay) := goodIn_app (goodIn_of _ (by decide +kernel)) ggX8_cut_X8_lay
set_option maxRecDepth 20000 in
theorem ggX8_cut_X8_cutAt : GoodIn wsX8_cut wsX8_cutAt := goodIn_r _ [32, 1, 27, 33, 34, 5, 35, 36, 37, 38, 39, 40, 41, 42, 43, 44, 45, 46, 47, 48, 49, 50, 51, 52, 53, 54, 55, 56, 57, 58, 59, 60, 61, 62, 63] (by decide +kernel) (by decide +kernel)
set_option maxRecDepth 20000 in
theorem gX8_cut_X8_cutAt : GoodIn wsX8_cut (wsV RX8 110 RX8 yX8_cutAt wsX8_cutAt) := goodIn_app (goodIn_of _ (by decide +kernel)) ggX8_cut_X8_cutAt
theorem dX8_cut_0 : decode cX8_cut 0 = .ok (.iload_n 1, 1) := by decide +kernel
theorem dX8_cut_1 : decode cX8_cut 1 = .ok (.invokestatic 89, 3) := by decide +kernel
theorem dX8_cut_4 : decode cX8_cut 4 = .ok (.ifCond .eq 48, 3) := by decide +kernel
theorem dX8_cut_7 : decode cX8_cut 7 = .ok (.iload_n 2, 1) := by decide +kernel
theorem dX8_cut_8 : decode cX8_cut 8 = .ok (.i2l, 1) := by decide +kernel
theorem dX8_cut_9 : decode cX8_cut 9 = .ok (.lconst 0, 1) := by decide +kernel
theorem dX8_cut_10 : decode cX8_cut 10 = .ok (.aload_n 0, 1) := by decide +kernel
theorem dX8_cut_11 : decode cX8_cut 11 = .ok (.getfield 31, 3) := by decide +kernel
theorem dX8_cut_14 : decode cX8_cut 14 = .ok (.iconst 1, 1) := by decide +kernel
theorem dX8_cut_15 : decode cX8_cut 15 = .ok (.isub, 1) := by decide +kernel
theorem dX8_cut_16 : decode cX8_cut 16 = .ok (.i2l, 1) := by decide +kernel
theorem dX8_cut_17 : decode cX8_cut 17 = .ok (.invokestatic 69, 3) := by decide +kernel
theorem dX8_cut_20 : decode cX8_cut 20 = .ok (.ifCond .eq 32, 3) := by decide +kernel
theorem dX8_cut_23 : decode cX8_cut 23 = .ok (.iload_n 3, 1) := by decide +kernel
theorem dX8_cut_24 : decode cX8_cut 24 = .ok (.i2l, 1) := by decide +kernel
theorem dX8_cut_25 : decode cX8_cut 25 = .ok (.lconst 0, 1) := by decide +kernel
theorem dX8_cut_26 : decode cX8_cut 26 = .ok (.ldc2_w 94, 3) := by decide +kernel
theorem dX8_cut_29 : decode cX8_cut 29 = .ok (.invokestatic 69, 3) := by decide +kernel
theorem dX8_cut_32 : decode cX8_cut 32 = .ok (.ifCond .eq 20, 3) := by decide +kernel
theorem dX8_cut_35 : decode cX8_cut 35 = .ok (.iload 4, 2) := by decide +kernel
theorem dX8_cut_37 : decode cX8_cut 37 = .ok (.i2l, 1) := by decide +kernel
theorem dX8_cut_38 : decode cX8_cut 38 = .ok (.lconst 0, 1) := by decide +kernel
theorem dX8_cut_39 : decode cX8_cut 39 = .ok (.aload_n 0, 1) := by decide +kernel
theorem dX8_cut_40 : decode cX8_cut 40 = .ok (.getfield 31, 3) := by decide +kernel
theorem dX8_cut_43 : decode cX8_cut 43 = .ok (.iconst 1, 1) := by decide +kernel
theorem dX8_cut_44 : decode cX8_cut 44 = .ok (.isub, 1) := by decide +kernel
theorem dX8_cut_45 : decode cX8_cut 45 = .ok (.i2l, 1) := by decide +kernel
theorem dX8_cut_46 : decode cX8_cut 46 = .ok (.invokestatic 69, 3) := by decide +kernel
theorem dX8_cut_49 : decode cX8_cut 49 = .ok (.ifCond .ne 6, 3) := by decide +kernel
theorem dX8_cut_52 : decode cX8_cut 52 = .ok (.bipush (-2), 2) := by decide +kernel
theorem dX8_cut_54 : decode cX8_cut 54 = .ok (.ireturn, 1) := by decide +kernel
theorem dX8_cut_55 : decode cX8_cut 55 = .ok (.aload_n 0, 1) := by decide +kernel
theorem dX8_cut_56 : decode cX8_cut 56 = .ok (.iload_n 1, 1) := by decide +kernel
theorem dX8_cut_57 : decode cX8_cut 57 = .ok (.invokevirtual 100, 3) := by decide +kernel
theorem dX8_cut_60 : decode cX8_cut 60 = .ok (.ifCond .ne 6, 3) := by decide +kernel
theorem dX8_cut_63 : decode cX8_cut 63 = .ok (.bipush (-3), 2) := by decide +kernel
theorem dX8_cut_65 : decode cX8_cut 65 = .ok (.ireturn, 1) := by decide +kernel
theorem dX8_cut_66 : decode cX8_cut 66 = .ok (.aload_n 0, 1) := by decide +kernel
theorem dX8_cut_67 : decode cX8_cut 67 = .ok (.iload_n 1, 1) := by decide +kernel
theorem dX8_cut_68 : decode cX8_cut 68 = .ok (.invokevirtual 106, 3) := by decide +kernel
theorem dX8_cut_71 : decode cX8_cut 71 = .ok (.aload_n 0, 1) := by decide +kernel
theorem dX8_cut_72 : decode cX8_cut 72 = .ok (.iload_n 2, 1) := by decide +kernel
theorem dX8_cut_73 : decode cX8_cut 73 = .ok (.iload_n 3, 1) := by decide +kernel
theorem dX8_cut_74 : decode cX8_cut 74 = .ok (.iload 4, 2) := by decide +kernel
theorem dX8_cut_76 : decode cX8_cut 76 = .ok (.invokevirtual 110, 3) := by decide +kernel
theorem dX8_cut_79 : decode cX8_cut 79 = .ok (.ireturn, 1) := by decide +kernel
set_option maxRecDepth 20000 in
theorem ggX8_isReading_X8_in : GoodIn wsX8_isReading wsX8_in := goodIn_r _ [8] (by decide +kernel) (by decide +kernel)
set_option maxRecDepth 20000 in
theorem gX8_isReading_X8_in : GoodIn wsX8_isReading (va_wsS RX8 69 yX8_in wsX8_in) := goodIn_app (goodIn_of _ (by decide +kernel)) ggX8_isReading_X8_in
set_option maxRecDepth 20000 in
theorem ggX8_isReading_X8_cutAt : GoodIn wsX8_isReading wsX8_cutAt := goodIn_r _ [12, 1, 13, 14, 15, 7, 16, 17, 18, 19, 20, 21, 22, 23, 24, 25, 26, 27, 28, 29, 30, 31, 32, 33, 34, 35, 36, 37, 38, 39, 40, 41, 42, 43, 44] (by decide +kernel) (by decide +kernel)
set_option maxRecDepth 20000 in
theorem gX8_isReading_X8_cutAt : GoodIn wsX8_isReading (wsV RX8 110 RX8 yX8_cutAt wsX8_cutAt) := goodIn_app (goodIn_of _ (by decide +kernel)) ggX8_isReading_X8_cutAt
theorem dX8_isReading_0 : decode cX8_isReading 0 = .ok (.iconst 1, 1) := by decide +kernel
theorem dX8_isReading_1 : decode cX8_isReading 1 = .ok (.istore 4, 2) := by decide +kernel
theorem dX8_isReading_3 : decode cX8_isReading 3 = .ok (.iconst 0, 1) := by decide +kernel
theorem dX8_isReading_4 : decode cX8_isReading 4 = .ok (.istore 5, 2) := by decide +kernel
theorem dX8_isReading_6 : decode cX8_isReading 6 = .ok (.iload 5, 2) := by decide +kernel
theorem dX8_isReading_8 : decode cX8_isReading 8 = .ok (.aload_n 0, 1) := by decide +kernel
theorem dX8_isReading_9 : decode cX8_isReading 9 = .ok (.getfield 31, 3) := by decide +kernel
theorem dX8_isReading_12 : decode cX8_isReading 12 = .ok (.if_icmp .ge 72, 3) := by decide +kernel
theorem dX8_isReading_15 : decode cX8_isReading 15 = .ok (.iload 5, 2) := by decide +kernel
theorem dX8_isReading_17 : decode cX8_isReading 17 = .ok (.aload_n 0, 1) := by decide +kernel
theorem dX8_isReading_18 : decode cX8_isReading 18 = .ok (.getfield 57, 3) := by decide +kernel
theorem dX8_isReading_21 : decode cX8_isReading 21 = .ok (.iload_n 1, 1) := by decide +kernel
theorem dX8_isReading_22 : decode cX8_isReading 22 = .ok (.iaload, 1) := by decide +kernel
theorem dX8_isReading_23 : decode cX8_isReading 23 = .ok (.if_icmp .ge 61, 3) := by decide +kernel
theorem dX8_isReading_26 : decode cX8_isReading 26 = .ok (.iload 4, 2) := by decide +kernel
theorem dX8_isReading_28 : decode cX8_isReading 28 = .ok (.ifCond .eq 56, 3) := by decide +kernel
theorem dX8_isReading_31 : decode cX8_isReading 31 = .ok (.aload_n 0, 1) := by decide +kernel
theorem dX8_isReading_32 : decode cX8_isReading 32 = .ok (.getfield 60, 3) := by decide +kernel
theorem dX8_isReading_35 : decode cX8_isReading 35 = .ok (.bipush 60, 2) := by decide +kernel
theorem dX8_isReading_37 : decode cX8_isReading 37 = .ok (.iload_n 1, 1) := by decide +kernel
theorem dX8_isReading_38 : decode cX8_isReading 38 = .ok (.imul, 1) := by decide +kernel
theorem dX8_isReading_39 : decode cX8_isReading 39 = .ok (.iload 5, 2) := by decide +kernel
theorem dX8_isReading_41 : decode cX8_isReading 41 = .ok (.iadd, 1) := by decide +kernel
theorem dX8_isReading_42 : decode cX8_isReading 42 = .ok (.iaload, 1) := by decide +kernel
theorem dX8_isReading_43 : decode cX8_isReading 43 = .ok (.istore 6, 2) := by decide +kernel
theorem dX8_isReading_45 : decode cX8_isReading 45 = .ok (.iload 6, 2) := by decide +kernel
theorem dX8_isReading_47 : decode cX8_isReading 47 = .ok (.i2l, 1) := by decide +kernel
theorem dX8_isReading_48 : decode cX8_isReading 48 = .ok (.lconst 0, 1) := by decide +kernel
theorem dX8_isReading_49 : decode cX8_isReading 49 = .ok (.ldc2_w 85, 3) := by decide +kernel
theorem dX8_isReading_52 : decode cX8_isReading 52 = .ok (.invokestatic 69, 3) := by decide +kernel
theorem dX8_isReading_55 : decode cX8_isReading 55 = .ok (.ifCond .eq 16, 3) := by decide +kernel
theorem dX8_isReading_58 : decode cX8_isReading 58 = .ok (.iload 6, 2) := by decide +kernel
theorem dX8_isReading_60 : decode cX8_isReading 60 = .ok (.aload_n 0, 1) := by decide +kernel
theorem dX8_isReading_61 : decode cX8_isReading 61 = .ok (.iload_n 2, 1) := by decide +kernel
theorem dX8_isReading_62 : decode cX8_isReading 62 = .ok (.iload_n 3, 1) := by decide +kernel
theorem dX8_isReading_63 : decode cX8_isReading 63 = .ok (.iload 5, 2) := by decide +kernel
theorem dX8_isReading_65 : decode cX8_isReading 65 = .ok (.invokevirtual 110, 3) := by decide +kernel
theorem dX8_isReading_68 : decode cX8_isReading 68 = .ok (.if_icmp .ne 7, 3) := by decide +kernel
theorem dX8_isReading_71 : decode cX8_isReading 71 = .ok (.iconst 1, 1) := by decide +kernel
theorem dX8_isReading_72 : decode cX8_isReading 72 = .ok (.goto 4, 3) := by decide +kernel
theorem dX8_isReading_75 : decode cX8_isReading 75 = .ok (.iconst 0, 1) := by decide +kernel
theorem dX8_isReading_76 : decode cX8_isReading 76 = .ok (.istore 4, 2) := by decide +kernel
theorem dX8_isReading_78 : decode cX8_isReading 78 = .ok (.iinc 5 1, 3) := by decide +kernel
theorem dX8_isReading_81 : decode cX8_isReading 81 = .ok (.goto (-75), 3) := by decide +kernel
theorem dX8_isReading_84 : decode cX8_isReading 84 = .ok (.iload 4, 2) := by decide +kernel
theorem dX8_isReading_86 : decode cX8_isReading 86 = .ok (.ireturn, 1) := by decide +kernel
set_option maxRecDepth 20000 in
theorem ggX8_findReadings_X8_fits : GoodIn wsX8_findReadings wsX8_fits := goodIn_r _ [9, 10, 4, 11, 12, 13, 8, 14, 15, 16, 17, 41, 42, 43, 44, 45, 46, 47, 48, 49, 50, 51, 52, 53, 54, 55, 56, 57, 58, 59, 60, 61, 62, 63, 64, 65, 66, 67, 68] (by decide +kernel) (by decide +kernel)
set_option maxRecDepth 20000 in
theorem gX8_findReadings_X8_fits : GoodIn wsX8_findReadings (wsV RX8 100 RX8 yX8_fits wsX8_fits) := goodIn_app (goodIn_of _ (by decide +kernel)) ggX8_findReadings_X8_fits
set_option maxRecDepth 20000 in
theorem ggX8_findReadings_X8_lay : GoodIn wsX8_findReadings wsX8_lay := goodIn_r _ [21, 22, 10, 16, 15, 23, 17, 41, 42, 43, 44, 45, 46, 47, 48, 49, 50, 51, 52, 53, 54, 55, 56, 57, 58, 59, 60, 61, 62, 63, 64, 65, 66, 67, 68] (by decide +kernel) (by decide +kernel)
set_option maxRecDepth 20000 in
theorem gX8_findReadings_X8_lay : GoodIn wsX8_findReadings (wsV RX8 106 RX8 yX8_lay wsX8_lay) := goodIn_app (goodIn_of _ (by decide +kernel)) ggX8_findReadings_X8_lay
set_option maxRecDepth 20000 in
theorem ggX8_findReadings_X8_isReading : GoodIn wsX8_findReadings wsX8_isReading := goodIn_r _ [27, 4, 28, 29, 30, 31, 32, 8, 33, 34, 35, 36, 37, 22, 38, 39, 40, 41, 42, 43, 44, 45, 46, 47, 48, 49, 50, 51, 52, 53, 54, 55, 56, 57, 58, 59, 60, 61, 62, 63, 64, 65, 66, 67, 68] (by decide +kernel) (by decide +kernel)
set_option maxRecDepth 20000 in
theorem gX8_findReadings_X8_isReading : GoodIn wsX8_findReadings (wsV RX8 123 RX8 yX8_isReading wsX8_isReading) := goodIn_app (goodIn_of _ (by decide +kernel)) ggX8_findReadings_X8_isReading
theorem dX8_findReadings_0 : decode cX8_findReadings 0 = .ok (.aload_n 0, 1) := by decide +kernel
theorem dX8_findReadings_1 : decode cX8_findReadings 1 = .ok (.iconst (-1), 1) := by decide +kernel
theorem dX8_findReadings_2 : decode cX8_findReadings 2 = .ok (.putfield 114, 3) := by decide +kernel
theorem dX8_findReadings_5 : decode cX8_findReadings 5 = .ok (.aload_n 0, 1) := by decide +kernel
theorem dX8_findReadings_6 : decode cX8_findReadings 6 = .ok (.iconst 0, 1) := by decide +kernel
theorem dX8_findReadings_7 : decode cX8_findReadings 7 = .ok (.putfield 117, 3) := by decide +kernel
theorem dX8_findReadings_10 : decode cX8_findReadings 10 = .ok (.aload_n 0, 1) := by decide +kernel
theorem dX8_findReadings_11 : decode cX8_findReadings 11 = .ok (.iconst 0, 1) := by decide +kernel
theorem dX8_findReadings_12 : decode cX8_findReadings 12 = .ok (.putfield 120, 3) := by decide +kernel
theorem dX8_findReadings_15 : decode cX8_findReadings 15 = .ok (.iconst 0, 1) := by decide +kernel
theorem dX8_findReadings_16 : decode cX8_findReadings 16 = .ok (.istore_n 3, 1) := by decide +kernel
theorem dX8_findReadings_17 : decode cX8_findReadings 17 = .ok (.iload_n 3, 1) := by decide +kernel
theorem dX8_findReadings_18 : decode cX8_findReadings 18 = .ok (.bipush 8, 2) := by decide +kernel
theorem dX8_findReadings_20 : decode cX8_findReadings 20 = .ok (.if_icmp .ge 115, 3) := by decide +kernel
theorem dX8_findReadings_23 : decode cX8_findReadings 23 = .ok (.aload_n 0, 1) := by decide +kernel
theorem dX8_findReadings_24 : decode cX8_findReadings 24 = .ok (.iload_n 3, 1) := by decide +kernel
theorem dX8_findReadings_25 : decode cX8_findReadings 25 = .ok (.invokevirtual 100, 3) := by decide +kernel
theorem dX8_findReadings_28 : decode cX8_findReadings 28 = .ok (.ifCond .eq 101, 3) := by decide +kernel
theorem dX8_findReadings_31 : decode cX8_findReadings 31 = .ok (.aload_n 0, 1) := by decide +kernel
theorem dX8_findReadings_32 : decode cX8_findReadings 32 = .ok (.iload_n 3, 1) := by decide +kernel
theorem dX8_findReadings_33 : decode cX8_findReadings 33 = .ok (.invokevirtual 106, 3) := by decide +kernel
theorem dX8_findReadings_36 : decode cX8_findReadings 36 = .ok (.iconst 0, 1) := by decide +kernel
theorem dX8_findReadings_37 : decode cX8_findReadings 37 = .ok (.istore 4, 2) := by decide +kernel
theorem dX8_findReadings_39 : decode cX8_findReadings 39 = .ok (.iload 4, 2) := by decide +kernel
theorem dX8_findReadings_41 : decode cX8_findReadings 41 = .ok (.iconst 4, 1) := by decide +kernel
theorem dX8_findReadings_42 : decode cX8_findReadings 42 = .ok (.if_icmp .ge 87, 3) := by decide +kernel
theorem dX8_findReadings_45 : decode cX8_findReadings 45 = .ok (.iconst 0, 1) := by decide +kernel
theorem dX8_findReadings_46 : decode cX8_findReadings 46 = .ok (.istore 5, 2) := by decide +kernel
theorem dX8_findReadings_48 : decode cX8_findReadings 48 = .ok (.iload 5, 2) := by decide +kernel
theorem dX8_findReadings_50 : decode cX8_findReadings 50 = .ok (.aload_n 0, 1) := by decide +kernel
theorem dX8_findReadings_51 : decode cX8_findReadings 51 = .ok (.getfield 31, 3) := by decide +kernel
theorem dX8_findReadings_54 : decode cX8_findReadings 54 = .ok (.if_icmp .ge 69, 3) := by decide +kernel
theorem dX8_findReadings_57 : decode cX8_findReadings 57 = .ok (.aload_n 0, 1) := by decide +kernel
theorem dX8_findReadings_58 : decode cX8_findReadings 58 = .ok (.iload_n 1, 1) := by decide +kernel
theorem dX8_findReadings_59 : decode cX8_findReadings 59 = .ok (.iload 5, 2) := by decide +kernel
theorem dX8_findReadings_61 : decode cX8_findReadings 61 = .ok (.iload 4, 2) := by decide +kernel
theorem dX8_findReadings_63 : decode cX8_findReadings 63 = .ok (.invokevirtual 123, 3) := by decide +kernel
theorem dX8_findReadings_66 : decode cX8_findReadings 66 = .ok (.ifCond .eq 51, 3) := by decide +kernel
theorem dX8_findReadings_69 : decode cX8_findReadings 69 = .ok (.aload_n 0, 1) := by decide +kernel
theorem dX8_findReadings_70 : decode cX8_findReadings 70 = .ok (.getfield 117, 3) := by decide +kernel
theorem dX8_findReadings_73 : decode cX8_findReadings 73 = .ok (.iload_n 2, 1) := by decide +kernel
theorem dX8_findReadings_74 : decode cX8_findReadings 74 = .ok (.if_icmp .ne 21, 3) := by decide +kernel
theorem dX8_findReadings_77 : decode cX8_findReadings 77 = .ok (.aload_n 0, 1) := by decide +kernel
theorem dX8_findReadings_78 : decode cX8_findReadings 78 = .ok (.sipush 1000, 3) := by decide +kernel
theorem dX8_findReadings_81 : decode cX8_findReadings 81 = .ok (.iload_n 3, 1) := by decide +kernel
theorem dX8_findReadings_82 : decode cX8_findReadings 82 = .ok (.imul, 1) := by decide +kernel
theorem dX8_findReadings_83 : decode cX8_findReadings 83 = .ok (.bipush 100, 2) := by decide +kernel
theorem dX8_findReadings_85 : decode cX8_findReadings 85 = .ok (.iload 4, 2) := by decide +kernel
theorem dX8_findReadings_87 : decode cX8_findReadings 87 = .ok (.imul, 1) := by decide +kernel
theorem dX8_findReadings_88 : decode cX8_findReadings 88 = .ok (.iadd, 1) := by decide +kernel
theorem dX8_findReadings_89 : decode cX8_findReadings 89 = .ok (.iload 5, 2) := by decide +kernel
theorem dX8_findReadings_91 : decode cX8_findReadings 91 = .ok (.iadd, 1) := by decide +kernel
theorem dX8_findReadings_92 : decode cX8_findReadings 92 = .ok (.putfield 114, 3) := by decide +kernel
theorem dX8_findReadings_95 : decode cX8_findReadings 95 = .ok (.aload_n 0, 1) := by decide +kernel
theorem dX8_findReadings_96 : decode cX8_findReadings 96 = .ok (.dup, 1) := by decide +kernel
theorem dX8_findReadings_97 : decode cX8_findReadings 97 = .ok (.getfield 117, 3) := by decide +kernel
theorem dX8_findReadings_100 : decode cX8_findReadings 100 = .ok (.iconst 1, 1) := by decide +kernel
theorem dX8_findReadings_101 : decode cX8_findReadings 101 = .ok (.iadd, 1) := by decide +kernel
theorem dX8_findReadings_102 : decode cX8_findReadings 102 = .ok (.putfield 117, 3) := by decide +kernel
theorem dX8_findReadings_105 : decode cX8_findReadings 105 = .ok (.aload_n 0, 1) := by decide +kernel
theorem dX8_findReadings_106 : decode cX8_findReadings 106 = .ok (.dup, 1) := by decide +kernel
theorem dX8_findReadings_107 : decode cX8_findReadings 107 = .ok (.getfield 120, 3) := by decide +kernel
theorem dX8_findReadings_110 : decode cX8_findReadings 110 = .ok (.iconst 1, 1) := by decide +kernel
theorem dX8_findReadings_111 : decode cX8_findReadings 111 = .ok (.iload_n 3, 1) := by decide +kernel
theorem dX8_findReadings_112 : decode cX8_findReadings 112 = .ok (.ishl, 1) := by decide +kernel
theorem dX8_findReadings_113 : decode cX8_findReadings 113 = .ok (.ior, 1) := by decide +kernel
theorem dX8_findReadings_114 : decode cX8_findReadings 114 = .ok (.putfield 120, 3) := by decide +kernel
theorem dX8_findReadings_117 : decode cX8_findReadings 117 = .ok (.iinc 5 1, 3) := by decide +kernel
theorem dX8_findReadings_120 : decode cX8_findReadings 120 = .ok (.goto (-72), 3) := by decide +kernel
theorem dX8_findReadings_123 : decode cX8_findReadings 123 = .ok (.iinc 4 1, 3) := by decide +kernel
