theorem dX8_findReadings_126 : decode cX8_findReadings 126 = .ok (.goto (-87), 3) := by decide +kernel
theorem dX8_findReadings_129 : decode cX8_findReadings 129 = .ok (.iinc 3 1, 3) := by decide +kernel
theorem dX8_findReadings_132 : decode cX8_findReadings 132 = .ok (.goto (-115), 3) := by decide +kernel
theorem dX8_findReadings_135 : decode cX8_findReadings 135 = .ok (.return_, 1) := by decide +kernel
set_option maxRecDepth 20000 in
theorem ggX8_lacks_X8_isSheet : GoodIn wsX8_lacks wsX8_isSheet := goodIn_r _ [5, 6, 7, 8, 4, 9] (by decide +kernel) (by decide +kernel)
set_option maxRecDepth 20000 in
theorem gX8_lacks_X8_isSheet : GoodIn wsX8_lacks (va_wsS RX8 127 yX8_isSheet wsX8_isSheet) := goodIn_app (goodIn_of _ (by decide +kernel)) ggX8_lacks_X8_isSheet
set_option maxRecDepth 20000 in
theorem ggX8_lacks_X8_met : GoodIn wsX8_lacks wsX8_met := goodIn_r _ [13, 14, 15, 16, 17, 18, 19, 20, 21, 22, 23, 24, 25, 26, 27, 28, 29, 30, 31, 32, 33, 34, 35, 36, 37, 38, 39, 40, 41, 42] (by decide +kernel) (by decide +kernel)
set_option maxRecDepth 20000 in
theorem gX8_lacks_X8_met : GoodIn wsX8_lacks (wsV RX8 130 RX8 yX8_met wsX8_met) := goodIn_app (goodIn_of _ (by decide +kernel)) ggX8_lacks_X8_met
theorem dX8_lacks_0 : decode cX8_lacks 0 = .ok (.iload_n 1, 1) := by decide +kernel
theorem dX8_lacks_1 : decode cX8_lacks 1 = .ok (.invokestatic 127, 3) := by decide +kernel
theorem dX8_lacks_4 : decode cX8_lacks 4 = .ok (.ifCond .ne 8, 3) := by decide +kernel
theorem dX8_lacks_7 : decode cX8_lacks 7 = .ok (.bipush (-2), 2) := by decide +kernel
theorem dX8_lacks_9 : decode cX8_lacks 9 = .ok (.goto 21, 3) := by decide +kernel
theorem dX8_lacks_12 : decode cX8_lacks 12 = .ok (.aload_n 0, 1) := by decide +kernel
theorem dX8_lacks_13 : decode cX8_lacks 13 = .ok (.getfield 54, 3) := by decide +kernel
theorem dX8_lacks_16 : decode cX8_lacks 16 = .ok (.iload_n 1, 1) := by decide +kernel
theorem dX8_lacks_17 : decode cX8_lacks 17 = .ok (.iaload, 1) := by decide +kernel
theorem dX8_lacks_18 : decode cX8_lacks 18 = .ok (.ifCond .ge 11, 3) := by decide +kernel
theorem dX8_lacks_21 : decode cX8_lacks 21 = .ok (.aload_n 0, 1) := by decide +kernel
theorem dX8_lacks_22 : decode cX8_lacks 22 = .ok (.iconst 1, 1) := by decide +kernel
theorem dX8_lacks_23 : decode cX8_lacks 23 = .ok (.invokevirtual 130, 3) := by decide +kernel
theorem dX8_lacks_26 : decode cX8_lacks 26 = .ok (.goto 4, 3) := by decide +kernel
theorem dX8_lacks_29 : decode cX8_lacks 29 = .ok (.iconst 0, 1) := by decide +kernel
theorem dX8_lacks_30 : decode cX8_lacks 30 = .ok (.ireturn, 1) := by decide +kernel
set_option maxRecDepth 20000 in
theorem ggX8_readings_X8_lacks : GoodIn wsX8_readings wsX8_lacks := goodIn_r _ [6, 7, 8, 9, 5, 10, 11, 12, 13, 14, 15, 16, 17, 18, 19, 59, 60, 61, 62, 63, 64, 65, 66, 67, 68, 69, 70, 71, 72, 73, 74, 75, 76, 77, 78, 79, 80, 81, 82, 83, 84, 85, 86] (by decide +kernel) (by decide +kernel)
set_option maxRecDepth 20000 in
theorem gX8_readings_X8_lacks : GoodIn wsX8_readings (wsV RX8 133 RX8 yX8_lacks wsX8_lacks) := goodIn_app (goodIn_of _ (by decide +kernel)) ggX8_readings_X8_lacks
set_option maxRecDepth 20000 in
theorem ggX8_readings_X8_findReadings : GoodIn wsX8_readings wsX8_findReadings := goodIn_r _ [23, 24, 1, 25, 26, 27, 28, 29, 5, 30, 31, 32, 33, 34, 35, 36, 37, 38, 39, 40, 41, 42, 43, 44, 45, 46, 47, 48, 49, 50, 51, 12, 13, 14, 52, 53, 54, 55, 56, 57, 58, 59, 60, 61, 62, 63, 64, 65, 66, 67, 68, 69, 70, 71, 72, 73, 74, 75, 76, 77, 78, 79, 80, 81, 82, 83, 84, 85, 86] (by decide +kernel) (by decide +kernel)
set_option maxRecDepth 20000 in
theorem gX8_readings_X8_findReadings : GoodIn wsX8_readings (wsV RX8 136 RX8 yX8_findReadings wsX8_findReadings) := goodIn_app (goodIn_of _ (by decide +kernel)) ggX8_readings_X8_findReadings
theorem dX8_readings_0 : decode cX8_readings 0 = .ok (.aload_n 0, 1) := by decide +kernel
theorem dX8_readings_1 : decode cX8_readings 1 = .ok (.iload_n 1, 1) := by decide +kernel
theorem dX8_readings_2 : decode cX8_readings 2 = .ok (.invokevirtual 133, 3) := by decide +kernel
theorem dX8_readings_5 : decode cX8_readings 5 = .ok (.istore_n 2, 1) := by decide +kernel
theorem dX8_readings_6 : decode cX8_readings 6 = .ok (.iload_n 2, 1) := by decide +kernel
theorem dX8_readings_7 : decode cX8_readings 7 = .ok (.ifCond .eq 5, 3) := by decide +kernel
theorem dX8_readings_10 : decode cX8_readings 10 = .ok (.iload_n 2, 1) := by decide +kernel
theorem dX8_readings_11 : decode cX8_readings 11 = .ok (.ireturn, 1) := by decide +kernel
theorem dX8_readings_12 : decode cX8_readings 12 = .ok (.aload_n 0, 1) := by decide +kernel
theorem dX8_readings_13 : decode cX8_readings 13 = .ok (.iload_n 1, 1) := by decide +kernel
theorem dX8_readings_14 : decode cX8_readings 14 = .ok (.iconst (-1), 1) := by decide +kernel
theorem dX8_readings_15 : decode cX8_readings 15 = .ok (.invokevirtual 136, 3) := by decide +kernel
theorem dX8_readings_18 : decode cX8_readings 18 = .ok (.aload_n 0, 1) := by decide +kernel
theorem dX8_readings_19 : decode cX8_readings 19 = .ok (.getfield 117, 3) := by decide +kernel
theorem dX8_readings_22 : decode cX8_readings 22 = .ok (.ireturn, 1) := by decide +kernel
set_option maxRecDepth 20000 in
theorem ggX8_reading_X8_lacks : GoodIn wsX8_reading wsX8_lacks := goodIn_r _ [6, 7, 8, 9, 5, 10, 11, 12, 13, 14, 15, 16, 17, 18, 19, 59, 60, 61, 62, 63, 64, 65, 66, 67, 68, 69, 70, 71, 72, 73, 74, 75, 76, 77, 78, 79, 80, 81, 82, 83, 84, 85, 86] (by decide +kernel) (by decide +kernel)
set_option maxRecDepth 20000 in
theorem gX8_reading_X8_lacks : GoodIn wsX8_reading (wsV RX8 133 RX8 yX8_lacks wsX8_lacks) := goodIn_app (goodIn_of _ (by decide +kernel)) ggX8_reading_X8_lacks
set_option maxRecDepth 20000 in
theorem ggX8_reading_X8_findReadings : GoodIn wsX8_reading wsX8_findReadings := goodIn_r _ [23, 1, 24, 25, 26, 27, 28, 29, 5, 30, 31, 32, 33, 34, 35, 36, 37, 38, 39, 40, 41, 42, 43, 44, 45, 46, 47, 48, 49, 50, 51, 12, 13, 14, 52, 53, 54, 55, 56, 57, 58, 59, 60, 61, 62, 63, 64, 65, 66, 67, 68, 69, 70, 71, 72, 73, 74, 75, 76, 77, 78, 79, 80, 81, 82, 83, 84, 85, 86] (by decide +kernel) (by decide +kernel)
set_option maxRecDepth 20000 in
theorem gX8_reading_X8_findReadings : GoodIn wsX8_reading (wsV RX8 136 RX8 yX8_findReadings wsX8_findReadings) := goodIn_app (goodIn_of _ (by decide +kernel)) ggX8_reading_X8_findReadings
theorem dX8_reading_0 : decode cX8_reading 0 = .ok (.iload_n 2, 1) := by decide +kernel
theorem dX8_reading_1 : decode cX8_reading 1 = .ok (.ifCond .ge 6, 3) := by decide +kernel
theorem dX8_reading_4 : decode cX8_reading 4 = .ok (.bipush (-2), 2) := by decide +kernel
theorem dX8_reading_6 : decode cX8_reading 6 = .ok (.ireturn, 1) := by decide +kernel
theorem dX8_reading_7 : decode cX8_reading 7 = .ok (.aload_n 0, 1) := by decide +kernel
theorem dX8_reading_8 : decode cX8_reading 8 = .ok (.iload_n 1, 1) := by decide +kernel
theorem dX8_reading_9 : decode cX8_reading 9 = .ok (.invokevirtual 133, 3) := by decide +kernel
theorem dX8_reading_12 : decode cX8_reading 12 = .ok (.istore_n 3, 1) := by decide +kernel
theorem dX8_reading_13 : decode cX8_reading 13 = .ok (.iload_n 3, 1) := by decide +kernel
theorem dX8_reading_14 : decode cX8_reading 14 = .ok (.ifCond .eq 5, 3) := by decide +kernel
theorem dX8_reading_17 : decode cX8_reading 17 = .ok (.iload_n 3, 1) := by decide +kernel
theorem dX8_reading_18 : decode cX8_reading 18 = .ok (.ireturn, 1) := by decide +kernel
theorem dX8_reading_19 : decode cX8_reading 19 = .ok (.aload_n 0, 1) := by decide +kernel
theorem dX8_reading_20 : decode cX8_reading 20 = .ok (.iload_n 1, 1) := by decide +kernel
theorem dX8_reading_21 : decode cX8_reading 21 = .ok (.iload_n 2, 1) := by decide +kernel
theorem dX8_reading_22 : decode cX8_reading 22 = .ok (.invokevirtual 136, 3) := by decide +kernel
theorem dX8_reading_25 : decode cX8_reading 25 = .ok (.aload_n 0, 1) := by decide +kernel
theorem dX8_reading_26 : decode cX8_reading 26 = .ok (.getfield 114, 3) := by decide +kernel
theorem dX8_reading_29 : decode cX8_reading 29 = .ok (.ireturn, 1) := by decide +kernel
set_option maxRecDepth 20000 in
theorem ggX8_words_X8_lacks : GoodIn wsX8_words wsX8_lacks := goodIn_r _ [6, 7, 8, 9, 5, 10, 11, 12, 13, 14, 15, 16, 17, 18, 19, 59, 60, 61, 62, 63, 64, 65, 66, 67, 68, 69, 70, 71, 72, 73, 74, 75, 76, 77, 78, 79, 80, 81, 82, 83, 84, 85, 86] (by decide +kernel) (by decide +kernel)
set_option maxRecDepth 20000 in
theorem gX8_words_X8_lacks : GoodIn wsX8_words (wsV RX8 133 RX8 yX8_lacks wsX8_lacks) := goodIn_app (goodIn_of _ (by decide +kernel)) ggX8_words_X8_lacks
set_option maxRecDepth 20000 in
theorem ggX8_words_X8_findReadings : GoodIn wsX8_words wsX8_findReadings := goodIn_r _ [23, 24, 25, 1, 26, 27, 28, 29, 5, 30, 31, 32, 33, 34, 35, 36, 37, 38, 39, 40, 41, 42, 43, 44, 45, 46, 47, 48, 49, 50, 51, 12, 13, 14, 52, 53, 54, 55, 56, 57, 58, 59, 60, 61, 62, 63, 64, 65, 66, 67, 68, 69, 70, 71, 72, 73, 74, 75, 76, 77, 78, 79, 80, 81, 82, 83, 84, 85, 86] (by decide +kernel) (by decide +kernel)
set_option maxRecDepth 20000 in
theorem gX8_words_X8_findReadings : GoodIn wsX8_words (wsV RX8 136 RX8 yX8_findReadings wsX8_findReadings) := goodIn_app (goodIn_of _ (by decide +kernel)) ggX8_words_X8_findReadings
theorem dX8_words_0 : decode cX8_words 0 = .ok (.aload_n 0, 1) := by decide +kernel
theorem dX8_words_1 : decode cX8_words 1 = .ok (.iload_n 1, 1) := by decide +kernel
theorem dX8_words_2 : decode cX8_words 2 = .ok (.invokevirtual 133, 3) := by decide +kernel
theorem dX8_words_5 : decode cX8_words 5 = .ok (.istore_n 2, 1) := by decide +kernel
theorem dX8_words_6 : decode cX8_words 6 = .ok (.iload_n 2, 1) := by decide +kernel
theorem dX8_words_7 : decode cX8_words 7 = .ok (.ifCond .eq 5, 3) := by decide +kernel
theorem dX8_words_10 : decode cX8_words 10 = .ok (.iload_n 2, 1) := by decide +kernel
theorem dX8_words_11 : decode cX8_words 11 = .ok (.ireturn, 1) := by decide +kernel
theorem dX8_words_12 : decode cX8_words 12 = .ok (.aload_n 0, 1) := by decide +kernel
theorem dX8_words_13 : decode cX8_words 13 = .ok (.iload_n 1, 1) := by decide +kernel
theorem dX8_words_14 : decode cX8_words 14 = .ok (.iconst (-1), 1) := by decide +kernel
theorem dX8_words_15 : decode cX8_words 15 = .ok (.invokevirtual 136, 3) := by decide +kernel
theorem dX8_words_18 : decode cX8_words 18 = .ok (.aload_n 0, 1) := by decide +kernel
theorem dX8_words_19 : decode cX8_words 19 = .ok (.getfield 120, 3) := by decide +kernel
theorem dX8_words_22 : decode cX8_words 22 = .ok (.ireturn, 1) := by decide +kernel
theorem dX8_findOrder_0 : decode cX8_findOrder 0 = .ok (.iconst 0, 1) := by decide +kernel
theorem dX8_findOrder_1 : decode cX8_findOrder 1 = .ok (.istore_n 2, 1) := by decide +kernel
theorem dX8_findOrder_2 : decode cX8_findOrder 2 = .ok (.iload_n 2, 1) := by decide +kernel
theorem dX8_findOrder_3 : decode cX8_findOrder 3 = .ok (.aload_n 0, 1) := by decide +kernel
theorem dX8_findOrder_4 : decode cX8_findOrder 4 = .ok (.getfield 25, 3) := by decide +kernel
theorem dX8_findOrder_7 : decode cX8_findOrder 7 = .ok (.iload_n 1, 1) := by decide +kernel
theorem dX8_findOrder_8 : decode cX8_findOrder 8 = .ok (.iaload, 1) := by decide +kernel
theorem dX8_findOrder_9 : decode cX8_findOrder 9 = .ok (.if_icmp .ge 84, 3) := by decide +kernel
theorem dX8_findOrder_12 : decode cX8_findOrder 12 = .ok (.iload_n 2, 1) := by decide +kernel
theorem dX8_findOrder_13 : decode cX8_findOrder 13 = .ok (.istore_n 3, 1) := by decide +kernel
theorem dX8_findOrder_14 : decode cX8_findOrder 14 = .ok (.iload_n 3, 1) := by decide +kernel
theorem dX8_findOrder_15 : decode cX8_findOrder 15 = .ok (.ifCond .le 65, 3) := by decide +kernel
theorem dX8_findOrder_18 : decode cX8_findOrder 18 = .ok (.aload_n 0, 1) := by decide +kernel
theorem dX8_findOrder_19 : decode cX8_findOrder 19 = .ok (.getfield 19, 3) := by decide +kernel
theorem dX8_findOrder_22 : decode cX8_findOrder 22 = .ok (.aload_n 0, 1) := by decide +kernel
theorem dX8_findOrder_23 : decode cX8_findOrder 23 = .ok (.getfield 28, 3) := by decide +kernel
theorem dX8_findOrder_26 : decode cX8_findOrder 26 = .ok (.bipush 10, 2) := by decide +kernel
theorem dX8_findOrder_28 : decode cX8_findOrder 28 = .ok (.iload_n 1, 1) := by decide +kernel
theorem dX8_findOrder_29 : decode cX8_findOrder 29 = .ok (.imul, 1) := by decide +kernel
theorem dX8_findOrder_30 : decode cX8_findOrder 30 = .ok (.aload_n 0, 1) := by decide +kernel
theorem dX8_findOrder_31 : decode cX8_findOrder 31 = .ok (.getfield 41, 3) := by decide +kernel
theorem dX8_findOrder_34 : decode cX8_findOrder 34 = .ok (.iload_n 3, 1) := by decide +kernel
theorem dX8_findOrder_35 : decode cX8_findOrder 35 = .ok (.iconst 1, 1) := by decide +kernel
theorem dX8_findOrder_36 : decode cX8_findOrder 36 = .ok (.isub, 1) := by decide +kernel
theorem dX8_findOrder_37 : decode cX8_findOrder 37 = .ok (.iaload, 1) := by decide +kernel
theorem dX8_findOrder_38 : decode cX8_findOrder 38 = .ok (.iadd, 1) := by decide +kernel
theorem dX8_findOrder_39 : decode cX8_findOrder 39 = .ok (.iaload, 1) := by decide +kernel
theorem dX8_findOrder_40 : decode cX8_findOrder 40 = .ok (.iaload, 1) := by decide +kernel
theorem dX8_findOrder_41 : decode cX8_findOrder 41 = .ok (.aload_n 0, 1) := by decide +kernel
theorem dX8_findOrder_42 : decode cX8_findOrder 42 = .ok (.getfield 19, 3) := by decide +kernel
theorem dX8_findOrder_45 : decode cX8_findOrder 45 = .ok (.aload_n 0, 1) := by decide +kernel
theorem dX8_findOrder_46 : decode cX8_findOrder 46 = .ok (.getfield 28, 3) := by decide +kernel
theorem dX8_findOrder_49 : decode cX8_findOrder 49 = .ok (.bipush 10, 2) := by decide +kernel
theorem dX8_findOrder_51 : decode cX8_findOrder 51 = .ok (.iload_n 1, 1) := by decide +kernel
theorem dX8_findOrder_52 : decode cX8_findOrder 52 = .ok (.imul, 1) := by decide +kernel
theorem dX8_findOrder_53 : decode cX8_findOrder 53 = .ok (.iload_n 2, 1) := by decide +kernel
theorem dX8_findOrder_54 : decode cX8_findOrder 54 = .ok (.iadd, 1) := by decide +kernel
theorem dX8_findOrder_55 : decode cX8_findOrder 55 = .ok (.iaload, 1) := by decide +kernel
theorem dX8_findOrder_56 : decode cX8_findOrder 56 = .ok (.iaload, 1) := by decide +kernel
theorem dX8_findOrder_57 : decode cX8_findOrder 57 = .ok (.if_icmp .le 23, 3) := by decide +kernel
theorem dX8_findOrder_60 : decode cX8_findOrder 60 = .ok (.aload_n 0, 1) := by decide +kernel
theorem dX8_findOrder_61 : decode cX8_findOrder 61 = .ok (.getfield 41, 3) := by decide +kernel
theorem dX8_findOrder_64 : decode cX8_findOrder 64 = .ok (.iload_n 3, 1) := by decide +kernel
theorem dX8_findOrder_65 : decode cX8_findOrder 65 = .ok (.aload_n 0, 1) := by decide +kernel
theorem dX8_findOrder_66 : decode cX8_findOrder 66 = .ok (.getfield 41, 3) := by decide +kernel
theorem dX8_findOrder_69 : decode cX8_findOrder 69 = .ok (.iload_n 3, 1) := by decide +kernel
theorem dX8_findOrder_70 : decode cX8_findOrder 70 = .ok (.iconst 1, 1) := by decide +kernel
theorem dX8_findOrder_71 : decode cX8_findOrder 71 = .ok (.isub, 1) := by decide +kernel
theorem dX8_findOrder_72 : decode cX8_findOrder 72 = .ok (.iaload, 1) := by decide +kernel
theorem dX8_findOrder_73 : decode cX8_findOrder 73 = .ok (.iastore, 1) := by decide +kernel
theorem dX8_findOrder_74 : decode cX8_findOrder 74 = .ok (.iinc 3 (-1), 3) := by decide +kernel
theorem dX8_findOrder_77 : decode cX8_findOrder 77 = .ok (.goto (-63), 3) := by decide +kernel
theorem dX8_findOrder_80 : decode cX8_findOrder 80 = .ok (.aload_n 0, 1) := by decide +kernel
theorem dX8_findOrder_81 : decode cX8_findOrder 81 = .ok (.getfield 41, 3) := by decide +kernel
theorem dX8_findOrder_84 : decode cX8_findOrder 84 = .ok (.iload_n 3, 1) := by decide +kernel
theorem dX8_findOrder_85 : decode cX8_findOrder 85 = .ok (.iload_n 2, 1) := by decide +kernel
theorem dX8_findOrder_86 : decode cX8_findOrder 86 = .ok (.iastore, 1) := by decide +kernel
theorem dX8_findOrder_87 : decode cX8_findOrder 87 = .ok (.iinc 2 1, 3) := by decide +kernel
theorem dX8_findOrder_90 : decode cX8_findOrder 90 = .ok (.goto (-88), 3) := by decide +kernel
theorem dX8_findOrder_93 : decode cX8_findOrder 93 = .ok (.aload_n 0, 1) := by decide +kernel
theorem dX8_findOrder_94 : decode cX8_findOrder 94 = .ok (.iconst 0, 1) := by decide +kernel
theorem dX8_findOrder_95 : decode cX8_findOrder 95 = .ok (.putfield 140, 3) := by decide +kernel
theorem dX8_findOrder_98 : decode cX8_findOrder 98 = .ok (.aload_n 0, 1) := by decide +kernel
theorem dX8_findOrder_99 : decode cX8_findOrder 99 = .ok (.iconst 0, 1) := by decide +kernel
theorem dX8_findOrder_100 : decode cX8_findOrder 100 = .ok (.putfield 143, 3) := by decide +kernel
theorem dX8_findOrder_103 : decode cX8_findOrder 103 = .ok (.iconst 0, 1) := by decide +kernel
theorem dX8_findOrder_104 : decode cX8_findOrder 104 = .ok (.istore_n 2, 1) := by decide +kernel
theorem dX8_findOrder_105 : decode cX8_findOrder 105 = .ok (.iconst 0, 1) := by decide +kernel
theorem dX8_findOrder_106 : decode cX8_findOrder 106 = .ok (.istore_n 3, 1) := by decide +kernel
theorem dX8_findOrder_107 : decode cX8_findOrder 107 = .ok (.iload_n 3, 1) := by decide +kernel
theorem dX8_findOrder_108 : decode cX8_findOrder 108 = .ok (.aload_n 0, 1) := by decide +kernel
theorem dX8_findOrder_109 : decode cX8_findOrder 109 = .ok (.getfield 25, 3) := by decide +kernel
theorem dX8_findOrder_112 : decode cX8_findOrder 112 = .ok (.iload_n 1, 1) := by decide +kernel
theorem dX8_findOrder_113 : decode cX8_findOrder 113 = .ok (.iaload, 1) := by decide +kernel
theorem dX8_findOrder_114 : decode cX8_findOrder 114 = .ok (.if_icmp .ge 89, 3) := by decide +kernel
theorem dX8_findOrder_117 : decode cX8_findOrder 117 = .ok (.aload_n 0, 1) := by decide +kernel
theorem dX8_findOrder_118 : decode cX8_findOrder 118 = .ok (.getfield 28, 3) := by decide +kernel
theorem dX8_findOrder_121 : decode cX8_findOrder 121 = .ok (.bipush 10, 2) := by decide +kernel
theorem dX8_findOrder_123 : decode cX8_findOrder 123 = .ok (.iload_n 1, 1) := by decide +kernel
theorem dX8_findOrder_124 : decode cX8_findOrder 124 = .ok (.imul, 1) := by decide +kernel
theorem dX8_findOrder_125 : decode cX8_findOrder 125 = .ok (.aload_n 0, 1) := by decide +kernel
theorem dX8_findOrder_126 : decode cX8_findOrder 126 = .ok (.getfield 41, 3) := by decide +kernel
theorem dX8_findOrder_129 : decode cX8_findOrder 129 = .ok (.iload_n 3, 1) := by decide +kernel
theorem dX8_findOrder_130 : decode cX8_findOrder 130 = .ok (.iaload, 1) := by decide +kernel
theorem dX8_findOrder_131 : decode cX8_findOrder 131 = .ok (.iadd, 1) := by decide +kernel
theorem dX8_findOrder_132 : decode cX8_findOrder 132 = .ok (.iaload, 1) := by decide +kernel
theorem dX8_findOrder_133 : decode cX8_findOrder 133 = .ok (.istore 4, 2) := by decide +kernel
theorem dX8_findOrder_135 : decode cX8_findOrder 135 = .ok (.iload_n 2, 1) := by decide +kernel
theorem dX8_findOrder_136 : decode cX8_findOrder 136 = .ok (.aload_n 0, 1) := by decide +kernel
theorem dX8_findOrder_137 : decode cX8_findOrder 137 = .ok (.getfield 16, 3) := by decide +kernel
theorem dX8_findOrder_140 : decode cX8_findOrder 140 = .ok (.iload 4, 2) := by decide +kernel
theorem dX8_findOrder_142 : decode cX8_findOrder 142 = .ok (.iaload, 1) := by decide +kernel
theorem dX8_findOrder_143 : decode cX8_findOrder 143 = .ok (.iadd, 1) := by decide +kernel
theorem dX8_findOrder_144 : decode cX8_findOrder 144 = .ok (.istore_n 2, 1) := by decide +kernel
theorem dX8_findOrder_145 : decode cX8_findOrder 145 = .ok (.iload_n 2, 1) := by decide +kernel
theorem dX8_findOrder_146 : decode cX8_findOrder 146 = .ok (.aload_n 0, 1) := by decide +kernel
theorem dX8_findOrder_147 : decode cX8_findOrder 147 = .ok (.getfield 19, 3) := by decide +kernel
theorem dX8_findOrder_150 : decode cX8_findOrder 150 = .ok (.iload 4, 2) := by decide +kernel
theorem dX8_findOrder_152 : decode cX8_findOrder 152 = .ok (.iaload, 1) := by decide +kernel
theorem dX8_findOrder_153 : decode cX8_findOrder 153 = .ok (.isub, 1) := by decide +kernel
theorem dX8_findOrder_154 : decode cX8_findOrder 154 = .ok (.istore 5, 2) := by decide +kernel
theorem dX8_findOrder_156 : decode cX8_findOrder 156 = .ok (.aload_n 0, 1) := by decide +kernel
theorem dX8_findOrder_157 : decode cX8_findOrder 157 = .ok (.iload 5, 2) := by decide +kernel
theorem dX8_findOrder_159 : decode cX8_findOrder 159 = .ok (.aload_n 0, 1) := by decide +kernel
theorem dX8_findOrder_160 : decode cX8_findOrder 160 = .ok (.getfield 140, 3) := by decide +kernel
theorem dX8_findOrder_163 : decode cX8_findOrder 163 = .ok (.if_icmp .le 8, 3) := by decide +kernel
theorem dX8_findOrder_166 : decode cX8_findOrder 166 = .ok (.iload 5, 2) := by decide +kernel
theorem dX8_findOrder_168 : decode cX8_findOrder 168 = .ok (.goto 7, 3) := by decide +kernel
theorem dX8_findOrder_171 : decode cX8_findOrder 171 = .ok (.aload_n 0, 1) := by decide +kernel
theorem dX8_findOrder_172 : decode cX8_findOrder 172 = .ok (.getfield 140, 3) := by decide +kernel
theorem dX8_findOrder_175 : decode cX8_findOrder 175 = .ok (.putfield 140, 3) := by decide +kernel
theorem dX8_findOrder_178 : decode cX8_findOrder 178 = .ok (.aload_n 0, 1) := by decide +kernel
theorem dX8_findOrder_179 : decode cX8_findOrder 179 = .ok (.dup, 1) := by decide +kernel
theorem dX8_findOrder_180 : decode cX8_findOrder 180 = .ok (.getfield 143, 3) := by decide +kernel
theorem dX8_findOrder_183 : decode cX8_findOrder 183 = .ok (.iload 5, 2) := by decide +kernel
theorem dX8_findOrder_185 : decode cX8_findOrder 185 = .ok (.ifCond .le 7, 3) := by decide +kernel
theorem dX8_findOrder_188 : decode cX8_findOrder 188 = .ok (.iconst 1, 1) := by decide +kernel
theorem dX8_findOrder_189 : decode cX8_findOrder 189 = .ok (.goto 4, 3) := by decide +kernel
theorem dX8_findOrder_192 : decode cX8_findOrder 192 = .ok (.iconst 0, 1) := by decide +kernel
theorem dX8_findOrder_193 : decode cX8_findOrder 193 = .ok (.iadd, 1) := by decide +kernel
theorem dX8_findOrder_194 : decode cX8_findOrder 194 = .ok (.putfield 143, 3) := by decide +kernel
theorem dX8_findOrder_197 : decode cX8_findOrder 197 = .ok (.iinc 3 1, 3) := by decide +kernel
theorem dX8_findOrder_200 : decode cX8_findOrder 200 = .ok (.goto (-93), 3) := by decide +kernel
theorem dX8_findOrder_203 : decode cX8_findOrder 203 = .ok (.return_, 1) := by decide +kernel
set_option maxRecDepth 20000 in
theorem ggX8_order_X8_isWord : GoodIn wsX8_order wsX8_isWord := goodIn_r _ [6, 7, 8, 9, 5, 10] (by decide +kernel) (by decide +kernel)
set_option maxRecDepth 20000 in
theorem gX8_order_X8_isWord : GoodIn wsX8_order (va_wsS RX8 89 yX8_isWord wsX8_isWord) := goodIn_app (goodIn_of _ (by decide +kernel)) ggX8_order_X8_isWord
set_option maxRecDepth 20000 in
theorem ggX8_order_X8_in : GoodIn wsX8_order wsX8_in := goodIn_r _ [10] (by decide +kernel) (by decide +kernel)
set_option maxRecDepth 20000 in
theorem gX8_order_X8_in : GoodIn wsX8_order (va_wsS RX8 69 yX8_in wsX8_in) := goodIn_app (goodIn_of _ (by decide +kernel)) ggX8_order_X8_in
set_option maxRecDepth 20000 in
theorem ggX8_order_X8_findOrder : GoodIn wsX8_order wsX8_findOrder := goodIn_r _ [14, 1, 15, 16, 2, 17, 18, 19, 20, 21, 22, 23, 24, 25, 26, 27, 28, 29, 30, 31, 32, 33, 34, 35, 36, 37, 38, 39, 40, 41, 42, 43, 44, 45, 46, 47] (by decide +kernel) (by decide +kernel)
set_option maxRecDepth 20000 in
theorem gX8_order_X8_findOrder : GoodIn wsX8_order (wsV RX8 146 RX8 yX8_findOrder wsX8_findOrder) := goodIn_app (goodIn_of _ (by decide +kernel)) ggX8_order_X8_findOrder
theorem dX8_order_0 : decode cX8_order 0 = .ok (.iload_n 1, 1) := by decide +kernel
theorem dX8_order_1 : decode cX8_order 1 = .ok (.invokestatic 89, 3) := by decide +kernel
theorem dX8_order_4 : decode cX8_order 4 = .ok (.ifCond .eq 21, 3) := by decide +kernel
theorem dX8_order_7 : decode cX8_order 7 = .ok (.iload_n 2, 1) := by decide +kernel
theorem dX8_order_8 : decode cX8_order 8 = .ok (.i2l, 1) := by decide +kernel
theorem dX8_order_9 : decode cX8_order 9 = .ok (.lconst 0, 1) := by decide +kernel
theorem dX8_order_10 : decode cX8_order 10 = .ok (.aload_n 0, 1) := by decide +kernel
theorem dX8_order_11 : decode cX8_order 11 = .ok (.getfield 25, 3) := by decide +kernel
theorem dX8_order_14 : decode cX8_order 14 = .ok (.iload_n 1, 1) := by decide +kernel
theorem dX8_order_15 : decode cX8_order 15 = .ok (.iaload, 1) := by decide +kernel
theorem dX8_order_16 : decode cX8_order 16 = .ok (.iconst 1, 1) := by decide +kernel
theorem dX8_order_17 : decode cX8_order 17 = .ok (.isub, 1) := by decide +kernel
theorem dX8_order_18 : decode cX8_order 18 = .ok (.i2l, 1) := by decide +kernel
theorem dX8_order_19 : decode cX8_order 19 = .ok (.invokestatic 69, 3) := by decide +kernel
theorem dX8_order_22 : decode cX8_order 22 = .ok (.ifCond .ne 6, 3) := by decide +kernel
theorem dX8_order_25 : decode cX8_order 25 = .ok (.bipush (-2), 2) := by decide +kernel
theorem dX8_order_27 : decode cX8_order 27 = .ok (.ireturn, 1) := by decide +kernel
theorem dX8_order_28 : decode cX8_order 28 = .ok (.aload_n 0, 1) := by decide +kernel
theorem dX8_order_29 : decode cX8_order 29 = .ok (.iload_n 1, 1) := by decide +kernel
theorem dX8_order_30 : decode cX8_order 30 = .ok (.invokevirtual 146, 3) := by decide +kernel
theorem dX8_order_33 : decode cX8_order 33 = .ok (.aload_n 0, 1) := by decide +kernel
theorem dX8_order_34 : decode cX8_order 34 = .ok (.getfield 41, 3) := by decide +kernel
theorem dX8_order_37 : decode cX8_order 37 = .ok (.iload_n 2, 1) := by decide +kernel
theorem dX8_order_38 : decode cX8_order 38 = .ok (.iaload, 1) := by decide +kernel
theorem dX8_order_39 : decode cX8_order 39 = .ok (.ireturn, 1) := by decide +kernel
set_option maxRecDepth 20000 in
theorem ggX8_late_X8_isWord : GoodIn wsX8_late wsX8_isWord := goodIn_r _ [5, 6, 7, 8, 4, 9] (by decide +kernel) (by decide +kernel)
set_option maxRecDepth 20000 in
theorem gX8_late_X8_isWord : GoodIn wsX8_late (va_wsS RX8 89 yX8_isWord wsX8_isWord) := goodIn_app (goodIn_of _ (by decide +kernel)) ggX8_late_X8_isWord
set_option maxRecDepth 20000 in
theorem ggX8_late_X8_findOrder : GoodIn wsX8_late wsX8_findOrder := goodIn_r _ [13, 14, 15, 16, 17, 1, 18, 19, 20, 21, 22, 23, 24, 25, 26, 27, 28, 29, 30, 31, 32, 33, 34, 35, 36, 37, 38, 39, 40, 41, 42, 43, 44, 45, 46, 47] (by decide +kernel) (by decide +kernel)
set_option maxRecDepth 20000 in
theorem gX8_late_X8_findOrder : GoodIn wsX8_late (wsV RX8 146 RX8 yX8_findOrder wsX8_findOrder) := goodIn_app (goodIn_of _ (by decide +kernel)) ggX8_late_X8_findOrder
theorem dX8_late_0 : decode cX8_late 0 = .ok (.iload_n 1, 1) := by decide +kernel
theorem dX8_late_1 : decode cX8_late 1 = .ok (.invokestatic 89, 3) := by decide +kernel
theorem dX8_late_4 : decode cX8_late 4 = .ok (.ifCond .ne 6, 3) := by decide +kernel
theorem dX8_late_7 : decode cX8_late 7 = .ok (.bipush (-2), 2) := by decide +kernel
theorem dX8_late_9 : decode cX8_late 9 = .ok (.ireturn, 1) := by decide +kernel
theorem dX8_late_10 : decode cX8_late 10 = .ok (.aload_n 0, 1) := by decide +kernel
theorem dX8_late_11 : decode cX8_late 11 = .ok (.iload_n 1, 1) := by decide +kernel
theorem dX8_late_12 : decode cX8_late 12 = .ok (.invokevirtual 146, 3) := by decide +kernel
theorem dX8_late_15 : decode cX8_late 15 = .ok (.aload_n 0, 1) := by decide +kernel
theorem dX8_late_16 : decode cX8_late 16 = .ok (.getfield 140, 3) := by decide +kernel
theorem dX8_late_19 : decode cX8_late 19 = .ok (.ireturn, 1) := by decide +kernel
set_option maxRecDepth 20000 in
theorem ggX8_spoiled_X8_isWord : GoodIn wsX8_spoiled wsX8_isWord := goodIn_r _ [5, 6, 7, 8, 4, 9] (by decide +kernel) (by decide +kernel)
set_option maxRecDepth 20000 in
theorem gX8_spoiled_X8_isWord : GoodIn wsX8_spoiled (va_wsS RX8 89 yX8_isWord wsX8_isWord) := goodIn_app (goodIn_of _ (by decide +kernel)) ggX8_spoiled_X8_isWord
set_option maxRecDepth 20000 in
theorem ggX8_spoiled_X8_findOrder : GoodIn wsX8_spoiled wsX8_findOrder := goodIn_r _ [13, 14, 15, 16, 17, 18, 1, 19, 20, 21, 22, 23, 24, 25, 26, 27, 28, 29, 30, 31, 32, 33, 34, 35, 36, 37, 38, 39, 40, 41, 42, 43, 44, 45, 46, 47] (by decide +kernel) (by decide +kernel)
set_option maxRecDepth 20000 in
theorem gX8_spoiled_X8_findOrder : GoodIn wsX8_spoiled (wsV RX8 146 RX8 yX8_findOrder wsX8_findOrder) := goodIn_app (goodIn_of _ (by decide +kernel)) ggX8_spoiled_X8_findOrder
theorem dX8_spoiled_0 : decode cX8_spoiled 0 = .ok (.iload_n 1, 1) := by decide +kernel
theorem dX8_spoiled_1 : decode cX8_spoiled 1 = .ok (.invokestatic 89, 3) := by decide +kernel
theorem dX8_spoiled_4 : decode cX8_spoiled 4 = .ok (.ifCond .ne 6, 3) := by decide +kernel
theorem dX8_spoiled_7 : decode cX8_spoiled 7 = .ok (.bipush (-2), 2) := by decide +kernel
theorem dX8_spoiled_9 : decode cX8_spoiled 9 = .ok (.ireturn, 1) := by decide +kernel
theorem dX8_spoiled_10 : decode cX8_spoiled 10 = .ok (.aload_n 0, 1) := by decide +kernel
theorem dX8_spoiled_11 : decode cX8_spoiled 11 = .ok (.iload_n 1, 1) := by decide +kernel
theorem dX8_spoiled_12 : decode cX8_spoiled 12 = .ok (.invokevirtual 146, 3) := by decide +kernel
theorem dX8_spoiled_15 : decode cX8_spoiled 15 = .ok (.aload_n 0, 1) := by decide +kernel
theorem dX8_spoiled_16 : decode cX8_spoiled 16 = .ok (.getfield 143, 3) := by decide +kernel
theorem dX8_spoiled_19 : decode cX8_spoiled 19 = .ok (.ireturn, 1) := by decide +kernel
set_option maxRecDepth 20000 in
theorem ggX8_set_X8_in : GoodIn wsX8_set wsX8_in := goodIn_r _ [9] (by decide +kernel) (by decide +kernel)
set_option maxRecDepth 20000 in
theorem gX8_set_X8_in : GoodIn wsX8_set (va_wsS RX8 69 yX8_in wsX8_in) := goodIn_app (goodIn_of _ (by decide +kernel)) ggX8_set_X8_in
theorem dX8_set_0 : decode cX8_set 0 = .ok (.iload_n 1, 1) := by decide +kernel
theorem dX8_set_1 : decode cX8_set 1 = .ok (.ifCond .ne 17, 3) := by decide +kernel
theorem dX8_set_4 : decode cX8_set 4 = .ok (.iload_n 2, 1) := by decide +kernel
theorem dX8_set_5 : decode cX8_set 5 = .ok (.i2l, 1) := by decide +kernel
theorem dX8_set_6 : decode cX8_set 6 = .ok (.ldc2_w 87, 3) := by decide +kernel
theorem dX8_set_9 : decode cX8_set 9 = .ok (.ldc2_w 149, 3) := by decide +kernel
theorem dX8_set_12 : decode cX8_set 12 = .ok (.invokestatic 69, 3) := by decide +kernel
theorem dX8_set_15 : decode cX8_set 15 = .ok (.goto 59, 3) := by decide +kernel
theorem dX8_set_18 : decode cX8_set 18 = .ok (.iload_n 1, 1) := by decide +kernel
theorem dX8_set_19 : decode cX8_set 19 = .ok (.iconst 1, 1) := by decide +kernel
theorem dX8_set_20 : decode cX8_set 20 = .ok (.if_icmp .ne 15, 3) := by decide +kernel
theorem dX8_set_23 : decode cX8_set 23 = .ok (.iload_n 2, 1) := by decide +kernel
theorem dX8_set_24 : decode cX8_set 24 = .ok (.i2l, 1) := by decide +kernel
theorem dX8_set_25 : decode cX8_set 25 = .ok (.lconst 0, 1) := by decide +kernel
theorem dX8_set_26 : decode cX8_set 26 = .ok (.ldc2_w 151, 3) := by decide +kernel
theorem dX8_set_29 : decode cX8_set 29 = .ok (.invokestatic 69, 3) := by decide +kernel
theorem dX8_set_32 : decode cX8_set 32 = .ok (.goto 42, 3) := by decide +kernel
theorem dX8_set_35 : decode cX8_set 35 = .ok (.iload_n 1, 1) := by decide +kernel
theorem dX8_set_36 : decode cX8_set 36 = .ok (.iconst 2, 1) := by decide +kernel
theorem dX8_set_37 : decode cX8_set 37 = .ok (.if_icmp .ne 15, 3) := by decide +kernel
theorem dX8_set_40 : decode cX8_set 40 = .ok (.iload_n 2, 1) := by decide +kernel
theorem dX8_set_41 : decode cX8_set 41 = .ok (.i2l, 1) := by decide +kernel
theorem dX8_set_42 : decode cX8_set 42 = .ok (.lconst 1, 1) := by decide +kernel
theorem dX8_set_43 : decode cX8_set 43 = .ok (.ldc2_w 151, 3) := by decide +kernel
theorem dX8_set_46 : decode cX8_set 46 = .ok (.invokestatic 69, 3) := by decide +kernel
theorem dX8_set_49 : decode cX8_set 49 = .ok (.goto 25, 3) := by decide +kernel
theorem dX8_set_52 : decode cX8_set 52 = .ok (.iload_n 1, 1) := by decide +kernel
theorem dX8_set_53 : decode cX8_set 53 = .ok (.iconst 3, 1) := by decide +kernel
theorem dX8_set_54 : decode cX8_set 54 = .ok (.if_icmp .ne 19, 3) := by decide +kernel
theorem dX8_set_57 : decode cX8_set 57 = .ok (.iload_n 2, 1) := by decide +kernel
theorem dX8_set_58 : decode cX8_set 58 = .ok (.i2l, 1) := by decide +kernel
theorem dX8_set_59 : decode cX8_set 59 = .ok (.lconst 0, 1) := by decide +kernel
theorem dX8_set_60 : decode cX8_set 60 = .ok (.ldc2_w 153, 3) := by decide +kernel
theorem dX8_set_63 : decode cX8_set 63 = .ok (.invokestatic 69, 3) := by decide +kernel
theorem dX8_set_66 : decode cX8_set 66 = .ok (.ifCond .eq 7, 3) := by decide +kernel
theorem dX8_set_69 : decode cX8_set 69 = .ok (.iconst 1, 1) := by decide +kernel
theorem dX8_set_70 : decode cX8_set 70 = .ok (.goto 4, 3) := by decide +kernel
theorem dX8_set_73 : decode cX8_set 73 = .ok (.iconst 0, 1) := by decide +kernel
theorem dX8_set_74 : decode cX8_set 74 = .ok (.istore_n 3, 1) := by decide +kernel
theorem dX8_set_75 : decode cX8_set 75 = .ok (.iload_n 3, 1) := by decide +kernel
theorem dX8_set_76 : decode cX8_set 76 = .ok (.ifCond .ne 6, 3) := by decide +kernel
theorem dX8_set_79 : decode cX8_set 79 = .ok (.bipush (-2), 2) := by decide +kernel
theorem dX8_set_81 : decode cX8_set 81 = .ok (.ireturn, 1) := by decide +kernel
theorem dX8_set_82 : decode cX8_set 82 = .ok (.aload_n 0, 1) := by decide +kernel
theorem dX8_set_83 : decode cX8_set 83 = .ok (.getfield 7, 3) := by decide +kernel
theorem dX8_set_86 : decode cX8_set 86 = .ok (.iload_n 1, 1) := by decide +kernel
theorem dX8_set_87 : decode cX8_set 87 = .ok (.iaload, 1) := by decide +kernel
theorem dX8_set_88 : decode cX8_set 88 = .ok (.istore 4, 2) := by decide +kernel
theorem dX8_set_90 : decode cX8_set 90 = .ok (.aload_n 0, 1) := by decide +kernel
theorem dX8_set_91 : decode cX8_set 91 = .ok (.getfield 7, 3) := by decide +kernel
theorem dX8_set_94 : decode cX8_set 94 = .ok (.iload_n 1, 1) := by decide +kernel
theorem dX8_set_95 : decode cX8_set 95 = .ok (.iload_n 2, 1) := by decide +kernel
theorem dX8_set_96 : decode cX8_set 96 = .ok (.iastore, 1) := by decide +kernel
theorem dX8_set_97 : decode cX8_set 97 = .ok (.iload 4, 2) := by decide +kernel
theorem dX8_set_99 : decode cX8_set 99 = .ok (.ireturn, 1) := by decide +kernel
set_option maxRecDepth 20000 in
theorem ggX8_lump_X8_isWord : GoodIn wsX8_lump wsX8_isWord := goodIn_r _ [12, 13, 14, 15, 11, 16] (by decide +kernel) (by decide +kernel)
set_option maxRecDepth 20000 in
theorem gX8_lump_X8_isWord : GoodIn wsX8_lump (va_wsS RX8 89 yX8_isWord wsX8_isWord) := goodIn_app (goodIn_of _ (by decide +kernel)) ggX8_lump_X8_isWord
set_option maxRecDepth 20000 in
theorem ggX8_lump_X8_in : GoodIn wsX8_lump wsX8_in := goodIn_r _ [16] (by decide +kernel) (by decide +kernel)
set_option maxRecDepth 20000 in
theorem gX8_lump_X8_in : GoodIn wsX8_lump (va_wsS RX8 69 yX8_in wsX8_in) := goodIn_app (goodIn_of _ (by decide +kernel)) ggX8_lump_X8_in
set_option maxRecDepth 20000 in
theorem ggX8_lump_X8_fits : GoodIn wsX8_lump wsX8_fits := goodIn_r _ [20, 21, 22, 23, 24, 25, 11, 26, 27, 28, 29, 30, 31, 32, 33, 34, 35, 36, 37, 38, 39, 40, 41, 42, 43, 44, 45, 46, 47, 48, 49, 50, 51, 52, 53, 54, 55, 56, 57] (by decide +kernel) (by decide +kernel)
set_option maxRecDepth 20000 in
theorem gX8_lump_X8_fits : GoodIn wsX8_lump (wsV RX8 100 RX8 yX8_fits wsX8_fits) := goodIn_app (goodIn_of _ (by decide +kernel)) ggX8_lump_X8_fits
theorem dX8_lump_0 : decode cX8_lump 0 = .ok (.aload_n 0, 1) := by decide +kernel
theorem dX8_lump_1 : decode cX8_lump 1 = .ok (.getfield 155, 3) := by decide +kernel
theorem dX8_lump_4 : decode cX8_lump 4 = .ok (.ifCond .ne 7, 3) := by decide +kernel
theorem dX8_lump_7 : decode cX8_lump 7 = .ok (.iconst 0, 1) := by decide +kernel
theorem dX8_lump_8 : decode cX8_lump 8 = .ok (.goto 17, 3) := by decide +kernel
theorem dX8_lump_11 : decode cX8_lump 11 = .ok (.aload_n 0, 1) := by decide +kernel
theorem dX8_lump_12 : decode cX8_lump 12 = .ok (.getfield 44, 3) := by decide +kernel
theorem dX8_lump_15 : decode cX8_lump 15 = .ok (.bipush 6, 2) := by decide +kernel
theorem dX8_lump_17 : decode cX8_lump 17 = .ok (.aload_n 0, 1) := by decide +kernel
theorem dX8_lump_18 : decode cX8_lump 18 = .ok (.getfield 155, 3) := by decide +kernel
theorem dX8_lump_21 : decode cX8_lump 21 = .ok (.imul, 1) := by decide +kernel
theorem dX8_lump_22 : decode cX8_lump 22 = .ok (.iconst 4, 1) := by decide +kernel
theorem dX8_lump_23 : decode cX8_lump 23 = .ok (.isub, 1) := by decide +kernel
theorem dX8_lump_24 : decode cX8_lump 24 = .ok (.iaload, 1) := by decide +kernel
theorem dX8_lump_25 : decode cX8_lump 25 = .ok (.istore 5, 2) := by decide +kernel
theorem dX8_lump_27 : decode cX8_lump 27 = .ok (.iload_n 1, 1) := by decide +kernel
theorem dX8_lump_28 : decode cX8_lump 28 = .ok (.invokestatic 89, 3) := by decide +kernel
theorem dX8_lump_31 : decode cX8_lump 31 = .ok (.ifCond .eq 42, 3) := by decide +kernel
theorem dX8_lump_34 : decode cX8_lump 34 = .ok (.iload_n 2, 1) := by decide +kernel
theorem dX8_lump_35 : decode cX8_lump 35 = .ok (.i2l, 1) := by decide +kernel
theorem dX8_lump_36 : decode cX8_lump 36 = .ok (.lconst 0, 1) := by decide +kernel
theorem dX8_lump_37 : decode cX8_lump 37 = .ok (.ldc2_w 77, 3) := by decide +kernel
theorem dX8_lump_40 : decode cX8_lump 40 = .ok (.invokestatic 69, 3) := by decide +kernel
theorem dX8_lump_43 : decode cX8_lump 43 = .ok (.ifCond .eq 30, 3) := by decide +kernel
theorem dX8_lump_46 : decode cX8_lump 46 = .ok (.iload_n 3, 1) := by decide +kernel
theorem dX8_lump_47 : decode cX8_lump 47 = .ok (.i2l, 1) := by decide +kernel
theorem dX8_lump_48 : decode cX8_lump 48 = .ok (.iload 5, 2) := by decide +kernel
theorem dX8_lump_50 : decode cX8_lump 50 = .ok (.i2l, 1) := by decide +kernel
theorem dX8_lump_51 : decode cX8_lump 51 = .ok (.ldc2_w 158, 3) := by decide +kernel
theorem dX8_lump_54 : decode cX8_lump 54 = .ok (.invokestatic 69, 3) := by decide +kernel
theorem dX8_lump_57 : decode cX8_lump 57 = .ok (.ifCond .eq 16, 3) := by decide +kernel
theorem dX8_lump_60 : decode cX8_lump 60 = .ok (.iload 4, 2) := by decide +kernel
theorem dX8_lump_62 : decode cX8_lump 62 = .ok (.i2l, 1) := by decide +kernel
theorem dX8_lump_63 : decode cX8_lump 63 = .ok (.lconst 1, 1) := by decide +kernel
theorem dX8_lump_64 : decode cX8_lump 64 = .ok (.ldc2_w 149, 3) := by decide +kernel
theorem dX8_lump_67 : decode cX8_lump 67 = .ok (.invokestatic 69, 3) := by decide +kernel
theorem dX8_lump_70 : decode cX8_lump 70 = .ok (.ifCond .ne 6, 3) := by decide +kernel
theorem dX8_lump_73 : decode cX8_lump 73 = .ok (.bipush (-2), 2) := by decide +kernel
theorem dX8_lump_75 : decode cX8_lump 75 = .ok (.ireturn, 1) := by decide +kernel
theorem dX8_lump_76 : decode cX8_lump 76 = .ok (.aload_n 0, 1) := by decide +kernel
theorem dX8_lump_77 : decode cX8_lump 77 = .ok (.iload_n 1, 1) := by decide +kernel
theorem dX8_lump_78 : decode cX8_lump 78 = .ok (.invokevirtual 100, 3) := by decide +kernel
theorem dX8_lump_81 : decode cX8_lump 81 = .ok (.ifCond .ne 6, 3) := by decide +kernel
theorem dX8_lump_84 : decode cX8_lump 84 = .ok (.bipush (-3), 2) := by decide +kernel
theorem dX8_lump_86 : decode cX8_lump 86 = .ok (.ireturn, 1) := by decide +kernel
theorem dX8_lump_87 : decode cX8_lump 87 = .ok (.aload_n 0, 1) := by decide +kernel
theorem dX8_lump_88 : decode cX8_lump 88 = .ok (.getfield 155, 3) := by decide +kernel
theorem dX8_lump_91 : decode cX8_lump 91 = .ok (.bipush 40, 2) := by decide +kernel
theorem dX8_lump_93 : decode cX8_lump 93 = .ok (.if_icmp .ne 6, 3) := by decide +kernel
theorem dX8_lump_96 : decode cX8_lump 96 = .ok (.bipush (-4), 2) := by decide +kernel
theorem dX8_lump_98 : decode cX8_lump 98 = .ok (.ireturn, 1) := by decide +kernel
theorem dX8_lump_99 : decode cX8_lump 99 = .ok (.iload 4, 2) := by decide +kernel
theorem dX8_lump_101 : decode cX8_lump 101 = .ok (.aload_n 0, 1) := by decide +kernel
theorem dX8_lump_102 : decode cX8_lump 102 = .ok (.getfield 7, 3) := by decide +kernel
theorem dX8_lump_105 : decode cX8_lump 105 = .ok (.iconst 0, 1) := by decide +kernel
theorem dX8_lump_106 : decode cX8_lump 106 = .ok (.iaload, 1) := by decide +kernel
theorem dX8_lump_107 : decode cX8_lump 107 = .ok (.imul, 1) := by decide +kernel
theorem dX8_lump_108 : decode cX8_lump 108 = .ok (.istore 6, 2) := by decide +kernel
theorem dX8_lump_110 : decode cX8_lump 110 = .ok (.iload 6, 2) := by decide +kernel
theorem dX8_lump_112 : decode cX8_lump 112 = .ok (.iconst 2, 1) := by decide +kernel
theorem dX8_lump_113 : decode cX8_lump 113 = .ok (.aload_n 0, 1) := by decide +kernel
theorem dX8_lump_114 : decode cX8_lump 114 = .ok (.getfield 7, 3) := by decide +kernel
theorem dX8_lump_117 : decode cX8_lump 117 = .ok (.iconst 1, 1) := by decide +kernel
theorem dX8_lump_118 : decode cX8_lump 118 = .ok (.iaload, 1) := by decide +kernel
theorem dX8_lump_119 : decode cX8_lump 119 = .ok (.imul, 1) := by decide +kernel
theorem dX8_lump_120 : decode cX8_lump 120 = .ok (.if_icmp .le 24, 3) := by decide +kernel
theorem dX8_lump_123 : decode cX8_lump 123 = .ok (.iload 6, 2) := by decide +kernel
theorem dX8_lump_125 : decode cX8_lump 125 = .ok (.iconst 2, 1) := by decide +kernel
theorem dX8_lump_126 : decode cX8_lump 126 = .ok (.aload_n 0, 1) := by decide +kernel
theorem dX8_lump_127 : decode cX8_lump 127 = .ok (.getfield 7, 3) := by decide +kernel
theorem dX8_lump_130 : decode cX8_lump 130 = .ok (.iconst 1, 1) := by decide +kernel
theorem dX8_lump_131 : decode cX8_lump 131 = .ok (.iaload, 1) := by decide +kernel
theorem dX8_lump_132 : decode cX8_lump 132 = .ok (.imul, 1) := by decide +kernel
theorem dX8_lump_133 : decode cX8_lump 133 = .ok (.isub, 1) := by decide +kernel
theorem dX8_lump_134 : decode cX8_lump 134 = .ok (.aload_n 0, 1) := by decide +kernel
theorem dX8_lump_135 : decode cX8_lump 135 = .ok (.getfield 7, 3) := by decide +kernel
theorem dX8_lump_138 : decode cX8_lump 138 = .ok (.iconst 2, 1) := by decide +kernel
theorem dX8_lump_139 : decode cX8_lump 139 = .ok (.iaload, 1) := by decide +kernel
theorem dX8_lump_140 : decode cX8_lump 140 = .ok (.idiv, 1) := by decide +kernel
theorem dX8_lump_141 : decode cX8_lump 141 = .ok (.goto 4, 3) := by decide +kernel
theorem dX8_lump_144 : decode cX8_lump 144 = .ok (.iconst 0, 1) := by decide +kernel
theorem dX8_lump_145 : decode cX8_lump 145 = .ok (.istore 7, 2) := by decide +kernel
theorem dX8_lump_147 : decode cX8_lump 147 = .ok (.bipush 6, 2) := by decide +kernel
theorem dX8_lump_149 : decode cX8_lump 149 = .ok (.aload_n 0, 1) := by decide +kernel
theorem dX8_lump_150 : decode cX8_lump 150 = .ok (.getfield 155, 3) := by decide +kernel
theorem dX8_lump_153 : decode cX8_lump 153 = .ok (.imul, 1) := by decide +kernel
theorem dX8_lump_154 : decode cX8_lump 154 = .ok (.istore 8, 2) := by decide +kernel
theorem dX8_lump_156 : decode cX8_lump 156 = .ok (.aload_n 0, 1) := by decide +kernel
theorem dX8_lump_157 : decode cX8_lump 157 = .ok (.getfield 44, 3) := by decide +kernel
theorem dX8_lump_160 : decode cX8_lump 160 = .ok (.iload 8, 2) := by decide +kernel
theorem dX8_lump_162 : decode cX8_lump 162 = .ok (.iload_n 1, 1) := by decide +kernel
theorem dX8_lump_163 : decode cX8_lump 163 = .ok (.iastore, 1) := by decide +kernel
theorem dX8_lump_164 : decode cX8_lump 164 = .ok (.aload_n 0, 1) := by decide +kernel
theorem dX8_lump_165 : decode cX8_lump 165 = .ok (.getfield 44, 3) := by decide +kernel
theorem dX8_lump_168 : decode cX8_lump 168 = .ok (.iload 8, 2) := by decide +kernel
theorem dX8_lump_170 : decode cX8_lump 170 = .ok (.iconst 1, 1) := by decide +kernel
theorem dX8_lump_171 : decode cX8_lump 171 = .ok (.iadd, 1) := by decide +kernel
theorem dX8_lump_172 : decode cX8_lump 172 = .ok (.iload_n 2, 1) := by decide +kernel
theorem dX8_lump_173 : decode cX8_lump 173 = .ok (.iastore, 1) := by decide +kernel
theorem dX8_lump_174 : decode cX8_lump 174 = .ok (.aload_n 0, 1) := by decide +kernel
theorem dX8_lump_175 : decode cX8_lump 175 = .ok (.getfield 44, 3) := by decide +kernel
theorem dX8_lump_178 : decode cX8_lump 178 = .ok (.iload 8, 2) := by decide +kernel
theorem dX8_lump_180 : decode cX8_lump 180 = .ok (.iconst 2, 1) := by decide +kernel
theorem dX8_lump_181 : decode cX8_lump 181 = .ok (.iadd, 1) := by decide +kernel
theorem dX8_lump_182 : decode cX8_lump 182 = .ok (.iload_n 3, 1) := by decide +kernel
theorem dX8_lump_183 : decode cX8_lump 183 = .ok (.iastore, 1) := by decide +kernel
theorem dX8_lump_184 : decode cX8_lump 184 = .ok (.aload_n 0, 1) := by decide +kernel
theorem dX8_lump_185 : decode cX8_lump 185 = .ok (.getfield 44, 3) := by decide +kernel
theorem dX8_lump_188 : decode cX8_lump 188 = .ok (.iload 8, 2) := by decide +kernel
theorem dX8_lump_190 : decode cX8_lump 190 = .ok (.iconst 3, 1) := by decide +kernel
theorem dX8_lump_191 : decode cX8_lump 191 = .ok (.iadd, 1) := by decide +kernel
theorem dX8_lump_192 : decode cX8_lump 192 = .ok (.aload_n 0, 1) := by decide +kernel
theorem dX8_lump_193 : decode cX8_lump 193 = .ok (.getfield 160, 3) := by decide +kernel
theorem dX8_lump_196 : decode cX8_lump 196 = .ok (.iastore, 1) := by decide +kernel
theorem dX8_lump_197 : decode cX8_lump 197 = .ok (.aload_n 0, 1) := by decide +kernel
theorem dX8_lump_198 : decode cX8_lump 198 = .ok (.getfield 44, 3) := by decide +kernel
theorem dX8_lump_201 : decode cX8_lump 201 = .ok (.iload 8, 2) := by decide +kernel
theorem dX8_lump_203 : decode cX8_lump 203 = .ok (.iconst 4, 1) := by decide +kernel
theorem dX8_lump_204 : decode cX8_lump 204 = .ok (.iadd, 1) := by decide +kernel
theorem dX8_lump_205 : decode cX8_lump 205 = .ok (.iload 7, 2) := by decide +kernel
theorem dX8_lump_207 : decode cX8_lump 207 = .ok (.iastore, 1) := by decide +kernel
theorem dX8_lump_208 : decode cX8_lump 208 = .ok (.aload_n 0, 1) := by decide +kernel
theorem dX8_lump_209 : decode cX8_lump 209 = .ok (.getfield 44, 3) := by decide +kernel
theorem dX8_lump_212 : decode cX8_lump 212 = .ok (.iload 8, 2) := by decide +kernel
theorem dX8_lump_214 : decode cX8_lump 214 = .ok (.iconst 5, 1) := by decide +kernel
theorem dX8_lump_215 : decode cX8_lump 215 = .ok (.iadd, 1) := by decide +kernel
theorem dX8_lump_216 : decode cX8_lump 216 = .ok (.iload 6, 2) := by decide +kernel
theorem dX8_lump_218 : decode cX8_lump 218 = .ok (.iload 7, 2) := by decide +kernel
theorem dX8_lump_220 : decode cX8_lump 220 = .ok (.aload_n 0, 1) := by decide +kernel
theorem dX8_lump_221 : decode cX8_lump 221 = .ok (.getfield 7, 3) := by decide +kernel
theorem dX8_lump_224 : decode cX8_lump 224 = .ok (.iconst 2, 1) := by decide +kernel
theorem dX8_lump_225 : decode cX8_lump 225 = .ok (.iaload, 1) := by decide +kernel
theorem dX8_lump_226 : decode cX8_lump 226 = .ok (.imul, 1) := by decide +kernel
theorem dX8_lump_227 : decode cX8_lump 227 = .ok (.isub, 1) := by decide +kernel
theorem dX8_lump_228 : decode cX8_lump 228 = .ok (.iastore, 1) := by decide +kernel
theorem dX8_lump_229 : decode cX8_lump 229 = .ok (.aload_n 0, 1) := by decide +kernel
theorem dX8_lump_230 : decode cX8_lump 230 = .ok (.dup, 1) := by decide +kernel
theorem dX8_lump_231 : decode cX8_lump 231 = .ok (.getfield 160, 3) := by decide +kernel
theorem dX8_lump_234 : decode cX8_lump 234 = .ok (.iload 7, 2) := by decide +kernel
theorem dX8_lump_236 : decode cX8_lump 236 = .ok (.iadd, 1) := by decide +kernel
theorem dX8_lump_237 : decode cX8_lump 237 = .ok (.putfield 160, 3) := by decide +kernel
theorem dX8_lump_240 : decode cX8_lump 240 = .ok (.aload_n 0, 1) := by decide +kernel
theorem dX8_lump_241 : decode cX8_lump 241 = .ok (.dup, 1) := by decide +kernel
theorem dX8_lump_242 : decode cX8_lump 242 = .ok (.getfield 163, 3) := by decide +kernel
theorem dX8_lump_245 : decode cX8_lump 245 = .ok (.aload_n 0, 1) := by decide +kernel
theorem dX8_lump_246 : decode cX8_lump 246 = .ok (.getfield 44, 3) := by decide +kernel
theorem dX8_lump_249 : decode cX8_lump 249 = .ok (.iload 8, 2) := by decide +kernel
theorem dX8_lump_251 : decode cX8_lump 251 = .ok (.iconst 5, 1) := by decide +kernel
theorem dX8_lump_252 : decode cX8_lump 252 = .ok (.iadd, 1) := by decide +kernel
theorem dX8_lump_253 : decode cX8_lump 253 = .ok (.iaload, 1) := by decide +kernel
theorem dX8_lump_254 : decode cX8_lump 254 = .ok (.iadd, 1) := by decide +kernel
theorem dX8_lump_255 : decode cX8_lump 255 = .ok (.putfield 163, 3) := by decide +kernel
theorem dX8_lump_258 : decode cX8_lump 258 = .ok (.aload_n 0, 1) := by decide +kernel
theorem dX8_lump_259 : decode cX8_lump 259 = .ok (.dup, 1) := by decide +kernel
theorem dX8_lump_260 : decode cX8_lump 260 = .ok (.getfield 155, 3) := by decide +kernel
theorem dX8_lump_263 : decode cX8_lump 263 = .ok (.iconst 1, 1) := by decide +kernel
theorem dX8_lump_264 : decode cX8_lump 264 = .ok (.iadd, 1) := by decide +kernel
theorem dX8_lump_265 : decode cX8_lump 265 = .ok (.putfield 155, 3) := by decide +kernel
theorem dX8_lump_268 : decode cX8_lump 268 = .ok (.iload 7, 2) := by decide +kernel
theorem dX8_lump_270 : decode cX8_lump 270 = .ok (.ireturn, 1) := by decide +kernel
set_option maxRecDepth 20000 in
theorem ggX8_made_X8_in : GoodIn wsX8_made wsX8_in := goodIn_r _ [7] (by decide +kernel) (by decide +kernel)
set_option maxRecDepth 20000 in
theorem gX8_made_X8_in : GoodIn wsX8_made (va_wsS RX8 69 yX8_in wsX8_in) := goodIn_app (goodIn_of _ (by decide +kernel)) ggX8_made_X8_in
theorem dX8_made_0 : decode cX8_made 0 = .ok (.iload_n 1, 1) := by decide +kernel
theorem dX8_made_1 : decode cX8_made 1 = .ok (.i2l, 1) := by decide +kernel
theorem dX8_made_2 : decode cX8_made 2 = .ok (.lconst 0, 1) := by decide +kernel
theorem dX8_made_3 : decode cX8_made 3 = .ok (.aload_n 0, 1) := by decide +kernel
theorem dX8_made_4 : decode cX8_made 4 = .ok (.getfield 155, 3) := by decide +kernel
theorem dX8_made_7 : decode cX8_made 7 = .ok (.iconst 1, 1) := by decide +kernel
theorem dX8_made_8 : decode cX8_made 8 = .ok (.isub, 1) := by decide +kernel
theorem dX8_made_9 : decode cX8_made 9 = .ok (.i2l, 1) := by decide +kernel
theorem dX8_made_10 : decode cX8_made 10 = .ok (.invokestatic 69, 3) := by decide +kernel
theorem dX8_made_13 : decode cX8_made 13 = .ok (.ifCond .eq 29, 3) := by decide +kernel
theorem dX8_made_16 : decode cX8_made 16 = .ok (.iload_n 2, 1) := by decide +kernel
theorem dX8_made_17 : decode cX8_made 17 = .ok (.i2l, 1) := by decide +kernel
theorem dX8_made_18 : decode cX8_made 18 = .ok (.lconst 0, 1) := by decide +kernel
theorem dX8_made_19 : decode cX8_made 19 = .ok (.ldc2_w 75, 3) := by decide +kernel
theorem dX8_made_22 : decode cX8_made 22 = .ok (.invokestatic 69, 3) := by decide +kernel
theorem dX8_made_25 : decode cX8_made 25 = .ok (.ifCond .eq 17, 3) := by decide +kernel
theorem dX8_made_28 : decode cX8_made 28 = .ok (.aload_n 0, 1) := by decide +kernel
theorem dX8_made_29 : decode cX8_made 29 = .ok (.getfield 44, 3) := by decide +kernel
theorem dX8_made_32 : decode cX8_made 32 = .ok (.bipush 6, 2) := by decide +kernel
theorem dX8_made_34 : decode cX8_made 34 = .ok (.iload_n 1, 1) := by decide +kernel
theorem dX8_made_35 : decode cX8_made 35 = .ok (.imul, 1) := by decide +kernel
theorem dX8_made_36 : decode cX8_made 36 = .ok (.iload_n 2, 1) := by decide +kernel
theorem dX8_made_37 : decode cX8_made 37 = .ok (.iadd, 1) := by decide +kernel
theorem dX8_made_38 : decode cX8_made 38 = .ok (.iaload, 1) := by decide +kernel
theorem dX8_made_39 : decode cX8_made 39 = .ok (.goto 5, 3) := by decide +kernel
theorem dX8_made_42 : decode cX8_made 42 = .ok (.bipush (-2), 2) := by decide +kernel
theorem dX8_made_44 : decode cX8_made 44 = .ok (.ireturn, 1) := by decide +kernel
set_option maxRecDepth 20000 in
theorem ggX8_trace_X8_in : GoodIn wsX8_trace wsX8_in := goodIn_r _ [6] (by decide +kernel) (by decide +kernel)
set_option maxRecDepth 20000 in
theorem gX8_trace_X8_in : GoodIn wsX8_trace (va_wsS RX8 69 yX8_in wsX8_in) := goodIn_app (goodIn_of _ (by decide +kernel)) ggX8_trace_X8_in
theorem dX8_trace_0 : decode cX8_trace 0 = .ok (.iconst 0, 1) := by decide +kernel
theorem dX8_trace_1 : decode cX8_trace 1 = .ok (.istore_n 2, 1) := by decide +kernel
theorem dX8_trace_2 : decode cX8_trace 2 = .ok (.iload_n 2, 1) := by decide +kernel
theorem dX8_trace_3 : decode cX8_trace 3 = .ok (.aload_n 0, 1) := by decide +kernel
theorem dX8_trace_4 : decode cX8_trace 4 = .ok (.getfield 155, 3) := by decide +kernel
theorem dX8_trace_7 : decode cX8_trace 7 = .ok (.if_icmp .ge 57, 3) := by decide +kernel
theorem dX8_trace_10 : decode cX8_trace 10 = .ok (.iload_n 1, 1) := by decide +kernel
theorem dX8_trace_11 : decode cX8_trace 11 = .ok (.i2l, 1) := by decide +kernel
theorem dX8_trace_12 : decode cX8_trace 12 = .ok (.aload_n 0, 1) := by decide +kernel
theorem dX8_trace_13 : decode cX8_trace 13 = .ok (.getfield 44, 3) := by decide +kernel
theorem dX8_trace_16 : decode cX8_trace 16 = .ok (.bipush 6, 2) := by decide +kernel
theorem dX8_trace_18 : decode cX8_trace 18 = .ok (.iload_n 2, 1) := by decide +kernel
theorem dX8_trace_19 : decode cX8_trace 19 = .ok (.imul, 1) := by decide +kernel
theorem dX8_trace_20 : decode cX8_trace 20 = .ok (.iconst 3, 1) := by decide +kernel
theorem dX8_trace_21 : decode cX8_trace 21 = .ok (.iadd, 1) := by decide +kernel
theorem dX8_trace_22 : decode cX8_trace 22 = .ok (.iaload, 1) := by decide +kernel
theorem dX8_trace_23 : decode cX8_trace 23 = .ok (.i2l, 1) := by decide +kernel
theorem dX8_trace_24 : decode cX8_trace 24 = .ok (.aload_n 0, 1) := by decide +kernel
theorem dX8_trace_25 : decode cX8_trace 25 = .ok (.getfield 44, 3) := by decide +kernel
theorem dX8_trace_28 : decode cX8_trace 28 = .ok (.bipush 6, 2) := by decide +kernel
theorem dX8_trace_30 : decode cX8_trace 30 = .ok (.iload_n 2, 1) := by decide +kernel
theorem dX8_trace_31 : decode cX8_trace 31 = .ok (.imul, 1) := by decide +kernel
theorem dX8_trace_32 : decode cX8_trace 32 = .ok (.iconst 3, 1) := by decide +kernel
theorem dX8_trace_33 : decode cX8_trace 33 = .ok (.iadd, 1) := by decide +kernel
theorem dX8_trace_34 : decode cX8_trace 34 = .ok (.iaload, 1) := by decide +kernel
theorem dX8_trace_35 : decode cX8_trace 35 = .ok (.aload_n 0, 1) := by decide +kernel
theorem dX8_trace_36 : decode cX8_trace 36 = .ok (.getfield 44, 3) := by decide +kernel
theorem dX8_trace_39 : decode cX8_trace 39 = .ok (.bipush 6, 2) := by decide +kernel
theorem dX8_trace_41 : decode cX8_trace 41 = .ok (.iload_n 2, 1) := by decide +kernel
theorem dX8_trace_42 : decode cX8_trace 42 = .ok (.imul, 1) := by decide +kernel
theorem dX8_trace_43 : decode cX8_trace 43 = .ok (.iconst 4, 1) := by decide +kernel
theorem dX8_trace_44 : decode cX8_trace 44 = .ok (.iadd, 1) := by decide +kernel
theorem dX8_trace_45 : decode cX8_trace 45 = .ok (.iaload, 1) := by decide +kernel
theorem dX8_trace_46 : decode cX8_trace 46 = .ok (.iadd, 1) := by decide +kernel
theorem dX8_trace_47 : decode cX8_trace 47 = .ok (.iconst 1, 1) := by decide +kernel
theorem dX8_trace_48 : decode cX8_trace 48 = .ok (.isub, 1) := by decide +kernel
theorem dX8_trace_49 : decode cX8_trace 49 = .ok (.i2l, 1) := by decide +kernel
theorem dX8_trace_50 : decode cX8_trace 50 = .ok (.invokestatic 69, 3) := by decide +kernel
theorem dX8_trace_53 : decode cX8_trace 53 = .ok (.ifCond .eq 5, 3) := by decide +kernel
theorem dX8_trace_56 : decode cX8_trace 56 = .ok (.iload_n 2, 1) := by decide +kernel
theorem dX8_trace_57 : decode cX8_trace 57 = .ok (.ireturn, 1) := by decide +kernel
theorem dX8_trace_58 : decode cX8_trace 58 = .ok (.iinc 2 1, 3) := by decide +kernel
theorem dX8_trace_61 : decode cX8_trace 61 = .ok (.goto (-59), 3) := by decide +kernel
theorem dX8_trace_64 : decode cX8_trace 64 = .ok (.bipush (-2), 2) := by decide +kernel
theorem dX8_trace_66 : decode cX8_trace 66 = .ok (.ireturn, 1) := by decide +kernel
set_option maxRecDepth 20000 in
theorem ggX8_recall_X8_in : GoodIn wsX8_recall wsX8_in := goodIn_r _ [9] (by decide +kernel) (by decide +kernel)
set_option maxRecDepth 20000 in
theorem gX8_recall_X8_in : GoodIn wsX8_recall (va_wsS RX8 69 yX8_in wsX8_in) := goodIn_app (goodIn_of _ (by decide +kernel)) ggX8_recall_X8_in
theorem dX8_recall_0 : decode cX8_recall 0 = .ok (.iload_n 1, 1) := by decide +kernel
theorem dX8_recall_1 : decode cX8_recall 1 = .ok (.i2l, 1) := by decide +kernel
theorem dX8_recall_2 : decode cX8_recall 2 = .ok (.ldc2_w 166, 3) := by decide +kernel
theorem dX8_recall_5 : decode cX8_recall 5 = .ok (.ldc2_w 77, 3) := by decide +kernel
theorem dX8_recall_8 : decode cX8_recall 8 = .ok (.invokestatic 69, 3) := by decide +kernel
theorem dX8_recall_11 : decode cX8_recall 11 = .ok (.ifCond .eq 26, 3) := by decide +kernel
theorem dX8_recall_14 : decode cX8_recall 14 = .ok (.iload_n 3, 1) := by decide +kernel
theorem dX8_recall_15 : decode cX8_recall 15 = .ok (.i2l, 1) := by decide +kernel
theorem dX8_recall_16 : decode cX8_recall 16 = .ok (.lconst 0, 1) := by decide +kernel
theorem dX8_recall_17 : decode cX8_recall 17 = .ok (.ldc2_w 158, 3) := by decide +kernel
theorem dX8_recall_20 : decode cX8_recall 20 = .ok (.invokestatic 69, 3) := by decide +kernel
theorem dX8_recall_23 : decode cX8_recall 23 = .ok (.ifCond .eq 14, 3) := by decide +kernel
theorem dX8_recall_26 : decode cX8_recall 26 = .ok (.iload_n 2, 1) := by decide +kernel
theorem dX8_recall_27 : decode cX8_recall 27 = .ok (.i2l, 1) := by decide +kernel
theorem dX8_recall_28 : decode cX8_recall 28 = .ok (.lconst 0, 1) := by decide +kernel
theorem dX8_recall_29 : decode cX8_recall 29 = .ok (.iload_n 3, 1) := by decide +kernel
theorem dX8_recall_30 : decode cX8_recall 30 = .ok (.i2l, 1) := by decide +kernel
theorem dX8_recall_31 : decode cX8_recall 31 = .ok (.invokestatic 69, 3) := by decide +kernel
theorem dX8_recall_34 : decode cX8_recall 34 = .ok (.ifCond .ne 6, 3) := by decide +kernel
theorem dX8_recall_37 : decode cX8_recall 37 = .ok (.bipush (-2), 2) := by decide +kernel
theorem dX8_recall_39 : decode cX8_recall 39 = .ok (.ireturn, 1) := by decide +kernel
theorem dX8_recall_40 : decode cX8_recall 40 = .ok (.iconst 0, 1) := by decide +kernel
theorem dX8_recall_41 : decode cX8_recall 41 = .ok (.istore 4, 2) := by decide +kernel
theorem dX8_recall_43 : decode cX8_recall 43 = .ok (.iconst 0, 1) := by decide +kernel
theorem dX8_recall_44 : decode cX8_recall 44 = .ok (.istore 5, 2) := by decide +kernel
theorem dX8_recall_46 : decode cX8_recall 46 = .ok (.iload 5, 2) := by decide +kernel
theorem dX8_recall_48 : decode cX8_recall 48 = .ok (.aload_n 0, 1) := by decide +kernel
theorem dX8_recall_49 : decode cX8_recall 49 = .ok (.getfield 155, 3) := by decide +kernel
theorem dX8_recall_52 : decode cX8_recall 52 = .ok (.if_icmp .ge 86, 3) := by decide +kernel
theorem dX8_recall_55 : decode cX8_recall 55 = .ok (.iload_n 1, 1) := by decide +kernel
theorem dX8_recall_56 : decode cX8_recall 56 = .ok (.iconst (-1), 1) := by decide +kernel
theorem dX8_recall_57 : decode cX8_recall 57 = .ok (.if_icmp .eq 19, 3) := by decide +kernel
theorem dX8_recall_60 : decode cX8_recall 60 = .ok (.aload_n 0, 1) := by decide +kernel
theorem dX8_recall_61 : decode cX8_recall 61 = .ok (.getfield 44, 3) := by decide +kernel
theorem dX8_recall_64 : decode cX8_recall 64 = .ok (.bipush 6, 2) := by decide +kernel
theorem dX8_recall_66 : decode cX8_recall 66 = .ok (.iload 5, 2) := by decide +kernel
theorem dX8_recall_68 : decode cX8_recall 68 = .ok (.imul, 1) := by decide +kernel
theorem dX8_recall_69 : decode cX8_recall 69 = .ok (.iconst 1, 1) := by decide +kernel
theorem dX8_recall_70 : decode cX8_recall 70 = .ok (.iadd, 1) := by decide +kernel
theorem dX8_recall_71 : decode cX8_recall 71 = .ok (.iaload, 1) := by decide +kernel
theorem dX8_recall_72 : decode cX8_recall 72 = .ok (.iload_n 1, 1) := by decide +kernel
theorem dX8_recall_73 : decode cX8_recall 73 = .ok (.if_icmp .ne 30, 3) := by decide +kernel
theorem dX8_recall_76 : decode cX8_recall 76 = .ok (.aload_n 0, 1) := by decide +kernel
theorem dX8_recall_77 : decode cX8_recall 77 = .ok (.getfield 44, 3) := by decide +kernel
theorem dX8_recall_80 : decode cX8_recall 80 = .ok (.bipush 6, 2) := by decide +kernel
theorem dX8_recall_82 : decode cX8_recall 82 = .ok (.iload 5, 2) := by decide +kernel
theorem dX8_recall_84 : decode cX8_recall 84 = .ok (.imul, 1) := by decide +kernel
theorem dX8_recall_85 : decode cX8_recall 85 = .ok (.iconst 2, 1) := by decide +kernel
theorem dX8_recall_86 : decode cX8_recall 86 = .ok (.iadd, 1) := by decide +kernel
theorem dX8_recall_87 : decode cX8_recall 87 = .ok (.iaload, 1) := by decide +kernel
theorem dX8_recall_88 : decode cX8_recall 88 = .ok (.i2l, 1) := by decide +kernel
theorem dX8_recall_89 : decode cX8_recall 89 = .ok (.iload_n 2, 1) := by decide +kernel
theorem dX8_recall_90 : decode cX8_recall 90 = .ok (.i2l, 1) := by decide +kernel
theorem dX8_recall_91 : decode cX8_recall 91 = .ok (.iload_n 3, 1) := by decide +kernel
theorem dX8_recall_92 : decode cX8_recall 92 = .ok (.i2l, 1) := by decide +kernel
theorem dX8_recall_93 : decode cX8_recall 93 = .ok (.invokestatic 69, 3) := by decide +kernel
theorem dX8_recall_96 : decode cX8_recall 96 = .ok (.ifCond .eq 7, 3) := by decide +kernel
theorem dX8_recall_99 : decode cX8_recall 99 = .ok (.iconst 1, 1) := by decide +kernel
theorem dX8_recall_100 : decode cX8_recall 100 = .ok (.goto 4, 3) := by decide +kernel
theorem dX8_recall_103 : decode cX8_recall 103 = .ok (.iconst 0, 1) := by decide +kernel
theorem dX8_recall_104 : decode cX8_recall 104 = .ok (.istore 6, 2) := by decide +kernel
theorem dX8_recall_106 : decode cX8_recall 106 = .ok (.iload 4, 2) := by decide +kernel
theorem dX8_recall_108 : decode cX8_recall 108 = .ok (.iload 6, 2) := by decide +kernel
theorem dX8_recall_110 : decode cX8_recall 110 = .ok (.ifCond .eq 18, 3) := by decide +kernel
theorem dX8_recall_113 : decode cX8_recall 113 = .ok (.aload_n 0, 1) := by decide +kernel
theorem dX8_recall_114 : decode cX8_recall 114 = .ok (.getfield 44, 3) := by decide +kernel
theorem dX8_recall_117 : decode cX8_recall 117 = .ok (.bipush 6, 2) := by decide +kernel
theorem dX8_recall_119 : decode cX8_recall 119 = .ok (.iload 5, 2) := by decide +kernel
theorem dX8_recall_121 : decode cX8_recall 121 = .ok (.imul, 1) := by decide +kernel
theorem dX8_recall_122 : decode cX8_recall 122 = .ok (.iconst 4, 1) := by decide +kernel
theorem dX8_recall_123 : decode cX8_recall 123 = .ok (.iadd, 1) := by decide +kernel
theorem dX8_recall_124 : decode cX8_recall 124 = .ok (.iaload, 1) := by decide +kernel
theorem dX8_recall_125 : decode cX8_recall 125 = .ok (.goto 4, 3) := by decide +kernel
theorem dX8_recall_128 : decode cX8_recall 128 = .ok (.iconst 0, 1) := by decide +kernel
theorem dX8_recall_129 : decode cX8_recall 129 = .ok (.iadd, 1) := by decide +kernel
theorem dX8_recall_130 : decode cX8_recall 130 = .ok (.istore 4, 2) := by decide +kernel
theorem dX8_recall_132 : decode cX8_recall 132 = .ok (.iinc 5 1, 3) := by decide +kernel
theorem dX8_recall_135 : decode cX8_recall 135 = .ok (.goto (-89), 3) := by decide +kernel
theorem dX8_recall_138 : decode cX8_recall 138 = .ok (.iload 4, 2) := by decide +kernel
theorem dX8_recall_140 : decode cX8_recall 140 = .ok (.ireturn, 1) := by decide +kernel
set_option maxRecDepth 20000 in
theorem ggX8_isWeek_X8_in : GoodIn wsX8_isWeek wsX8_in := goodIn_r _ [5] (by decide +kernel) (by decide +kernel)
set_option maxRecDepth 20000 in
theorem gX8_isWeek_X8_in : GoodIn wsX8_isWeek (va_wsS RX8 69 yX8_in wsX8_in) := goodIn_app (goodIn_of _ (by decide +kernel)) ggX8_isWeek_X8_in
theorem dX8_isWeek_0 : decode cX8_isWeek 0 = .ok (.iload_n 0, 1) := by decide +kernel
theorem dX8_isWeek_1 : decode cX8_isWeek 1 = .ok (.i2l, 1) := by decide +kernel
theorem dX8_isWeek_2 : decode cX8_isWeek 2 = .ok (.lconst 0, 1) := by decide +kernel
theorem dX8_isWeek_3 : decode cX8_isWeek 3 = .ok (.ldc2_w 168, 3) := by decide +kernel
theorem dX8_isWeek_6 : decode cX8_isWeek 6 = .ok (.invokestatic 69, 3) := by decide +kernel
theorem dX8_isWeek_9 : decode cX8_isWeek 9 = .ok (.ireturn, 1) := by decide +kernel
theorem dX8_foretoldOf_0 : decode cX8_foretoldOf 0 = .ok (.ldc 170, 2) := by decide +kernel
theorem dX8_foretoldOf_2 : decode cX8_foretoldOf 2 = .ok (.istore_n 2, 1) := by decide +kernel
theorem dX8_foretoldOf_3 : decode cX8_foretoldOf 3 = .ok (.ldc 170, 2) := by decide +kernel
theorem dX8_foretoldOf_5 : decode cX8_foretoldOf 5 = .ok (.istore_n 3, 1) := by decide +kernel
theorem dX8_foretoldOf_6 : decode cX8_foretoldOf 6 = .ok (.ldc 170, 2) := by decide +kernel
theorem dX8_foretoldOf_8 : decode cX8_foretoldOf 8 = .ok (.istore 4, 2) := by decide +kernel
theorem dX8_foretoldOf_10 : decode cX8_foretoldOf 10 = .ok (.iconst 0, 1) := by decide +kernel
theorem dX8_foretoldOf_11 : decode cX8_foretoldOf 11 = .ok (.istore 5, 2) := by decide +kernel
theorem dX8_foretoldOf_13 : decode cX8_foretoldOf 13 = .ok (.iconst 0, 1) := by decide +kernel
theorem dX8_foretoldOf_14 : decode cX8_foretoldOf 14 = .ok (.istore 6, 2) := by decide +kernel
theorem dX8_foretoldOf_16 : decode cX8_foretoldOf 16 = .ok (.iload 6, 2) := by decide +kernel
theorem dX8_foretoldOf_18 : decode cX8_foretoldOf 18 = .ok (.iconst 3, 1) := by decide +kernel
theorem dX8_foretoldOf_19 : decode cX8_foretoldOf 19 = .ok (.if_icmp .ge 92, 3) := by decide +kernel
theorem dX8_foretoldOf_22 : decode cX8_foretoldOf 22 = .ok (.aload_n 0, 1) := by decide +kernel
theorem dX8_foretoldOf_23 : decode cX8_foretoldOf 23 = .ok (.getfield 54, 3) := by decide +kernel
theorem dX8_foretoldOf_26 : decode cX8_foretoldOf 26 = .ok (.iload 6, 2) := by decide +kernel
theorem dX8_foretoldOf_28 : decode cX8_foretoldOf 28 = .ok (.iaload, 1) := by decide +kernel
theorem dX8_foretoldOf_29 : decode cX8_foretoldOf 29 = .ok (.ifCond .lt 14, 3) := by decide +kernel
theorem dX8_foretoldOf_32 : decode cX8_foretoldOf 32 = .ok (.iload_n 1, 1) := by decide +kernel
theorem dX8_foretoldOf_33 : decode cX8_foretoldOf 33 = .ok (.aload_n 0, 1) := by decide +kernel
theorem dX8_foretoldOf_34 : decode cX8_foretoldOf 34 = .ok (.getfield 57, 3) := by decide +kernel
theorem dX8_foretoldOf_37 : decode cX8_foretoldOf 37 = .ok (.iload 6, 2) := by decide +kernel
theorem dX8_foretoldOf_39 : decode cX8_foretoldOf 39 = .ok (.iaload, 1) := by decide +kernel
theorem dX8_foretoldOf_40 : decode cX8_foretoldOf 40 = .ok (.if_icmp .lt 7, 3) := by decide +kernel
theorem dX8_foretoldOf_43 : decode cX8_foretoldOf 43 = .ok (.iconst (-1), 1) := by decide +kernel
theorem dX8_foretoldOf_44 : decode cX8_foretoldOf 44 = .ok (.goto 15, 3) := by decide +kernel
theorem dX8_foretoldOf_47 : decode cX8_foretoldOf 47 = .ok (.aload_n 0, 1) := by decide +kernel
theorem dX8_foretoldOf_48 : decode cX8_foretoldOf 48 = .ok (.getfield 60, 3) := by decide +kernel
theorem dX8_foretoldOf_51 : decode cX8_foretoldOf 51 = .ok (.bipush 60, 2) := by decide +kernel
theorem dX8_foretoldOf_53 : decode cX8_foretoldOf 53 = .ok (.iload 6, 2) := by decide +kernel
theorem dX8_foretoldOf_55 : decode cX8_foretoldOf 55 = .ok (.imul, 1) := by decide +kernel
theorem dX8_foretoldOf_56 : decode cX8_foretoldOf 56 = .ok (.iload_n 1, 1) := by decide +kernel
theorem dX8_foretoldOf_57 : decode cX8_foretoldOf 57 = .ok (.iadd, 1) := by decide +kernel
theorem dX8_foretoldOf_58 : decode cX8_foretoldOf 58 = .ok (.iaload, 1) := by decide +kernel
theorem dX8_foretoldOf_59 : decode cX8_foretoldOf 59 = .ok (.istore 7, 2) := by decide +kernel
theorem dX8_foretoldOf_61 : decode cX8_foretoldOf 61 = .ok (.iload 7, 2) := by decide +kernel
theorem dX8_foretoldOf_63 : decode cX8_foretoldOf 63 = .ok (.ifCond .lt 42, 3) := by decide +kernel
theorem dX8_foretoldOf_66 : decode cX8_foretoldOf 66 = .ok (.iinc 5 1, 3) := by decide +kernel
theorem dX8_foretoldOf_69 : decode cX8_foretoldOf 69 = .ok (.iload 7, 2) := by decide +kernel
theorem dX8_foretoldOf_71 : decode cX8_foretoldOf 71 = .ok (.iload_n 2, 1) := by decide +kernel
theorem dX8_foretoldOf_72 : decode cX8_foretoldOf 72 = .ok (.if_icmp .ge 14, 3) := by decide +kernel
theorem dX8_foretoldOf_75 : decode cX8_foretoldOf 75 = .ok (.iload_n 3, 1) := by decide +kernel
theorem dX8_foretoldOf_76 : decode cX8_foretoldOf 76 = .ok (.istore 4, 2) := by decide +kernel
theorem dX8_foretoldOf_78 : decode cX8_foretoldOf 78 = .ok (.iload_n 2, 1) := by decide +kernel
theorem dX8_foretoldOf_79 : decode cX8_foretoldOf 79 = .ok (.istore_n 3, 1) := by decide +kernel
theorem dX8_foretoldOf_80 : decode cX8_foretoldOf 80 = .ok (.iload 7, 2) := by decide +kernel
theorem dX8_foretoldOf_82 : decode cX8_foretoldOf 82 = .ok (.istore_n 2, 1) := by decide +kernel
theorem dX8_foretoldOf_83 : decode cX8_foretoldOf 83 = .ok (.goto 22, 3) := by decide +kernel
theorem dX8_foretoldOf_86 : decode cX8_foretoldOf 86 = .ok (.iload 7, 2) := by decide +kernel
theorem dX8_foretoldOf_88 : decode cX8_foretoldOf 88 = .ok (.iload_n 3, 1) := by decide +kernel
theorem dX8_foretoldOf_89 : decode cX8_foretoldOf 89 = .ok (.if_icmp .ge 12, 3) := by decide +kernel
theorem dX8_foretoldOf_92 : decode cX8_foretoldOf 92 = .ok (.iload_n 3, 1) := by decide +kernel
theorem dX8_foretoldOf_93 : decode cX8_foretoldOf 93 = .ok (.istore 4, 2) := by decide +kernel
theorem dX8_foretoldOf_95 : decode cX8_foretoldOf 95 = .ok (.iload 7, 2) := by decide +kernel
theorem dX8_foretoldOf_97 : decode cX8_foretoldOf 97 = .ok (.istore_n 3, 1) := by decide +kernel
theorem dX8_foretoldOf_98 : decode cX8_foretoldOf 98 = .ok (.goto 7, 3) := by decide +kernel
theorem dX8_foretoldOf_101 : decode cX8_foretoldOf 101 = .ok (.iload 7, 2) := by decide +kernel
theorem dX8_foretoldOf_103 : decode cX8_foretoldOf 103 = .ok (.istore 4, 2) := by decide +kernel
theorem dX8_foretoldOf_105 : decode cX8_foretoldOf 105 = .ok (.iinc 6 1, 3) := by decide +kernel
theorem dX8_foretoldOf_108 : decode cX8_foretoldOf 108 = .ok (.goto (-92), 3) := by decide +kernel
theorem dX8_foretoldOf_111 : decode cX8_foretoldOf 111 = .ok (.iload 5, 2) := by decide +kernel
theorem dX8_foretoldOf_113 : decode cX8_foretoldOf 113 = .ok (.ifCond .ne 7, 3) := by decide +kernel
theorem dX8_foretoldOf_116 : decode cX8_foretoldOf 116 = .ok (.iconst 0, 1) := by decide +kernel
theorem dX8_foretoldOf_117 : decode cX8_foretoldOf 117 = .ok (.goto 14, 3) := by decide +kernel
theorem dX8_foretoldOf_120 : decode cX8_foretoldOf 120 = .ok (.iload 5, 2) := by decide +kernel
theorem dX8_foretoldOf_122 : decode cX8_foretoldOf 122 = .ok (.iconst 3, 1) := by decide +kernel
theorem dX8_foretoldOf_123 : decode cX8_foretoldOf 123 = .ok (.if_icmp .ne 7, 3) := by decide +kernel
theorem dX8_foretoldOf_126 : decode cX8_foretoldOf 126 = .ok (.iload_n 3, 1) := by decide +kernel
theorem dX8_foretoldOf_127 : decode cX8_foretoldOf 127 = .ok (.goto 4, 3) := by decide +kernel
theorem dX8_foretoldOf_130 : decode cX8_foretoldOf 130 = .ok (.iload_n 2, 1) := by decide +kernel
theorem dX8_foretoldOf_131 : decode cX8_foretoldOf 131 = .ok (.ireturn, 1) := by decide +kernel
set_option maxRecDepth 20000 in
theorem ggX8_foretold_X8_isWeek : GoodIn wsX8_foretold wsX8_isWeek := goodIn_r _ [4, 5, 6, 7, 3, 8] (by decide +kernel) (by decide +kernel)
set_option maxRecDepth 20000 in
theorem gX8_foretold_X8_isWeek : GoodIn wsX8_foretold (va_wsS RX8 171 yX8_isWeek wsX8_isWeek) := goodIn_app (goodIn_of _ (by decide +kernel)) ggX8_foretold_X8_isWeek
set_option maxRecDepth 20000 in
theorem ggX8_foretold_X8_foretoldOf : GoodIn wsX8_foretold wsX8_foretoldOf := goodIn_r _ [12, 13, 14, 15, 16, 17, 18, 19, 20, 21, 22, 23, 24, 25, 26, 27, 28, 29, 30, 31, 32, 33, 34, 35, 36, 37, 38, 39, 40, 41, 42, 43, 44] (by decide +kernel) (by decide +kernel)
set_option maxRecDepth 20000 in
theorem gX8_foretold_X8_foretoldOf : GoodIn wsX8_foretold (wsV RX8 174 RX8 yX8_foretoldOf wsX8_foretoldOf) := goodIn_app (goodIn_of _ (by decide +kernel)) ggX8_foretold_X8_foretoldOf
theorem dX8_foretold_0 : decode cX8_foretold 0 = .ok (.iload_n 1, 1) := by decide +kernel
theorem dX8_foretold_1 : decode cX8_foretold 1 = .ok (.invokestatic 171, 3) := by decide +kernel
theorem dX8_foretold_4 : decode cX8_foretold 4 = .ok (.ifCond .eq 11, 3) := by decide +kernel
theorem dX8_foretold_7 : decode cX8_foretold 7 = .ok (.aload_n 0, 1) := by decide +kernel
theorem dX8_foretold_8 : decode cX8_foretold 8 = .ok (.iload_n 1, 1) := by decide +kernel
theorem dX8_foretold_9 : decode cX8_foretold 9 = .ok (.invokevirtual 174, 3) := by decide +kernel
theorem dX8_foretold_12 : decode cX8_foretold 12 = .ok (.goto 5, 3) := by decide +kernel
theorem dX8_foretold_15 : decode cX8_foretold 15 = .ok (.bipush (-2), 2) := by decide +kernel
theorem dX8_foretold_17 : decode cX8_foretold 17 = .ok (.ireturn, 1) := by decide +kernel
set_option maxRecDepth 20000 in
theorem ggX8_damp_X8_isWeek : GoodIn wsX8_damp wsX8_isWeek := goodIn_r _ [5, 6, 7, 8, 4, 9] (by decide +kernel) (by decide +kernel)
set_option maxRecDepth 20000 in
theorem gX8_damp_X8_isWeek : GoodIn wsX8_damp (va_wsS RX8 171 yX8_isWeek wsX8_isWeek) := goodIn_app (goodIn_of _ (by decide +kernel)) ggX8_damp_X8_isWeek
theorem dX8_damp_0 : decode cX8_damp 0 = .ok (.iload_n 1, 1) := by decide +kernel
theorem dX8_damp_1 : decode cX8_damp 1 = .ok (.invokestatic 171, 3) := by decide +kernel
theorem dX8_damp_4 : decode cX8_damp 4 = .ok (.ifCond .ne 6, 3) := by decide +kernel
theorem dX8_damp_7 : decode cX8_damp 7 = .ok (.bipush (-2), 2) := by decide +kernel
theorem dX8_damp_9 : decode cX8_damp 9 = .ok (.ireturn, 1) := by decide +kernel
theorem dX8_damp_10 : decode cX8_damp 10 = .ok (.aload_n 0, 1) := by decide +kernel
theorem dX8_damp_11 : decode cX8_damp 11 = .ok (.getfield 47, 3) := by decide +kernel
theorem dX8_damp_14 : decode cX8_damp 14 = .ok (.iload_n 1, 1) := by decide +kernel
theorem dX8_damp_15 : decode cX8_damp 15 = .ok (.iload_n 2, 1) := by decide +kernel
theorem dX8_damp_16 : decode cX8_damp 16 = .ok (.bastore, 1) := by decide +kernel
theorem dX8_damp_17 : decode cX8_damp 17 = .ok (.iconst 1, 1) := by decide +kernel
theorem dX8_damp_18 : decode cX8_damp 18 = .ok (.ireturn, 1) := by decide +kernel
set_option maxRecDepth 20000 in
theorem ggX8_make_X8_isWeek : GoodIn wsX8_make wsX8_isWeek := goodIn_r _ [6, 7, 8, 9, 5, 10] (by decide +kernel) (by decide +kernel)
set_option maxRecDepth 20000 in
theorem gX8_make_X8_isWeek : GoodIn wsX8_make (va_wsS RX8 171 yX8_isWeek wsX8_isWeek) := goodIn_app (goodIn_of _ (by decide +kernel)) ggX8_make_X8_isWeek
set_option maxRecDepth 20000 in
theorem ggX8_make_X8_in : GoodIn wsX8_make wsX8_in := goodIn_r _ [10] (by decide +kernel) (by decide +kernel)
set_option maxRecDepth 20000 in
theorem gX8_make_X8_in : GoodIn wsX8_make (va_wsS RX8 69 yX8_in wsX8_in) := goodIn_app (goodIn_of _ (by decide +kernel)) ggX8_make_X8_in
theorem dX8_make_0 : decode cX8_make 0 = .ok (.iload_n 1, 1) := by decide +kernel
theorem dX8_make_1 : decode cX8_make 1 = .ok (.invokestatic 171, 3) := by decide +kernel
theorem dX8_make_4 : decode cX8_make 4 = .ok (.ifCond .eq 15, 3) := by decide +kernel
theorem dX8_make_7 : decode cX8_make 7 = .ok (.iload_n 2, 1) := by decide +kernel
theorem dX8_make_8 : decode cX8_make 8 = .ok (.i2l, 1) := by decide +kernel
theorem dX8_make_9 : decode cX8_make 9 = .ok (.lconst 0, 1) := by decide +kernel
theorem dX8_make_10 : decode cX8_make 10 = .ok (.ldc2_w 177, 3) := by decide +kernel
theorem dX8_make_13 : decode cX8_make 13 = .ok (.invokestatic 69, 3) := by decide +kernel
theorem dX8_make_16 : decode cX8_make 16 = .ok (.ifCond .ne 6, 3) := by decide +kernel
theorem dX8_make_19 : decode cX8_make 19 = .ok (.bipush (-2), 2) := by decide +kernel
theorem dX8_make_21 : decode cX8_make 21 = .ok (.ireturn, 1) := by decide +kernel
theorem dX8_make_22 : decode cX8_make 22 = .ok (.aload_n 0, 1) := by decide +kernel
theorem dX8_make_23 : decode cX8_make 23 = .ok (.getfield 51, 3) := by decide +kernel
theorem dX8_make_26 : decode cX8_make 26 = .ok (.iload_n 1, 1) := by decide +kernel
theorem dX8_make_27 : decode cX8_make 27 = .ok (.iaload, 1) := by decide +kernel
theorem dX8_make_28 : decode cX8_make 28 = .ok (.istore_n 3, 1) := by decide +kernel
theorem dX8_make_29 : decode cX8_make 29 = .ok (.aload_n 0, 1) := by decide +kernel
theorem dX8_make_30 : decode cX8_make 30 = .ok (.getfield 51, 3) := by decide +kernel
theorem dX8_make_33 : decode cX8_make 33 = .ok (.iload_n 1, 1) := by decide +kernel
theorem dX8_make_34 : decode cX8_make 34 = .ok (.iload_n 2, 1) := by decide +kernel
theorem dX8_make_35 : decode cX8_make 35 = .ok (.iastore, 1) := by decide +kernel
theorem dX8_make_36 : decode cX8_make 36 = .ok (.iload_n 3, 1) := by decide +kernel
theorem dX8_make_37 : decode cX8_make 37 = .ok (.ireturn, 1) := by decide +kernel
set_option maxRecDepth 20000 in
theorem ggX8_stock_X8_isWeek : GoodIn wsX8_stock wsX8_isWeek := goodIn_r _ [12, 13, 14, 15, 11, 16] (by decide +kernel) (by decide +kernel)
set_option maxRecDepth 20000 in
theorem gX8_stock_X8_isWeek : GoodIn wsX8_stock (va_wsS RX8 171 yX8_isWeek wsX8_isWeek) := goodIn_app (goodIn_of _ (by decide +kernel)) ggX8_stock_X8_isWeek
set_option maxRecDepth 20000 in
theorem ggX8_stock_X8_in : GoodIn wsX8_stock wsX8_in := goodIn_r _ [16] (by decide +kernel) (by decide +kernel)
set_option maxRecDepth 20000 in
theorem gX8_stock_X8_in : GoodIn wsX8_stock (va_wsS RX8 69 yX8_in wsX8_in) := goodIn_app (goodIn_of _ (by decide +kernel)) ggX8_stock_X8_in
set_option maxRecDepth 20000 in
theorem ggX8_stock_X8_foretoldOf : GoodIn wsX8_stock wsX8_foretoldOf := goodIn_r _ [20, 8, 21, 22, 23, 24, 25, 26, 27, 28, 29, 30, 31, 32, 33, 34, 35, 36, 37, 38, 39, 40, 41, 42, 43, 44, 45, 46, 47, 48, 49, 50, 51] (by decide +kernel) (by decide +kernel)
set_option maxRecDepth 20000 in
theorem gX8_stock_X8_foretoldOf : GoodIn wsX8_stock (wsV RX8 174 RX8 yX8_foretoldOf wsX8_foretoldOf) := goodIn_app (goodIn_of _ (by decide +kernel)) ggX8_stock_X8_foretoldOf
theorem dX8_stock_0 : decode cX8_stock 0 = .ok (.iload_n 2, 1) := by decide +kernel
theorem dX8_stock_1 : decode cX8_stock 1 = .ok (.invokestatic 171, 3) := by decide +kernel
theorem dX8_stock_4 : decode cX8_stock 4 = .ok (.ifCond .eq 39, 3) := by decide +kernel
theorem dX8_stock_7 : decode cX8_stock 7 = .ok (.iload_n 1, 1) := by decide +kernel
theorem dX8_stock_8 : decode cX8_stock 8 = .ok (.i2l, 1) := by decide +kernel
theorem dX8_stock_9 : decode cX8_stock 9 = .ok (.lconst 0, 1) := by decide +kernel
theorem dX8_stock_10 : decode cX8_stock 10 = .ok (.iload_n 2, 1) := by decide +kernel
theorem dX8_stock_11 : decode cX8_stock 11 = .ok (.i2l, 1) := by decide +kernel
theorem dX8_stock_12 : decode cX8_stock 12 = .ok (.invokestatic 69, 3) := by decide +kernel
theorem dX8_stock_15 : decode cX8_stock 15 = .ok (.ifCond .eq 28, 3) := by decide +kernel
theorem dX8_stock_18 : decode cX8_stock 18 = .ok (.iload_n 3, 1) := by decide +kernel
theorem dX8_stock_19 : decode cX8_stock 19 = .ok (.i2l, 1) := by decide +kernel
theorem dX8_stock_20 : decode cX8_stock 20 = .ok (.lconst 0, 1) := by decide +kernel
theorem dX8_stock_21 : decode cX8_stock 21 = .ok (.ldc2_w 179, 3) := by decide +kernel
theorem dX8_stock_24 : decode cX8_stock 24 = .ok (.invokestatic 69, 3) := by decide +kernel
theorem dX8_stock_27 : decode cX8_stock 27 = .ok (.ifCond .eq 16, 3) := by decide +kernel
theorem dX8_stock_30 : decode cX8_stock 30 = .ok (.iload 4, 2) := by decide +kernel
theorem dX8_stock_32 : decode cX8_stock 32 = .ok (.i2l, 1) := by decide +kernel
theorem dX8_stock_33 : decode cX8_stock 33 = .ok (.lconst 0, 1) := by decide +kernel
theorem dX8_stock_34 : decode cX8_stock 34 = .ok (.ldc2_w 94, 3) := by decide +kernel
theorem dX8_stock_37 : decode cX8_stock 37 = .ok (.invokestatic 69, 3) := by decide +kernel
theorem dX8_stock_40 : decode cX8_stock 40 = .ok (.ifCond .ne 6, 3) := by decide +kernel
theorem dX8_stock_43 : decode cX8_stock 43 = .ok (.bipush (-2), 2) := by decide +kernel
theorem dX8_stock_45 : decode cX8_stock 45 = .ok (.ireturn, 1) := by decide +kernel
theorem dX8_stock_46 : decode cX8_stock 46 = .ok (.iload_n 3, 1) := by decide +kernel
theorem dX8_stock_47 : decode cX8_stock 47 = .ok (.i2l, 1) := by decide +kernel
theorem dX8_stock_48 : decode cX8_stock 48 = .ok (.lstore 5, 2) := by decide +kernel
theorem dX8_stock_50 : decode cX8_stock 50 = .ok (.lconst 0, 1) := by decide +kernel
theorem dX8_stock_51 : decode cX8_stock 51 = .ok (.lstore 7, 2) := by decide +kernel
theorem dX8_stock_53 : decode cX8_stock 53 = .ok (.lconst 0, 1) := by decide +kernel
theorem dX8_stock_54 : decode cX8_stock 54 = .ok (.lstore 9, 2) := by decide +kernel
theorem dX8_stock_56 : decode cX8_stock 56 = .ok (.iconst (-1), 1) := by decide +kernel
theorem dX8_stock_57 : decode cX8_stock 57 = .ok (.istore 11, 2) := by decide +kernel
theorem dX8_stock_59 : decode cX8_stock 59 = .ok (.iload_n 1, 1) := by decide +kernel
theorem dX8_stock_60 : decode cX8_stock 60 = .ok (.istore 12, 2) := by decide +kernel
theorem dX8_stock_62 : decode cX8_stock 62 = .ok (.iload 12, 2) := by decide +kernel
theorem dX8_stock_64 : decode cX8_stock 64 = .ok (.iload_n 2, 1) := by decide +kernel
theorem dX8_stock_65 : decode cX8_stock 65 = .ok (.if_icmp .gt 110, 3) := by decide +kernel
theorem dX8_stock_68 : decode cX8_stock 68 = .ok (.lload 5, 2) := by decide +kernel
theorem dX8_stock_70 : decode cX8_stock 70 = .ok (.aload_n 0, 1) := by decide +kernel
theorem dX8_stock_71 : decode cX8_stock 71 = .ok (.getfield 51, 3) := by decide +kernel
theorem dX8_stock_74 : decode cX8_stock 74 = .ok (.iload 12, 2) := by decide +kernel
theorem dX8_stock_76 : decode cX8_stock 76 = .ok (.iaload, 1) := by decide +kernel
theorem dX8_stock_77 : decode cX8_stock 77 = .ok (.i2l, 1) := by decide +kernel
theorem dX8_stock_78 : decode cX8_stock 78 = .ok (.ladd, 1) := by decide +kernel
theorem dX8_stock_79 : decode cX8_stock 79 = .ok (.lstore 5, 2) := by decide +kernel
theorem dX8_stock_81 : decode cX8_stock 81 = .ok (.lload 5, 2) := by decide +kernel
theorem dX8_stock_83 : decode cX8_stock 83 = .ok (.aload_n 0, 1) := by decide +kernel
