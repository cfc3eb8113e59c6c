theorem dX7_sticksOf_17 : decode cX7_sticksOf 17 = .ok (.istore_n 3, 1) := by decide +kernel
theorem dX7_sticksOf_18 : decode cX7_sticksOf 18 = .ok (.iload_n 2, 1) := by decide +kernel
theorem dX7_sticksOf_19 : decode cX7_sticksOf 19 = .ok (.ifCond .lt 8, 3) := by decide +kernel
theorem dX7_sticksOf_22 : decode cX7_sticksOf 22 = .ok (.iload_n 3, 1) := by decide +kernel
theorem dX7_sticksOf_23 : decode cX7_sticksOf 23 = .ok (.iconst 1, 1) := by decide +kernel
theorem dX7_sticksOf_24 : decode cX7_sticksOf 24 = .ok (.if_icmp .ge 7, 3) := by decide +kernel
theorem dX7_sticksOf_27 : decode cX7_sticksOf 27 = .ok (.iconst 0, 1) := by decide +kernel
theorem dX7_sticksOf_28 : decode cX7_sticksOf 28 = .ok (.goto 6, 3) := by decide +kernel
theorem dX7_sticksOf_31 : decode cX7_sticksOf 31 = .ok (.iload_n 2, 1) := by decide +kernel
theorem dX7_sticksOf_32 : decode cX7_sticksOf 32 = .ok (.iload_n 3, 1) := by decide +kernel
theorem dX7_sticksOf_33 : decode cX7_sticksOf 33 = .ok (.idiv, 1) := by decide +kernel
theorem dX7_sticksOf_34 : decode cX7_sticksOf 34 = .ok (.ireturn, 1) := by decide +kernel
set_option maxRecDepth 20000 in
theorem ggX7_made_X2_lumpAt : GoodIn wsX7_made wsX2_lumpAt := goodIn_r _ [12, 13, 14, 15, 16, 17, 35, 36, 37, 38] (by decide +kernel) (by decide +kernel)
set_option maxRecDepth 20000 in
theorem gX7_made_X2_lumpAt : GoodIn wsX7_made (wsV RX7 186 RX2 yX2_lumpAt wsX2_lumpAt) := goodIn_app (goodIn_of _ (by decide +kernel)) ggX7_made_X2_lumpAt
theorem dX7_made_0 : decode cX7_made 0 = .ok (.aload_n 0, 1) := by decide +kernel
theorem dX7_made_1 : decode cX7_made 1 = .ok (.getfield 40, 3) := by decide +kernel
theorem dX7_made_4 : decode cX7_made 4 = .ok (.iload_n 1, 1) := by decide +kernel
theorem dX7_made_5 : decode cX7_made 5 = .ok (.invokevirtual 186, 3) := by decide +kernel
theorem dX7_made_8 : decode cX7_made 8 = .ok (.astore_n 3, 1) := by decide +kernel
theorem dX7_made_9 : decode cX7_made 9 = .ok (.aload_n 3, 1) := by decide +kernel
theorem dX7_made_10 : decode cX7_made 10 = .ok (.ifnonnull 6, 3) := by decide +kernel
theorem dX7_made_13 : decode cX7_made 13 = .ok (.bipush (-2), 2) := by decide +kernel
theorem dX7_made_15 : decode cX7_made 15 = .ok (.ireturn, 1) := by decide +kernel
theorem dX7_made_16 : decode cX7_made 16 = .ok (.iload_n 2, 1) := by decide +kernel
theorem dX7_made_17 : decode cX7_made 17 = .ok (.tableswitch 69 0 5 #[39, 44, 49, 54, 59, 64], 39) := by decide +kernel
theorem dX7_made_56 : decode cX7_made 56 = .ok (.aload_n 3, 1) := by decide +kernel
theorem dX7_made_57 : decode cX7_made 57 = .ok (.getfield 190, 3) := by decide +kernel
theorem dX7_made_60 : decode cX7_made 60 = .ok (.ireturn, 1) := by decide +kernel
theorem dX7_made_61 : decode cX7_made 61 = .ok (.aload_n 3, 1) := by decide +kernel
theorem dX7_made_62 : decode cX7_made 62 = .ok (.getfield 193, 3) := by decide +kernel
theorem dX7_made_65 : decode cX7_made 65 = .ok (.ireturn, 1) := by decide +kernel
theorem dX7_made_66 : decode cX7_made 66 = .ok (.aload_n 3, 1) := by decide +kernel
theorem dX7_made_67 : decode cX7_made 67 = .ok (.getfield 196, 3) := by decide +kernel
theorem dX7_made_70 : decode cX7_made 70 = .ok (.ireturn, 1) := by decide +kernel
theorem dX7_made_71 : decode cX7_made 71 = .ok (.aload_n 3, 1) := by decide +kernel
theorem dX7_made_72 : decode cX7_made 72 = .ok (.getfield 199, 3) := by decide +kernel
theorem dX7_made_75 : decode cX7_made 75 = .ok (.ireturn, 1) := by decide +kernel
theorem dX7_made_76 : decode cX7_made 76 = .ok (.aload_n 3, 1) := by decide +kernel
theorem dX7_made_77 : decode cX7_made 77 = .ok (.getfield 202, 3) := by decide +kernel
theorem dX7_made_80 : decode cX7_made 80 = .ok (.ireturn, 1) := by decide +kernel
theorem dX7_made_81 : decode cX7_made 81 = .ok (.aload_n 3, 1) := by decide +kernel
theorem dX7_made_82 : decode cX7_made 82 = .ok (.getfield 205, 3) := by decide +kernel
theorem dX7_made_85 : decode cX7_made 85 = .ok (.ireturn, 1) := by decide +kernel
theorem dX7_made_86 : decode cX7_made 86 = .ok (.bipush (-2), 2) := by decide +kernel
theorem dX7_made_88 : decode cX7_made 88 = .ok (.ireturn, 1) := by decide +kernel
set_option maxRecDepth 20000 in
theorem ggX7_trace_X2_lumpOfStick : GoodIn wsX7_trace wsX2_lumpOfStick := goodIn_r _ [6, 7, 8, 9, 10, 11, 12, 13, 14, 15, 27, 28, 29, 30, 31, 32, 33, 34, 35, 36] (by decide +kernel) (by decide +kernel)
set_option maxRecDepth 20000 in
theorem gX7_trace_X2_lumpOfStick : GoodIn wsX7_trace (wsV RX7 208 RX2 yX2_lumpOfStick wsX2_lumpOfStick) := goodIn_app (goodIn_of _ (by decide +kernel)) ggX7_trace_X2_lumpOfStick
theorem dX7_trace_0 : decode cX7_trace 0 = .ok (.aload_n 0, 1) := by decide +kernel
theorem dX7_trace_1 : decode cX7_trace 1 = .ok (.getfield 40, 3) := by decide +kernel
theorem dX7_trace_4 : decode cX7_trace 4 = .ok (.iload_n 1, 1) := by decide +kernel
theorem dX7_trace_5 : decode cX7_trace 5 = .ok (.invokevirtual 208, 3) := by decide +kernel
theorem dX7_trace_8 : decode cX7_trace 8 = .ok (.istore_n 2, 1) := by decide +kernel
theorem dX7_trace_9 : decode cX7_trace 9 = .ok (.iload_n 2, 1) := by decide +kernel
theorem dX7_trace_10 : decode cX7_trace 10 = .ok (.iconst (-1), 1) := by decide +kernel
theorem dX7_trace_11 : decode cX7_trace 11 = .ok (.if_icmp .ne 8, 3) := by decide +kernel
theorem dX7_trace_14 : decode cX7_trace 14 = .ok (.bipush (-2), 2) := by decide +kernel
theorem dX7_trace_16 : decode cX7_trace 16 = .ok (.goto 4, 3) := by decide +kernel
theorem dX7_trace_19 : decode cX7_trace 19 = .ok (.iload_n 2, 1) := by decide +kernel
theorem dX7_trace_20 : decode cX7_trace 20 = .ok (.ireturn, 1) := by decide +kernel
set_option maxRecDepth 20000 in
theorem ggX7_recall_X7_within : GoodIn wsX7_recall wsX7_within := goodIn_r _ [5] (by decide +kernel) (by decide +kernel)
set_option maxRecDepth 20000 in
theorem gX7_recall_X7_within : GoodIn wsX7_recall (va_wsS RX7 68 yX7_within wsX7_within) := goodIn_app (goodIn_of _ (by decide +kernel)) ggX7_recall_X7_within
set_option maxRecDepth 20000 in
theorem ggX7_recall_X7_isSpan : GoodIn wsX7_recall wsX7_isSpan := goodIn_r _ [8] (by decide +kernel) (by decide +kernel)
set_option maxRecDepth 20000 in
theorem gX7_recall_X7_isSpan : GoodIn wsX7_recall (va_wsS RX7 211 yX7_isSpan wsX7_isSpan) := goodIn_app (goodIn_of _ (by decide +kernel)) ggX7_recall_X7_isSpan
set_option maxRecDepth 20000 in
theorem ggX7_recall_X2_countSticks : GoodIn wsX7_recall wsX2_countSticks := goodIn_r _ [13, 14, 15, 16, 17, 18, 19, 20, 21, 22, 23, 3, 4, 5, 35, 36, 37, 38, 39, 40, 41, 42, 43, 44] (by decide +kernel) (by decide +kernel)
set_option maxRecDepth 20000 in
theorem gX7_recall_X2_countSticks : GoodIn wsX7_recall (wsV RX7 214 RX2 yX2_countSticks wsX2_countSticks) := goodIn_app (goodIn_of _ (by decide +kernel)) ggX7_recall_X2_countSticks
theorem dX7_recall_0 : decode cX7_recall 0 = .ok (.iload_n 1, 1) := by decide +kernel
theorem dX7_recall_1 : decode cX7_recall 1 = .ok (.iconst (-1), 1) := by decide +kernel
theorem dX7_recall_2 : decode cX7_recall 2 = .ok (.if_icmp .eq 16, 3) := by decide +kernel
theorem dX7_recall_5 : decode cX7_recall 5 = .ok (.iload_n 1, 1) := by decide +kernel
theorem dX7_recall_6 : decode cX7_recall 6 = .ok (.iconst 0, 1) := by decide +kernel
theorem dX7_recall_7 : decode cX7_recall 7 = .ok (.bipush 9, 2) := by decide +kernel
theorem dX7_recall_9 : decode cX7_recall 9 = .ok (.invokestatic 68, 3) := by decide +kernel
theorem dX7_recall_12 : decode cX7_recall 12 = .ok (.ifCond .ne 6, 3) := by decide +kernel
theorem dX7_recall_15 : decode cX7_recall 15 = .ok (.bipush (-2), 2) := by decide +kernel
theorem dX7_recall_17 : decode cX7_recall 17 = .ok (.ireturn, 1) := by decide +kernel
theorem dX7_recall_18 : decode cX7_recall 18 = .ok (.iload_n 2, 1) := by decide +kernel
theorem dX7_recall_19 : decode cX7_recall 19 = .ok (.iload_n 3, 1) := by decide +kernel
theorem dX7_recall_20 : decode cX7_recall 20 = .ok (.sipush 999, 3) := by decide +kernel
theorem dX7_recall_23 : decode cX7_recall 23 = .ok (.invokestatic 211, 3) := by decide +kernel
theorem dX7_recall_26 : decode cX7_recall 26 = .ok (.ifCond .ne 6, 3) := by decide +kernel
theorem dX7_recall_29 : decode cX7_recall 29 = .ok (.bipush (-2), 2) := by decide +kernel
theorem dX7_recall_31 : decode cX7_recall 31 = .ok (.ireturn, 1) := by decide +kernel
theorem dX7_recall_32 : decode cX7_recall 32 = .ok (.aload_n 0, 1) := by decide +kernel
theorem dX7_recall_33 : decode cX7_recall 33 = .ok (.getfield 40, 3) := by decide +kernel
theorem dX7_recall_36 : decode cX7_recall 36 = .ok (.iload_n 1, 1) := by decide +kernel
theorem dX7_recall_37 : decode cX7_recall 37 = .ok (.iload_n 2, 1) := by decide +kernel
theorem dX7_recall_38 : decode cX7_recall 38 = .ok (.iload_n 3, 1) := by decide +kernel
theorem dX7_recall_39 : decode cX7_recall 39 = .ok (.invokevirtual 214, 3) := by decide +kernel
theorem dX7_recall_42 : decode cX7_recall 42 = .ok (.ireturn, 1) := by decide +kernel
set_option maxRecDepth 20000 in
theorem ggX7_foretold_X7_isWeek : GoodIn wsX7_foretold wsX7_isWeek := goodIn_r _ [12, 13, 14, 11, 15] (by decide +kernel) (by decide +kernel)
set_option maxRecDepth 20000 in
theorem gX7_foretold_X7_isWeek : GoodIn wsX7_foretold (va_wsS RX7 217 yX7_isWeek wsX7_isWeek) := goodIn_app (goodIn_of _ (by decide +kernel)) ggX7_foretold_X7_isWeek
set_option maxRecDepth 20000 in
theorem ggX7_foretold_X4_wantAt : GoodIn wsX7_foretold wsX4_wantAt := goodIn_r _ [20, 21, 22, 23, 24, 25, 19, 26, 27, 14, 11, 15, 39, 40, 41, 42] (by decide +kernel) (by decide +kernel)
set_option maxRecDepth 20000 in
theorem gX7_foretold_X4_wantAt : GoodIn wsX7_foretold (wsV RX7 220 RX4 yX4_wantAt wsX4_wantAt) := goodIn_app (goodIn_of _ (by decide +kernel)) ggX7_foretold_X4_wantAt
theorem dX7_foretold_0 : decode cX7_foretold 0 = .ok (.iload_n 1, 1) := by decide +kernel
theorem dX7_foretold_1 : decode cX7_foretold 1 = .ok (.invokestatic 217, 3) := by decide +kernel
theorem dX7_foretold_4 : decode cX7_foretold 4 = .ok (.ifCond .ne 6, 3) := by decide +kernel
theorem dX7_foretold_7 : decode cX7_foretold 7 = .ok (.bipush (-2), 2) := by decide +kernel
theorem dX7_foretold_9 : decode cX7_foretold 9 = .ok (.ireturn, 1) := by decide +kernel
theorem dX7_foretold_10 : decode cX7_foretold 10 = .ok (.aload_n 0, 1) := by decide +kernel
theorem dX7_foretold_11 : decode cX7_foretold 11 = .ok (.getfield 60, 3) := by decide +kernel
theorem dX7_foretold_14 : decode cX7_foretold 14 = .ok (.iconst 0, 1) := by decide +kernel
theorem dX7_foretold_15 : decode cX7_foretold 15 = .ok (.aaload, 1) := by decide +kernel
theorem dX7_foretold_16 : decode cX7_foretold 16 = .ok (.iload_n 1, 1) := by decide +kernel
theorem dX7_foretold_17 : decode cX7_foretold 17 = .ok (.invokevirtual 220, 3) := by decide +kernel
theorem dX7_foretold_20 : decode cX7_foretold 20 = .ok (.istore_n 2, 1) := by decide +kernel
theorem dX7_foretold_21 : decode cX7_foretold 21 = .ok (.aload_n 0, 1) := by decide +kernel
theorem dX7_foretold_22 : decode cX7_foretold 22 = .ok (.getfield 60, 3) := by decide +kernel
theorem dX7_foretold_25 : decode cX7_foretold 25 = .ok (.iconst 1, 1) := by decide +kernel
theorem dX7_foretold_26 : decode cX7_foretold 26 = .ok (.aaload, 1) := by decide +kernel
theorem dX7_foretold_27 : decode cX7_foretold 27 = .ok (.iload_n 1, 1) := by decide +kernel
theorem dX7_foretold_28 : decode cX7_foretold 28 = .ok (.invokevirtual 220, 3) := by decide +kernel
theorem dX7_foretold_31 : decode cX7_foretold 31 = .ok (.istore_n 3, 1) := by decide +kernel
theorem dX7_foretold_32 : decode cX7_foretold 32 = .ok (.aload_n 0, 1) := by decide +kernel
theorem dX7_foretold_33 : decode cX7_foretold 33 = .ok (.getfield 60, 3) := by decide +kernel
theorem dX7_foretold_36 : decode cX7_foretold 36 = .ok (.iconst 2, 1) := by decide +kernel
theorem dX7_foretold_37 : decode cX7_foretold 37 = .ok (.aaload, 1) := by decide +kernel
theorem dX7_foretold_38 : decode cX7_foretold 38 = .ok (.iload_n 1, 1) := by decide +kernel
theorem dX7_foretold_39 : decode cX7_foretold 39 = .ok (.invokevirtual 220, 3) := by decide +kernel
theorem dX7_foretold_42 : decode cX7_foretold 42 = .ok (.istore 4, 2) := by decide +kernel
theorem dX7_foretold_44 : decode cX7_foretold 44 = .ok (.iload_n 2, 1) := by decide +kernel
theorem dX7_foretold_45 : decode cX7_foretold 45 = .ok (.iload_n 3, 1) := by decide +kernel
theorem dX7_foretold_46 : decode cX7_foretold 46 = .ok (.invokestatic 223, 3) := by decide +kernel
theorem dX7_foretold_49 : decode cX7_foretold 49 = .ok (.iload_n 2, 1) := by decide +kernel
theorem dX7_foretold_50 : decode cX7_foretold 50 = .ok (.iload_n 3, 1) := by decide +kernel
theorem dX7_foretold_51 : decode cX7_foretold 51 = .ok (.invokestatic 229, 3) := by decide +kernel
theorem dX7_foretold_54 : decode cX7_foretold 54 = .ok (.iload 4, 2) := by decide +kernel
theorem dX7_foretold_56 : decode cX7_foretold 56 = .ok (.invokestatic 223, 3) := by decide +kernel
theorem dX7_foretold_59 : decode cX7_foretold 59 = .ok (.invokestatic 229, 3) := by decide +kernel
theorem dX7_foretold_62 : decode cX7_foretold 62 = .ok (.istore 5, 2) := by decide +kernel
theorem dX7_foretold_64 : decode cX7_foretold 64 = .ok (.iload 5, 2) := by decide +kernel
theorem dX7_foretold_66 : decode cX7_foretold 66 = .ok (.iconst (-1), 1) := by decide +kernel
theorem dX7_foretold_67 : decode cX7_foretold 67 = .ok (.if_icmp .eq 6, 3) := by decide +kernel
theorem dX7_foretold_70 : decode cX7_foretold 70 = .ok (.iload 5, 2) := by decide +kernel
theorem dX7_foretold_72 : decode cX7_foretold 72 = .ok (.ireturn, 1) := by decide +kernel
theorem dX7_foretold_73 : decode cX7_foretold 73 = .ok (.iconst 0, 1) := by decide +kernel
theorem dX7_foretold_74 : decode cX7_foretold 74 = .ok (.iload_n 2, 1) := by decide +kernel
theorem dX7_foretold_75 : decode cX7_foretold 75 = .ok (.iload_n 3, 1) := by decide +kernel
theorem dX7_foretold_76 : decode cX7_foretold 76 = .ok (.iload 4, 2) := by decide +kernel
theorem dX7_foretold_78 : decode cX7_foretold 78 = .ok (.invokestatic 229, 3) := by decide +kernel
theorem dX7_foretold_81 : decode cX7_foretold 81 = .ok (.invokestatic 229, 3) := by decide +kernel
theorem dX7_foretold_84 : decode cX7_foretold 84 = .ok (.invokestatic 229, 3) := by decide +kernel
theorem dX7_foretold_87 : decode cX7_foretold 87 = .ok (.ireturn, 1) := by decide +kernel
set_option maxRecDepth 20000 in
theorem ggX7_damp_X7_isWeek : GoodIn wsX7_damp wsX7_isWeek := goodIn_r _ [5, 6, 7, 4, 8] (by decide +kernel) (by decide +kernel)
set_option maxRecDepth 20000 in
theorem gX7_damp_X7_isWeek : GoodIn wsX7_damp (va_wsS RX7 217 yX7_isWeek wsX7_isWeek) := goodIn_app (goodIn_of _ (by decide +kernel)) ggX7_damp_X7_isWeek
theorem dX7_damp_0 : decode cX7_damp 0 = .ok (.iload_n 1, 1) := by decide +kernel
theorem dX7_damp_1 : decode cX7_damp 1 = .ok (.invokestatic 217, 3) := by decide +kernel
theorem dX7_damp_4 : decode cX7_damp 4 = .ok (.ifCond .ne 6, 3) := by decide +kernel
theorem dX7_damp_7 : decode cX7_damp 7 = .ok (.bipush (-2), 2) := by decide +kernel
theorem dX7_damp_9 : decode cX7_damp 9 = .ok (.ireturn, 1) := by decide +kernel
theorem dX7_damp_10 : decode cX7_damp 10 = .ok (.aload_n 0, 1) := by decide +kernel
theorem dX7_damp_11 : decode cX7_damp 11 = .ok (.getfield 44, 3) := by decide +kernel
theorem dX7_damp_14 : decode cX7_damp 14 = .ok (.iload_n 1, 1) := by decide +kernel
theorem dX7_damp_15 : decode cX7_damp 15 = .ok (.iload_n 2, 1) := by decide +kernel
theorem dX7_damp_16 : decode cX7_damp 16 = .ok (.bastore, 1) := by decide +kernel
theorem dX7_damp_17 : decode cX7_damp 17 = .ok (.iconst 1, 1) := by decide +kernel
theorem dX7_damp_18 : decode cX7_damp 18 = .ok (.ireturn, 1) := by decide +kernel
set_option maxRecDepth 20000 in
theorem ggX7_make_X7_isWeek : GoodIn wsX7_make wsX7_isWeek := goodIn_r _ [5, 6, 7, 4, 8] (by decide +kernel) (by decide +kernel)
set_option maxRecDepth 20000 in
theorem gX7_make_X7_isWeek : GoodIn wsX7_make (va_wsS RX7 217 yX7_isWeek wsX7_isWeek) := goodIn_app (goodIn_of _ (by decide +kernel)) ggX7_make_X7_isWeek
set_option maxRecDepth 20000 in
theorem ggX7_make_X7_within : GoodIn wsX7_make wsX7_within := goodIn_r _ [8] (by decide +kernel) (by decide +kernel)
set_option maxRecDepth 20000 in
theorem gX7_make_X7_within : GoodIn wsX7_make (va_wsS RX7 68 yX7_within wsX7_within) := goodIn_app (goodIn_of _ (by decide +kernel)) ggX7_make_X7_within
theorem dX7_make_0 : decode cX7_make 0 = .ok (.iload_n 1, 1) := by decide +kernel
theorem dX7_make_1 : decode cX7_make 1 = .ok (.invokestatic 217, 3) := by decide +kernel
theorem dX7_make_4 : decode cX7_make 4 = .ok (.ifCond .eq 14, 3) := by decide +kernel
theorem dX7_make_7 : decode cX7_make 7 = .ok (.iload_n 2, 1) := by decide +kernel
theorem dX7_make_8 : decode cX7_make 8 = .ok (.iconst 0, 1) := by decide +kernel
theorem dX7_make_9 : decode cX7_make 9 = .ok (.sipush 10000, 3) := by decide +kernel
theorem dX7_make_12 : decode cX7_make 12 = .ok (.invokestatic 68, 3) := by decide +kernel
theorem dX7_make_15 : decode cX7_make 15 = .ok (.ifCond .ne 6, 3) := by decide +kernel
theorem dX7_make_18 : decode cX7_make 18 = .ok (.bipush (-2), 2) := by decide +kernel
theorem dX7_make_20 : decode cX7_make 20 = .ok (.ireturn, 1) := by decide +kernel
theorem dX7_make_21 : decode cX7_make 21 = .ok (.aload_n 0, 1) := by decide +kernel
theorem dX7_make_22 : decode cX7_make 22 = .ok (.getfield 48, 3) := by decide +kernel
theorem dX7_make_25 : decode cX7_make 25 = .ok (.iload_n 1, 1) := by decide +kernel
theorem dX7_make_26 : decode cX7_make 26 = .ok (.iaload, 1) := by decide +kernel
theorem dX7_make_27 : decode cX7_make 27 = .ok (.istore_n 3, 1) := by decide +kernel
theorem dX7_make_28 : decode cX7_make 28 = .ok (.aload_n 0, 1) := by decide +kernel
theorem dX7_make_29 : decode cX7_make 29 = .ok (.getfield 48, 3) := by decide +kernel
theorem dX7_make_32 : decode cX7_make 32 = .ok (.iload_n 1, 1) := by decide +kernel
theorem dX7_make_33 : decode cX7_make 33 = .ok (.iload_n 2, 1) := by decide +kernel
theorem dX7_make_34 : decode cX7_make 34 = .ok (.iastore, 1) := by decide +kernel
theorem dX7_make_35 : decode cX7_make 35 = .ok (.iload_n 3, 1) := by decide +kernel
theorem dX7_make_36 : decode cX7_make 36 = .ok (.ireturn, 1) := by decide +kernel
set_option maxRecDepth 20000 in
theorem ggX7_stock_X7_isSpan : GoodIn wsX7_stock wsX7_isSpan := goodIn_r _ [13] (by decide +kernel) (by decide +kernel)
set_option maxRecDepth 20000 in
theorem gX7_stock_X7_isSpan : GoodIn wsX7_stock (va_wsS RX7 211 yX7_isSpan wsX7_isSpan) := goodIn_app (goodIn_of _ (by decide +kernel)) ggX7_stock_X7_isSpan
set_option maxRecDepth 20000 in
theorem ggX7_stock_X7_within : GoodIn wsX7_stock wsX7_within := goodIn_r _ [16] (by decide +kernel) (by decide +kernel)
set_option maxRecDepth 20000 in
theorem gX7_stock_X7_within : GoodIn wsX7_stock (va_wsS RX7 68 yX7_within wsX7_within) := goodIn_app (goodIn_of _ (by decide +kernel)) ggX7_stock_X7_within
set_option maxRecDepth 20000 in
theorem ggX7_stock_X5_beginWith : GoodIn wsX7_stock wsX5_beginWith := goodIn_r _ [21, 22, 23, 24, 25, 80, 81, 82, 83] (by decide +kernel) (by decide +kernel)
set_option maxRecDepth 20000 in
theorem gX7_stock_X5_beginWith : GoodIn wsX7_stock (wsV RX7 233 RX5 yX5_beginWith wsX5_beginWith) := goodIn_app (goodIn_of _ (by decide +kernel)) ggX7_stock_X5_beginWith
set_option maxRecDepth 20000 in
theorem ggX7_stock_X7_foretold : GoodIn wsX7_stock wsX7_foretold := goodIn_r _ [29, 30, 31, 32, 33, 34, 35, 36, 37, 38, 39, 12, 40, 14, 15, 16, 41, 42, 43, 44, 45, 46, 47, 48, 49, 50, 51, 52, 69, 70, 71, 72, 73, 74, 75, 76, 77, 78, 79, 84, 85, 86, 87] (by decide +kernel) (by decide +kernel)
set_option maxRecDepth 20000 in
theorem gX7_stock_X7_foretold : GoodIn wsX7_stock (wsV RX7 237 RX7 yX7_foretold wsX7_foretold) := goodIn_app (goodIn_of _ (by decide +kernel)) ggX7_stock_X7_foretold
set_option maxRecDepth 20000 in
theorem ggX7_stock_X5_supply : GoodIn wsX7_stock wsX5_supply := goodIn_r _ [56, 22, 23, 25, 80, 81, 82, 83] (by decide +kernel) (by decide +kernel)
set_option maxRecDepth 20000 in
theorem gX7_stock_X5_supply : GoodIn wsX7_stock (wsV RX7 240 RX5 yX5_supply wsX5_supply) := goodIn_app (goodIn_of _ (by decide +kernel)) ggX7_stock_X5_supply
set_option maxRecDepth 20000 in
theorem ggX7_stock_X5_soften : GoodIn wsX7_stock wsX5_soften := goodIn_r _ [60, 22, 61, 24, 80, 81, 82, 83] (by decide +kernel) (by decide +kernel)
set_option maxRecDepth 20000 in
theorem gX7_stock_X5_soften : GoodIn wsX7_stock (wsV RX7 243 RX5 yX5_soften wsX5_soften) := goodIn_app (goodIn_of _ (by decide +kernel)) ggX7_stock_X5_soften
set_option maxRecDepth 20000 in
theorem ggX7_stock_X7_atMostInt : GoodIn wsX7_stock wsX7_atMostInt := goodIn_r _ [64, 65, 66, 67, 33, 68] (by decide +kernel) (by decide +kernel)
set_option maxRecDepth 20000 in
theorem gX7_stock_X7_atMostInt : GoodIn wsX7_stock (va_wsS RX7 250 yX7_atMostInt wsX7_atMostInt) := goodIn_app (goodIn_of _ (by decide +kernel)) ggX7_stock_X7_atMostInt
theorem dX7_stock_0 : decode cX7_stock 0 = .ok (.iload_n 1, 1) := by decide +kernel
theorem dX7_stock_1 : decode cX7_stock 1 = .ok (.iload_n 2, 1) := by decide +kernel
theorem dX7_stock_2 : decode cX7_stock 2 = .ok (.bipush 51, 2) := by decide +kernel
theorem dX7_stock_4 : decode cX7_stock 4 = .ok (.invokestatic 211, 3) := by decide +kernel
theorem dX7_stock_7 : decode cX7_stock 7 = .ok (.ifCond .eq 23, 3) := by decide +kernel
theorem dX7_stock_10 : decode cX7_stock 10 = .ok (.iload_n 3, 1) := by decide +kernel
theorem dX7_stock_11 : decode cX7_stock 11 = .ok (.iconst 0, 1) := by decide +kernel
theorem dX7_stock_12 : decode cX7_stock 12 = .ok (.ldc 232, 2) := by decide +kernel
theorem dX7_stock_14 : decode cX7_stock 14 = .ok (.invokestatic 68, 3) := by decide +kernel
theorem dX7_stock_17 : decode cX7_stock 17 = .ok (.ifCond .eq 13, 3) := by decide +kernel
theorem dX7_stock_20 : decode cX7_stock 20 = .ok (.iload 4, 2) := by decide +kernel
theorem dX7_stock_22 : decode cX7_stock 22 = .ok (.iconst 0, 1) := by decide +kernel
theorem dX7_stock_23 : decode cX7_stock 23 = .ok (.iconst 3, 1) := by decide +kernel
theorem dX7_stock_24 : decode cX7_stock 24 = .ok (.invokestatic 68, 3) := by decide +kernel
theorem dX7_stock_27 : decode cX7_stock 27 = .ok (.ifCond .ne 6, 3) := by decide +kernel
theorem dX7_stock_30 : decode cX7_stock 30 = .ok (.bipush (-2), 2) := by decide +kernel
theorem dX7_stock_32 : decode cX7_stock 32 = .ok (.ireturn, 1) := by decide +kernel
theorem dX7_stock_33 : decode cX7_stock 33 = .ok (.aload_n 0, 1) := by decide +kernel
theorem dX7_stock_34 : decode cX7_stock 34 = .ok (.getfield 54, 3) := by decide +kernel
theorem dX7_stock_37 : decode cX7_stock 37 = .ok (.iload_n 3, 1) := by decide +kernel
theorem dX7_stock_38 : decode cX7_stock 38 = .ok (.invokevirtual 233, 3) := by decide +kernel
theorem dX7_stock_41 : decode cX7_stock 41 = .ok (.iload_n 1, 1) := by decide +kernel
theorem dX7_stock_42 : decode cX7_stock 42 = .ok (.istore 5, 2) := by decide +kernel
theorem dX7_stock_44 : decode cX7_stock 44 = .ok (.iload 5, 2) := by decide +kernel
theorem dX7_stock_46 : decode cX7_stock 46 = .ok (.iload_n 2, 1) := by decide +kernel
theorem dX7_stock_47 : decode cX7_stock 47 = .ok (.if_icmp .gt 54, 3) := by decide +kernel
theorem dX7_stock_50 : decode cX7_stock 50 = .ok (.aload_n 0, 1) := by decide +kernel
theorem dX7_stock_51 : decode cX7_stock 51 = .ok (.getfield 54, 3) := by decide +kernel
theorem dX7_stock_54 : decode cX7_stock 54 = .ok (.iload 5, 2) := by decide +kernel
theorem dX7_stock_56 : decode cX7_stock 56 = .ok (.aload_n 0, 1) := by decide +kernel
theorem dX7_stock_57 : decode cX7_stock 57 = .ok (.getfield 48, 3) := by decide +kernel
theorem dX7_stock_60 : decode cX7_stock 60 = .ok (.iload 5, 2) := by decide +kernel
theorem dX7_stock_62 : decode cX7_stock 62 = .ok (.iaload, 1) := by decide +kernel
theorem dX7_stock_63 : decode cX7_stock 63 = .ok (.aload_n 0, 1) := by decide +kernel
theorem dX7_stock_64 : decode cX7_stock 64 = .ok (.iload 5, 2) := by decide +kernel
theorem dX7_stock_66 : decode cX7_stock 66 = .ok (.invokevirtual 237, 3) := by decide +kernel
theorem dX7_stock_69 : decode cX7_stock 69 = .ok (.invokevirtual 240, 3) := by decide +kernel
theorem dX7_stock_72 : decode cX7_stock 72 = .ok (.aload_n 0, 1) := by decide +kernel
theorem dX7_stock_73 : decode cX7_stock 73 = .ok (.getfield 44, 3) := by decide +kernel
theorem dX7_stock_76 : decode cX7_stock 76 = .ok (.iload 5, 2) := by decide +kernel
theorem dX7_stock_78 : decode cX7_stock 78 = .ok (.baload, 1) := by decide +kernel
theorem dX7_stock_79 : decode cX7_stock 79 = .ok (.ifCond .eq 16, 3) := by decide +kernel
theorem dX7_stock_82 : decode cX7_stock 82 = .ok (.aload_n 0, 1) := by decide +kernel
theorem dX7_stock_83 : decode cX7_stock 83 = .ok (.getfield 54, 3) := by decide +kernel
theorem dX7_stock_86 : decode cX7_stock 86 = .ok (.aload_n 0, 1) := by decide +kernel
theorem dX7_stock_87 : decode cX7_stock 87 = .ok (.getfield 33, 3) := by decide +kernel
theorem dX7_stock_90 : decode cX7_stock 90 = .ok (.iconst 3, 1) := by decide +kernel
theorem dX7_stock_91 : decode cX7_stock 91 = .ok (.iaload, 1) := by decide +kernel
theorem dX7_stock_92 : decode cX7_stock 92 = .ok (.invokevirtual 243, 3) := by decide +kernel
theorem dX7_stock_95 : decode cX7_stock 95 = .ok (.iinc 5 1, 3) := by decide +kernel
theorem dX7_stock_98 : decode cX7_stock 98 = .ok (.goto (-54), 3) := by decide +kernel
theorem dX7_stock_101 : decode cX7_stock 101 = .ok (.iload 4, 2) := by decide +kernel
theorem dX7_stock_103 : decode cX7_stock 103 = .ok (.tableswitch 58 0 2 #[25, 36, 47], 25) := by decide +kernel
theorem dX7_stock_128 : decode cX7_stock 128 = .ok (.aload_n 0, 1) := by decide +kernel
theorem dX7_stock_129 : decode cX7_stock 129 = .ok (.getfield 54, 3) := by decide +kernel
theorem dX7_stock_132 : decode cX7_stock 132 = .ok (.getfield 246, 3) := by decide +kernel
theorem dX7_stock_135 : decode cX7_stock 135 = .ok (.invokestatic 250, 3) := by decide +kernel
theorem dX7_stock_138 : decode cX7_stock 138 = .ok (.ireturn, 1) := by decide +kernel
theorem dX7_stock_139 : decode cX7_stock 139 = .ok (.aload_n 0, 1) := by decide +kernel
theorem dX7_stock_140 : decode cX7_stock 140 = .ok (.getfield 54, 3) := by decide +kernel
theorem dX7_stock_143 : decode cX7_stock 143 = .ok (.getfield 254, 3) := by decide +kernel
theorem dX7_stock_146 : decode cX7_stock 146 = .ok (.invokestatic 250, 3) := by decide +kernel
theorem dX7_stock_149 : decode cX7_stock 149 = .ok (.ireturn, 1) := by decide +kernel
theorem dX7_stock_150 : decode cX7_stock 150 = .ok (.aload_n 0, 1) := by decide +kernel
theorem dX7_stock_151 : decode cX7_stock 151 = .ok (.getfield 54, 3) := by decide +kernel
theorem dX7_stock_154 : decode cX7_stock 154 = .ok (.getfield 257, 3) := by decide +kernel
theorem dX7_stock_157 : decode cX7_stock 157 = .ok (.invokestatic 250, 3) := by decide +kernel
theorem dX7_stock_160 : decode cX7_stock 160 = .ok (.ireturn, 1) := by decide +kernel
theorem dX7_stock_161 : decode cX7_stock 161 = .ok (.aload_n 0, 1) := by decide +kernel
theorem dX7_stock_162 : decode cX7_stock 162 = .ok (.getfield 54, 3) := by decide +kernel
theorem dX7_stock_165 : decode cX7_stock 165 = .ok (.getfield 260, 3) := by decide +kernel
theorem dX7_stock_168 : decode cX7_stock 168 = .ok (.ireturn, 1) := by decide +kernel
set_option maxRecDepth 20000 in
theorem ggX7_ahead_X7_isSpan : GoodIn wsX7_ahead wsX7_isSpan := goodIn_r _ [8] (by decide +kernel) (by decide +kernel)
set_option maxRecDepth 20000 in
theorem gX7_ahead_X7_isSpan : GoodIn wsX7_ahead (va_wsS RX7 211 yX7_isSpan wsX7_isSpan) := goodIn_app (goodIn_of _ (by decide +kernel)) ggX7_ahead_X7_isSpan
set_option maxRecDepth 20000 in
theorem ggX7_ahead_X7_within : GoodIn wsX7_ahead wsX7_within := goodIn_r _ [11] (by decide +kernel) (by decide +kernel)
set_option maxRecDepth 20000 in
theorem gX7_ahead_X7_within : GoodIn wsX7_ahead (va_wsS RX7 68 yX7_within wsX7_within) := goodIn_app (goodIn_of _ (by decide +kernel)) ggX7_ahead_X7_within
set_option maxRecDepth 20000 in
theorem ggX7_ahead_X7_foretold : GoodIn wsX7_ahead wsX7_foretold := goodIn_r _ [15, 16, 17, 18, 3, 19, 20, 21, 22, 23, 24, 7, 25, 9, 10, 11, 26, 27, 28, 29, 30, 31, 32, 33, 34, 35, 36, 37, 45, 46, 47, 48, 49, 50, 51, 52, 53, 54, 55, 56, 57, 58, 59] (by decide +kernel) (by decide +kernel)
set_option maxRecDepth 20000 in
theorem gX7_ahead_X7_foretold : GoodIn wsX7_ahead (wsV RX7 237 RX7 yX7_foretold wsX7_foretold) := goodIn_app (goodIn_of _ (by decide +kernel)) ggX7_ahead_X7_foretold
set_option maxRecDepth 20000 in
theorem ggX7_ahead_X7_atMostInt : GoodIn wsX7_ahead wsX7_atMostInt := goodIn_r _ [40, 41, 42, 43, 3, 44] (by decide +kernel) (by decide +kernel)
set_option maxRecDepth 20000 in
theorem gX7_ahead_X7_atMostInt : GoodIn wsX7_ahead (va_wsS RX7 250 yX7_atMostInt wsX7_atMostInt) := goodIn_app (goodIn_of _ (by decide +kernel)) ggX7_ahead_X7_atMostInt
theorem dX7_ahead_0 : decode cX7_ahead 0 = .ok (.iload_n 1, 1) := by decide +kernel
theorem dX7_ahead_1 : decode cX7_ahead 1 = .ok (.iload_n 2, 1) := by decide +kernel
theorem dX7_ahead_2 : decode cX7_ahead 2 = .ok (.bipush 51, 2) := by decide +kernel
theorem dX7_ahead_4 : decode cX7_ahead 4 = .ok (.invokestatic 211, 3) := by decide +kernel
theorem dX7_ahead_7 : decode cX7_ahead 7 = .ok (.ifCond .eq 14, 3) := by decide +kernel
theorem dX7_ahead_10 : decode cX7_ahead 10 = .ok (.iload_n 3, 1) := by decide +kernel
theorem dX7_ahead_11 : decode cX7_ahead 11 = .ok (.iconst 0, 1) := by decide +kernel
theorem dX7_ahead_12 : decode cX7_ahead 12 = .ok (.sipush 10000, 3) := by decide +kernel
theorem dX7_ahead_15 : decode cX7_ahead 15 = .ok (.invokestatic 68, 3) := by decide +kernel
theorem dX7_ahead_18 : decode cX7_ahead 18 = .ok (.ifCond .ne 6, 3) := by decide +kernel
theorem dX7_ahead_21 : decode cX7_ahead 21 = .ok (.bipush (-2), 2) := by decide +kernel
theorem dX7_ahead_23 : decode cX7_ahead 23 = .ok (.ireturn, 1) := by decide +kernel
theorem dX7_ahead_24 : decode cX7_ahead 24 = .ok (.lconst 0, 1) := by decide +kernel
theorem dX7_ahead_25 : decode cX7_ahead 25 = .ok (.lstore 4, 2) := by decide +kernel
theorem dX7_ahead_27 : decode cX7_ahead 27 = .ok (.lconst 0, 1) := by decide +kernel
theorem dX7_ahead_28 : decode cX7_ahead 28 = .ok (.lstore 6, 2) := by decide +kernel
theorem dX7_ahead_30 : decode cX7_ahead 30 = .ok (.iload_n 1, 1) := by decide +kernel
theorem dX7_ahead_31 : decode cX7_ahead 31 = .ok (.istore 8, 2) := by decide +kernel
theorem dX7_ahead_33 : decode cX7_ahead 33 = .ok (.iload 8, 2) := by decide +kernel
theorem dX7_ahead_35 : decode cX7_ahead 35 = .ok (.iload_n 2, 1) := by decide +kernel
theorem dX7_ahead_36 : decode cX7_ahead 36 = .ok (.if_icmp .gt 32, 3) := by decide +kernel
theorem dX7_ahead_39 : decode cX7_ahead 39 = .ok (.lload 4, 2) := by decide +kernel
theorem dX7_ahead_41 : decode cX7_ahead 41 = .ok (.aload_n 0, 1) := by decide +kernel
theorem dX7_ahead_42 : decode cX7_ahead 42 = .ok (.iload 8, 2) := by decide +kernel
theorem dX7_ahead_44 : decode cX7_ahead 44 = .ok (.invokevirtual 237, 3) := by decide +kernel
theorem dX7_ahead_47 : decode cX7_ahead 47 = .ok (.iload_n 3, 1) := by decide +kernel
theorem dX7_ahead_48 : decode cX7_ahead 48 = .ok (.isub, 1) := by decide +kernel
theorem dX7_ahead_49 : decode cX7_ahead 49 = .ok (.i2l, 1) := by decide +kernel
theorem dX7_ahead_50 : decode cX7_ahead 50 = .ok (.ladd, 1) := by decide +kernel
theorem dX7_ahead_51 : decode cX7_ahead 51 = .ok (.lstore 4, 2) := by decide +kernel
theorem dX7_ahead_53 : decode cX7_ahead 53 = .ok (.lload 6, 2) := by decide +kernel
theorem dX7_ahead_55 : decode cX7_ahead 55 = .ok (.lload 4, 2) := by decide +kernel
theorem dX7_ahead_57 : decode cX7_ahead 57 = .ok (.invokestatic 263, 3) := by decide +kernel
theorem dX7_ahead_60 : decode cX7_ahead 60 = .ok (.lstore 6, 2) := by decide +kernel
theorem dX7_ahead_62 : decode cX7_ahead 62 = .ok (.iinc 8 1, 3) := by decide +kernel
theorem dX7_ahead_65 : decode cX7_ahead 65 = .ok (.goto (-32), 3) := by decide +kernel
theorem dX7_ahead_68 : decode cX7_ahead 68 = .ok (.lload 6, 2) := by decide +kernel
theorem dX7_ahead_70 : decode cX7_ahead 70 = .ok (.invokestatic 250, 3) := by decide +kernel
theorem dX7_ahead_73 : decode cX7_ahead 73 = .ok (.ireturn, 1) := by decide +kernel
set_option maxRecDepth 20000 in
theorem ggX7_sheet_X7_isSheet : GoodIn wsX7_sheet wsX7_isSheet := goodIn_r _ [5, 6, 7, 4, 8] (by decide +kernel) (by decide +kernel)
set_option maxRecDepth 20000 in
theorem gX7_sheet_X7_isSheet : GoodIn wsX7_sheet (va_wsS RX7 266 yX7_isSheet wsX7_isSheet) := goodIn_app (goodIn_of _ (by decide +kernel)) ggX7_sheet_X7_isSheet
set_option maxRecDepth 20000 in
theorem ggX7_sheet_X7_isForm : GoodIn wsX7_sheet wsX7_isForm := goodIn_r _ [11, 6, 7, 4, 8] (by decide +kernel) (by decide +kernel)
set_option maxRecDepth 20000 in
theorem gX7_sheet_X7_isForm : GoodIn wsX7_sheet (va_wsS RX7 269 yX7_isForm wsX7_isForm) := goodIn_app (goodIn_of _ (by decide +kernel)) ggX7_sheet_X7_isForm
set_option maxRecDepth 20000 in
theorem ggX7_sheet_X7_finding : GoodIn wsX7_sheet wsX7_finding := goodIn_r _ [15, 16, 30, 31, 32, 33, 34, 35, 36, 37, 38, 39, 40] (by decide +kernel) (by decide +kernel)
set_option maxRecDepth 20000 in
theorem gX7_sheet_X7_finding : GoodIn wsX7_sheet (wsV RX7 272 RX7 yX7_finding wsX7_finding) := goodIn_app (goodIn_of _ (by decide +kernel)) ggX7_sheet_X7_finding
set_option maxRecDepth 20000 in
theorem ggX7_sheet_X4_renew : GoodIn wsX7_sheet wsX4_renew := goodIn_r _ [21, 22, 23, 24, 25, 26, 27, 28, 29, 41, 42, 43, 44] (by decide +kernel) (by decide +kernel)
set_option maxRecDepth 20000 in
theorem gX7_sheet_X4_renew : GoodIn wsX7_sheet (wsV RX7 275 RX4 yX4_renew wsX4_renew) := goodIn_app (goodIn_of _ (by decide +kernel)) ggX7_sheet_X4_renew
theorem dX7_sheet_0 : decode cX7_sheet 0 = .ok (.iload_n 1, 1) := by decide +kernel
theorem dX7_sheet_1 : decode cX7_sheet 1 = .ok (.invokestatic 266, 3) := by decide +kernel
theorem dX7_sheet_4 : decode cX7_sheet 4 = .ok (.ifCond .eq 16, 3) := by decide +kernel
theorem dX7_sheet_7 : decode cX7_sheet 7 = .ok (.iload_n 2, 1) := by decide +kernel
theorem dX7_sheet_8 : decode cX7_sheet 8 = .ok (.invokestatic 269, 3) := by decide +kernel
theorem dX7_sheet_11 : decode cX7_sheet 11 = .ok (.ifCond .eq 9, 3) := by decide +kernel
theorem dX7_sheet_14 : decode cX7_sheet 14 = .ok (.iload_n 3, 1) := by decide +kernel
theorem dX7_sheet_15 : decode cX7_sheet 15 = .ok (.bipush 60, 2) := by decide +kernel
theorem dX7_sheet_17 : decode cX7_sheet 17 = .ok (.if_icmp .le 6, 3) := by decide +kernel
theorem dX7_sheet_20 : decode cX7_sheet 20 = .ok (.bipush (-2), 2) := by decide +kernel
theorem dX7_sheet_22 : decode cX7_sheet 22 = .ok (.ireturn, 1) := by decide +kernel
theorem dX7_sheet_23 : decode cX7_sheet 23 = .ok (.iload_n 3, 1) := by decide +kernel
theorem dX7_sheet_24 : decode cX7_sheet 24 = .ok (.ifCond .ge 9, 3) := by decide +kernel
theorem dX7_sheet_27 : decode cX7_sheet 27 = .ok (.aload_n 0, 1) := by decide +kernel
theorem dX7_sheet_28 : decode cX7_sheet 28 = .ok (.iconst 5, 1) := by decide +kernel
theorem dX7_sheet_29 : decode cX7_sheet 29 = .ok (.invokevirtual 272, 3) := by decide +kernel
theorem dX7_sheet_32 : decode cX7_sheet 32 = .ok (.ireturn, 1) := by decide +kernel
theorem dX7_sheet_33 : decode cX7_sheet 33 = .ok (.aload_n 0, 1) := by decide +kernel
theorem dX7_sheet_34 : decode cX7_sheet 34 = .ok (.getfield 60, 3) := by decide +kernel
theorem dX7_sheet_37 : decode cX7_sheet 37 = .ok (.iload_n 1, 1) := by decide +kernel
theorem dX7_sheet_38 : decode cX7_sheet 38 = .ok (.aaload, 1) := by decide +kernel
theorem dX7_sheet_39 : decode cX7_sheet 39 = .ok (.iload_n 2, 1) := by decide +kernel
theorem dX7_sheet_40 : decode cX7_sheet 40 = .ok (.iload_n 3, 1) := by decide +kernel
theorem dX7_sheet_41 : decode cX7_sheet 41 = .ok (.invokevirtual 275, 3) := by decide +kernel
theorem dX7_sheet_44 : decode cX7_sheet 44 = .ok (.iload_n 3, 1) := by decide +kernel
theorem dX7_sheet_45 : decode cX7_sheet 45 = .ok (.ireturn, 1) := by decide +kernel
set_option maxRecDepth 20000 in
theorem ggX7_lose_X7_troubleOfSheet : GoodIn wsX7_lose wsX7_troubleOfSheet := goodIn_r _ [8, 1, 2, 9, 10, 7, 11, 12, 13, 14, 15, 16, 17, 18, 19, 20, 21, 22, 23, 24, 25, 26, 27, 28, 29, 30, 31, 32, 33, 34] (by decide +kernel) (by decide +kernel)
set_option maxRecDepth 20000 in
theorem gX7_lose_X7_troubleOfSheet : GoodIn wsX7_lose (wsV RX7 132 RX7 yX7_troubleOfSheet wsX7_troubleOfSheet) := goodIn_app (goodIn_of _ (by decide +kernel)) ggX7_lose_X7_troubleOfSheet
theorem dX7_lose_0 : decode cX7_lose 0 = .ok (.aload_n 0, 1) := by decide +kernel
theorem dX7_lose_1 : decode cX7_lose 1 = .ok (.iload_n 1, 1) := by decide +kernel
theorem dX7_lose_2 : decode cX7_lose 2 = .ok (.invokevirtual 132, 3) := by decide +kernel
theorem dX7_lose_5 : decode cX7_lose 5 = .ok (.istore_n 2, 1) := by decide +kernel
theorem dX7_lose_6 : decode cX7_lose 6 = .ok (.iload_n 2, 1) := by decide +kernel
theorem dX7_lose_7 : decode cX7_lose 7 = .ok (.ifCond .eq 5, 3) := by decide +kernel
theorem dX7_lose_10 : decode cX7_lose 10 = .ok (.iload_n 2, 1) := by decide +kernel
theorem dX7_lose_11 : decode cX7_lose 11 = .ok (.ireturn, 1) := by decide +kernel
theorem dX7_lose_12 : decode cX7_lose 12 = .ok (.aload_n 0, 1) := by decide +kernel
theorem dX7_lose_13 : decode cX7_lose 13 = .ok (.getfield 60, 3) := by decide +kernel
theorem dX7_lose_16 : decode cX7_lose 16 = .ok (.iload_n 1, 1) := by decide +kernel
theorem dX7_lose_17 : decode cX7_lose 17 = .ok (.aaload, 1) := by decide +kernel
theorem dX7_lose_18 : decode cX7_lose 18 = .ok (.iconst 1, 1) := by decide +kernel
theorem dX7_lose_19 : decode cX7_lose 19 = .ok (.putfield 279, 3) := by decide +kernel
theorem dX7_lose_22 : decode cX7_lose 22 = .ok (.aload_n 0, 1) := by decide +kernel
theorem dX7_lose_23 : decode cX7_lose 23 = .ok (.getfield 60, 3) := by decide +kernel
theorem dX7_lose_26 : decode cX7_lose 26 = .ok (.iload_n 1, 1) := by decide +kernel
theorem dX7_lose_27 : decode cX7_lose 27 = .ok (.aaload, 1) := by decide +kernel
theorem dX7_lose_28 : decode cX7_lose 28 = .ok (.getfield 283, 3) := by decide +kernel
theorem dX7_lose_31 : decode cX7_lose 31 = .ok (.ireturn, 1) := by decide +kernel
set_option maxRecDepth 20000 in
theorem ggX7_put_X7_troubleOfItem : GoodIn wsX7_put wsX7_troubleOfItem := goodIn_r _ [6, 1, 7, 8, 9, 5, 10, 11, 12, 13, 14, 15, 16, 17, 18, 19, 20, 21, 22, 23, 24, 25, 26, 27, 28, 29, 30, 31, 32, 39, 40, 41, 42, 43, 44, 45, 46, 47, 48, 49, 50, 51, 52, 53] (by decide +kernel) (by decide +kernel)
set_option maxRecDepth 20000 in
theorem gX7_put_X7_troubleOfItem : GoodIn wsX7_put (wsV RX7 284 RX7 yX7_troubleOfItem wsX7_troubleOfItem) := goodIn_app (goodIn_of _ (by decide +kernel)) ggX7_put_X7_troubleOfItem
set_option maxRecDepth 20000 in
theorem ggX7_put_X4_write : GoodIn wsX7_put wsX4_write := goodIn_r _ [36, 37, 38, 50, 51, 52, 53] (by decide +kernel) (by decide +kernel)
set_option maxRecDepth 20000 in
theorem gX7_put_X4_write : GoodIn wsX7_put (wsV RX7 287 RX4 yX4_write wsX4_write) := goodIn_app (goodIn_of _ (by decide +kernel)) ggX7_put_X4_write
theorem dX7_put_0 : decode cX7_put 0 = .ok (.aload_n 0, 1) := by decide +kernel
theorem dX7_put_1 : decode cX7_put 1 = .ok (.iload_n 1, 1) := by decide +kernel
theorem dX7_put_2 : decode cX7_put 2 = .ok (.iload_n 2, 1) := by decide +kernel
theorem dX7_put_3 : decode cX7_put 3 = .ok (.iload_n 3, 1) := by decide +kernel
theorem dX7_put_4 : decode cX7_put 4 = .ok (.invokevirtual 284, 3) := by decide +kernel
theorem dX7_put_7 : decode cX7_put 7 = .ok (.istore 5, 2) := by decide +kernel
theorem dX7_put_9 : decode cX7_put 9 = .ok (.iload 5, 2) := by decide +kernel
theorem dX7_put_11 : decode cX7_put 11 = .ok (.ifCond .eq 6, 3) := by decide +kernel
theorem dX7_put_14 : decode cX7_put 14 = .ok (.iload 5, 2) := by decide +kernel
theorem dX7_put_16 : decode cX7_put 16 = .ok (.ireturn, 1) := by decide +kernel
theorem dX7_put_17 : decode cX7_put 17 = .ok (.aload_n 0, 1) := by decide +kernel
theorem dX7_put_18 : decode cX7_put 18 = .ok (.getfield 60, 3) := by decide +kernel
theorem dX7_put_21 : decode cX7_put 21 = .ok (.iload_n 1, 1) := by decide +kernel
theorem dX7_put_22 : decode cX7_put 22 = .ok (.aaload, 1) := by decide +kernel
theorem dX7_put_23 : decode cX7_put 23 = .ok (.iload_n 3, 1) := by decide +kernel
theorem dX7_put_24 : decode cX7_put 24 = .ok (.iload 4, 2) := by decide +kernel
theorem dX7_put_26 : decode cX7_put 26 = .ok (.invokevirtual 287, 3) := by decide +kernel
theorem dX7_put_29 : decode cX7_put 29 = .ok (.iconst 1, 1) := by decide +kernel
theorem dX7_put_30 : decode cX7_put 30 = .ok (.ireturn, 1) := by decide +kernel
set_option maxRecDepth 20000 in
theorem ggX7_get_X7_troubleOfItem : GoodIn wsX7_get wsX7_troubleOfItem := goodIn_r _ [8, 2, 9, 10, 11, 7, 12, 13, 14, 15, 16, 17, 18, 19, 20, 21, 22, 23, 24, 25, 26, 27, 28, 29, 30, 31, 32, 33, 34, 35, 36, 37, 38, 39, 40, 41, 42, 43, 44, 45, 46, 47, 48, 49] (by decide +kernel) (by decide +kernel)
set_option maxRecDepth 20000 in
theorem gX7_get_X7_troubleOfItem : GoodIn wsX7_get (wsV RX7 284 RX7 yX7_troubleOfItem wsX7_troubleOfItem) := goodIn_app (goodIn_of _ (by decide +kernel)) ggX7_get_X7_troubleOfItem
theorem dX7_get_0 : decode cX7_get 0 = .ok (.aload_n 0, 1) := by decide +kernel
theorem dX7_get_1 : decode cX7_get 1 = .ok (.iload_n 1, 1) := by decide +kernel
theorem dX7_get_2 : decode cX7_get 2 = .ok (.iload_n 2, 1) := by decide +kernel
theorem dX7_get_3 : decode cX7_get 3 = .ok (.iload_n 3, 1) := by decide +kernel
theorem dX7_get_4 : decode cX7_get 4 = .ok (.invokevirtual 284, 3) := by decide +kernel
theorem dX7_get_7 : decode cX7_get 7 = .ok (.ifCond .eq 9, 3) := by decide +kernel
theorem dX7_get_10 : decode cX7_get 10 = .ok (.ldc_w 290, 3) := by decide +kernel
theorem dX7_get_13 : decode cX7_get 13 = .ok (.goto 14, 3) := by decide +kernel
theorem dX7_get_16 : decode cX7_get 16 = .ok (.aload_n 0, 1) := by decide +kernel
theorem dX7_get_17 : decode cX7_get 17 = .ok (.getfield 60, 3) := by decide +kernel
theorem dX7_get_20 : decode cX7_get 20 = .ok (.iload_n 1, 1) := by decide +kernel
theorem dX7_get_21 : decode cX7_get 21 = .ok (.aaload, 1) := by decide +kernel
theorem dX7_get_22 : decode cX7_get 22 = .ok (.getfield 291, 3) := by decide +kernel
theorem dX7_get_25 : decode cX7_get 25 = .ok (.iload_n 3, 1) := by decide +kernel
theorem dX7_get_26 : decode cX7_get 26 = .ok (.iaload, 1) := by decide +kernel
theorem dX7_get_27 : decode cX7_get 27 = .ok (.ireturn, 1) := by decide +kernel
set_option maxRecDepth 20000 in
theorem ggX7_copy_X7_isSheet : GoodIn wsX7_copy wsX7_isSheet := goodIn_r _ [12, 13, 14, 11, 15] (by decide +kernel) (by decide +kernel)
set_option maxRecDepth 20000 in
theorem gX7_copy_X7_isSheet : GoodIn wsX7_copy (va_wsS RX7 266 yX7_isSheet wsX7_isSheet) := goodIn_app (goodIn_of _ (by decide +kernel)) ggX7_copy_X7_isSheet
set_option maxRecDepth 20000 in
theorem ggX7_copy_X7_finding : GoodIn wsX7_copy wsX7_finding := goodIn_r _ [19, 20, 27, 28, 29, 30, 31, 32, 33, 34, 35, 36, 37] (by decide +kernel) (by decide +kernel)
set_option maxRecDepth 20000 in
theorem gX7_copy_X7_finding : GoodIn wsX7_copy (wsV RX7 272 RX7 yX7_finding wsX7_finding) := goodIn_app (goodIn_of _ (by decide +kernel)) ggX7_copy_X7_finding
set_option maxRecDepth 20000 in
theorem ggX7_copy_X4_hasRun : GoodIn wsX7_copy wsX4_hasRun := goodIn_r _ [25, 26, 38, 39, 40, 41] (by decide +kernel) (by decide +kernel)
set_option maxRecDepth 20000 in
theorem gX7_copy_X4_hasRun : GoodIn wsX7_copy (wsV RX7 297 RX4 yX4_hasRun wsX4_hasRun) := goodIn_app (goodIn_of _ (by decide +kernel)) ggX7_copy_X4_hasRun
theorem dX7_copy_0 : decode cX7_copy 0 = .ok (.iload_n 1, 1) := by decide +kernel
theorem dX7_copy_1 : decode cX7_copy 1 = .ok (.invokestatic 266, 3) := by decide +kernel
theorem dX7_copy_4 : decode cX7_copy 4 = .ok (.ifCond .eq 10, 3) := by decide +kernel
theorem dX7_copy_7 : decode cX7_copy 7 = .ok (.iload_n 3, 1) := by decide +kernel
theorem dX7_copy_8 : decode cX7_copy 8 = .ok (.invokestatic 266, 3) := by decide +kernel
theorem dX7_copy_11 : decode cX7_copy 11 = .ok (.ifCond .ne 6, 3) := by decide +kernel
theorem dX7_copy_14 : decode cX7_copy 14 = .ok (.bipush (-2), 2) := by decide +kernel
theorem dX7_copy_16 : decode cX7_copy 16 = .ok (.ireturn, 1) := by decide +kernel
theorem dX7_copy_17 : decode cX7_copy 17 = .ok (.aload_n 0, 1) := by decide +kernel
theorem dX7_copy_18 : decode cX7_copy 18 = .ok (.getfield 60, 3) := by decide +kernel
theorem dX7_copy_21 : decode cX7_copy 21 = .ok (.iload_n 1, 1) := by decide +kernel
theorem dX7_copy_22 : decode cX7_copy 22 = .ok (.aaload, 1) := by decide +kernel
theorem dX7_copy_23 : decode cX7_copy 23 = .ok (.astore 6, 2) := by decide +kernel
theorem dX7_copy_25 : decode cX7_copy 25 = .ok (.aload_n 0, 1) := by decide +kernel
theorem dX7_copy_26 : decode cX7_copy 26 = .ok (.getfield 60, 3) := by decide +kernel
theorem dX7_copy_29 : decode cX7_copy 29 = .ok (.iload_n 3, 1) := by decide +kernel
theorem dX7_copy_30 : decode cX7_copy 30 = .ok (.aaload, 1) := by decide +kernel
theorem dX7_copy_31 : decode cX7_copy 31 = .ok (.astore 7, 2) := by decide +kernel
theorem dX7_copy_33 : decode cX7_copy 33 = .ok (.aload 6, 2) := by decide +kernel
theorem dX7_copy_35 : decode cX7_copy 35 = .ok (.getfield 279, 3) := by decide +kernel
theorem dX7_copy_38 : decode cX7_copy 38 = .ok (.ifCond .ne 11, 3) := by decide +kernel
theorem dX7_copy_41 : decode cX7_copy 41 = .ok (.aload 7, 2) := by decide +kernel
theorem dX7_copy_43 : decode cX7_copy 43 = .ok (.getfield 279, 3) := by decide +kernel
theorem dX7_copy_46 : decode cX7_copy 46 = .ok (.ifCond .eq 9, 3) := by decide +kernel
theorem dX7_copy_49 : decode cX7_copy 49 = .ok (.aload_n 0, 1) := by decide +kernel
theorem dX7_copy_50 : decode cX7_copy 50 = .ok (.iconst 1, 1) := by decide +kernel
theorem dX7_copy_51 : decode cX7_copy 51 = .ok (.invokevirtual 272, 3) := by decide +kernel
theorem dX7_copy_54 : decode cX7_copy 54 = .ok (.ireturn, 1) := by decide +kernel
theorem dX7_copy_55 : decode cX7_copy 55 = .ok (.aload 6, 2) := by decide +kernel
theorem dX7_copy_57 : decode cX7_copy 57 = .ok (.getfield 294, 3) := by decide +kernel
theorem dX7_copy_60 : decode cX7_copy 60 = .ok (.aload 7, 2) := by decide +kernel
theorem dX7_copy_62 : decode cX7_copy 62 = .ok (.getfield 294, 3) := by decide +kernel
theorem dX7_copy_65 : decode cX7_copy 65 = .ok (.if_icmp .eq 9, 3) := by decide +kernel
theorem dX7_copy_68 : decode cX7_copy 68 = .ok (.aload_n 0, 1) := by decide +kernel
theorem dX7_copy_69 : decode cX7_copy 69 = .ok (.iconst 4, 1) := by decide +kernel
theorem dX7_copy_70 : decode cX7_copy 70 = .ok (.invokevirtual 272, 3) := by decide +kernel
theorem dX7_copy_73 : decode cX7_copy 73 = .ok (.ireturn, 1) := by decide +kernel
theorem dX7_copy_74 : decode cX7_copy 74 = .ok (.aload 6, 2) := by decide +kernel
theorem dX7_copy_76 : decode cX7_copy 76 = .ok (.iload_n 2, 1) := by decide +kernel
theorem dX7_copy_77 : decode cX7_copy 77 = .ok (.iload 5, 2) := by decide +kernel
theorem dX7_copy_79 : decode cX7_copy 79 = .ok (.invokevirtual 297, 3) := by decide +kernel
theorem dX7_copy_82 : decode cX7_copy 82 = .ok (.ifCond .eq 15, 3) := by decide +kernel
theorem dX7_copy_85 : decode cX7_copy 85 = .ok (.aload 7, 2) := by decide +kernel
theorem dX7_copy_87 : decode cX7_copy 87 = .ok (.iload 4, 2) := by decide +kernel
theorem dX7_copy_89 : decode cX7_copy 89 = .ok (.iload 5, 2) := by decide +kernel
theorem dX7_copy_91 : decode cX7_copy 91 = .ok (.invokevirtual 297, 3) := by decide +kernel
theorem dX7_copy_94 : decode cX7_copy 94 = .ok (.ifCond .ne 9, 3) := by decide +kernel
theorem dX7_copy_97 : decode cX7_copy 97 = .ok (.aload_n 0, 1) := by decide +kernel
theorem dX7_copy_98 : decode cX7_copy 98 = .ok (.iconst 2, 1) := by decide +kernel
theorem dX7_copy_99 : decode cX7_copy 99 = .ok (.invokevirtual 272, 3) := by decide +kernel
theorem dX7_copy_102 : decode cX7_copy 102 = .ok (.ireturn, 1) := by decide +kernel
theorem dX7_copy_103 : decode cX7_copy 103 = .ok (.aload 6, 2) := by decide +kernel
theorem dX7_copy_105 : decode cX7_copy 105 = .ok (.getfield 291, 3) := by decide +kernel
theorem dX7_copy_108 : decode cX7_copy 108 = .ok (.iload_n 2, 1) := by decide +kernel
theorem dX7_copy_109 : decode cX7_copy 109 = .ok (.aload 7, 2) := by decide +kernel
theorem dX7_copy_111 : decode cX7_copy 111 = .ok (.getfield 291, 3) := by decide +kernel
theorem dX7_copy_114 : decode cX7_copy 114 = .ok (.iload 4, 2) := by decide +kernel
theorem dX7_copy_116 : decode cX7_copy 116 = .ok (.iload 5, 2) := by decide +kernel
theorem dX7_copy_118 : decode cX7_copy 118 = .ok (.invokestatic 301, 3) := by decide +kernel
theorem dX7_copy_121 : decode cX7_copy 121 = .ok (.iconst 1, 1) := by decide +kernel
theorem dX7_copy_122 : decode cX7_copy 122 = .ok (.ireturn, 1) := by decide +kernel
set_option maxRecDepth 20000 in
theorem ggX7_count_X7_countFitting : GoodIn wsX7_count wsX7_countFitting := goodIn_r _ [14, 2, 15, 16, 17, 18, 19, 20, 21, 22, 23, 24, 25, 26, 27, 28, 29, 35, 36, 37, 38, 39, 40, 41, 42, 43, 44, 45, 53, 54, 46, 47, 48, 55, 56, 57, 58] (by decide +kernel) (by decide +kernel)
set_option maxRecDepth 20000 in
theorem gX7_count_X7_countFitting : GoodIn wsX7_count (wsV RX7 307 RX7 yX7_countFitting wsX7_countFitting) := goodIn_app (goodIn_of _ (by decide +kernel)) ggX7_count_X7_countFitting
set_option maxRecDepth 20000 in
theorem ggX7_count_X7_countDamp : GoodIn wsX7_count wsX7_countDamp := goodIn_r _ [33, 34, 35, 36, 37, 38, 39, 40, 41, 42, 43, 44, 45] (by decide +kernel) (by decide +kernel)
set_option maxRecDepth 20000 in
theorem gX7_count_X7_countDamp : GoodIn wsX7_count (wsV RX7 312 RX7 yX7_countDamp wsX7_countDamp) := goodIn_app (goodIn_of _ (by decide +kernel)) ggX7_count_X7_countDamp
theorem dX7_count_0 : decode cX7_count 0 = .ok (.iload_n 1, 1) := by decide +kernel
theorem dX7_count_1 : decode cX7_count 1 = .ok (.tableswitch 111 0 8 #[51, 56, 61, 69, 77, 85, 93, 98, 106], 51) := by decide +kernel
theorem dX7_count_52 : decode cX7_count 52 = .ok (.aload_n 0, 1) := by decide +kernel
theorem dX7_count_53 : decode cX7_count 53 = .ok (.getfield 15, 3) := by decide +kernel
theorem dX7_count_56 : decode cX7_count 56 = .ok (.ireturn, 1) := by decide +kernel
theorem dX7_count_57 : decode cX7_count 57 = .ok (.aload_n 0, 1) := by decide +kernel
theorem dX7_count_58 : decode cX7_count 58 = .ok (.invokevirtual 307, 3) := by decide +kernel
theorem dX7_count_61 : decode cX7_count 61 = .ok (.ireturn, 1) := by decide +kernel
theorem dX7_count_62 : decode cX7_count 62 = .ok (.aload_n 0, 1) := by decide +kernel
theorem dX7_count_63 : decode cX7_count 63 = .ok (.getfield 29, 3) := by decide +kernel
theorem dX7_count_66 : decode cX7_count 66 = .ok (.getfield 106, 3) := by decide +kernel
theorem dX7_count_69 : decode cX7_count 69 = .ok (.ireturn, 1) := by decide +kernel
theorem dX7_count_70 : decode cX7_count 70 = .ok (.aload_n 0, 1) := by decide +kernel
theorem dX7_count_71 : decode cX7_count 71 = .ok (.getfield 29, 3) := by decide +kernel
theorem dX7_count_74 : decode cX7_count 74 = .ok (.getfield 109, 3) := by decide +kernel
theorem dX7_count_77 : decode cX7_count 77 = .ok (.ireturn, 1) := by decide +kernel
theorem dX7_count_78 : decode cX7_count 78 = .ok (.aload_n 0, 1) := by decide +kernel
theorem dX7_count_79 : decode cX7_count 79 = .ok (.getfield 40, 3) := by decide +kernel
theorem dX7_count_82 : decode cX7_count 82 = .ok (.getfield 310, 3) := by decide +kernel
theorem dX7_count_85 : decode cX7_count 85 = .ok (.ireturn, 1) := by decide +kernel
theorem dX7_count_86 : decode cX7_count 86 = .ok (.aload_n 0, 1) := by decide +kernel
theorem dX7_count_87 : decode cX7_count 87 = .ok (.getfield 40, 3) := by decide +kernel
theorem dX7_count_90 : decode cX7_count 90 = .ok (.getfield 176, 3) := by decide +kernel
theorem dX7_count_93 : decode cX7_count 93 = .ok (.ireturn, 1) := by decide +kernel
theorem dX7_count_94 : decode cX7_count 94 = .ok (.aload_n 0, 1) := by decide +kernel
theorem dX7_count_95 : decode cX7_count 95 = .ok (.getfield 65, 3) := by decide +kernel
theorem dX7_count_98 : decode cX7_count 98 = .ok (.ireturn, 1) := by decide +kernel
theorem dX7_count_99 : decode cX7_count 99 = .ok (.aload_n 0, 1) := by decide +kernel
theorem dX7_count_100 : decode cX7_count 100 = .ok (.getfield 40, 3) := by decide +kernel
theorem dX7_count_103 : decode cX7_count 103 = .ok (.getfield 311, 3) := by decide +kernel
theorem dX7_count_106 : decode cX7_count 106 = .ok (.ireturn, 1) := by decide +kernel
theorem dX7_count_107 : decode cX7_count 107 = .ok (.aload_n 0, 1) := by decide +kernel
theorem dX7_count_108 : decode cX7_count 108 = .ok (.invokevirtual 312, 3) := by decide +kernel
theorem dX7_count_111 : decode cX7_count 111 = .ok (.ireturn, 1) := by decide +kernel
theorem dX7_count_112 : decode cX7_count 112 = .ok (.bipush (-2), 2) := by decide +kernel
theorem dX7_count_114 : decode cX7_count 114 = .ok (.ireturn, 1) := by decide +kernel
set_option maxRecDepth 20000 in
theorem ggX7_digest_X7_count : GoodIn wsX7_digest wsX7_count := goodIn_r _ [10, 11, 12, 13, 14, 3, 4, 15, 16, 17, 18, 19, 20, 9, 21, 22, 23, 24, 25, 26, 27, 28, 29, 30, 31, 32, 33, 34, 35, 36, 37, 38, 39, 40, 41, 120, 121, 122, 123, 124, 125, 126, 127, 128, 129, 130, 135, 136, 137, 131, 132, 133, 134, 138, 139, 140, 141, 142, 143] (by decide +kernel) (by decide +kernel)
set_option maxRecDepth 20000 in
theorem gX7_digest_X7_count : GoodIn wsX7_digest (wsV RX7 319 RX7 yX7_count wsX7_count) := goodIn_app (goodIn_of _ (by decide +kernel)) ggX7_digest_X7_count
set_option maxRecDepth 20000 in
theorem ggX7_digest_X7_wide : GoodIn wsX7_digest wsX7_wide := goodIn_r _ [45, 12, 46, 47, 48, 9, 49, 22, 50, 51, 52, 53, 31, 32, 26, 33, 28, 34, 35, 36, 120, 121, 122, 123, 124, 125, 126, 127, 128, 129, 130, 138, 139, 140, 141, 142, 143, 135, 136, 137] (by decide +kernel) (by decide +kernel)
set_option maxRecDepth 20000 in
theorem gX7_digest_X7_wide : GoodIn wsX7_digest (wsV RX7 322 RX7 yX7_wide wsX7_wide) := goodIn_app (goodIn_of _ (by decide +kernel)) ggX7_digest_X7_wide
set_option maxRecDepth 20000 in
theorem ggX7_digest_X7_late : GoodIn wsX7_digest wsX7_late := goodIn_r _ [57, 46, 47, 48, 9, 49, 22, 50, 51, 52, 58, 59, 60, 61, 62, 63, 64, 65, 66, 67, 68, 69, 70, 71, 72, 73, 74, 75, 76, 77, 78, 120, 121, 122, 123, 124, 125, 126, 127, 128, 129, 130, 138, 139, 140, 141, 142, 143] (by decide +kernel) (by decide +kernel)
set_option maxRecDepth 20000 in
theorem gX7_digest_X7_late : GoodIn wsX7_digest (wsV RX7 325 RX7 yX7_late wsX7_late) := goodIn_app (goodIn_of _ (by decide +kernel)) ggX7_digest_X7_late
set_option maxRecDepth 20000 in
theorem ggX7_digest_X7_made : GoodIn wsX7_digest wsX7_made := goodIn_r _ [82, 3, 83, 84, 85, 86, 87, 88, 89, 90, 91, 92, 93, 94, 95, 51, 9, 52, 120, 121, 122, 123, 124, 125, 126, 127, 128, 129, 130, 144, 145, 146, 147, 148, 149, 131, 132, 133, 134] (by decide +kernel) (by decide +kernel)
set_option maxRecDepth 20000 in
theorem gX7_digest_X7_made : GoodIn wsX7_digest (wsV RX7 328 RX7 yX7_made wsX7_made) := goodIn_app (goodIn_of _ (by decide +kernel)) ggX7_digest_X7_made
set_option maxRecDepth 20000 in
theorem ggX7_digest_X7_foretold : GoodIn wsX7_digest wsX7_foretold := goodIn_r _ [99, 100, 101, 102, 66, 103, 104, 65, 67, 105, 106, 9, 107, 50, 51, 52, 108, 109, 110, 111, 112, 113, 114, 115, 116, 117, 118, 119, 120, 121, 122, 123, 124, 125, 126, 127, 128, 129, 130, 150, 151, 152, 153] (by decide +kernel) (by decide +kernel)
set_option maxRecDepth 20000 in
theorem gX7_digest_X7_foretold : GoodIn wsX7_digest (wsV RX7 237 RX7 yX7_foretold wsX7_foretold) := goodIn_app (goodIn_of _ (by decide +kernel)) ggX7_digest_X7_foretold
theorem dX7_digest_0 : decode cX7_digest 0 = .ok (.ldc2_w 315, 3) := by decide +kernel
theorem dX7_digest_3 : decode cX7_digest 3 = .ok (.lstore_n 1, 1) := by decide +kernel
theorem dX7_digest_4 : decode cX7_digest 4 = .ok (.iconst 0, 1) := by decide +kernel
theorem dX7_digest_5 : decode cX7_digest 5 = .ok (.istore_n 3, 1) := by decide +kernel
theorem dX7_digest_6 : decode cX7_digest 6 = .ok (.iload_n 3, 1) := by decide +kernel
theorem dX7_digest_7 : decode cX7_digest 7 = .ok (.bipush 8, 2) := by decide +kernel
theorem dX7_digest_9 : decode cX7_digest 9 = .ok (.if_icmp .gt 28, 3) := by decide +kernel
theorem dX7_digest_12 : decode cX7_digest 12 = .ok (.iload_n 3, 1) := by decide +kernel
theorem dX7_digest_13 : decode cX7_digest 13 = .ok (.bipush 6, 2) := by decide +kernel
theorem dX7_digest_15 : decode cX7_digest 15 = .ok (.if_icmp .eq 16, 3) := by decide +kernel
theorem dX7_digest_18 : decode cX7_digest 18 = .ok (.ldc2_w 317, 3) := by decide +kernel
theorem dX7_digest_21 : decode cX7_digest 21 = .ok (.lload_n 1, 1) := by decide +kernel
theorem dX7_digest_22 : decode cX7_digest 22 = .ok (.lmul, 1) := by decide +kernel
theorem dX7_digest_23 : decode cX7_digest 23 = .ok (.aload_n 0, 1) := by decide +kernel
theorem dX7_digest_24 : decode cX7_digest 24 = .ok (.iload_n 3, 1) := by decide +kernel
theorem dX7_digest_25 : decode cX7_digest 25 = .ok (.invokevirtual 319, 3) := by decide +kernel
theorem dX7_digest_28 : decode cX7_digest 28 = .ok (.i2l, 1) := by decide +kernel
theorem dX7_digest_29 : decode cX7_digest 29 = .ok (.ladd, 1) := by decide +kernel
theorem dX7_digest_30 : decode cX7_digest 30 = .ok (.lstore_n 1, 1) := by decide +kernel
theorem dX7_digest_31 : decode cX7_digest 31 = .ok (.iinc 3 1, 3) := by decide +kernel
theorem dX7_digest_34 : decode cX7_digest 34 = .ok (.goto (-28), 3) := by decide +kernel
theorem dX7_digest_37 : decode cX7_digest 37 = .ok (.iconst 0, 1) := by decide +kernel
theorem dX7_digest_38 : decode cX7_digest 38 = .ok (.istore_n 3, 1) := by decide +kernel
theorem dX7_digest_39 : decode cX7_digest 39 = .ok (.iload_n 3, 1) := by decide +kernel
theorem dX7_digest_40 : decode cX7_digest 40 = .ok (.bipush 8, 2) := by decide +kernel
theorem dX7_digest_42 : decode cX7_digest 42 = .ok (.if_icmp .ge 35, 3) := by decide +kernel
theorem dX7_digest_45 : decode cX7_digest 45 = .ok (.ldc2_w 317, 3) := by decide +kernel
theorem dX7_digest_48 : decode cX7_digest 48 = .ok (.lload_n 1, 1) := by decide +kernel
theorem dX7_digest_49 : decode cX7_digest 49 = .ok (.lmul, 1) := by decide +kernel
theorem dX7_digest_50 : decode cX7_digest 50 = .ok (.aload_n 0, 1) := by decide +kernel
theorem dX7_digest_51 : decode cX7_digest 51 = .ok (.iload_n 3, 1) := by decide +kernel
theorem dX7_digest_52 : decode cX7_digest 52 = .ok (.invokevirtual 322, 3) := by decide +kernel
theorem dX7_digest_55 : decode cX7_digest 55 = .ok (.i2l, 1) := by decide +kernel
theorem dX7_digest_56 : decode cX7_digest 56 = .ok (.ladd, 1) := by decide +kernel
theorem dX7_digest_57 : decode cX7_digest 57 = .ok (.lstore_n 1, 1) := by decide +kernel
theorem dX7_digest_58 : decode cX7_digest 58 = .ok (.ldc2_w 317, 3) := by decide +kernel
theorem dX7_digest_61 : decode cX7_digest 61 = .ok (.lload_n 1, 1) := by decide +kernel
theorem dX7_digest_62 : decode cX7_digest 62 = .ok (.lmul, 1) := by decide +kernel
theorem dX7_digest_63 : decode cX7_digest 63 = .ok (.aload_n 0, 1) := by decide +kernel
theorem dX7_digest_64 : decode cX7_digest 64 = .ok (.iload_n 3, 1) := by decide +kernel
theorem dX7_digest_65 : decode cX7_digest 65 = .ok (.invokevirtual 325, 3) := by decide +kernel
theorem dX7_digest_68 : decode cX7_digest 68 = .ok (.i2l, 1) := by decide +kernel
theorem dX7_digest_69 : decode cX7_digest 69 = .ok (.ladd, 1) := by decide +kernel
theorem dX7_digest_70 : decode cX7_digest 70 = .ok (.lstore_n 1, 1) := by decide +kernel
theorem dX7_digest_71 : decode cX7_digest 71 = .ok (.iinc 3 1, 3) := by decide +kernel
theorem dX7_digest_74 : decode cX7_digest 74 = .ok (.goto (-35), 3) := by decide +kernel
theorem dX7_digest_77 : decode cX7_digest 77 = .ok (.iconst 0, 1) := by decide +kernel
theorem dX7_digest_78 : decode cX7_digest 78 = .ok (.istore_n 3, 1) := by decide +kernel
theorem dX7_digest_79 : decode cX7_digest 79 = .ok (.iload_n 3, 1) := by decide +kernel
theorem dX7_digest_80 : decode cX7_digest 80 = .ok (.aload_n 0, 1) := by decide +kernel
theorem dX7_digest_81 : decode cX7_digest 81 = .ok (.getfield 40, 3) := by decide +kernel
theorem dX7_digest_84 : decode cX7_digest 84 = .ok (.getfield 310, 3) := by decide +kernel
theorem dX7_digest_87 : decode cX7_digest 87 = .ok (.if_icmp .ge 39, 3) := by decide +kernel
theorem dX7_digest_90 : decode cX7_digest 90 = .ok (.iconst 0, 1) := by decide +kernel
theorem dX7_digest_91 : decode cX7_digest 91 = .ok (.istore 4, 2) := by decide +kernel
theorem dX7_digest_93 : decode cX7_digest 93 = .ok (.iload 4, 2) := by decide +kernel
theorem dX7_digest_95 : decode cX7_digest 95 = .ok (.iconst 5, 1) := by decide +kernel
theorem dX7_digest_96 : decode cX7_digest 96 = .ok (.if_icmp .gt 24, 3) := by decide +kernel
theorem dX7_digest_99 : decode cX7_digest 99 = .ok (.ldc2_w 317, 3) := by decide +kernel
theorem dX7_digest_102 : decode cX7_digest 102 = .ok (.lload_n 1, 1) := by decide +kernel
theorem dX7_digest_103 : decode cX7_digest 103 = .ok (.lmul, 1) := by decide +kernel
theorem dX7_digest_104 : decode cX7_digest 104 = .ok (.aload_n 0, 1) := by decide +kernel
theorem dX7_digest_105 : decode cX7_digest 105 = .ok (.iload_n 3, 1) := by decide +kernel
theorem dX7_digest_106 : decode cX7_digest 106 = .ok (.iload 4, 2) := by decide +kernel
theorem dX7_digest_108 : decode cX7_digest 108 = .ok (.invokevirtual 328, 3) := by decide +kernel
theorem dX7_digest_111 : decode cX7_digest 111 = .ok (.i2l, 1) := by decide +kernel
theorem dX7_digest_112 : decode cX7_digest 112 = .ok (.ladd, 1) := by decide +kernel
theorem dX7_digest_113 : decode cX7_digest 113 = .ok (.lstore_n 1, 1) := by decide +kernel
theorem dX7_digest_114 : decode cX7_digest 114 = .ok (.iinc 4 1, 3) := by decide +kernel
theorem dX7_digest_117 : decode cX7_digest 117 = .ok (.goto (-24), 3) := by decide +kernel
theorem dX7_digest_120 : decode cX7_digest 120 = .ok (.iinc 3 1, 3) := by decide +kernel
theorem dX7_digest_123 : decode cX7_digest 123 = .ok (.goto (-44), 3) := by decide +kernel
theorem dX7_digest_126 : decode cX7_digest 126 = .ok (.iconst 0, 1) := by decide +kernel
theorem dX7_digest_127 : decode cX7_digest 127 = .ok (.istore_n 3, 1) := by decide +kernel
theorem dX7_digest_128 : decode cX7_digest 128 = .ok (.iload_n 3, 1) := by decide +kernel
theorem dX7_digest_129 : decode cX7_digest 129 = .ok (.bipush 52, 2) := by decide +kernel
theorem dX7_digest_131 : decode cX7_digest 131 = .ok (.if_icmp .ge 22, 3) := by decide +kernel
theorem dX7_digest_134 : decode cX7_digest 134 = .ok (.ldc2_w 317, 3) := by decide +kernel
theorem dX7_digest_137 : decode cX7_digest 137 = .ok (.lload_n 1, 1) := by decide +kernel
theorem dX7_digest_138 : decode cX7_digest 138 = .ok (.lmul, 1) := by decide +kernel
theorem dX7_digest_139 : decode cX7_digest 139 = .ok (.aload_n 0, 1) := by decide +kernel
theorem dX7_digest_140 : decode cX7_digest 140 = .ok (.iload_n 3, 1) := by decide +kernel
theorem dX7_digest_141 : decode cX7_digest 141 = .ok (.invokevirtual 237, 3) := by decide +kernel
theorem dX7_digest_144 : decode cX7_digest 144 = .ok (.i2l, 1) := by decide +kernel
theorem dX7_digest_145 : decode cX7_digest 145 = .ok (.ladd, 1) := by decide +kernel
theorem dX7_digest_146 : decode cX7_digest 146 = .ok (.lstore_n 1, 1) := by decide +kernel
theorem dX7_digest_147 : decode cX7_digest 147 = .ok (.iinc 3 1, 3) := by decide +kernel
theorem dX7_digest_150 : decode cX7_digest 150 = .ok (.goto (-22), 3) := by decide +kernel
theorem dX7_digest_153 : decode cX7_digest 153 = .ok (.iconst 0, 1) := by decide +kernel
theorem dX7_digest_154 : decode cX7_digest 154 = .ok (.istore_n 3, 1) := by decide +kernel
theorem dX7_digest_155 : decode cX7_digest 155 = .ok (.iload_n 3, 1) := by decide +kernel
theorem dX7_digest_156 : decode cX7_digest 156 = .ok (.iconst 4, 1) := by decide +kernel
theorem dX7_digest_157 : decode cX7_digest 157 = .ok (.if_icmp .ge 23, 3) := by decide +kernel
theorem dX7_digest_160 : decode cX7_digest 160 = .ok (.ldc2_w 317, 3) := by decide +kernel
theorem dX7_digest_163 : decode cX7_digest 163 = .ok (.lload_n 1, 1) := by decide +kernel
theorem dX7_digest_164 : decode cX7_digest 164 = .ok (.lmul, 1) := by decide +kernel
theorem dX7_digest_165 : decode cX7_digest 165 = .ok (.aload_n 0, 1) := by decide +kernel
theorem dX7_digest_166 : decode cX7_digest 166 = .ok (.getfield 33, 3) := by decide +kernel
theorem dX7_digest_169 : decode cX7_digest 169 = .ok (.iload_n 3, 1) := by decide +kernel
theorem dX7_digest_170 : decode cX7_digest 170 = .ok (.iaload, 1) := by decide +kernel
theorem dX7_digest_171 : decode cX7_digest 171 = .ok (.i2l, 1) := by decide +kernel
theorem dX7_digest_172 : decode cX7_digest 172 = .ok (.ladd, 1) := by decide +kernel
theorem dX7_digest_173 : decode cX7_digest 173 = .ok (.lstore_n 1, 1) := by decide +kernel
theorem dX7_digest_174 : decode cX7_digest 174 = .ok (.iinc 3 1, 3) := by decide +kernel
theorem dX7_digest_177 : decode cX7_digest 177 = .ok (.goto (-22), 3) := by decide +kernel
theorem dX7_digest_180 : decode cX7_digest 180 = .ok (.lload_n 1, 1) := by decide +kernel
theorem dX7_digest_181 : decode cX7_digest 181 = .ok (.lreturn, 1) := by decide +kernel
set_option maxRecDepth 20000 in
theorem ggX7_countFitting_X3_fits : GoodIn wsX7_countFitting wsX3_fits := goodIn_r _ [7, 8, 9, 10, 11, 12, 6, 13, 14, 15, 16, 28, 29, 30, 31, 32, 33, 34, 35, 36] (by decide +kernel) (by decide +kernel)
set_option maxRecDepth 20000 in
theorem gX7_countFitting_X3_fits : GoodIn wsX7_countFitting (wsV RX7 116 RX3 yX3_fits wsX3_fits) := goodIn_app (goodIn_of _ (by decide +kernel)) ggX7_countFitting_X3_fits
theorem dX7_countFitting_0 : decode cX7_countFitting 0 = .ok (.iconst 0, 1) := by decide +kernel
theorem dX7_countFitting_1 : decode cX7_countFitting 1 = .ok (.istore_n 1, 1) := by decide +kernel
theorem dX7_countFitting_2 : decode cX7_countFitting 2 = .ok (.iconst 0, 1) := by decide +kernel
theorem dX7_countFitting_3 : decode cX7_countFitting 3 = .ok (.istore_n 2, 1) := by decide +kernel
theorem dX7_countFitting_4 : decode cX7_countFitting 4 = .ok (.iload_n 2, 1) := by decide +kernel
theorem dX7_countFitting_5 : decode cX7_countFitting 5 = .ok (.bipush 8, 2) := by decide +kernel
theorem dX7_countFitting_7 : decode cX7_countFitting 7 = .ok (.if_icmp .ge 28, 3) := by decide +kernel
theorem dX7_countFitting_10 : decode cX7_countFitting 10 = .ok (.aload_n 0, 1) := by decide +kernel
theorem dX7_countFitting_11 : decode cX7_countFitting 11 = .ok (.getfield 29, 3) := by decide +kernel
theorem dX7_countFitting_14 : decode cX7_countFitting 14 = .ok (.aload_n 0, 1) := by decide +kernel
theorem dX7_countFitting_15 : decode cX7_countFitting 15 = .ok (.getfield 21, 3) := by decide +kernel
theorem dX7_countFitting_18 : decode cX7_countFitting 18 = .ok (.iload_n 2, 1) := by decide +kernel
theorem dX7_countFitting_19 : decode cX7_countFitting 19 = .ok (.aaload, 1) := by decide +kernel
theorem dX7_countFitting_20 : decode cX7_countFitting 20 = .ok (.invokevirtual 116, 3) := by decide +kernel
theorem dX7_countFitting_23 : decode cX7_countFitting 23 = .ok (.ifCond .eq 6, 3) := by decide +kernel
theorem dX7_countFitting_26 : decode cX7_countFitting 26 = .ok (.iinc 1 1, 3) := by decide +kernel
theorem dX7_countFitting_29 : decode cX7_countFitting 29 = .ok (.iinc 2 1, 3) := by decide +kernel
theorem dX7_countFitting_32 : decode cX7_countFitting 32 = .ok (.goto (-28), 3) := by decide +kernel
theorem dX7_countFitting_35 : decode cX7_countFitting 35 = .ok (.iload_n 1, 1) := by decide +kernel
theorem dX7_countFitting_36 : decode cX7_countFitting 36 = .ok (.ireturn, 1) := by decide +kernel
theorem dX7_countDamp_0 : decode cX7_countDamp 0 = .ok (.iconst 0, 1) := by decide +kernel
theorem dX7_countDamp_1 : decode cX7_countDamp 1 = .ok (.istore_n 1, 1) := by decide +kernel
theorem dX7_countDamp_2 : decode cX7_countDamp 2 = .ok (.iconst 0, 1) := by decide +kernel
theorem dX7_countDamp_3 : decode cX7_countDamp 3 = .ok (.istore_n 2, 1) := by decide +kernel
theorem dX7_countDamp_4 : decode cX7_countDamp 4 = .ok (.iload_n 2, 1) := by decide +kernel
theorem dX7_countDamp_5 : decode cX7_countDamp 5 = .ok (.bipush 52, 2) := by decide +kernel
theorem dX7_countDamp_7 : decode cX7_countDamp 7 = .ok (.if_icmp .ge 21, 3) := by decide +kernel
theorem dX7_countDamp_10 : decode cX7_countDamp 10 = .ok (.aload_n 0, 1) := by decide +kernel
theorem dX7_countDamp_11 : decode cX7_countDamp 11 = .ok (.getfield 44, 3) := by decide +kernel
theorem dX7_countDamp_14 : decode cX7_countDamp 14 = .ok (.iload_n 2, 1) := by decide +kernel
theorem dX7_countDamp_15 : decode cX7_countDamp 15 = .ok (.baload, 1) := by decide +kernel
theorem dX7_countDamp_16 : decode cX7_countDamp 16 = .ok (.ifCond .eq 6, 3) := by decide +kernel
theorem dX7_countDamp_19 : decode cX7_countDamp 19 = .ok (.iinc 1 1, 3) := by decide +kernel
theorem dX7_countDamp_22 : decode cX7_countDamp 22 = .ok (.iinc 2 1, 3) := by decide +kernel
theorem dX7_countDamp_25 : decode cX7_countDamp 25 = .ok (.goto (-21), 3) := by decide +kernel
theorem dX7_countDamp_28 : decode cX7_countDamp 28 = .ok (.iload_n 1, 1) := by decide +kernel
theorem dX7_countDamp_29 : decode cX7_countDamp 29 = .ok (.ireturn, 1) := by decide +kernel
theorem dX7_within_0 : decode cX7_within 0 = .ok (.iload_n 0, 1) := by decide +kernel
theorem dX7_within_1 : decode cX7_within 1 = .ok (.iload_n 1, 1) := by decide +kernel
theorem dX7_within_2 : decode cX7_within 2 = .ok (.if_icmp .lt 12, 3) := by decide +kernel
theorem dX7_within_5 : decode cX7_within 5 = .ok (.iload_n 0, 1) := by decide +kernel
theorem dX7_within_6 : decode cX7_within 6 = .ok (.iload_n 2, 1) := by decide +kernel
theorem dX7_within_7 : decode cX7_within 7 = .ok (.if_icmp .gt 7, 3) := by decide +kernel
theorem dX7_within_10 : decode cX7_within 10 = .ok (.iconst 1, 1) := by decide +kernel
theorem dX7_within_11 : decode cX7_within 11 = .ok (.goto 4, 3) := by decide +kernel
theorem dX7_within_14 : decode cX7_within 14 = .ok (.iconst 0, 1) := by decide +kernel
theorem dX7_within_15 : decode cX7_within 15 = .ok (.ireturn, 1) := by decide +kernel
theorem dX7_isSpan_0 : decode cX7_isSpan 0 = .ok (.iload_n 0, 1) := by decide +kernel
theorem dX7_isSpan_1 : decode cX7_isSpan 1 = .ok (.ifCond .lt 17, 3) := by decide +kernel
theorem dX7_isSpan_4 : decode cX7_isSpan 4 = .ok (.iload_n 0, 1) := by decide +kernel
theorem dX7_isSpan_5 : decode cX7_isSpan 5 = .ok (.iload_n 1, 1) := by decide +kernel
theorem dX7_isSpan_6 : decode cX7_isSpan 6 = .ok (.if_icmp .gt 12, 3) := by decide +kernel
theorem dX7_isSpan_9 : decode cX7_isSpan 9 = .ok (.iload_n 1, 1) := by decide +kernel
theorem dX7_isSpan_10 : decode cX7_isSpan 10 = .ok (.iload_n 2, 1) := by decide +kernel
theorem dX7_isSpan_11 : decode cX7_isSpan 11 = .ok (.if_icmp .gt 7, 3) := by decide +kernel
theorem dX7_isSpan_14 : decode cX7_isSpan 14 = .ok (.iconst 1, 1) := by decide +kernel
theorem dX7_isSpan_15 : decode cX7_isSpan 15 = .ok (.goto 4, 3) := by decide +kernel
theorem dX7_isSpan_18 : decode cX7_isSpan 18 = .ok (.iconst 0, 1) := by decide +kernel
theorem dX7_isSpan_19 : decode cX7_isSpan 19 = .ok (.ireturn, 1) := by decide +kernel
set_option maxRecDepth 20000 in
theorem ggX7_isWeek_X7_within : GoodIn wsX7_isWeek wsX7_within := goodIn_r _ [4] (by decide +kernel) (by decide +kernel)
set_option maxRecDepth 20000 in
theorem gX7_isWeek_X7_within : GoodIn wsX7_isWeek (va_wsS RX7 68 yX7_within wsX7_within) := goodIn_app (goodIn_of _ (by decide +kernel)) ggX7_isWeek_X7_within
theorem dX7_isWeek_0 : decode cX7_isWeek 0 = .ok (.iload_n 0, 1) := by decide +kernel
theorem dX7_isWeek_1 : decode cX7_isWeek 1 = .ok (.iconst 0, 1) := by decide +kernel
theorem dX7_isWeek_2 : decode cX7_isWeek 2 = .ok (.bipush 51, 2) := by decide +kernel
theorem dX7_isWeek_4 : decode cX7_isWeek 4 = .ok (.invokestatic 68, 3) := by decide +kernel
theorem dX7_isWeek_7 : decode cX7_isWeek 7 = .ok (.ireturn, 1) := by decide +kernel
set_option maxRecDepth 20000 in
theorem ggX7_isSheet_X7_within : GoodIn wsX7_isSheet wsX7_within := goodIn_r _ [4] (by decide +kernel) (by decide +kernel)
set_option maxRecDepth 20000 in
theorem gX7_isSheet_X7_within : GoodIn wsX7_isSheet (va_wsS RX7 68 yX7_within wsX7_within) := goodIn_app (goodIn_of _ (by decide +kernel)) ggX7_isSheet_X7_within
theorem dX7_isSheet_0 : decode cX7_isSheet 0 = .ok (.iload_n 0, 1) := by decide +kernel
theorem dX7_isSheet_1 : decode cX7_isSheet 1 = .ok (.iconst 0, 1) := by decide +kernel
theorem dX7_isSheet_2 : decode cX7_isSheet 2 = .ok (.iconst 3, 1) := by decide +kernel
theorem dX7_isSheet_3 : decode cX7_isSheet 3 = .ok (.invokestatic 68, 3) := by decide +kernel
theorem dX7_isSheet_6 : decode cX7_isSheet 6 = .ok (.ireturn, 1) := by decide +kernel
set_option maxRecDepth 20000 in
theorem ggX7_isForm_X7_within : GoodIn wsX7_isForm wsX7_within := goodIn_r _ [4] (by decide +kernel) (by decide +kernel)
set_option maxRecDepth 20000 in
theorem gX7_isForm_X7_within : GoodIn wsX7_isForm (va_wsS RX7 68 yX7_within wsX7_within) := goodIn_app (goodIn_of _ (by decide +kernel)) ggX7_isForm_X7_within
theorem dX7_isForm_0 : decode cX7_isForm 0 = .ok (.iload_n 0, 1) := by decide +kernel
theorem dX7_isForm_1 : decode cX7_isForm 1 = .ok (.iconst 0, 1) := by decide +kernel
theorem dX7_isForm_2 : decode cX7_isForm 2 = .ok (.iconst 2, 1) := by decide +kernel
theorem dX7_isForm_3 : decode cX7_isForm 3 = .ok (.invokestatic 68, 3) := by decide +kernel
theorem dX7_isForm_6 : decode cX7_isForm 6 = .ok (.ireturn, 1) := by decide +kernel
theorem dX7_atMostInt_0 : decode cX7_atMostInt 0 = .ok (.lload_n 0, 1) := by decide +kernel
theorem dX7_atMostInt_1 : decode cX7_atMostInt 1 = .ok (.ldc2_w 331, 3) := by decide +kernel
theorem dX7_atMostInt_4 : decode cX7_atMostInt 4 = .ok (.invokestatic 333, 3) := by decide +kernel
theorem dX7_atMostInt_7 : decode cX7_atMostInt 7 = .ok (.l2i, 1) := by decide +kernel
theorem dX7_atMostInt_8 : decode cX7_atMostInt 8 = .ok (.ireturn, 1) := by decide +kernel
set_option maxRecDepth 20000 in
theorem ggX7_letterAt_X7_within : GoodIn wsX7_letterAt wsX7_within := goodIn_r _ [6] (by decide +kernel) (by decide +kernel)
set_option maxRecDepth 20000 in
theorem gX7_letterAt_X7_within : GoodIn wsX7_letterAt (va_wsS RX7 68 yX7_within wsX7_within) := goodIn_app (goodIn_of _ (by decide +kernel)) ggX7_letterAt_X7_within
theorem dX7_letterAt_0 : decode cX7_letterAt 0 = .ok (.iload_n 1, 1) := by decide +kernel
theorem dX7_letterAt_1 : decode cX7_letterAt 1 = .ok (.iconst 0, 1) := by decide +kernel
theorem dX7_letterAt_2 : decode cX7_letterAt 2 = .ok (.aload_n 0, 1) := by decide +kernel
theorem dX7_letterAt_3 : decode cX7_letterAt 3 = .ok (.getfield 15, 3) := by decide +kernel
theorem dX7_letterAt_6 : decode cX7_letterAt 6 = .ok (.iconst 1, 1) := by decide +kernel
theorem dX7_letterAt_7 : decode cX7_letterAt 7 = .ok (.isub, 1) := by decide +kernel
theorem dX7_letterAt_8 : decode cX7_letterAt 8 = .ok (.invokestatic 68, 3) := by decide +kernel
theorem dX7_letterAt_11 : decode cX7_letterAt 11 = .ok (.ifCond .eq 12, 3) := by decide +kernel
theorem dX7_letterAt_14 : decode cX7_letterAt 14 = .ok (.aload_n 0, 1) := by decide +kernel
theorem dX7_letterAt_15 : decode cX7_letterAt 15 = .ok (.getfield 11, 3) := by decide +kernel
theorem dX7_letterAt_18 : decode cX7_letterAt 18 = .ok (.iload_n 1, 1) := by decide +kernel
theorem dX7_letterAt_19 : decode cX7_letterAt 19 = .ok (.aaload, 1) := by decide +kernel
theorem dX7_letterAt_20 : decode cX7_letterAt 20 = .ok (.goto 4, 3) := by decide +kernel
theorem dX7_letterAt_23 : decode cX7_letterAt 23 = .ok (.aconst_null, 1) := by decide +kernel
theorem dX7_letterAt_24 : decode cX7_letterAt 24 = .ok (.areturn, 1) := by decide +kernel
set_option maxRecDepth 20000 in
theorem ggX7_wordAt_X7_within : GoodIn wsX7_wordAt wsX7_within := goodIn_r _ [5] (by decide +kernel) (by decide +kernel)
set_option maxRecDepth 20000 in
theorem gX7_wordAt_X7_within : GoodIn wsX7_wordAt (va_wsS RX7 68 yX7_within wsX7_within) := goodIn_app (goodIn_of _ (by decide +kernel)) ggX7_wordAt_X7_within
theorem dX7_wordAt_0 : decode cX7_wordAt 0 = .ok (.iload_n 1, 1) := by decide +kernel
theorem dX7_wordAt_1 : decode cX7_wordAt 1 = .ok (.iconst 0, 1) := by decide +kernel
theorem dX7_wordAt_2 : decode cX7_wordAt 2 = .ok (.bipush 7, 2) := by decide +kernel
theorem dX7_wordAt_4 : decode cX7_wordAt 4 = .ok (.invokestatic 68, 3) := by decide +kernel
theorem dX7_wordAt_7 : decode cX7_wordAt 7 = .ok (.ifCond .eq 12, 3) := by decide +kernel
theorem dX7_wordAt_10 : decode cX7_wordAt 10 = .ok (.aload_n 0, 1) := by decide +kernel
theorem dX7_wordAt_11 : decode cX7_wordAt 11 = .ok (.getfield 21, 3) := by decide +kernel
theorem dX7_wordAt_14 : decode cX7_wordAt 14 = .ok (.iload_n 1, 1) := by decide +kernel
theorem dX7_wordAt_15 : decode cX7_wordAt 15 = .ok (.aaload, 1) := by decide +kernel
theorem dX7_wordAt_16 : decode cX7_wordAt 16 = .ok (.goto 4, 3) := by decide +kernel
theorem dX7_wordAt_19 : decode cX7_wordAt 19 = .ok (.aconst_null, 1) := by decide +kernel
theorem dX7_wordAt_20 : decode cX7_wordAt 20 = .ok (.areturn, 1) := by decide +kernel
theorem dX7_finding_0 : decode cX7_finding 0 = .ok (.aload_n 0, 1) := by decide +kernel
theorem dX7_finding_1 : decode cX7_finding 1 = .ok (.iload_n 1, 1) := by decide +kernel
theorem dX7_finding_2 : decode cX7_finding 2 = .ok (.putfield 65, 3) := by decide +kernel
theorem dX7_finding_5 : decode cX7_finding 5 = .ok (.bipush (-10), 2) := by decide +kernel
theorem dX7_finding_7 : decode cX7_finding 7 = .ok (.iload_n 1, 1) := by decide +kernel
theorem dX7_finding_8 : decode cX7_finding 8 = .ok (.isub, 1) := by decide +kernel
theorem dX7_finding_9 : decode cX7_finding 9 = .ok (.ireturn, 1) := by decide +kernel
set_option maxRecDepth 20000 in
theorem ggX7_troubleOfSheet_X7_isSheet : GoodIn wsX7_troubleOfSheet wsX7_isSheet := goodIn_r _ [6, 7, 8, 5, 9] (by decide +kernel) (by decide +kernel)
set_option maxRecDepth 20000 in
theorem gX7_troubleOfSheet_X7_isSheet : GoodIn wsX7_troubleOfSheet (va_wsS RX7 266 yX7_isSheet wsX7_isSheet) := goodIn_app (goodIn_of _ (by decide +kernel)) ggX7_troubleOfSheet_X7_isSheet
set_option maxRecDepth 20000 in
theorem ggX7_troubleOfSheet_X7_finding : GoodIn wsX7_troubleOfSheet wsX7_finding := goodIn_r _ [13, 14, 15, 16, 17, 18, 19, 20, 21, 22, 23, 24, 25] (by decide +kernel) (by decide +kernel)
set_option maxRecDepth 20000 in
theorem gX7_troubleOfSheet_X7_finding : GoodIn wsX7_troubleOfSheet (wsV RX7 272 RX7 yX7_finding wsX7_finding) := goodIn_app (goodIn_of _ (by decide +kernel)) ggX7_troubleOfSheet_X7_finding
theorem dX7_troubleOfSheet_0 : decode cX7_troubleOfSheet 0 = .ok (.iload_n 1, 1) := by decide +kernel
theorem dX7_troubleOfSheet_1 : decode cX7_troubleOfSheet 1 = .ok (.invokestatic 266, 3) := by decide +kernel
theorem dX7_troubleOfSheet_4 : decode cX7_troubleOfSheet 4 = .ok (.ifCond .ne 6, 3) := by decide +kernel
theorem dX7_troubleOfSheet_7 : decode cX7_troubleOfSheet 7 = .ok (.bipush (-2), 2) := by decide +kernel
theorem dX7_troubleOfSheet_9 : decode cX7_troubleOfSheet 9 = .ok (.ireturn, 1) := by decide +kernel
theorem dX7_troubleOfSheet_10 : decode cX7_troubleOfSheet 10 = .ok (.aload_n 0, 1) := by decide +kernel
theorem dX7_troubleOfSheet_11 : decode cX7_troubleOfSheet 11 = .ok (.getfield 60, 3) := by decide +kernel
theorem dX7_troubleOfSheet_14 : decode cX7_troubleOfSheet 14 = .ok (.iload_n 1, 1) := by decide +kernel
theorem dX7_troubleOfSheet_15 : decode cX7_troubleOfSheet 15 = .ok (.aaload, 1) := by decide +kernel
theorem dX7_troubleOfSheet_16 : decode cX7_troubleOfSheet 16 = .ok (.getfield 279, 3) := by decide +kernel
theorem dX7_troubleOfSheet_19 : decode cX7_troubleOfSheet 19 = .ok (.ifCond .eq 11, 3) := by decide +kernel
theorem dX7_troubleOfSheet_22 : decode cX7_troubleOfSheet 22 = .ok (.aload_n 0, 1) := by decide +kernel
theorem dX7_troubleOfSheet_23 : decode cX7_troubleOfSheet 23 = .ok (.iconst 1, 1) := by decide +kernel
theorem dX7_troubleOfSheet_24 : decode cX7_troubleOfSheet 24 = .ok (.invokevirtual 272, 3) := by decide +kernel
theorem dX7_troubleOfSheet_27 : decode cX7_troubleOfSheet 27 = .ok (.goto 4, 3) := by decide +kernel
theorem dX7_troubleOfSheet_30 : decode cX7_troubleOfSheet 30 = .ok (.iconst 0, 1) := by decide +kernel
theorem dX7_troubleOfSheet_31 : decode cX7_troubleOfSheet 31 = .ok (.ireturn, 1) := by decide +kernel
set_option maxRecDepth 20000 in
theorem ggX7_troubleOfItem_X7_isForm : GoodIn wsX7_troubleOfItem wsX7_isForm := goodIn_r _ [6, 7, 8, 5, 9] (by decide +kernel) (by decide +kernel)
set_option maxRecDepth 20000 in
theorem gX7_troubleOfItem_X7_isForm : GoodIn wsX7_troubleOfItem (va_wsS RX7 269 yX7_isForm wsX7_isForm) := goodIn_app (goodIn_of _ (by decide +kernel)) ggX7_troubleOfItem_X7_isForm
set_option maxRecDepth 20000 in
theorem ggX7_troubleOfItem_X7_troubleOfSheet : GoodIn wsX7_troubleOfItem wsX7_troubleOfSheet := goodIn_r _ [13, 1, 14, 15, 16, 5, 17, 7, 8, 9, 18, 19, 20, 21, 22, 29, 30, 31, 32, 33, 34, 35, 36, 37, 38, 39, 40, 41, 42, 43] (by decide +kernel) (by decide +kernel)
set_option maxRecDepth 20000 in
theorem gX7_troubleOfItem_X7_troubleOfSheet : GoodIn wsX7_troubleOfItem (wsV RX7 132 RX7 yX7_troubleOfSheet wsX7_troubleOfSheet) := goodIn_app (goodIn_of _ (by decide +kernel)) ggX7_troubleOfItem_X7_troubleOfSheet
set_option maxRecDepth 20000 in
theorem ggX7_troubleOfItem_X7_finding : GoodIn wsX7_troubleOfItem wsX7_finding := goodIn_r _ [21, 22, 29, 30, 31, 32, 33, 34, 35, 36, 37, 38, 39] (by decide +kernel) (by decide +kernel)
set_option maxRecDepth 20000 in
theorem gX7_troubleOfItem_X7_finding : GoodIn wsX7_troubleOfItem (wsV RX7 272 RX7 yX7_finding wsX7_finding) := goodIn_app (goodIn_of _ (by decide +kernel)) ggX7_troubleOfItem_X7_finding
set_option maxRecDepth 20000 in
theorem ggX7_troubleOfItem_X4_hasItem : GoodIn wsX7_troubleOfItem wsX4_hasItem := goodIn_r _ [27, 28, 8, 5, 9, 40, 41, 42, 43] (by decide +kernel) (by decide +kernel)
set_option maxRecDepth 20000 in
theorem gX7_troubleOfItem_X4_hasItem : GoodIn wsX7_troubleOfItem (wsV RX7 335 RX4 yX4_hasItem wsX4_hasItem) := goodIn_app (goodIn_of _ (by decide +kernel)) ggX7_troubleOfItem_X4_hasItem
theorem dX7_troubleOfItem_0 : decode cX7_troubleOfItem 0 = .ok (.iload_n 2, 1) := by decide +kernel
theorem dX7_troubleOfItem_1 : decode cX7_troubleOfItem 1 = .ok (.invokestatic 269, 3) := by decide +kernel
theorem dX7_troubleOfItem_4 : decode cX7_troubleOfItem 4 = .ok (.ifCond .ne 6, 3) := by decide +kernel
theorem dX7_troubleOfItem_7 : decode cX7_troubleOfItem 7 = .ok (.bipush (-2), 2) := by decide +kernel
theorem dX7_troubleOfItem_9 : decode cX7_troubleOfItem 9 = .ok (.ireturn, 1) := by decide +kernel
theorem dX7_troubleOfItem_10 : decode cX7_troubleOfItem 10 = .ok (.aload_n 0, 1) := by decide +kernel
theorem dX7_troubleOfItem_11 : decode cX7_troubleOfItem 11 = .ok (.iload_n 1, 1) := by decide +kernel
theorem dX7_troubleOfItem_12 : decode cX7_troubleOfItem 12 = .ok (.invokevirtual 132, 3) := by decide +kernel
