theorem dX0_init_0 : decode cX0_init 0 = .ok (.aload_n 0, 1) := by decide +kernel
theorem dX0_init_1 : decode cX0_init 1 = .ok (.invokespecial 3, 3) := by decide +kernel
theorem dX0_init_4 : decode cX0_init 4 = .ok (.aload_n 0, 1) := by decide +kernel
theorem dX0_init_5 : decode cX0_init 5 = .ok (.iload_n 1, 1) := by decide +kernel
theorem dX0_init_6 : decode cX0_init 6 = .ok (.putfield 9, 3) := by decide +kernel
theorem dX0_init_9 : decode cX0_init 9 = .ok (.aload_n 0, 1) := by decide +kernel
theorem dX0_init_10 : decode cX0_init 10 = .ok (.iload_n 2, 1) := by decide +kernel
theorem dX0_init_11 : decode cX0_init 11 = .ok (.putfield 15, 3) := by decide +kernel
theorem dX0_init_14 : decode cX0_init 14 = .ok (.aload_n 0, 1) := by decide +kernel
theorem dX0_init_15 : decode cX0_init 15 = .ok (.iload_n 3, 1) := by decide +kernel
theorem dX0_init_16 : decode cX0_init 16 = .ok (.putfield 18, 3) := by decide +kernel
theorem dX0_init_19 : decode cX0_init 19 = .ok (.aload_n 0, 1) := by decide +kernel
theorem dX0_init_20 : decode cX0_init 20 = .ok (.iconst 5, 1) := by decide +kernel
theorem dX0_init_21 : decode cX0_init 21 = .ok (.newarray .int, 2) := by decide +kernel
theorem dX0_init_23 : decode cX0_init 23 = .ok (.putfield 21, 3) := by decide +kernel
theorem dX0_init_26 : decode cX0_init 26 = .ok (.return_, 1) := by decide +kernel
set_option maxRecDepth 20000 in
theorem ggX0_hasStrip_X7_within : GoodIn wsX0_hasStrip wsX7_within := goodIn_r _ [4] (by decide +kernel) (by decide +kernel)
set_option maxRecDepth 20000 in
theorem gX0_hasStrip_X7_within_n25 : GoodIn wsX0_hasStrip (wsX7_within) := ggX0_hasStrip_X7_within
theorem dX0_hasStrip_0 : decode cX0_hasStrip 0 = .ok (.iload_n 1, 1) := by decide +kernel
theorem dX0_hasStrip_1 : decode cX0_hasStrip 1 = .ok (.iconst 0, 1) := by decide +kernel
theorem dX0_hasStrip_2 : decode cX0_hasStrip 2 = .ok (.aload_n 0, 1) := by decide +kernel
theorem dX0_hasStrip_3 : decode cX0_hasStrip 3 = .ok (.getfield 9, 3) := by decide +kernel
theorem dX0_hasStrip_6 : decode cX0_hasStrip 6 = .ok (.iconst 1, 1) := by decide +kernel
theorem dX0_hasStrip_7 : decode cX0_hasStrip 7 = .ok (.isub, 1) := by decide +kernel
theorem dX0_hasStrip_8 : decode cX0_hasStrip 8 = .ok (.invokestatic 25, 3) := by decide +kernel
theorem dX0_hasStrip_11 : decode cX0_hasStrip 11 = .ok (.ireturn, 1) := by decide +kernel
theorem dX1_init_0 : decode cX1_init 0 = .ok (.aload_n 0, 1) := by decide +kernel
theorem dX1_init_1 : decode cX1_init 1 = .ok (.invokespecial 3, 3) := by decide +kernel
theorem dX1_init_4 : decode cX1_init 4 = .ok (.aload_n 0, 1) := by decide +kernel
theorem dX1_init_5 : decode cX1_init 5 = .ok (.iload_n 1, 1) := by decide +kernel
theorem dX1_init_6 : decode cX1_init 6 = .ok (.putfield 9, 3) := by decide +kernel
theorem dX1_init_9 : decode cX1_init 9 = .ok (.aload_n 0, 1) := by decide +kernel
theorem dX1_init_10 : decode cX1_init 10 = .ok (.iload_n 2, 1) := by decide +kernel
theorem dX1_init_11 : decode cX1_init 11 = .ok (.putfield 15, 3) := by decide +kernel
theorem dX1_init_14 : decode cX1_init 14 = .ok (.aload_n 0, 1) := by decide +kernel
theorem dX1_init_15 : decode cX1_init 15 = .ok (.iload_n 3, 1) := by decide +kernel
theorem dX1_init_16 : decode cX1_init 16 = .ok (.putfield 18, 3) := by decide +kernel
theorem dX1_init_19 : decode cX1_init 19 = .ok (.aload_n 0, 1) := by decide +kernel
theorem dX1_init_20 : decode cX1_init 20 = .ok (.iload 4, 2) := by decide +kernel
theorem dX1_init_22 : decode cX1_init 22 = .ok (.putfield 21, 3) := by decide +kernel
theorem dX1_init_25 : decode cX1_init 25 = .ok (.aload_n 0, 1) := by decide +kernel
theorem dX1_init_26 : decode cX1_init 26 = .ok (.iload 5, 2) := by decide +kernel
theorem dX1_init_28 : decode cX1_init 28 = .ok (.putfield 24, 3) := by decide +kernel
theorem dX1_init_31 : decode cX1_init 31 = .ok (.aload_n 0, 1) := by decide +kernel
theorem dX1_init_32 : decode cX1_init 32 = .ok (.iload 6, 2) := by decide +kernel
theorem dX1_init_34 : decode cX1_init 34 = .ok (.putfield 27, 3) := by decide +kernel
theorem dX1_init_37 : decode cX1_init 37 = .ok (.return_, 1) := by decide +kernel
theorem dX1_gave_0 : decode cX1_gave 0 = .ok (.iload_n 1, 1) := by decide +kernel
theorem dX1_gave_1 : decode cX1_gave 1 = .ok (.aload_n 0, 1) := by decide +kernel
theorem dX1_gave_2 : decode cX1_gave 2 = .ok (.getfield 21, 3) := by decide +kernel
theorem dX1_gave_5 : decode cX1_gave 5 = .ok (.if_icmp .lt 20, 3) := by decide +kernel
theorem dX1_gave_8 : decode cX1_gave 8 = .ok (.iload_n 1, 1) := by decide +kernel
theorem dX1_gave_9 : decode cX1_gave 9 = .ok (.aload_n 0, 1) := by decide +kernel
theorem dX1_gave_10 : decode cX1_gave 10 = .ok (.getfield 21, 3) := by decide +kernel
theorem dX1_gave_13 : decode cX1_gave 13 = .ok (.aload_n 0, 1) := by decide +kernel
theorem dX1_gave_14 : decode cX1_gave 14 = .ok (.getfield 24, 3) := by decide +kernel
theorem dX1_gave_17 : decode cX1_gave 17 = .ok (.iadd, 1) := by decide +kernel
theorem dX1_gave_18 : decode cX1_gave 18 = .ok (.if_icmp .ge 7, 3) := by decide +kernel
theorem dX1_gave_21 : decode cX1_gave 21 = .ok (.iconst 1, 1) := by decide +kernel
theorem dX1_gave_22 : decode cX1_gave 22 = .ok (.goto 4, 3) := by decide +kernel
theorem dX1_gave_25 : decode cX1_gave 25 = .ok (.iconst 0, 1) := by decide +kernel
theorem dX1_gave_26 : decode cX1_gave 26 = .ok (.ireturn, 1) := by decide +kernel
set_option maxRecDepth 20000 in
theorem ggX1_isRecalled_X7_within : GoodIn wsX1_isRecalled wsX7_within := goodIn_r _ [5] (by decide +kernel) (by decide +kernel)
set_option maxRecDepth 20000 in
theorem gX1_isRecalled_X7_within_n30 : GoodIn wsX1_isRecalled (wsX7_within) := ggX1_isRecalled_X7_within
theorem dX1_isRecalled_0 : decode cX1_isRecalled 0 = .ok (.iload_n 1, 1) := by decide +kernel
theorem dX1_isRecalled_1 : decode cX1_isRecalled 1 = .ok (.iconst (-1), 1) := by decide +kernel
theorem dX1_isRecalled_2 : decode cX1_isRecalled 2 = .ok (.if_icmp .eq 11, 3) := by decide +kernel
theorem dX1_isRecalled_5 : decode cX1_isRecalled 5 = .ok (.iload_n 1, 1) := by decide +kernel
theorem dX1_isRecalled_6 : decode cX1_isRecalled 6 = .ok (.aload_n 0, 1) := by decide +kernel
theorem dX1_isRecalled_7 : decode cX1_isRecalled 7 = .ok (.getfield 15, 3) := by decide +kernel
theorem dX1_isRecalled_10 : decode cX1_isRecalled 10 = .ok (.if_icmp .ne 19, 3) := by decide +kernel
theorem dX1_isRecalled_13 : decode cX1_isRecalled 13 = .ok (.aload_n 0, 1) := by decide +kernel
theorem dX1_isRecalled_14 : decode cX1_isRecalled 14 = .ok (.getfield 18, 3) := by decide +kernel
theorem dX1_isRecalled_17 : decode cX1_isRecalled 17 = .ok (.iload_n 2, 1) := by decide +kernel
theorem dX1_isRecalled_18 : decode cX1_isRecalled 18 = .ok (.iload_n 3, 1) := by decide +kernel
theorem dX1_isRecalled_19 : decode cX1_isRecalled 19 = .ok (.invokestatic 30, 3) := by decide +kernel
theorem dX1_isRecalled_22 : decode cX1_isRecalled 22 = .ok (.ifCond .eq 7, 3) := by decide +kernel
theorem dX1_isRecalled_25 : decode cX1_isRecalled 25 = .ok (.iconst 1, 1) := by decide +kernel
theorem dX1_isRecalled_26 : decode cX1_isRecalled 26 = .ok (.goto 4, 3) := by decide +kernel
theorem dX1_isRecalled_29 : decode cX1_isRecalled 29 = .ok (.iconst 0, 1) := by decide +kernel
theorem dX1_isRecalled_30 : decode cX1_isRecalled 30 = .ok (.ireturn, 1) := by decide +kernel
theorem dX2_init_0 : decode cX2_init 0 = .ok (.aload_n 0, 1) := by decide +kernel
theorem dX2_init_1 : decode cX2_init 1 = .ok (.invokespecial 3, 3) := by decide +kernel
theorem dX2_init_4 : decode cX2_init 4 = .ok (.aload_n 0, 1) := by decide +kernel
theorem dX2_init_5 : decode cX2_init 5 = .ok (.bipush 40, 2) := by decide +kernel
theorem dX2_init_7 : decode cX2_init 7 = .ok (.anewarray 9, 3) := by decide +kernel
theorem dX2_init_10 : decode cX2_init 10 = .ok (.putfield 11, 3) := by decide +kernel
theorem dX2_init_13 : decode cX2_init 13 = .ok (.aload_n 0, 1) := by decide +kernel
theorem dX2_init_14 : decode cX2_init 14 = .ok (.iconst 0, 1) := by decide +kernel
theorem dX2_init_15 : decode cX2_init 15 = .ok (.putfield 17, 3) := by decide +kernel
theorem dX2_init_18 : decode cX2_init 18 = .ok (.aload_n 0, 1) := by decide +kernel
theorem dX2_init_19 : decode cX2_init 19 = .ok (.iconst 0, 1) := by decide +kernel
theorem dX2_init_20 : decode cX2_init 20 = .ok (.putfield 21, 3) := by decide +kernel
theorem dX2_init_23 : decode cX2_init 23 = .ok (.aload_n 0, 1) := by decide +kernel
theorem dX2_init_24 : decode cX2_init 24 = .ok (.iconst 0, 1) := by decide +kernel
theorem dX2_init_25 : decode cX2_init 25 = .ok (.putfield 24, 3) := by decide +kernel
theorem dX2_init_28 : decode cX2_init 28 = .ok (.return_, 1) := by decide +kernel
theorem dX2_isFull_0 : decode cX2_isFull 0 = .ok (.aload_n 0, 1) := by decide +kernel
theorem dX2_isFull_1 : decode cX2_isFull 1 = .ok (.getfield 17, 3) := by decide +kernel
theorem dX2_isFull_4 : decode cX2_isFull 4 = .ok (.bipush 40, 2) := by decide +kernel
theorem dX2_isFull_6 : decode cX2_isFull 6 = .ok (.if_icmp .lt 7, 3) := by decide +kernel
theorem dX2_isFull_9 : decode cX2_isFull 9 = .ok (.iconst 1, 1) := by decide +kernel
theorem dX2_isFull_10 : decode cX2_isFull 10 = .ok (.goto 4, 3) := by decide +kernel
theorem dX2_isFull_13 : decode cX2_isFull 13 = .ok (.iconst 0, 1) := by decide +kernel
theorem dX2_isFull_14 : decode cX2_isFull 14 = .ok (.ireturn, 1) := by decide +kernel
set_option maxRecDepth 20000 in
theorem ggX2_enter_X2_isFull : GoodIn wsX2_enter wsX2_isFull := goodIn_r _ [11, 2, 12, 13, 14, 15] (by decide +kernel) (by decide +kernel)
set_option maxRecDepth 20000 in
theorem gX2_enter_X2_isFull : GoodIn wsX2_enter (wsV RX2 27 RX2 yX2_isFull wsX2_isFull) := goodIn_app (goodIn_of _ (by decide +kernel)) ggX2_enter_X2_isFull
theorem dX2_enter_0 : decode cX2_enter 0 = .ok (.aload_n 0, 1) := by decide +kernel
theorem dX2_enter_1 : decode cX2_enter 1 = .ok (.invokevirtual 27, 3) := by decide +kernel
theorem dX2_enter_4 : decode cX2_enter 4 = .ok (.ifCond .eq 4, 3) := by decide +kernel
theorem dX2_enter_7 : decode cX2_enter 7 = .ok (.return_, 1) := by decide +kernel
theorem dX2_enter_8 : decode cX2_enter 8 = .ok (.aload_n 0, 1) := by decide +kernel
theorem dX2_enter_9 : decode cX2_enter 9 = .ok (.getfield 11, 3) := by decide +kernel
theorem dX2_enter_12 : decode cX2_enter 12 = .ok (.aload_n 0, 1) := by decide +kernel
theorem dX2_enter_13 : decode cX2_enter 13 = .ok (.getfield 17, 3) := by decide +kernel
theorem dX2_enter_16 : decode cX2_enter 16 = .ok (.aload_n 1, 1) := by decide +kernel
theorem dX2_enter_17 : decode cX2_enter 17 = .ok (.aastore, 1) := by decide +kernel
theorem dX2_enter_18 : decode cX2_enter 18 = .ok (.aload_n 0, 1) := by decide +kernel
theorem dX2_enter_19 : decode cX2_enter 19 = .ok (.dup, 1) := by decide +kernel
theorem dX2_enter_20 : decode cX2_enter 20 = .ok (.getfield 17, 3) := by decide +kernel
theorem dX2_enter_23 : decode cX2_enter 23 = .ok (.iconst 1, 1) := by decide +kernel
theorem dX2_enter_24 : decode cX2_enter 24 = .ok (.iadd, 1) := by decide +kernel
theorem dX2_enter_25 : decode cX2_enter 25 = .ok (.putfield 17, 3) := by decide +kernel
theorem dX2_enter_28 : decode cX2_enter 28 = .ok (.aload_n 0, 1) := by decide +kernel
theorem dX2_enter_29 : decode cX2_enter 29 = .ok (.dup, 1) := by decide +kernel
theorem dX2_enter_30 : decode cX2_enter 30 = .ok (.getfield 21, 3) := by decide +kernel
theorem dX2_enter_33 : decode cX2_enter 33 = .ok (.aload_n 1, 1) := by decide +kernel
theorem dX2_enter_34 : decode cX2_enter 34 = .ok (.getfield 31, 3) := by decide +kernel
theorem dX2_enter_37 : decode cX2_enter 37 = .ok (.iadd, 1) := by decide +kernel
theorem dX2_enter_38 : decode cX2_enter 38 = .ok (.putfield 21, 3) := by decide +kernel
theorem dX2_enter_41 : decode cX2_enter 41 = .ok (.aload_n 0, 1) := by decide +kernel
theorem dX2_enter_42 : decode cX2_enter 42 = .ok (.dup, 1) := by decide +kernel
theorem dX2_enter_43 : decode cX2_enter 43 = .ok (.getfield 24, 3) := by decide +kernel
theorem dX2_enter_46 : decode cX2_enter 46 = .ok (.aload_n 1, 1) := by decide +kernel
theorem dX2_enter_47 : decode cX2_enter 47 = .ok (.getfield 34, 3) := by decide +kernel
theorem dX2_enter_50 : decode cX2_enter 50 = .ok (.iadd, 1) := by decide +kernel
theorem dX2_enter_51 : decode cX2_enter 51 = .ok (.putfield 24, 3) := by decide +kernel
theorem dX2_enter_54 : decode cX2_enter 54 = .ok (.return_, 1) := by decide +kernel
set_option maxRecDepth 20000 in
theorem ggX2_lumpAt_X7_within : GoodIn wsX2_lumpAt wsX7_within := goodIn_r _ [5] (by decide +kernel) (by decide +kernel)
set_option maxRecDepth 20000 in
theorem gX2_lumpAt_X7_within_n35 : GoodIn wsX2_lumpAt (wsX7_within) := ggX2_lumpAt_X7_within
theorem dX2_lumpAt_0 : decode cX2_lumpAt 0 = .ok (.iload_n 1, 1) := by decide +kernel
theorem dX2_lumpAt_1 : decode cX2_lumpAt 1 = .ok (.iconst 0, 1) := by decide +kernel
theorem dX2_lumpAt_2 : decode cX2_lumpAt 2 = .ok (.aload_n 0, 1) := by decide +kernel
theorem dX2_lumpAt_3 : decode cX2_lumpAt 3 = .ok (.getfield 17, 3) := by decide +kernel
theorem dX2_lumpAt_6 : decode cX2_lumpAt 6 = .ok (.iconst 1, 1) := by decide +kernel
theorem dX2_lumpAt_7 : decode cX2_lumpAt 7 = .ok (.isub, 1) := by decide +kernel
theorem dX2_lumpAt_8 : decode cX2_lumpAt 8 = .ok (.invokestatic 35, 3) := by decide +kernel
theorem dX2_lumpAt_11 : decode cX2_lumpAt 11 = .ok (.ifCond .eq 12, 3) := by decide +kernel
theorem dX2_lumpAt_14 : decode cX2_lumpAt 14 = .ok (.aload_n 0, 1) := by decide +kernel
theorem dX2_lumpAt_15 : decode cX2_lumpAt 15 = .ok (.getfield 11, 3) := by decide +kernel
theorem dX2_lumpAt_18 : decode cX2_lumpAt 18 = .ok (.iload_n 1, 1) := by decide +kernel
theorem dX2_lumpAt_19 : decode cX2_lumpAt 19 = .ok (.aaload, 1) := by decide +kernel
theorem dX2_lumpAt_20 : decode cX2_lumpAt 20 = .ok (.goto 4, 3) := by decide +kernel
theorem dX2_lumpAt_23 : decode cX2_lumpAt 23 = .ok (.aconst_null, 1) := by decide +kernel
theorem dX2_lumpAt_24 : decode cX2_lumpAt 24 = .ok (.areturn, 1) := by decide +kernel
theorem dX2_latestDay_0 : decode cX2_latestDay 0 = .ok (.aload_n 0, 1) := by decide +kernel
theorem dX2_latestDay_1 : decode cX2_latestDay 1 = .ok (.getfield 17, 3) := by decide +kernel
theorem dX2_latestDay_4 : decode cX2_latestDay 4 = .ok (.ifCond .ne 7, 3) := by decide +kernel
theorem dX2_latestDay_7 : decode cX2_latestDay 7 = .ok (.iconst 0, 1) := by decide +kernel
theorem dX2_latestDay_8 : decode cX2_latestDay 8 = .ok (.goto 17, 3) := by decide +kernel
theorem dX2_latestDay_11 : decode cX2_latestDay 11 = .ok (.aload_n 0, 1) := by decide +kernel
theorem dX2_latestDay_12 : decode cX2_latestDay 12 = .ok (.getfield 11, 3) := by decide +kernel
theorem dX2_latestDay_15 : decode cX2_latestDay 15 = .ok (.aload_n 0, 1) := by decide +kernel
theorem dX2_latestDay_16 : decode cX2_latestDay 16 = .ok (.getfield 17, 3) := by decide +kernel
theorem dX2_latestDay_19 : decode cX2_latestDay 19 = .ok (.iconst 1, 1) := by decide +kernel
theorem dX2_latestDay_20 : decode cX2_latestDay 20 = .ok (.isub, 1) := by decide +kernel
theorem dX2_latestDay_21 : decode cX2_latestDay 21 = .ok (.aaload, 1) := by decide +kernel
theorem dX2_latestDay_22 : decode cX2_latestDay 22 = .ok (.getfield 39, 3) := by decide +kernel
theorem dX2_latestDay_25 : decode cX2_latestDay 25 = .ok (.ireturn, 1) := by decide +kernel
set_option maxRecDepth 20000 in
theorem ggX2_lumpOfStick_X1_gave : GoodIn wsX2_lumpOfStick wsX1_gave := goodIn_r _ [7, 8, 9, 14, 15, 16, 17, 18, 19] (by decide +kernel) (by decide +kernel)
set_option maxRecDepth 20000 in
theorem gX2_lumpOfStick_X1_gave : GoodIn wsX2_lumpOfStick (wsV RX2 42 RX1 yX1_gave wsX1_gave) := goodIn_app (goodIn_of _ (by decide +kernel)) ggX2_lumpOfStick_X1_gave
theorem dX2_lumpOfStick_0 : decode cX2_lumpOfStick 0 = .ok (.iconst 0, 1) := by decide +kernel
theorem dX2_lumpOfStick_1 : decode cX2_lumpOfStick 1 = .ok (.istore_n 2, 1) := by decide +kernel
theorem dX2_lumpOfStick_2 : decode cX2_lumpOfStick 2 = .ok (.iload_n 2, 1) := by decide +kernel
theorem dX2_lumpOfStick_3 : decode cX2_lumpOfStick 3 = .ok (.aload_n 0, 1) := by decide +kernel
theorem dX2_lumpOfStick_4 : decode cX2_lumpOfStick 4 = .ok (.getfield 17, 3) := by decide +kernel
theorem dX2_lumpOfStick_7 : decode cX2_lumpOfStick 7 = .ok (.if_icmp .ge 24, 3) := by decide +kernel
theorem dX2_lumpOfStick_10 : decode cX2_lumpOfStick 10 = .ok (.aload_n 0, 1) := by decide +kernel
theorem dX2_lumpOfStick_11 : decode cX2_lumpOfStick 11 = .ok (.getfield 11, 3) := by decide +kernel
theorem dX2_lumpOfStick_14 : decode cX2_lumpOfStick 14 = .ok (.iload_n 2, 1) := by decide +kernel
theorem dX2_lumpOfStick_15 : decode cX2_lumpOfStick 15 = .ok (.aaload, 1) := by decide +kernel
theorem dX2_lumpOfStick_16 : decode cX2_lumpOfStick 16 = .ok (.iload_n 1, 1) := by decide +kernel
theorem dX2_lumpOfStick_17 : decode cX2_lumpOfStick 17 = .ok (.invokevirtual 42, 3) := by decide +kernel
theorem dX2_lumpOfStick_20 : decode cX2_lumpOfStick 20 = .ok (.ifCond .eq 5, 3) := by decide +kernel
theorem dX2_lumpOfStick_23 : decode cX2_lumpOfStick 23 = .ok (.iload_n 2, 1) := by decide +kernel
theorem dX2_lumpOfStick_24 : decode cX2_lumpOfStick 24 = .ok (.ireturn, 1) := by decide +kernel
theorem dX2_lumpOfStick_25 : decode cX2_lumpOfStick 25 = .ok (.iinc 2 1, 3) := by decide +kernel
theorem dX2_lumpOfStick_28 : decode cX2_lumpOfStick 28 = .ok (.goto (-26), 3) := by decide +kernel
theorem dX2_lumpOfStick_31 : decode cX2_lumpOfStick 31 = .ok (.iconst (-1), 1) := by decide +kernel
theorem dX2_lumpOfStick_32 : decode cX2_lumpOfStick 32 = .ok (.ireturn, 1) := by decide +kernel
set_option maxRecDepth 20000 in
theorem ggX2_countSticks_X1_isRecalled : GoodIn wsX2_countSticks wsX1_isRecalled := goodIn_r _ [8, 9, 10, 11, 12, 13, 18, 19, 20, 21, 22, 23] (by decide +kernel) (by decide +kernel)
set_option maxRecDepth 20000 in
theorem gX2_countSticks_X1_isRecalled : GoodIn wsX2_countSticks (wsV RX2 46 RX1 yX1_isRecalled wsX1_isRecalled) := goodIn_app (goodIn_of _ (by decide +kernel)) ggX2_countSticks_X1_isRecalled
theorem dX2_countSticks_0 : decode cX2_countSticks 0 = .ok (.iconst 0, 1) := by decide +kernel
theorem dX2_countSticks_1 : decode cX2_countSticks 1 = .ok (.istore 4, 2) := by decide +kernel
theorem dX2_countSticks_3 : decode cX2_countSticks 3 = .ok (.iconst 0, 1) := by decide +kernel
theorem dX2_countSticks_4 : decode cX2_countSticks 4 = .ok (.istore 5, 2) := by decide +kernel
theorem dX2_countSticks_6 : decode cX2_countSticks 6 = .ok (.iload 5, 2) := by decide +kernel
theorem dX2_countSticks_8 : decode cX2_countSticks 8 = .ok (.aload_n 0, 1) := by decide +kernel
theorem dX2_countSticks_9 : decode cX2_countSticks 9 = .ok (.getfield 17, 3) := by decide +kernel
theorem dX2_countSticks_12 : decode cX2_countSticks 12 = .ok (.if_icmp .ge 40, 3) := by decide +kernel
theorem dX2_countSticks_15 : decode cX2_countSticks 15 = .ok (.aload_n 0, 1) := by decide +kernel
theorem dX2_countSticks_16 : decode cX2_countSticks 16 = .ok (.getfield 11, 3) := by decide +kernel
theorem dX2_countSticks_19 : decode cX2_countSticks 19 = .ok (.iload 5, 2) := by decide +kernel
theorem dX2_countSticks_21 : decode cX2_countSticks 21 = .ok (.aaload, 1) := by decide +kernel
theorem dX2_countSticks_22 : decode cX2_countSticks 22 = .ok (.iload_n 1, 1) := by decide +kernel
theorem dX2_countSticks_23 : decode cX2_countSticks 23 = .ok (.iload_n 2, 1) := by decide +kernel
theorem dX2_countSticks_24 : decode cX2_countSticks 24 = .ok (.iload_n 3, 1) := by decide +kernel
theorem dX2_countSticks_25 : decode cX2_countSticks 25 = .ok (.invokevirtual 46, 3) := by decide +kernel
theorem dX2_countSticks_28 : decode cX2_countSticks 28 = .ok (.ifCond .eq 18, 3) := by decide +kernel
theorem dX2_countSticks_31 : decode cX2_countSticks 31 = .ok (.iload 4, 2) := by decide +kernel
theorem dX2_countSticks_33 : decode cX2_countSticks 33 = .ok (.aload_n 0, 1) := by decide +kernel
theorem dX2_countSticks_34 : decode cX2_countSticks 34 = .ok (.getfield 11, 3) := by decide +kernel
theorem dX2_countSticks_37 : decode cX2_countSticks 37 = .ok (.iload 5, 2) := by decide +kernel
theorem dX2_countSticks_39 : decode cX2_countSticks 39 = .ok (.aaload, 1) := by decide +kernel
theorem dX2_countSticks_40 : decode cX2_countSticks 40 = .ok (.getfield 31, 3) := by decide +kernel
theorem dX2_countSticks_43 : decode cX2_countSticks 43 = .ok (.iadd, 1) := by decide +kernel
theorem dX2_countSticks_44 : decode cX2_countSticks 44 = .ok (.istore 4, 2) := by decide +kernel
theorem dX2_countSticks_46 : decode cX2_countSticks 46 = .ok (.iinc 5 1, 3) := by decide +kernel
theorem dX2_countSticks_49 : decode cX2_countSticks 49 = .ok (.goto (-43), 3) := by decide +kernel
theorem dX2_countSticks_52 : decode cX2_countSticks 52 = .ok (.iload 4, 2) := by decide +kernel
theorem dX2_countSticks_54 : decode cX2_countSticks 54 = .ok (.ireturn, 1) := by decide +kernel
theorem dX3_init_0 : decode cX3_init 0 = .ok (.aload_n 0, 1) := by decide +kernel
theorem dX3_init_1 : decode cX3_init 1 = .ok (.invokespecial 3, 3) := by decide +kernel
theorem dX3_init_4 : decode cX3_init 4 = .ok (.aload_n 0, 1) := by decide +kernel
theorem dX3_init_5 : decode cX3_init 5 = .ok (.bipush 60, 2) := by decide +kernel
theorem dX3_init_7 : decode cX3_init 7 = .ok (.newarray .int, 2) := by decide +kernel
theorem dX3_init_9 : decode cX3_init 9 = .ok (.putfield 9, 3) := by decide +kernel
theorem dX3_init_12 : decode cX3_init 12 = .ok (.aload_n 0, 1) := by decide +kernel
theorem dX3_init_13 : decode cX3_init 13 = .ok (.bipush 30, 2) := by decide +kernel
theorem dX3_init_15 : decode cX3_init 15 = .ok (.putfield 15, 3) := by decide +kernel
theorem dX3_init_18 : decode cX3_init 18 = .ok (.aload_n 0, 1) := by decide +kernel
theorem dX3_init_19 : decode cX3_init 19 = .ok (.iconst 1, 1) := by decide +kernel
theorem dX3_init_20 : decode cX3_init 20 = .ok (.putfield 19, 3) := by decide +kernel
theorem dX3_init_23 : decode cX3_init 23 = .ok (.return_, 1) := by decide +kernel
theorem dX3_widthOf_0 : decode cX3_widthOf 0 = .ok (.iconst 0, 1) := by decide +kernel
theorem dX3_widthOf_1 : decode cX3_widthOf 1 = .ok (.istore_n 2, 1) := by decide +kernel
theorem dX3_widthOf_2 : decode cX3_widthOf 2 = .ok (.iconst 0, 1) := by decide +kernel
theorem dX3_widthOf_3 : decode cX3_widthOf 3 = .ok (.istore_n 3, 1) := by decide +kernel
theorem dX3_widthOf_4 : decode cX3_widthOf 4 = .ok (.iload_n 3, 1) := by decide +kernel
theorem dX3_widthOf_5 : decode cX3_widthOf 5 = .ok (.aload_n 1, 1) := by decide +kernel
theorem dX3_widthOf_6 : decode cX3_widthOf 6 = .ok (.getfield 22, 3) := by decide +kernel
theorem dX3_widthOf_9 : decode cX3_widthOf 9 = .ok (.if_icmp .ge 26, 3) := by decide +kernel
theorem dX3_widthOf_12 : decode cX3_widthOf 12 = .ok (.iload_n 2, 1) := by decide +kernel
theorem dX3_widthOf_13 : decode cX3_widthOf 13 = .ok (.aload_n 1, 1) := by decide +kernel
theorem dX3_widthOf_14 : decode cX3_widthOf 14 = .ok (.getfield 27, 3) := by decide +kernel
theorem dX3_widthOf_17 : decode cX3_widthOf 17 = .ok (.iload_n 3, 1) := by decide +kernel
theorem dX3_widthOf_18 : decode cX3_widthOf 18 = .ok (.aaload, 1) := by decide +kernel
theorem dX3_widthOf_19 : decode cX3_widthOf 19 = .ok (.getfield 31, 3) := by decide +kernel
theorem dX3_widthOf_22 : decode cX3_widthOf 22 = .ok (.aload_n 0, 1) := by decide +kernel
theorem dX3_widthOf_23 : decode cX3_widthOf 23 = .ok (.getfield 19, 3) := by decide +kernel
theorem dX3_widthOf_26 : decode cX3_widthOf 26 = .ok (.iadd, 1) := by decide +kernel
theorem dX3_widthOf_27 : decode cX3_widthOf 27 = .ok (.iadd, 1) := by decide +kernel
theorem dX3_widthOf_28 : decode cX3_widthOf 28 = .ok (.istore_n 2, 1) := by decide +kernel
theorem dX3_widthOf_29 : decode cX3_widthOf 29 = .ok (.iinc 3 1, 3) := by decide +kernel
theorem dX3_widthOf_32 : decode cX3_widthOf 32 = .ok (.goto (-28), 3) := by decide +kernel
theorem dX3_widthOf_35 : decode cX3_widthOf 35 = .ok (.iload_n 2, 1) := by decide +kernel
theorem dX3_widthOf_36 : decode cX3_widthOf 36 = .ok (.ireturn, 1) := by decide +kernel
set_option maxRecDepth 20000 in
theorem ggX3_fits_X3_widthOf : GoodIn wsX3_fits wsX3_widthOf := goodIn_r _ [7, 1, 8, 9, 10, 11, 12, 16, 17, 18, 19, 13, 14, 15] (by decide +kernel) (by decide +kernel)
set_option maxRecDepth 20000 in
theorem gX3_fits_X3_widthOf : GoodIn wsX3_fits (wsV RX3 36 RX3 yX3_widthOf wsX3_widthOf) := goodIn_app (goodIn_of _ (by decide +kernel)) ggX3_fits_X3_widthOf
theorem dX3_fits_0 : decode cX3_fits 0 = .ok (.aload_n 1, 1) := by decide +kernel
theorem dX3_fits_1 : decode cX3_fits 1 = .ok (.getfield 22, 3) := by decide +kernel
theorem dX3_fits_4 : decode cX3_fits 4 = .ok (.ifCond .le 19, 3) := by decide +kernel
theorem dX3_fits_7 : decode cX3_fits 7 = .ok (.aload_n 0, 1) := by decide +kernel
theorem dX3_fits_8 : decode cX3_fits 8 = .ok (.aload_n 1, 1) := by decide +kernel
theorem dX3_fits_9 : decode cX3_fits 9 = .ok (.invokevirtual 36, 3) := by decide +kernel
theorem dX3_fits_12 : decode cX3_fits 12 = .ok (.aload_n 0, 1) := by decide +kernel
theorem dX3_fits_13 : decode cX3_fits 13 = .ok (.getfield 15, 3) := by decide +kernel
theorem dX3_fits_16 : decode cX3_fits 16 = .ok (.if_icmp .gt 7, 3) := by decide +kernel
theorem dX3_fits_19 : decode cX3_fits 19 = .ok (.iconst 1, 1) := by decide +kernel
theorem dX3_fits_20 : decode cX3_fits 20 = .ok (.goto 4, 3) := by decide +kernel
theorem dX3_fits_23 : decode cX3_fits 23 = .ok (.iconst 0, 1) := by decide +kernel
theorem dX3_fits_24 : decode cX3_fits 24 = .ok (.ireturn, 1) := by decide +kernel
set_option maxRecDepth 20000 in
theorem ggX3_lay_J7_fill_53178 : GoodIn wsX3_lay wsJ7_fill_53178 := goodIn_r _ [10] (by decide +kernel) (by decide +kernel)
set_option maxRecDepth 20000 in
theorem gX3_lay_J7_fill_53178 : GoodIn wsX3_lay (va_wsS RX3 40 yJ7_fill_53178 wsJ7_fill_53178) := goodIn_app (goodIn_of _ (by decide +kernel)) ggX3_lay_J7_fill_53178
theorem dX3_lay_0 : decode cX3_lay 0 = .ok (.aload_n 0, 1) := by decide +kernel
theorem dX3_lay_1 : decode cX3_lay 1 = .ok (.getfield 9, 3) := by decide +kernel
theorem dX3_lay_4 : decode cX3_lay 4 = .ok (.iconst 0, 1) := by decide +kernel
theorem dX3_lay_5 : decode cX3_lay 5 = .ok (.invokestatic 40, 3) := by decide +kernel
theorem dX3_lay_8 : decode cX3_lay 8 = .ok (.iconst 0, 1) := by decide +kernel
theorem dX3_lay_9 : decode cX3_lay 9 = .ok (.istore_n 2, 1) := by decide +kernel
theorem dX3_lay_10 : decode cX3_lay 10 = .ok (.iconst 0, 1) := by decide +kernel
theorem dX3_lay_11 : decode cX3_lay 11 = .ok (.istore_n 3, 1) := by decide +kernel
theorem dX3_lay_12 : decode cX3_lay 12 = .ok (.iload_n 3, 1) := by decide +kernel
theorem dX3_lay_13 : decode cX3_lay 13 = .ok (.aload_n 1, 1) := by decide +kernel
theorem dX3_lay_14 : decode cX3_lay 14 = .ok (.getfield 22, 3) := by decide +kernel
theorem dX3_lay_17 : decode cX3_lay 17 = .ok (.if_icmp .ge 75, 3) := by decide +kernel
theorem dX3_lay_20 : decode cX3_lay 20 = .ok (.aload_n 1, 1) := by decide +kernel
theorem dX3_lay_21 : decode cX3_lay 21 = .ok (.getfield 27, 3) := by decide +kernel
theorem dX3_lay_24 : decode cX3_lay 24 = .ok (.iload_n 3, 1) := by decide +kernel
theorem dX3_lay_25 : decode cX3_lay 25 = .ok (.aaload, 1) := by decide +kernel
theorem dX3_lay_26 : decode cX3_lay 26 = .ok (.astore 4, 2) := by decide +kernel
theorem dX3_lay_28 : decode cX3_lay 28 = .ok (.iconst 0, 1) := by decide +kernel
theorem dX3_lay_29 : decode cX3_lay 29 = .ok (.istore 5, 2) := by decide +kernel
theorem dX3_lay_31 : decode cX3_lay 31 = .ok (.iload 5, 2) := by decide +kernel
theorem dX3_lay_33 : decode cX3_lay 33 = .ok (.aload 4, 2) := by decide +kernel
theorem dX3_lay_35 : decode cX3_lay 35 = .ok (.getfield 31, 3) := by decide +kernel
theorem dX3_lay_38 : decode cX3_lay 38 = .ok (.if_icmp .ge 35, 3) := by decide +kernel
theorem dX3_lay_41 : decode cX3_lay 41 = .ok (.iload_n 2, 1) := by decide +kernel
theorem dX3_lay_42 : decode cX3_lay 42 = .ok (.iload 5, 2) := by decide +kernel
theorem dX3_lay_44 : decode cX3_lay 44 = .ok (.iadd, 1) := by decide +kernel
theorem dX3_lay_45 : decode cX3_lay 45 = .ok (.bipush 60, 2) := by decide +kernel
theorem dX3_lay_47 : decode cX3_lay 47 = .ok (.if_icmp .ge 26, 3) := by decide +kernel
theorem dX3_lay_50 : decode cX3_lay 50 = .ok (.aload_n 0, 1) := by decide +kernel
theorem dX3_lay_51 : decode cX3_lay 51 = .ok (.getfield 9, 3) := by decide +kernel
theorem dX3_lay_54 : decode cX3_lay 54 = .ok (.iload_n 2, 1) := by decide +kernel
theorem dX3_lay_55 : decode cX3_lay 55 = .ok (.iload 5, 2) := by decide +kernel
theorem dX3_lay_57 : decode cX3_lay 57 = .ok (.iadd, 1) := by decide +kernel
theorem dX3_lay_58 : decode cX3_lay 58 = .ok (.aload 4, 2) := by decide +kernel
theorem dX3_lay_60 : decode cX3_lay 60 = .ok (.getfield 46, 3) := by decide +kernel
theorem dX3_lay_63 : decode cX3_lay 63 = .ok (.iload 5, 2) := by decide +kernel
theorem dX3_lay_65 : decode cX3_lay 65 = .ok (.iaload, 1) := by decide +kernel
theorem dX3_lay_66 : decode cX3_lay 66 = .ok (.iastore, 1) := by decide +kernel
theorem dX3_lay_67 : decode cX3_lay 67 = .ok (.iinc 5 1, 3) := by decide +kernel
theorem dX3_lay_70 : decode cX3_lay 70 = .ok (.goto (-39), 3) := by decide +kernel
theorem dX3_lay_73 : decode cX3_lay 73 = .ok (.iload_n 2, 1) := by decide +kernel
theorem dX3_lay_74 : decode cX3_lay 74 = .ok (.aload 4, 2) := by decide +kernel
theorem dX3_lay_76 : decode cX3_lay 76 = .ok (.getfield 31, 3) := by decide +kernel
theorem dX3_lay_79 : decode cX3_lay 79 = .ok (.aload_n 0, 1) := by decide +kernel
theorem dX3_lay_80 : decode cX3_lay 80 = .ok (.getfield 19, 3) := by decide +kernel
theorem dX3_lay_83 : decode cX3_lay 83 = .ok (.iadd, 1) := by decide +kernel
theorem dX3_lay_84 : decode cX3_lay 84 = .ok (.iadd, 1) := by decide +kernel
theorem dX3_lay_85 : decode cX3_lay 85 = .ok (.istore_n 2, 1) := by decide +kernel
theorem dX3_lay_86 : decode cX3_lay 86 = .ok (.iinc 3 1, 3) := by decide +kernel
theorem dX3_lay_89 : decode cX3_lay 89 = .ok (.goto (-77), 3) := by decide +kernel
theorem dX3_lay_92 : decode cX3_lay 92 = .ok (.return_, 1) := by decide +kernel
set_option maxRecDepth 20000 in
theorem ggX3_seen_X3_slotSeen : GoodIn wsX3_seen wsX3_slotSeen := goodIn_r _ [6, 7, 11, 12, 13] (by decide +kernel) (by decide +kernel)
set_option maxRecDepth 20000 in
theorem gX3_seen_X3_slotSeen : GoodIn wsX3_seen (wsV RX3 49 RX3 yX3_slotSeen wsX3_slotSeen) := goodIn_app (goodIn_of _ (by decide +kernel)) ggX3_seen_X3_slotSeen
set_option maxRecDepth 20000 in
theorem ggX3_seen_X3_upsideDown : GoodIn wsX3_seen wsX3_upsideDown := goodIn_r _ [10] (by decide +kernel) (by decide +kernel)
set_option maxRecDepth 20000 in
theorem gX3_seen_X3_upsideDown : GoodIn wsX3_seen (va_wsS RX3 53 yX3_upsideDown wsX3_upsideDown) := goodIn_app (goodIn_of _ (by decide +kernel)) ggX3_seen_X3_upsideDown
theorem dX3_seen_0 : decode cX3_seen 0 = .ok (.aload_n 0, 1) := by decide +kernel
theorem dX3_seen_1 : decode cX3_seen 1 = .ok (.getfield 9, 3) := by decide +kernel
theorem dX3_seen_4 : decode cX3_seen 4 = .ok (.aload_n 0, 1) := by decide +kernel
theorem dX3_seen_5 : decode cX3_seen 5 = .ok (.iload_n 1, 1) := by decide +kernel
theorem dX3_seen_6 : decode cX3_seen 6 = .ok (.iload_n 2, 1) := by decide +kernel
theorem dX3_seen_7 : decode cX3_seen 7 = .ok (.iload_n 3, 1) := by decide +kernel
theorem dX3_seen_8 : decode cX3_seen 8 = .ok (.invokevirtual 49, 3) := by decide +kernel
theorem dX3_seen_11 : decode cX3_seen 11 = .ok (.iaload, 1) := by decide +kernel
theorem dX3_seen_12 : decode cX3_seen 12 = .ok (.istore 4, 2) := by decide +kernel
theorem dX3_seen_14 : decode cX3_seen 14 = .ok (.iload_n 2, 1) := by decide +kernel
theorem dX3_seen_15 : decode cX3_seen 15 = .ok (.iconst 2, 1) := by decide +kernel
theorem dX3_seen_16 : decode cX3_seen 16 = .ok (.iand, 1) := by decide +kernel
theorem dX3_seen_17 : decode cX3_seen 17 = .ok (.ifCond .ne 8, 3) := by decide +kernel
theorem dX3_seen_20 : decode cX3_seen 20 = .ok (.iload 4, 2) := by decide +kernel
theorem dX3_seen_22 : decode cX3_seen 22 = .ok (.goto 8, 3) := by decide +kernel
theorem dX3_seen_25 : decode cX3_seen 25 = .ok (.iload 4, 2) := by decide +kernel
theorem dX3_seen_27 : decode cX3_seen 27 = .ok (.invokestatic 53, 3) := by decide +kernel
theorem dX3_seen_30 : decode cX3_seen 30 = .ok (.ireturn, 1) := by decide +kernel
theorem dX3_slotSeen_0 : decode cX3_slotSeen 0 = .ok (.iload_n 2, 1) := by decide +kernel
theorem dX3_slotSeen_1 : decode cX3_slotSeen 1 = .ok (.iconst 1, 1) := by decide +kernel
theorem dX3_slotSeen_2 : decode cX3_slotSeen 2 = .ok (.iand, 1) := by decide +kernel
theorem dX3_slotSeen_3 : decode cX3_slotSeen 3 = .ok (.ifCond .eq 23, 3) := by decide +kernel
theorem dX3_slotSeen_6 : decode cX3_slotSeen 6 = .ok (.iload_n 1, 1) := by decide +kernel
theorem dX3_slotSeen_7 : decode cX3_slotSeen 7 = .ok (.iload_n 3, 1) := by decide +kernel
theorem dX3_slotSeen_8 : decode cX3_slotSeen 8 = .ok (.if_icmp .lt 9, 3) := by decide +kernel
theorem dX3_slotSeen_11 : decode cX3_slotSeen 11 = .ok (.iload_n 1, 1) := by decide +kernel
theorem dX3_slotSeen_12 : decode cX3_slotSeen 12 = .ok (.iload_n 3, 1) := by decide +kernel
theorem dX3_slotSeen_13 : decode cX3_slotSeen 13 = .ok (.isub, 1) := by decide +kernel
theorem dX3_slotSeen_14 : decode cX3_slotSeen 14 = .ok (.goto 11, 3) := by decide +kernel
theorem dX3_slotSeen_17 : decode cX3_slotSeen 17 = .ok (.iload_n 1, 1) := by decide +kernel
theorem dX3_slotSeen_18 : decode cX3_slotSeen 18 = .ok (.iload_n 3, 1) := by decide +kernel
theorem dX3_slotSeen_19 : decode cX3_slotSeen 19 = .ok (.isub, 1) := by decide +kernel
theorem dX3_slotSeen_20 : decode cX3_slotSeen 20 = .ok (.aload_n 0, 1) := by decide +kernel
theorem dX3_slotSeen_21 : decode cX3_slotSeen 21 = .ok (.getfield 15, 3) := by decide +kernel
theorem dX3_slotSeen_24 : decode cX3_slotSeen 24 = .ok (.iadd, 1) := by decide +kernel
theorem dX3_slotSeen_25 : decode cX3_slotSeen 25 = .ok (.ireturn, 1) := by decide +kernel
theorem dX3_slotSeen_26 : decode cX3_slotSeen 26 = .ok (.iload_n 1, 1) := by decide +kernel
theorem dX3_slotSeen_27 : decode cX3_slotSeen 27 = .ok (.iload_n 3, 1) := by decide +kernel
theorem dX3_slotSeen_28 : decode cX3_slotSeen 28 = .ok (.iadd, 1) := by decide +kernel
theorem dX3_slotSeen_29 : decode cX3_slotSeen 29 = .ok (.istore 4, 2) := by decide +kernel
theorem dX3_slotSeen_31 : decode cX3_slotSeen 31 = .ok (.iload 4, 2) := by decide +kernel
theorem dX3_slotSeen_33 : decode cX3_slotSeen 33 = .ok (.aload_n 0, 1) := by decide +kernel
theorem dX3_slotSeen_34 : decode cX3_slotSeen 34 = .ok (.getfield 15, 3) := by decide +kernel
theorem dX3_slotSeen_37 : decode cX3_slotSeen 37 = .ok (.if_icmp .ge 8, 3) := by decide +kernel
theorem dX3_slotSeen_40 : decode cX3_slotSeen 40 = .ok (.iload 4, 2) := by decide +kernel
theorem dX3_slotSeen_42 : decode cX3_slotSeen 42 = .ok (.goto 10, 3) := by decide +kernel
theorem dX3_slotSeen_45 : decode cX3_slotSeen 45 = .ok (.iload 4, 2) := by decide +kernel
theorem dX3_slotSeen_47 : decode cX3_slotSeen 47 = .ok (.aload_n 0, 1) := by decide +kernel
theorem dX3_slotSeen_48 : decode cX3_slotSeen 48 = .ok (.getfield 15, 3) := by decide +kernel
theorem dX3_slotSeen_51 : decode cX3_slotSeen 51 = .ok (.isub, 1) := by decide +kernel
theorem dX3_slotSeen_52 : decode cX3_slotSeen 52 = .ok (.ireturn, 1) := by decide +kernel
theorem dX3_upsideDown_0 : decode cX3_upsideDown 0 = .ok (.iconst 0, 1) := by decide +kernel
theorem dX3_upsideDown_1 : decode cX3_upsideDown 1 = .ok (.istore_n 1, 1) := by decide +kernel
theorem dX3_upsideDown_2 : decode cX3_upsideDown 2 = .ok (.iconst 0, 1) := by decide +kernel
theorem dX3_upsideDown_3 : decode cX3_upsideDown 3 = .ok (.istore_n 2, 1) := by decide +kernel
theorem dX3_upsideDown_4 : decode cX3_upsideDown 4 = .ok (.iload_n 2, 1) := by decide +kernel
theorem dX3_upsideDown_5 : decode cX3_upsideDown 5 = .ok (.iconst 5, 1) := by decide +kernel
theorem dX3_upsideDown_6 : decode cX3_upsideDown 6 = .ok (.if_icmp .ge 19, 3) := by decide +kernel
theorem dX3_upsideDown_9 : decode cX3_upsideDown 9 = .ok (.iload_n 1, 1) := by decide +kernel
theorem dX3_upsideDown_10 : decode cX3_upsideDown 10 = .ok (.iconst 1, 1) := by decide +kernel
theorem dX3_upsideDown_11 : decode cX3_upsideDown 11 = .ok (.ishl, 1) := by decide +kernel
theorem dX3_upsideDown_12 : decode cX3_upsideDown 12 = .ok (.iload_n 0, 1) := by decide +kernel
theorem dX3_upsideDown_13 : decode cX3_upsideDown 13 = .ok (.iload_n 2, 1) := by decide +kernel
theorem dX3_upsideDown_14 : decode cX3_upsideDown 14 = .ok (.ishr, 1) := by decide +kernel
theorem dX3_upsideDown_15 : decode cX3_upsideDown 15 = .ok (.iconst 1, 1) := by decide +kernel
theorem dX3_upsideDown_16 : decode cX3_upsideDown 16 = .ok (.iand, 1) := by decide +kernel
theorem dX3_upsideDown_17 : decode cX3_upsideDown 17 = .ok (.ior, 1) := by decide +kernel
theorem dX3_upsideDown_18 : decode cX3_upsideDown 18 = .ok (.istore_n 1, 1) := by decide +kernel
theorem dX3_upsideDown_19 : decode cX3_upsideDown 19 = .ok (.iinc 2 1, 3) := by decide +kernel
theorem dX3_upsideDown_22 : decode cX3_upsideDown 22 = .ok (.goto (-18), 3) := by decide +kernel
theorem dX3_upsideDown_25 : decode cX3_upsideDown 25 = .ok (.iload_n 1, 1) := by decide +kernel
theorem dX3_upsideDown_26 : decode cX3_upsideDown 26 = .ok (.ireturn, 1) := by decide +kernel
set_option maxRecDepth 20000 in
theorem ggX3_agrees_X7_within : GoodIn wsX3_agrees wsX7_within := goodIn_r _ [10] (by decide +kernel) (by decide +kernel)
set_option maxRecDepth 20000 in
theorem gX3_agrees_X7_within_n69 : GoodIn wsX3_agrees (wsX7_within) := ggX3_agrees_X7_within
set_option maxRecDepth 20000 in
theorem ggX3_agrees_X3_seen : GoodIn wsX3_agrees wsX3_seen := goodIn_r _ [15, 16, 17, 18, 19, 14, 20, 1, 21, 22, 23, 24, 25, 26] (by decide +kernel) (by decide +kernel)
set_option maxRecDepth 20000 in
theorem gX3_agrees_X3_seen : GoodIn wsX3_agrees (wsV RX3 73 RX3 yX3_seen wsX3_seen) := goodIn_app (goodIn_of _ (by decide +kernel)) ggX3_agrees_X3_seen
theorem dX3_agrees_0 : decode cX3_agrees 0 = .ok (.aload_n 0, 1) := by decide +kernel
theorem dX3_agrees_1 : decode cX3_agrees 1 = .ok (.getfield 15, 3) := by decide +kernel
theorem dX3_agrees_4 : decode cX3_agrees 4 = .ok (.aload_n 1, 1) := by decide +kernel
theorem dX3_agrees_5 : decode cX3_agrees 5 = .ok (.getfield 57, 3) := by decide +kernel
theorem dX3_agrees_8 : decode cX3_agrees 8 = .ok (.invokestatic 60, 3) := by decide +kernel
theorem dX3_agrees_11 : decode cX3_agrees 11 = .ok (.istore 4, 2) := by decide +kernel
theorem dX3_agrees_13 : decode cX3_agrees 13 = .ok (.iconst 0, 1) := by decide +kernel
theorem dX3_agrees_14 : decode cX3_agrees 14 = .ok (.istore 5, 2) := by decide +kernel
theorem dX3_agrees_16 : decode cX3_agrees 16 = .ok (.iload 5, 2) := by decide +kernel
theorem dX3_agrees_18 : decode cX3_agrees 18 = .ok (.iload 4, 2) := by decide +kernel
theorem dX3_agrees_20 : decode cX3_agrees 20 = .ok (.if_icmp .ge 44, 3) := by decide +kernel
theorem dX3_agrees_23 : decode cX3_agrees 23 = .ok (.aload_n 1, 1) := by decide +kernel
theorem dX3_agrees_24 : decode cX3_agrees 24 = .ok (.getfield 66, 3) := by decide +kernel
theorem dX3_agrees_27 : decode cX3_agrees 27 = .ok (.iload 5, 2) := by decide +kernel
theorem dX3_agrees_29 : decode cX3_agrees 29 = .ok (.iaload, 1) := by decide +kernel
theorem dX3_agrees_30 : decode cX3_agrees 30 = .ok (.istore 6, 2) := by decide +kernel
theorem dX3_agrees_32 : decode cX3_agrees 32 = .ok (.iload 6, 2) := by decide +kernel
theorem dX3_agrees_34 : decode cX3_agrees 34 = .ok (.iconst 0, 1) := by decide +kernel
theorem dX3_agrees_35 : decode cX3_agrees 35 = .ok (.bipush 31, 2) := by decide +kernel
theorem dX3_agrees_37 : decode cX3_agrees 37 = .ok (.invokestatic 69, 3) := by decide +kernel
theorem dX3_agrees_40 : decode cX3_agrees 40 = .ok (.ifCond .eq 18, 3) := by decide +kernel
theorem dX3_agrees_43 : decode cX3_agrees 43 = .ok (.iload 6, 2) := by decide +kernel
theorem dX3_agrees_45 : decode cX3_agrees 45 = .ok (.aload_n 0, 1) := by decide +kernel
theorem dX3_agrees_46 : decode cX3_agrees 46 = .ok (.iload_n 3, 1) := by decide +kernel
theorem dX3_agrees_47 : decode cX3_agrees 47 = .ok (.iload_n 2, 1) := by decide +kernel
theorem dX3_agrees_48 : decode cX3_agrees 48 = .ok (.iload 5, 2) := by decide +kernel
theorem dX3_agrees_50 : decode cX3_agrees 50 = .ok (.invokevirtual 73, 3) := by decide +kernel
theorem dX3_agrees_53 : decode cX3_agrees 53 = .ok (.if_icmp .eq 5, 3) := by decide +kernel
theorem dX3_agrees_56 : decode cX3_agrees 56 = .ok (.iconst 0, 1) := by decide +kernel
theorem dX3_agrees_57 : decode cX3_agrees 57 = .ok (.ireturn, 1) := by decide +kernel
theorem dX3_agrees_58 : decode cX3_agrees 58 = .ok (.iinc 5 1, 3) := by decide +kernel
theorem dX3_agrees_61 : decode cX3_agrees 61 = .ok (.goto (-45), 3) := by decide +kernel
theorem dX3_agrees_64 : decode cX3_agrees 64 = .ok (.iconst 1, 1) := by decide +kernel
theorem dX3_agrees_65 : decode cX3_agrees 65 = .ok (.ireturn, 1) := by decide +kernel
set_option maxRecDepth 20000 in
theorem ggX3_countReadings_X3_agrees : GoodIn wsX3_countReadings wsX3_agrees := goodIn_r _ [6, 1, 7, 8, 9, 10, 11, 12, 13, 14, 15, 16, 17, 18, 5, 19, 20, 21, 22, 23, 24, 25, 26, 27, 28, 29, 30, 31, 32, 33, 34] (by decide +kernel) (by decide +kernel)
set_option maxRecDepth 20000 in
theorem gX3_countReadings_X3_agrees : GoodIn wsX3_countReadings (wsV RX3 76 RX3 yX3_agrees wsX3_agrees) := goodIn_app (goodIn_of _ (by decide +kernel)) ggX3_countReadings_X3_agrees
theorem dX3_countReadings_0 : decode cX3_countReadings 0 = .ok (.iconst 0, 1) := by decide +kernel
theorem dX3_countReadings_1 : decode cX3_countReadings 1 = .ok (.istore_n 2, 1) := by decide +kernel
theorem dX3_countReadings_2 : decode cX3_countReadings 2 = .ok (.iconst 0, 1) := by decide +kernel
theorem dX3_countReadings_3 : decode cX3_countReadings 3 = .ok (.istore_n 3, 1) := by decide +kernel
theorem dX3_countReadings_4 : decode cX3_countReadings 4 = .ok (.iload_n 3, 1) := by decide +kernel
theorem dX3_countReadings_5 : decode cX3_countReadings 5 = .ok (.iconst 4, 1) := by decide +kernel
theorem dX3_countReadings_6 : decode cX3_countReadings 6 = .ok (.if_icmp .ge 41, 3) := by decide +kernel
theorem dX3_countReadings_9 : decode cX3_countReadings 9 = .ok (.iconst 0, 1) := by decide +kernel
theorem dX3_countReadings_10 : decode cX3_countReadings 10 = .ok (.istore 4, 2) := by decide +kernel
theorem dX3_countReadings_12 : decode cX3_countReadings 12 = .ok (.iload 4, 2) := by decide +kernel
theorem dX3_countReadings_14 : decode cX3_countReadings 14 = .ok (.aload_n 0, 1) := by decide +kernel
theorem dX3_countReadings_15 : decode cX3_countReadings 15 = .ok (.getfield 15, 3) := by decide +kernel
theorem dX3_countReadings_18 : decode cX3_countReadings 18 = .ok (.if_icmp .ge 23, 3) := by decide +kernel
theorem dX3_countReadings_21 : decode cX3_countReadings 21 = .ok (.aload_n 0, 1) := by decide +kernel
theorem dX3_countReadings_22 : decode cX3_countReadings 22 = .ok (.aload_n 1, 1) := by decide +kernel
theorem dX3_countReadings_23 : decode cX3_countReadings 23 = .ok (.iload_n 3, 1) := by decide +kernel
theorem dX3_countReadings_24 : decode cX3_countReadings 24 = .ok (.iload 4, 2) := by decide +kernel
theorem dX3_countReadings_26 : decode cX3_countReadings 26 = .ok (.invokevirtual 76, 3) := by decide +kernel
theorem dX3_countReadings_29 : decode cX3_countReadings 29 = .ok (.ifCond .eq 6, 3) := by decide +kernel
theorem dX3_countReadings_32 : decode cX3_countReadings 32 = .ok (.iinc 2 1, 3) := by decide +kernel
theorem dX3_countReadings_35 : decode cX3_countReadings 35 = .ok (.iinc 4 1, 3) := by decide +kernel
theorem dX3_countReadings_38 : decode cX3_countReadings 38 = .ok (.goto (-26), 3) := by decide +kernel
theorem dX3_countReadings_41 : decode cX3_countReadings 41 = .ok (.iinc 3 1, 3) := by decide +kernel
theorem dX3_countReadings_44 : decode cX3_countReadings 44 = .ok (.goto (-40), 3) := by decide +kernel
theorem dX3_countReadings_47 : decode cX3_countReadings 47 = .ok (.iload_n 2, 1) := by decide +kernel
theorem dX3_countReadings_48 : decode cX3_countReadings 48 = .ok (.ireturn, 1) := by decide +kernel
set_option maxRecDepth 20000 in
theorem ggX3_readingOf_X3_agrees : GoodIn wsX3_readingOf wsX3_agrees := goodIn_r _ [6, 1, 7, 8, 9, 10, 11, 12, 13, 14, 15, 16, 17, 18, 5, 19, 20, 21, 22, 23, 24, 25, 26, 27, 28, 29, 30, 31, 32, 33, 34] (by decide +kernel) (by decide +kernel)
set_option maxRecDepth 20000 in
theorem gX3_readingOf_X3_agrees : GoodIn wsX3_readingOf (wsV RX3 76 RX3 yX3_agrees wsX3_agrees) := goodIn_app (goodIn_of _ (by decide +kernel)) ggX3_readingOf_X3_agrees
theorem dX3_readingOf_0 : decode cX3_readingOf 0 = .ok (.iconst 0, 1) := by decide +kernel
theorem dX3_readingOf_1 : decode cX3_readingOf 1 = .ok (.istore_n 3, 1) := by decide +kernel
theorem dX3_readingOf_2 : decode cX3_readingOf 2 = .ok (.iconst 0, 1) := by decide +kernel
theorem dX3_readingOf_3 : decode cX3_readingOf 3 = .ok (.istore 4, 2) := by decide +kernel
theorem dX3_readingOf_5 : decode cX3_readingOf 5 = .ok (.iload 4, 2) := by decide +kernel
theorem dX3_readingOf_7 : decode cX3_readingOf 7 = .ok (.iconst 4, 1) := by decide +kernel
theorem dX3_readingOf_8 : decode cX3_readingOf 8 = .ok (.if_icmp .ge 56, 3) := by decide +kernel
theorem dX3_readingOf_11 : decode cX3_readingOf 11 = .ok (.iconst 0, 1) := by decide +kernel
theorem dX3_readingOf_12 : decode cX3_readingOf 12 = .ok (.istore 5, 2) := by decide +kernel
theorem dX3_readingOf_14 : decode cX3_readingOf 14 = .ok (.iload 5, 2) := by decide +kernel
theorem dX3_readingOf_16 : decode cX3_readingOf 16 = .ok (.aload_n 0, 1) := by decide +kernel
theorem dX3_readingOf_17 : decode cX3_readingOf 17 = .ok (.getfield 15, 3) := by decide +kernel
theorem dX3_readingOf_20 : decode cX3_readingOf 20 = .ok (.if_icmp .ge 38, 3) := by decide +kernel
theorem dX3_readingOf_23 : decode cX3_readingOf 23 = .ok (.aload_n 0, 1) := by decide +kernel
theorem dX3_readingOf_24 : decode cX3_readingOf 24 = .ok (.aload_n 1, 1) := by decide +kernel
theorem dX3_readingOf_25 : decode cX3_readingOf 25 = .ok (.iload 4, 2) := by decide +kernel
theorem dX3_readingOf_27 : decode cX3_readingOf 27 = .ok (.iload 5, 2) := by decide +kernel
theorem dX3_readingOf_29 : decode cX3_readingOf 29 = .ok (.invokevirtual 76, 3) := by decide +kernel
theorem dX3_readingOf_32 : decode cX3_readingOf 32 = .ok (.ifCond .eq 20, 3) := by decide +kernel
theorem dX3_readingOf_35 : decode cX3_readingOf 35 = .ok (.iload_n 3, 1) := by decide +kernel
theorem dX3_readingOf_36 : decode cX3_readingOf 36 = .ok (.iload_n 2, 1) := by decide +kernel
theorem dX3_readingOf_37 : decode cX3_readingOf 37 = .ok (.if_icmp .ne 12, 3) := by decide +kernel
theorem dX3_readingOf_40 : decode cX3_readingOf 40 = .ok (.bipush 100, 2) := by decide +kernel
theorem dX3_readingOf_42 : decode cX3_readingOf 42 = .ok (.iload 4, 2) := by decide +kernel
theorem dX3_readingOf_44 : decode cX3_readingOf 44 = .ok (.imul, 1) := by decide +kernel
theorem dX3_readingOf_45 : decode cX3_readingOf 45 = .ok (.iload 5, 2) := by decide +kernel
theorem dX3_readingOf_47 : decode cX3_readingOf 47 = .ok (.iadd, 1) := by decide +kernel
theorem dX3_readingOf_48 : decode cX3_readingOf 48 = .ok (.ireturn, 1) := by decide +kernel
theorem dX3_readingOf_49 : decode cX3_readingOf 49 = .ok (.iinc 3 1, 3) := by decide +kernel
theorem dX3_readingOf_52 : decode cX3_readingOf 52 = .ok (.iinc 5 1, 3) := by decide +kernel
theorem dX3_readingOf_55 : decode cX3_readingOf 55 = .ok (.goto (-41), 3) := by decide +kernel
theorem dX3_readingOf_58 : decode cX3_readingOf 58 = .ok (.iinc 4 1, 3) := by decide +kernel
theorem dX3_readingOf_61 : decode cX3_readingOf 61 = .ok (.goto (-56), 3) := by decide +kernel
theorem dX3_readingOf_64 : decode cX3_readingOf 64 = .ok (.iconst (-1), 1) := by decide +kernel
theorem dX3_readingOf_65 : decode cX3_readingOf 65 = .ok (.ireturn, 1) := by decide +kernel
theorem dX4_init_0 : decode cX4_init 0 = .ok (.aload_n 0, 1) := by decide +kernel
theorem dX4_init_1 : decode cX4_init 1 = .ok (.invokespecial 3, 3) := by decide +kernel
theorem dX4_init_4 : decode cX4_init 4 = .ok (.aload_n 0, 1) := by decide +kernel
theorem dX4_init_5 : decode cX4_init 5 = .ok (.bipush 60, 2) := by decide +kernel
theorem dX4_init_7 : decode cX4_init 7 = .ok (.newarray .int, 2) := by decide +kernel
theorem dX4_init_9 : decode cX4_init 9 = .ok (.putfield 9, 3) := by decide +kernel
theorem dX4_init_12 : decode cX4_init 12 = .ok (.aload_n 0, 1) := by decide +kernel
theorem dX4_init_13 : decode cX4_init 13 = .ok (.iconst 1, 1) := by decide +kernel
theorem dX4_init_14 : decode cX4_init 14 = .ok (.putfield 15, 3) := by decide +kernel
theorem dX4_init_17 : decode cX4_init 17 = .ok (.aload_n 0, 1) := by decide +kernel
theorem dX4_init_18 : decode cX4_init 18 = .ok (.iconst 0, 1) := by decide +kernel
theorem dX4_init_19 : decode cX4_init 19 = .ok (.putfield 19, 3) := by decide +kernel
theorem dX4_init_22 : decode cX4_init 22 = .ok (.aload_n 0, 1) := by decide +kernel
theorem dX4_init_23 : decode cX4_init 23 = .ok (.iconst 0, 1) := by decide +kernel
theorem dX4_init_24 : decode cX4_init 24 = .ok (.putfield 23, 3) := by decide +kernel
theorem dX4_init_27 : decode cX4_init 27 = .ok (.return_, 1) := by decide +kernel
set_option maxRecDepth 20000 in
theorem ggX4_renew_J7_fill_53178 : GoodIn wsX4_renew wsJ7_fill_53178 := goodIn_r _ [8] (by decide +kernel) (by decide +kernel)
set_option maxRecDepth 20000 in
theorem gX4_renew_J7_fill_53178 : GoodIn wsX4_renew (va_wsS RX4 26 yJ7_fill_53178 wsJ7_fill_53178) := goodIn_app (goodIn_of _ (by decide +kernel)) ggX4_renew_J7_fill_53178
theorem dX4_renew_0 : decode cX4_renew 0 = .ok (.aload_n 0, 1) := by decide +kernel
theorem dX4_renew_1 : decode cX4_renew 1 = .ok (.iconst 0, 1) := by decide +kernel
theorem dX4_renew_2 : decode cX4_renew 2 = .ok (.putfield 15, 3) := by decide +kernel
theorem dX4_renew_5 : decode cX4_renew 5 = .ok (.aload_n 0, 1) := by decide +kernel
theorem dX4_renew_6 : decode cX4_renew 6 = .ok (.iload_n 1, 1) := by decide +kernel
theorem dX4_renew_7 : decode cX4_renew 7 = .ok (.putfield 19, 3) := by decide +kernel
theorem dX4_renew_10 : decode cX4_renew 10 = .ok (.aload_n 0, 1) := by decide +kernel
theorem dX4_renew_11 : decode cX4_renew 11 = .ok (.iload_n 2, 1) := by decide +kernel
theorem dX4_renew_12 : decode cX4_renew 12 = .ok (.putfield 23, 3) := by decide +kernel
theorem dX4_renew_15 : decode cX4_renew 15 = .ok (.aload_n 0, 1) := by decide +kernel
theorem dX4_renew_16 : decode cX4_renew 16 = .ok (.getfield 9, 3) := by decide +kernel
theorem dX4_renew_19 : decode cX4_renew 19 = .ok (.iconst 0, 1) := by decide +kernel
theorem dX4_renew_20 : decode cX4_renew 20 = .ok (.invokestatic 26, 3) := by decide +kernel
theorem dX4_renew_23 : decode cX4_renew 23 = .ok (.return_, 1) := by decide +kernel
set_option maxRecDepth 20000 in
theorem ggX4_hasItem_X7_within : GoodIn wsX4_hasItem wsX7_within := goodIn_r _ [4] (by decide +kernel) (by decide +kernel)
set_option maxRecDepth 20000 in
theorem gX4_hasItem_X7_within_n32 : GoodIn wsX4_hasItem (wsX7_within) := ggX4_hasItem_X7_within
theorem dX4_hasItem_0 : decode cX4_hasItem 0 = .ok (.iload_n 1, 1) := by decide +kernel
theorem dX4_hasItem_1 : decode cX4_hasItem 1 = .ok (.iconst 0, 1) := by decide +kernel
theorem dX4_hasItem_2 : decode cX4_hasItem 2 = .ok (.aload_n 0, 1) := by decide +kernel
theorem dX4_hasItem_3 : decode cX4_hasItem 3 = .ok (.getfield 23, 3) := by decide +kernel
theorem dX4_hasItem_6 : decode cX4_hasItem 6 = .ok (.iconst 1, 1) := by decide +kernel
theorem dX4_hasItem_7 : decode cX4_hasItem 7 = .ok (.isub, 1) := by decide +kernel
theorem dX4_hasItem_8 : decode cX4_hasItem 8 = .ok (.invokestatic 32, 3) := by decide +kernel
theorem dX4_hasItem_11 : decode cX4_hasItem 11 = .ok (.ireturn, 1) := by decide +kernel
theorem dX4_hasRun_0 : decode cX4_hasRun 0 = .ok (.iload_n 1, 1) := by decide +kernel
theorem dX4_hasRun_1 : decode cX4_hasRun 1 = .ok (.ifCond .lt 29, 3) := by decide +kernel
theorem dX4_hasRun_4 : decode cX4_hasRun 4 = .ok (.iload_n 2, 1) := by decide +kernel
theorem dX4_hasRun_5 : decode cX4_hasRun 5 = .ok (.ifCond .lt 25, 3) := by decide +kernel
theorem dX4_hasRun_8 : decode cX4_hasRun 8 = .ok (.iload_n 1, 1) := by decide +kernel
theorem dX4_hasRun_9 : decode cX4_hasRun 9 = .ok (.aload_n 0, 1) := by decide +kernel
theorem dX4_hasRun_10 : decode cX4_hasRun 10 = .ok (.getfield 23, 3) := by decide +kernel
theorem dX4_hasRun_13 : decode cX4_hasRun 13 = .ok (.if_icmp .gt 17, 3) := by decide +kernel
theorem dX4_hasRun_16 : decode cX4_hasRun 16 = .ok (.iload_n 2, 1) := by decide +kernel
theorem dX4_hasRun_17 : decode cX4_hasRun 17 = .ok (.aload_n 0, 1) := by decide +kernel
theorem dX4_hasRun_18 : decode cX4_hasRun 18 = .ok (.getfield 23, 3) := by decide +kernel
theorem dX4_hasRun_21 : decode cX4_hasRun 21 = .ok (.iload_n 1, 1) := by decide +kernel
theorem dX4_hasRun_22 : decode cX4_hasRun 22 = .ok (.isub, 1) := by decide +kernel
theorem dX4_hasRun_23 : decode cX4_hasRun 23 = .ok (.if_icmp .gt 7, 3) := by decide +kernel
theorem dX4_hasRun_26 : decode cX4_hasRun 26 = .ok (.iconst 1, 1) := by decide +kernel
theorem dX4_hasRun_27 : decode cX4_hasRun 27 = .ok (.goto 4, 3) := by decide +kernel
theorem dX4_hasRun_30 : decode cX4_hasRun 30 = .ok (.iconst 0, 1) := by decide +kernel
theorem dX4_hasRun_31 : decode cX4_hasRun 31 = .ok (.ireturn, 1) := by decide +kernel
theorem dX4_write_0 : decode cX4_write 0 = .ok (.aload_n 0, 1) := by decide +kernel
theorem dX4_write_1 : decode cX4_write 1 = .ok (.getfield 19, 3) := by decide +kernel
theorem dX4_write_4 : decode cX4_write 4 = .ok (.lookupswitch 50 #[(0, 28), (1, 39)], 28) := by decide +kernel
theorem dX4_write_32 : decode cX4_write 32 = .ok (.aload_n 0, 1) := by decide +kernel
theorem dX4_write_33 : decode cX4_write 33 = .ok (.getfield 9, 3) := by decide +kernel
theorem dX4_write_36 : decode cX4_write 36 = .ok (.iload_n 1, 1) := by decide +kernel
theorem dX4_write_37 : decode cX4_write 37 = .ok (.iload_n 2, 1) := by decide +kernel
theorem dX4_write_38 : decode cX4_write 38 = .ok (.i2b, 1) := by decide +kernel
theorem dX4_write_39 : decode cX4_write 39 = .ok (.iastore, 1) := by decide +kernel
theorem dX4_write_40 : decode cX4_write 40 = .ok (.goto 21, 3) := by decide +kernel
theorem dX4_write_43 : decode cX4_write 43 = .ok (.aload_n 0, 1) := by decide +kernel
theorem dX4_write_44 : decode cX4_write 44 = .ok (.getfield 9, 3) := by decide +kernel
theorem dX4_write_47 : decode cX4_write 47 = .ok (.iload_n 1, 1) := by decide +kernel
theorem dX4_write_48 : decode cX4_write 48 = .ok (.iload_n 2, 1) := by decide +kernel
theorem dX4_write_49 : decode cX4_write 49 = .ok (.i2s, 1) := by decide +kernel
theorem dX4_write_50 : decode cX4_write 50 = .ok (.iastore, 1) := by decide +kernel
theorem dX4_write_51 : decode cX4_write 51 = .ok (.goto 10, 3) := by decide +kernel
theorem dX4_write_54 : decode cX4_write 54 = .ok (.aload_n 0, 1) := by decide +kernel
theorem dX4_write_55 : decode cX4_write 55 = .ok (.getfield 9, 3) := by decide +kernel
theorem dX4_write_58 : decode cX4_write 58 = .ok (.iload_n 1, 1) := by decide +kernel
theorem dX4_write_59 : decode cX4_write 59 = .ok (.iload_n 2, 1) := by decide +kernel
theorem dX4_write_60 : decode cX4_write 60 = .ok (.iastore, 1) := by decide +kernel
theorem dX4_write_61 : decode cX4_write 61 = .ok (.return_, 1) := by decide +kernel
set_option maxRecDepth 20000 in
theorem ggX4_wantAt_X4_hasItem : GoodIn wsX4_wantAt wsX4_hasItem := goodIn_r _ [7, 8, 9, 10, 11, 12, 13, 14, 15] (by decide +kernel) (by decide +kernel)
set_option maxRecDepth 20000 in
theorem gX4_wantAt_X4_hasItem : GoodIn wsX4_wantAt (wsV RX4 36 RX4 yX4_hasItem wsX4_hasItem) := goodIn_app (goodIn_of _ (by decide +kernel)) ggX4_wantAt_X4_hasItem
theorem dX4_wantAt_0 : decode cX4_wantAt 0 = .ok (.aload_n 0, 1) := by decide +kernel
theorem dX4_wantAt_1 : decode cX4_wantAt 1 = .ok (.getfield 15, 3) := by decide +kernel
theorem dX4_wantAt_4 : decode cX4_wantAt 4 = .ok (.ifCond .ne 20, 3) := by decide +kernel
theorem dX4_wantAt_7 : decode cX4_wantAt 7 = .ok (.aload_n 0, 1) := by decide +kernel
theorem dX4_wantAt_8 : decode cX4_wantAt 8 = .ok (.iload_n 1, 1) := by decide +kernel
theorem dX4_wantAt_9 : decode cX4_wantAt 9 = .ok (.invokevirtual 36, 3) := by decide +kernel
theorem dX4_wantAt_12 : decode cX4_wantAt 12 = .ok (.ifCond .eq 12, 3) := by decide +kernel
theorem dX4_wantAt_15 : decode cX4_wantAt 15 = .ok (.aload_n 0, 1) := by decide +kernel
theorem dX4_wantAt_16 : decode cX4_wantAt 16 = .ok (.getfield 9, 3) := by decide +kernel
theorem dX4_wantAt_19 : decode cX4_wantAt 19 = .ok (.iload_n 1, 1) := by decide +kernel
theorem dX4_wantAt_20 : decode cX4_wantAt 20 = .ok (.iaload, 1) := by decide +kernel
theorem dX4_wantAt_21 : decode cX4_wantAt 21 = .ok (.ifCond .ge 7, 3) := by decide +kernel
theorem dX4_wantAt_24 : decode cX4_wantAt 24 = .ok (.iconst (-1), 1) := by decide +kernel
theorem dX4_wantAt_25 : decode cX4_wantAt 25 = .ok (.goto 9, 3) := by decide +kernel
theorem dX4_wantAt_28 : decode cX4_wantAt 28 = .ok (.aload_n 0, 1) := by decide +kernel
theorem dX4_wantAt_29 : decode cX4_wantAt 29 = .ok (.getfield 9, 3) := by decide +kernel
theorem dX4_wantAt_32 : decode cX4_wantAt 32 = .ok (.iload_n 1, 1) := by decide +kernel
theorem dX4_wantAt_33 : decode cX4_wantAt 33 = .ok (.iaload, 1) := by decide +kernel
theorem dX4_wantAt_34 : decode cX4_wantAt 34 = .ok (.ireturn, 1) := by decide +kernel
theorem dX5_init_0 : decode cX5_init 0 = .ok (.aload_n 0, 1) := by decide +kernel
theorem dX5_init_1 : decode cX5_init 1 = .ok (.invokespecial 3, 3) := by decide +kernel
theorem dX5_init_4 : decode cX5_init 4 = .ok (.return_, 1) := by decide +kernel
theorem dX5_beginWith_0 : decode cX5_beginWith 0 = .ok (.aload_n 0, 1) := by decide +kernel
theorem dX5_beginWith_1 : decode cX5_beginWith 1 = .ok (.iload_n 1, 1) := by decide +kernel
theorem dX5_beginWith_2 : decode cX5_beginWith 2 = .ok (.i2l, 1) := by decide +kernel
theorem dX5_beginWith_3 : decode cX5_beginWith 3 = .ok (.putfield 9, 3) := by decide +kernel
theorem dX5_beginWith_6 : decode cX5_beginWith 6 = .ok (.aload_n 0, 1) := by decide +kernel
theorem dX5_beginWith_7 : decode cX5_beginWith 7 = .ok (.lconst 0, 1) := by decide +kernel
theorem dX5_beginWith_8 : decode cX5_beginWith 8 = .ok (.putfield 15, 3) := by decide +kernel
theorem dX5_beginWith_11 : decode cX5_beginWith 11 = .ok (.aload_n 0, 1) := by decide +kernel
theorem dX5_beginWith_12 : decode cX5_beginWith 12 = .ok (.lconst 0, 1) := by decide +kernel
theorem dX5_beginWith_13 : decode cX5_beginWith 13 = .ok (.putfield 18, 3) := by decide +kernel
theorem dX5_beginWith_16 : decode cX5_beginWith 16 = .ok (.aload_n 0, 1) := by decide +kernel
theorem dX5_beginWith_17 : decode cX5_beginWith 17 = .ok (.iconst (-1), 1) := by decide +kernel
theorem dX5_beginWith_18 : decode cX5_beginWith 18 = .ok (.putfield 21, 3) := by decide +kernel
theorem dX5_beginWith_21 : decode cX5_beginWith 21 = .ok (.return_, 1) := by decide +kernel
theorem dX5_supply_0 : decode cX5_supply 0 = .ok (.aload_n 0, 1) := by decide +kernel
theorem dX5_supply_1 : decode cX5_supply 1 = .ok (.dup, 1) := by decide +kernel
theorem dX5_supply_2 : decode cX5_supply 2 = .ok (.getfield 9, 3) := by decide +kernel
theorem dX5_supply_5 : decode cX5_supply 5 = .ok (.iload_n 2, 1) := by decide +kernel
theorem dX5_supply_6 : decode cX5_supply 6 = .ok (.iload_n 3, 1) := by decide +kernel
theorem dX5_supply_7 : decode cX5_supply 7 = .ok (.isub, 1) := by decide +kernel
theorem dX5_supply_8 : decode cX5_supply 8 = .ok (.i2l, 1) := by decide +kernel
theorem dX5_supply_9 : decode cX5_supply 9 = .ok (.ladd, 1) := by decide +kernel
theorem dX5_supply_10 : decode cX5_supply 10 = .ok (.putfield 9, 3) := by decide +kernel
theorem dX5_supply_13 : decode cX5_supply 13 = .ok (.aload_n 0, 1) := by decide +kernel
theorem dX5_supply_14 : decode cX5_supply 14 = .ok (.getfield 9, 3) := by decide +kernel
theorem dX5_supply_17 : decode cX5_supply 17 = .ok (.lconst 0, 1) := by decide +kernel
theorem dX5_supply_18 : decode cX5_supply 18 = .ok (.lcmp, 1) := by decide +kernel
theorem dX5_supply_19 : decode cX5_supply 19 = .ok (.ifCond .lt 4, 3) := by decide +kernel
theorem dX5_supply_22 : decode cX5_supply 22 = .ok (.return_, 1) := by decide +kernel
theorem dX5_supply_23 : decode cX5_supply 23 = .ok (.aload_n 0, 1) := by decide +kernel
theorem dX5_supply_24 : decode cX5_supply 24 = .ok (.dup, 1) := by decide +kernel
theorem dX5_supply_25 : decode cX5_supply 25 = .ok (.getfield 15, 3) := by decide +kernel
theorem dX5_supply_28 : decode cX5_supply 28 = .ok (.aload_n 0, 1) := by decide +kernel
theorem dX5_supply_29 : decode cX5_supply 29 = .ok (.getfield 9, 3) := by decide +kernel
theorem dX5_supply_32 : decode cX5_supply 32 = .ok (.lsub, 1) := by decide +kernel
theorem dX5_supply_33 : decode cX5_supply 33 = .ok (.putfield 15, 3) := by decide +kernel
theorem dX5_supply_36 : decode cX5_supply 36 = .ok (.aload_n 0, 1) := by decide +kernel
theorem dX5_supply_37 : decode cX5_supply 37 = .ok (.lconst 0, 1) := by decide +kernel
theorem dX5_supply_38 : decode cX5_supply 38 = .ok (.putfield 9, 3) := by decide +kernel
theorem dX5_supply_41 : decode cX5_supply 41 = .ok (.aload_n 0, 1) := by decide +kernel
theorem dX5_supply_42 : decode cX5_supply 42 = .ok (.getfield 21, 3) := by decide +kernel
theorem dX5_supply_45 : decode cX5_supply 45 = .ok (.iconst (-1), 1) := by decide +kernel
theorem dX5_supply_46 : decode cX5_supply 46 = .ok (.if_icmp .ne 8, 3) := by decide +kernel
theorem dX5_supply_49 : decode cX5_supply 49 = .ok (.aload_n 0, 1) := by decide +kernel
theorem dX5_supply_50 : decode cX5_supply 50 = .ok (.iload_n 1, 1) := by decide +kernel
theorem dX5_supply_51 : decode cX5_supply 51 = .ok (.putfield 21, 3) := by decide +kernel
theorem dX5_supply_54 : decode cX5_supply 54 = .ok (.return_, 1) := by decide +kernel
theorem dX5_soften_0 : decode cX5_soften 0 = .ok (.aload_n 0, 1) := by decide +kernel
theorem dX5_soften_1 : decode cX5_soften 1 = .ok (.getfield 9, 3) := by decide +kernel
theorem dX5_soften_4 : decode cX5_soften 4 = .ok (.iload_n 1, 1) := by decide +kernel
theorem dX5_soften_5 : decode cX5_soften 5 = .ok (.i2l, 1) := by decide +kernel
theorem dX5_soften_6 : decode cX5_soften 6 = .ok (.lmul, 1) := by decide +kernel
theorem dX5_soften_7 : decode cX5_soften 7 = .ok (.ldc2_w 25, 3) := by decide +kernel
theorem dX5_soften_10 : decode cX5_soften 10 = .ok (.ldiv, 1) := by decide +kernel
theorem dX5_soften_11 : decode cX5_soften 11 = .ok (.lstore_n 2, 1) := by decide +kernel
theorem dX5_soften_12 : decode cX5_soften 12 = .ok (.aload_n 0, 1) := by decide +kernel
theorem dX5_soften_13 : decode cX5_soften 13 = .ok (.dup, 1) := by decide +kernel
theorem dX5_soften_14 : decode cX5_soften 14 = .ok (.getfield 9, 3) := by decide +kernel
theorem dX5_soften_17 : decode cX5_soften 17 = .ok (.lload_n 2, 1) := by decide +kernel
theorem dX5_soften_18 : decode cX5_soften 18 = .ok (.lsub, 1) := by decide +kernel
theorem dX5_soften_19 : decode cX5_soften 19 = .ok (.putfield 9, 3) := by decide +kernel
theorem dX5_soften_22 : decode cX5_soften 22 = .ok (.aload_n 0, 1) := by decide +kernel
theorem dX5_soften_23 : decode cX5_soften 23 = .ok (.dup, 1) := by decide +kernel
theorem dX5_soften_24 : decode cX5_soften 24 = .ok (.getfield 18, 3) := by decide +kernel
theorem dX5_soften_27 : decode cX5_soften 27 = .ok (.lload_n 2, 1) := by decide +kernel
theorem dX5_soften_28 : decode cX5_soften 28 = .ok (.ladd, 1) := by decide +kernel
theorem dX5_soften_29 : decode cX5_soften 29 = .ok (.putfield 18, 3) := by decide +kernel
theorem dX5_soften_32 : decode cX5_soften 32 = .ok (.return_, 1) := by decide +kernel
theorem dX6_init_0 : decode cX6_init 0 = .ok (.aload_n 0, 1) := by decide +kernel
theorem dX6_init_1 : decode cX6_init 1 = .ok (.invokespecial 3, 3) := by decide +kernel
theorem dX6_init_4 : decode cX6_init 4 = .ok (.aload_n 0, 1) := by decide +kernel
theorem dX6_init_5 : decode cX6_init 5 = .ok (.bipush 10, 2) := by decide +kernel
theorem dX6_init_7 : decode cX6_init 7 = .ok (.anewarray 9, 3) := by decide +kernel
theorem dX6_init_10 : decode cX6_init 10 = .ok (.putfield 11, 3) := by decide +kernel
theorem dX6_init_13 : decode cX6_init 13 = .ok (.aload_n 0, 1) := by decide +kernel
theorem dX6_init_14 : decode cX6_init 14 = .ok (.iconst 0, 1) := by decide +kernel
theorem dX6_init_15 : decode cX6_init 15 = .ok (.putfield 17, 3) := by decide +kernel
theorem dX6_init_18 : decode cX6_init 18 = .ok (.return_, 1) := by decide +kernel
theorem dX6_append_0 : decode cX6_append 0 = .ok (.aload_n 0, 1) := by decide +kernel
theorem dX6_append_1 : decode cX6_append 1 = .ok (.getfield 17, 3) := by decide +kernel
theorem dX6_append_4 : decode cX6_append 4 = .ok (.bipush 10, 2) := by decide +kernel
theorem dX6_append_6 : decode cX6_append 6 = .ok (.if_icmp .lt 5, 3) := by decide +kernel
theorem dX6_append_9 : decode cX6_append 9 = .ok (.iconst 0, 1) := by decide +kernel
theorem dX6_append_10 : decode cX6_append 10 = .ok (.ireturn, 1) := by decide +kernel
theorem dX6_append_11 : decode cX6_append 11 = .ok (.aload_n 0, 1) := by decide +kernel
theorem dX6_append_12 : decode cX6_append 12 = .ok (.getfield 11, 3) := by decide +kernel
theorem dX6_append_15 : decode cX6_append 15 = .ok (.aload_n 0, 1) := by decide +kernel
theorem dX6_append_16 : decode cX6_append 16 = .ok (.getfield 17, 3) := by decide +kernel
theorem dX6_append_19 : decode cX6_append 19 = .ok (.aload_n 1, 1) := by decide +kernel
theorem dX6_append_20 : decode cX6_append 20 = .ok (.aastore, 1) := by decide +kernel
theorem dX6_append_21 : decode cX6_append 21 = .ok (.aload_n 0, 1) := by decide +kernel
theorem dX6_append_22 : decode cX6_append 22 = .ok (.dup, 1) := by decide +kernel
theorem dX6_append_23 : decode cX6_append 23 = .ok (.getfield 17, 3) := by decide +kernel
theorem dX6_append_26 : decode cX6_append 26 = .ok (.iconst 1, 1) := by decide +kernel
theorem dX6_append_27 : decode cX6_append 27 = .ok (.iadd, 1) := by decide +kernel
theorem dX6_append_28 : decode cX6_append 28 = .ok (.putfield 17, 3) := by decide +kernel
theorem dX6_append_31 : decode cX6_append 31 = .ok (.iconst 1, 1) := by decide +kernel
theorem dX6_append_32 : decode cX6_append 32 = .ok (.ireturn, 1) := by decide +kernel
theorem dX6_isLaidBefore_0 : decode cX6_isLaidBefore 0 = .ok (.aload_n 0, 1) := by decide +kernel
theorem dX6_isLaidBefore_1 : decode cX6_isLaidBefore 1 = .ok (.getfield 11, 3) := by decide +kernel
theorem dX6_isLaidBefore_4 : decode cX6_isLaidBefore 4 = .ok (.iload_n 1, 1) := by decide +kernel
theorem dX6_isLaidBefore_5 : decode cX6_isLaidBefore 5 = .ok (.aaload, 1) := by decide +kernel
theorem dX6_isLaidBefore_6 : decode cX6_isLaidBefore 6 = .ok (.getfield 21, 3) := by decide +kernel
theorem dX6_isLaidBefore_9 : decode cX6_isLaidBefore 9 = .ok (.istore_n 3, 1) := by decide +kernel
theorem dX6_isLaidBefore_10 : decode cX6_isLaidBefore 10 = .ok (.aload_n 0, 1) := by decide +kernel
theorem dX6_isLaidBefore_11 : decode cX6_isLaidBefore 11 = .ok (.getfield 11, 3) := by decide +kernel
theorem dX6_isLaidBefore_14 : decode cX6_isLaidBefore 14 = .ok (.iload_n 2, 1) := by decide +kernel
theorem dX6_isLaidBefore_15 : decode cX6_isLaidBefore 15 = .ok (.aaload, 1) := by decide +kernel
theorem dX6_isLaidBefore_16 : decode cX6_isLaidBefore 16 = .ok (.getfield 21, 3) := by decide +kernel
theorem dX6_isLaidBefore_19 : decode cX6_isLaidBefore 19 = .ok (.istore 4, 2) := by decide +kernel
theorem dX6_isLaidBefore_21 : decode cX6_isLaidBefore 21 = .ok (.iload_n 3, 1) := by decide +kernel
theorem dX6_isLaidBefore_22 : decode cX6_isLaidBefore 22 = .ok (.iload 4, 2) := by decide +kernel
theorem dX6_isLaidBefore_24 : decode cX6_isLaidBefore 24 = .ok (.if_icmp .lt 14, 3) := by decide +kernel
theorem dX6_isLaidBefore_27 : decode cX6_isLaidBefore 27 = .ok (.iload_n 3, 1) := by decide +kernel
theorem dX6_isLaidBefore_28 : decode cX6_isLaidBefore 28 = .ok (.iload 4, 2) := by decide +kernel
theorem dX6_isLaidBefore_30 : decode cX6_isLaidBefore 30 = .ok (.if_icmp .ne 12, 3) := by decide +kernel
theorem dX6_isLaidBefore_33 : decode cX6_isLaidBefore 33 = .ok (.iload_n 1, 1) := by decide +kernel
theorem dX6_isLaidBefore_34 : decode cX6_isLaidBefore 34 = .ok (.iload_n 2, 1) := by decide +kernel
theorem dX6_isLaidBefore_35 : decode cX6_isLaidBefore 35 = .ok (.if_icmp .ge 7, 3) := by decide +kernel
theorem dX6_isLaidBefore_38 : decode cX6_isLaidBefore 38 = .ok (.iconst 1, 1) := by decide +kernel
theorem dX6_isLaidBefore_39 : decode cX6_isLaidBefore 39 = .ok (.goto 4, 3) := by decide +kernel
theorem dX6_isLaidBefore_42 : decode cX6_isLaidBefore 42 = .ok (.iconst 0, 1) := by decide +kernel
theorem dX6_isLaidBefore_43 : decode cX6_isLaidBefore 43 = .ok (.ireturn, 1) := by decide +kernel
set_option maxRecDepth 20000 in
theorem ggX6_placeInOrder_X6_rankOf : GoodIn wsX6_placeInOrder wsX6_rankOf := goodIn_r _ [6, 1, 7, 8, 9, 5, 10, 11, 12, 13, 14, 15, 16, 17, 18] (by decide +kernel) (by decide +kernel)
set_option maxRecDepth 20000 in
theorem gX6_placeInOrder_X6_rankOf : GoodIn wsX6_placeInOrder (wsV RX6 24 RX6 yX6_rankOf wsX6_rankOf) := goodIn_app (goodIn_of _ (by decide +kernel)) ggX6_placeInOrder_X6_rankOf
theorem dX6_placeInOrder_0 : decode cX6_placeInOrder 0 = .ok (.iconst 0, 1) := by decide +kernel
theorem dX6_placeInOrder_1 : decode cX6_placeInOrder 1 = .ok (.istore_n 2, 1) := by decide +kernel
theorem dX6_placeInOrder_2 : decode cX6_placeInOrder 2 = .ok (.iload_n 2, 1) := by decide +kernel
theorem dX6_placeInOrder_3 : decode cX6_placeInOrder 3 = .ok (.aload_n 0, 1) := by decide +kernel
theorem dX6_placeInOrder_4 : decode cX6_placeInOrder 4 = .ok (.getfield 17, 3) := by decide +kernel
theorem dX6_placeInOrder_7 : decode cX6_placeInOrder 7 = .ok (.if_icmp .ge 20, 3) := by decide +kernel
theorem dX6_placeInOrder_10 : decode cX6_placeInOrder 10 = .ok (.aload_n 0, 1) := by decide +kernel
theorem dX6_placeInOrder_11 : decode cX6_placeInOrder 11 = .ok (.iload_n 2, 1) := by decide +kernel
theorem dX6_placeInOrder_12 : decode cX6_placeInOrder 12 = .ok (.invokevirtual 24, 3) := by decide +kernel
theorem dX6_placeInOrder_15 : decode cX6_placeInOrder 15 = .ok (.iload_n 1, 1) := by decide +kernel
theorem dX6_placeInOrder_16 : decode cX6_placeInOrder 16 = .ok (.if_icmp .ne 5, 3) := by decide +kernel
theorem dX6_placeInOrder_19 : decode cX6_placeInOrder 19 = .ok (.iload_n 2, 1) := by decide +kernel
theorem dX6_placeInOrder_20 : decode cX6_placeInOrder 20 = .ok (.ireturn, 1) := by decide +kernel
theorem dX6_placeInOrder_21 : decode cX6_placeInOrder 21 = .ok (.iinc 2 1, 3) := by decide +kernel
theorem dX6_placeInOrder_24 : decode cX6_placeInOrder 24 = .ok (.goto (-22), 3) := by decide +kernel
theorem dX6_placeInOrder_27 : decode cX6_placeInOrder 27 = .ok (.bipush (-2), 2) := by decide +kernel
theorem dX6_placeInOrder_29 : decode cX6_placeInOrder 29 = .ok (.ireturn, 1) := by decide +kernel
set_option maxRecDepth 20000 in
theorem ggX6_rankOf_X6_isLaidBefore : GoodIn wsX6_rankOf wsX6_isLaidBefore := goodIn_r _ [6, 7, 8, 9, 10, 11, 12, 13, 14] (by decide +kernel) (by decide +kernel)
set_option maxRecDepth 20000 in
theorem gX6_rankOf_X6_isLaidBefore : GoodIn wsX6_rankOf (wsV RX6 28 RX6 yX6_isLaidBefore wsX6_isLaidBefore) := goodIn_app (goodIn_of _ (by decide +kernel)) ggX6_rankOf_X6_isLaidBefore
theorem dX6_rankOf_0 : decode cX6_rankOf 0 = .ok (.iconst 0, 1) := by decide +kernel
theorem dX6_rankOf_1 : decode cX6_rankOf 1 = .ok (.istore_n 2, 1) := by decide +kernel
theorem dX6_rankOf_2 : decode cX6_rankOf 2 = .ok (.iconst 0, 1) := by decide +kernel
theorem dX6_rankOf_3 : decode cX6_rankOf 3 = .ok (.istore_n 3, 1) := by decide +kernel
theorem dX6_rankOf_4 : decode cX6_rankOf 4 = .ok (.iload_n 3, 1) := by decide +kernel
theorem dX6_rankOf_5 : decode cX6_rankOf 5 = .ok (.aload_n 0, 1) := by decide +kernel
theorem dX6_rankOf_6 : decode cX6_rankOf 6 = .ok (.getfield 17, 3) := by decide +kernel
theorem dX6_rankOf_9 : decode cX6_rankOf 9 = .ok (.if_icmp .ge 21, 3) := by decide +kernel
theorem dX6_rankOf_12 : decode cX6_rankOf 12 = .ok (.aload_n 0, 1) := by decide +kernel
theorem dX6_rankOf_13 : decode cX6_rankOf 13 = .ok (.iload_n 3, 1) := by decide +kernel
theorem dX6_rankOf_14 : decode cX6_rankOf 14 = .ok (.iload_n 1, 1) := by decide +kernel
theorem dX6_rankOf_15 : decode cX6_rankOf 15 = .ok (.invokevirtual 28, 3) := by decide +kernel
theorem dX6_rankOf_18 : decode cX6_rankOf 18 = .ok (.ifCond .eq 6, 3) := by decide +kernel
theorem dX6_rankOf_21 : decode cX6_rankOf 21 = .ok (.iinc 2 1, 3) := by decide +kernel
theorem dX6_rankOf_24 : decode cX6_rankOf 24 = .ok (.iinc 3 1, 3) := by decide +kernel
theorem dX6_rankOf_27 : decode cX6_rankOf 27 = .ok (.goto (-23), 3) := by decide +kernel
theorem dX6_rankOf_30 : decode cX6_rankOf 30 = .ok (.iload_n 2, 1) := by decide +kernel
theorem dX6_rankOf_31 : decode cX6_rankOf 31 = .ok (.ireturn, 1) := by decide +kernel
set_option maxRecDepth 20000 in
theorem ggX6_lateAt_X6_isLaidBefore : GoodIn wsX6_lateAt wsX6_isLaidBefore := goodIn_r _ [9, 1, 4, 10, 11, 12, 13, 14, 15] (by decide +kernel) (by decide +kernel)
set_option maxRecDepth 20000 in
theorem gX6_lateAt_X6_isLaidBefore : GoodIn wsX6_lateAt (wsV RX6 28 RX6 yX6_isLaidBefore wsX6_isLaidBefore) := goodIn_app (goodIn_of _ (by decide +kernel)) ggX6_lateAt_X6_isLaidBefore
theorem dX6_lateAt_0 : decode cX6_lateAt 0 = .ok (.aload_n 0, 1) := by decide +kernel
theorem dX6_lateAt_1 : decode cX6_lateAt 1 = .ok (.getfield 11, 3) := by decide +kernel
theorem dX6_lateAt_4 : decode cX6_lateAt 4 = .ok (.iload_n 1, 1) := by decide +kernel
theorem dX6_lateAt_5 : decode cX6_lateAt 5 = .ok (.aaload, 1) := by decide +kernel
theorem dX6_lateAt_6 : decode cX6_lateAt 6 = .ok (.getfield 32, 3) := by decide +kernel
theorem dX6_lateAt_9 : decode cX6_lateAt 9 = .ok (.istore_n 2, 1) := by decide +kernel
theorem dX6_lateAt_10 : decode cX6_lateAt 10 = .ok (.iconst 0, 1) := by decide +kernel
theorem dX6_lateAt_11 : decode cX6_lateAt 11 = .ok (.istore_n 3, 1) := by decide +kernel
theorem dX6_lateAt_12 : decode cX6_lateAt 12 = .ok (.iload_n 3, 1) := by decide +kernel
theorem dX6_lateAt_13 : decode cX6_lateAt 13 = .ok (.aload_n 0, 1) := by decide +kernel
theorem dX6_lateAt_14 : decode cX6_lateAt 14 = .ok (.getfield 17, 3) := by decide +kernel
theorem dX6_lateAt_17 : decode cX6_lateAt 17 = .ok (.if_icmp .ge 30, 3) := by decide +kernel
theorem dX6_lateAt_20 : decode cX6_lateAt 20 = .ok (.aload_n 0, 1) := by decide +kernel
theorem dX6_lateAt_21 : decode cX6_lateAt 21 = .ok (.iload_n 3, 1) := by decide +kernel
theorem dX6_lateAt_22 : decode cX6_lateAt 22 = .ok (.iload_n 1, 1) := by decide +kernel
theorem dX6_lateAt_23 : decode cX6_lateAt 23 = .ok (.invokevirtual 28, 3) := by decide +kernel
theorem dX6_lateAt_26 : decode cX6_lateAt 26 = .ok (.ifCond .eq 15, 3) := by decide +kernel
theorem dX6_lateAt_29 : decode cX6_lateAt 29 = .ok (.iload_n 2, 1) := by decide +kernel
theorem dX6_lateAt_30 : decode cX6_lateAt 30 = .ok (.aload_n 0, 1) := by decide +kernel
theorem dX6_lateAt_31 : decode cX6_lateAt 31 = .ok (.getfield 11, 3) := by decide +kernel
theorem dX6_lateAt_34 : decode cX6_lateAt 34 = .ok (.iload_n 3, 1) := by decide +kernel
theorem dX6_lateAt_35 : decode cX6_lateAt 35 = .ok (.aaload, 1) := by decide +kernel
theorem dX6_lateAt_36 : decode cX6_lateAt 36 = .ok (.getfield 32, 3) := by decide +kernel
theorem dX6_lateAt_39 : decode cX6_lateAt 39 = .ok (.iadd, 1) := by decide +kernel
theorem dX6_lateAt_40 : decode cX6_lateAt 40 = .ok (.istore_n 2, 1) := by decide +kernel
theorem dX6_lateAt_41 : decode cX6_lateAt 41 = .ok (.iinc 3 1, 3) := by decide +kernel
theorem dX6_lateAt_44 : decode cX6_lateAt 44 = .ok (.goto (-32), 3) := by decide +kernel
theorem dX6_lateAt_47 : decode cX6_lateAt 47 = .ok (.iload_n 2, 1) := by decide +kernel
theorem dX6_lateAt_48 : decode cX6_lateAt 48 = .ok (.aload_n 0, 1) := by decide +kernel
theorem dX6_lateAt_49 : decode cX6_lateAt 49 = .ok (.getfield 11, 3) := by decide +kernel
theorem dX6_lateAt_52 : decode cX6_lateAt 52 = .ok (.iload_n 1, 1) := by decide +kernel
theorem dX6_lateAt_53 : decode cX6_lateAt 53 = .ok (.aaload, 1) := by decide +kernel
theorem dX6_lateAt_54 : decode cX6_lateAt 54 = .ok (.getfield 21, 3) := by decide +kernel
theorem dX6_lateAt_57 : decode cX6_lateAt 57 = .ok (.isub, 1) := by decide +kernel
theorem dX6_lateAt_58 : decode cX6_lateAt 58 = .ok (.ireturn, 1) := by decide +kernel
set_option maxRecDepth 20000 in
theorem ggX6_greatestLate_X6_lateAt : GoodIn wsX6_greatestLate wsX6_lateAt := goodIn_r _ [10, 11, 12, 1, 13, 14, 15, 16, 9, 17, 18, 19, 20, 21, 22, 23] (by decide +kernel) (by decide +kernel)
set_option maxRecDepth 20000 in
theorem gX6_greatestLate_X6_lateAt : GoodIn wsX6_greatestLate (wsV RX6 35 RX6 yX6_lateAt wsX6_lateAt) := goodIn_app (goodIn_of _ (by decide +kernel)) ggX6_greatestLate_X6_lateAt
theorem dX6_greatestLate_0 : decode cX6_greatestLate 0 = .ok (.iconst 0, 1) := by decide +kernel
theorem dX6_greatestLate_1 : decode cX6_greatestLate 1 = .ok (.istore_n 1, 1) := by decide +kernel
theorem dX6_greatestLate_2 : decode cX6_greatestLate 2 = .ok (.iconst 0, 1) := by decide +kernel
theorem dX6_greatestLate_3 : decode cX6_greatestLate 3 = .ok (.istore_n 2, 1) := by decide +kernel
theorem dX6_greatestLate_4 : decode cX6_greatestLate 4 = .ok (.iload_n 2, 1) := by decide +kernel
theorem dX6_greatestLate_5 : decode cX6_greatestLate 5 = .ok (.aload_n 0, 1) := by decide +kernel
theorem dX6_greatestLate_6 : decode cX6_greatestLate 6 = .ok (.getfield 17, 3) := by decide +kernel
theorem dX6_greatestLate_9 : decode cX6_greatestLate 9 = .ok (.if_icmp .ge 19, 3) := by decide +kernel
theorem dX6_greatestLate_12 : decode cX6_greatestLate 12 = .ok (.iload_n 1, 1) := by decide +kernel
theorem dX6_greatestLate_13 : decode cX6_greatestLate 13 = .ok (.aload_n 0, 1) := by decide +kernel
theorem dX6_greatestLate_14 : decode cX6_greatestLate 14 = .ok (.iload_n 2, 1) := by decide +kernel
theorem dX6_greatestLate_15 : decode cX6_greatestLate 15 = .ok (.invokevirtual 35, 3) := by decide +kernel
theorem dX6_greatestLate_18 : decode cX6_greatestLate 18 = .ok (.invokestatic 38, 3) := by decide +kernel
theorem dX6_greatestLate_21 : decode cX6_greatestLate 21 = .ok (.istore_n 1, 1) := by decide +kernel
theorem dX6_greatestLate_22 : decode cX6_greatestLate 22 = .ok (.iinc 2 1, 3) := by decide +kernel
theorem dX6_greatestLate_25 : decode cX6_greatestLate 25 = .ok (.goto (-21), 3) := by decide +kernel
theorem dX6_greatestLate_28 : decode cX6_greatestLate 28 = .ok (.iload_n 1, 1) := by decide +kernel
theorem dX6_greatestLate_29 : decode cX6_greatestLate 29 = .ok (.ireturn, 1) := by decide +kernel
set_option maxRecDepth 20000 in
theorem ggX6_countLate_X6_lateAt : GoodIn wsX6_countLate wsX6_lateAt := goodIn_r _ [6, 7, 8, 1, 9, 10, 11, 12, 5, 13, 14, 15, 16, 17, 18, 19] (by decide +kernel) (by decide +kernel)
set_option maxRecDepth 20000 in
theorem gX6_countLate_X6_lateAt : GoodIn wsX6_countLate (wsV RX6 35 RX6 yX6_lateAt wsX6_lateAt) := goodIn_app (goodIn_of _ (by decide +kernel)) ggX6_countLate_X6_lateAt
theorem dX6_countLate_0 : decode cX6_countLate 0 = .ok (.iconst 0, 1) := by decide +kernel
theorem dX6_countLate_1 : decode cX6_countLate 1 = .ok (.istore_n 1, 1) := by decide +kernel
theorem dX6_countLate_2 : decode cX6_countLate 2 = .ok (.iconst 0, 1) := by decide +kernel
theorem dX6_countLate_3 : decode cX6_countLate 3 = .ok (.istore_n 2, 1) := by decide +kernel
theorem dX6_countLate_4 : decode cX6_countLate 4 = .ok (.iload_n 2, 1) := by decide +kernel
theorem dX6_countLate_5 : decode cX6_countLate 5 = .ok (.aload_n 0, 1) := by decide +kernel
theorem dX6_countLate_6 : decode cX6_countLate 6 = .ok (.getfield 17, 3) := by decide +kernel
theorem dX6_countLate_9 : decode cX6_countLate 9 = .ok (.if_icmp .ge 20, 3) := by decide +kernel
theorem dX6_countLate_12 : decode cX6_countLate 12 = .ok (.aload_n 0, 1) := by decide +kernel
theorem dX6_countLate_13 : decode cX6_countLate 13 = .ok (.iload_n 2, 1) := by decide +kernel
theorem dX6_countLate_14 : decode cX6_countLate 14 = .ok (.invokevirtual 35, 3) := by decide +kernel
theorem dX6_countLate_17 : decode cX6_countLate 17 = .ok (.ifCond .le 6, 3) := by decide +kernel
theorem dX6_countLate_20 : decode cX6_countLate 20 = .ok (.iinc 1 1, 3) := by decide +kernel
theorem dX6_countLate_23 : decode cX6_countLate 23 = .ok (.iinc 2 1, 3) := by decide +kernel
theorem dX6_countLate_26 : decode cX6_countLate 26 = .ok (.goto (-22), 3) := by decide +kernel
theorem dX6_countLate_29 : decode cX6_countLate 29 = .ok (.iload_n 1, 1) := by decide +kernel
theorem dX6_countLate_30 : decode cX6_countLate 30 = .ok (.ireturn, 1) := by decide +kernel
set_option maxRecDepth 20000 in
theorem ggX7_init_X6_init : GoodIn wsX7_init wsX6_init := goodIn_r _ [34, 35, 2, 3, 36, 37, 38, 74, 75] (by decide +kernel) (by decide +kernel)
set_option maxRecDepth 20000 in
theorem gX7_init_X6_init_n25 : GoodIn wsX7_init (wsX6_init) := ggX7_init_X6_init
set_option maxRecDepth 20000 in
theorem ggX7_init_X3_init : GoodIn wsX7_init wsX3_init := goodIn_r _ [40, 41, 2, 3, 15, 42, 43, 44, 76, 77, 78] (by decide +kernel) (by decide +kernel)
set_option maxRecDepth 20000 in
theorem gX7_init_X3_init_n28 : GoodIn wsX7_init (wsX3_init) := ggX7_init_X3_init
