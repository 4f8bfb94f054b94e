set_option maxRecDepth 20000 in
theorem ggX8_init_X0_init : GoodIn wsX8_init wsX0_init := goodIn_r _ [22, 23, 2, 3, 24, 25, 26, 27, 28, 59, 60, 61, 62, 63] (by decide +kernel) (by decide +kernel)
set_option maxRecDepth 20000 in
theorem gX8_init_X0_init : GoodIn wsX8_init (wsX0_init) := ggX8_init_X0_init
set_option maxRecDepth 20000 in
theorem ggX8_init_X3_init : GoodIn wsX8_init wsX3_init := goodIn_r _ [30, 31, 2, 3] (by decide +kernel) (by decide +kernel)
set_option maxRecDepth 20000 in
theorem gX8_init_X3_init_n18 : GoodIn wsX8_init (wsX3_init) := ggX8_init_X3_init
set_option maxRecDepth 20000 in
theorem ggX8_init_X4_init : GoodIn wsX8_init wsX4_init := goodIn_r _ [34, 35, 2, 3, 36, 37, 38, 39, 40, 41, 42, 43, 44, 45, 46, 47, 48, 72, 73, 74, 80, 81] (by decide +kernel) (by decide +kernel)
set_option maxRecDepth 20000 in
theorem gX8_init_X4_init : GoodIn wsX8_init (wsX4_init) := ggX8_init_X4_init
set_option maxRecDepth 20000 in
theorem ggX8_init_X7_init : GoodIn wsX8_init wsX7_init := goodIn_r _ [51, 52, 2, 3, 53, 54, 36, 55, 56, 57, 58, 75, 76, 77, 78, 79] (by decide +kernel) (by decide +kernel)
set_option maxRecDepth 20000 in
theorem gX8_init_X7_init : GoodIn wsX8_init (wsX7_init) := ggX8_init_X7_init
theorem dX8_init_0 : decode cX8_init 0 = .ok (.aload_n 0, 1) := by decide +kernel
theorem dX8_init_1 : decode cX8_init 1 = .ok (.invokespecial 1, 3) := by decide +kernel
theorem dX8_init_4 : decode cX8_init 4 = .ok (.aload_n 0, 1) := by decide +kernel
theorem dX8_init_5 : decode cX8_init 5 = .ok (.new 7, 3) := by decide +kernel
theorem dX8_init_8 : decode cX8_init 8 = .ok (.dup, 1) := by decide +kernel
theorem dX8_init_9 : decode cX8_init 9 = .ok (.invokespecial 9, 3) := by decide +kernel
theorem dX8_init_12 : decode cX8_init 12 = .ok (.putfield 10, 3) := by decide +kernel
theorem dX8_init_15 : decode cX8_init 15 = .ok (.aload_n 0, 1) := by decide +kernel
theorem dX8_init_16 : decode cX8_init 16 = .ok (.new 16, 3) := by decide +kernel
theorem dX8_init_19 : decode cX8_init 19 = .ok (.dup, 1) := by decide +kernel
theorem dX8_init_20 : decode cX8_init 20 = .ok (.invokespecial 18, 3) := by decide +kernel
theorem dX8_init_23 : decode cX8_init 23 = .ok (.putfield 19, 3) := by decide +kernel
theorem dX8_init_26 : decode cX8_init 26 = .ok (.aload_n 0, 1) := by decide +kernel
theorem dX8_init_27 : decode cX8_init 27 = .ok (.new 23, 3) := by decide +kernel
theorem dX8_init_30 : decode cX8_init 30 = .ok (.dup, 1) := by decide +kernel
theorem dX8_init_31 : decode cX8_init 31 = .ok (.invokespecial 25, 3) := by decide +kernel
theorem dX8_init_34 : decode cX8_init 34 = .ok (.putfield 26, 3) := by decide +kernel
theorem dX8_init_37 : decode cX8_init 37 = .ok (.aload_n 0, 1) := by decide +kernel
theorem dX8_init_38 : decode cX8_init 38 = .ok (.new 30, 3) := by decide +kernel
theorem dX8_init_41 : decode cX8_init 41 = .ok (.dup, 1) := by decide +kernel
theorem dX8_init_42 : decode cX8_init 42 = .ok (.invokespecial 32, 3) := by decide +kernel
theorem dX8_init_45 : decode cX8_init 45 = .ok (.putfield 33, 3) := by decide +kernel
theorem dX8_init_48 : decode cX8_init 48 = .ok (.return_, 1) := by decide +kernel
set_option maxRecDepth 20000 in
theorem ggX8_key_X8_within : GoodIn wsX8_key wsX8_within := goodIn_r _ [6] (by decide +kernel) (by decide +kernel)
set_option maxRecDepth 20000 in
theorem gX8_key_X8_within : GoodIn wsX8_key (va_wsS RX8 37 yX8_within wsX8_within) := goodIn_app (goodIn_of _ (by decide +kernel)) ggX8_key_X8_within
set_option maxRecDepth 20000 in
theorem ggX8_key_X8_isExponent : GoodIn wsX8_key wsX8_isExponent := goodIn_r _ [9, 3, 4, 5, 6] (by decide +kernel) (by decide +kernel)
set_option maxRecDepth 20000 in
theorem gX8_key_X8_isExponent : GoodIn wsX8_key (va_wsS RX8 41 yX8_isExponent wsX8_isExponent) := goodIn_app (goodIn_of _ (by decide +kernel)) ggX8_key_X8_isExponent
set_option maxRecDepth 20000 in
theorem ggX8_key_X7_size : GoodIn wsX8_key wsX7_size := goodIn_r _ [14, 15, 41, 42, 43, 44, 45] (by decide +kernel) (by decide +kernel)
set_option maxRecDepth 20000 in
theorem gX8_key_X7_size : GoodIn wsX8_key (wsV RX8 45 RX7 yX7_size wsX7_size) := goodIn_app (goodIn_of _ (by decide +kernel)) ggX8_key_X7_size
set_option maxRecDepth 20000 in
theorem ggX8_key_X0_become : GoodIn wsX8_key wsX0_become := goodIn_r _ [20, 21, 22, 23, 24, 25, 26, 27, 28, 29, 30, 31, 32, 46, 47, 48, 49, 50] (by decide +kernel) (by decide +kernel)
set_option maxRecDepth 20000 in
theorem gX8_key_X0_become : GoodIn wsX8_key (wsV RX8 49 RX0 yX0_become wsX0_become) := goodIn_app (goodIn_of _ (by decide +kernel)) ggX8_key_X0_become
set_option maxRecDepth 20000 in
theorem ggX8_key_X0_h : GoodIn wsX8_key wsX0_h := goodIn_r _ [36, 25, 46, 47, 48, 49, 50] (by decide +kernel) (by decide +kernel)
set_option maxRecDepth 20000 in
theorem gX8_key_X0_h : GoodIn wsX8_key (wsV RX8 53 RX0 yX0_h wsX0_h) := goodIn_app (goodIn_of _ (by decide +kernel)) ggX8_key_X0_h
theorem dX8_key_0 : decode cX8_key 0 = .ok (.iload_n 1, 1) := by decide +kernel
theorem dX8_key_1 : decode cX8_key 1 = .ok (.iconst 1, 1) := by decide +kernel
theorem dX8_key_2 : decode cX8_key 2 = .ok (.iconst 3, 1) := by decide +kernel
theorem dX8_key_3 : decode cX8_key 3 = .ok (.invokestatic 37, 3) := by decide +kernel
theorem dX8_key_6 : decode cX8_key 6 = .ok (.ifCond .eq 25, 3) := by decide +kernel
theorem dX8_key_9 : decode cX8_key 9 = .ok (.iload_n 2, 1) := by decide +kernel
theorem dX8_key_10 : decode cX8_key 10 = .ok (.invokestatic 41, 3) := by decide +kernel
theorem dX8_key_13 : decode cX8_key 13 = .ok (.ifCond .eq 18, 3) := by decide +kernel
theorem dX8_key_16 : decode cX8_key 16 = .ok (.iload_n 3, 1) := by decide +kernel
theorem dX8_key_17 : decode cX8_key 17 = .ok (.invokestatic 41, 3) := by decide +kernel
theorem dX8_key_20 : decode cX8_key 20 = .ok (.ifCond .eq 11, 3) := by decide +kernel
theorem dX8_key_23 : decode cX8_key 23 = .ok (.iload 4, 2) := by decide +kernel
theorem dX8_key_25 : decode cX8_key 25 = .ok (.invokestatic 41, 3) := by decide +kernel
theorem dX8_key_28 : decode cX8_key 28 = .ok (.ifCond .ne 6, 3) := by decide +kernel
theorem dX8_key_31 : decode cX8_key 31 = .ok (.bipush (-2), 2) := by decide +kernel
theorem dX8_key_33 : decode cX8_key 33 = .ok (.ireturn, 1) := by decide +kernel
theorem dX8_key_34 : decode cX8_key 34 = .ok (.aload_n 0, 1) := by decide +kernel
theorem dX8_key_35 : decode cX8_key 35 = .ok (.getfield 33, 3) := by decide +kernel
theorem dX8_key_38 : decode cX8_key 38 = .ok (.invokevirtual 45, 3) := by decide +kernel
theorem dX8_key_41 : decode cX8_key 41 = .ok (.ifCond .le 6, 3) := by decide +kernel
theorem dX8_key_44 : decode cX8_key 44 = .ok (.bipush (-3), 2) := by decide +kernel
theorem dX8_key_46 : decode cX8_key 46 = .ok (.ireturn, 1) := by decide +kernel
theorem dX8_key_47 : decode cX8_key 47 = .ok (.aload_n 0, 1) := by decide +kernel
theorem dX8_key_48 : decode cX8_key 48 = .ok (.getfield 10, 3) := by decide +kernel
theorem dX8_key_51 : decode cX8_key 51 = .ok (.iload_n 1, 1) := by decide +kernel
theorem dX8_key_52 : decode cX8_key 52 = .ok (.iload_n 2, 1) := by decide +kernel
theorem dX8_key_53 : decode cX8_key 53 = .ok (.iload_n 3, 1) := by decide +kernel
theorem dX8_key_54 : decode cX8_key 54 = .ok (.iload 4, 2) := by decide +kernel
theorem dX8_key_56 : decode cX8_key 56 = .ok (.invokevirtual 49, 3) := by decide +kernel
theorem dX8_key_59 : decode cX8_key 59 = .ok (.aload_n 0, 1) := by decide +kernel
theorem dX8_key_60 : decode cX8_key 60 = .ok (.getfield 10, 3) := by decide +kernel
theorem dX8_key_63 : decode cX8_key 63 = .ok (.invokevirtual 53, 3) := by decide +kernel
theorem dX8_key_66 : decode cX8_key 66 = .ok (.ireturn, 1) := by decide +kernel
set_option maxRecDepth 20000 in
theorem ggX8_holder_X8_isHolder : GoodIn wsX8_holder wsX8_isHolder := goodIn_r _ [5, 6, 7, 4, 8] (by decide +kernel) (by decide +kernel)
set_option maxRecDepth 20000 in
theorem gX8_holder_X8_isHolder : GoodIn wsX8_holder (va_wsS RX8 56 yX8_isHolder wsX8_isHolder) := goodIn_app (goodIn_of _ (by decide +kernel)) ggX8_holder_X8_isHolder
set_option maxRecDepth 20000 in
theorem ggX8_holder_X8_within : GoodIn wsX8_holder wsX8_within := goodIn_r _ [8] (by decide +kernel) (by decide +kernel)
set_option maxRecDepth 20000 in
theorem gX8_holder_X8_within : GoodIn wsX8_holder (va_wsS RX8 37 yX8_within wsX8_within) := goodIn_app (goodIn_of _ (by decide +kernel)) ggX8_holder_X8_within
set_option maxRecDepth 20000 in
theorem ggX8_holder_X0_part : GoodIn wsX8_holder wsX0_part := goodIn_r _ [13, 14, 15, 16, 28, 29, 30, 31, 32] (by decide +kernel) (by decide +kernel)
set_option maxRecDepth 20000 in
theorem gX8_holder_X0_part : GoodIn wsX8_holder (wsV RX8 59 RX0 yX0_part wsX0_part) := goodIn_app (goodIn_of _ (by decide +kernel)) ggX8_holder_X0_part
set_option maxRecDepth 20000 in
theorem ggX8_holder_X2_ofG : GoodIn wsX8_holder wsX2_ofG := goodIn_r _ [20, 21, 22, 19, 23] (by decide +kernel) (by decide +kernel)
set_option maxRecDepth 20000 in
theorem gX8_holder_X2_ofG : GoodIn wsX8_holder (va_wsS RX8 63 yX2_ofG wsX2_ofG) := goodIn_app (goodIn_of _ (by decide +kernel)) ggX8_holder_X2_ofG
theorem dX8_holder_0 : decode cX8_holder 0 = .ok (.iload_n 1, 1) := by decide +kernel
theorem dX8_holder_1 : decode cX8_holder 1 = .ok (.invokestatic 56, 3) := by decide +kernel
theorem dX8_holder_4 : decode cX8_holder 4 = .ok (.ifCond .ne 5, 3) := by decide +kernel
theorem dX8_holder_7 : decode cX8_holder 7 = .ok (.iconst (-1), 1) := by decide +kernel
theorem dX8_holder_8 : decode cX8_holder 8 = .ok (.ireturn, 1) := by decide +kernel
theorem dX8_holder_9 : decode cX8_holder 9 = .ok (.iload_n 2, 1) := by decide +kernel
theorem dX8_holder_10 : decode cX8_holder 10 = .ok (.iconst 0, 1) := by decide +kernel
theorem dX8_holder_11 : decode cX8_holder 11 = .ok (.iconst 1, 1) := by decide +kernel
theorem dX8_holder_12 : decode cX8_holder 12 = .ok (.invokestatic 37, 3) := by decide +kernel
theorem dX8_holder_15 : decode cX8_holder 15 = .ok (.ifCond .ne 6, 3) := by decide +kernel
theorem dX8_holder_18 : decode cX8_holder 18 = .ok (.bipush (-2), 2) := by decide +kernel
theorem dX8_holder_20 : decode cX8_holder 20 = .ok (.ireturn, 1) := by decide +kernel
theorem dX8_holder_21 : decode cX8_holder 21 = .ok (.iload_n 2, 1) := by decide +kernel
theorem dX8_holder_22 : decode cX8_holder 22 = .ok (.ifCond .ne 14, 3) := by decide +kernel
theorem dX8_holder_25 : decode cX8_holder 25 = .ok (.aload_n 0, 1) := by decide +kernel
theorem dX8_holder_26 : decode cX8_holder 26 = .ok (.getfield 10, 3) := by decide +kernel
theorem dX8_holder_29 : decode cX8_holder 29 = .ok (.iload_n 1, 1) := by decide +kernel
theorem dX8_holder_30 : decode cX8_holder 30 = .ok (.invokevirtual 59, 3) := by decide +kernel
theorem dX8_holder_33 : decode cX8_holder 33 = .ok (.goto 14, 3) := by decide +kernel
theorem dX8_holder_36 : decode cX8_holder 36 = .ok (.aload_n 0, 1) := by decide +kernel
theorem dX8_holder_37 : decode cX8_holder 37 = .ok (.getfield 10, 3) := by decide +kernel
theorem dX8_holder_40 : decode cX8_holder 40 = .ok (.iload_n 1, 1) := by decide +kernel
theorem dX8_holder_41 : decode cX8_holder 41 = .ok (.invokevirtual 59, 3) := by decide +kernel
theorem dX8_holder_44 : decode cX8_holder 44 = .ok (.invokestatic 63, 3) := by decide +kernel
theorem dX8_holder_47 : decode cX8_holder 47 = .ok (.ireturn, 1) := by decide +kernel
set_option maxRecDepth 20000 in
theorem ggX8_seal_X8_isExponent : GoodIn wsX8_seal wsX8_isExponent := goodIn_r _ [5, 6, 7, 4, 8] (by decide +kernel) (by decide +kernel)
set_option maxRecDepth 20000 in
theorem gX8_seal_X8_isExponent : GoodIn wsX8_seal (va_wsS RX8 41 yX8_isExponent wsX8_isExponent) := goodIn_app (goodIn_of _ (by decide +kernel)) ggX8_seal_X8_isExponent
set_option maxRecDepth 20000 in
theorem ggX8_seal_X8_within : GoodIn wsX8_seal wsX8_within := goodIn_r _ [8] (by decide +kernel) (by decide +kernel)
set_option maxRecDepth 20000 in
theorem gX8_seal_X8_within : GoodIn wsX8_seal (va_wsS RX8 37 yX8_within wsX8_within) := goodIn_app (goodIn_of _ (by decide +kernel)) ggX8_seal_X8_within
set_option maxRecDepth 20000 in
theorem ggX8_seal_X2_ofG : GoodIn wsX8_seal wsX2_ofG := goodIn_r _ [12, 13, 14, 11, 15] (by decide +kernel) (by decide +kernel)
set_option maxRecDepth 20000 in
theorem gX8_seal_X2_ofG : GoodIn wsX8_seal (va_wsS RX8 63 yX2_ofG wsX2_ofG) := goodIn_app (goodIn_of _ (by decide +kernel)) ggX8_seal_X2_ofG
set_option maxRecDepth 20000 in
theorem ggX8_seal_X0_sealedB : GoodIn wsX8_seal wsX0_sealedB := goodIn_r _ [20, 21, 22, 23, 11, 24, 13, 14, 15, 25, 10, 12, 30, 31, 32, 33, 34] (by decide +kernel) (by decide +kernel)
set_option maxRecDepth 20000 in
theorem gX8_seal_X0_sealedB : GoodIn wsX8_seal (wsV RX8 68 RX0 yX0_sealedB wsX0_sealedB) := goodIn_app (goodIn_of _ (by decide +kernel)) ggX8_seal_X0_sealedB
theorem dX8_seal_0 : decode cX8_seal 0 = .ok (.iload_n 1, 1) := by decide +kernel
theorem dX8_seal_1 : decode cX8_seal 1 = .ok (.invokestatic 41, 3) := by decide +kernel
theorem dX8_seal_4 : decode cX8_seal 4 = .ok (.ifCond .eq 19, 3) := by decide +kernel
theorem dX8_seal_7 : decode cX8_seal 7 = .ok (.iload_n 2, 1) := by decide +kernel
theorem dX8_seal_8 : decode cX8_seal 8 = .ok (.invokestatic 41, 3) := by decide +kernel
theorem dX8_seal_11 : decode cX8_seal 11 = .ok (.ifCond .eq 12, 3) := by decide +kernel
theorem dX8_seal_14 : decode cX8_seal 14 = .ok (.iload_n 3, 1) := by decide +kernel
theorem dX8_seal_15 : decode cX8_seal 15 = .ok (.iconst 0, 1) := by decide +kernel
theorem dX8_seal_16 : decode cX8_seal 16 = .ok (.iconst 1, 1) := by decide +kernel
theorem dX8_seal_17 : decode cX8_seal 17 = .ok (.invokestatic 37, 3) := by decide +kernel
theorem dX8_seal_20 : decode cX8_seal 20 = .ok (.ifCond .ne 6, 3) := by decide +kernel
theorem dX8_seal_23 : decode cX8_seal 23 = .ok (.bipush (-2), 2) := by decide +kernel
theorem dX8_seal_25 : decode cX8_seal 25 = .ok (.ireturn, 1) := by decide +kernel
theorem dX8_seal_26 : decode cX8_seal 26 = .ok (.iload_n 3, 1) := by decide +kernel
theorem dX8_seal_27 : decode cX8_seal 27 = .ok (.ifCond .ne 10, 3) := by decide +kernel
theorem dX8_seal_30 : decode cX8_seal 30 = .ok (.iload_n 2, 1) := by decide +kernel
theorem dX8_seal_31 : decode cX8_seal 31 = .ok (.invokestatic 63, 3) := by decide +kernel
theorem dX8_seal_34 : decode cX8_seal 34 = .ok (.goto 12, 3) := by decide +kernel
theorem dX8_seal_37 : decode cX8_seal 37 = .ok (.aload_n 0, 1) := by decide +kernel
theorem dX8_seal_38 : decode cX8_seal 38 = .ok (.getfield 10, 3) := by decide +kernel
theorem dX8_seal_41 : decode cX8_seal 41 = .ok (.iload_n 1, 1) := by decide +kernel
theorem dX8_seal_42 : decode cX8_seal 42 = .ok (.iload_n 2, 1) := by decide +kernel
theorem dX8_seal_43 : decode cX8_seal 43 = .ok (.invokevirtual 68, 3) := by decide +kernel
theorem dX8_seal_46 : decode cX8_seal 46 = .ok (.ireturn, 1) := by decide +kernel
set_option maxRecDepth 20000 in
theorem ggX8_right_X2_isRight : GoodIn wsX8_right wsX2_isRight := goodIn_r _ [4, 5, 6, 7, 8, 9, 10, 11, 12, 3, 13, 14, 15, 16] (by decide +kernel) (by decide +kernel)
set_option maxRecDepth 20000 in
theorem gX8_right_X2_isRight : GoodIn wsX8_right (va_wsS RX8 72 yX2_isRight wsX2_isRight) := goodIn_app (goodIn_of _ (by decide +kernel)) ggX8_right_X2_isRight
theorem dX8_right_0 : decode cX8_right 0 = .ok (.iload_n 1, 1) := by decide +kernel
theorem dX8_right_1 : decode cX8_right 1 = .ok (.iload_n 2, 1) := by decide +kernel
theorem dX8_right_2 : decode cX8_right 2 = .ok (.invokestatic 72, 3) := by decide +kernel
theorem dX8_right_5 : decode cX8_right 5 = .ok (.ifCond .eq 7, 3) := by decide +kernel
theorem dX8_right_8 : decode cX8_right 8 = .ok (.iconst 1, 1) := by decide +kernel
theorem dX8_right_9 : decode cX8_right 9 = .ok (.goto 4, 3) := by decide +kernel
theorem dX8_right_12 : decode cX8_right 12 = .ok (.iconst 0, 1) := by decide +kernel
theorem dX8_right_13 : decode cX8_right 13 = .ok (.ireturn, 1) := by decide +kernel
set_option maxRecDepth 20000 in
theorem ggX8_open_X8_isHolder : GoodIn wsX8_open wsX8_isHolder := goodIn_r _ [5, 6, 7, 4, 8] (by decide +kernel) (by decide +kernel)
set_option maxRecDepth 20000 in
theorem gX8_open_X8_isHolder : GoodIn wsX8_open (va_wsS RX8 56 yX8_isHolder wsX8_isHolder) := goodIn_app (goodIn_of _ (by decide +kernel)) ggX8_open_X8_isHolder
set_option maxRecDepth 20000 in
theorem ggX8_open_X8_isResidue : GoodIn wsX8_open wsX8_isResidue := goodIn_r _ [11, 6, 7, 4, 8] (by decide +kernel) (by decide +kernel)
set_option maxRecDepth 20000 in
theorem gX8_open_X8_isResidue : GoodIn wsX8_open (va_wsS RX8 76 yX8_isResidue wsX8_isResidue) := goodIn_app (goodIn_of _ (by decide +kernel)) ggX8_open_X8_isResidue
set_option maxRecDepth 20000 in
theorem ggX8_open_X0_share : GoodIn wsX8_open wsX0_share := goodIn_r _ [16, 17, 18, 19, 15, 20, 21, 22, 23, 24, 25, 26, 27, 28, 29, 30, 35, 36, 37, 38, 39] (by decide +kernel) (by decide +kernel)
set_option maxRecDepth 20000 in
theorem gX8_open_X0_share : GoodIn wsX8_open (wsV RX8 79 RX0 yX0_share wsX0_share) := goodIn_app (goodIn_of _ (by decide +kernel)) ggX8_open_X0_share
theorem dX8_open_0 : decode cX8_open 0 = .ok (.iload_n 1, 1) := by decide +kernel
theorem dX8_open_1 : decode cX8_open 1 = .ok (.invokestatic 56, 3) := by decide +kernel
theorem dX8_open_4 : decode cX8_open 4 = .ok (.ifCond .ne 5, 3) := by decide +kernel
theorem dX8_open_7 : decode cX8_open 7 = .ok (.iconst (-1), 1) := by decide +kernel
theorem dX8_open_8 : decode cX8_open 8 = .ok (.ireturn, 1) := by decide +kernel
theorem dX8_open_9 : decode cX8_open 9 = .ok (.iload_n 2, 1) := by decide +kernel
theorem dX8_open_10 : decode cX8_open 10 = .ok (.invokestatic 76, 3) := by decide +kernel
theorem dX8_open_13 : decode cX8_open 13 = .ok (.ifCond .ne 6, 3) := by decide +kernel
theorem dX8_open_16 : decode cX8_open 16 = .ok (.bipush (-2), 2) := by decide +kernel
theorem dX8_open_18 : decode cX8_open 18 = .ok (.ireturn, 1) := by decide +kernel
theorem dX8_open_19 : decode cX8_open 19 = .ok (.aload_n 0, 1) := by decide +kernel
theorem dX8_open_20 : decode cX8_open 20 = .ok (.getfield 10, 3) := by decide +kernel
theorem dX8_open_23 : decode cX8_open 23 = .ok (.iload_n 1, 1) := by decide +kernel
theorem dX8_open_24 : decode cX8_open 24 = .ok (.iload_n 2, 1) := by decide +kernel
theorem dX8_open_25 : decode cX8_open 25 = .ok (.invokevirtual 79, 3) := by decide +kernel
theorem dX8_open_28 : decode cX8_open 28 = .ok (.ireturn, 1) := by decide +kernel
set_option maxRecDepth 20000 in
theorem ggX8_weight_X8_isHolder : GoodIn wsX8_weight wsX8_isHolder := goodIn_r _ [4, 5, 6, 3, 7] (by decide +kernel) (by decide +kernel)
set_option maxRecDepth 20000 in
theorem gX8_weight_X8_isHolder : GoodIn wsX8_weight (va_wsS RX8 56 yX8_isHolder wsX8_isHolder) := goodIn_app (goodIn_of _ (by decide +kernel)) ggX8_weight_X8_isHolder
set_option maxRecDepth 20000 in
theorem ggX8_weight_X8_isIn : GoodIn wsX8_weight wsX8_isIn := goodIn_r _ [10] (by decide +kernel) (by decide +kernel)
set_option maxRecDepth 20000 in
theorem gX8_weight_X8_isIn : GoodIn wsX8_weight (va_wsS RX8 82 yX8_isIn wsX8_isIn) := goodIn_app (goodIn_of _ (by decide +kernel)) ggX8_weight_X8_isIn
set_option maxRecDepth 20000 in
theorem ggX8_weight_X8_isSet : GoodIn wsX8_weight wsX8_isSet := goodIn_r _ [13, 5, 6, 3, 7] (by decide +kernel) (by decide +kernel)
set_option maxRecDepth 20000 in
theorem gX8_weight_X8_isSet : GoodIn wsX8_weight (va_wsS RX8 85 yX8_isSet wsX8_isSet) := goodIn_app (goodIn_of _ (by decide +kernel)) ggX8_weight_X8_isSet
set_option maxRecDepth 20000 in
theorem ggX8_weight_X0_weightIn : GoodIn wsX8_weight wsX0_weightIn := goodIn_r _ [17, 9, 3, 10, 18, 19, 20, 21, 22, 23, 24] (by decide +kernel) (by decide +kernel)
set_option maxRecDepth 20000 in
theorem gX8_weight_X0_weightIn : GoodIn wsX8_weight (va_wsS RX8 88 yX0_weightIn wsX0_weightIn) := goodIn_app (goodIn_of _ (by decide +kernel)) ggX8_weight_X0_weightIn
theorem dX8_weight_0 : decode cX8_weight 0 = .ok (.iload_n 1, 1) := by decide +kernel
theorem dX8_weight_1 : decode cX8_weight 1 = .ok (.invokestatic 56, 3) := by decide +kernel
theorem dX8_weight_4 : decode cX8_weight 4 = .ok (.ifCond .eq 11, 3) := by decide +kernel
theorem dX8_weight_7 : decode cX8_weight 7 = .ok (.iload_n 1, 1) := by decide +kernel
theorem dX8_weight_8 : decode cX8_weight 8 = .ok (.iload_n 2, 1) := by decide +kernel
theorem dX8_weight_9 : decode cX8_weight 9 = .ok (.invokestatic 82, 3) := by decide +kernel
theorem dX8_weight_12 : decode cX8_weight 12 = .ok (.ifCond .ne 5, 3) := by decide +kernel
theorem dX8_weight_15 : decode cX8_weight 15 = .ok (.iconst (-1), 1) := by decide +kernel
theorem dX8_weight_16 : decode cX8_weight 16 = .ok (.ireturn, 1) := by decide +kernel
theorem dX8_weight_17 : decode cX8_weight 17 = .ok (.iload_n 2, 1) := by decide +kernel
theorem dX8_weight_18 : decode cX8_weight 18 = .ok (.invokestatic 85, 3) := by decide +kernel
theorem dX8_weight_21 : decode cX8_weight 21 = .ok (.ifCond .ne 6, 3) := by decide +kernel
theorem dX8_weight_24 : decode cX8_weight 24 = .ok (.bipush (-2), 2) := by decide +kernel
theorem dX8_weight_26 : decode cX8_weight 26 = .ok (.ireturn, 1) := by decide +kernel
theorem dX8_weight_27 : decode cX8_weight 27 = .ok (.iload_n 1, 1) := by decide +kernel
theorem dX8_weight_28 : decode cX8_weight 28 = .ok (.iload_n 2, 1) := by decide +kernel
theorem dX8_weight_29 : decode cX8_weight 29 = .ok (.invokestatic 88, 3) := by decide +kernel
theorem dX8_weight_32 : decode cX8_weight 32 = .ok (.ireturn, 1) := by decide +kernel
set_option maxRecDepth 20000 in
theorem ggX8_opened_X8_isResidue : GoodIn wsX8_opened wsX8_isResidue := goodIn_r _ [5, 6, 7, 4, 8] (by decide +kernel) (by decide +kernel)
set_option maxRecDepth 20000 in
theorem gX8_opened_X8_isResidue : GoodIn wsX8_opened (va_wsS RX8 76 yX8_isResidue wsX8_isResidue) := goodIn_app (goodIn_of _ (by decide +kernel)) ggX8_opened_X8_isResidue
set_option maxRecDepth 20000 in
theorem ggX8_opened_X8_isSet : GoodIn wsX8_opened wsX8_isSet := goodIn_r _ [11, 6, 7, 4, 8] (by decide +kernel) (by decide +kernel)
set_option maxRecDepth 20000 in
theorem gX8_opened_X8_isSet : GoodIn wsX8_opened (va_wsS RX8 85 yX8_isSet wsX8_isSet) := goodIn_app (goodIn_of _ (by decide +kernel)) ggX8_opened_X8_isSet
set_option maxRecDepth 20000 in
theorem ggX8_opened_X8_within : GoodIn wsX8_opened wsX8_within := goodIn_r _ [8] (by decide +kernel) (by decide +kernel)
set_option maxRecDepth 20000 in
theorem gX8_opened_X8_within : GoodIn wsX8_opened (va_wsS RX8 37 yX8_within wsX8_within) := goodIn_app (goodIn_of _ (by decide +kernel)) ggX8_opened_X8_within
set_option maxRecDepth 20000 in
theorem ggX8_opened_J6_bitCount_0f7a4 : GoodIn wsX8_opened wsJ6_bitCount_0f7a4 := goodIn_r _ [15, 16, 17, 18] (by decide +kernel) (by decide +kernel)
set_option maxRecDepth 20000 in
theorem gX8_opened_J6_bitCount_0f7a4 : GoodIn wsX8_opened (va_wsS RX8 91 yJ6_bitCount_0f7a4 wsJ6_bitCount_0f7a4) := goodIn_app (goodIn_of _ (by decide +kernel)) ggX8_opened_J6_bitCount_0f7a4
set_option maxRecDepth 20000 in
theorem ggX8_opened_X0_need : GoodIn wsX8_opened wsX0_need := goodIn_r _ [23, 24, 66, 67, 68, 69, 70] (by decide +kernel) (by decide +kernel)
set_option maxRecDepth 20000 in
theorem gX8_opened_X0_need : GoodIn wsX8_opened (wsV RX8 96 RX0 yX0_need wsX0_need) := goodIn_app (goodIn_of _ (by decide +kernel)) ggX8_opened_X0_need
set_option maxRecDepth 20000 in
theorem ggX8_opened_X0_unsealed : GoodIn wsX8_opened wsX0_unsealed := goodIn_r _ [28, 29, 4, 30, 31, 32, 33, 22, 34, 35, 36, 37, 38, 39, 40, 41, 42, 43, 44, 45, 46, 47, 48, 49, 50, 51, 52, 53, 54, 55, 56, 57, 58, 66, 67, 68, 69, 70] (by decide +kernel) (by decide +kernel)
set_option maxRecDepth 20000 in
theorem gX8_opened_X0_unsealed : GoodIn wsX8_opened (wsV RX8 99 RX0 yX0_unsealed wsX0_unsealed) := goodIn_app (goodIn_of _ (by decide +kernel)) ggX8_opened_X0_unsealed
set_option maxRecDepth 20000 in
theorem ggX8_opened_X2_exponentOf : GoodIn wsX8_opened wsX2_exponentOf := goodIn_r _ [61] (by decide +kernel) (by decide +kernel)
set_option maxRecDepth 20000 in
theorem gX8_opened_X2_exponentOf : GoodIn wsX8_opened (va_wsS RX8 103 yX2_exponentOf wsX2_exponentOf) := goodIn_app (goodIn_of _ (by decide +kernel)) ggX8_opened_X2_exponentOf
theorem dX8_opened_0 : decode cX8_opened 0 = .ok (.iload_n 1, 1) := by decide +kernel
theorem dX8_opened_1 : decode cX8_opened 1 = .ok (.invokestatic 76, 3) := by decide +kernel
theorem dX8_opened_4 : decode cX8_opened 4 = .ok (.ifCond .eq 27, 3) := by decide +kernel
theorem dX8_opened_7 : decode cX8_opened 7 = .ok (.iload_n 2, 1) := by decide +kernel
theorem dX8_opened_8 : decode cX8_opened 8 = .ok (.invokestatic 76, 3) := by decide +kernel
theorem dX8_opened_11 : decode cX8_opened 11 = .ok (.ifCond .eq 20, 3) := by decide +kernel
theorem dX8_opened_14 : decode cX8_opened 14 = .ok (.iload_n 3, 1) := by decide +kernel
theorem dX8_opened_15 : decode cX8_opened 15 = .ok (.invokestatic 85, 3) := by decide +kernel
theorem dX8_opened_18 : decode cX8_opened 18 = .ok (.ifCond .eq 13, 3) := by decide +kernel
theorem dX8_opened_21 : decode cX8_opened 21 = .ok (.iload 4, 2) := by decide +kernel
theorem dX8_opened_23 : decode cX8_opened 23 = .ok (.iconst 0, 1) := by decide +kernel
theorem dX8_opened_24 : decode cX8_opened 24 = .ok (.iconst 1, 1) := by decide +kernel
theorem dX8_opened_25 : decode cX8_opened 25 = .ok (.invokestatic 37, 3) := by decide +kernel
theorem dX8_opened_28 : decode cX8_opened 28 = .ok (.ifCond .ne 6, 3) := by decide +kernel
theorem dX8_opened_31 : decode cX8_opened 31 = .ok (.bipush (-2), 2) := by decide +kernel
theorem dX8_opened_33 : decode cX8_opened 33 = .ok (.ireturn, 1) := by decide +kernel
theorem dX8_opened_34 : decode cX8_opened 34 = .ok (.iload_n 3, 1) := by decide +kernel
theorem dX8_opened_35 : decode cX8_opened 35 = .ok (.invokestatic 91, 3) := by decide +kernel
theorem dX8_opened_38 : decode cX8_opened 38 = .ok (.aload_n 0, 1) := by decide +kernel
theorem dX8_opened_39 : decode cX8_opened 39 = .ok (.getfield 10, 3) := by decide +kernel
theorem dX8_opened_42 : decode cX8_opened 42 = .ok (.invokevirtual 96, 3) := by decide +kernel
theorem dX8_opened_45 : decode cX8_opened 45 = .ok (.if_icmp .ge 6, 3) := by decide +kernel
theorem dX8_opened_48 : decode cX8_opened 48 = .ok (.bipush (-5), 2) := by decide +kernel
theorem dX8_opened_50 : decode cX8_opened 50 = .ok (.ireturn, 1) := by decide +kernel
theorem dX8_opened_51 : decode cX8_opened 51 = .ok (.aload_n 0, 1) := by decide +kernel
theorem dX8_opened_52 : decode cX8_opened 52 = .ok (.getfield 10, 3) := by decide +kernel
theorem dX8_opened_55 : decode cX8_opened 55 = .ok (.iload_n 1, 1) := by decide +kernel
theorem dX8_opened_56 : decode cX8_opened 56 = .ok (.iload_n 2, 1) := by decide +kernel
theorem dX8_opened_57 : decode cX8_opened 57 = .ok (.iload_n 3, 1) := by decide +kernel
theorem dX8_opened_58 : decode cX8_opened 58 = .ok (.invokevirtual 99, 3) := by decide +kernel
theorem dX8_opened_61 : decode cX8_opened 61 = .ok (.istore 5, 2) := by decide +kernel
theorem dX8_opened_63 : decode cX8_opened 63 = .ok (.iload 4, 2) := by decide +kernel
theorem dX8_opened_65 : decode cX8_opened 65 = .ok (.ifCond .ne 8, 3) := by decide +kernel
theorem dX8_opened_68 : decode cX8_opened 68 = .ok (.iload 5, 2) := by decide +kernel
theorem dX8_opened_70 : decode cX8_opened 70 = .ok (.goto 8, 3) := by decide +kernel
theorem dX8_opened_73 : decode cX8_opened 73 = .ok (.iload 5, 2) := by decide +kernel
theorem dX8_opened_75 : decode cX8_opened 75 = .ok (.invokestatic 103, 3) := by decide +kernel
theorem dX8_opened_78 : decode cX8_opened 78 = .ok (.ireturn, 1) := by decide +kernel
set_option maxRecDepth 20000 in
theorem ggX8_prove_X8_within : GoodIn wsX8_prove wsX8_within := goodIn_r _ [6] (by decide +kernel) (by decide +kernel)
set_option maxRecDepth 20000 in
theorem gX8_prove_X8_within : GoodIn wsX8_prove (va_wsS RX8 37 yX8_within wsX8_within) := goodIn_app (goodIn_of _ (by decide +kernel)) ggX8_prove_X8_within
set_option maxRecDepth 20000 in
theorem ggX8_prove_X8_areLots : GoodIn wsX8_prove wsX8_areLots := goodIn_r _ [9, 10, 11, 5, 12, 3, 4, 6] (by decide +kernel) (by decide +kernel)
set_option maxRecDepth 20000 in
theorem gX8_prove_X8_areLots : GoodIn wsX8_prove (va_wsS RX8 106 yX8_areLots wsX8_areLots) := goodIn_app (goodIn_of _ (by decide +kernel)) ggX8_prove_X8_areLots
set_option maxRecDepth 20000 in
theorem ggX8_prove_X3_make : GoodIn wsX8_prove wsX3_make := goodIn_r _ [17, 18, 19, 20, 21, 22, 23, 24, 25, 26, 27, 28, 29, 30, 31, 32, 33, 34, 35, 36, 37, 38, 39, 40, 41, 16, 42, 43, 44, 45, 46, 47, 48, 49, 50, 51, 52, 53, 54, 55, 56, 57, 58, 59, 60, 61, 62, 71, 72, 73, 74, 75, 76, 77, 78, 79] (by decide +kernel) (by decide +kernel)
set_option maxRecDepth 20000 in
theorem gX8_prove_X3_make : GoodIn wsX8_prove (wsV RX8 110 RX3 yX3_make wsX3_make) := goodIn_app (goodIn_of _ (by decide +kernel)) ggX8_prove_X3_make
set_option maxRecDepth 20000 in
theorem ggX8_prove_X3_number : GoodIn wsX8_prove wsX3_number := goodIn_r _ [66, 59, 60, 61, 62, 76, 77, 78, 79] (by decide +kernel) (by decide +kernel)
set_option maxRecDepth 20000 in
theorem gX8_prove_X3_number : GoodIn wsX8_prove (wsV RX8 114 RX3 yX3_number wsX3_number) := goodIn_app (goodIn_of _ (by decide +kernel)) ggX8_prove_X3_number
theorem dX8_prove_0 : decode cX8_prove 0 = .ok (.iload_n 1, 1) := by decide +kernel
theorem dX8_prove_1 : decode cX8_prove 1 = .ok (.iconst 0, 1) := by decide +kernel
theorem dX8_prove_2 : decode cX8_prove 2 = .ok (.iconst 1, 1) := by decide +kernel
theorem dX8_prove_3 : decode cX8_prove 3 = .ok (.invokestatic 37, 3) := by decide +kernel
theorem dX8_prove_6 : decode cX8_prove 6 = .ok (.ifCond .eq 25, 3) := by decide +kernel
theorem dX8_prove_9 : decode cX8_prove 9 = .ok (.iload_n 2, 1) := by decide +kernel
theorem dX8_prove_10 : decode cX8_prove 10 = .ok (.iload_n 3, 1) := by decide +kernel
theorem dX8_prove_11 : decode cX8_prove 11 = .ok (.iload 4, 2) := by decide +kernel
theorem dX8_prove_13 : decode cX8_prove 13 = .ok (.iload 5, 2) := by decide +kernel
theorem dX8_prove_15 : decode cX8_prove 15 = .ok (.invokestatic 106, 3) := by decide +kernel
theorem dX8_prove_18 : decode cX8_prove 18 = .ok (.ifCond .eq 13, 3) := by decide +kernel
theorem dX8_prove_21 : decode cX8_prove 21 = .ok (.iload 6, 2) := by decide +kernel
theorem dX8_prove_23 : decode cX8_prove 23 = .ok (.iconst 0, 1) := by decide +kernel
theorem dX8_prove_24 : decode cX8_prove 24 = .ok (.iconst 3, 1) := by decide +kernel
theorem dX8_prove_25 : decode cX8_prove 25 = .ok (.invokestatic 37, 3) := by decide +kernel
theorem dX8_prove_28 : decode cX8_prove 28 = .ok (.ifCond .ne 6, 3) := by decide +kernel
theorem dX8_prove_31 : decode cX8_prove 31 = .ok (.bipush (-2), 2) := by decide +kernel
theorem dX8_prove_33 : decode cX8_prove 33 = .ok (.ireturn, 1) := by decide +kernel
theorem dX8_prove_34 : decode cX8_prove 34 = .ok (.aload_n 0, 1) := by decide +kernel
theorem dX8_prove_35 : decode cX8_prove 35 = .ok (.getfield 19, 3) := by decide +kernel
theorem dX8_prove_38 : decode cX8_prove 38 = .ok (.aload_n 0, 1) := by decide +kernel
theorem dX8_prove_39 : decode cX8_prove 39 = .ok (.getfield 10, 3) := by decide +kernel
theorem dX8_prove_42 : decode cX8_prove 42 = .ok (.iload_n 1, 1) := by decide +kernel
theorem dX8_prove_43 : decode cX8_prove 43 = .ok (.iload_n 2, 1) := by decide +kernel
theorem dX8_prove_44 : decode cX8_prove 44 = .ok (.iload_n 3, 1) := by decide +kernel
theorem dX8_prove_45 : decode cX8_prove 45 = .ok (.iload 4, 2) := by decide +kernel
theorem dX8_prove_47 : decode cX8_prove 47 = .ok (.iload 5, 2) := by decide +kernel
theorem dX8_prove_49 : decode cX8_prove 49 = .ok (.invokevirtual 110, 3) := by decide +kernel
theorem dX8_prove_52 : decode cX8_prove 52 = .ok (.aload_n 0, 1) := by decide +kernel
theorem dX8_prove_53 : decode cX8_prove 53 = .ok (.getfield 19, 3) := by decide +kernel
theorem dX8_prove_56 : decode cX8_prove 56 = .ok (.iload 6, 2) := by decide +kernel
theorem dX8_prove_58 : decode cX8_prove 58 = .ok (.invokevirtual 114, 3) := by decide +kernel
theorem dX8_prove_61 : decode cX8_prove 61 = .ok (.ireturn, 1) := by decide +kernel
set_option maxRecDepth 20000 in
theorem ggX8_check_X3_become : GoodIn wsX8_check wsX3_become := goodIn_r _ [7, 8, 9, 10, 11, 66, 67, 68, 69] (by decide +kernel) (by decide +kernel)
set_option maxRecDepth 20000 in
theorem gX8_check_X3_become : GoodIn wsX8_check (wsV RX8 117 RX3 yX3_become wsX3_become) := goodIn_app (goodIn_of _ (by decide +kernel)) ggX8_check_X3_become
set_option maxRecDepth 20000 in
theorem ggX8_check_X3_holds : GoodIn wsX8_check wsX3_holds := goodIn_r _ [15, 8, 9, 10, 11, 16, 17, 18, 19, 20, 21, 22, 23, 24, 25, 26, 27, 28, 29, 30, 31, 32, 33, 34, 35, 36, 37, 38, 6, 39, 40, 41, 42, 43, 44, 45, 46, 47, 48, 49, 50, 51, 52, 53, 54, 55, 56, 57, 58, 59, 60, 61, 66, 67, 68, 69, 70, 71, 72, 73, 74] (by decide +kernel) (by decide +kernel)
set_option maxRecDepth 20000 in
theorem gX8_check_X3_holds : GoodIn wsX8_check (wsV RX8 118 RX3 yX3_holds wsX3_holds) := goodIn_app (goodIn_of _ (by decide +kernel)) ggX8_check_X3_holds
theorem dX8_check_0 : decode cX8_check 0 = .ok (.aload_n 0, 1) := by decide +kernel
theorem dX8_check_1 : decode cX8_check 1 = .ok (.getfield 19, 3) := by decide +kernel
theorem dX8_check_4 : decode cX8_check 4 = .ok (.iload_n 3, 1) := by decide +kernel
theorem dX8_check_5 : decode cX8_check 5 = .ok (.iload 4, 2) := by decide +kernel
theorem dX8_check_7 : decode cX8_check 7 = .ok (.iload 5, 2) := by decide +kernel
theorem dX8_check_9 : decode cX8_check 9 = .ok (.iload 6, 2) := by decide +kernel
theorem dX8_check_11 : decode cX8_check 11 = .ok (.invokevirtual 117, 3) := by decide +kernel
theorem dX8_check_14 : decode cX8_check 14 = .ok (.aload_n 0, 1) := by decide +kernel
theorem dX8_check_15 : decode cX8_check 15 = .ok (.getfield 19, 3) := by decide +kernel
theorem dX8_check_18 : decode cX8_check 18 = .ok (.aload_n 0, 1) := by decide +kernel
theorem dX8_check_19 : decode cX8_check 19 = .ok (.getfield 10, 3) := by decide +kernel
theorem dX8_check_22 : decode cX8_check 22 = .ok (.iload_n 1, 1) := by decide +kernel
theorem dX8_check_23 : decode cX8_check 23 = .ok (.iload_n 2, 1) := by decide +kernel
theorem dX8_check_24 : decode cX8_check 24 = .ok (.invokevirtual 118, 3) := by decide +kernel
theorem dX8_check_27 : decode cX8_check 27 = .ok (.ifCond .eq 7, 3) := by decide +kernel
theorem dX8_check_30 : decode cX8_check 30 = .ok (.iconst 1, 1) := by decide +kernel
theorem dX8_check_31 : decode cX8_check 31 = .ok (.goto 4, 3) := by decide +kernel
theorem dX8_check_34 : decode cX8_check 34 = .ok (.iconst 0, 1) := by decide +kernel
theorem dX8_check_35 : decode cX8_check 35 = .ok (.ireturn, 1) := by decide +kernel
set_option maxRecDepth 20000 in
theorem ggX8_voter_X8_isVoter : GoodIn wsX8_voter wsX8_isVoter := goodIn_r _ [5, 6, 7, 4, 8] (by decide +kernel) (by decide +kernel)
set_option maxRecDepth 20000 in
theorem gX8_voter_X8_isVoter : GoodIn wsX8_voter (va_wsS RX8 122 yX8_isVoter wsX8_isVoter) := goodIn_app (goodIn_of _ (by decide +kernel)) ggX8_voter_X8_isVoter
set_option maxRecDepth 20000 in
theorem ggX8_voter_X8_within : GoodIn wsX8_voter wsX8_within := goodIn_r _ [8] (by decide +kernel) (by decide +kernel)
set_option maxRecDepth 20000 in
theorem gX8_voter_X8_within : GoodIn wsX8_voter (va_wsS RX8 37 yX8_within wsX8_within) := goodIn_app (goodIn_of _ (by decide +kernel)) ggX8_voter_X8_within
set_option maxRecDepth 20000 in
theorem ggX8_voter_X4_change : GoodIn wsX8_voter wsX4_change := goodIn_r _ [13, 14, 15, 16, 17, 12, 18, 23, 24, 25] (by decide +kernel) (by decide +kernel)
set_option maxRecDepth 20000 in
theorem gX8_voter_X4_change : GoodIn wsX8_voter (wsV RX8 125 RX4 yX4_change wsX4_change) := goodIn_app (goodIn_of _ (by decide +kernel)) ggX8_voter_X4_change
theorem dX8_voter_0 : decode cX8_voter 0 = .ok (.iload_n 1, 1) := by decide +kernel
theorem dX8_voter_1 : decode cX8_voter 1 = .ok (.invokestatic 122, 3) := by decide +kernel
theorem dX8_voter_4 : decode cX8_voter 4 = .ok (.ifCond .ne 5, 3) := by decide +kernel
theorem dX8_voter_7 : decode cX8_voter 7 = .ok (.iconst (-1), 1) := by decide +kernel
theorem dX8_voter_8 : decode cX8_voter 8 = .ok (.ireturn, 1) := by decide +kernel
theorem dX8_voter_9 : decode cX8_voter 9 = .ok (.iload_n 2, 1) := by decide +kernel
theorem dX8_voter_10 : decode cX8_voter 10 = .ok (.iconst 0, 1) := by decide +kernel
theorem dX8_voter_11 : decode cX8_voter 11 = .ok (.iconst 2, 1) := by decide +kernel
theorem dX8_voter_12 : decode cX8_voter 12 = .ok (.invokestatic 37, 3) := by decide +kernel
theorem dX8_voter_15 : decode cX8_voter 15 = .ok (.ifCond .eq 22, 3) := by decide +kernel
theorem dX8_voter_18 : decode cX8_voter 18 = .ok (.iload_n 3, 1) := by decide +kernel
theorem dX8_voter_19 : decode cX8_voter 19 = .ok (.iconst 0, 1) := by decide +kernel
theorem dX8_voter_20 : decode cX8_voter 20 = .ok (.iload_n 2, 1) := by decide +kernel
theorem dX8_voter_21 : decode cX8_voter 21 = .ok (.iconst 2, 1) := by decide +kernel
theorem dX8_voter_22 : decode cX8_voter 22 = .ok (.if_icmp .ne 7, 3) := by decide +kernel
theorem dX8_voter_25 : decode cX8_voter 25 = .ok (.iconst 1, 1) := by decide +kernel
theorem dX8_voter_26 : decode cX8_voter 26 = .ok (.goto 5, 3) := by decide +kernel
theorem dX8_voter_29 : decode cX8_voter 29 = .ok (.bipush 120, 2) := by decide +kernel
theorem dX8_voter_31 : decode cX8_voter 31 = .ok (.invokestatic 37, 3) := by decide +kernel
theorem dX8_voter_34 : decode cX8_voter 34 = .ok (.ifCond .ne 6, 3) := by decide +kernel
theorem dX8_voter_37 : decode cX8_voter 37 = .ok (.bipush (-2), 2) := by decide +kernel
theorem dX8_voter_39 : decode cX8_voter 39 = .ok (.ireturn, 1) := by decide +kernel
theorem dX8_voter_40 : decode cX8_voter 40 = .ok (.aload_n 0, 1) := by decide +kernel
theorem dX8_voter_41 : decode cX8_voter 41 = .ok (.getfield 26, 3) := by decide +kernel
theorem dX8_voter_44 : decode cX8_voter 44 = .ok (.iload_n 1, 1) := by decide +kernel
theorem dX8_voter_45 : decode cX8_voter 45 = .ok (.iload_n 2, 1) := by decide +kernel
theorem dX8_voter_46 : decode cX8_voter 46 = .ok (.iload_n 3, 1) := by decide +kernel
theorem dX8_voter_47 : decode cX8_voter 47 = .ok (.invokevirtual 125, 3) := by decide +kernel
theorem dX8_voter_50 : decode cX8_voter 50 = .ok (.ireturn, 1) := by decide +kernel
set_option maxRecDepth 20000 in
theorem ggX8_say_X8_within : GoodIn wsX8_say wsX8_within := goodIn_r _ [5] (by decide +kernel) (by decide +kernel)
set_option maxRecDepth 20000 in
theorem gX8_say_X8_within : GoodIn wsX8_say (va_wsS RX8 37 yX8_within wsX8_within) := goodIn_app (goodIn_of _ (by decide +kernel)) ggX8_say_X8_within
set_option maxRecDepth 20000 in
theorem ggX8_say_X4_draft : GoodIn wsX8_say wsX4_draft := goodIn_r _ [10, 11, 27, 28, 29] (by decide +kernel) (by decide +kernel)
set_option maxRecDepth 20000 in
theorem gX8_say_X4_draft : GoodIn wsX8_say (wsV RX8 128 RX4 yX4_draft wsX4_draft) := goodIn_app (goodIn_of _ (by decide +kernel)) ggX8_say_X4_draft
set_option maxRecDepth 20000 in
theorem ggX8_say_X6_add : GoodIn wsX8_say wsX6_add := goodIn_r _ [16, 17, 18, 30, 31] (by decide +kernel) (by decide +kernel)
set_option maxRecDepth 20000 in
theorem gX8_say_X6_add : GoodIn wsX8_say (wsV RX8 132 RX6 yX6_add wsX6_add) := goodIn_app (goodIn_of _ (by decide +kernel)) ggX8_say_X6_add
set_option maxRecDepth 20000 in
theorem ggX8_say_X6_size : GoodIn wsX8_say wsX6_size := goodIn_r _ [22, 17, 30, 31] (by decide +kernel) (by decide +kernel)
set_option maxRecDepth 20000 in
theorem gX8_say_X6_size : GoodIn wsX8_say (wsV RX8 137 RX6 yX6_size wsX6_size) := goodIn_app (goodIn_of _ (by decide +kernel)) ggX8_say_X6_size
theorem dX8_say_0 : decode cX8_say 0 = .ok (.iload_n 1, 1) := by decide +kernel
theorem dX8_say_1 : decode cX8_say 1 = .ok (.bipush 33, 2) := by decide +kernel
theorem dX8_say_3 : decode cX8_say 3 = .ok (.bipush 126, 2) := by decide +kernel
theorem dX8_say_5 : decode cX8_say 5 = .ok (.invokestatic 37, 3) := by decide +kernel
theorem dX8_say_8 : decode cX8_say 8 = .ok (.ifCond .ne 6, 3) := by decide +kernel
theorem dX8_say_11 : decode cX8_say 11 = .ok (.bipush (-2), 2) := by decide +kernel
theorem dX8_say_13 : decode cX8_say 13 = .ok (.ireturn, 1) := by decide +kernel
theorem dX8_say_14 : decode cX8_say 14 = .ok (.aload_n 0, 1) := by decide +kernel
theorem dX8_say_15 : decode cX8_say 15 = .ok (.getfield 26, 3) := by decide +kernel
theorem dX8_say_18 : decode cX8_say 18 = .ok (.invokevirtual 128, 3) := by decide +kernel
theorem dX8_say_21 : decode cX8_say 21 = .ok (.iload_n 1, 1) := by decide +kernel
theorem dX8_say_22 : decode cX8_say 22 = .ok (.invokevirtual 132, 3) := by decide +kernel
theorem dX8_say_25 : decode cX8_say 25 = .ok (.ifCond .eq 16, 3) := by decide +kernel
theorem dX8_say_28 : decode cX8_say 28 = .ok (.aload_n 0, 1) := by decide +kernel
theorem dX8_say_29 : decode cX8_say 29 = .ok (.getfield 26, 3) := by decide +kernel
theorem dX8_say_32 : decode cX8_say 32 = .ok (.invokevirtual 128, 3) := by decide +kernel
theorem dX8_say_35 : decode cX8_say 35 = .ok (.invokevirtual 137, 3) := by decide +kernel
theorem dX8_say_38 : decode cX8_say 38 = .ok (.goto 5, 3) := by decide +kernel
theorem dX8_say_41 : decode cX8_say 41 = .ok (.bipush (-4), 2) := by decide +kernel
theorem dX8_say_43 : decode cX8_say 43 = .ok (.ireturn, 1) := by decide +kernel
set_option maxRecDepth 20000 in
theorem ggX8_wipe_X4_draft : GoodIn wsX8_wipe wsX4_draft := goodIn_r _ [6, 7, 22, 23, 24] (by decide +kernel) (by decide +kernel)
set_option maxRecDepth 20000 in
theorem gX8_wipe_X4_draft : GoodIn wsX8_wipe (wsV RX8 128 RX4 yX4_draft wsX4_draft) := goodIn_app (goodIn_of _ (by decide +kernel)) ggX8_wipe_X4_draft
set_option maxRecDepth 20000 in
theorem ggX8_wipe_X6_size : GoodIn wsX8_wipe wsX6_size := goodIn_r _ [12, 13, 25, 26] (by decide +kernel) (by decide +kernel)
set_option maxRecDepth 20000 in
theorem gX8_wipe_X6_size : GoodIn wsX8_wipe (wsV RX8 137 RX6 yX6_size wsX6_size) := goodIn_app (goodIn_of _ (by decide +kernel)) ggX8_wipe_X6_size
set_option maxRecDepth 20000 in
theorem ggX8_wipe_X6_clear : GoodIn wsX8_wipe wsX6_clear := goodIn_r _ [17, 13, 25, 26] (by decide +kernel) (by decide +kernel)
set_option maxRecDepth 20000 in
theorem gX8_wipe_X6_clear : GoodIn wsX8_wipe (wsV RX8 138 RX6 yX6_clear wsX6_clear) := goodIn_app (goodIn_of _ (by decide +kernel)) ggX8_wipe_X6_clear
theorem dX8_wipe_0 : decode cX8_wipe 0 = .ok (.aload_n 0, 1) := by decide +kernel
theorem dX8_wipe_1 : decode cX8_wipe 1 = .ok (.getfield 26, 3) := by decide +kernel
theorem dX8_wipe_4 : decode cX8_wipe 4 = .ok (.invokevirtual 128, 3) := by decide +kernel
theorem dX8_wipe_7 : decode cX8_wipe 7 = .ok (.invokevirtual 137, 3) := by decide +kernel
theorem dX8_wipe_10 : decode cX8_wipe 10 = .ok (.istore_n 1, 1) := by decide +kernel
theorem dX8_wipe_11 : decode cX8_wipe 11 = .ok (.aload_n 0, 1) := by decide +kernel
theorem dX8_wipe_12 : decode cX8_wipe 12 = .ok (.getfield 26, 3) := by decide +kernel
theorem dX8_wipe_15 : decode cX8_wipe 15 = .ok (.invokevirtual 128, 3) := by decide +kernel
theorem dX8_wipe_18 : decode cX8_wipe 18 = .ok (.invokevirtual 138, 3) := by decide +kernel
theorem dX8_wipe_21 : decode cX8_wipe 21 = .ok (.iload_n 1, 1) := by decide +kernel
theorem dX8_wipe_22 : decode cX8_wipe 22 = .ok (.ireturn, 1) := by decide +kernel
set_option maxRecDepth 20000 in
theorem ggX8_fault_X4_draft : GoodIn wsX8_fault wsX4_draft := goodIn_r _ [6, 7, 34, 35, 36] (by decide +kernel) (by decide +kernel)
set_option maxRecDepth 20000 in
theorem gX8_fault_X4_draft : GoodIn wsX8_fault (wsV RX8 128 RX4 yX4_draft wsX4_draft) := goodIn_app (goodIn_of _ (by decide +kernel)) ggX8_fault_X4_draft
set_option maxRecDepth 20000 in
theorem ggX8_fault_X6_faultPlace : GoodIn wsX8_fault wsX6_faultPlace := goodIn_r _ [12, 13, 14, 15, 16, 11, 17, 18, 19, 20, 21, 22, 23, 24, 25, 26, 27, 28, 29, 37, 38] (by decide +kernel) (by decide +kernel)
set_option maxRecDepth 20000 in
theorem gX8_fault_X6_faultPlace : GoodIn wsX8_fault (wsV RX8 141 RX6 yX6_faultPlace wsX6_faultPlace) := goodIn_app (goodIn_of _ (by decide +kernel)) ggX8_fault_X6_faultPlace
theorem dX8_fault_0 : decode cX8_fault 0 = .ok (.aload_n 0, 1) := by decide +kernel
theorem dX8_fault_1 : decode cX8_fault 1 = .ok (.getfield 26, 3) := by decide +kernel
theorem dX8_fault_4 : decode cX8_fault 4 = .ok (.invokevirtual 128, 3) := by decide +kernel
theorem dX8_fault_7 : decode cX8_fault 7 = .ok (.invokevirtual 141, 3) := by decide +kernel
theorem dX8_fault_10 : decode cX8_fault 10 = .ok (.ireturn, 1) := by decide +kernel
set_option maxRecDepth 20000 in
theorem ggX8_rule_X4_draft : GoodIn wsX8_rule wsX4_draft := goodIn_r _ [6, 7, 43, 44, 45] (by decide +kernel) (by decide +kernel)
set_option maxRecDepth 20000 in
theorem gX8_rule_X4_draft : GoodIn wsX8_rule (wsV RX8 128 RX4 yX4_draft wsX4_draft) := goodIn_app (goodIn_of _ (by decide +kernel)) ggX8_rule_X4_draft
set_option maxRecDepth 20000 in
theorem ggX8_rule_X6_faultPlace : GoodIn wsX8_rule wsX6_faultPlace := goodIn_r _ [12, 13, 14, 15, 16, 11, 17, 18, 19, 20, 21, 22, 23, 24, 25, 26, 27, 28, 29, 46, 47] (by decide +kernel) (by decide +kernel)
set_option maxRecDepth 20000 in
theorem gX8_rule_X6_faultPlace : GoodIn wsX8_rule (wsV RX8 141 RX6 yX6_faultPlace wsX6_faultPlace) := goodIn_app (goodIn_of _ (by decide +kernel)) ggX8_rule_X6_faultPlace
set_option maxRecDepth 20000 in
theorem ggX8_rule_X4_adoptDraft : GoodIn wsX8_rule wsX4_adoptDraft := goodIn_r _ [33, 34, 7, 35, 36, 37, 11, 38, 13, 43, 44, 45, 46, 47] (by decide +kernel) (by decide +kernel)
set_option maxRecDepth 20000 in
theorem gX8_rule_X4_adoptDraft : GoodIn wsX8_rule (wsV RX8 144 RX4 yX4_adoptDraft wsX4_adoptDraft) := goodIn_app (goodIn_of _ (by decide +kernel)) ggX8_rule_X4_adoptDraft
theorem dX8_rule_0 : decode cX8_rule 0 = .ok (.aload_n 0, 1) := by decide +kernel
theorem dX8_rule_1 : decode cX8_rule 1 = .ok (.getfield 26, 3) := by decide +kernel
theorem dX8_rule_4 : decode cX8_rule 4 = .ok (.invokevirtual 128, 3) := by decide +kernel
theorem dX8_rule_7 : decode cX8_rule 7 = .ok (.invokevirtual 141, 3) := by decide +kernel
theorem dX8_rule_10 : decode cX8_rule 10 = .ok (.bipush (-6), 2) := by decide +kernel
theorem dX8_rule_12 : decode cX8_rule 12 = .ok (.if_icmp .eq 6, 3) := by decide +kernel
theorem dX8_rule_15 : decode cX8_rule 15 = .ok (.bipush (-5), 2) := by decide +kernel
theorem dX8_rule_17 : decode cX8_rule 17 = .ok (.ireturn, 1) := by decide +kernel
theorem dX8_rule_18 : decode cX8_rule 18 = .ok (.aload_n 0, 1) := by decide +kernel
theorem dX8_rule_19 : decode cX8_rule 19 = .ok (.getfield 26, 3) := by decide +kernel
theorem dX8_rule_22 : decode cX8_rule 22 = .ok (.invokevirtual 144, 3) := by decide +kernel
theorem dX8_rule_25 : decode cX8_rule 25 = .ok (.iconst 1, 1) := by decide +kernel
theorem dX8_rule_26 : decode cX8_rule 26 = .ok (.ireturn, 1) := by decide +kernel
set_option maxRecDepth 20000 in
theorem ggX8_may_X8_isVoter : GoodIn wsX8_may wsX8_isVoter := goodIn_r _ [5, 6, 7, 4, 8] (by decide +kernel) (by decide +kernel)
set_option maxRecDepth 20000 in
theorem gX8_may_X8_isVoter : GoodIn wsX8_may (va_wsS RX8 122 yX8_isVoter wsX8_isVoter) := goodIn_app (goodIn_of _ (by decide +kernel)) ggX8_may_X8_isVoter
set_option maxRecDepth 20000 in
theorem ggX8_may_X4_allows : GoodIn wsX8_may wsX4_allows := goodIn_r _ [13, 14, 15, 16, 17, 12, 18, 19, 20, 21, 22, 23, 24, 25, 26, 27, 28, 29, 30, 31, 32, 33, 34, 35, 36, 37, 38, 43, 44, 45, 46, 47] (by decide +kernel) (by decide +kernel)
set_option maxRecDepth 20000 in
theorem gX8_may_X4_allows : GoodIn wsX8_may (wsV RX8 147 RX4 yX4_allows wsX4_allows) := goodIn_app (goodIn_of _ (by decide +kernel)) ggX8_may_X4_allows
theorem dX8_may_0 : decode cX8_may 0 = .ok (.iload_n 1, 1) := by decide +kernel
theorem dX8_may_1 : decode cX8_may 1 = .ok (.invokestatic 122, 3) := by decide +kernel
theorem dX8_may_4 : decode cX8_may 4 = .ok (.ifCond .ne 5, 3) := by decide +kernel
theorem dX8_may_7 : decode cX8_may 7 = .ok (.iconst (-1), 1) := by decide +kernel
theorem dX8_may_8 : decode cX8_may 8 = .ok (.ireturn, 1) := by decide +kernel
theorem dX8_may_9 : decode cX8_may 9 = .ok (.aload_n 0, 1) := by decide +kernel
theorem dX8_may_10 : decode cX8_may 10 = .ok (.getfield 26, 3) := by decide +kernel
theorem dX8_may_13 : decode cX8_may 13 = .ok (.iload_n 1, 1) := by decide +kernel
theorem dX8_may_14 : decode cX8_may 14 = .ok (.invokevirtual 147, 3) := by decide +kernel
theorem dX8_may_17 : decode cX8_may 17 = .ok (.ifCond .eq 7, 3) := by decide +kernel
theorem dX8_may_20 : decode cX8_may 20 = .ok (.iconst 1, 1) := by decide +kernel
theorem dX8_may_21 : decode cX8_may 21 = .ok (.goto 4, 3) := by decide +kernel
theorem dX8_may_24 : decode cX8_may 24 = .ok (.iconst 0, 1) := by decide +kernel
theorem dX8_may_25 : decode cX8_may 25 = .ok (.ireturn, 1) := by decide +kernel
set_option maxRecDepth 20000 in
theorem ggX8_close_X8_within : GoodIn wsX8_close wsX8_within := goodIn_r _ [5] (by decide +kernel) (by decide +kernel)
set_option maxRecDepth 20000 in
theorem gX8_close_X8_within : GoodIn wsX8_close (va_wsS RX8 37 yX8_within wsX8_within) := goodIn_app (goodIn_of _ (by decide +kernel)) ggX8_close_X8_within
set_option maxRecDepth 20000 in
theorem ggX8_close_X7_changeClose : GoodIn wsX8_close wsX7_changeClose := goodIn_r _ [10, 11, 16, 17, 18, 19, 20] (by decide +kernel) (by decide +kernel)
set_option maxRecDepth 20000 in
theorem gX8_close_X7_changeClose : GoodIn wsX8_close (wsV RX8 150 RX7 yX7_changeClose wsX7_changeClose) := goodIn_app (goodIn_of _ (by decide +kernel)) ggX8_close_X7_changeClose
theorem dX8_close_0 : decode cX8_close 0 = .ok (.iload_n 1, 1) := by decide +kernel
theorem dX8_close_1 : decode cX8_close 1 = .ok (.iconst 0, 1) := by decide +kernel
theorem dX8_close_2 : decode cX8_close 2 = .ok (.sipush 999, 3) := by decide +kernel
theorem dX8_close_5 : decode cX8_close 5 = .ok (.invokestatic 37, 3) := by decide +kernel
theorem dX8_close_8 : decode cX8_close 8 = .ok (.ifCond .ne 6, 3) := by decide +kernel
theorem dX8_close_11 : decode cX8_close 11 = .ok (.bipush (-2), 2) := by decide +kernel
theorem dX8_close_13 : decode cX8_close 13 = .ok (.ireturn, 1) := by decide +kernel
theorem dX8_close_14 : decode cX8_close 14 = .ok (.aload_n 0, 1) := by decide +kernel
theorem dX8_close_15 : decode cX8_close 15 = .ok (.getfield 33, 3) := by decide +kernel
theorem dX8_close_18 : decode cX8_close 18 = .ok (.iload_n 1, 1) := by decide +kernel
theorem dX8_close_19 : decode cX8_close 19 = .ok (.invokevirtual 150, 3) := by decide +kernel
theorem dX8_close_22 : decode cX8_close 22 = .ok (.ireturn, 1) := by decide +kernel
set_option maxRecDepth 20000 in
theorem ggX8_row_X8_isVoter : GoodIn wsX8_row wsX8_isVoter := goodIn_r _ [10, 11, 12, 9, 13] (by decide +kernel) (by decide +kernel)
set_option maxRecDepth 20000 in
theorem gX8_row_X8_isVoter : GoodIn wsX8_row (va_wsS RX8 122 yX8_isVoter wsX8_isVoter) := goodIn_app (goodIn_of _ (by decide +kernel)) ggX8_row_X8_isVoter
set_option maxRecDepth 20000 in
theorem ggX8_row_X8_isRowNumber : GoodIn wsX8_row wsX8_isRowNumber := goodIn_r _ [16, 17, 11, 12, 9, 13] (by decide +kernel) (by decide +kernel)
set_option maxRecDepth 20000 in
theorem gX8_row_X8_isRowNumber : GoodIn wsX8_row (va_wsS RX8 153 yX8_isRowNumber wsX8_isRowNumber) := goodIn_app (goodIn_of _ (by decide +kernel)) ggX8_row_X8_isRowNumber
set_option maxRecDepth 20000 in
theorem ggX8_row_X8_within : GoodIn wsX8_row wsX8_within := goodIn_r _ [13] (by decide +kernel) (by decide +kernel)
set_option maxRecDepth 20000 in
theorem gX8_row_X8_within : GoodIn wsX8_row (va_wsS RX8 37 yX8_within wsX8_within) := goodIn_app (goodIn_of _ (by decide +kernel)) ggX8_row_X8_within
set_option maxRecDepth 20000 in
theorem ggX8_row_X7_isFull : GoodIn wsX8_row wsX7_isFull := goodIn_r _ [22, 23, 24, 106, 107, 108, 109, 110] (by decide +kernel) (by decide +kernel)
set_option maxRecDepth 20000 in
theorem gX8_row_X7_isFull : GoodIn wsX8_row (wsV RX8 156 RX7 yX7_isFull wsX7_isFull) := goodIn_app (goodIn_of _ (by decide +kernel)) ggX8_row_X7_isFull
set_option maxRecDepth 20000 in
theorem ggX8_row_X3_become : GoodIn wsX8_row wsX3_become := goodIn_r _ [29, 30, 31, 32, 33, 111, 112, 113, 114] (by decide +kernel) (by decide +kernel)
set_option maxRecDepth 20000 in
theorem gX8_row_X3_become : GoodIn wsX8_row (wsV RX8 117 RX3 yX3_become wsX3_become) := goodIn_app (goodIn_of _ (by decide +kernel)) ggX8_row_X3_become
set_option maxRecDepth 20000 in
theorem ggX8_row_X3_holds : GoodIn wsX8_row wsX3_holds := goodIn_r _ [37, 30, 31, 32, 33, 38, 39, 40, 41, 42, 9, 43, 11, 12, 13, 44, 45, 46, 47, 48, 49, 50, 51, 52, 53, 54, 55, 56, 28, 57, 58, 59, 60, 61, 62, 63, 64, 65, 66, 67, 68, 69, 70, 71, 72, 73, 74, 75, 76, 77, 78, 79, 111, 112, 113, 114, 115, 116, 117, 118, 119] (by decide +kernel) (by decide +kernel)
set_option maxRecDepth 20000 in
theorem gX8_row_X3_holds : GoodIn wsX8_row (wsV RX8 118 RX3 yX3_holds wsX3_holds) := goodIn_app (goodIn_of _ (by decide +kernel)) ggX8_row_X3_holds
set_option maxRecDepth 20000 in
theorem ggX8_row_X5_init : GoodIn wsX8_row wsX5_init := goodIn_r _ [82, 83, 84, 85, 86, 87, 88, 89, 90, 91, 100, 101, 102, 103, 104, 105] (by decide +kernel) (by decide +kernel)
set_option maxRecDepth 20000 in
theorem gX8_row_X5_init : GoodIn wsX8_row (wsX5_init) := ggX8_row_X5_init
set_option maxRecDepth 20000 in
theorem ggX8_row_X7_add : GoodIn wsX8_row wsX7_add := goodIn_r _ [95, 23, 24, 106, 107, 108, 109, 110] (by decide +kernel) (by decide +kernel)
set_option maxRecDepth 20000 in
theorem gX8_row_X7_add : GoodIn wsX8_row (wsV RX8 165 RX7 yX7_add wsX7_add) := goodIn_app (goodIn_of _ (by decide +kernel)) ggX8_row_X7_add
theorem dX8_row_0 : decode cX8_row 0 = .ok (.iload_n 1, 1) := by decide +kernel
theorem dX8_row_1 : decode cX8_row 1 = .ok (.invokestatic 122, 3) := by decide +kernel
theorem dX8_row_4 : decode cX8_row 4 = .ok (.ifCond .ne 5, 3) := by decide +kernel
theorem dX8_row_7 : decode cX8_row 7 = .ok (.iconst (-1), 1) := by decide +kernel
theorem dX8_row_8 : decode cX8_row 8 = .ok (.ireturn, 1) := by decide +kernel
theorem dX8_row_9 : decode cX8_row 9 = .ok (.iload_n 2, 1) := by decide +kernel
theorem dX8_row_10 : decode cX8_row 10 = .ok (.invokestatic 153, 3) := by decide +kernel
theorem dX8_row_13 : decode cX8_row 13 = .ok (.ifCond .eq 22, 3) := by decide +kernel
theorem dX8_row_16 : decode cX8_row 16 = .ok (.iload_n 3, 1) := by decide +kernel
theorem dX8_row_17 : decode cX8_row 17 = .ok (.invokestatic 153, 3) := by decide +kernel
theorem dX8_row_20 : decode cX8_row 20 = .ok (.ifCond .eq 15, 3) := by decide +kernel
theorem dX8_row_23 : decode cX8_row 23 = .ok (.iload 4, 2) := by decide +kernel
theorem dX8_row_25 : decode cX8_row 25 = .ok (.iconst 0, 1) := by decide +kernel
theorem dX8_row_26 : decode cX8_row 26 = .ok (.sipush 999, 3) := by decide +kernel
theorem dX8_row_29 : decode cX8_row 29 = .ok (.invokestatic 37, 3) := by decide +kernel
theorem dX8_row_32 : decode cX8_row 32 = .ok (.ifCond .ne 6, 3) := by decide +kernel
theorem dX8_row_35 : decode cX8_row 35 = .ok (.bipush (-2), 2) := by decide +kernel
theorem dX8_row_37 : decode cX8_row 37 = .ok (.ireturn, 1) := by decide +kernel
theorem dX8_row_38 : decode cX8_row 38 = .ok (.aload_n 0, 1) := by decide +kernel
theorem dX8_row_39 : decode cX8_row 39 = .ok (.getfield 33, 3) := by decide +kernel
theorem dX8_row_42 : decode cX8_row 42 = .ok (.invokevirtual 156, 3) := by decide +kernel
theorem dX8_row_45 : decode cX8_row 45 = .ok (.ifCond .eq 6, 3) := by decide +kernel
theorem dX8_row_48 : decode cX8_row 48 = .ok (.bipush (-4), 2) := by decide +kernel
theorem dX8_row_50 : decode cX8_row 50 = .ok (.ireturn, 1) := by decide +kernel
theorem dX8_row_51 : decode cX8_row 51 = .ok (.aload_n 0, 1) := by decide +kernel
theorem dX8_row_52 : decode cX8_row 52 = .ok (.getfield 19, 3) := by decide +kernel
theorem dX8_row_55 : decode cX8_row 55 = .ok (.iconst 0, 1) := by decide +kernel
theorem dX8_row_56 : decode cX8_row 56 = .ok (.iconst 0, 1) := by decide +kernel
theorem dX8_row_57 : decode cX8_row 57 = .ok (.iconst 0, 1) := by decide +kernel
theorem dX8_row_58 : decode cX8_row 58 = .ok (.iconst 0, 1) := by decide +kernel
theorem dX8_row_59 : decode cX8_row 59 = .ok (.invokevirtual 117, 3) := by decide +kernel
theorem dX8_row_62 : decode cX8_row 62 = .ok (.aload_n 0, 1) := by decide +kernel
theorem dX8_row_63 : decode cX8_row 63 = .ok (.getfield 33, 3) := by decide +kernel
theorem dX8_row_66 : decode cX8_row 66 = .ok (.new 160, 3) := by decide +kernel
theorem dX8_row_69 : decode cX8_row 69 = .ok (.dup, 1) := by decide +kernel
theorem dX8_row_70 : decode cX8_row 70 = .ok (.iload_n 1, 1) := by decide +kernel
theorem dX8_row_71 : decode cX8_row 71 = .ok (.iload_n 2, 1) := by decide +kernel
theorem dX8_row_72 : decode cX8_row 72 = .ok (.iload_n 3, 1) := by decide +kernel
theorem dX8_row_73 : decode cX8_row 73 = .ok (.iload 4, 2) := by decide +kernel
theorem dX8_row_75 : decode cX8_row 75 = .ok (.aload_n 0, 1) := by decide +kernel
theorem dX8_row_76 : decode cX8_row 76 = .ok (.getfield 19, 3) := by decide +kernel
theorem dX8_row_79 : decode cX8_row 79 = .ok (.aload_n 0, 1) := by decide +kernel
theorem dX8_row_80 : decode cX8_row 80 = .ok (.getfield 10, 3) := by decide +kernel
theorem dX8_row_83 : decode cX8_row 83 = .ok (.iload_n 2, 1) := by decide +kernel
theorem dX8_row_84 : decode cX8_row 84 = .ok (.iload_n 3, 1) := by decide +kernel
theorem dX8_row_85 : decode cX8_row 85 = .ok (.invokevirtual 118, 3) := by decide +kernel
theorem dX8_row_88 : decode cX8_row 88 = .ok (.iconst 0, 1) := by decide +kernel
theorem dX8_row_89 : decode cX8_row 89 = .ok (.invokespecial 162, 3) := by decide +kernel
theorem dX8_row_92 : decode cX8_row 92 = .ok (.invokevirtual 165, 3) := by decide +kernel
theorem dX8_row_95 : decode cX8_row 95 = .ok (.ireturn, 1) := by decide +kernel
set_option maxRecDepth 20000 in
theorem ggX8_attach_X7_at : GoodIn wsX8_attach wsX7_at := goodIn_r _ [12, 13, 14, 88, 89, 90, 91, 92] (by decide +kernel) (by decide +kernel)
set_option maxRecDepth 20000 in
theorem gX8_attach_X7_at : GoodIn wsX8_attach (wsV RX8 168 RX7 yX7_at wsX7_at) := goodIn_app (goodIn_of _ (by decide +kernel)) ggX8_attach_X7_at
set_option maxRecDepth 20000 in
theorem ggX8_attach_X8_isRowNumber : GoodIn wsX8_attach wsX8_isRowNumber := goodIn_r _ [18, 19, 20, 21, 17, 22] (by decide +kernel) (by decide +kernel)
set_option maxRecDepth 20000 in
theorem gX8_attach_X8_isRowNumber : GoodIn wsX8_attach (va_wsS RX8 153 yX8_isRowNumber wsX8_isRowNumber) := goodIn_app (goodIn_of _ (by decide +kernel)) ggX8_attach_X8_isRowNumber
set_option maxRecDepth 20000 in
theorem ggX8_attach_X3_become : GoodIn wsX8_attach wsX3_become := goodIn_r _ [27, 28, 29, 30, 31, 93, 94, 95, 96] (by decide +kernel) (by decide +kernel)
set_option maxRecDepth 20000 in
theorem gX8_attach_X3_become : GoodIn wsX8_attach (wsV RX8 117 RX3 yX3_become wsX3_become) := goodIn_app (goodIn_of _ (by decide +kernel)) ggX8_attach_X3_become
set_option maxRecDepth 20000 in
theorem ggX8_attach_X3_holds : GoodIn wsX8_attach wsX3_holds := goodIn_r _ [35, 28, 29, 30, 31, 36, 37, 38, 39, 40, 17, 41, 20, 21, 22, 42, 43, 44, 45, 46, 47, 48, 49, 50, 51, 52, 53, 54, 26, 55, 56, 57, 58, 59, 60, 61, 62, 63, 64, 65, 66, 67, 68, 69, 70, 71, 72, 73, 74, 75, 76, 77, 93, 94, 95, 96, 97, 98, 99, 100, 101] (by decide +kernel) (by decide +kernel)
set_option maxRecDepth 20000 in
theorem gX8_attach_X3_holds : GoodIn wsX8_attach (wsV RX8 118 RX3 yX3_holds wsX3_holds) := goodIn_app (goodIn_of _ (by decide +kernel)) ggX8_attach_X3_holds
theorem dX8_attach_0 : decode cX8_attach 0 = .ok (.aload_n 0, 1) := by decide +kernel
theorem dX8_attach_1 : decode cX8_attach 1 = .ok (.getfield 33, 3) := by decide +kernel
theorem dX8_attach_4 : decode cX8_attach 4 = .ok (.iload_n 1, 1) := by decide +kernel
theorem dX8_attach_5 : decode cX8_attach 5 = .ok (.invokevirtual 168, 3) := by decide +kernel
theorem dX8_attach_8 : decode cX8_attach 8 = .ok (.astore 6, 2) := by decide +kernel
theorem dX8_attach_10 : decode cX8_attach 10 = .ok (.aload 6, 2) := by decide +kernel
theorem dX8_attach_12 : decode cX8_attach 12 = .ok (.ifnonnull 5, 3) := by decide +kernel
theorem dX8_attach_15 : decode cX8_attach 15 = .ok (.iconst (-1), 1) := by decide +kernel
theorem dX8_attach_16 : decode cX8_attach 16 = .ok (.ireturn, 1) := by decide +kernel
theorem dX8_attach_17 : decode cX8_attach 17 = .ok (.iload_n 2, 1) := by decide +kernel
theorem dX8_attach_18 : decode cX8_attach 18 = .ok (.invokestatic 153, 3) := by decide +kernel
theorem dX8_attach_21 : decode cX8_attach 21 = .ok (.ifCond .eq 26, 3) := by decide +kernel
theorem dX8_attach_24 : decode cX8_attach 24 = .ok (.iload_n 3, 1) := by decide +kernel
theorem dX8_attach_25 : decode cX8_attach 25 = .ok (.invokestatic 153, 3) := by decide +kernel
theorem dX8_attach_28 : decode cX8_attach 28 = .ok (.ifCond .eq 19, 3) := by decide +kernel
theorem dX8_attach_31 : decode cX8_attach 31 = .ok (.iload 4, 2) := by decide +kernel
theorem dX8_attach_33 : decode cX8_attach 33 = .ok (.invokestatic 153, 3) := by decide +kernel
theorem dX8_attach_36 : decode cX8_attach 36 = .ok (.ifCond .eq 11, 3) := by decide +kernel
theorem dX8_attach_39 : decode cX8_attach 39 = .ok (.iload 5, 2) := by decide +kernel
theorem dX8_attach_41 : decode cX8_attach 41 = .ok (.invokestatic 153, 3) := by decide +kernel
theorem dX8_attach_44 : decode cX8_attach 44 = .ok (.ifCond .ne 6, 3) := by decide +kernel
theorem dX8_attach_47 : decode cX8_attach 47 = .ok (.bipush (-2), 2) := by decide +kernel
theorem dX8_attach_49 : decode cX8_attach 49 = .ok (.ireturn, 1) := by decide +kernel
theorem dX8_attach_50 : decode cX8_attach 50 = .ok (.aload 6, 2) := by decide +kernel
theorem dX8_attach_52 : decode cX8_attach 52 = .ok (.getfield 172, 3) := by decide +kernel
theorem dX8_attach_55 : decode cX8_attach 55 = .ok (.ifCond .eq 6, 3) := by decide +kernel
theorem dX8_attach_58 : decode cX8_attach 58 = .ok (.bipush (-3), 2) := by decide +kernel
theorem dX8_attach_60 : decode cX8_attach 60 = .ok (.ireturn, 1) := by decide +kernel
theorem dX8_attach_61 : decode cX8_attach 61 = .ok (.aload_n 0, 1) := by decide +kernel
theorem dX8_attach_62 : decode cX8_attach 62 = .ok (.getfield 19, 3) := by decide +kernel
theorem dX8_attach_65 : decode cX8_attach 65 = .ok (.iload_n 2, 1) := by decide +kernel
theorem dX8_attach_66 : decode cX8_attach 66 = .ok (.iload_n 3, 1) := by decide +kernel
theorem dX8_attach_67 : decode cX8_attach 67 = .ok (.iload 4, 2) := by decide +kernel
theorem dX8_attach_69 : decode cX8_attach 69 = .ok (.iload 5, 2) := by decide +kernel
theorem dX8_attach_71 : decode cX8_attach 71 = .ok (.invokevirtual 117, 3) := by decide +kernel
theorem dX8_attach_74 : decode cX8_attach 74 = .ok (.aload 6, 2) := by decide +kernel
theorem dX8_attach_76 : decode cX8_attach 76 = .ok (.aload_n 0, 1) := by decide +kernel
theorem dX8_attach_77 : decode cX8_attach 77 = .ok (.getfield 19, 3) := by decide +kernel
theorem dX8_attach_80 : decode cX8_attach 80 = .ok (.aload_n 0, 1) := by decide +kernel
theorem dX8_attach_81 : decode cX8_attach 81 = .ok (.getfield 10, 3) := by decide +kernel
theorem dX8_attach_84 : decode cX8_attach 84 = .ok (.aload 6, 2) := by decide +kernel
theorem dX8_attach_86 : decode cX8_attach 86 = .ok (.getfield 176, 3) := by decide +kernel
theorem dX8_attach_89 : decode cX8_attach 89 = .ok (.aload 6, 2) := by decide +kernel
theorem dX8_attach_91 : decode cX8_attach 91 = .ok (.getfield 180, 3) := by decide +kernel
theorem dX8_attach_94 : decode cX8_attach 94 = .ok (.invokevirtual 118, 3) := by decide +kernel
theorem dX8_attach_97 : decode cX8_attach 97 = .ok (.putfield 183, 3) := by decide +kernel
theorem dX8_attach_100 : decode cX8_attach 100 = .ok (.aload 6, 2) := by decide +kernel
theorem dX8_attach_102 : decode cX8_attach 102 = .ok (.iconst 1, 1) := by decide +kernel
theorem dX8_attach_103 : decode cX8_attach 103 = .ok (.putfield 172, 3) := by decide +kernel
theorem dX8_attach_106 : decode cX8_attach 106 = .ok (.iconst 1, 1) := by decide +kernel
theorem dX8_attach_107 : decode cX8_attach 107 = .ok (.ireturn, 1) := by decide +kernel
set_option maxRecDepth 20000 in
theorem ggX8_cast_X8_isVoter : GoodIn wsX8_cast wsX8_isVoter := goodIn_r _ [10, 11, 12, 9, 13] (by decide +kernel) (by decide +kernel)
set_option maxRecDepth 20000 in
theorem gX8_cast_X8_isVoter : GoodIn wsX8_cast (va_wsS RX8 122 yX8_isVoter wsX8_isVoter) := goodIn_app (goodIn_of _ (by decide +kernel)) ggX8_cast_X8_isVoter
set_option maxRecDepth 20000 in
theorem ggX8_cast_X8_within : GoodIn wsX8_cast wsX8_within := goodIn_r _ [13] (by decide +kernel) (by decide +kernel)
set_option maxRecDepth 20000 in
theorem gX8_cast_X8_within : GoodIn wsX8_cast (va_wsS RX8 37 yX8_within wsX8_within) := goodIn_app (goodIn_of _ (by decide +kernel)) ggX8_cast_X8_within
set_option maxRecDepth 20000 in
theorem ggX8_cast_X8_areLots : GoodIn wsX8_cast wsX8_areLots := goodIn_r _ [16, 17, 18, 9, 19, 11, 12, 13] (by decide +kernel) (by decide +kernel)
set_option maxRecDepth 20000 in
theorem gX8_cast_X8_areLots : GoodIn wsX8_cast (va_wsS RX8 106 yX8_areLots wsX8_areLots) := goodIn_app (goodIn_of _ (by decide +kernel)) ggX8_cast_X8_areLots
set_option maxRecDepth 20000 in
theorem ggX8_cast_X7_isFull : GoodIn wsX8_cast wsX7_isFull := goodIn_r _ [24, 25, 26, 115, 116, 117, 118, 119] (by decide +kernel) (by decide +kernel)
set_option maxRecDepth 20000 in
theorem gX8_cast_X7_isFull : GoodIn wsX8_cast (wsV RX8 156 RX7 yX7_isFull wsX7_isFull) := goodIn_app (goodIn_of _ (by decide +kernel)) ggX8_cast_X7_isFull
set_option maxRecDepth 20000 in
theorem ggX8_cast_X2_ofG : GoodIn wsX8_cast wsX2_ofG := goodIn_r _ [30, 31, 32, 29, 33] (by decide +kernel) (by decide +kernel)
set_option maxRecDepth 20000 in
theorem gX8_cast_X2_ofG : GoodIn wsX8_cast (va_wsS RX8 63 yX2_ofG wsX2_ofG) := goodIn_app (goodIn_of _ (by decide +kernel)) ggX8_cast_X2_ofG
set_option maxRecDepth 20000 in
theorem ggX8_cast_X0_sealedB : GoodIn wsX8_cast wsX0_sealedB := goodIn_r _ [38, 39, 40, 41, 29, 42, 31, 32, 33, 43, 28, 30, 120, 121, 122, 123, 124] (by decide +kernel) (by decide +kernel)
set_option maxRecDepth 20000 in
theorem gX8_cast_X0_sealedB : GoodIn wsX8_cast (wsV RX8 68 RX0 yX0_sealedB wsX0_sealedB) := goodIn_app (goodIn_of _ (by decide +kernel)) ggX8_cast_X0_sealedB
set_option maxRecDepth 20000 in
theorem ggX8_cast_X3_make : GoodIn wsX8_cast wsX3_make := goodIn_r _ [48, 49, 28, 29, 30, 31, 32, 33, 50, 35, 36, 37, 38, 39, 40, 41, 42, 43, 51, 52, 53, 54, 55, 56, 57, 47, 58, 59, 60, 61, 62, 63, 64, 65, 66, 67, 68, 69, 70, 71, 72, 73, 74, 75, 76, 77, 78, 120, 121, 122, 123, 124, 125, 126, 127, 128] (by decide +kernel) (by decide +kernel)
set_option maxRecDepth 20000 in
theorem gX8_cast_X3_make : GoodIn wsX8_cast (wsV RX8 110 RX3 yX3_make wsX3_make) := goodIn_app (goodIn_of _ (by decide +kernel)) ggX8_cast_X3_make
set_option maxRecDepth 20000 in
theorem ggX8_cast_X3_holds : GoodIn wsX8_cast wsX3_holds := goodIn_r _ [82, 75, 76, 77, 78, 83, 84, 29, 85, 86, 9, 87, 11, 12, 13, 88, 41, 42, 31, 32, 33, 15, 16, 17, 18, 19, 68, 69, 47, 70, 56, 57, 58, 49, 28, 30, 55, 59, 60, 61, 62, 63, 64, 65, 66, 67, 51, 52, 53, 37, 54, 39, 125, 126, 127, 128, 120, 121, 122, 123, 124] (by decide +kernel) (by decide +kernel)
set_option maxRecDepth 20000 in
theorem gX8_cast_X3_holds : GoodIn wsX8_cast (wsV RX8 118 RX3 yX3_holds wsX3_holds) := goodIn_app (goodIn_of _ (by decide +kernel)) ggX8_cast_X3_holds
set_option maxRecDepth 20000 in
theorem ggX8_cast_X5_init : GoodIn wsX8_cast wsX5_init := goodIn_r _ [91, 92, 93, 94, 95, 96, 97, 98, 99, 100, 109, 110, 111, 112, 113, 114] (by decide +kernel) (by decide +kernel)
set_option maxRecDepth 20000 in
theorem gX8_cast_X5_init : GoodIn wsX8_cast (wsX5_init) := ggX8_cast_X5_init
set_option maxRecDepth 20000 in
theorem ggX8_cast_X7_add : GoodIn wsX8_cast wsX7_add := goodIn_r _ [104, 25, 26, 115, 116, 117, 118, 119] (by decide +kernel) (by decide +kernel)
set_option maxRecDepth 20000 in
theorem gX8_cast_X7_add : GoodIn wsX8_cast (wsV RX8 165 RX7 yX7_add wsX7_add) := goodIn_app (goodIn_of _ (by decide +kernel)) ggX8_cast_X7_add
theorem dX8_cast_0 : decode cX8_cast 0 = .ok (.iload_n 1, 1) := by decide +kernel
theorem dX8_cast_1 : decode cX8_cast 1 = .ok (.invokestatic 122, 3) := by decide +kernel
theorem dX8_cast_4 : decode cX8_cast 4 = .ok (.ifCond .ne 5, 3) := by decide +kernel
theorem dX8_cast_7 : decode cX8_cast 7 = .ok (.iconst (-1), 1) := by decide +kernel
theorem dX8_cast_8 : decode cX8_cast 8 = .ok (.ireturn, 1) := by decide +kernel
theorem dX8_cast_9 : decode cX8_cast 9 = .ok (.iload_n 2, 1) := by decide +kernel
theorem dX8_cast_10 : decode cX8_cast 10 = .ok (.iconst 0, 1) := by decide +kernel
theorem dX8_cast_11 : decode cX8_cast 11 = .ok (.iconst 1, 1) := by decide +kernel
theorem dX8_cast_12 : decode cX8_cast 12 = .ok (.invokestatic 37, 3) := by decide +kernel
theorem dX8_cast_15 : decode cX8_cast 15 = .ok (.ifCond .eq 28, 3) := by decide +kernel
theorem dX8_cast_18 : decode cX8_cast 18 = .ok (.iload_n 3, 1) := by decide +kernel
theorem dX8_cast_19 : decode cX8_cast 19 = .ok (.iconst 0, 1) := by decide +kernel
theorem dX8_cast_20 : decode cX8_cast 20 = .ok (.sipush 999, 3) := by decide +kernel
theorem dX8_cast_23 : decode cX8_cast 23 = .ok (.invokestatic 37, 3) := by decide +kernel
theorem dX8_cast_26 : decode cX8_cast 26 = .ok (.ifCond .eq 17, 3) := by decide +kernel
theorem dX8_cast_29 : decode cX8_cast 29 = .ok (.iload 4, 2) := by decide +kernel
theorem dX8_cast_31 : decode cX8_cast 31 = .ok (.iload 5, 2) := by decide +kernel
theorem dX8_cast_33 : decode cX8_cast 33 = .ok (.iload 6, 2) := by decide +kernel
theorem dX8_cast_35 : decode cX8_cast 35 = .ok (.iload 7, 2) := by decide +kernel
theorem dX8_cast_37 : decode cX8_cast 37 = .ok (.invokestatic 106, 3) := by decide +kernel
theorem dX8_cast_40 : decode cX8_cast 40 = .ok (.ifCond .ne 6, 3) := by decide +kernel
theorem dX8_cast_43 : decode cX8_cast 43 = .ok (.bipush (-2), 2) := by decide +kernel
theorem dX8_cast_45 : decode cX8_cast 45 = .ok (.ireturn, 1) := by decide +kernel
theorem dX8_cast_46 : decode cX8_cast 46 = .ok (.aload_n 0, 1) := by decide +kernel
theorem dX8_cast_47 : decode cX8_cast 47 = .ok (.getfield 33, 3) := by decide +kernel
theorem dX8_cast_50 : decode cX8_cast 50 = .ok (.invokevirtual 156, 3) := by decide +kernel
theorem dX8_cast_53 : decode cX8_cast 53 = .ok (.ifCond .eq 6, 3) := by decide +kernel
theorem dX8_cast_56 : decode cX8_cast 56 = .ok (.bipush (-4), 2) := by decide +kernel
theorem dX8_cast_58 : decode cX8_cast 58 = .ok (.ireturn, 1) := by decide +kernel
theorem dX8_cast_59 : decode cX8_cast 59 = .ok (.iload 4, 2) := by decide +kernel
theorem dX8_cast_61 : decode cX8_cast 61 = .ok (.invokestatic 63, 3) := by decide +kernel
theorem dX8_cast_64 : decode cX8_cast 64 = .ok (.istore 8, 2) := by decide +kernel
theorem dX8_cast_66 : decode cX8_cast 66 = .ok (.aload_n 0, 1) := by decide +kernel
theorem dX8_cast_67 : decode cX8_cast 67 = .ok (.getfield 10, 3) := by decide +kernel
theorem dX8_cast_70 : decode cX8_cast 70 = .ok (.iload_n 2, 1) := by decide +kernel
theorem dX8_cast_71 : decode cX8_cast 71 = .ok (.iload 4, 2) := by decide +kernel
theorem dX8_cast_73 : decode cX8_cast 73 = .ok (.invokevirtual 68, 3) := by decide +kernel
theorem dX8_cast_76 : decode cX8_cast 76 = .ok (.istore 9, 2) := by decide +kernel
theorem dX8_cast_78 : decode cX8_cast 78 = .ok (.aload_n 0, 1) := by decide +kernel
theorem dX8_cast_79 : decode cX8_cast 79 = .ok (.getfield 19, 3) := by decide +kernel
theorem dX8_cast_82 : decode cX8_cast 82 = .ok (.aload_n 0, 1) := by decide +kernel
theorem dX8_cast_83 : decode cX8_cast 83 = .ok (.getfield 10, 3) := by decide +kernel
theorem dX8_cast_86 : decode cX8_cast 86 = .ok (.iload_n 2, 1) := by decide +kernel
theorem dX8_cast_87 : decode cX8_cast 87 = .ok (.iload 4, 2) := by decide +kernel
theorem dX8_cast_89 : decode cX8_cast 89 = .ok (.iload 5, 2) := by decide +kernel
theorem dX8_cast_91 : decode cX8_cast 91 = .ok (.iload 6, 2) := by decide +kernel
theorem dX8_cast_93 : decode cX8_cast 93 = .ok (.iload 7, 2) := by decide +kernel
theorem dX8_cast_95 : decode cX8_cast 95 = .ok (.invokevirtual 110, 3) := by decide +kernel
theorem dX8_cast_98 : decode cX8_cast 98 = .ok (.aload_n 0, 1) := by decide +kernel
theorem dX8_cast_99 : decode cX8_cast 99 = .ok (.getfield 33, 3) := by decide +kernel
theorem dX8_cast_102 : decode cX8_cast 102 = .ok (.new 160, 3) := by decide +kernel
theorem dX8_cast_105 : decode cX8_cast 105 = .ok (.dup, 1) := by decide +kernel
theorem dX8_cast_106 : decode cX8_cast 106 = .ok (.iload_n 1, 1) := by decide +kernel
theorem dX8_cast_107 : decode cX8_cast 107 = .ok (.iload 8, 2) := by decide +kernel
theorem dX8_cast_109 : decode cX8_cast 109 = .ok (.iload 9, 2) := by decide +kernel
theorem dX8_cast_111 : decode cX8_cast 111 = .ok (.iload_n 3, 1) := by decide +kernel
theorem dX8_cast_112 : decode cX8_cast 112 = .ok (.aload_n 0, 1) := by decide +kernel
theorem dX8_cast_113 : decode cX8_cast 113 = .ok (.getfield 19, 3) := by decide +kernel
theorem dX8_cast_116 : decode cX8_cast 116 = .ok (.aload_n 0, 1) := by decide +kernel
theorem dX8_cast_117 : decode cX8_cast 117 = .ok (.getfield 10, 3) := by decide +kernel
theorem dX8_cast_120 : decode cX8_cast 120 = .ok (.iload 8, 2) := by decide +kernel
theorem dX8_cast_122 : decode cX8_cast 122 = .ok (.iload 9, 2) := by decide +kernel
theorem dX8_cast_124 : decode cX8_cast 124 = .ok (.invokevirtual 118, 3) := by decide +kernel
theorem dX8_cast_127 : decode cX8_cast 127 = .ok (.iconst 1, 1) := by decide +kernel
theorem dX8_cast_128 : decode cX8_cast 128 = .ok (.invokespecial 162, 3) := by decide +kernel
theorem dX8_cast_131 : decode cX8_cast 131 = .ok (.invokevirtual 165, 3) := by decide +kernel
theorem dX8_cast_134 : decode cX8_cast 134 = .ok (.ireturn, 1) := by decide +kernel
set_option maxRecDepth 20000 in
theorem ggX8_ofRow_X7_at : GoodIn wsX8_ofRow wsX7_at := goodIn_r _ [11, 12, 13, 90, 91, 92, 93, 94] (by decide +kernel) (by decide +kernel)
set_option maxRecDepth 20000 in
theorem gX8_ofRow_X7_at : GoodIn wsX8_ofRow (wsV RX8 168 RX7 yX7_at wsX7_at) := goodIn_app (goodIn_of _ (by decide +kernel)) ggX8_ofRow_X7_at
set_option maxRecDepth 20000 in
theorem ggX8_ofRow_X7_kindOf : GoodIn wsX8_ofRow wsX7_kindOf := goodIn_r _ [17, 18, 19, 20, 21, 22, 8, 9, 10, 11, 12, 13, 23, 24, 25, 26, 27, 28, 29, 30, 31, 32, 33, 34, 35, 36, 37, 38, 39, 40, 41, 42, 43, 44, 45, 46, 47, 48, 49, 50, 51, 52, 53, 54, 55, 56, 84, 85, 86, 87, 88, 89, 90, 91, 92, 93, 94, 95, 96, 97, 98, 99] (by decide +kernel) (by decide +kernel)
set_option maxRecDepth 20000 in
theorem gX8_ofRow_X7_kindOf : GoodIn wsX8_ofRow (wsV RX8 192 RX7 yX7_kindOf wsX7_kindOf) := goodIn_app (goodIn_of _ (by decide +kernel)) ggX8_ofRow_X7_kindOf
set_option maxRecDepth 20000 in
theorem ggX8_ofRow_X5_word : GoodIn wsX8_ofRow wsX5_word := goodIn_r _ [61, 62, 63, 64, 65, 66, 67, 60, 68, 84, 85, 86, 87, 88, 89] (by decide +kernel) (by decide +kernel)
set_option maxRecDepth 20000 in
theorem gX8_ofRow_X5_word : GoodIn wsX8_ofRow (wsV RX8 196 RX5 yX5_word wsX5_word) := goodIn_app (goodIn_of _ (by decide +kernel)) ggX8_ofRow_X5_word
set_option maxRecDepth 20000 in
theorem ggX8_ofRow_X7_headBehind : GoodIn wsX8_ofRow wsX7_headBehind := goodIn_r _ [72, 12, 73, 74, 75, 76, 77, 10, 78, 22, 8, 9, 11, 13, 79, 58, 59, 60, 61, 62, 63, 64, 65, 66, 67, 68, 90, 91, 92, 93, 94, 84, 85, 86, 87, 88, 89] (by decide +kernel) (by decide +kernel)
set_option maxRecDepth 20000 in
theorem gX8_ofRow_X7_headBehind : GoodIn wsX8_ofRow (wsV RX8 199 RX7 yX7_headBehind wsX7_headBehind) := goodIn_app (goodIn_of _ (by decide +kernel)) ggX8_ofRow_X7_headBehind
theorem dX8_ofRow_0 : decode cX8_ofRow 0 = .ok (.aload_n 0, 1) := by decide +kernel
theorem dX8_ofRow_1 : decode cX8_ofRow 1 = .ok (.getfield 33, 3) := by decide +kernel
theorem dX8_ofRow_4 : decode cX8_ofRow 4 = .ok (.iload_n 1, 1) := by decide +kernel
theorem dX8_ofRow_5 : decode cX8_ofRow 5 = .ok (.invokevirtual 168, 3) := by decide +kernel
theorem dX8_ofRow_8 : decode cX8_ofRow 8 = .ok (.astore_n 3, 1) := by decide +kernel
theorem dX8_ofRow_9 : decode cX8_ofRow 9 = .ok (.aload_n 3, 1) := by decide +kernel
theorem dX8_ofRow_10 : decode cX8_ofRow 10 = .ok (.ifnonnull 5, 3) := by decide +kernel
theorem dX8_ofRow_13 : decode cX8_ofRow 13 = .ok (.iconst (-1), 1) := by decide +kernel
theorem dX8_ofRow_14 : decode cX8_ofRow 14 = .ok (.ireturn, 1) := by decide +kernel
theorem dX8_ofRow_15 : decode cX8_ofRow 15 = .ok (.iload_n 2, 1) := by decide +kernel
theorem dX8_ofRow_16 : decode cX8_ofRow 16 = .ok (.tableswitch 91 0 6 #[44, 49, 54, 59, 64, 77, 82], 44) := by decide +kernel
theorem dX8_ofRow_60 : decode cX8_ofRow 60 = .ok (.aload_n 3, 1) := by decide +kernel
theorem dX8_ofRow_61 : decode cX8_ofRow 61 = .ok (.getfield 186, 3) := by decide +kernel
theorem dX8_ofRow_64 : decode cX8_ofRow 64 = .ok (.ireturn, 1) := by decide +kernel
theorem dX8_ofRow_65 : decode cX8_ofRow 65 = .ok (.aload_n 3, 1) := by decide +kernel
theorem dX8_ofRow_66 : decode cX8_ofRow 66 = .ok (.getfield 176, 3) := by decide +kernel
theorem dX8_ofRow_69 : decode cX8_ofRow 69 = .ok (.ireturn, 1) := by decide +kernel
theorem dX8_ofRow_70 : decode cX8_ofRow 70 = .ok (.aload_n 3, 1) := by decide +kernel
theorem dX8_ofRow_71 : decode cX8_ofRow 71 = .ok (.getfield 180, 3) := by decide +kernel
theorem dX8_ofRow_74 : decode cX8_ofRow 74 = .ok (.ireturn, 1) := by decide +kernel
theorem dX8_ofRow_75 : decode cX8_ofRow 75 = .ok (.aload_n 3, 1) := by decide +kernel
theorem dX8_ofRow_76 : decode cX8_ofRow 76 = .ok (.getfield 189, 3) := by decide +kernel
theorem dX8_ofRow_79 : decode cX8_ofRow 79 = .ok (.ireturn, 1) := by decide +kernel
theorem dX8_ofRow_80 : decode cX8_ofRow 80 = .ok (.aload_n 0, 1) := by decide +kernel
theorem dX8_ofRow_81 : decode cX8_ofRow 81 = .ok (.getfield 33, 3) := by decide +kernel
theorem dX8_ofRow_84 : decode cX8_ofRow 84 = .ok (.iload_n 1, 1) := by decide +kernel
theorem dX8_ofRow_85 : decode cX8_ofRow 85 = .ok (.aload_n 0, 1) := by decide +kernel
theorem dX8_ofRow_86 : decode cX8_ofRow 86 = .ok (.getfield 26, 3) := by decide +kernel
theorem dX8_ofRow_89 : decode cX8_ofRow 89 = .ok (.invokevirtual 192, 3) := by decide +kernel
theorem dX8_ofRow_92 : decode cX8_ofRow 92 = .ok (.ireturn, 1) := by decide +kernel
theorem dX8_ofRow_93 : decode cX8_ofRow 93 = .ok (.aload_n 3, 1) := by decide +kernel
theorem dX8_ofRow_94 : decode cX8_ofRow 94 = .ok (.invokevirtual 196, 3) := by decide +kernel
theorem dX8_ofRow_97 : decode cX8_ofRow 97 = .ok (.ireturn, 1) := by decide +kernel
theorem dX8_ofRow_98 : decode cX8_ofRow 98 = .ok (.aload_n 0, 1) := by decide +kernel
theorem dX8_ofRow_99 : decode cX8_ofRow 99 = .ok (.getfield 33, 3) := by decide +kernel
theorem dX8_ofRow_102 : decode cX8_ofRow 102 = .ok (.iload_n 1, 1) := by decide +kernel
theorem dX8_ofRow_103 : decode cX8_ofRow 103 = .ok (.invokevirtual 199, 3) := by decide +kernel
theorem dX8_ofRow_106 : decode cX8_ofRow 106 = .ok (.ireturn, 1) := by decide +kernel
theorem dX8_ofRow_107 : decode cX8_ofRow 107 = .ok (.bipush (-2), 2) := by decide +kernel
theorem dX8_ofRow_109 : decode cX8_ofRow 109 = .ok (.ireturn, 1) := by decide +kernel
set_option maxRecDepth 20000 in
theorem ggX8_find_X8_within : GoodIn wsX8_find wsX8_within := goodIn_r _ [5] (by decide +kernel) (by decide +kernel)
set_option maxRecDepth 20000 in
theorem gX8_find_X8_within : GoodIn wsX8_find (va_wsS RX8 37 yX8_within wsX8_within) := goodIn_app (goodIn_of _ (by decide +kernel)) ggX8_find_X8_within
set_option maxRecDepth 20000 in
theorem ggX8_find_X7_firstWithWord : GoodIn wsX8_find wsX7_firstWithWord := goodIn_r _ [10, 11, 12, 13, 14, 9, 15, 16, 17, 18, 19, 20, 21, 22, 23, 24, 25, 26, 27, 28, 29, 30, 31, 32, 37, 38, 39, 40, 41, 42, 43, 44, 45, 46, 47] (by decide +kernel) (by decide +kernel)
set_option maxRecDepth 20000 in
theorem gX8_find_X7_firstWithWord : GoodIn wsX8_find (wsV RX8 202 RX7 yX7_firstWithWord wsX7_firstWithWord) := goodIn_app (goodIn_of _ (by decide +kernel)) ggX8_find_X7_firstWithWord
theorem dX8_find_0 : decode cX8_find 0 = .ok (.iload_n 2, 1) := by decide +kernel
theorem dX8_find_1 : decode cX8_find 1 = .ok (.iconst 0, 1) := by decide +kernel
theorem dX8_find_2 : decode cX8_find 2 = .ok (.bipush 30, 2) := by decide +kernel
theorem dX8_find_4 : decode cX8_find 4 = .ok (.invokestatic 37, 3) := by decide +kernel
theorem dX8_find_7 : decode cX8_find 7 = .ok (.ifCond .ne 6, 3) := by decide +kernel
theorem dX8_find_10 : decode cX8_find 10 = .ok (.bipush (-2), 2) := by decide +kernel
theorem dX8_find_12 : decode cX8_find 12 = .ok (.ireturn, 1) := by decide +kernel
theorem dX8_find_13 : decode cX8_find 13 = .ok (.aload_n 0, 1) := by decide +kernel
theorem dX8_find_14 : decode cX8_find 14 = .ok (.getfield 33, 3) := by decide +kernel
theorem dX8_find_17 : decode cX8_find 17 = .ok (.iload_n 1, 1) := by decide +kernel
theorem dX8_find_18 : decode cX8_find 18 = .ok (.iload_n 2, 1) := by decide +kernel
theorem dX8_find_19 : decode cX8_find 19 = .ok (.invokevirtual 202, 3) := by decide +kernel
theorem dX8_find_22 : decode cX8_find 22 = .ok (.ireturn, 1) := by decide +kernel
set_option maxRecDepth 20000 in
theorem ggX8_tally_X7_product : GoodIn wsX8_tally wsX7_product := goodIn_r _ [7, 8, 9, 10, 11, 12, 13, 6, 14, 15, 16, 17, 18, 19, 20, 21, 22, 23, 24, 25, 26, 27, 28, 29, 30, 31, 32, 33, 34, 35, 36, 37, 38, 39, 40, 41, 42, 43, 44, 45, 46, 47, 48, 49, 50, 51, 52, 53, 54, 55, 56, 57, 66, 67, 68, 69, 70, 71, 72, 73, 74, 75, 76, 77, 78, 79, 80, 81] (by decide +kernel) (by decide +kernel)
set_option maxRecDepth 20000 in
theorem gX8_tally_X7_product : GoodIn wsX8_tally (wsV RX8 205 RX7 yX7_product wsX7_product) := goodIn_app (goodIn_of _ (by decide +kernel)) ggX8_tally_X7_product
set_option maxRecDepth 20000 in
theorem ggX8_tally_X7_howManyAre : GoodIn wsX8_tally wsX7_howManyAre := goodIn_r _ [61, 8, 16, 17, 18, 6, 19, 20, 21, 22, 23, 11, 12, 13, 14, 15, 24, 25, 26, 27, 28, 29, 30, 31, 32, 33, 34, 35, 36, 37, 38, 39, 40, 41, 42, 43, 44, 45, 46, 47, 48, 49, 50, 51, 52, 53, 54, 55, 56, 57, 66, 67, 68, 69, 70, 71, 72, 73, 74, 75, 76, 77, 78, 79, 80, 81] (by decide +kernel) (by decide +kernel)
set_option maxRecDepth 20000 in
theorem gX8_tally_X7_howManyAre : GoodIn wsX8_tally (wsV RX8 208 RX7 yX7_howManyAre wsX7_howManyAre) := goodIn_app (goodIn_of _ (by decide +kernel)) ggX8_tally_X7_howManyAre
theorem dX8_tally_0 : decode cX8_tally 0 = .ok (.iload_n 1, 1) := by decide +kernel
theorem dX8_tally_1 : decode cX8_tally 1 = .ok (.tableswitch 66 0 2 #[27, 40, 53], 27) := by decide +kernel
theorem dX8_tally_28 : decode cX8_tally 28 = .ok (.aload_n 0, 1) := by decide +kernel
theorem dX8_tally_29 : decode cX8_tally 29 = .ok (.getfield 33, 3) := by decide +kernel
theorem dX8_tally_32 : decode cX8_tally 32 = .ok (.iconst 0, 1) := by decide +kernel
theorem dX8_tally_33 : decode cX8_tally 33 = .ok (.aload_n 0, 1) := by decide +kernel
theorem dX8_tally_34 : decode cX8_tally 34 = .ok (.getfield 26, 3) := by decide +kernel
theorem dX8_tally_37 : decode cX8_tally 37 = .ok (.invokevirtual 205, 3) := by decide +kernel
theorem dX8_tally_40 : decode cX8_tally 40 = .ok (.ireturn, 1) := by decide +kernel
theorem dX8_tally_41 : decode cX8_tally 41 = .ok (.aload_n 0, 1) := by decide +kernel
theorem dX8_tally_42 : decode cX8_tally 42 = .ok (.getfield 33, 3) := by decide +kernel
theorem dX8_tally_45 : decode cX8_tally 45 = .ok (.iconst 1, 1) := by decide +kernel
theorem dX8_tally_46 : decode cX8_tally 46 = .ok (.aload_n 0, 1) := by decide +kernel
theorem dX8_tally_47 : decode cX8_tally 47 = .ok (.getfield 26, 3) := by decide +kernel
theorem dX8_tally_50 : decode cX8_tally 50 = .ok (.invokevirtual 205, 3) := by decide +kernel
theorem dX8_tally_53 : decode cX8_tally 53 = .ok (.ireturn, 1) := by decide +kernel
theorem dX8_tally_54 : decode cX8_tally 54 = .ok (.aload_n 0, 1) := by decide +kernel
theorem dX8_tally_55 : decode cX8_tally 55 = .ok (.getfield 33, 3) := by decide +kernel
theorem dX8_tally_58 : decode cX8_tally 58 = .ok (.iconst 0, 1) := by decide +kernel
theorem dX8_tally_59 : decode cX8_tally 59 = .ok (.aload_n 0, 1) := by decide +kernel
theorem dX8_tally_60 : decode cX8_tally 60 = .ok (.getfield 26, 3) := by decide +kernel
theorem dX8_tally_63 : decode cX8_tally 63 = .ok (.invokevirtual 208, 3) := by decide +kernel
theorem dX8_tally_66 : decode cX8_tally 66 = .ok (.ireturn, 1) := by decide +kernel
theorem dX8_tally_67 : decode cX8_tally 67 = .ok (.bipush (-2), 2) := by decide +kernel
theorem dX8_tally_69 : decode cX8_tally 69 = .ok (.ireturn, 1) := by decide +kernel
set_option maxRecDepth 20000 in
theorem ggX8_copy_X8_within : GoodIn wsX8_copy wsX8_within := goodIn_r _ [5] (by decide +kernel) (by decide +kernel)
set_option maxRecDepth 20000 in
theorem gX8_copy_X8_within : GoodIn wsX8_copy (va_wsS RX8 37 yX8_within wsX8_within) := goodIn_app (goodIn_of _ (by decide +kernel)) ggX8_copy_X8_within
set_option maxRecDepth 20000 in
theorem ggX8_copy_X7_addCopied : GoodIn wsX8_copy wsX7_addCopied := goodIn_r _ [10, 11, 12, 21, 22, 23, 24, 25] (by decide +kernel) (by decide +kernel)
set_option maxRecDepth 20000 in
theorem gX8_copy_X7_addCopied : GoodIn wsX8_copy (wsV RX8 211 RX7 yX7_addCopied wsX7_addCopied) := goodIn_app (goodIn_of _ (by decide +kernel)) ggX8_copy_X7_addCopied
set_option maxRecDepth 20000 in
theorem ggX8_copy_X7_copiedSize : GoodIn wsX8_copy wsX7_copiedSize := goodIn_r _ [16, 11, 21, 22, 23, 24, 25] (by decide +kernel) (by decide +kernel)
set_option maxRecDepth 20000 in
theorem gX8_copy_X7_copiedSize : GoodIn wsX8_copy (wsV RX8 214 RX7 yX7_copiedSize wsX7_copiedSize) := goodIn_app (goodIn_of _ (by decide +kernel)) ggX8_copy_X7_copiedSize
theorem dX8_copy_0 : decode cX8_copy 0 = .ok (.iload_n 1, 1) := by decide +kernel
theorem dX8_copy_1 : decode cX8_copy 1 = .ok (.iconst 0, 1) := by decide +kernel
theorem dX8_copy_2 : decode cX8_copy 2 = .ok (.sipush 9972, 3) := by decide +kernel
theorem dX8_copy_5 : decode cX8_copy 5 = .ok (.invokestatic 37, 3) := by decide +kernel
theorem dX8_copy_8 : decode cX8_copy 8 = .ok (.ifCond .ne 6, 3) := by decide +kernel
theorem dX8_copy_11 : decode cX8_copy 11 = .ok (.bipush (-2), 2) := by decide +kernel
theorem dX8_copy_13 : decode cX8_copy 13 = .ok (.ireturn, 1) := by decide +kernel
theorem dX8_copy_14 : decode cX8_copy 14 = .ok (.aload_n 0, 1) := by decide +kernel
theorem dX8_copy_15 : decode cX8_copy 15 = .ok (.getfield 33, 3) := by decide +kernel
theorem dX8_copy_18 : decode cX8_copy 18 = .ok (.iload_n 1, 1) := by decide +kernel
theorem dX8_copy_19 : decode cX8_copy 19 = .ok (.invokevirtual 211, 3) := by decide +kernel
theorem dX8_copy_22 : decode cX8_copy 22 = .ok (.ifCond .eq 13, 3) := by decide +kernel
theorem dX8_copy_25 : decode cX8_copy 25 = .ok (.aload_n 0, 1) := by decide +kernel
theorem dX8_copy_26 : decode cX8_copy 26 = .ok (.getfield 33, 3) := by decide +kernel
theorem dX8_copy_29 : decode cX8_copy 29 = .ok (.invokevirtual 214, 3) := by decide +kernel
theorem dX8_copy_32 : decode cX8_copy 32 = .ok (.goto 5, 3) := by decide +kernel
theorem dX8_copy_35 : decode cX8_copy 35 = .ok (.bipush (-4), 2) := by decide +kernel
theorem dX8_copy_37 : decode cX8_copy 37 = .ok (.ireturn, 1) := by decide +kernel
set_option maxRecDepth 20000 in
theorem ggX8_parted_X7_firstUnlike : GoodIn wsX8_parted wsX7_firstUnlike := goodIn_r _ [6, 7, 8, 9, 10, 11, 12, 5, 13, 14, 15, 16, 17, 18, 19, 20, 21, 22, 23, 24, 25, 26, 27, 28, 29, 30, 35, 36, 37, 38, 39, 40, 41, 42, 43, 44, 45] (by decide +kernel) (by decide +kernel)
set_option maxRecDepth 20000 in
theorem gX8_parted_X7_firstUnlike : GoodIn wsX8_parted (wsV RX8 217 RX7 yX7_firstUnlike wsX7_firstUnlike) := goodIn_app (goodIn_of _ (by decide +kernel)) ggX8_parted_X7_firstUnlike
theorem dX8_parted_0 : decode cX8_parted 0 = .ok (.aload_n 0, 1) := by decide +kernel
theorem dX8_parted_1 : decode cX8_parted 1 = .ok (.getfield 33, 3) := by decide +kernel
theorem dX8_parted_4 : decode cX8_parted 4 = .ok (.invokevirtual 217, 3) := by decide +kernel
theorem dX8_parted_7 : decode cX8_parted 7 = .ok (.ireturn, 1) := by decide +kernel
set_option maxRecDepth 20000 in
theorem ggX8_lies_X8_areBooth : GoodIn wsX8_lies wsX8_areBooth := goodIn_r _ [5, 6, 7, 4, 8] (by decide +kernel) (by decide +kernel)
set_option maxRecDepth 20000 in
theorem gX8_lies_X8_areBooth : GoodIn wsX8_lies (va_wsS RX8 220 yX8_areBooth wsX8_areBooth) := goodIn_app (goodIn_of _ (by decide +kernel)) ggX8_lies_X8_areBooth
set_option maxRecDepth 20000 in
theorem ggX8_lies_X8_within : GoodIn wsX8_lies wsX8_within := goodIn_r _ [8] (by decide +kernel) (by decide +kernel)
set_option maxRecDepth 20000 in
theorem gX8_lies_X8_within : GoodIn wsX8_lies (va_wsS RX8 37 yX8_within wsX8_within) := goodIn_app (goodIn_of _ (by decide +kernel)) ggX8_lies_X8_within
set_option maxRecDepth 20000 in
theorem ggX8_lies_X1_choose : GoodIn wsX8_lies wsX1_choose := goodIn_r _ [12] (by decide +kernel) (by decide +kernel)
set_option maxRecDepth 20000 in
theorem gX8_lies_X1_choose : GoodIn wsX8_lies (va_wsS RX8 225 yX1_choose wsX1_choose) := goodIn_app (goodIn_of _ (by decide +kernel)) ggX8_lies_X1_choose
set_option maxRecDepth 20000 in
theorem ggX8_lies_X1_inLowestTerms : GoodIn wsX8_lies wsX1_inLowestTerms := goodIn_r _ [15, 16, 17, 11, 18] (by decide +kernel) (by decide +kernel)
set_option maxRecDepth 20000 in
theorem gX8_lies_X1_inLowestTerms : GoodIn wsX8_lies (va_wsS RX8 231 yX1_inLowestTerms wsX1_inLowestTerms) := goodIn_app (goodIn_of _ (by decide +kernel)) ggX8_lies_X1_inLowestTerms
theorem dX8_lies_0 : decode cX8_lies 0 = .ok (.iload_n 1, 1) := by decide +kernel
theorem dX8_lies_1 : decode cX8_lies 1 = .ok (.iload_n 2, 1) := by decide +kernel
theorem dX8_lies_2 : decode cX8_lies 2 = .ok (.invokestatic 220, 3) := by decide +kernel
theorem dX8_lies_5 : decode cX8_lies 5 = .ok (.ifCond .eq 22, 3) := by decide +kernel
theorem dX8_lies_8 : decode cX8_lies 8 = .ok (.iload_n 3, 1) := by decide +kernel
theorem dX8_lies_9 : decode cX8_lies 9 = .ok (.iconst 0, 1) := by decide +kernel
theorem dX8_lies_10 : decode cX8_lies 10 = .ok (.iload_n 1, 1) := by decide +kernel
theorem dX8_lies_11 : decode cX8_lies 11 = .ok (.invokestatic 37, 3) := by decide +kernel
theorem dX8_lies_14 : decode cX8_lies 14 = .ok (.ifCond .eq 13, 3) := by decide +kernel
theorem dX8_lies_17 : decode cX8_lies 17 = .ok (.iload 4, 2) := by decide +kernel
theorem dX8_lies_19 : decode cX8_lies 19 = .ok (.iconst 0, 1) := by decide +kernel
theorem dX8_lies_20 : decode cX8_lies 20 = .ok (.iconst 1, 1) := by decide +kernel
theorem dX8_lies_21 : decode cX8_lies 21 = .ok (.invokestatic 37, 3) := by decide +kernel
theorem dX8_lies_24 : decode cX8_lies 24 = .ok (.ifCond .ne 7, 3) := by decide +kernel
theorem dX8_lies_27 : decode cX8_lies 27 = .ok (.ldc2_w 223, 3) := by decide +kernel
theorem dX8_lies_30 : decode cX8_lies 30 = .ok (.lreturn, 1) := by decide +kernel
theorem dX8_lies_31 : decode cX8_lies 31 = .ok (.iload_n 1, 1) := by decide +kernel
theorem dX8_lies_32 : decode cX8_lies 32 = .ok (.iload_n 2, 1) := by decide +kernel
theorem dX8_lies_33 : decode cX8_lies 33 = .ok (.isub, 1) := by decide +kernel
theorem dX8_lies_34 : decode cX8_lies 34 = .ok (.iload_n 3, 1) := by decide +kernel
theorem dX8_lies_35 : decode cX8_lies 35 = .ok (.invokestatic 225, 3) := by decide +kernel
theorem dX8_lies_38 : decode cX8_lies 38 = .ok (.iload_n 1, 1) := by decide +kernel
theorem dX8_lies_39 : decode cX8_lies 39 = .ok (.iload_n 3, 1) := by decide +kernel
theorem dX8_lies_40 : decode cX8_lies 40 = .ok (.invokestatic 225, 3) := by decide +kernel
theorem dX8_lies_43 : decode cX8_lies 43 = .ok (.iload 4, 2) := by decide +kernel
theorem dX8_lies_45 : decode cX8_lies 45 = .ok (.invokestatic 231, 3) := by decide +kernel
theorem dX8_lies_48 : decode cX8_lies 48 = .ok (.lreturn, 1) := by decide +kernel
set_option maxRecDepth 20000 in
theorem ggX8_ask_X8_areBooth : GoodIn wsX8_ask wsX8_areBooth := goodIn_r _ [4, 5, 6, 3, 7] (by decide +kernel) (by decide +kernel)
set_option maxRecDepth 20000 in
theorem gX8_ask_X8_areBooth : GoodIn wsX8_ask (va_wsS RX8 220 yX8_areBooth wsX8_areBooth) := goodIn_app (goodIn_of _ (by decide +kernel)) ggX8_ask_X8_areBooth
set_option maxRecDepth 20000 in
theorem ggX8_ask_X8_within : GoodIn wsX8_ask wsX8_within := goodIn_r _ [7] (by decide +kernel) (by decide +kernel)
set_option maxRecDepth 20000 in
theorem gX8_ask_X8_within : GoodIn wsX8_ask (va_wsS RX8 37 yX8_within wsX8_within) := goodIn_app (goodIn_of _ (by decide +kernel)) ggX8_ask_X8_within
set_option maxRecDepth 20000 in
theorem ggX8_ask_X1_leastDrawn : GoodIn wsX8_ask wsX1_leastDrawn := goodIn_r _ [11, 12, 13, 14, 10, 15] (by decide +kernel) (by decide +kernel)
set_option maxRecDepth 20000 in
theorem gX8_ask_X1_leastDrawn : GoodIn wsX8_ask (va_wsS RX8 235 yX1_leastDrawn wsX1_leastDrawn) := goodIn_app (goodIn_of _ (by decide +kernel)) ggX8_ask_X1_leastDrawn
theorem dX8_ask_0 : decode cX8_ask 0 = .ok (.iload_n 1, 1) := by decide +kernel
theorem dX8_ask_1 : decode cX8_ask 1 = .ok (.iload_n 2, 1) := by decide +kernel
theorem dX8_ask_2 : decode cX8_ask 2 = .ok (.invokestatic 220, 3) := by decide +kernel
theorem dX8_ask_5 : decode cX8_ask 5 = .ok (.ifCond .eq 13, 3) := by decide +kernel
theorem dX8_ask_8 : decode cX8_ask 8 = .ok (.iload_n 3, 1) := by decide +kernel
theorem dX8_ask_9 : decode cX8_ask 9 = .ok (.iconst 0, 1) := by decide +kernel
theorem dX8_ask_10 : decode cX8_ask 10 = .ok (.bipush 100, 2) := by decide +kernel
theorem dX8_ask_12 : decode cX8_ask 12 = .ok (.invokestatic 37, 3) := by decide +kernel
theorem dX8_ask_15 : decode cX8_ask 15 = .ok (.ifCond .ne 6, 3) := by decide +kernel
theorem dX8_ask_18 : decode cX8_ask 18 = .ok (.bipush (-2), 2) := by decide +kernel
theorem dX8_ask_20 : decode cX8_ask 20 = .ok (.ireturn, 1) := by decide +kernel
theorem dX8_ask_21 : decode cX8_ask 21 = .ok (.iload_n 1, 1) := by decide +kernel
theorem dX8_ask_22 : decode cX8_ask 22 = .ok (.iload_n 2, 1) := by decide +kernel
theorem dX8_ask_23 : decode cX8_ask 23 = .ok (.isub, 1) := by decide +kernel
theorem dX8_ask_24 : decode cX8_ask 24 = .ok (.iload_n 1, 1) := by decide +kernel
theorem dX8_ask_25 : decode cX8_ask 25 = .ok (.iconst 0, 1) := by decide +kernel
theorem dX8_ask_26 : decode cX8_ask 26 = .ok (.iload_n 3, 1) := by decide +kernel
theorem dX8_ask_27 : decode cX8_ask 27 = .ok (.invokestatic 235, 3) := by decide +kernel
theorem dX8_ask_30 : decode cX8_ask 30 = .ok (.ireturn, 1) := by decide +kernel
set_option maxRecDepth 20000 in
theorem ggX8_slips_X8_within : GoodIn wsX8_slips wsX8_within := goodIn_r _ [5] (by decide +kernel) (by decide +kernel)
set_option maxRecDepth 20000 in
theorem gX8_slips_X8_within : GoodIn wsX8_slips (va_wsS RX8 37 yX8_within wsX8_within) := goodIn_app (goodIn_of _ (by decide +kernel)) ggX8_slips_X8_within
set_option maxRecDepth 20000 in
theorem ggX8_slips_X1_waysForOne : GoodIn wsX8_slips wsX1_waysForOne := goodIn_r _ [9, 10, 11, 8, 12, 13, 14, 15] (by decide +kernel) (by decide +kernel)
set_option maxRecDepth 20000 in
theorem gX8_slips_X1_waysForOne : GoodIn wsX8_slips (va_wsS RX8 239 yX1_waysForOne wsX1_waysForOne) := goodIn_app (goodIn_of _ (by decide +kernel)) ggX8_slips_X1_waysForOne
set_option maxRecDepth 20000 in
theorem ggX8_slips_X1_choose : GoodIn wsX8_slips wsX1_choose := goodIn_r _ [15] (by decide +kernel) (by decide +kernel)
set_option maxRecDepth 20000 in
theorem gX8_slips_X1_choose : GoodIn wsX8_slips (va_wsS RX8 225 yX1_choose wsX1_choose) := goodIn_app (goodIn_of _ (by decide +kernel)) ggX8_slips_X1_choose
set_option maxRecDepth 20000 in
theorem ggX8_slips_X1_inLowestTerms : GoodIn wsX8_slips wsX1_inLowestTerms := goodIn_r _ [19, 20, 21, 8, 22] (by decide +kernel) (by decide +kernel)
set_option maxRecDepth 20000 in
theorem gX8_slips_X1_inLowestTerms : GoodIn wsX8_slips (va_wsS RX8 231 yX1_inLowestTerms wsX1_inLowestTerms) := goodIn_app (goodIn_of _ (by decide +kernel)) ggX8_slips_X1_inLowestTerms
theorem dX8_slips_0 : decode cX8_slips 0 = .ok (.iload_n 1, 1) := by decide +kernel
theorem dX8_slips_1 : decode cX8_slips 1 = .ok (.iconst 2, 1) := by decide +kernel
theorem dX8_slips_2 : decode cX8_slips 2 = .ok (.bipush 40, 2) := by decide +kernel
theorem dX8_slips_4 : decode cX8_slips 4 = .ok (.invokestatic 37, 3) := by decide +kernel
theorem dX8_slips_7 : decode cX8_slips 7 = .ok (.ifCond .eq 31, 3) := by decide +kernel
theorem dX8_slips_10 : decode cX8_slips 10 = .ok (.iload_n 2, 1) := by decide +kernel
theorem dX8_slips_11 : decode cX8_slips 11 = .ok (.iconst 0, 1) := by decide +kernel
theorem dX8_slips_12 : decode cX8_slips 12 = .ok (.iload_n 1, 1) := by decide +kernel
theorem dX8_slips_13 : decode cX8_slips 13 = .ok (.invokestatic 37, 3) := by decide +kernel
theorem dX8_slips_16 : decode cX8_slips 16 = .ok (.ifCond .eq 22, 3) := by decide +kernel
theorem dX8_slips_19 : decode cX8_slips 19 = .ok (.iload_n 3, 1) := by decide +kernel
theorem dX8_slips_20 : decode cX8_slips 20 = .ok (.iconst 0, 1) := by decide +kernel
theorem dX8_slips_21 : decode cX8_slips 21 = .ok (.iload_n 2, 1) := by decide +kernel
theorem dX8_slips_22 : decode cX8_slips 22 = .ok (.invokestatic 37, 3) := by decide +kernel
theorem dX8_slips_25 : decode cX8_slips 25 = .ok (.ifCond .eq 13, 3) := by decide +kernel
theorem dX8_slips_28 : decode cX8_slips 28 = .ok (.iload 4, 2) := by decide +kernel
theorem dX8_slips_30 : decode cX8_slips 30 = .ok (.iconst 0, 1) := by decide +kernel
theorem dX8_slips_31 : decode cX8_slips 31 = .ok (.iconst 1, 1) := by decide +kernel
theorem dX8_slips_32 : decode cX8_slips 32 = .ok (.invokestatic 37, 3) := by decide +kernel
theorem dX8_slips_35 : decode cX8_slips 35 = .ok (.ifCond .ne 7, 3) := by decide +kernel
theorem dX8_slips_38 : decode cX8_slips 38 = .ok (.ldc2_w 223, 3) := by decide +kernel
theorem dX8_slips_41 : decode cX8_slips 41 = .ok (.lreturn, 1) := by decide +kernel
theorem dX8_slips_42 : decode cX8_slips 42 = .ok (.iload_n 1, 1) := by decide +kernel
theorem dX8_slips_43 : decode cX8_slips 43 = .ok (.iload_n 2, 1) := by decide +kernel
theorem dX8_slips_44 : decode cX8_slips 44 = .ok (.iload_n 3, 1) := by decide +kernel
theorem dX8_slips_45 : decode cX8_slips 45 = .ok (.invokestatic 239, 3) := by decide +kernel
theorem dX8_slips_48 : decode cX8_slips 48 = .ok (.iload_n 1, 1) := by decide +kernel
theorem dX8_slips_49 : decode cX8_slips 49 = .ok (.iload_n 2, 1) := by decide +kernel
theorem dX8_slips_50 : decode cX8_slips 50 = .ok (.invokestatic 225, 3) := by decide +kernel
theorem dX8_slips_53 : decode cX8_slips 53 = .ok (.iload 4, 2) := by decide +kernel
theorem dX8_slips_55 : decode cX8_slips 55 = .ok (.invokestatic 231, 3) := by decide +kernel
theorem dX8_slips_58 : decode cX8_slips 58 = .ok (.lreturn, 1) := by decide +kernel
set_option maxRecDepth 20000 in
theorem ggX8_drawn_X8_within : GoodIn wsX8_drawn wsX8_within := goodIn_r _ [5] (by decide +kernel) (by decide +kernel)
set_option maxRecDepth 20000 in
theorem gX8_drawn_X8_within : GoodIn wsX8_drawn (va_wsS RX8 37 yX8_within wsX8_within) := goodIn_app (goodIn_of _ (by decide +kernel)) ggX8_drawn_X8_within
set_option maxRecDepth 20000 in
theorem ggX8_drawn_X1_slipDrawn : GoodIn wsX8_drawn wsX1_slipDrawn := goodIn_r _ [9, 10, 11] (by decide +kernel) (by decide +kernel)
set_option maxRecDepth 20000 in
theorem gX8_drawn_X1_slipDrawn : GoodIn wsX8_drawn (va_wsS RX8 244 yX1_slipDrawn wsX1_slipDrawn) := goodIn_app (goodIn_of _ (by decide +kernel)) ggX8_drawn_X1_slipDrawn
theorem dX8_drawn_0 : decode cX8_drawn 0 = .ok (.iload_n 1, 1) := by decide +kernel
theorem dX8_drawn_1 : decode cX8_drawn 1 = .ok (.iconst 1, 1) := by decide +kernel
theorem dX8_drawn_2 : decode cX8_drawn 2 = .ok (.ldc 243, 2) := by decide +kernel
theorem dX8_drawn_4 : decode cX8_drawn 4 = .ok (.invokestatic 37, 3) := by decide +kernel
theorem dX8_drawn_7 : decode cX8_drawn 7 = .ok (.ifCond .eq 23, 3) := by decide +kernel
theorem dX8_drawn_10 : decode cX8_drawn 10 = .ok (.iload_n 2, 1) := by decide +kernel
theorem dX8_drawn_11 : decode cX8_drawn 11 = .ok (.iconst 2, 1) := by decide +kernel
theorem dX8_drawn_12 : decode cX8_drawn 12 = .ok (.bipush 40, 2) := by decide +kernel
theorem dX8_drawn_14 : decode cX8_drawn 14 = .ok (.invokestatic 37, 3) := by decide +kernel
theorem dX8_drawn_17 : decode cX8_drawn 17 = .ok (.ifCond .eq 13, 3) := by decide +kernel
theorem dX8_drawn_20 : decode cX8_drawn 20 = .ok (.iload_n 3, 1) := by decide +kernel
theorem dX8_drawn_21 : decode cX8_drawn 21 = .ok (.iconst 1, 1) := by decide +kernel
theorem dX8_drawn_22 : decode cX8_drawn 22 = .ok (.bipush 40, 2) := by decide +kernel
theorem dX8_drawn_24 : decode cX8_drawn 24 = .ok (.invokestatic 37, 3) := by decide +kernel
theorem dX8_drawn_27 : decode cX8_drawn 27 = .ok (.ifCond .ne 6, 3) := by decide +kernel
theorem dX8_drawn_30 : decode cX8_drawn 30 = .ok (.bipush (-2), 2) := by decide +kernel
theorem dX8_drawn_32 : decode cX8_drawn 32 = .ok (.ireturn, 1) := by decide +kernel
theorem dX8_drawn_33 : decode cX8_drawn 33 = .ok (.iload_n 1, 1) := by decide +kernel
theorem dX8_drawn_34 : decode cX8_drawn 34 = .ok (.iload_n 2, 1) := by decide +kernel
theorem dX8_drawn_35 : decode cX8_drawn 35 = .ok (.iload_n 3, 1) := by decide +kernel
theorem dX8_drawn_36 : decode cX8_drawn 36 = .ok (.invokestatic 244, 3) := by decide +kernel
theorem dX8_drawn_39 : decode cX8_drawn 39 = .ok (.ireturn, 1) := by decide +kernel
set_option maxRecDepth 20000 in
theorem ggX8_sure_X8_within : GoodIn wsX8_sure wsX8_within := goodIn_r _ [4] (by decide +kernel) (by decide +kernel)
set_option maxRecDepth 20000 in
theorem gX8_sure_X8_within : GoodIn wsX8_sure (va_wsS RX8 37 yX8_within wsX8_within) := goodIn_app (goodIn_of _ (by decide +kernel)) ggX8_sure_X8_within
set_option maxRecDepth 20000 in
theorem ggX8_sure_X1_forOne : GoodIn wsX8_sure wsX1_forOne := goodIn_r _ [8] (by decide +kernel) (by decide +kernel)
set_option maxRecDepth 20000 in
theorem gX8_sure_X1_forOne : GoodIn wsX8_sure (va_wsS RX8 247 yX1_forOne wsX1_forOne) := goodIn_app (goodIn_of _ (by decide +kernel)) ggX8_sure_X1_forOne
set_option maxRecDepth 20000 in
theorem ggX8_sure_X1_leastDrawn : GoodIn wsX8_sure wsX1_leastDrawn := goodIn_r _ [11, 12, 13, 14, 7, 15] (by decide +kernel) (by decide +kernel)
set_option maxRecDepth 20000 in
theorem gX8_sure_X1_leastDrawn : GoodIn wsX8_sure (va_wsS RX8 235 yX1_leastDrawn wsX1_leastDrawn) := goodIn_app (goodIn_of _ (by decide +kernel)) ggX8_sure_X1_leastDrawn
theorem dX8_sure_0 : decode cX8_sure 0 = .ok (.iload_n 1, 1) := by decide +kernel
theorem dX8_sure_1 : decode cX8_sure 1 = .ok (.iconst 2, 1) := by decide +kernel
theorem dX8_sure_2 : decode cX8_sure 2 = .ok (.bipush 40, 2) := by decide +kernel
theorem dX8_sure_4 : decode cX8_sure 4 = .ok (.invokestatic 37, 3) := by decide +kernel
theorem dX8_sure_7 : decode cX8_sure 7 = .ok (.ifCond .eq 13, 3) := by decide +kernel
theorem dX8_sure_10 : decode cX8_sure 10 = .ok (.iload_n 2, 1) := by decide +kernel
theorem dX8_sure_11 : decode cX8_sure 11 = .ok (.iconst 0, 1) := by decide +kernel
theorem dX8_sure_12 : decode cX8_sure 12 = .ok (.bipush 100, 2) := by decide +kernel
theorem dX8_sure_14 : decode cX8_sure 14 = .ok (.invokestatic 37, 3) := by decide +kernel
theorem dX8_sure_17 : decode cX8_sure 17 = .ok (.ifCond .ne 6, 3) := by decide +kernel
theorem dX8_sure_20 : decode cX8_sure 20 = .ok (.bipush (-2), 2) := by decide +kernel
theorem dX8_sure_22 : decode cX8_sure 22 = .ok (.ireturn, 1) := by decide +kernel
theorem dX8_sure_23 : decode cX8_sure 23 = .ok (.iload_n 1, 1) := by decide +kernel
theorem dX8_sure_24 : decode cX8_sure 24 = .ok (.invokestatic 247, 3) := by decide +kernel
theorem dX8_sure_27 : decode cX8_sure 27 = .ok (.iload_n 1, 1) := by decide +kernel
theorem dX8_sure_28 : decode cX8_sure 28 = .ok (.iconst 1, 1) := by decide +kernel
theorem dX8_sure_29 : decode cX8_sure 29 = .ok (.iload_n 2, 1) := by decide +kernel
theorem dX8_sure_30 : decode cX8_sure 30 = .ok (.invokestatic 235, 3) := by decide +kernel
theorem dX8_sure_33 : decode cX8_sure 33 = .ok (.ireturn, 1) := by decide +kernel
set_option maxRecDepth 20000 in
theorem ggX8_told_X8_areSums : GoodIn wsX8_told wsX8_areSums := goodIn_r _ [6, 7, 8, 5, 9] (by decide +kernel) (by decide +kernel)
set_option maxRecDepth 20000 in
theorem gX8_told_X8_areSums : GoodIn wsX8_told (va_wsS RX8 250 yX8_areSums wsX8_areSums) := goodIn_app (goodIn_of _ (by decide +kernel)) ggX8_told_X8_areSums
set_option maxRecDepth 20000 in
theorem ggX8_told_X8_areKnown : GoodIn wsX8_told wsX8_areKnown := goodIn_r _ [12, 7, 8, 5, 9] (by decide +kernel) (by decide +kernel)
set_option maxRecDepth 20000 in
theorem gX8_told_X8_areKnown : GoodIn wsX8_told (va_wsS RX8 253 yX8_areKnown wsX8_areKnown) := goodIn_app (goodIn_of _ (by decide +kernel)) ggX8_told_X8_areKnown
set_option maxRecDepth 20000 in
theorem ggX8_told_X8_within : GoodIn wsX8_told wsX8_within := goodIn_r _ [9] (by decide +kernel) (by decide +kernel)
set_option maxRecDepth 20000 in
theorem gX8_told_X8_within : GoodIn wsX8_told (va_wsS RX8 37 yX8_within wsX8_within) := goodIn_app (goodIn_of _ (by decide +kernel)) ggX8_told_X8_within
set_option maxRecDepth 20000 in
theorem ggX8_told_X1_inLowestTerms : GoodIn wsX8_told wsX1_inLowestTerms := goodIn_r _ [16, 17, 18, 15, 19] (by decide +kernel) (by decide +kernel)
set_option maxRecDepth 20000 in
theorem gX8_told_X1_inLowestTerms : GoodIn wsX8_told (va_wsS RX8 231 yX1_inLowestTerms wsX1_inLowestTerms) := goodIn_app (goodIn_of _ (by decide +kernel)) ggX8_told_X1_inLowestTerms
theorem dX8_told_0 : decode cX8_told 0 = .ok (.iload_n 1, 1) := by decide +kernel
theorem dX8_told_1 : decode cX8_told 1 = .ok (.iload_n 2, 1) := by decide +kernel
theorem dX8_told_2 : decode cX8_told 2 = .ok (.iload_n 3, 1) := by decide +kernel
theorem dX8_told_3 : decode cX8_told 3 = .ok (.invokestatic 250, 3) := by decide +kernel
theorem dX8_told_6 : decode cX8_told 6 = .ok (.ifCond .eq 38, 3) := by decide +kernel
theorem dX8_told_9 : decode cX8_told 9 = .ok (.iload_n 1, 1) := by decide +kernel
theorem dX8_told_10 : decode cX8_told 10 = .ok (.iload_n 2, 1) := by decide +kernel
theorem dX8_told_11 : decode cX8_told 11 = .ok (.iload_n 3, 1) := by decide +kernel
theorem dX8_told_12 : decode cX8_told 12 = .ok (.iload 4, 2) := by decide +kernel
theorem dX8_told_14 : decode cX8_told 14 = .ok (.iload 5, 2) := by decide +kernel
theorem dX8_told_16 : decode cX8_told 16 = .ok (.iload 6, 2) := by decide +kernel
theorem dX8_told_18 : decode cX8_told 18 = .ok (.invokestatic 253, 3) := by decide +kernel
theorem dX8_told_21 : decode cX8_told 21 = .ok (.ifCond .eq 23, 3) := by decide +kernel
theorem dX8_told_24 : decode cX8_told 24 = .ok (.iload 7, 2) := by decide +kernel
theorem dX8_told_26 : decode cX8_told 26 = .ok (.iconst 0, 1) := by decide +kernel
theorem dX8_told_27 : decode cX8_told 27 = .ok (.iconst 2, 1) := by decide +kernel
theorem dX8_told_28 : decode cX8_told 28 = .ok (.invokestatic 37, 3) := by decide +kernel
theorem dX8_told_31 : decode cX8_told 31 = .ok (.ifCond .eq 13, 3) := by decide +kernel
theorem dX8_told_34 : decode cX8_told 34 = .ok (.iload 8, 2) := by decide +kernel
theorem dX8_told_36 : decode cX8_told 36 = .ok (.iconst 0, 1) := by decide +kernel
theorem dX8_told_37 : decode cX8_told 37 = .ok (.iconst 1, 1) := by decide +kernel
theorem dX8_told_38 : decode cX8_told 38 = .ok (.invokestatic 37, 3) := by decide +kernel
theorem dX8_told_41 : decode cX8_told 41 = .ok (.ifCond .ne 7, 3) := by decide +kernel
theorem dX8_told_44 : decode cX8_told 44 = .ok (.ldc2_w 223, 3) := by decide +kernel
theorem dX8_told_47 : decode cX8_told 47 = .ok (.lreturn, 1) := by decide +kernel
theorem dX8_told_48 : decode cX8_told 48 = .ok (.iload_n 1, 1) := by decide +kernel
theorem dX8_told_49 : decode cX8_told 49 = .ok (.iload 4, 2) := by decide +kernel
theorem dX8_told_51 : decode cX8_told 51 = .ok (.isub, 1) := by decide +kernel
theorem dX8_told_52 : decode cX8_told 52 = .ok (.iload_n 2, 1) := by decide +kernel
theorem dX8_told_53 : decode cX8_told 53 = .ok (.iadd, 1) := by decide +kernel
theorem dX8_told_54 : decode cX8_told 54 = .ok (.iload 5, 2) := by decide +kernel
theorem dX8_told_56 : decode cX8_told 56 = .ok (.isub, 1) := by decide +kernel
theorem dX8_told_57 : decode cX8_told 57 = .ok (.iload_n 3, 1) := by decide +kernel
theorem dX8_told_58 : decode cX8_told 58 = .ok (.iadd, 1) := by decide +kernel
theorem dX8_told_59 : decode cX8_told 59 = .ok (.iload 6, 2) := by decide +kernel
theorem dX8_told_61 : decode cX8_told 61 = .ok (.isub, 1) := by decide +kernel
theorem dX8_told_62 : decode cX8_told 62 = .ok (.istore 9, 2) := by decide +kernel
theorem dX8_told_64 : decode cX8_told 64 = .ok (.iload 9, 2) := by decide +kernel
theorem dX8_told_66 : decode cX8_told 66 = .ok (.ifCond .ne 7, 3) := by decide +kernel
theorem dX8_told_69 : decode cX8_told 69 = .ok (.ldc2_w 257, 3) := by decide +kernel
theorem dX8_told_72 : decode cX8_told 72 = .ok (.lreturn, 1) := by decide +kernel
theorem dX8_told_73 : decode cX8_told 73 = .ok (.iload 7, 2) := by decide +kernel
theorem dX8_told_75 : decode cX8_told 75 = .ok (.ifCond .ne 10, 3) := by decide +kernel
theorem dX8_told_78 : decode cX8_told 78 = .ok (.iload_n 1, 1) := by decide +kernel
theorem dX8_told_79 : decode cX8_told 79 = .ok (.iload 4, 2) := by decide +kernel
theorem dX8_told_81 : decode cX8_told 81 = .ok (.isub, 1) := by decide +kernel
theorem dX8_told_82 : decode cX8_told 82 = .ok (.goto 20, 3) := by decide +kernel
theorem dX8_told_85 : decode cX8_told 85 = .ok (.iload 7, 2) := by decide +kernel
theorem dX8_told_87 : decode cX8_told 87 = .ok (.iconst 1, 1) := by decide +kernel
theorem dX8_told_88 : decode cX8_told 88 = .ok (.if_icmp .ne 10, 3) := by decide +kernel
theorem dX8_told_91 : decode cX8_told 91 = .ok (.iload_n 2, 1) := by decide +kernel
theorem dX8_told_92 : decode cX8_told 92 = .ok (.iload 5, 2) := by decide +kernel
theorem dX8_told_94 : decode cX8_told 94 = .ok (.isub, 1) := by decide +kernel
theorem dX8_told_95 : decode cX8_told 95 = .ok (.goto 7, 3) := by decide +kernel
theorem dX8_told_98 : decode cX8_told 98 = .ok (.iload_n 3, 1) := by decide +kernel
theorem dX8_told_99 : decode cX8_told 99 = .ok (.iload 6, 2) := by decide +kernel
theorem dX8_told_101 : decode cX8_told 101 = .ok (.isub, 1) := by decide +kernel
theorem dX8_told_102 : decode cX8_told 102 = .ok (.istore 10, 2) := by decide +kernel
theorem dX8_told_104 : decode cX8_told 104 = .ok (.iload 10, 2) := by decide +kernel
theorem dX8_told_106 : decode cX8_told 106 = .ok (.i2l, 1) := by decide +kernel
theorem dX8_told_107 : decode cX8_told 107 = .ok (.iload 9, 2) := by decide +kernel
theorem dX8_told_109 : decode cX8_told 109 = .ok (.i2l, 1) := by decide +kernel
theorem dX8_told_110 : decode cX8_told 110 = .ok (.iload 8, 2) := by decide +kernel
theorem dX8_told_112 : decode cX8_told 112 = .ok (.invokestatic 231, 3) := by decide +kernel
theorem dX8_told_115 : decode cX8_told 115 = .ok (.lreturn, 1) := by decide +kernel
set_option maxRecDepth 20000 in
theorem ggX8_forced_X8_areSums : GoodIn wsX8_forced wsX8_areSums := goodIn_r _ [8, 9, 10, 7, 11] (by decide +kernel) (by decide +kernel)
set_option maxRecDepth 20000 in
theorem gX8_forced_X8_areSums : GoodIn wsX8_forced (va_wsS RX8 250 yX8_areSums wsX8_areSums) := goodIn_app (goodIn_of _ (by decide +kernel)) ggX8_forced_X8_areSums
set_option maxRecDepth 20000 in
theorem ggX8_forced_X8_areKnown : GoodIn wsX8_forced wsX8_areKnown := goodIn_r _ [14, 9, 10, 7, 11] (by decide +kernel) (by decide +kernel)
set_option maxRecDepth 20000 in
theorem gX8_forced_X8_areKnown : GoodIn wsX8_forced (va_wsS RX8 253 yX8_areKnown wsX8_areKnown) := goodIn_app (goodIn_of _ (by decide +kernel)) ggX8_forced_X8_areKnown
theorem dX8_forced_0 : decode cX8_forced 0 = .ok (.iload_n 1, 1) := by decide +kernel
theorem dX8_forced_1 : decode cX8_forced 1 = .ok (.iload_n 2, 1) := by decide +kernel
theorem dX8_forced_2 : decode cX8_forced 2 = .ok (.iload_n 3, 1) := by decide +kernel
theorem dX8_forced_3 : decode cX8_forced 3 = .ok (.invokestatic 250, 3) := by decide +kernel
theorem dX8_forced_6 : decode cX8_forced 6 = .ok (.ifCond .eq 18, 3) := by decide +kernel
theorem dX8_forced_9 : decode cX8_forced 9 = .ok (.iload_n 1, 1) := by decide +kernel
theorem dX8_forced_10 : decode cX8_forced 10 = .ok (.iload_n 2, 1) := by decide +kernel
theorem dX8_forced_11 : decode cX8_forced 11 = .ok (.iload_n 3, 1) := by decide +kernel
theorem dX8_forced_12 : decode cX8_forced 12 = .ok (.iload 4, 2) := by decide +kernel
theorem dX8_forced_14 : decode cX8_forced 14 = .ok (.iload 5, 2) := by decide +kernel
theorem dX8_forced_16 : decode cX8_forced 16 = .ok (.iload 6, 2) := by decide +kernel
theorem dX8_forced_18 : decode cX8_forced 18 = .ok (.invokestatic 253, 3) := by decide +kernel
theorem dX8_forced_21 : decode cX8_forced 21 = .ok (.ifCond .ne 6, 3) := by decide +kernel
theorem dX8_forced_24 : decode cX8_forced 24 = .ok (.bipush (-2), 2) := by decide +kernel
theorem dX8_forced_26 : decode cX8_forced 26 = .ok (.ireturn, 1) := by decide +kernel
theorem dX8_forced_27 : decode cX8_forced 27 = .ok (.iload_n 1, 1) := by decide +kernel
theorem dX8_forced_28 : decode cX8_forced 28 = .ok (.iload 4, 2) := by decide +kernel
theorem dX8_forced_30 : decode cX8_forced 30 = .ok (.isub, 1) := by decide +kernel
theorem dX8_forced_31 : decode cX8_forced 31 = .ok (.iload_n 2, 1) := by decide +kernel
theorem dX8_forced_32 : decode cX8_forced 32 = .ok (.iadd, 1) := by decide +kernel
theorem dX8_forced_33 : decode cX8_forced 33 = .ok (.iload 5, 2) := by decide +kernel
theorem dX8_forced_35 : decode cX8_forced 35 = .ok (.isub, 1) := by decide +kernel
theorem dX8_forced_36 : decode cX8_forced 36 = .ok (.iload_n 3, 1) := by decide +kernel
theorem dX8_forced_37 : decode cX8_forced 37 = .ok (.iadd, 1) := by decide +kernel
theorem dX8_forced_38 : decode cX8_forced 38 = .ok (.iload 6, 2) := by decide +kernel
theorem dX8_forced_40 : decode cX8_forced 40 = .ok (.isub, 1) := by decide +kernel
theorem dX8_forced_41 : decode cX8_forced 41 = .ok (.istore 7, 2) := by decide +kernel
theorem dX8_forced_43 : decode cX8_forced 43 = .ok (.iload 7, 2) := by decide +kernel
theorem dX8_forced_45 : decode cX8_forced 45 = .ok (.iload_n 1, 1) := by decide +kernel
theorem dX8_forced_46 : decode cX8_forced 46 = .ok (.iload 4, 2) := by decide +kernel
theorem dX8_forced_48 : decode cX8_forced 48 = .ok (.isub, 1) := by decide +kernel
theorem dX8_forced_49 : decode cX8_forced 49 = .ok (.iload_n 2, 1) := by decide +kernel
theorem dX8_forced_50 : decode cX8_forced 50 = .ok (.iload 5, 2) := by decide +kernel
theorem dX8_forced_52 : decode cX8_forced 52 = .ok (.isub, 1) := by decide +kernel
theorem dX8_forced_53 : decode cX8_forced 53 = .ok (.iload_n 3, 1) := by decide +kernel
theorem dX8_forced_54 : decode cX8_forced 54 = .ok (.iload 6, 2) := by decide +kernel
theorem dX8_forced_56 : decode cX8_forced 56 = .ok (.isub, 1) := by decide +kernel
theorem dX8_forced_57 : decode cX8_forced 57 = .ok (.invokestatic 259, 3) := by decide +kernel
theorem dX8_forced_60 : decode cX8_forced 60 = .ok (.invokestatic 259, 3) := by decide +kernel
theorem dX8_forced_63 : decode cX8_forced 63 = .ok (.isub, 1) := by decide +kernel
theorem dX8_forced_64 : decode cX8_forced 64 = .ok (.ireturn, 1) := by decide +kernel
set_option maxRecDepth 20000 in
theorem ggX8_count_X8_within : GoodIn wsX8_count wsX8_within := goodIn_r _ [7] (by decide +kernel) (by decide +kernel)
set_option maxRecDepth 20000 in
theorem gX8_count_X8_within : GoodIn wsX8_count (va_wsS RX8 37 yX8_within wsX8_within) := goodIn_app (goodIn_of _ (by decide +kernel)) ggX8_count_X8_within
set_option maxRecDepth 20000 in
theorem ggX8_count_X7_howManyAre : GoodIn wsX8_count wsX7_howManyAre := goodIn_r _ [12, 13, 14, 15, 16, 11, 17, 18, 19, 20, 21, 22, 23, 24, 25, 26, 27, 28, 29, 30, 31, 32, 33, 34, 35, 36, 37, 38, 39, 40, 41, 42, 43, 44, 45, 46, 47, 48, 49, 50, 51, 52, 53, 54, 55, 56, 57, 58, 59, 60, 98, 99, 100, 101, 102, 103, 104, 105, 106, 107, 108, 109, 110, 111, 112, 113] (by decide +kernel) (by decide +kernel)
set_option maxRecDepth 20000 in
theorem gX8_count_X7_howManyAre : GoodIn wsX8_count (wsV RX8 208 RX7 yX7_howManyAre wsX7_howManyAre) := goodIn_app (goodIn_of _ (by decide +kernel)) ggX8_count_X7_howManyAre
set_option maxRecDepth 20000 in
theorem ggX8_count_X7_size : GoodIn wsX8_count wsX7_size := goodIn_r _ [64, 13, 98, 99, 100, 101, 102] (by decide +kernel) (by decide +kernel)
set_option maxRecDepth 20000 in
theorem gX8_count_X7_size : GoodIn wsX8_count (wsV RX8 45 RX7 yX7_size wsX7_size) := goodIn_app (goodIn_of _ (by decide +kernel)) ggX8_count_X7_size
set_option maxRecDepth 20000 in
theorem ggX8_count_X4_draft : GoodIn wsX8_count wsX4_draft := goodIn_r _ [68, 69, 109, 110, 111] (by decide +kernel) (by decide +kernel)
set_option maxRecDepth 20000 in
theorem gX8_count_X4_draft : GoodIn wsX8_count (wsV RX8 128 RX4 yX4_draft wsX4_draft) := goodIn_app (goodIn_of _ (by decide +kernel)) ggX8_count_X4_draft
set_option maxRecDepth 20000 in
theorem ggX8_count_X6_size : GoodIn wsX8_count wsX6_size := goodIn_r _ [73, 43, 112, 113] (by decide +kernel) (by decide +kernel)
set_option maxRecDepth 20000 in
theorem gX8_count_X6_size : GoodIn wsX8_count (wsV RX8 137 RX6 yX6_size wsX6_size) := goodIn_app (goodIn_of _ (by decide +kernel)) ggX8_count_X6_size
set_option maxRecDepth 20000 in
theorem ggX8_count_X0_h : GoodIn wsX8_count wsX0_h := goodIn_r _ [78, 79, 114, 115, 116, 117, 118] (by decide +kernel) (by decide +kernel)
set_option maxRecDepth 20000 in
theorem gX8_count_X0_h : GoodIn wsX8_count (wsV RX8 53 RX0 yX0_h wsX0_h) := goodIn_app (goodIn_of _ (by decide +kernel)) ggX8_count_X0_h
set_option maxRecDepth 20000 in
theorem ggX8_count_X0_need : GoodIn wsX8_count wsX0_need := goodIn_r _ [83, 84, 114, 115, 116, 117, 118] (by decide +kernel) (by decide +kernel)
set_option maxRecDepth 20000 in
theorem gX8_count_X0_need : GoodIn wsX8_count (wsV RX8 96 RX0 yX0_need wsX0_need) := goodIn_app (goodIn_of _ (by decide +kernel)) ggX8_count_X0_need
set_option maxRecDepth 20000 in
theorem ggX8_count_X7_closeHour : GoodIn wsX8_count wsX7_closeHour := goodIn_r _ [88, 19, 98, 99, 100, 101, 102] (by decide +kernel) (by decide +kernel)
set_option maxRecDepth 20000 in
theorem gX8_count_X7_closeHour : GoodIn wsX8_count (wsV RX8 264 RX7 yX7_closeHour wsX7_closeHour) := goodIn_app (goodIn_of _ (by decide +kernel)) ggX8_count_X7_closeHour
set_option maxRecDepth 20000 in
theorem ggX8_count_X7_copiedSize : GoodIn wsX8_count wsX7_copiedSize := goodIn_r _ [92, 93, 98, 99, 100, 101, 102] (by decide +kernel) (by decide +kernel)
set_option maxRecDepth 20000 in
theorem gX8_count_X7_copiedSize : GoodIn wsX8_count (wsV RX8 214 RX7 yX7_copiedSize wsX7_copiedSize) := goodIn_app (goodIn_of _ (by decide +kernel)) ggX8_count_X7_copiedSize
theorem dX8_count_0 : decode cX8_count 0 = .ok (.iload_n 1, 1) := by decide +kernel
theorem dX8_count_1 : decode cX8_count 1 = .ok (.bipush 10, 2) := by decide +kernel
theorem dX8_count_3 : decode cX8_count 3 = .ok (.bipush 14, 2) := by decide +kernel
theorem dX8_count_5 : decode cX8_count 5 = .ok (.invokestatic 37, 3) := by decide +kernel
theorem dX8_count_8 : decode cX8_count 8 = .ok (.ifCond .eq 19, 3) := by decide +kernel
theorem dX8_count_11 : decode cX8_count 11 = .ok (.aload_n 0, 1) := by decide +kernel
theorem dX8_count_12 : decode cX8_count 12 = .ok (.getfield 33, 3) := by decide +kernel
theorem dX8_count_15 : decode cX8_count 15 = .ok (.iload_n 1, 1) := by decide +kernel
theorem dX8_count_16 : decode cX8_count 16 = .ok (.bipush 10, 2) := by decide +kernel
theorem dX8_count_18 : decode cX8_count 18 = .ok (.isub, 1) := by decide +kernel
theorem dX8_count_19 : decode cX8_count 19 = .ok (.aload_n 0, 1) := by decide +kernel
theorem dX8_count_20 : decode cX8_count 20 = .ok (.getfield 26, 3) := by decide +kernel
theorem dX8_count_23 : decode cX8_count 23 = .ok (.invokevirtual 208, 3) := by decide +kernel
theorem dX8_count_26 : decode cX8_count 26 = .ok (.ireturn, 1) := by decide +kernel
theorem dX8_count_27 : decode cX8_count 27 = .ok (.iload_n 1, 1) := by decide +kernel
theorem dX8_count_28 : decode cX8_count 28 = .ok (.tableswitch 91 0 5 #[40, 48, 59, 67, 75, 83], 40) := by decide +kernel
theorem dX8_count_68 : decode cX8_count 68 = .ok (.aload_n 0, 1) := by decide +kernel
theorem dX8_count_69 : decode cX8_count 69 = .ok (.getfield 33, 3) := by decide +kernel
theorem dX8_count_72 : decode cX8_count 72 = .ok (.invokevirtual 45, 3) := by decide +kernel
theorem dX8_count_75 : decode cX8_count 75 = .ok (.ireturn, 1) := by decide +kernel
theorem dX8_count_76 : decode cX8_count 76 = .ok (.aload_n 0, 1) := by decide +kernel
theorem dX8_count_77 : decode cX8_count 77 = .ok (.getfield 26, 3) := by decide +kernel
theorem dX8_count_80 : decode cX8_count 80 = .ok (.invokevirtual 128, 3) := by decide +kernel
theorem dX8_count_83 : decode cX8_count 83 = .ok (.invokevirtual 137, 3) := by decide +kernel
theorem dX8_count_86 : decode cX8_count 86 = .ok (.ireturn, 1) := by decide +kernel
theorem dX8_count_87 : decode cX8_count 87 = .ok (.aload_n 0, 1) := by decide +kernel
theorem dX8_count_88 : decode cX8_count 88 = .ok (.getfield 10, 3) := by decide +kernel
theorem dX8_count_91 : decode cX8_count 91 = .ok (.invokevirtual 53, 3) := by decide +kernel
theorem dX8_count_94 : decode cX8_count 94 = .ok (.ireturn, 1) := by decide +kernel
theorem dX8_count_95 : decode cX8_count 95 = .ok (.aload_n 0, 1) := by decide +kernel
theorem dX8_count_96 : decode cX8_count 96 = .ok (.getfield 10, 3) := by decide +kernel
theorem dX8_count_99 : decode cX8_count 99 = .ok (.invokevirtual 96, 3) := by decide +kernel
theorem dX8_count_102 : decode cX8_count 102 = .ok (.ireturn, 1) := by decide +kernel
theorem dX8_count_103 : decode cX8_count 103 = .ok (.aload_n 0, 1) := by decide +kernel
theorem dX8_count_104 : decode cX8_count 104 = .ok (.getfield 33, 3) := by decide +kernel
theorem dX8_count_107 : decode cX8_count 107 = .ok (.invokevirtual 264, 3) := by decide +kernel
theorem dX8_count_110 : decode cX8_count 110 = .ok (.ireturn, 1) := by decide +kernel
theorem dX8_count_111 : decode cX8_count 111 = .ok (.aload_n 0, 1) := by decide +kernel
theorem dX8_count_112 : decode cX8_count 112 = .ok (.getfield 33, 3) := by decide +kernel
theorem dX8_count_115 : decode cX8_count 115 = .ok (.invokevirtual 214, 3) := by decide +kernel
theorem dX8_count_118 : decode cX8_count 118 = .ok (.ireturn, 1) := by decide +kernel
theorem dX8_count_119 : decode cX8_count 119 = .ok (.bipush (-2), 2) := by decide +kernel
theorem dX8_count_121 : decode cX8_count 121 = .ok (.ireturn, 1) := by decide +kernel
theorem dX8_within_0 : decode cX8_within 0 = .ok (.iload_n 0, 1) := by decide +kernel
theorem dX8_within_1 : decode cX8_within 1 = .ok (.iload_n 1, 1) := by decide +kernel
theorem dX8_within_2 : decode cX8_within 2 = .ok (.if_icmp .lt 12, 3) := by decide +kernel
theorem dX8_within_5 : decode cX8_within 5 = .ok (.iload_n 0, 1) := by decide +kernel
theorem dX8_within_6 : decode cX8_within 6 = .ok (.iload_n 2, 1) := by decide +kernel
theorem dX8_within_7 : decode cX8_within 7 = .ok (.if_icmp .gt 7, 3) := by decide +kernel
theorem dX8_within_10 : decode cX8_within 10 = .ok (.iconst 1, 1) := by decide +kernel
theorem dX8_within_11 : decode cX8_within 11 = .ok (.goto 4, 3) := by decide +kernel
theorem dX8_within_14 : decode cX8_within 14 = .ok (.iconst 0, 1) := by decide +kernel
theorem dX8_within_15 : decode cX8_within 15 = .ok (.ireturn, 1) := by decide +kernel
set_option maxRecDepth 20000 in
theorem ggX8_isExponent_X8_within : GoodIn wsX8_isExponent wsX8_within := goodIn_r _ [4] (by decide +kernel) (by decide +kernel)
set_option maxRecDepth 20000 in
theorem gX8_isExponent_X8_within : GoodIn wsX8_isExponent (va_wsS RX8 37 yX8_within wsX8_within) := goodIn_app (goodIn_of _ (by decide +kernel)) ggX8_isExponent_X8_within
theorem dX8_isExponent_0 : decode cX8_isExponent 0 = .ok (.iload_n 0, 1) := by decide +kernel
theorem dX8_isExponent_1 : decode cX8_isExponent 1 = .ok (.iconst 0, 1) := by decide +kernel
theorem dX8_isExponent_2 : decode cX8_isExponent 2 = .ok (.sipush 5002, 3) := by decide +kernel
theorem dX8_isExponent_5 : decode cX8_isExponent 5 = .ok (.invokestatic 37, 3) := by decide +kernel
theorem dX8_isExponent_8 : decode cX8_isExponent 8 = .ok (.ireturn, 1) := by decide +kernel
set_option maxRecDepth 20000 in
theorem ggX8_areLots_X8_isExponent : GoodIn wsX8_areLots wsX8_isExponent := goodIn_r _ [4, 5, 6, 3, 7] (by decide +kernel) (by decide +kernel)
set_option maxRecDepth 20000 in
theorem gX8_areLots_X8_isExponent : GoodIn wsX8_areLots (va_wsS RX8 41 yX8_isExponent wsX8_isExponent) := goodIn_app (goodIn_of _ (by decide +kernel)) ggX8_areLots_X8_isExponent
theorem dX8_areLots_0 : decode cX8_areLots 0 = .ok (.iload_n 0, 1) := by decide +kernel
theorem dX8_areLots_1 : decode cX8_areLots 1 = .ok (.invokestatic 41, 3) := by decide +kernel
theorem dX8_areLots_4 : decode cX8_areLots 4 = .ok (.ifCond .eq 28, 3) := by decide +kernel
theorem dX8_areLots_7 : decode cX8_areLots 7 = .ok (.iload_n 1, 1) := by decide +kernel
theorem dX8_areLots_8 : decode cX8_areLots 8 = .ok (.invokestatic 41, 3) := by decide +kernel
theorem dX8_areLots_11 : decode cX8_areLots 11 = .ok (.ifCond .eq 21, 3) := by decide +kernel
theorem dX8_areLots_14 : decode cX8_areLots 14 = .ok (.iload_n 2, 1) := by decide +kernel
theorem dX8_areLots_15 : decode cX8_areLots 15 = .ok (.invokestatic 41, 3) := by decide +kernel
theorem dX8_areLots_18 : decode cX8_areLots 18 = .ok (.ifCond .eq 14, 3) := by decide +kernel
theorem dX8_areLots_21 : decode cX8_areLots 21 = .ok (.iload_n 3, 1) := by decide +kernel
theorem dX8_areLots_22 : decode cX8_areLots 22 = .ok (.invokestatic 41, 3) := by decide +kernel
theorem dX8_areLots_25 : decode cX8_areLots 25 = .ok (.ifCond .eq 7, 3) := by decide +kernel
theorem dX8_areLots_28 : decode cX8_areLots 28 = .ok (.iconst 1, 1) := by decide +kernel
theorem dX8_areLots_29 : decode cX8_areLots 29 = .ok (.goto 4, 3) := by decide +kernel
theorem dX8_areLots_32 : decode cX8_areLots 32 = .ok (.iconst 0, 1) := by decide +kernel
theorem dX8_areLots_33 : decode cX8_areLots 33 = .ok (.ireturn, 1) := by decide +kernel
set_option maxRecDepth 20000 in
theorem ggX8_isResidue_X8_within : GoodIn wsX8_isResidue wsX8_within := goodIn_r _ [4] (by decide +kernel) (by decide +kernel)
set_option maxRecDepth 20000 in
theorem gX8_isResidue_X8_within : GoodIn wsX8_isResidue (va_wsS RX8 37 yX8_within wsX8_within) := goodIn_app (goodIn_of _ (by decide +kernel)) ggX8_isResidue_X8_within
theorem dX8_isResidue_0 : decode cX8_isResidue 0 = .ok (.iload_n 0, 1) := by decide +kernel
theorem dX8_isResidue_1 : decode cX8_isResidue 1 = .ok (.iconst 1, 1) := by decide +kernel
theorem dX8_isResidue_2 : decode cX8_isResidue 2 = .ok (.sipush 10006, 3) := by decide +kernel
theorem dX8_isResidue_5 : decode cX8_isResidue 5 = .ok (.invokestatic 37, 3) := by decide +kernel
theorem dX8_isResidue_8 : decode cX8_isResidue 8 = .ok (.ireturn, 1) := by decide +kernel
set_option maxRecDepth 20000 in
theorem ggX8_isHolder_X8_within : GoodIn wsX8_isHolder wsX8_within := goodIn_r _ [4] (by decide +kernel) (by decide +kernel)
set_option maxRecDepth 20000 in
theorem gX8_isHolder_X8_within : GoodIn wsX8_isHolder (va_wsS RX8 37 yX8_within wsX8_within) := goodIn_app (goodIn_of _ (by decide +kernel)) ggX8_isHolder_X8_within
theorem dX8_isHolder_0 : decode cX8_isHolder 0 = .ok (.iload_n 0, 1) := by decide +kernel
theorem dX8_isHolder_1 : decode cX8_isHolder 1 = .ok (.iconst 1, 1) := by decide +kernel
theorem dX8_isHolder_2 : decode cX8_isHolder 2 = .ok (.iconst 5, 1) := by decide +kernel
theorem dX8_isHolder_3 : decode cX8_isHolder 3 = .ok (.invokestatic 37, 3) := by decide +kernel
theorem dX8_isHolder_6 : decode cX8_isHolder 6 = .ok (.ireturn, 1) := by decide +kernel
set_option maxRecDepth 20000 in
theorem ggX8_isSet_X8_within : GoodIn wsX8_isSet wsX8_within := goodIn_r _ [4] (by decide +kernel) (by decide +kernel)
set_option maxRecDepth 20000 in
theorem gX8_isSet_X8_within : GoodIn wsX8_isSet (va_wsS RX8 37 yX8_within wsX8_within) := goodIn_app (goodIn_of _ (by decide +kernel)) ggX8_isSet_X8_within
theorem dX8_isSet_0 : decode cX8_isSet 0 = .ok (.iload_n 0, 1) := by decide +kernel
theorem dX8_isSet_1 : decode cX8_isSet 1 = .ok (.iconst 2, 1) := by decide +kernel
theorem dX8_isSet_2 : decode cX8_isSet 2 = .ok (.bipush 62, 2) := by decide +kernel
theorem dX8_isSet_4 : decode cX8_isSet 4 = .ok (.invokestatic 37, 3) := by decide +kernel
theorem dX8_isSet_7 : decode cX8_isSet 7 = .ok (.ifCond .eq 13, 3) := by decide +kernel
theorem dX8_isSet_10 : decode cX8_isSet 10 = .ok (.iload_n 0, 1) := by decide +kernel
theorem dX8_isSet_11 : decode cX8_isSet 11 = .ok (.iconst 1, 1) := by decide +kernel
theorem dX8_isSet_12 : decode cX8_isSet 12 = .ok (.iand, 1) := by decide +kernel
theorem dX8_isSet_13 : decode cX8_isSet 13 = .ok (.ifCond .ne 7, 3) := by decide +kernel
theorem dX8_isSet_16 : decode cX8_isSet 16 = .ok (.iconst 1, 1) := by decide +kernel
theorem dX8_isSet_17 : decode cX8_isSet 17 = .ok (.goto 4, 3) := by decide +kernel
theorem dX8_isSet_20 : decode cX8_isSet 20 = .ok (.iconst 0, 1) := by decide +kernel
theorem dX8_isSet_21 : decode cX8_isSet 21 = .ok (.ireturn, 1) := by decide +kernel
theorem dX8_isIn_0 : decode cX8_isIn 0 = .ok (.iload_n 1, 1) := by decide +kernel
theorem dX8_isIn_1 : decode cX8_isIn 1 = .ok (.iload_n 0, 1) := by decide +kernel
theorem dX8_isIn_2 : decode cX8_isIn 2 = .ok (.ishr, 1) := by decide +kernel
theorem dX8_isIn_3 : decode cX8_isIn 3 = .ok (.iconst 1, 1) := by decide +kernel
theorem dX8_isIn_4 : decode cX8_isIn 4 = .ok (.iand, 1) := by decide +kernel
theorem dX8_isIn_5 : decode cX8_isIn 5 = .ok (.iconst 1, 1) := by decide +kernel
theorem dX8_isIn_6 : decode cX8_isIn 6 = .ok (.if_icmp .ne 7, 3) := by decide +kernel
theorem dX8_isIn_9 : decode cX8_isIn 9 = .ok (.iconst 1, 1) := by decide +kernel
theorem dX8_isIn_10 : decode cX8_isIn 10 = .ok (.goto 4, 3) := by decide +kernel
theorem dX8_isIn_13 : decode cX8_isIn 13 = .ok (.iconst 0, 1) := by decide +kernel
theorem dX8_isIn_14 : decode cX8_isIn 14 = .ok (.ireturn, 1) := by decide +kernel
set_option maxRecDepth 20000 in
theorem ggX8_isVoter_X8_within : GoodIn wsX8_isVoter wsX8_within := goodIn_r _ [4] (by decide +kernel) (by decide +kernel)
set_option maxRecDepth 20000 in
theorem gX8_isVoter_X8_within : GoodIn wsX8_isVoter (va_wsS RX8 37 yX8_within wsX8_within) := goodIn_app (goodIn_of _ (by decide +kernel)) ggX8_isVoter_X8_within
theorem dX8_isVoter_0 : decode cX8_isVoter 0 = .ok (.iload_n 0, 1) := by decide +kernel
theorem dX8_isVoter_1 : decode cX8_isVoter 1 = .ok (.iconst 0, 1) := by decide +kernel
theorem dX8_isVoter_2 : decode cX8_isVoter 2 = .ok (.bipush 11, 2) := by decide +kernel
theorem dX8_isVoter_4 : decode cX8_isVoter 4 = .ok (.invokestatic 37, 3) := by decide +kernel
theorem dX8_isVoter_7 : decode cX8_isVoter 7 = .ok (.ireturn, 1) := by decide +kernel
set_option maxRecDepth 20000 in
theorem ggX8_isRowNumber_X8_within : GoodIn wsX8_isRowNumber wsX8_within := goodIn_r _ [5] (by decide +kernel) (by decide +kernel)
set_option maxRecDepth 20000 in
theorem gX8_isRowNumber_X8_within : GoodIn wsX8_isRowNumber (va_wsS RX8 37 yX8_within wsX8_within) := goodIn_app (goodIn_of _ (by decide +kernel)) ggX8_isRowNumber_X8_within
theorem dX8_isRowNumber_0 : decode cX8_isRowNumber 0 = .ok (.iload_n 0, 1) := by decide +kernel
theorem dX8_isRowNumber_1 : decode cX8_isRowNumber 1 = .ok (.iconst 0, 1) := by decide +kernel
theorem dX8_isRowNumber_2 : decode cX8_isRowNumber 2 = .ok (.ldc 243, 2) := by decide +kernel
theorem dX8_isRowNumber_4 : decode cX8_isRowNumber 4 = .ok (.invokestatic 37, 3) := by decide +kernel
theorem dX8_isRowNumber_7 : decode cX8_isRowNumber 7 = .ok (.ireturn, 1) := by decide +kernel
set_option maxRecDepth 20000 in
theorem ggX8_areBooth_X8_within : GoodIn wsX8_areBooth wsX8_within := goodIn_r _ [4] (by decide +kernel) (by decide +kernel)
set_option maxRecDepth 20000 in
theorem gX8_areBooth_X8_within : GoodIn wsX8_areBooth (va_wsS RX8 37 yX8_within wsX8_within) := goodIn_app (goodIn_of _ (by decide +kernel)) ggX8_areBooth_X8_within
theorem dX8_areBooth_0 : decode cX8_areBooth 0 = .ok (.iload_n 0, 1) := by decide +kernel
theorem dX8_areBooth_1 : decode cX8_areBooth 1 = .ok (.iconst 1, 1) := by decide +kernel
theorem dX8_areBooth_2 : decode cX8_areBooth 2 = .ok (.bipush 40, 2) := by decide +kernel
theorem dX8_areBooth_4 : decode cX8_areBooth 4 = .ok (.invokestatic 37, 3) := by decide +kernel
theorem dX8_areBooth_7 : decode cX8_areBooth 7 = .ok (.ifCond .eq 16, 3) := by decide +kernel
theorem dX8_areBooth_10 : decode cX8_areBooth 10 = .ok (.iload_n 1, 1) := by decide +kernel
theorem dX8_areBooth_11 : decode cX8_areBooth 11 = .ok (.iconst 0, 1) := by decide +kernel
theorem dX8_areBooth_12 : decode cX8_areBooth 12 = .ok (.iload_n 0, 1) := by decide +kernel
theorem dX8_areBooth_13 : decode cX8_areBooth 13 = .ok (.invokestatic 37, 3) := by decide +kernel
theorem dX8_areBooth_16 : decode cX8_areBooth 16 = .ok (.ifCond .eq 7, 3) := by decide +kernel
theorem dX8_areBooth_19 : decode cX8_areBooth 19 = .ok (.iconst 1, 1) := by decide +kernel
theorem dX8_areBooth_20 : decode cX8_areBooth 20 = .ok (.goto 4, 3) := by decide +kernel
theorem dX8_areBooth_23 : decode cX8_areBooth 23 = .ok (.iconst 0, 1) := by decide +kernel
theorem dX8_areBooth_24 : decode cX8_areBooth 24 = .ok (.ireturn, 1) := by decide +kernel
set_option maxRecDepth 20000 in
theorem ggX8_areSums_X8_within : GoodIn wsX8_areSums wsX8_within := goodIn_r _ [4] (by decide +kernel) (by decide +kernel)
set_option maxRecDepth 20000 in
theorem gX8_areSums_X8_within : GoodIn wsX8_areSums (va_wsS RX8 37 yX8_within wsX8_within) := goodIn_app (goodIn_of _ (by decide +kernel)) ggX8_areSums_X8_within
theorem dX8_areSums_0 : decode cX8_areSums 0 = .ok (.iload_n 0, 1) := by decide +kernel
theorem dX8_areSums_1 : decode cX8_areSums 1 = .ok (.iconst 0, 1) := by decide +kernel
theorem dX8_areSums_2 : decode cX8_areSums 2 = .ok (.bipush 8, 2) := by decide +kernel
theorem dX8_areSums_4 : decode cX8_areSums 4 = .ok (.invokestatic 37, 3) := by decide +kernel
theorem dX8_areSums_7 : decode cX8_areSums 7 = .ok (.ifCond .eq 41, 3) := by decide +kernel
theorem dX8_areSums_10 : decode cX8_areSums 10 = .ok (.iload_n 1, 1) := by decide +kernel
theorem dX8_areSums_11 : decode cX8_areSums 11 = .ok (.iconst 0, 1) := by decide +kernel
theorem dX8_areSums_12 : decode cX8_areSums 12 = .ok (.bipush 8, 2) := by decide +kernel
theorem dX8_areSums_14 : decode cX8_areSums 14 = .ok (.invokestatic 37, 3) := by decide +kernel
theorem dX8_areSums_17 : decode cX8_areSums 17 = .ok (.ifCond .eq 31, 3) := by decide +kernel
theorem dX8_areSums_20 : decode cX8_areSums 20 = .ok (.iload_n 2, 1) := by decide +kernel
theorem dX8_areSums_21 : decode cX8_areSums 21 = .ok (.iconst 0, 1) := by decide +kernel
theorem dX8_areSums_22 : decode cX8_areSums 22 = .ok (.bipush 8, 2) := by decide +kernel
theorem dX8_areSums_24 : decode cX8_areSums 24 = .ok (.invokestatic 37, 3) := by decide +kernel
theorem dX8_areSums_27 : decode cX8_areSums 27 = .ok (.ifCond .eq 21, 3) := by decide +kernel
theorem dX8_areSums_30 : decode cX8_areSums 30 = .ok (.iload_n 0, 1) := by decide +kernel
theorem dX8_areSums_31 : decode cX8_areSums 31 = .ok (.iload_n 1, 1) := by decide +kernel
theorem dX8_areSums_32 : decode cX8_areSums 32 = .ok (.iadd, 1) := by decide +kernel
theorem dX8_areSums_33 : decode cX8_areSums 33 = .ok (.iload_n 2, 1) := by decide +kernel
theorem dX8_areSums_34 : decode cX8_areSums 34 = .ok (.iadd, 1) := by decide +kernel
theorem dX8_areSums_35 : decode cX8_areSums 35 = .ok (.iconst 1, 1) := by decide +kernel
theorem dX8_areSums_36 : decode cX8_areSums 36 = .ok (.bipush 8, 2) := by decide +kernel
theorem dX8_areSums_38 : decode cX8_areSums 38 = .ok (.invokestatic 37, 3) := by decide +kernel
theorem dX8_areSums_41 : decode cX8_areSums 41 = .ok (.ifCond .eq 7, 3) := by decide +kernel
theorem dX8_areSums_44 : decode cX8_areSums 44 = .ok (.iconst 1, 1) := by decide +kernel
theorem dX8_areSums_45 : decode cX8_areSums 45 = .ok (.goto 4, 3) := by decide +kernel
theorem dX8_areSums_48 : decode cX8_areSums 48 = .ok (.iconst 0, 1) := by decide +kernel
theorem dX8_areSums_49 : decode cX8_areSums 49 = .ok (.ireturn, 1) := by decide +kernel
set_option maxRecDepth 20000 in
theorem ggX8_areKnown_X8_within : GoodIn wsX8_areKnown wsX8_within := goodIn_r _ [4] (by decide +kernel) (by decide +kernel)
set_option maxRecDepth 20000 in
theorem gX8_areKnown_X8_within : GoodIn wsX8_areKnown (va_wsS RX8 37 yX8_within wsX8_within) := goodIn_app (goodIn_of _ (by decide +kernel)) ggX8_areKnown_X8_within
theorem dX8_areKnown_0 : decode cX8_areKnown 0 = .ok (.iload_n 3, 1) := by decide +kernel
theorem dX8_areKnown_1 : decode cX8_areKnown 1 = .ok (.iconst 0, 1) := by decide +kernel
theorem dX8_areKnown_2 : decode cX8_areKnown 2 = .ok (.iload_n 0, 1) := by decide +kernel
theorem dX8_areKnown_3 : decode cX8_areKnown 3 = .ok (.invokestatic 37, 3) := by decide +kernel
theorem dX8_areKnown_6 : decode cX8_areKnown 6 = .ok (.ifCond .eq 27, 3) := by decide +kernel
theorem dX8_areKnown_9 : decode cX8_areKnown 9 = .ok (.iload 4, 2) := by decide +kernel
theorem dX8_areKnown_11 : decode cX8_areKnown 11 = .ok (.iconst 0, 1) := by decide +kernel
theorem dX8_areKnown_12 : decode cX8_areKnown 12 = .ok (.iload_n 1, 1) := by decide +kernel
theorem dX8_areKnown_13 : decode cX8_areKnown 13 = .ok (.invokestatic 37, 3) := by decide +kernel
theorem dX8_areKnown_16 : decode cX8_areKnown 16 = .ok (.ifCond .eq 17, 3) := by decide +kernel
theorem dX8_areKnown_19 : decode cX8_areKnown 19 = .ok (.iload 5, 2) := by decide +kernel
theorem dX8_areKnown_21 : decode cX8_areKnown 21 = .ok (.iconst 0, 1) := by decide +kernel
theorem dX8_areKnown_22 : decode cX8_areKnown 22 = .ok (.iload_n 2, 1) := by decide +kernel
theorem dX8_areKnown_23 : decode cX8_areKnown 23 = .ok (.invokestatic 37, 3) := by decide +kernel
theorem dX8_areKnown_26 : decode cX8_areKnown 26 = .ok (.ifCond .eq 7, 3) := by decide +kernel
theorem dX8_areKnown_29 : decode cX8_areKnown 29 = .ok (.iconst 1, 1) := by decide +kernel
theorem dX8_areKnown_30 : decode cX8_areKnown 30 = .ok (.goto 4, 3) := by decide +kernel
theorem dX8_areKnown_33 : decode cX8_areKnown 33 = .ok (.iconst 0, 1) := by decide +kernel
theorem dX8_areKnown_34 : decode cX8_areKnown 34 = .ok (.ireturn, 1) := by decide +kernel
