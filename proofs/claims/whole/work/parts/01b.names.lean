theorem dX0_init_0 : decode cX0_init 0 = .ok (.aload_n 0, 1) := by decide +kernel
theorem dX0_init_1 : decode cX0_init 1 = .ok (.invokespecial 3, 3) := by decide +kernel
theorem dX0_init_4 : decode cX0_init 4 = .ok (.aload_n 0, 1) := by decide +kernel
theorem dX0_init_5 : decode cX0_init 5 = .ok (.iconst 1, 1) := by decide +kernel
theorem dX0_init_6 : decode cX0_init 6 = .ok (.putfield 9, 3) := by decide +kernel
theorem dX0_init_9 : decode cX0_init 9 = .ok (.aload_n 0, 1) := by decide +kernel
theorem dX0_init_10 : decode cX0_init 10 = .ok (.iconst 1, 1) := by decide +kernel
theorem dX0_init_11 : decode cX0_init 11 = .ok (.putfield 15, 3) := by decide +kernel
theorem dX0_init_14 : decode cX0_init 14 = .ok (.aload_n 0, 1) := by decide +kernel
theorem dX0_init_15 : decode cX0_init 15 = .ok (.iconst 0, 1) := by decide +kernel
theorem dX0_init_16 : decode cX0_init 16 = .ok (.putfield 18, 3) := by decide +kernel
theorem dX0_init_19 : decode cX0_init 19 = .ok (.aload_n 0, 1) := by decide +kernel
theorem dX0_init_20 : decode cX0_init 20 = .ok (.iconst 0, 1) := by decide +kernel
theorem dX0_init_21 : decode cX0_init 21 = .ok (.putfield 21, 3) := by decide +kernel
theorem dX0_init_24 : decode cX0_init 24 = .ok (.aload_n 0, 1) := by decide +kernel
theorem dX0_init_25 : decode cX0_init 25 = .ok (.iconst 4, 1) := by decide +kernel
theorem dX0_init_26 : decode cX0_init 26 = .ok (.putfield 24, 3) := by decide +kernel
theorem dX0_init_29 : decode cX0_init 29 = .ok (.return_, 1) := by decide +kernel
set_option maxRecDepth 20000 in
theorem ggX0_become_X2_ofG : GoodIn wsX0_become wsX2_ofG := goodIn_r _ [9, 10, 11, 8, 12] (by decide +kernel) (by decide +kernel)
set_option maxRecDepth 20000 in
theorem gX0_become_X2_ofG : GoodIn wsX0_become (va_wsS RX0 27 yX2_ofG wsX2_ofG) := goodIn_app (goodIn_of _ (by decide +kernel)) ggX0_become_X2_ofG
theorem dX0_become_0 : decode cX0_become 0 = .ok (.aload_n 0, 1) := by decide +kernel
theorem dX0_become_1 : decode cX0_become 1 = .ok (.iload_n 1, 1) := by decide +kernel
theorem dX0_become_2 : decode cX0_become 2 = .ok (.putfield 9, 3) := by decide +kernel
theorem dX0_become_5 : decode cX0_become 5 = .ok (.aload_n 0, 1) := by decide +kernel
theorem dX0_become_6 : decode cX0_become 6 = .ok (.iload_n 2, 1) := by decide +kernel
theorem dX0_become_7 : decode cX0_become 7 = .ok (.putfield 15, 3) := by decide +kernel
theorem dX0_become_10 : decode cX0_become 10 = .ok (.aload_n 0, 1) := by decide +kernel
theorem dX0_become_11 : decode cX0_become 11 = .ok (.iload_n 1, 1) := by decide +kernel
theorem dX0_become_12 : decode cX0_become 12 = .ok (.iconst 2, 1) := by decide +kernel
theorem dX0_become_13 : decode cX0_become 13 = .ok (.if_icmp .lt 7, 3) := by decide +kernel
theorem dX0_become_16 : decode cX0_become 16 = .ok (.iload_n 3, 1) := by decide +kernel
theorem dX0_become_17 : decode cX0_become 17 = .ok (.goto 4, 3) := by decide +kernel
theorem dX0_become_20 : decode cX0_become 20 = .ok (.iconst 0, 1) := by decide +kernel
theorem dX0_become_21 : decode cX0_become 21 = .ok (.putfield 18, 3) := by decide +kernel
theorem dX0_become_24 : decode cX0_become 24 = .ok (.aload_n 0, 1) := by decide +kernel
theorem dX0_become_25 : decode cX0_become 25 = .ok (.iload_n 1, 1) := by decide +kernel
theorem dX0_become_26 : decode cX0_become 26 = .ok (.iconst 3, 1) := by decide +kernel
theorem dX0_become_27 : decode cX0_become 27 = .ok (.if_icmp .lt 8, 3) := by decide +kernel
theorem dX0_become_30 : decode cX0_become 30 = .ok (.iload 4, 2) := by decide +kernel
theorem dX0_become_32 : decode cX0_become 32 = .ok (.goto 4, 3) := by decide +kernel
theorem dX0_become_35 : decode cX0_become 35 = .ok (.iconst 0, 1) := by decide +kernel
theorem dX0_become_36 : decode cX0_become 36 = .ok (.putfield 21, 3) := by decide +kernel
theorem dX0_become_39 : decode cX0_become 39 = .ok (.aload_n 0, 1) := by decide +kernel
theorem dX0_become_40 : decode cX0_become 40 = .ok (.iload_n 2, 1) := by decide +kernel
theorem dX0_become_41 : decode cX0_become 41 = .ok (.invokestatic 27, 3) := by decide +kernel
theorem dX0_become_44 : decode cX0_become 44 = .ok (.putfield 24, 3) := by decide +kernel
theorem dX0_become_47 : decode cX0_become 47 = .ok (.return_, 1) := by decide +kernel
theorem dX0_need_0 : decode cX0_need 0 = .ok (.aload_n 0, 1) := by decide +kernel
theorem dX0_need_1 : decode cX0_need 1 = .ok (.getfield 9, 3) := by decide +kernel
theorem dX0_need_4 : decode cX0_need 4 = .ok (.ireturn, 1) := by decide +kernel
theorem dX0_h_0 : decode cX0_h 0 = .ok (.aload_n 0, 1) := by decide +kernel
theorem dX0_h_1 : decode cX0_h 1 = .ok (.getfield 24, 3) := by decide +kernel
theorem dX0_h_4 : decode cX0_h 4 = .ok (.ireturn, 1) := by decide +kernel
theorem dX0_part_0 : decode cX0_part 0 = .ok (.aload_n 0, 1) := by decide +kernel
theorem dX0_part_1 : decode cX0_part 1 = .ok (.getfield 15, 3) := by decide +kernel
theorem dX0_part_4 : decode cX0_part 4 = .ok (.aload_n 0, 1) := by decide +kernel
theorem dX0_part_5 : decode cX0_part 5 = .ok (.getfield 18, 3) := by decide +kernel
theorem dX0_part_8 : decode cX0_part 8 = .ok (.iload_n 1, 1) := by decide +kernel
theorem dX0_part_9 : decode cX0_part 9 = .ok (.imul, 1) := by decide +kernel
theorem dX0_part_10 : decode cX0_part 10 = .ok (.iadd, 1) := by decide +kernel
theorem dX0_part_11 : decode cX0_part 11 = .ok (.aload_n 0, 1) := by decide +kernel
theorem dX0_part_12 : decode cX0_part 12 = .ok (.getfield 21, 3) := by decide +kernel
theorem dX0_part_15 : decode cX0_part 15 = .ok (.iload_n 1, 1) := by decide +kernel
theorem dX0_part_16 : decode cX0_part 16 = .ok (.imul, 1) := by decide +kernel
theorem dX0_part_17 : decode cX0_part 17 = .ok (.iload_n 1, 1) := by decide +kernel
theorem dX0_part_18 : decode cX0_part 18 = .ok (.imul, 1) := by decide +kernel
theorem dX0_part_19 : decode cX0_part 19 = .ok (.iadd, 1) := by decide +kernel
theorem dX0_part_20 : decode cX0_part 20 = .ok (.sipush 5003, 3) := by decide +kernel
theorem dX0_part_23 : decode cX0_part 23 = .ok (.irem, 1) := by decide +kernel
theorem dX0_part_24 : decode cX0_part 24 = .ok (.ireturn, 1) := by decide +kernel
set_option maxRecDepth 20000 in
theorem ggX0_sealedB_X2_of : GoodIn wsX0_sealedB wsX2_of := goodIn_r _ [5, 6, 7, 4, 8] (by decide +kernel) (by decide +kernel)
set_option maxRecDepth 20000 in
theorem gX0_sealedB_X2_of : GoodIn wsX0_sealedB (va_wsS RX0 33 yX2_of wsX2_of) := goodIn_app (goodIn_of _ (by decide +kernel)) ggX0_sealedB_X2_of
set_option maxRecDepth 20000 in
theorem ggX0_sealedB_X2_ofG : GoodIn wsX0_sealedB wsX2_ofG := goodIn_r _ [11, 6, 7, 4, 8] (by decide +kernel) (by decide +kernel)
set_option maxRecDepth 20000 in
theorem gX0_sealedB_X2_ofG : GoodIn wsX0_sealedB (va_wsS RX0 27 yX2_ofG wsX2_ofG) := goodIn_app (goodIn_of _ (by decide +kernel)) ggX0_sealedB_X2_ofG
theorem dX0_sealedB_0 : decode cX0_sealedB 0 = .ok (.aload_n 0, 1) := by decide +kernel
theorem dX0_sealedB_1 : decode cX0_sealedB 1 = .ok (.getfield 24, 3) := by decide +kernel
theorem dX0_sealedB_4 : decode cX0_sealedB 4 = .ok (.iload_n 2, 1) := by decide +kernel
theorem dX0_sealedB_5 : decode cX0_sealedB 5 = .ok (.invokestatic 33, 3) := by decide +kernel
theorem dX0_sealedB_8 : decode cX0_sealedB 8 = .ok (.iload_n 1, 1) := by decide +kernel
theorem dX0_sealedB_9 : decode cX0_sealedB 9 = .ok (.invokestatic 27, 3) := by decide +kernel
theorem dX0_sealedB_12 : decode cX0_sealedB 12 = .ok (.imul, 1) := by decide +kernel
theorem dX0_sealedB_13 : decode cX0_sealedB 13 = .ok (.sipush 10007, 3) := by decide +kernel
theorem dX0_sealedB_16 : decode cX0_sealedB 16 = .ok (.irem, 1) := by decide +kernel
theorem dX0_sealedB_17 : decode cX0_sealedB 17 = .ok (.ireturn, 1) := by decide +kernel
set_option maxRecDepth 20000 in
theorem ggX0_share_X0_part : GoodIn wsX0_share wsX0_part := goodIn_r _ [5, 6, 7, 8, 16, 17, 18, 19, 20] (by decide +kernel) (by decide +kernel)
set_option maxRecDepth 20000 in
theorem gX0_share_X0_part : GoodIn wsX0_share (wsV RX0 37 RX0 yX0_part wsX0_part) := goodIn_app (goodIn_of _ (by decide +kernel)) ggX0_share_X0_part
set_option maxRecDepth 20000 in
theorem ggX0_share_X2_of : GoodIn wsX0_share wsX2_of := goodIn_r _ [12, 13, 14, 11, 15] (by decide +kernel) (by decide +kernel)
set_option maxRecDepth 20000 in
theorem gX0_share_X2_of : GoodIn wsX0_share (va_wsS RX0 33 yX2_of wsX2_of) := goodIn_app (goodIn_of _ (by decide +kernel)) ggX0_share_X2_of
theorem dX0_share_0 : decode cX0_share 0 = .ok (.iload_n 2, 1) := by decide +kernel
theorem dX0_share_1 : decode cX0_share 1 = .ok (.aload_n 0, 1) := by decide +kernel
theorem dX0_share_2 : decode cX0_share 2 = .ok (.iload_n 1, 1) := by decide +kernel
theorem dX0_share_3 : decode cX0_share 3 = .ok (.invokevirtual 37, 3) := by decide +kernel
theorem dX0_share_6 : decode cX0_share 6 = .ok (.invokestatic 33, 3) := by decide +kernel
theorem dX0_share_9 : decode cX0_share 9 = .ok (.ireturn, 1) := by decide +kernel
set_option maxRecDepth 20000 in
theorem ggX0_weightIn_X8_isIn : GoodIn wsX0_weightIn wsX8_isIn := goodIn_r _ [3] (by decide +kernel) (by decide +kernel)
set_option maxRecDepth 20000 in
theorem gX0_weightIn_X8_isIn_n40 : GoodIn wsX0_weightIn (wsX8_isIn) := ggX0_weightIn_X8_isIn
set_option maxRecDepth 20000 in
theorem ggX0_weightIn_X2_inverse : GoodIn wsX0_weightIn wsX2_inverse := goodIn_r _ [7, 8, 9, 6, 10] (by decide +kernel) (by decide +kernel)
set_option maxRecDepth 20000 in
theorem gX0_weightIn_X2_inverse : GoodIn wsX0_weightIn (va_wsS RX0 44 yX2_inverse wsX2_inverse) := goodIn_app (goodIn_of _ (by decide +kernel)) ggX0_weightIn_X2_inverse
theorem dX0_weightIn_0 : decode cX0_weightIn 0 = .ok (.iconst 1, 1) := by decide +kernel
theorem dX0_weightIn_1 : decode cX0_weightIn 1 = .ok (.istore_n 2, 1) := by decide +kernel
theorem dX0_weightIn_2 : decode cX0_weightIn 2 = .ok (.iconst 1, 1) := by decide +kernel
theorem dX0_weightIn_3 : decode cX0_weightIn 3 = .ok (.istore_n 3, 1) := by decide +kernel
theorem dX0_weightIn_4 : decode cX0_weightIn 4 = .ok (.iload_n 3, 1) := by decide +kernel
theorem dX0_weightIn_5 : decode cX0_weightIn 5 = .ok (.iconst 5, 1) := by decide +kernel
theorem dX0_weightIn_6 : decode cX0_weightIn 6 = .ok (.if_icmp .gt 48, 3) := by decide +kernel
theorem dX0_weightIn_9 : decode cX0_weightIn 9 = .ok (.iload_n 3, 1) := by decide +kernel
theorem dX0_weightIn_10 : decode cX0_weightIn 10 = .ok (.iload_n 0, 1) := by decide +kernel
theorem dX0_weightIn_11 : decode cX0_weightIn 11 = .ok (.if_icmp .eq 37, 3) := by decide +kernel
theorem dX0_weightIn_14 : decode cX0_weightIn 14 = .ok (.iload_n 3, 1) := by decide +kernel
theorem dX0_weightIn_15 : decode cX0_weightIn 15 = .ok (.iload_n 1, 1) := by decide +kernel
theorem dX0_weightIn_16 : decode cX0_weightIn 16 = .ok (.invokestatic 40, 3) := by decide +kernel
theorem dX0_weightIn_19 : decode cX0_weightIn 19 = .ok (.ifCond .eq 29, 3) := by decide +kernel
theorem dX0_weightIn_22 : decode cX0_weightIn 22 = .ok (.iload_n 2, 1) := by decide +kernel
theorem dX0_weightIn_23 : decode cX0_weightIn 23 = .ok (.iload_n 3, 1) := by decide +kernel
theorem dX0_weightIn_24 : decode cX0_weightIn 24 = .ok (.imul, 1) := by decide +kernel
theorem dX0_weightIn_25 : decode cX0_weightIn 25 = .ok (.sipush 5003, 3) := by decide +kernel
theorem dX0_weightIn_28 : decode cX0_weightIn 28 = .ok (.irem, 1) := by decide +kernel
theorem dX0_weightIn_29 : decode cX0_weightIn 29 = .ok (.iload_n 3, 1) := by decide +kernel
theorem dX0_weightIn_30 : decode cX0_weightIn 30 = .ok (.iload_n 0, 1) := by decide +kernel
theorem dX0_weightIn_31 : decode cX0_weightIn 31 = .ok (.isub, 1) := by decide +kernel
theorem dX0_weightIn_32 : decode cX0_weightIn 32 = .ok (.sipush 5003, 3) := by decide +kernel
theorem dX0_weightIn_35 : decode cX0_weightIn 35 = .ok (.iadd, 1) := by decide +kernel
theorem dX0_weightIn_36 : decode cX0_weightIn 36 = .ok (.sipush 5003, 3) := by decide +kernel
theorem dX0_weightIn_39 : decode cX0_weightIn 39 = .ok (.invokestatic 44, 3) := by decide +kernel
theorem dX0_weightIn_42 : decode cX0_weightIn 42 = .ok (.imul, 1) := by decide +kernel
theorem dX0_weightIn_43 : decode cX0_weightIn 43 = .ok (.sipush 5003, 3) := by decide +kernel
theorem dX0_weightIn_46 : decode cX0_weightIn 46 = .ok (.irem, 1) := by decide +kernel
theorem dX0_weightIn_47 : decode cX0_weightIn 47 = .ok (.istore_n 2, 1) := by decide +kernel
theorem dX0_weightIn_48 : decode cX0_weightIn 48 = .ok (.iinc 3 1, 3) := by decide +kernel
theorem dX0_weightIn_51 : decode cX0_weightIn 51 = .ok (.goto (-47), 3) := by decide +kernel
theorem dX0_weightIn_54 : decode cX0_weightIn 54 = .ok (.iload_n 2, 1) := by decide +kernel
theorem dX0_weightIn_55 : decode cX0_weightIn 55 = .ok (.ireturn, 1) := by decide +kernel
set_option maxRecDepth 20000 in
theorem ggX0_unsealed_X8_isIn : GoodIn wsX0_unsealed wsX8_isIn := goodIn_r _ [3] (by decide +kernel) (by decide +kernel)
set_option maxRecDepth 20000 in
theorem gX0_unsealed_X8_isIn_n40 : GoodIn wsX0_unsealed (wsX8_isIn) := ggX0_unsealed_X8_isIn
set_option maxRecDepth 20000 in
theorem ggX0_unsealed_X0_share : GoodIn wsX0_unsealed wsX0_share := goodIn_r _ [8, 9, 10, 11, 7, 12, 13, 14, 15, 16, 17, 18, 19, 20, 21, 22, 33, 34, 35, 36, 37] (by decide +kernel) (by decide +kernel)
set_option maxRecDepth 20000 in
theorem gX0_unsealed_X0_share : GoodIn wsX0_unsealed (wsV RX0 47 RX0 yX0_share wsX0_share) := goodIn_app (goodIn_of _ (by decide +kernel)) ggX0_unsealed_X0_share
set_option maxRecDepth 20000 in
theorem ggX0_unsealed_X0_weightIn : GoodIn wsX0_unsealed wsX0_weightIn := goodIn_r _ [25, 1, 2, 3, 26, 27, 18, 28, 20, 21, 22] (by decide +kernel) (by decide +kernel)
set_option maxRecDepth 20000 in
theorem gX0_unsealed_X0_weightIn : GoodIn wsX0_unsealed (va_wsS RX0 50 yX0_weightIn wsX0_weightIn) := goodIn_app (goodIn_of _ (by decide +kernel)) ggX0_unsealed_X0_weightIn
set_option maxRecDepth 20000 in
theorem ggX0_unsealed_X2_of : GoodIn wsX0_unsealed wsX2_of := goodIn_r _ [19, 20, 21, 18, 22] (by decide +kernel) (by decide +kernel)
set_option maxRecDepth 20000 in
theorem gX0_unsealed_X2_of : GoodIn wsX0_unsealed (va_wsS RX0 33 yX2_of wsX2_of) := goodIn_app (goodIn_of _ (by decide +kernel)) ggX0_unsealed_X2_of
set_option maxRecDepth 20000 in
theorem ggX0_unsealed_X2_divided : GoodIn wsX0_unsealed wsX2_divided := goodIn_r _ [31, 32, 27, 18, 28, 20, 21, 22] (by decide +kernel) (by decide +kernel)
set_option maxRecDepth 20000 in
theorem gX0_unsealed_X2_divided : GoodIn wsX0_unsealed (va_wsS RX0 53 yX2_divided wsX2_divided) := goodIn_app (goodIn_of _ (by decide +kernel)) ggX0_unsealed_X2_divided
theorem dX0_unsealed_0 : decode cX0_unsealed 0 = .ok (.iconst 1, 1) := by decide +kernel
theorem dX0_unsealed_1 : decode cX0_unsealed 1 = .ok (.istore 4, 2) := by decide +kernel
theorem dX0_unsealed_3 : decode cX0_unsealed 3 = .ok (.iconst 1, 1) := by decide +kernel
theorem dX0_unsealed_4 : decode cX0_unsealed 4 = .ok (.istore 5, 2) := by decide +kernel
theorem dX0_unsealed_6 : decode cX0_unsealed 6 = .ok (.iload 5, 2) := by decide +kernel
theorem dX0_unsealed_8 : decode cX0_unsealed 8 = .ok (.iconst 5, 1) := by decide +kernel
theorem dX0_unsealed_9 : decode cX0_unsealed 9 = .ok (.if_icmp .gt 43, 3) := by decide +kernel
theorem dX0_unsealed_12 : decode cX0_unsealed 12 = .ok (.iload 5, 2) := by decide +kernel
theorem dX0_unsealed_14 : decode cX0_unsealed 14 = .ok (.iload_n 3, 1) := by decide +kernel
theorem dX0_unsealed_15 : decode cX0_unsealed 15 = .ok (.invokestatic 40, 3) := by decide +kernel
theorem dX0_unsealed_18 : decode cX0_unsealed 18 = .ok (.ifCond .eq 28, 3) := by decide +kernel
theorem dX0_unsealed_21 : decode cX0_unsealed 21 = .ok (.iload 4, 2) := by decide +kernel
theorem dX0_unsealed_23 : decode cX0_unsealed 23 = .ok (.aload_n 0, 1) := by decide +kernel
theorem dX0_unsealed_24 : decode cX0_unsealed 24 = .ok (.iload 5, 2) := by decide +kernel
theorem dX0_unsealed_26 : decode cX0_unsealed 26 = .ok (.iload_n 1, 1) := by decide +kernel
theorem dX0_unsealed_27 : decode cX0_unsealed 27 = .ok (.invokevirtual 47, 3) := by decide +kernel
theorem dX0_unsealed_30 : decode cX0_unsealed 30 = .ok (.iload 5, 2) := by decide +kernel
theorem dX0_unsealed_32 : decode cX0_unsealed 32 = .ok (.iload_n 3, 1) := by decide +kernel
theorem dX0_unsealed_33 : decode cX0_unsealed 33 = .ok (.invokestatic 50, 3) := by decide +kernel
theorem dX0_unsealed_36 : decode cX0_unsealed 36 = .ok (.invokestatic 33, 3) := by decide +kernel
theorem dX0_unsealed_39 : decode cX0_unsealed 39 = .ok (.imul, 1) := by decide +kernel
theorem dX0_unsealed_40 : decode cX0_unsealed 40 = .ok (.sipush 10007, 3) := by decide +kernel
theorem dX0_unsealed_43 : decode cX0_unsealed 43 = .ok (.irem, 1) := by decide +kernel
theorem dX0_unsealed_44 : decode cX0_unsealed 44 = .ok (.istore 4, 2) := by decide +kernel
theorem dX0_unsealed_46 : decode cX0_unsealed 46 = .ok (.iinc 5 1, 3) := by decide +kernel
theorem dX0_unsealed_49 : decode cX0_unsealed 49 = .ok (.goto (-43), 3) := by decide +kernel
theorem dX0_unsealed_52 : decode cX0_unsealed 52 = .ok (.iload_n 2, 1) := by decide +kernel
theorem dX0_unsealed_53 : decode cX0_unsealed 53 = .ok (.iload 4, 2) := by decide +kernel
theorem dX0_unsealed_55 : decode cX0_unsealed 55 = .ok (.invokestatic 53, 3) := by decide +kernel
theorem dX0_unsealed_58 : decode cX0_unsealed 58 = .ok (.ireturn, 1) := by decide +kernel
theorem dX1_choose_0 : decode cX1_choose 0 = .ok (.iload_n 1, 1) := by decide +kernel
theorem dX1_choose_1 : decode cX1_choose 1 = .ok (.ifCond .lt 8, 3) := by decide +kernel
theorem dX1_choose_4 : decode cX1_choose 4 = .ok (.iload_n 1, 1) := by decide +kernel
theorem dX1_choose_5 : decode cX1_choose 5 = .ok (.iload_n 0, 1) := by decide +kernel
theorem dX1_choose_6 : decode cX1_choose 6 = .ok (.if_icmp .le 5, 3) := by decide +kernel
theorem dX1_choose_9 : decode cX1_choose 9 = .ok (.lconst 0, 1) := by decide +kernel
theorem dX1_choose_10 : decode cX1_choose 10 = .ok (.lreturn, 1) := by decide +kernel
theorem dX1_choose_11 : decode cX1_choose 11 = .ok (.lconst 1, 1) := by decide +kernel
theorem dX1_choose_12 : decode cX1_choose 12 = .ok (.lstore_n 2, 1) := by decide +kernel
theorem dX1_choose_13 : decode cX1_choose 13 = .ok (.iconst 1, 1) := by decide +kernel
theorem dX1_choose_14 : decode cX1_choose 14 = .ok (.istore 4, 2) := by decide +kernel
theorem dX1_choose_16 : decode cX1_choose 16 = .ok (.iload 4, 2) := by decide +kernel
theorem dX1_choose_18 : decode cX1_choose 18 = .ok (.iload_n 1, 1) := by decide +kernel
theorem dX1_choose_19 : decode cX1_choose 19 = .ok (.if_icmp .gt 23, 3) := by decide +kernel
theorem dX1_choose_22 : decode cX1_choose 22 = .ok (.lload_n 2, 1) := by decide +kernel
theorem dX1_choose_23 : decode cX1_choose 23 = .ok (.iload_n 0, 1) := by decide +kernel
theorem dX1_choose_24 : decode cX1_choose 24 = .ok (.iload_n 1, 1) := by decide +kernel
theorem dX1_choose_25 : decode cX1_choose 25 = .ok (.isub, 1) := by decide +kernel
theorem dX1_choose_26 : decode cX1_choose 26 = .ok (.iload 4, 2) := by decide +kernel
theorem dX1_choose_28 : decode cX1_choose 28 = .ok (.iadd, 1) := by decide +kernel
theorem dX1_choose_29 : decode cX1_choose 29 = .ok (.i2l, 1) := by decide +kernel
theorem dX1_choose_30 : decode cX1_choose 30 = .ok (.lmul, 1) := by decide +kernel
theorem dX1_choose_31 : decode cX1_choose 31 = .ok (.iload 4, 2) := by decide +kernel
theorem dX1_choose_33 : decode cX1_choose 33 = .ok (.i2l, 1) := by decide +kernel
theorem dX1_choose_34 : decode cX1_choose 34 = .ok (.ldiv, 1) := by decide +kernel
theorem dX1_choose_35 : decode cX1_choose 35 = .ok (.lstore_n 2, 1) := by decide +kernel
theorem dX1_choose_36 : decode cX1_choose 36 = .ok (.iinc 4 1, 3) := by decide +kernel
theorem dX1_choose_39 : decode cX1_choose 39 = .ok (.goto (-23), 3) := by decide +kernel
theorem dX1_choose_42 : decode cX1_choose 42 = .ok (.lload_n 2, 1) := by decide +kernel
theorem dX1_choose_43 : decode cX1_choose 43 = .ok (.lreturn, 1) := by decide +kernel
theorem dX1_forOne_0 : decode cX1_forOne 0 = .ok (.iload_n 0, 1) := by decide +kernel
theorem dX1_forOne_1 : decode cX1_forOne 1 = .ok (.iload_n 0, 1) := by decide +kernel
theorem dX1_forOne_2 : decode cX1_forOne 2 = .ok (.iconst 2, 1) := by decide +kernel
theorem dX1_forOne_3 : decode cX1_forOne 3 = .ok (.idiv, 1) := by decide +kernel
theorem dX1_forOne_4 : decode cX1_forOne 4 = .ok (.isub, 1) := by decide +kernel
theorem dX1_forOne_5 : decode cX1_forOne 5 = .ok (.ireturn, 1) := by decide +kernel
set_option maxRecDepth 20000 in
theorem ggX1_waysForOne_X1_forOne : GoodIn wsX1_waysForOne wsX1_forOne := goodIn_r _ [4] (by decide +kernel) (by decide +kernel)
set_option maxRecDepth 20000 in
theorem gX1_waysForOne_X1_forOne : GoodIn wsX1_waysForOne (va_wsS RX1 9 yX1_forOne wsX1_forOne) := goodIn_app (goodIn_of _ (by decide +kernel)) ggX1_waysForOne_X1_forOne
set_option maxRecDepth 20000 in
theorem ggX1_waysForOne_X1_choose : GoodIn wsX1_waysForOne wsX1_choose := goodIn_r _ [7] (by decide +kernel) (by decide +kernel)
set_option maxRecDepth 20000 in
theorem gX1_waysForOne_X1_choose : GoodIn wsX1_waysForOne (va_wsS RX1 15 yX1_choose wsX1_choose) := goodIn_app (goodIn_of _ (by decide +kernel)) ggX1_waysForOne_X1_choose
theorem dX1_waysForOne_0 : decode cX1_waysForOne 0 = .ok (.lconst 0, 1) := by decide +kernel
theorem dX1_waysForOne_1 : decode cX1_waysForOne 1 = .ok (.lstore_n 3, 1) := by decide +kernel
theorem dX1_waysForOne_2 : decode cX1_waysForOne 2 = .ok (.iload_n 2, 1) := by decide +kernel
theorem dX1_waysForOne_3 : decode cX1_waysForOne 3 = .ok (.istore 5, 2) := by decide +kernel
theorem dX1_waysForOne_5 : decode cX1_waysForOne 5 = .ok (.iload 5, 2) := by decide +kernel
theorem dX1_waysForOne_7 : decode cX1_waysForOne 7 = .ok (.iload_n 1, 1) := by decide +kernel
theorem dX1_waysForOne_8 : decode cX1_waysForOne 8 = .ok (.if_icmp .gt 32, 3) := by decide +kernel
theorem dX1_waysForOne_11 : decode cX1_waysForOne 11 = .ok (.lload_n 3, 1) := by decide +kernel
theorem dX1_waysForOne_12 : decode cX1_waysForOne 12 = .ok (.iload_n 0, 1) := by decide +kernel
theorem dX1_waysForOne_13 : decode cX1_waysForOne 13 = .ok (.invokestatic 9, 3) := by decide +kernel
theorem dX1_waysForOne_16 : decode cX1_waysForOne 16 = .ok (.iload 5, 2) := by decide +kernel
theorem dX1_waysForOne_18 : decode cX1_waysForOne 18 = .ok (.invokestatic 15, 3) := by decide +kernel
theorem dX1_waysForOne_21 : decode cX1_waysForOne 21 = .ok (.iload_n 0, 1) := by decide +kernel
theorem dX1_waysForOne_22 : decode cX1_waysForOne 22 = .ok (.iconst 2, 1) := by decide +kernel
theorem dX1_waysForOne_23 : decode cX1_waysForOne 23 = .ok (.idiv, 1) := by decide +kernel
theorem dX1_waysForOne_24 : decode cX1_waysForOne 24 = .ok (.iload_n 1, 1) := by decide +kernel
theorem dX1_waysForOne_25 : decode cX1_waysForOne 25 = .ok (.iload 5, 2) := by decide +kernel
theorem dX1_waysForOne_27 : decode cX1_waysForOne 27 = .ok (.isub, 1) := by decide +kernel
theorem dX1_waysForOne_28 : decode cX1_waysForOne 28 = .ok (.invokestatic 15, 3) := by decide +kernel
theorem dX1_waysForOne_31 : decode cX1_waysForOne 31 = .ok (.lmul, 1) := by decide +kernel
theorem dX1_waysForOne_32 : decode cX1_waysForOne 32 = .ok (.ladd, 1) := by decide +kernel
theorem dX1_waysForOne_33 : decode cX1_waysForOne 33 = .ok (.lstore_n 3, 1) := by decide +kernel
theorem dX1_waysForOne_34 : decode cX1_waysForOne 34 = .ok (.iinc 5 1, 3) := by decide +kernel
theorem dX1_waysForOne_37 : decode cX1_waysForOne 37 = .ok (.goto (-32), 3) := by decide +kernel
theorem dX1_waysForOne_40 : decode cX1_waysForOne 40 = .ok (.lload_n 3, 1) := by decide +kernel
theorem dX1_waysForOne_41 : decode cX1_waysForOne 41 = .ok (.lreturn, 1) := by decide +kernel
set_option maxRecDepth 20000 in
theorem ggX1_leastDrawn_X1_choose : GoodIn wsX1_leastDrawn wsX1_choose := goodIn_r _ [5] (by decide +kernel) (by decide +kernel)
set_option maxRecDepth 20000 in
theorem gX1_leastDrawn_X1_choose : GoodIn wsX1_leastDrawn (va_wsS RX1 15 yX1_choose wsX1_choose) := goodIn_app (goodIn_of _ (by decide +kernel)) ggX1_leastDrawn_X1_choose
theorem dX1_leastDrawn_0 : decode cX1_leastDrawn 0 = .ok (.iload_n 2, 1) := by decide +kernel
theorem dX1_leastDrawn_1 : decode cX1_leastDrawn 1 = .ok (.istore 4, 2) := by decide +kernel
theorem dX1_leastDrawn_3 : decode cX1_leastDrawn 3 = .ok (.iload 4, 2) := by decide +kernel
theorem dX1_leastDrawn_5 : decode cX1_leastDrawn 5 = .ok (.iload_n 1, 1) := by decide +kernel
theorem dX1_leastDrawn_6 : decode cX1_leastDrawn 6 = .ok (.if_icmp .gt 35, 3) := by decide +kernel
theorem dX1_leastDrawn_9 : decode cX1_leastDrawn 9 = .ok (.iload_n 0, 1) := by decide +kernel
theorem dX1_leastDrawn_10 : decode cX1_leastDrawn 10 = .ok (.iload 4, 2) := by decide +kernel
theorem dX1_leastDrawn_12 : decode cX1_leastDrawn 12 = .ok (.invokestatic 15, 3) := by decide +kernel
theorem dX1_leastDrawn_15 : decode cX1_leastDrawn 15 = .ok (.ldc2_w 19, 3) := by decide +kernel
theorem dX1_leastDrawn_18 : decode cX1_leastDrawn 18 = .ok (.lmul, 1) := by decide +kernel
theorem dX1_leastDrawn_19 : decode cX1_leastDrawn 19 = .ok (.iload_n 1, 1) := by decide +kernel
theorem dX1_leastDrawn_20 : decode cX1_leastDrawn 20 = .ok (.iload 4, 2) := by decide +kernel
theorem dX1_leastDrawn_22 : decode cX1_leastDrawn 22 = .ok (.invokestatic 15, 3) := by decide +kernel
theorem dX1_leastDrawn_25 : decode cX1_leastDrawn 25 = .ok (.iload_n 3, 1) := by decide +kernel
theorem dX1_leastDrawn_26 : decode cX1_leastDrawn 26 = .ok (.i2l, 1) := by decide +kernel
theorem dX1_leastDrawn_27 : decode cX1_leastDrawn 27 = .ok (.lmul, 1) := by decide +kernel
theorem dX1_leastDrawn_28 : decode cX1_leastDrawn 28 = .ok (.lcmp, 1) := by decide +kernel
theorem dX1_leastDrawn_29 : decode cX1_leastDrawn 29 = .ok (.ifCond .gt 6, 3) := by decide +kernel
theorem dX1_leastDrawn_32 : decode cX1_leastDrawn 32 = .ok (.iload 4, 2) := by decide +kernel
theorem dX1_leastDrawn_34 : decode cX1_leastDrawn 34 = .ok (.ireturn, 1) := by decide +kernel
theorem dX1_leastDrawn_35 : decode cX1_leastDrawn 35 = .ok (.iinc 4 1, 3) := by decide +kernel
theorem dX1_leastDrawn_38 : decode cX1_leastDrawn 38 = .ok (.goto (-35), 3) := by decide +kernel
theorem dX1_leastDrawn_41 : decode cX1_leastDrawn 41 = .ok (.bipush (-6), 2) := by decide +kernel
theorem dX1_leastDrawn_43 : decode cX1_leastDrawn 43 = .ok (.ireturn, 1) := by decide +kernel
theorem dX1_slipDrawn_0 : decode cX1_slipDrawn 0 = .ok (.iload_n 1, 1) := by decide +kernel
theorem dX1_slipDrawn_1 : decode cX1_slipDrawn 1 = .ok (.ifCond .gt 6, 3) := by decide +kernel
theorem dX1_slipDrawn_4 : decode cX1_slipDrawn 4 = .ok (.bipush (-6), 2) := by decide +kernel
theorem dX1_slipDrawn_6 : decode cX1_slipDrawn 6 = .ok (.ireturn, 1) := by decide +kernel
theorem dX1_slipDrawn_7 : decode cX1_slipDrawn 7 = .ok (.iload_n 0, 1) := by decide +kernel
theorem dX1_slipDrawn_8 : decode cX1_slipDrawn 8 = .ok (.i2l, 1) := by decide +kernel
theorem dX1_slipDrawn_9 : decode cX1_slipDrawn 9 = .ok (.lstore_n 3, 1) := by decide +kernel
theorem dX1_slipDrawn_10 : decode cX1_slipDrawn 10 = .ok (.iconst 0, 1) := by decide +kernel
theorem dX1_slipDrawn_11 : decode cX1_slipDrawn 11 = .ok (.istore 5, 2) := by decide +kernel
theorem dX1_slipDrawn_13 : decode cX1_slipDrawn 13 = .ok (.iload 5, 2) := by decide +kernel
theorem dX1_slipDrawn_15 : decode cX1_slipDrawn 15 = .ok (.iload_n 2, 1) := by decide +kernel
theorem dX1_slipDrawn_16 : decode cX1_slipDrawn 16 = .ok (.if_icmp .ge 19, 3) := by decide +kernel
theorem dX1_slipDrawn_19 : decode cX1_slipDrawn 19 = .ok (.lload_n 3, 1) := by decide +kernel
theorem dX1_slipDrawn_20 : decode cX1_slipDrawn 20 = .ok (.ldc2_w 21, 3) := by decide +kernel
theorem dX1_slipDrawn_23 : decode cX1_slipDrawn 23 = .ok (.lmul, 1) := by decide +kernel
theorem dX1_slipDrawn_24 : decode cX1_slipDrawn 24 = .ok (.ldc2_w 23, 3) := by decide +kernel
theorem dX1_slipDrawn_27 : decode cX1_slipDrawn 27 = .ok (.lrem, 1) := by decide +kernel
theorem dX1_slipDrawn_28 : decode cX1_slipDrawn 28 = .ok (.lstore_n 3, 1) := by decide +kernel
theorem dX1_slipDrawn_29 : decode cX1_slipDrawn 29 = .ok (.iinc 5 1, 3) := by decide +kernel
theorem dX1_slipDrawn_32 : decode cX1_slipDrawn 32 = .ok (.goto (-19), 3) := by decide +kernel
theorem dX1_slipDrawn_35 : decode cX1_slipDrawn 35 = .ok (.lload_n 3, 1) := by decide +kernel
theorem dX1_slipDrawn_36 : decode cX1_slipDrawn 36 = .ok (.iload_n 1, 1) := by decide +kernel
theorem dX1_slipDrawn_37 : decode cX1_slipDrawn 37 = .ok (.i2l, 1) := by decide +kernel
theorem dX1_slipDrawn_38 : decode cX1_slipDrawn 38 = .ok (.lrem, 1) := by decide +kernel
theorem dX1_slipDrawn_39 : decode cX1_slipDrawn 39 = .ok (.l2i, 1) := by decide +kernel
theorem dX1_slipDrawn_40 : decode cX1_slipDrawn 40 = .ok (.ireturn, 1) := by decide +kernel
set_option maxRecDepth 20000 in
theorem ggX1_inLowestTerms_X1_greatestShared : GoodIn wsX1_inLowestTerms wsX1_greatestShared := goodIn_r _ [4] (by decide +kernel) (by decide +kernel)
set_option maxRecDepth 20000 in
theorem gX1_inLowestTerms_X1_greatestShared : GoodIn wsX1_inLowestTerms (va_wsS RX1 25 yX1_greatestShared wsX1_greatestShared) := goodIn_app (goodIn_of _ (by decide +kernel)) ggX1_inLowestTerms_X1_greatestShared
theorem dX1_inLowestTerms_0 : decode cX1_inLowestTerms 0 = .ok (.lload_n 0, 1) := by decide +kernel
theorem dX1_inLowestTerms_1 : decode cX1_inLowestTerms 1 = .ok (.lconst 0, 1) := by decide +kernel
theorem dX1_inLowestTerms_2 : decode cX1_inLowestTerms 2 = .ok (.lcmp, 1) := by decide +kernel
theorem dX1_inLowestTerms_3 : decode cX1_inLowestTerms 3 = .ok (.ifCond .ne 14, 3) := by decide +kernel
theorem dX1_inLowestTerms_6 : decode cX1_inLowestTerms 6 = .ok (.iload 4, 2) := by decide +kernel
theorem dX1_inLowestTerms_8 : decode cX1_inLowestTerms 8 = .ok (.ifCond .ne 7, 3) := by decide +kernel
theorem dX1_inLowestTerms_11 : decode cX1_inLowestTerms 11 = .ok (.lconst 0, 1) := by decide +kernel
theorem dX1_inLowestTerms_12 : decode cX1_inLowestTerms 12 = .ok (.goto 4, 3) := by decide +kernel
theorem dX1_inLowestTerms_15 : decode cX1_inLowestTerms 15 = .ok (.lconst 1, 1) := by decide +kernel
theorem dX1_inLowestTerms_16 : decode cX1_inLowestTerms 16 = .ok (.lreturn, 1) := by decide +kernel
theorem dX1_inLowestTerms_17 : decode cX1_inLowestTerms 17 = .ok (.lload_n 0, 1) := by decide +kernel
theorem dX1_inLowestTerms_18 : decode cX1_inLowestTerms 18 = .ok (.lload_n 2, 1) := by decide +kernel
theorem dX1_inLowestTerms_19 : decode cX1_inLowestTerms 19 = .ok (.invokestatic 25, 3) := by decide +kernel
theorem dX1_inLowestTerms_22 : decode cX1_inLowestTerms 22 = .ok (.lstore 5, 2) := by decide +kernel
theorem dX1_inLowestTerms_24 : decode cX1_inLowestTerms 24 = .ok (.lload 5, 2) := by decide +kernel
theorem dX1_inLowestTerms_26 : decode cX1_inLowestTerms 26 = .ok (.lconst 0, 1) := by decide +kernel
theorem dX1_inLowestTerms_27 : decode cX1_inLowestTerms 27 = .ok (.lcmp, 1) := by decide +kernel
theorem dX1_inLowestTerms_28 : decode cX1_inLowestTerms 28 = .ok (.ifCond .ne 5, 3) := by decide +kernel
theorem dX1_inLowestTerms_31 : decode cX1_inLowestTerms 31 = .ok (.lconst 0, 1) := by decide +kernel
theorem dX1_inLowestTerms_32 : decode cX1_inLowestTerms 32 = .ok (.lreturn, 1) := by decide +kernel
theorem dX1_inLowestTerms_33 : decode cX1_inLowestTerms 33 = .ok (.iload 4, 2) := by decide +kernel
theorem dX1_inLowestTerms_35 : decode cX1_inLowestTerms 35 = .ok (.ifCond .ne 10, 3) := by decide +kernel
theorem dX1_inLowestTerms_38 : decode cX1_inLowestTerms 38 = .ok (.lload_n 0, 1) := by decide +kernel
theorem dX1_inLowestTerms_39 : decode cX1_inLowestTerms 39 = .ok (.lload 5, 2) := by decide +kernel
theorem dX1_inLowestTerms_41 : decode cX1_inLowestTerms 41 = .ok (.ldiv, 1) := by decide +kernel
theorem dX1_inLowestTerms_42 : decode cX1_inLowestTerms 42 = .ok (.goto 7, 3) := by decide +kernel
theorem dX1_inLowestTerms_45 : decode cX1_inLowestTerms 45 = .ok (.lload_n 2, 1) := by decide +kernel
theorem dX1_inLowestTerms_46 : decode cX1_inLowestTerms 46 = .ok (.lload 5, 2) := by decide +kernel
theorem dX1_inLowestTerms_48 : decode cX1_inLowestTerms 48 = .ok (.ldiv, 1) := by decide +kernel
theorem dX1_inLowestTerms_49 : decode cX1_inLowestTerms 49 = .ok (.lreturn, 1) := by decide +kernel
theorem dX1_greatestShared_0 : decode cX1_greatestShared 0 = .ok (.lload_n 0, 1) := by decide +kernel
theorem dX1_greatestShared_1 : decode cX1_greatestShared 1 = .ok (.lstore 4, 2) := by decide +kernel
theorem dX1_greatestShared_3 : decode cX1_greatestShared 3 = .ok (.lload_n 2, 1) := by decide +kernel
theorem dX1_greatestShared_4 : decode cX1_greatestShared 4 = .ok (.lstore 6, 2) := by decide +kernel
theorem dX1_greatestShared_6 : decode cX1_greatestShared 6 = .ok (.iconst 0, 1) := by decide +kernel
theorem dX1_greatestShared_7 : decode cX1_greatestShared 7 = .ok (.istore 8, 2) := by decide +kernel
theorem dX1_greatestShared_9 : decode cX1_greatestShared 9 = .ok (.iload 8, 2) := by decide +kernel
theorem dX1_greatestShared_11 : decode cX1_greatestShared 11 = .ok (.bipush 100, 2) := by decide +kernel
theorem dX1_greatestShared_13 : decode cX1_greatestShared 13 = .ok (.if_icmp .ge 31, 3) := by decide +kernel
theorem dX1_greatestShared_16 : decode cX1_greatestShared 16 = .ok (.lload 6, 2) := by decide +kernel
theorem dX1_greatestShared_18 : decode cX1_greatestShared 18 = .ok (.lconst 0, 1) := by decide +kernel
theorem dX1_greatestShared_19 : decode cX1_greatestShared 19 = .ok (.lcmp, 1) := by decide +kernel
theorem dX1_greatestShared_20 : decode cX1_greatestShared 20 = .ok (.ifCond .eq 24, 3) := by decide +kernel
theorem dX1_greatestShared_23 : decode cX1_greatestShared 23 = .ok (.lload 4, 2) := by decide +kernel
theorem dX1_greatestShared_25 : decode cX1_greatestShared 25 = .ok (.lload 6, 2) := by decide +kernel
theorem dX1_greatestShared_27 : decode cX1_greatestShared 27 = .ok (.lrem, 1) := by decide +kernel
theorem dX1_greatestShared_28 : decode cX1_greatestShared 28 = .ok (.lstore 9, 2) := by decide +kernel
theorem dX1_greatestShared_30 : decode cX1_greatestShared 30 = .ok (.lload 6, 2) := by decide +kernel
theorem dX1_greatestShared_32 : decode cX1_greatestShared 32 = .ok (.lstore 4, 2) := by decide +kernel
theorem dX1_greatestShared_34 : decode cX1_greatestShared 34 = .ok (.lload 9, 2) := by decide +kernel
theorem dX1_greatestShared_36 : decode cX1_greatestShared 36 = .ok (.lstore 6, 2) := by decide +kernel
theorem dX1_greatestShared_38 : decode cX1_greatestShared 38 = .ok (.iinc 8 1, 3) := by decide +kernel
theorem dX1_greatestShared_41 : decode cX1_greatestShared 41 = .ok (.goto (-32), 3) := by decide +kernel
theorem dX1_greatestShared_44 : decode cX1_greatestShared 44 = .ok (.lload 4, 2) := by decide +kernel
theorem dX1_greatestShared_46 : decode cX1_greatestShared 46 = .ok (.lreturn, 1) := by decide +kernel
theorem dX2_power_0 : decode cX2_power 0 = .ok (.iload_n 2, 1) := by decide +kernel
theorem dX2_power_1 : decode cX2_power 1 = .ok (.ifCond .gt 5, 3) := by decide +kernel
theorem dX2_power_4 : decode cX2_power 4 = .ok (.iconst 0, 1) := by decide +kernel
theorem dX2_power_5 : decode cX2_power 5 = .ok (.ireturn, 1) := by decide +kernel
theorem dX2_power_6 : decode cX2_power 6 = .ok (.iconst 1, 1) := by decide +kernel
theorem dX2_power_7 : decode cX2_power 7 = .ok (.istore_n 3, 1) := by decide +kernel
theorem dX2_power_8 : decode cX2_power 8 = .ok (.iload_n 0, 1) := by decide +kernel
theorem dX2_power_9 : decode cX2_power 9 = .ok (.iload_n 2, 1) := by decide +kernel
theorem dX2_power_10 : decode cX2_power 10 = .ok (.irem, 1) := by decide +kernel
theorem dX2_power_11 : decode cX2_power 11 = .ok (.istore 4, 2) := by decide +kernel
theorem dX2_power_13 : decode cX2_power 13 = .ok (.iconst 0, 1) := by decide +kernel
theorem dX2_power_14 : decode cX2_power 14 = .ok (.istore 5, 2) := by decide +kernel
theorem dX2_power_16 : decode cX2_power 16 = .ok (.iload 5, 2) := by decide +kernel
theorem dX2_power_18 : decode cX2_power 18 = .ok (.bipush 14, 2) := by decide +kernel
theorem dX2_power_20 : decode cX2_power 20 = .ok (.if_icmp .ge 35, 3) := by decide +kernel
theorem dX2_power_23 : decode cX2_power 23 = .ok (.iload_n 1, 1) := by decide +kernel
theorem dX2_power_24 : decode cX2_power 24 = .ok (.iload 5, 2) := by decide +kernel
theorem dX2_power_26 : decode cX2_power 26 = .ok (.ishr, 1) := by decide +kernel
theorem dX2_power_27 : decode cX2_power 27 = .ok (.iconst 1, 1) := by decide +kernel
theorem dX2_power_28 : decode cX2_power 28 = .ok (.iand, 1) := by decide +kernel
theorem dX2_power_29 : decode cX2_power 29 = .ok (.iconst 1, 1) := by decide +kernel
theorem dX2_power_30 : decode cX2_power 30 = .ok (.if_icmp .ne 10, 3) := by decide +kernel
theorem dX2_power_33 : decode cX2_power 33 = .ok (.iload_n 3, 1) := by decide +kernel
theorem dX2_power_34 : decode cX2_power 34 = .ok (.iload 4, 2) := by decide +kernel
theorem dX2_power_36 : decode cX2_power 36 = .ok (.imul, 1) := by decide +kernel
theorem dX2_power_37 : decode cX2_power 37 = .ok (.iload_n 2, 1) := by decide +kernel
theorem dX2_power_38 : decode cX2_power 38 = .ok (.irem, 1) := by decide +kernel
theorem dX2_power_39 : decode cX2_power 39 = .ok (.istore_n 3, 1) := by decide +kernel
theorem dX2_power_40 : decode cX2_power 40 = .ok (.iload 4, 2) := by decide +kernel
theorem dX2_power_42 : decode cX2_power 42 = .ok (.iload 4, 2) := by decide +kernel
theorem dX2_power_44 : decode cX2_power 44 = .ok (.imul, 1) := by decide +kernel
theorem dX2_power_45 : decode cX2_power 45 = .ok (.iload_n 2, 1) := by decide +kernel
theorem dX2_power_46 : decode cX2_power 46 = .ok (.irem, 1) := by decide +kernel
theorem dX2_power_47 : decode cX2_power 47 = .ok (.istore 4, 2) := by decide +kernel
theorem dX2_power_49 : decode cX2_power 49 = .ok (.iinc 5 1, 3) := by decide +kernel
theorem dX2_power_52 : decode cX2_power 52 = .ok (.goto (-36), 3) := by decide +kernel
theorem dX2_power_55 : decode cX2_power 55 = .ok (.iload_n 3, 1) := by decide +kernel
theorem dX2_power_56 : decode cX2_power 56 = .ok (.ireturn, 1) := by decide +kernel
set_option maxRecDepth 20000 in
theorem ggX2_of_X2_power : GoodIn wsX2_of wsX2_power := goodIn_r _ [4] (by decide +kernel) (by decide +kernel)
set_option maxRecDepth 20000 in
theorem gX2_of_X2_power : GoodIn wsX2_of (va_wsS RX2 11 yX2_power wsX2_power) := goodIn_app (goodIn_of _ (by decide +kernel)) ggX2_of_X2_power
theorem dX2_of_0 : decode cX2_of 0 = .ok (.iload_n 0, 1) := by decide +kernel
theorem dX2_of_1 : decode cX2_of 1 = .ok (.iload_n 1, 1) := by decide +kernel
theorem dX2_of_2 : decode cX2_of 2 = .ok (.sipush 10007, 3) := by decide +kernel
theorem dX2_of_5 : decode cX2_of 5 = .ok (.invokestatic 11, 3) := by decide +kernel
theorem dX2_of_8 : decode cX2_of 8 = .ok (.ireturn, 1) := by decide +kernel
set_option maxRecDepth 20000 in
theorem ggX2_ofG_X2_power : GoodIn wsX2_ofG wsX2_power := goodIn_r _ [4] (by decide +kernel) (by decide +kernel)
set_option maxRecDepth 20000 in
theorem gX2_ofG_X2_power : GoodIn wsX2_ofG (va_wsS RX2 11 yX2_power wsX2_power) := goodIn_app (goodIn_of _ (by decide +kernel)) ggX2_ofG_X2_power
theorem dX2_ofG_0 : decode cX2_ofG 0 = .ok (.iconst 4, 1) := by decide +kernel
theorem dX2_ofG_1 : decode cX2_ofG 1 = .ok (.iload_n 0, 1) := by decide +kernel
theorem dX2_ofG_2 : decode cX2_ofG 2 = .ok (.sipush 10007, 3) := by decide +kernel
theorem dX2_ofG_5 : decode cX2_ofG 5 = .ok (.invokestatic 11, 3) := by decide +kernel
theorem dX2_ofG_8 : decode cX2_ofG 8 = .ok (.ireturn, 1) := by decide +kernel
set_option maxRecDepth 20000 in
theorem ggX2_inverse_X2_power : GoodIn wsX2_inverse wsX2_power := goodIn_r _ [4] (by decide +kernel) (by decide +kernel)
set_option maxRecDepth 20000 in
theorem gX2_inverse_X2_power : GoodIn wsX2_inverse (va_wsS RX2 11 yX2_power wsX2_power) := goodIn_app (goodIn_of _ (by decide +kernel)) ggX2_inverse_X2_power
theorem dX2_inverse_0 : decode cX2_inverse 0 = .ok (.iload_n 0, 1) := by decide +kernel
theorem dX2_inverse_1 : decode cX2_inverse 1 = .ok (.iload_n 1, 1) := by decide +kernel
theorem dX2_inverse_2 : decode cX2_inverse 2 = .ok (.iconst 2, 1) := by decide +kernel
theorem dX2_inverse_3 : decode cX2_inverse 3 = .ok (.isub, 1) := by decide +kernel
theorem dX2_inverse_4 : decode cX2_inverse 4 = .ok (.iload_n 1, 1) := by decide +kernel
theorem dX2_inverse_5 : decode cX2_inverse 5 = .ok (.invokestatic 11, 3) := by decide +kernel
theorem dX2_inverse_8 : decode cX2_inverse 8 = .ok (.ireturn, 1) := by decide +kernel
set_option maxRecDepth 20000 in
theorem ggX2_divided_X2_inverse : GoodIn wsX2_divided wsX2_inverse := goodIn_r _ [4, 5, 6, 3, 7] (by decide +kernel) (by decide +kernel)
set_option maxRecDepth 20000 in
theorem gX2_divided_X2_inverse : GoodIn wsX2_divided (va_wsS RX2 15 yX2_inverse wsX2_inverse) := goodIn_app (goodIn_of _ (by decide +kernel)) ggX2_divided_X2_inverse
theorem dX2_divided_0 : decode cX2_divided 0 = .ok (.iload_n 0, 1) := by decide +kernel
theorem dX2_divided_1 : decode cX2_divided 1 = .ok (.iload_n 1, 1) := by decide +kernel
theorem dX2_divided_2 : decode cX2_divided 2 = .ok (.sipush 10007, 3) := by decide +kernel
theorem dX2_divided_5 : decode cX2_divided 5 = .ok (.invokestatic 15, 3) := by decide +kernel
theorem dX2_divided_8 : decode cX2_divided 8 = .ok (.imul, 1) := by decide +kernel
theorem dX2_divided_9 : decode cX2_divided 9 = .ok (.sipush 10007, 3) := by decide +kernel
theorem dX2_divided_12 : decode cX2_divided 12 = .ok (.irem, 1) := by decide +kernel
theorem dX2_divided_13 : decode cX2_divided 13 = .ok (.ireturn, 1) := by decide +kernel
set_option maxRecDepth 20000 in
theorem ggX2_isRight_X8_isResidue : GoodIn wsX2_isRight wsX8_isResidue := goodIn_r _ [3, 4, 5, 2, 6] (by decide +kernel) (by decide +kernel)
set_option maxRecDepth 20000 in
theorem gX2_isRight_X8_isResidue_n19 : GoodIn wsX2_isRight (wsX8_isResidue) := ggX2_isRight_X8_isResidue
set_option maxRecDepth 20000 in
theorem ggX2_isRight_X2_of : GoodIn wsX2_isRight wsX2_of := goodIn_r _ [10, 11, 12, 9, 13] (by decide +kernel) (by decide +kernel)
set_option maxRecDepth 20000 in
theorem gX2_isRight_X2_of : GoodIn wsX2_isRight (va_wsS RX2 23 yX2_of wsX2_of) := goodIn_app (goodIn_of _ (by decide +kernel)) ggX2_isRight_X2_of
theorem dX2_isRight_0 : decode cX2_isRight 0 = .ok (.iload_n 0, 1) := by decide +kernel
theorem dX2_isRight_1 : decode cX2_isRight 1 = .ok (.invokestatic 19, 3) := by decide +kernel
theorem dX2_isRight_4 : decode cX2_isRight 4 = .ok (.ifCond .eq 36, 3) := by decide +kernel
theorem dX2_isRight_7 : decode cX2_isRight 7 = .ok (.iload_n 1, 1) := by decide +kernel
theorem dX2_isRight_8 : decode cX2_isRight 8 = .ok (.invokestatic 19, 3) := by decide +kernel
theorem dX2_isRight_11 : decode cX2_isRight 11 = .ok (.ifCond .eq 29, 3) := by decide +kernel
theorem dX2_isRight_14 : decode cX2_isRight 14 = .ok (.iload_n 0, 1) := by decide +kernel
theorem dX2_isRight_15 : decode cX2_isRight 15 = .ok (.sipush 5003, 3) := by decide +kernel
theorem dX2_isRight_18 : decode cX2_isRight 18 = .ok (.invokestatic 23, 3) := by decide +kernel
theorem dX2_isRight_21 : decode cX2_isRight 21 = .ok (.iconst 1, 1) := by decide +kernel
theorem dX2_isRight_22 : decode cX2_isRight 22 = .ok (.if_icmp .ne 18, 3) := by decide +kernel
theorem dX2_isRight_25 : decode cX2_isRight 25 = .ok (.iload_n 1, 1) := by decide +kernel
theorem dX2_isRight_26 : decode cX2_isRight 26 = .ok (.sipush 5003, 3) := by decide +kernel
theorem dX2_isRight_29 : decode cX2_isRight 29 = .ok (.invokestatic 23, 3) := by decide +kernel
theorem dX2_isRight_32 : decode cX2_isRight 32 = .ok (.iconst 1, 1) := by decide +kernel
theorem dX2_isRight_33 : decode cX2_isRight 33 = .ok (.if_icmp .ne 7, 3) := by decide +kernel
theorem dX2_isRight_36 : decode cX2_isRight 36 = .ok (.iconst 1, 1) := by decide +kernel
theorem dX2_isRight_37 : decode cX2_isRight 37 = .ok (.goto 4, 3) := by decide +kernel
theorem dX2_isRight_40 : decode cX2_isRight 40 = .ok (.iconst 0, 1) := by decide +kernel
theorem dX2_isRight_41 : decode cX2_isRight 41 = .ok (.ireturn, 1) := by decide +kernel
theorem dX2_exponentOf_0 : decode cX2_exponentOf 0 = .ok (.iconst 1, 1) := by decide +kernel
theorem dX2_exponentOf_1 : decode cX2_exponentOf 1 = .ok (.istore_n 1, 1) := by decide +kernel
theorem dX2_exponentOf_2 : decode cX2_exponentOf 2 = .ok (.iconst 0, 1) := by decide +kernel
theorem dX2_exponentOf_3 : decode cX2_exponentOf 3 = .ok (.istore_n 2, 1) := by decide +kernel
theorem dX2_exponentOf_4 : decode cX2_exponentOf 4 = .ok (.iload_n 2, 1) := by decide +kernel
theorem dX2_exponentOf_5 : decode cX2_exponentOf 5 = .ok (.sipush 200, 3) := by decide +kernel
theorem dX2_exponentOf_8 : decode cX2_exponentOf 8 = .ok (.if_icmp .gt 24, 3) := by decide +kernel
theorem dX2_exponentOf_11 : decode cX2_exponentOf 11 = .ok (.iload_n 1, 1) := by decide +kernel
theorem dX2_exponentOf_12 : decode cX2_exponentOf 12 = .ok (.iload_n 0, 1) := by decide +kernel
theorem dX2_exponentOf_13 : decode cX2_exponentOf 13 = .ok (.if_icmp .ne 5, 3) := by decide +kernel
theorem dX2_exponentOf_16 : decode cX2_exponentOf 16 = .ok (.iload_n 2, 1) := by decide +kernel
theorem dX2_exponentOf_17 : decode cX2_exponentOf 17 = .ok (.ireturn, 1) := by decide +kernel
theorem dX2_exponentOf_18 : decode cX2_exponentOf 18 = .ok (.iload_n 1, 1) := by decide +kernel
theorem dX2_exponentOf_19 : decode cX2_exponentOf 19 = .ok (.iconst 4, 1) := by decide +kernel
theorem dX2_exponentOf_20 : decode cX2_exponentOf 20 = .ok (.imul, 1) := by decide +kernel
theorem dX2_exponentOf_21 : decode cX2_exponentOf 21 = .ok (.sipush 10007, 3) := by decide +kernel
theorem dX2_exponentOf_24 : decode cX2_exponentOf 24 = .ok (.irem, 1) := by decide +kernel
theorem dX2_exponentOf_25 : decode cX2_exponentOf 25 = .ok (.istore_n 1, 1) := by decide +kernel
theorem dX2_exponentOf_26 : decode cX2_exponentOf 26 = .ok (.iinc 2 1, 3) := by decide +kernel
theorem dX2_exponentOf_29 : decode cX2_exponentOf 29 = .ok (.goto (-25), 3) := by decide +kernel
theorem dX2_exponentOf_32 : decode cX2_exponentOf 32 = .ok (.bipush (-6), 2) := by decide +kernel
theorem dX2_exponentOf_34 : decode cX2_exponentOf 34 = .ok (.ireturn, 1) := by decide +kernel
theorem dX3_init_0 : decode cX3_init 0 = .ok (.aload_n 0, 1) := by decide +kernel
theorem dX3_init_1 : decode cX3_init 1 = .ok (.invokespecial 3, 3) := by decide +kernel
theorem dX3_init_4 : decode cX3_init 4 = .ok (.return_, 1) := by decide +kernel
theorem dX3_become_0 : decode cX3_become 0 = .ok (.aload_n 0, 1) := by decide +kernel
theorem dX3_become_1 : decode cX3_become 1 = .ok (.iload_n 1, 1) := by decide +kernel
theorem dX3_become_2 : decode cX3_become 2 = .ok (.putfield 9, 3) := by decide +kernel
theorem dX3_become_5 : decode cX3_become 5 = .ok (.aload_n 0, 1) := by decide +kernel
theorem dX3_become_6 : decode cX3_become 6 = .ok (.iload_n 2, 1) := by decide +kernel
theorem dX3_become_7 : decode cX3_become 7 = .ok (.putfield 15, 3) := by decide +kernel
theorem dX3_become_10 : decode cX3_become 10 = .ok (.aload_n 0, 1) := by decide +kernel
theorem dX3_become_11 : decode cX3_become 11 = .ok (.iload_n 3, 1) := by decide +kernel
theorem dX3_become_12 : decode cX3_become 12 = .ok (.putfield 18, 3) := by decide +kernel
theorem dX3_become_15 : decode cX3_become 15 = .ok (.aload_n 0, 1) := by decide +kernel
theorem dX3_become_16 : decode cX3_become 16 = .ok (.iload 4, 2) := by decide +kernel
theorem dX3_become_18 : decode cX3_become 18 = .ok (.putfield 21, 3) := by decide +kernel
theorem dX3_become_21 : decode cX3_become 21 = .ok (.return_, 1) := by decide +kernel
theorem dX3_number_0 : decode cX3_number 0 = .ok (.iload_n 1, 1) := by decide +kernel
theorem dX3_number_1 : decode cX3_number 1 = .ok (.tableswitch 42 0 2 #[27, 32, 37], 27) := by decide +kernel
theorem dX3_number_28 : decode cX3_number 28 = .ok (.aload_n 0, 1) := by decide +kernel
theorem dX3_number_29 : decode cX3_number 29 = .ok (.getfield 9, 3) := by decide +kernel
theorem dX3_number_32 : decode cX3_number 32 = .ok (.ireturn, 1) := by decide +kernel
theorem dX3_number_33 : decode cX3_number 33 = .ok (.aload_n 0, 1) := by decide +kernel
theorem dX3_number_34 : decode cX3_number 34 = .ok (.getfield 15, 3) := by decide +kernel
theorem dX3_number_37 : decode cX3_number 37 = .ok (.ireturn, 1) := by decide +kernel
theorem dX3_number_38 : decode cX3_number 38 = .ok (.aload_n 0, 1) := by decide +kernel
theorem dX3_number_39 : decode cX3_number 39 = .ok (.getfield 18, 3) := by decide +kernel
theorem dX3_number_42 : decode cX3_number 42 = .ok (.ireturn, 1) := by decide +kernel
theorem dX3_number_43 : decode cX3_number 43 = .ok (.aload_n 0, 1) := by decide +kernel
theorem dX3_number_44 : decode cX3_number 44 = .ok (.getfield 21, 3) := by decide +kernel
theorem dX3_number_47 : decode cX3_number 47 = .ok (.ireturn, 1) := by decide +kernel
set_option maxRecDepth 20000 in
theorem ggX3_holds_X2_isRight : GoodIn wsX3_holds wsX2_isRight := goodIn_r _ [8, 9, 10, 11, 12, 13, 14, 15, 16, 7, 17, 18, 19, 20] (by decide +kernel) (by decide +kernel)
set_option maxRecDepth 20000 in
theorem gX3_holds_X2_isRight : GoodIn wsX3_holds (va_wsS RX3 24 yX2_isRight wsX2_isRight) := goodIn_app (goodIn_of _ (by decide +kernel)) ggX3_holds_X2_isRight
set_option maxRecDepth 20000 in
theorem ggX3_holds_X8_areLots : GoodIn wsX3_holds wsX8_areLots := goodIn_r _ [22, 23, 24, 10, 25, 12, 13, 14] (by decide +kernel) (by decide +kernel)
set_option maxRecDepth 20000 in
theorem gX3_holds_X8_areLots_n30 : GoodIn wsX3_holds (wsX8_areLots) := ggX3_holds_X8_areLots
set_option maxRecDepth 20000 in
theorem ggX3_holds_X3_mixedWith : GoodIn wsX3_holds wsX3_mixedWith := goodIn_r _ [29] (by decide +kernel) (by decide +kernel)
set_option maxRecDepth 20000 in
theorem gX3_holds_X3_mixedWith : GoodIn wsX3_holds (va_wsS RX3 34 yX3_mixedWith wsX3_mixedWith) := goodIn_app (goodIn_of _ (by decide +kernel)) ggX3_holds_X3_mixedWith
set_option maxRecDepth 20000 in
theorem ggX3_holds_X3_sOf : GoodIn wsX3_holds wsX3_sOf := goodIn_r _ [32, 33, 34, 7, 35, 18, 19, 20, 36, 16, 17, 37, 38, 39, 40, 41, 42] (by decide +kernel) (by decide +kernel)
set_option maxRecDepth 20000 in
theorem gX3_holds_X3_sOf : GoodIn wsX3_holds (va_wsS RX3 38 yX3_sOf wsX3_sOf) := goodIn_app (goodIn_of _ (by decide +kernel)) ggX3_holds_X3_sOf
set_option maxRecDepth 20000 in
theorem ggX3_holds_X3_tOf : GoodIn wsX3_holds wsX3_tOf := goodIn_r _ [45, 33, 34, 7, 35, 18, 19, 20, 37, 38, 39, 40, 41, 42, 46, 47, 48, 49, 50, 51, 36, 16, 17, 56, 57, 58, 59, 60] (by decide +kernel) (by decide +kernel)
set_option maxRecDepth 20000 in
theorem gX3_holds_X3_tOf : GoodIn wsX3_holds (va_wsS RX3 42 yX3_tOf wsX3_tOf) := goodIn_app (goodIn_of _ (by decide +kernel)) ggX3_holds_X3_tOf
theorem dX3_holds_0 : decode cX3_holds 0 = .ok (.iload_n 2, 1) := by decide +kernel
theorem dX3_holds_1 : decode cX3_holds 1 = .ok (.iload_n 3, 1) := by decide +kernel
theorem dX3_holds_2 : decode cX3_holds 2 = .ok (.invokestatic 24, 3) := by decide +kernel
theorem dX3_holds_5 : decode cX3_holds 5 = .ok (.ifCond .eq 25, 3) := by decide +kernel
theorem dX3_holds_8 : decode cX3_holds 8 = .ok (.aload_n 0, 1) := by decide +kernel
theorem dX3_holds_9 : decode cX3_holds 9 = .ok (.getfield 9, 3) := by decide +kernel
theorem dX3_holds_12 : decode cX3_holds 12 = .ok (.aload_n 0, 1) := by decide +kernel
theorem dX3_holds_13 : decode cX3_holds 13 = .ok (.getfield 15, 3) := by decide +kernel
theorem dX3_holds_16 : decode cX3_holds 16 = .ok (.aload_n 0, 1) := by decide +kernel
theorem dX3_holds_17 : decode cX3_holds 17 = .ok (.getfield 18, 3) := by decide +kernel
theorem dX3_holds_20 : decode cX3_holds 20 = .ok (.aload_n 0, 1) := by decide +kernel
theorem dX3_holds_21 : decode cX3_holds 21 = .ok (.getfield 21, 3) := by decide +kernel
theorem dX3_holds_24 : decode cX3_holds 24 = .ok (.invokestatic 30, 3) := by decide +kernel
theorem dX3_holds_27 : decode cX3_holds 27 = .ok (.ifCond .ne 5, 3) := by decide +kernel
theorem dX3_holds_30 : decode cX3_holds 30 = .ok (.iconst 0, 1) := by decide +kernel
theorem dX3_holds_31 : decode cX3_holds 31 = .ok (.ireturn, 1) := by decide +kernel
theorem dX3_holds_32 : decode cX3_holds 32 = .ok (.iconst 1, 1) := by decide +kernel
theorem dX3_holds_33 : decode cX3_holds 33 = .ok (.iload_n 2, 1) := by decide +kernel
theorem dX3_holds_34 : decode cX3_holds 34 = .ok (.invokestatic 34, 3) := by decide +kernel
theorem dX3_holds_37 : decode cX3_holds 37 = .ok (.iload_n 3, 1) := by decide +kernel
theorem dX3_holds_38 : decode cX3_holds 38 = .ok (.invokestatic 34, 3) := by decide +kernel
theorem dX3_holds_41 : decode cX3_holds 41 = .ok (.istore 4, 2) := by decide +kernel
theorem dX3_holds_43 : decode cX3_holds 43 = .ok (.iload 4, 2) := by decide +kernel
theorem dX3_holds_45 : decode cX3_holds 45 = .ok (.iload_n 2, 1) := by decide +kernel
theorem dX3_holds_46 : decode cX3_holds 46 = .ok (.aload_n 0, 1) := by decide +kernel
theorem dX3_holds_47 : decode cX3_holds 47 = .ok (.getfield 9, 3) := by decide +kernel
theorem dX3_holds_50 : decode cX3_holds 50 = .ok (.aload_n 0, 1) := by decide +kernel
theorem dX3_holds_51 : decode cX3_holds 51 = .ok (.getfield 15, 3) := by decide +kernel
theorem dX3_holds_54 : decode cX3_holds 54 = .ok (.invokestatic 38, 3) := by decide +kernel
theorem dX3_holds_57 : decode cX3_holds 57 = .ok (.invokestatic 34, 3) := by decide +kernel
theorem dX3_holds_60 : decode cX3_holds 60 = .ok (.aload_n 1, 1) := by decide +kernel
theorem dX3_holds_61 : decode cX3_holds 61 = .ok (.iload_n 3, 1) := by decide +kernel
theorem dX3_holds_62 : decode cX3_holds 62 = .ok (.iconst 0, 1) := by decide +kernel
theorem dX3_holds_63 : decode cX3_holds 63 = .ok (.aload_n 0, 1) := by decide +kernel
theorem dX3_holds_64 : decode cX3_holds 64 = .ok (.getfield 9, 3) := by decide +kernel
theorem dX3_holds_67 : decode cX3_holds 67 = .ok (.aload_n 0, 1) := by decide +kernel
theorem dX3_holds_68 : decode cX3_holds 68 = .ok (.getfield 15, 3) := by decide +kernel
theorem dX3_holds_71 : decode cX3_holds 71 = .ok (.invokestatic 42, 3) := by decide +kernel
theorem dX3_holds_74 : decode cX3_holds 74 = .ok (.invokestatic 34, 3) := by decide +kernel
theorem dX3_holds_77 : decode cX3_holds 77 = .ok (.istore 4, 2) := by decide +kernel
theorem dX3_holds_79 : decode cX3_holds 79 = .ok (.iload 4, 2) := by decide +kernel
theorem dX3_holds_81 : decode cX3_holds 81 = .ok (.iload_n 2, 1) := by decide +kernel
theorem dX3_holds_82 : decode cX3_holds 82 = .ok (.aload_n 0, 1) := by decide +kernel
theorem dX3_holds_83 : decode cX3_holds 83 = .ok (.getfield 18, 3) := by decide +kernel
theorem dX3_holds_86 : decode cX3_holds 86 = .ok (.aload_n 0, 1) := by decide +kernel
theorem dX3_holds_87 : decode cX3_holds 87 = .ok (.getfield 21, 3) := by decide +kernel
theorem dX3_holds_90 : decode cX3_holds 90 = .ok (.invokestatic 38, 3) := by decide +kernel
theorem dX3_holds_93 : decode cX3_holds 93 = .ok (.invokestatic 34, 3) := by decide +kernel
theorem dX3_holds_96 : decode cX3_holds 96 = .ok (.aload_n 1, 1) := by decide +kernel
theorem dX3_holds_97 : decode cX3_holds 97 = .ok (.iload_n 3, 1) := by decide +kernel
theorem dX3_holds_98 : decode cX3_holds 98 = .ok (.iconst 1, 1) := by decide +kernel
theorem dX3_holds_99 : decode cX3_holds 99 = .ok (.aload_n 0, 1) := by decide +kernel
theorem dX3_holds_100 : decode cX3_holds 100 = .ok (.getfield 18, 3) := by decide +kernel
theorem dX3_holds_103 : decode cX3_holds 103 = .ok (.aload_n 0, 1) := by decide +kernel
theorem dX3_holds_104 : decode cX3_holds 104 = .ok (.getfield 21, 3) := by decide +kernel
theorem dX3_holds_107 : decode cX3_holds 107 = .ok (.invokestatic 42, 3) := by decide +kernel
theorem dX3_holds_110 : decode cX3_holds 110 = .ok (.invokestatic 34, 3) := by decide +kernel
theorem dX3_holds_113 : decode cX3_holds 113 = .ok (.istore 4, 2) := by decide +kernel
theorem dX3_holds_115 : decode cX3_holds 115 = .ok (.aload_n 0, 1) := by decide +kernel
theorem dX3_holds_116 : decode cX3_holds 116 = .ok (.getfield 9, 3) := by decide +kernel
theorem dX3_holds_119 : decode cX3_holds 119 = .ok (.aload_n 0, 1) := by decide +kernel
theorem dX3_holds_120 : decode cX3_holds 120 = .ok (.getfield 18, 3) := by decide +kernel
theorem dX3_holds_123 : decode cX3_holds 123 = .ok (.iadd, 1) := by decide +kernel
theorem dX3_holds_124 : decode cX3_holds 124 = .ok (.sipush 5003, 3) := by decide +kernel
theorem dX3_holds_127 : decode cX3_holds 127 = .ok (.irem, 1) := by decide +kernel
theorem dX3_holds_128 : decode cX3_holds 128 = .ok (.iload 4, 2) := by decide +kernel
theorem dX3_holds_130 : decode cX3_holds 130 = .ok (.if_icmp .ne 7, 3) := by decide +kernel
theorem dX3_holds_133 : decode cX3_holds 133 = .ok (.iconst 1, 1) := by decide +kernel
theorem dX3_holds_134 : decode cX3_holds 134 = .ok (.goto 4, 3) := by decide +kernel
theorem dX3_holds_137 : decode cX3_holds 137 = .ok (.iconst 0, 1) := by decide +kernel
theorem dX3_holds_138 : decode cX3_holds 138 = .ok (.ireturn, 1) := by decide +kernel
set_option maxRecDepth 20000 in
theorem ggX3_make_X2_ofG : GoodIn wsX3_make wsX2_ofG := goodIn_r _ [4, 5, 6, 3, 7] (by decide +kernel) (by decide +kernel)
set_option maxRecDepth 20000 in
theorem gX3_make_X2_ofG : GoodIn wsX3_make (va_wsS RX3 46 yX2_ofG wsX2_ofG) := goodIn_app (goodIn_of _ (by decide +kernel)) ggX3_make_X2_ofG
set_option maxRecDepth 20000 in
theorem ggX3_make_X0_sealedB : GoodIn wsX3_make wsX0_sealedB := goodIn_r _ [12, 13, 14, 15, 3, 16, 5, 6, 7, 17, 2, 4, 47, 48, 49, 50, 51] (by decide +kernel) (by decide +kernel)
set_option maxRecDepth 20000 in
theorem gX3_make_X0_sealedB : GoodIn wsX3_make (wsV RX3 50 RX0 yX0_sealedB wsX0_sealedB) := goodIn_app (goodIn_of _ (by decide +kernel)) ggX3_make_X0_sealedB
set_option maxRecDepth 20000 in
theorem ggX3_make_X0_h : GoodIn wsX3_make wsX0_h := goodIn_r _ [21, 13, 47, 48, 49, 50, 51] (by decide +kernel) (by decide +kernel)
set_option maxRecDepth 20000 in
theorem gX3_make_X0_h : GoodIn wsX3_make (wsV RX3 55 RX0 yX0_h wsX0_h) := goodIn_app (goodIn_of _ (by decide +kernel)) ggX3_make_X0_h
set_option maxRecDepth 20000 in
theorem ggX3_make_X2_of : GoodIn wsX3_make wsX2_of := goodIn_r _ [16, 5, 6, 3, 7] (by decide +kernel) (by decide +kernel)
set_option maxRecDepth 20000 in
theorem gX3_make_X2_of : GoodIn wsX3_make (va_wsS RX3 59 yX2_of wsX2_of) := goodIn_app (goodIn_of _ (by decide +kernel)) ggX3_make_X2_of
set_option maxRecDepth 20000 in
theorem ggX3_make_X3_sOf : GoodIn wsX3_make wsX3_sOf := goodIn_r _ [26, 1, 2, 3, 4, 5, 6, 7, 22, 15, 16, 27, 28, 29, 30, 31, 32] (by decide +kernel) (by decide +kernel)
set_option maxRecDepth 20000 in
theorem gX3_make_X3_sOf : GoodIn wsX3_make (va_wsS RX3 38 yX3_sOf wsX3_sOf) := goodIn_app (goodIn_of _ (by decide +kernel)) ggX3_make_X3_sOf
set_option maxRecDepth 20000 in
theorem ggX3_make_X3_tOf : GoodIn wsX3_make wsX3_tOf := goodIn_r _ [35, 1, 2, 3, 4, 5, 6, 7, 27, 28, 29, 30, 31, 32, 18, 19, 20, 11, 21, 13, 22, 15, 16, 47, 48, 49, 50, 51] (by decide +kernel) (by decide +kernel)
set_option maxRecDepth 20000 in
theorem gX3_make_X3_tOf : GoodIn wsX3_make (va_wsS RX3 42 yX3_tOf wsX3_tOf) := goodIn_app (goodIn_of _ (by decide +kernel)) ggX3_make_X3_tOf
set_option maxRecDepth 20000 in
theorem ggX3_make_X3_mixedWith : GoodIn wsX3_make wsX3_mixedWith := goodIn_r _ [38] (by decide +kernel) (by decide +kernel)
set_option maxRecDepth 20000 in
theorem gX3_make_X3_mixedWith : GoodIn wsX3_make (va_wsS RX3 34 yX3_mixedWith wsX3_mixedWith) := goodIn_app (goodIn_of _ (by decide +kernel)) ggX3_make_X3_mixedWith
set_option maxRecDepth 20000 in
theorem ggX3_make_X3_become : GoodIn wsX3_make wsX3_become := goodIn_r _ [42, 43, 44, 45, 46, 52, 53, 54, 55] (by decide +kernel) (by decide +kernel)
set_option maxRecDepth 20000 in
theorem gX3_make_X3_become : GoodIn wsX3_make (wsV RX3 62 RX3 yX3_become wsX3_become) := goodIn_app (goodIn_of _ (by decide +kernel)) ggX3_make_X3_become
theorem dX3_make_0 : decode cX3_make 0 = .ok (.iload_n 3, 1) := by decide +kernel
theorem dX3_make_1 : decode cX3_make 1 = .ok (.invokestatic 46, 3) := by decide +kernel
theorem dX3_make_4 : decode cX3_make 4 = .ok (.istore 7, 2) := by decide +kernel
theorem dX3_make_6 : decode cX3_make 6 = .ok (.aload_n 1, 1) := by decide +kernel
theorem dX3_make_7 : decode cX3_make 7 = .ok (.iload_n 2, 1) := by decide +kernel
theorem dX3_make_8 : decode cX3_make 8 = .ok (.iload_n 3, 1) := by decide +kernel
theorem dX3_make_9 : decode cX3_make 9 = .ok (.invokevirtual 50, 3) := by decide +kernel
theorem dX3_make_12 : decode cX3_make 12 = .ok (.istore 8, 2) := by decide +kernel
theorem dX3_make_14 : decode cX3_make 14 = .ok (.iload 4, 2) := by decide +kernel
theorem dX3_make_16 : decode cX3_make 16 = .ok (.invokestatic 46, 3) := by decide +kernel
theorem dX3_make_19 : decode cX3_make 19 = .ok (.istore 9, 2) := by decide +kernel
theorem dX3_make_21 : decode cX3_make 21 = .ok (.aload_n 1, 1) := by decide +kernel
theorem dX3_make_22 : decode cX3_make 22 = .ok (.invokevirtual 55, 3) := by decide +kernel
theorem dX3_make_25 : decode cX3_make 25 = .ok (.iload 4, 2) := by decide +kernel
theorem dX3_make_27 : decode cX3_make 27 = .ok (.invokestatic 59, 3) := by decide +kernel
theorem dX3_make_30 : decode cX3_make 30 = .ok (.istore 10, 2) := by decide +kernel
theorem dX3_make_32 : decode cX3_make 32 = .ok (.iload 7, 2) := by decide +kernel
theorem dX3_make_34 : decode cX3_make 34 = .ok (.iload 5, 2) := by decide +kernel
theorem dX3_make_36 : decode cX3_make 36 = .ok (.iload 6, 2) := by decide +kernel
theorem dX3_make_38 : decode cX3_make 38 = .ok (.invokestatic 38, 3) := by decide +kernel
theorem dX3_make_41 : decode cX3_make 41 = .ok (.istore 11, 2) := by decide +kernel
theorem dX3_make_43 : decode cX3_make 43 = .ok (.aload_n 1, 1) := by decide +kernel
theorem dX3_make_44 : decode cX3_make 44 = .ok (.iload 8, 2) := by decide +kernel
theorem dX3_make_46 : decode cX3_make 46 = .ok (.iconst 1, 1) := by decide +kernel
theorem dX3_make_47 : decode cX3_make 47 = .ok (.iload_n 2, 1) := by decide +kernel
theorem dX3_make_48 : decode cX3_make 48 = .ok (.isub, 1) := by decide +kernel
theorem dX3_make_49 : decode cX3_make 49 = .ok (.iload 5, 2) := by decide +kernel
theorem dX3_make_51 : decode cX3_make 51 = .ok (.iload 6, 2) := by decide +kernel
theorem dX3_make_53 : decode cX3_make 53 = .ok (.invokestatic 42, 3) := by decide +kernel
theorem dX3_make_56 : decode cX3_make 56 = .ok (.istore 12, 2) := by decide +kernel
theorem dX3_make_58 : decode cX3_make 58 = .ok (.iconst 1, 1) := by decide +kernel
theorem dX3_make_59 : decode cX3_make 59 = .ok (.iload 7, 2) := by decide +kernel
theorem dX3_make_61 : decode cX3_make 61 = .ok (.invokestatic 34, 3) := by decide +kernel
theorem dX3_make_64 : decode cX3_make 64 = .ok (.iload 8, 2) := by decide +kernel
theorem dX3_make_66 : decode cX3_make 66 = .ok (.invokestatic 34, 3) := by decide +kernel
theorem dX3_make_69 : decode cX3_make 69 = .ok (.istore 13, 2) := by decide +kernel
theorem dX3_make_71 : decode cX3_make 71 = .ok (.iload 13, 2) := by decide +kernel
theorem dX3_make_73 : decode cX3_make 73 = .ok (.iload_n 2, 1) := by decide +kernel
theorem dX3_make_74 : decode cX3_make 74 = .ok (.ifCond .ne 8, 3) := by decide +kernel
theorem dX3_make_77 : decode cX3_make 77 = .ok (.iload 9, 2) := by decide +kernel
theorem dX3_make_79 : decode cX3_make 79 = .ok (.goto 5, 3) := by decide +kernel
theorem dX3_make_82 : decode cX3_make 82 = .ok (.iload 11, 2) := by decide +kernel
theorem dX3_make_84 : decode cX3_make 84 = .ok (.invokestatic 34, 3) := by decide +kernel
theorem dX3_make_87 : decode cX3_make 87 = .ok (.iload_n 2, 1) := by decide +kernel
theorem dX3_make_88 : decode cX3_make 88 = .ok (.ifCond .ne 8, 3) := by decide +kernel
theorem dX3_make_91 : decode cX3_make 91 = .ok (.iload 10, 2) := by decide +kernel
theorem dX3_make_93 : decode cX3_make 93 = .ok (.goto 5, 3) := by decide +kernel
theorem dX3_make_96 : decode cX3_make 96 = .ok (.iload 12, 2) := by decide +kernel
theorem dX3_make_98 : decode cX3_make 98 = .ok (.invokestatic 34, 3) := by decide +kernel
theorem dX3_make_101 : decode cX3_make 101 = .ok (.istore 13, 2) := by decide +kernel
theorem dX3_make_103 : decode cX3_make 103 = .ok (.iload 13, 2) := by decide +kernel
theorem dX3_make_105 : decode cX3_make 105 = .ok (.iload_n 2, 1) := by decide +kernel
theorem dX3_make_106 : decode cX3_make 106 = .ok (.ifCond .ne 8, 3) := by decide +kernel
theorem dX3_make_109 : decode cX3_make 109 = .ok (.iload 11, 2) := by decide +kernel
theorem dX3_make_111 : decode cX3_make 111 = .ok (.goto 5, 3) := by decide +kernel
theorem dX3_make_114 : decode cX3_make 114 = .ok (.iload 9, 2) := by decide +kernel
theorem dX3_make_116 : decode cX3_make 116 = .ok (.invokestatic 34, 3) := by decide +kernel
theorem dX3_make_119 : decode cX3_make 119 = .ok (.iload_n 2, 1) := by decide +kernel
theorem dX3_make_120 : decode cX3_make 120 = .ok (.ifCond .ne 8, 3) := by decide +kernel
theorem dX3_make_123 : decode cX3_make 123 = .ok (.iload 12, 2) := by decide +kernel
theorem dX3_make_125 : decode cX3_make 125 = .ok (.goto 5, 3) := by decide +kernel
theorem dX3_make_128 : decode cX3_make 128 = .ok (.iload 10, 2) := by decide +kernel
theorem dX3_make_130 : decode cX3_make 130 = .ok (.invokestatic 34, 3) := by decide +kernel
theorem dX3_make_133 : decode cX3_make 133 = .ok (.istore 13, 2) := by decide +kernel
theorem dX3_make_135 : decode cX3_make 135 = .ok (.iload 13, 2) := by decide +kernel
theorem dX3_make_137 : decode cX3_make 137 = .ok (.iload 5, 2) := by decide +kernel
theorem dX3_make_139 : decode cX3_make 139 = .ok (.isub, 1) := by decide +kernel
theorem dX3_make_140 : decode cX3_make 140 = .ok (.sipush 5003, 3) := by decide +kernel
theorem dX3_make_143 : decode cX3_make 143 = .ok (.iadd, 1) := by decide +kernel
theorem dX3_make_144 : decode cX3_make 144 = .ok (.sipush 5003, 3) := by decide +kernel
theorem dX3_make_147 : decode cX3_make 147 = .ok (.irem, 1) := by decide +kernel
theorem dX3_make_148 : decode cX3_make 148 = .ok (.istore 14, 2) := by decide +kernel
theorem dX3_make_150 : decode cX3_make 150 = .ok (.iload 4, 2) := by decide +kernel
theorem dX3_make_152 : decode cX3_make 152 = .ok (.iload 14, 2) := by decide +kernel
theorem dX3_make_154 : decode cX3_make 154 = .ok (.iload_n 3, 1) := by decide +kernel
theorem dX3_make_155 : decode cX3_make 155 = .ok (.imul, 1) := by decide +kernel
theorem dX3_make_156 : decode cX3_make 156 = .ok (.iadd, 1) := by decide +kernel
theorem dX3_make_157 : decode cX3_make 157 = .ok (.sipush 5003, 3) := by decide +kernel
theorem dX3_make_160 : decode cX3_make 160 = .ok (.irem, 1) := by decide +kernel
theorem dX3_make_161 : decode cX3_make 161 = .ok (.istore 15, 2) := by decide +kernel
theorem dX3_make_163 : decode cX3_make 163 = .ok (.iload_n 2, 1) := by decide +kernel
theorem dX3_make_164 : decode cX3_make 164 = .ok (.ifCond .ne 18, 3) := by decide +kernel
theorem dX3_make_167 : decode cX3_make 167 = .ok (.aload_n 0, 1) := by decide +kernel
theorem dX3_make_168 : decode cX3_make 168 = .ok (.iload 14, 2) := by decide +kernel
theorem dX3_make_170 : decode cX3_make 170 = .ok (.iload 15, 2) := by decide +kernel
theorem dX3_make_172 : decode cX3_make 172 = .ok (.iload 5, 2) := by decide +kernel
theorem dX3_make_174 : decode cX3_make 174 = .ok (.iload 6, 2) := by decide +kernel
theorem dX3_make_176 : decode cX3_make 176 = .ok (.invokevirtual 62, 3) := by decide +kernel
theorem dX3_make_179 : decode cX3_make 179 = .ok (.goto 15, 3) := by decide +kernel
theorem dX3_make_182 : decode cX3_make 182 = .ok (.aload_n 0, 1) := by decide +kernel
theorem dX3_make_183 : decode cX3_make 183 = .ok (.iload 5, 2) := by decide +kernel
theorem dX3_make_185 : decode cX3_make 185 = .ok (.iload 6, 2) := by decide +kernel
theorem dX3_make_187 : decode cX3_make 187 = .ok (.iload 14, 2) := by decide +kernel
theorem dX3_make_189 : decode cX3_make 189 = .ok (.iload 15, 2) := by decide +kernel
theorem dX3_make_191 : decode cX3_make 191 = .ok (.invokevirtual 62, 3) := by decide +kernel
theorem dX3_make_194 : decode cX3_make 194 = .ok (.return_, 1) := by decide +kernel
set_option maxRecDepth 20000 in
theorem ggX3_sOf_X2_ofG : GoodIn wsX3_sOf wsX2_ofG := goodIn_r _ [4, 5, 6, 3, 7] (by decide +kernel) (by decide +kernel)
set_option maxRecDepth 20000 in
theorem gX3_sOf_X2_ofG : GoodIn wsX3_sOf (va_wsS RX3 46 yX2_ofG wsX2_ofG) := goodIn_app (goodIn_of _ (by decide +kernel)) ggX3_sOf_X2_ofG
set_option maxRecDepth 20000 in
theorem ggX3_sOf_X2_of : GoodIn wsX3_sOf wsX2_of := goodIn_r _ [10, 5, 6, 3, 7] (by decide +kernel) (by decide +kernel)
set_option maxRecDepth 20000 in
theorem gX3_sOf_X2_of : GoodIn wsX3_sOf (va_wsS RX3 59 yX2_of wsX2_of) := goodIn_app (goodIn_of _ (by decide +kernel)) ggX3_sOf_X2_of
set_option maxRecDepth 20000 in
theorem ggX3_sOf_X2_divided : GoodIn wsX3_sOf wsX2_divided := goodIn_r _ [13, 14, 15, 3, 16, 5, 6, 7] (by decide +kernel) (by decide +kernel)
set_option maxRecDepth 20000 in
theorem gX3_sOf_X2_divided : GoodIn wsX3_sOf (va_wsS RX3 66 yX2_divided wsX2_divided) := goodIn_app (goodIn_of _ (by decide +kernel)) ggX3_sOf_X2_divided
theorem dX3_sOf_0 : decode cX3_sOf 0 = .ok (.iload_n 2, 1) := by decide +kernel
theorem dX3_sOf_1 : decode cX3_sOf 1 = .ok (.invokestatic 46, 3) := by decide +kernel
theorem dX3_sOf_4 : decode cX3_sOf 4 = .ok (.iload_n 0, 1) := by decide +kernel
theorem dX3_sOf_5 : decode cX3_sOf 5 = .ok (.iload_n 1, 1) := by decide +kernel
theorem dX3_sOf_6 : decode cX3_sOf 6 = .ok (.invokestatic 59, 3) := by decide +kernel
theorem dX3_sOf_9 : decode cX3_sOf 9 = .ok (.invokestatic 66, 3) := by decide +kernel
theorem dX3_sOf_12 : decode cX3_sOf 12 = .ok (.ireturn, 1) := by decide +kernel
set_option maxRecDepth 20000 in
theorem ggX3_tOf_X2_ofG : GoodIn wsX3_tOf wsX2_ofG := goodIn_r _ [4, 5, 6, 3, 7] (by decide +kernel) (by decide +kernel)
set_option maxRecDepth 20000 in
theorem gX3_tOf_X2_ofG : GoodIn wsX3_tOf (va_wsS RX3 46 yX2_ofG wsX2_ofG) := goodIn_app (goodIn_of _ (by decide +kernel)) ggX3_tOf_X2_ofG
set_option maxRecDepth 20000 in
theorem ggX3_tOf_X2_divided : GoodIn wsX3_tOf wsX2_divided := goodIn_r _ [10, 11, 12, 3, 13, 5, 6, 7] (by decide +kernel) (by decide +kernel)
set_option maxRecDepth 20000 in
theorem gX3_tOf_X2_divided : GoodIn wsX3_tOf (va_wsS RX3 66 yX2_divided wsX2_divided) := goodIn_app (goodIn_of _ (by decide +kernel)) ggX3_tOf_X2_divided
set_option maxRecDepth 20000 in
theorem ggX3_tOf_X0_h : GoodIn wsX3_tOf wsX0_h := goodIn_r _ [18, 19, 23, 24, 25, 26, 27] (by decide +kernel) (by decide +kernel)
set_option maxRecDepth 20000 in
theorem gX3_tOf_X0_h : GoodIn wsX3_tOf (wsV RX3 55 RX0 yX0_h wsX0_h) := goodIn_app (goodIn_of _ (by decide +kernel)) ggX3_tOf_X0_h
set_option maxRecDepth 20000 in
theorem ggX3_tOf_X2_of : GoodIn wsX3_tOf wsX2_of := goodIn_r _ [22, 5, 6, 3, 7] (by decide +kernel) (by decide +kernel)
set_option maxRecDepth 20000 in
theorem gX3_tOf_X2_of : GoodIn wsX3_tOf (va_wsS RX3 59 yX2_of wsX2_of) := goodIn_app (goodIn_of _ (by decide +kernel)) ggX3_tOf_X2_of
theorem dX3_tOf_0 : decode cX3_tOf 0 = .ok (.iload_n 1, 1) := by decide +kernel
theorem dX3_tOf_1 : decode cX3_tOf 1 = .ok (.iload_n 2, 1) := by decide +kernel
theorem dX3_tOf_2 : decode cX3_tOf 2 = .ok (.invokestatic 46, 3) := by decide +kernel
theorem dX3_tOf_5 : decode cX3_tOf 5 = .ok (.invokestatic 66, 3) := by decide +kernel
theorem dX3_tOf_8 : decode cX3_tOf 8 = .ok (.istore 5, 2) := by decide +kernel
theorem dX3_tOf_10 : decode cX3_tOf 10 = .ok (.aload_n 0, 1) := by decide +kernel
theorem dX3_tOf_11 : decode cX3_tOf 11 = .ok (.invokevirtual 55, 3) := by decide +kernel
theorem dX3_tOf_14 : decode cX3_tOf 14 = .ok (.iload 4, 2) := by decide +kernel
theorem dX3_tOf_16 : decode cX3_tOf 16 = .ok (.invokestatic 59, 3) := by decide +kernel
theorem dX3_tOf_19 : decode cX3_tOf 19 = .ok (.iload 5, 2) := by decide +kernel
theorem dX3_tOf_21 : decode cX3_tOf 21 = .ok (.iload_n 3, 1) := by decide +kernel
theorem dX3_tOf_22 : decode cX3_tOf 22 = .ok (.invokestatic 59, 3) := by decide +kernel
theorem dX3_tOf_25 : decode cX3_tOf 25 = .ok (.invokestatic 66, 3) := by decide +kernel
theorem dX3_tOf_28 : decode cX3_tOf 28 = .ok (.ireturn, 1) := by decide +kernel
theorem dX3_mixedWith_0 : decode cX3_mixedWith 0 = .ok (.iload_n 0, 1) := by decide +kernel
theorem dX3_mixedWith_1 : decode cX3_mixedWith 1 = .ok (.bipush 31, 2) := by decide +kernel
theorem dX3_mixedWith_3 : decode cX3_mixedWith 3 = .ok (.imul, 1) := by decide +kernel
theorem dX3_mixedWith_4 : decode cX3_mixedWith 4 = .ok (.iload_n 1, 1) := by decide +kernel
theorem dX3_mixedWith_5 : decode cX3_mixedWith 5 = .ok (.iadd, 1) := by decide +kernel
theorem dX3_mixedWith_6 : decode cX3_mixedWith 6 = .ok (.sipush 5003, 3) := by decide +kernel
theorem dX3_mixedWith_9 : decode cX3_mixedWith 9 = .ok (.irem, 1) := by decide +kernel
theorem dX3_mixedWith_10 : decode cX3_mixedWith 10 = .ok (.ireturn, 1) := by decide +kernel
set_option maxRecDepth 20000 in
theorem ggX4_init_X6_init : GoodIn wsX4_init wsX6_init := goodIn_r _ [13, 14, 2, 3, 4, 15, 16, 20, 21] (by decide +kernel) (by decide +kernel)
set_option maxRecDepth 20000 in
theorem gX4_init_X6_init : GoodIn wsX4_init (wsX6_init) := ggX4_init_X6_init
theorem dX4_init_0 : decode cX4_init 0 = .ok (.aload_n 0, 1) := by decide +kernel
theorem dX4_init_1 : decode cX4_init 1 = .ok (.invokespecial 3, 3) := by decide +kernel
theorem dX4_init_4 : decode cX4_init 4 = .ok (.aload_n 0, 1) := by decide +kernel
theorem dX4_init_5 : decode cX4_init 5 = .ok (.bipush 36, 2) := by decide +kernel
theorem dX4_init_7 : decode cX4_init 7 = .ok (.newarray .int, 2) := by decide +kernel
theorem dX4_init_9 : decode cX4_init 9 = .ok (.putfield 9, 3) := by decide +kernel
theorem dX4_init_12 : decode cX4_init 12 = .ok (.iconst 0, 1) := by decide +kernel
theorem dX4_init_13 : decode cX4_init 13 = .ok (.istore_n 1, 1) := by decide +kernel
theorem dX4_init_14 : decode cX4_init 14 = .ok (.iload_n 1, 1) := by decide +kernel
theorem dX4_init_15 : decode cX4_init 15 = .ok (.iconst 1, 1) := by decide +kernel
theorem dX4_init_16 : decode cX4_init 16 = .ok (.iadd, 1) := by decide +kernel
theorem dX4_init_17 : decode cX4_init 17 = .ok (.aload_n 0, 1) := by decide +kernel
theorem dX4_init_18 : decode cX4_init 18 = .ok (.getfield 9, 3) := by decide +kernel
theorem dX4_init_21 : decode cX4_init 21 = .ok (.arraylength, 1) := by decide +kernel
theorem dX4_init_22 : decode cX4_init 22 = .ok (.if_icmp .ge 27, 3) := by decide +kernel
theorem dX4_init_25 : decode cX4_init 25 = .ok (.aload_n 0, 1) := by decide +kernel
theorem dX4_init_26 : decode cX4_init 26 = .ok (.getfield 9, 3) := by decide +kernel
theorem dX4_init_29 : decode cX4_init 29 = .ok (.iload_n 1, 1) := by decide +kernel
theorem dX4_init_30 : decode cX4_init 30 = .ok (.bipush 30, 2) := by decide +kernel
theorem dX4_init_32 : decode cX4_init 32 = .ok (.iastore, 1) := by decide +kernel
theorem dX4_init_33 : decode cX4_init 33 = .ok (.aload_n 0, 1) := by decide +kernel
theorem dX4_init_34 : decode cX4_init 34 = .ok (.getfield 9, 3) := by decide +kernel
theorem dX4_init_37 : decode cX4_init 37 = .ok (.iload_n 1, 1) := by decide +kernel
theorem dX4_init_38 : decode cX4_init 38 = .ok (.iconst 1, 1) := by decide +kernel
theorem dX4_init_39 : decode cX4_init 39 = .ok (.iadd, 1) := by decide +kernel
theorem dX4_init_40 : decode cX4_init 40 = .ok (.bipush 10, 2) := by decide +kernel
theorem dX4_init_42 : decode cX4_init 42 = .ok (.iastore, 1) := by decide +kernel
theorem dX4_init_43 : decode cX4_init 43 = .ok (.iinc 1 3, 3) := by decide +kernel
theorem dX4_init_46 : decode cX4_init 46 = .ok (.goto (-32), 3) := by decide +kernel
theorem dX4_init_49 : decode cX4_init 49 = .ok (.aload_n 0, 1) := by decide +kernel
theorem dX4_init_50 : decode cX4_init 50 = .ok (.new 15, 3) := by decide +kernel
theorem dX4_init_53 : decode cX4_init 53 = .ok (.dup, 1) := by decide +kernel
theorem dX4_init_54 : decode cX4_init 54 = .ok (.invokespecial 17, 3) := by decide +kernel
theorem dX4_init_57 : decode cX4_init 57 = .ok (.putfield 18, 3) := by decide +kernel
theorem dX4_init_60 : decode cX4_init 60 = .ok (.aload_n 0, 1) := by decide +kernel
theorem dX4_init_61 : decode cX4_init 61 = .ok (.new 15, 3) := by decide +kernel
theorem dX4_init_64 : decode cX4_init 64 = .ok (.dup, 1) := by decide +kernel
theorem dX4_init_65 : decode cX4_init 65 = .ok (.invokespecial 17, 3) := by decide +kernel
theorem dX4_init_68 : decode cX4_init 68 = .ok (.putfield 22, 3) := by decide +kernel
theorem dX4_init_71 : decode cX4_init 71 = .ok (.return_, 1) := by decide +kernel
theorem dX4_draft_0 : decode cX4_draft 0 = .ok (.aload_n 0, 1) := by decide +kernel
theorem dX4_draft_1 : decode cX4_draft 1 = .ok (.getfield 22, 3) := by decide +kernel
theorem dX4_draft_4 : decode cX4_draft 4 = .ok (.areturn, 1) := by decide +kernel
set_option maxRecDepth 20000 in
theorem ggX4_adoptDraft_X6_clear : GoodIn wsX4_adoptDraft wsX6_clear := goodIn_r _ [7, 8, 12, 13] (by decide +kernel) (by decide +kernel)
set_option maxRecDepth 20000 in
theorem gX4_adoptDraft_X6_clear : GoodIn wsX4_adoptDraft (wsV RX4 25 RX6 yX6_clear wsX6_clear) := goodIn_app (goodIn_of _ (by decide +kernel)) ggX4_adoptDraft_X6_clear
theorem dX4_adoptDraft_0 : decode cX4_adoptDraft 0 = .ok (.aload_n 0, 1) := by decide +kernel
theorem dX4_adoptDraft_1 : decode cX4_adoptDraft 1 = .ok (.getfield 18, 3) := by decide +kernel
theorem dX4_adoptDraft_4 : decode cX4_adoptDraft 4 = .ok (.astore_n 1, 1) := by decide +kernel
theorem dX4_adoptDraft_5 : decode cX4_adoptDraft 5 = .ok (.aload_n 0, 1) := by decide +kernel
theorem dX4_adoptDraft_6 : decode cX4_adoptDraft 6 = .ok (.aload_n 0, 1) := by decide +kernel
theorem dX4_adoptDraft_7 : decode cX4_adoptDraft 7 = .ok (.getfield 22, 3) := by decide +kernel
theorem dX4_adoptDraft_10 : decode cX4_adoptDraft 10 = .ok (.putfield 18, 3) := by decide +kernel
theorem dX4_adoptDraft_13 : decode cX4_adoptDraft 13 = .ok (.aload_n 0, 1) := by decide +kernel
theorem dX4_adoptDraft_14 : decode cX4_adoptDraft 14 = .ok (.aload_n 1, 1) := by decide +kernel
theorem dX4_adoptDraft_15 : decode cX4_adoptDraft 15 = .ok (.putfield 22, 3) := by decide +kernel
theorem dX4_adoptDraft_18 : decode cX4_adoptDraft 18 = .ok (.aload_n 0, 1) := by decide +kernel
theorem dX4_adoptDraft_19 : decode cX4_adoptDraft 19 = .ok (.getfield 22, 3) := by decide +kernel
theorem dX4_adoptDraft_22 : decode cX4_adoptDraft 22 = .ok (.invokevirtual 25, 3) := by decide +kernel
theorem dX4_adoptDraft_25 : decode cX4_adoptDraft 25 = .ok (.return_, 1) := by decide +kernel
set_option maxRecDepth 20000 in
theorem ggX4_change_X4_trait : GoodIn wsX4_change wsX4_trait := goodIn_r _ [6, 1, 7, 8, 9] (by decide +kernel) (by decide +kernel)
set_option maxRecDepth 20000 in
theorem gX4_change_X4_trait : GoodIn wsX4_change (wsV RX4 28 RX4 yX4_trait wsX4_trait) := goodIn_app (goodIn_of _ (by decide +kernel)) ggX4_change_X4_trait
theorem dX4_change_0 : decode cX4_change 0 = .ok (.aload_n 0, 1) := by decide +kernel
theorem dX4_change_1 : decode cX4_change 1 = .ok (.iload_n 1, 1) := by decide +kernel
theorem dX4_change_2 : decode cX4_change 2 = .ok (.iload_n 2, 1) := by decide +kernel
theorem dX4_change_3 : decode cX4_change 3 = .ok (.invokevirtual 28, 3) := by decide +kernel
theorem dX4_change_6 : decode cX4_change 6 = .ok (.istore 4, 2) := by decide +kernel
theorem dX4_change_8 : decode cX4_change 8 = .ok (.iload_n 1, 1) := by decide +kernel
theorem dX4_change_9 : decode cX4_change 9 = .ok (.iconst 3, 1) := by decide +kernel
theorem dX4_change_10 : decode cX4_change 10 = .ok (.imul, 1) := by decide +kernel
theorem dX4_change_11 : decode cX4_change 11 = .ok (.iload_n 2, 1) := by decide +kernel
theorem dX4_change_12 : decode cX4_change 12 = .ok (.iadd, 1) := by decide +kernel
theorem dX4_change_13 : decode cX4_change 13 = .ok (.istore 5, 2) := by decide +kernel
theorem dX4_change_15 : decode cX4_change 15 = .ok (.iload 5, 2) := by decide +kernel
theorem dX4_change_17 : decode cX4_change 17 = .ok (.ifCond .lt 21, 3) := by decide +kernel
theorem dX4_change_20 : decode cX4_change 20 = .ok (.iload 5, 2) := by decide +kernel
theorem dX4_change_22 : decode cX4_change 22 = .ok (.aload_n 0, 1) := by decide +kernel
theorem dX4_change_23 : decode cX4_change 23 = .ok (.getfield 9, 3) := by decide +kernel
theorem dX4_change_26 : decode cX4_change 26 = .ok (.arraylength, 1) := by decide +kernel
theorem dX4_change_27 : decode cX4_change 27 = .ok (.if_icmp .ge 11, 3) := by decide +kernel
theorem dX4_change_30 : decode cX4_change 30 = .ok (.aload_n 0, 1) := by decide +kernel
theorem dX4_change_31 : decode cX4_change 31 = .ok (.getfield 9, 3) := by decide +kernel
theorem dX4_change_34 : decode cX4_change 34 = .ok (.iload 5, 2) := by decide +kernel
theorem dX4_change_36 : decode cX4_change 36 = .ok (.iload_n 3, 1) := by decide +kernel
theorem dX4_change_37 : decode cX4_change 37 = .ok (.iastore, 1) := by decide +kernel
theorem dX4_change_38 : decode cX4_change 38 = .ok (.iload 4, 2) := by decide +kernel
theorem dX4_change_40 : decode cX4_change 40 = .ok (.ireturn, 1) := by decide +kernel
set_option maxRecDepth 20000 in
theorem ggX4_allows_X4_trait : GoodIn wsX4_allows wsX4_trait := goodIn_r _ [6, 7, 27, 28, 29] (by decide +kernel) (by decide +kernel)
set_option maxRecDepth 20000 in
theorem gX4_allows_X4_trait : GoodIn wsX4_allows (wsV RX4 28 RX4 yX4_trait wsX4_trait) := goodIn_app (goodIn_of _ (by decide +kernel)) ggX4_allows_X4_trait
set_option maxRecDepth 20000 in
theorem ggX4_allows_X6_allows : GoodIn wsX4_allows wsX6_allows := goodIn_r _ [12, 13, 14, 15, 16, 11, 17, 18, 19, 20, 21, 22, 23, 24, 25, 26, 30, 31] (by decide +kernel) (by decide +kernel)
set_option maxRecDepth 20000 in
theorem gX4_allows_X6_allows : GoodIn wsX4_allows (wsV RX4 32 RX6 yX6_allows wsX6_allows) := goodIn_app (goodIn_of _ (by decide +kernel)) ggX4_allows_X6_allows
theorem dX4_allows_0 : decode cX4_allows 0 = .ok (.aload_n 0, 1) := by decide +kernel
theorem dX4_allows_1 : decode cX4_allows 1 = .ok (.getfield 18, 3) := by decide +kernel
theorem dX4_allows_4 : decode cX4_allows 4 = .ok (.aload_n 0, 1) := by decide +kernel
theorem dX4_allows_5 : decode cX4_allows 5 = .ok (.iload_n 1, 1) := by decide +kernel
theorem dX4_allows_6 : decode cX4_allows 6 = .ok (.iconst 0, 1) := by decide +kernel
theorem dX4_allows_7 : decode cX4_allows 7 = .ok (.invokevirtual 28, 3) := by decide +kernel
theorem dX4_allows_10 : decode cX4_allows 10 = .ok (.aload_n 0, 1) := by decide +kernel
theorem dX4_allows_11 : decode cX4_allows 11 = .ok (.iload_n 1, 1) := by decide +kernel
theorem dX4_allows_12 : decode cX4_allows 12 = .ok (.iconst 1, 1) := by decide +kernel
theorem dX4_allows_13 : decode cX4_allows 13 = .ok (.invokevirtual 28, 3) := by decide +kernel
theorem dX4_allows_16 : decode cX4_allows 16 = .ok (.aload_n 0, 1) := by decide +kernel
theorem dX4_allows_17 : decode cX4_allows 17 = .ok (.iload_n 1, 1) := by decide +kernel
theorem dX4_allows_18 : decode cX4_allows 18 = .ok (.iconst 2, 1) := by decide +kernel
theorem dX4_allows_19 : decode cX4_allows 19 = .ok (.invokevirtual 28, 3) := by decide +kernel
theorem dX4_allows_22 : decode cX4_allows 22 = .ok (.invokevirtual 32, 3) := by decide +kernel
theorem dX4_allows_25 : decode cX4_allows 25 = .ok (.ireturn, 1) := by decide +kernel
theorem dX4_trait_0 : decode cX4_trait 0 = .ok (.iload_n 1, 1) := by decide +kernel
theorem dX4_trait_1 : decode cX4_trait 1 = .ok (.iconst 3, 1) := by decide +kernel
theorem dX4_trait_2 : decode cX4_trait 2 = .ok (.imul, 1) := by decide +kernel
theorem dX4_trait_3 : decode cX4_trait 3 = .ok (.iload_n 2, 1) := by decide +kernel
theorem dX4_trait_4 : decode cX4_trait 4 = .ok (.iadd, 1) := by decide +kernel
theorem dX4_trait_5 : decode cX4_trait 5 = .ok (.istore_n 3, 1) := by decide +kernel
theorem dX4_trait_6 : decode cX4_trait 6 = .ok (.iload_n 3, 1) := by decide +kernel
theorem dX4_trait_7 : decode cX4_trait 7 = .ok (.ifCond .lt 21, 3) := by decide +kernel
theorem dX4_trait_10 : decode cX4_trait 10 = .ok (.iload_n 3, 1) := by decide +kernel
theorem dX4_trait_11 : decode cX4_trait 11 = .ok (.aload_n 0, 1) := by decide +kernel
theorem dX4_trait_12 : decode cX4_trait 12 = .ok (.getfield 9, 3) := by decide +kernel
theorem dX4_trait_15 : decode cX4_trait 15 = .ok (.arraylength, 1) := by decide +kernel
theorem dX4_trait_16 : decode cX4_trait 16 = .ok (.if_icmp .ge 12, 3) := by decide +kernel
theorem dX4_trait_19 : decode cX4_trait 19 = .ok (.aload_n 0, 1) := by decide +kernel
theorem dX4_trait_20 : decode cX4_trait 20 = .ok (.getfield 9, 3) := by decide +kernel
theorem dX4_trait_23 : decode cX4_trait 23 = .ok (.iload_n 3, 1) := by decide +kernel
theorem dX4_trait_24 : decode cX4_trait 24 = .ok (.iaload, 1) := by decide +kernel
theorem dX4_trait_25 : decode cX4_trait 25 = .ok (.goto 4, 3) := by decide +kernel
theorem dX4_trait_28 : decode cX4_trait 28 = .ok (.iconst 0, 1) := by decide +kernel
theorem dX4_trait_29 : decode cX4_trait 29 = .ok (.ireturn, 1) := by decide +kernel
theorem dX5_init_0 : decode cX5_init 0 = .ok (.aload_n 0, 1) := by decide +kernel
theorem dX5_init_1 : decode cX5_init 1 = .ok (.invokespecial 3, 3) := by decide +kernel
theorem dX5_init_4 : decode cX5_init 4 = .ok (.aload_n 0, 1) := by decide +kernel
theorem dX5_init_5 : decode cX5_init 5 = .ok (.iload_n 1, 1) := by decide +kernel
theorem dX5_init_6 : decode cX5_init 6 = .ok (.putfield 9, 3) := by decide +kernel
theorem dX5_init_9 : decode cX5_init 9 = .ok (.aload_n 0, 1) := by decide +kernel
theorem dX5_init_10 : decode cX5_init 10 = .ok (.iload_n 2, 1) := by decide +kernel
theorem dX5_init_11 : decode cX5_init 11 = .ok (.putfield 15, 3) := by decide +kernel
theorem dX5_init_14 : decode cX5_init 14 = .ok (.aload_n 0, 1) := by decide +kernel
theorem dX5_init_15 : decode cX5_init 15 = .ok (.iload_n 3, 1) := by decide +kernel
theorem dX5_init_16 : decode cX5_init 16 = .ok (.putfield 18, 3) := by decide +kernel
theorem dX5_init_19 : decode cX5_init 19 = .ok (.aload_n 0, 1) := by decide +kernel
theorem dX5_init_20 : decode cX5_init 20 = .ok (.iload 4, 2) := by decide +kernel
theorem dX5_init_22 : decode cX5_init 22 = .ok (.putfield 21, 3) := by decide +kernel
theorem dX5_init_25 : decode cX5_init 25 = .ok (.aload_n 0, 1) := by decide +kernel
theorem dX5_init_26 : decode cX5_init 26 = .ok (.iload 5, 2) := by decide +kernel
theorem dX5_init_28 : decode cX5_init 28 = .ok (.putfield 24, 3) := by decide +kernel
theorem dX5_init_31 : decode cX5_init 31 = .ok (.aload_n 0, 1) := by decide +kernel
theorem dX5_init_32 : decode cX5_init 32 = .ok (.iload 6, 2) := by decide +kernel
theorem dX5_init_34 : decode cX5_init 34 = .ok (.putfield 28, 3) := by decide +kernel
theorem dX5_init_37 : decode cX5_init 37 = .ok (.return_, 1) := by decide +kernel
set_option maxRecDepth 20000 in
theorem ggX5_word_X5_wordWith : GoodIn wsX5_word wsX5_wordWith := goodIn_r _ [8] (by decide +kernel) (by decide +kernel)
set_option maxRecDepth 20000 in
theorem gX5_word_X5_wordWith : GoodIn wsX5_word (va_wsS RX5 31 yX5_wordWith wsX5_wordWith) := goodIn_app (goodIn_of _ (by decide +kernel)) ggX5_word_X5_wordWith
theorem dX5_word_0 : decode cX5_word 0 = .ok (.bipush 7, 2) := by decide +kernel
theorem dX5_word_2 : decode cX5_word 2 = .ok (.aload_n 0, 1) := by decide +kernel
theorem dX5_word_3 : decode cX5_word 3 = .ok (.getfield 9, 3) := by decide +kernel
theorem dX5_word_6 : decode cX5_word 6 = .ok (.invokestatic 31, 3) := by decide +kernel
theorem dX5_word_9 : decode cX5_word 9 = .ok (.istore_n 1, 1) := by decide +kernel
theorem dX5_word_10 : decode cX5_word 10 = .ok (.iload_n 1, 1) := by decide +kernel
theorem dX5_word_11 : decode cX5_word 11 = .ok (.aload_n 0, 1) := by decide +kernel
theorem dX5_word_12 : decode cX5_word 12 = .ok (.getfield 15, 3) := by decide +kernel
theorem dX5_word_15 : decode cX5_word 15 = .ok (.invokestatic 31, 3) := by decide +kernel
theorem dX5_word_18 : decode cX5_word 18 = .ok (.istore_n 1, 1) := by decide +kernel
theorem dX5_word_19 : decode cX5_word 19 = .ok (.iload_n 1, 1) := by decide +kernel
theorem dX5_word_20 : decode cX5_word 20 = .ok (.aload_n 0, 1) := by decide +kernel
theorem dX5_word_21 : decode cX5_word 21 = .ok (.getfield 18, 3) := by decide +kernel
theorem dX5_word_24 : decode cX5_word 24 = .ok (.invokestatic 31, 3) := by decide +kernel
theorem dX5_word_27 : decode cX5_word 27 = .ok (.istore_n 1, 1) := by decide +kernel
theorem dX5_word_28 : decode cX5_word 28 = .ok (.iload_n 1, 1) := by decide +kernel
theorem dX5_word_29 : decode cX5_word 29 = .ok (.aload_n 0, 1) := by decide +kernel
theorem dX5_word_30 : decode cX5_word 30 = .ok (.getfield 21, 3) := by decide +kernel
theorem dX5_word_33 : decode cX5_word 33 = .ok (.invokestatic 31, 3) := by decide +kernel
theorem dX5_word_36 : decode cX5_word 36 = .ok (.ireturn, 1) := by decide +kernel
theorem dX5_wordWith_0 : decode cX5_wordWith 0 = .ok (.iload_n 0, 1) := by decide +kernel
theorem dX5_wordWith_1 : decode cX5_wordWith 1 = .ok (.sipush 131, 3) := by decide +kernel
theorem dX5_wordWith_4 : decode cX5_wordWith 4 = .ok (.imul, 1) := by decide +kernel
theorem dX5_wordWith_5 : decode cX5_wordWith 5 = .ok (.iload_n 1, 1) := by decide +kernel
theorem dX5_wordWith_6 : decode cX5_wordWith 6 = .ok (.iadd, 1) := by decide +kernel
theorem dX5_wordWith_7 : decode cX5_wordWith 7 = .ok (.sipush 9973, 3) := by decide +kernel
theorem dX5_wordWith_10 : decode cX5_wordWith 10 = .ok (.irem, 1) := by decide +kernel
theorem dX5_wordWith_11 : decode cX5_wordWith 11 = .ok (.ireturn, 1) := by decide +kernel
theorem dX6_init_0 : decode cX6_init 0 = .ok (.aload_n 0, 1) := by decide +kernel
theorem dX6_init_1 : decode cX6_init 1 = .ok (.invokespecial 3, 3) := by decide +kernel
theorem dX6_init_4 : decode cX6_init 4 = .ok (.aload_n 0, 1) := by decide +kernel
theorem dX6_init_5 : decode cX6_init 5 = .ok (.bipush 40, 2) := by decide +kernel
theorem dX6_init_7 : decode cX6_init 7 = .ok (.newarray .int, 2) := by decide +kernel
theorem dX6_init_9 : decode cX6_init 9 = .ok (.putfield 9, 3) := by decide +kernel
theorem dX6_init_12 : decode cX6_init 12 = .ok (.aload_n 0, 1) := by decide +kernel
theorem dX6_init_13 : decode cX6_init 13 = .ok (.iconst 0, 1) := by decide +kernel
theorem dX6_init_14 : decode cX6_init 14 = .ok (.putfield 15, 3) := by decide +kernel
theorem dX6_init_17 : decode cX6_init 17 = .ok (.return_, 1) := by decide +kernel
theorem dX6_size_0 : decode cX6_size 0 = .ok (.aload_n 0, 1) := by decide +kernel
theorem dX6_size_1 : decode cX6_size 1 = .ok (.getfield 15, 3) := by decide +kernel
theorem dX6_size_4 : decode cX6_size 4 = .ok (.ireturn, 1) := by decide +kernel
theorem dX6_clear_0 : decode cX6_clear 0 = .ok (.aload_n 0, 1) := by decide +kernel
theorem dX6_clear_1 : decode cX6_clear 1 = .ok (.iconst 0, 1) := by decide +kernel
theorem dX6_clear_2 : decode cX6_clear 2 = .ok (.putfield 15, 3) := by decide +kernel
theorem dX6_clear_5 : decode cX6_clear 5 = .ok (.return_, 1) := by decide +kernel
theorem dX6_add_0 : decode cX6_add 0 = .ok (.aload_n 0, 1) := by decide +kernel
theorem dX6_add_1 : decode cX6_add 1 = .ok (.getfield 15, 3) := by decide +kernel
theorem dX6_add_4 : decode cX6_add 4 = .ok (.ifCond .lt 15, 3) := by decide +kernel
theorem dX6_add_7 : decode cX6_add 7 = .ok (.aload_n 0, 1) := by decide +kernel
theorem dX6_add_8 : decode cX6_add 8 = .ok (.getfield 15, 3) := by decide +kernel
theorem dX6_add_11 : decode cX6_add 11 = .ok (.aload_n 0, 1) := by decide +kernel
theorem dX6_add_12 : decode cX6_add 12 = .ok (.getfield 9, 3) := by decide +kernel
theorem dX6_add_15 : decode cX6_add 15 = .ok (.arraylength, 1) := by decide +kernel
theorem dX6_add_16 : decode cX6_add 16 = .ok (.if_icmp .lt 5, 3) := by decide +kernel
theorem dX6_add_19 : decode cX6_add 19 = .ok (.iconst 0, 1) := by decide +kernel
theorem dX6_add_20 : decode cX6_add 20 = .ok (.ireturn, 1) := by decide +kernel
theorem dX6_add_21 : decode cX6_add 21 = .ok (.aload_n 0, 1) := by decide +kernel
theorem dX6_add_22 : decode cX6_add 22 = .ok (.getfield 9, 3) := by decide +kernel
theorem dX6_add_25 : decode cX6_add 25 = .ok (.aload_n 0, 1) := by decide +kernel
theorem dX6_add_26 : decode cX6_add 26 = .ok (.getfield 15, 3) := by decide +kernel
theorem dX6_add_29 : decode cX6_add 29 = .ok (.iload_n 1, 1) := by decide +kernel
theorem dX6_add_30 : decode cX6_add 30 = .ok (.iastore, 1) := by decide +kernel
theorem dX6_add_31 : decode cX6_add 31 = .ok (.aload_n 0, 1) := by decide +kernel
theorem dX6_add_32 : decode cX6_add 32 = .ok (.dup, 1) := by decide +kernel
theorem dX6_add_33 : decode cX6_add 33 = .ok (.getfield 15, 3) := by decide +kernel
theorem dX6_add_36 : decode cX6_add 36 = .ok (.iconst 1, 1) := by decide +kernel
theorem dX6_add_37 : decode cX6_add 37 = .ok (.iadd, 1) := by decide +kernel
theorem dX6_add_38 : decode cX6_add 38 = .ok (.putfield 15, 3) := by decide +kernel
theorem dX6_add_41 : decode cX6_add 41 = .ok (.iconst 1, 1) := by decide +kernel
theorem dX6_add_42 : decode cX6_add 42 = .ok (.ireturn, 1) := by decide +kernel
set_option maxRecDepth 20000 in
theorem ggX6_faultPlace_X6_stateBehind : GoodIn wsX6_faultPlace wsX6_stateBehind := goodIn_r _ [6, 7, 8, 5, 9, 10, 11, 12, 13, 14, 15, 16, 17, 18] (by decide +kernel) (by decide +kernel)
set_option maxRecDepth 20000 in
theorem gX6_faultPlace_X6_stateBehind : GoodIn wsX6_faultPlace (va_wsS RX6 19 yX6_stateBehind wsX6_stateBehind) := goodIn_app (goodIn_of _ (by decide +kernel)) ggX6_faultPlace_X6_stateBehind
theorem dX6_faultPlace_0 : decode cX6_faultPlace 0 = .ok (.iconst 0, 1) := by decide +kernel
theorem dX6_faultPlace_1 : decode cX6_faultPlace 1 = .ok (.istore_n 1, 1) := by decide +kernel
theorem dX6_faultPlace_2 : decode cX6_faultPlace 2 = .ok (.iconst 0, 1) := by decide +kernel
theorem dX6_faultPlace_3 : decode cX6_faultPlace 3 = .ok (.istore_n 2, 1) := by decide +kernel
theorem dX6_faultPlace_4 : decode cX6_faultPlace 4 = .ok (.iload_n 2, 1) := by decide +kernel
theorem dX6_faultPlace_5 : decode cX6_faultPlace 5 = .ok (.aload_n 0, 1) := by decide +kernel
theorem dX6_faultPlace_6 : decode cX6_faultPlace 6 = .ok (.getfield 15, 3) := by decide +kernel
theorem dX6_faultPlace_9 : decode cX6_faultPlace 9 = .ok (.if_icmp .ge 36, 3) := by decide +kernel
theorem dX6_faultPlace_12 : decode cX6_faultPlace 12 = .ok (.iload_n 2, 1) := by decide +kernel
theorem dX6_faultPlace_13 : decode cX6_faultPlace 13 = .ok (.aload_n 0, 1) := by decide +kernel
theorem dX6_faultPlace_14 : decode cX6_faultPlace 14 = .ok (.getfield 9, 3) := by decide +kernel
theorem dX6_faultPlace_17 : decode cX6_faultPlace 17 = .ok (.arraylength, 1) := by decide +kernel
theorem dX6_faultPlace_18 : decode cX6_faultPlace 18 = .ok (.if_icmp .ge 27, 3) := by decide +kernel
theorem dX6_faultPlace_21 : decode cX6_faultPlace 21 = .ok (.iload_n 1, 1) := by decide +kernel
theorem dX6_faultPlace_22 : decode cX6_faultPlace 22 = .ok (.aload_n 0, 1) := by decide +kernel
theorem dX6_faultPlace_23 : decode cX6_faultPlace 23 = .ok (.getfield 9, 3) := by decide +kernel
theorem dX6_faultPlace_26 : decode cX6_faultPlace 26 = .ok (.iload_n 2, 1) := by decide +kernel
theorem dX6_faultPlace_27 : decode cX6_faultPlace 27 = .ok (.iaload, 1) := by decide +kernel
theorem dX6_faultPlace_28 : decode cX6_faultPlace 28 = .ok (.invokestatic 19, 3) := by decide +kernel
theorem dX6_faultPlace_31 : decode cX6_faultPlace 31 = .ok (.istore_n 1, 1) := by decide +kernel
theorem dX6_faultPlace_32 : decode cX6_faultPlace 32 = .ok (.iload_n 1, 1) := by decide +kernel
theorem dX6_faultPlace_33 : decode cX6_faultPlace 33 = .ok (.iconst (-1), 1) := by decide +kernel
theorem dX6_faultPlace_34 : decode cX6_faultPlace 34 = .ok (.if_icmp .ne 5, 3) := by decide +kernel
theorem dX6_faultPlace_37 : decode cX6_faultPlace 37 = .ok (.iload_n 2, 1) := by decide +kernel
theorem dX6_faultPlace_38 : decode cX6_faultPlace 38 = .ok (.ireturn, 1) := by decide +kernel
theorem dX6_faultPlace_39 : decode cX6_faultPlace 39 = .ok (.iinc 2 1, 3) := by decide +kernel
theorem dX6_faultPlace_42 : decode cX6_faultPlace 42 = .ok (.goto (-38), 3) := by decide +kernel
theorem dX6_faultPlace_45 : decode cX6_faultPlace 45 = .ok (.iload_n 1, 1) := by decide +kernel
theorem dX6_faultPlace_46 : decode cX6_faultPlace 46 = .ok (.iconst 3, 1) := by decide +kernel
theorem dX6_faultPlace_47 : decode cX6_faultPlace 47 = .ok (.if_icmp .lt 8, 3) := by decide +kernel
theorem dX6_faultPlace_50 : decode cX6_faultPlace 50 = .ok (.bipush (-6), 2) := by decide +kernel
theorem dX6_faultPlace_52 : decode cX6_faultPlace 52 = .ok (.goto 7, 3) := by decide +kernel
theorem dX6_faultPlace_55 : decode cX6_faultPlace 55 = .ok (.aload_n 0, 1) := by decide +kernel
theorem dX6_faultPlace_56 : decode cX6_faultPlace 56 = .ok (.getfield 15, 3) := by decide +kernel
theorem dX6_faultPlace_59 : decode cX6_faultPlace 59 = .ok (.ireturn, 1) := by decide +kernel
set_option maxRecDepth 20000 in
theorem ggX6_stateBehind_X6_isName : GoodIn wsX6_stateBehind wsX6_isName := goodIn_r _ [4] (by decide +kernel) (by decide +kernel)
set_option maxRecDepth 20000 in
theorem gX6_stateBehind_X6_isName : GoodIn wsX6_stateBehind (va_wsS RX6 23 yX6_isName wsX6_isName) := goodIn_app (goodIn_of _ (by decide +kernel)) ggX6_stateBehind_X6_isName
set_option maxRecDepth 20000 in
theorem ggX6_stateBehind_X6_isCompare : GoodIn wsX6_stateBehind wsX6_isCompare := goodIn_r _ [7] (by decide +kernel) (by decide +kernel)
set_option maxRecDepth 20000 in
theorem gX6_stateBehind_X6_isCompare : GoodIn wsX6_stateBehind (va_wsS RX6 27 yX6_isCompare wsX6_isCompare) := goodIn_app (goodIn_of _ (by decide +kernel)) ggX6_stateBehind_X6_isCompare
set_option maxRecDepth 20000 in
theorem ggX6_stateBehind_X6_isDigit : GoodIn wsX6_stateBehind wsX6_isDigit := goodIn_r _ [10] (by decide +kernel) (by decide +kernel)
set_option maxRecDepth 20000 in
theorem gX6_stateBehind_X6_isDigit : GoodIn wsX6_stateBehind (va_wsS RX6 30 yX6_isDigit wsX6_isDigit) := goodIn_app (goodIn_of _ (by decide +kernel)) ggX6_stateBehind_X6_isDigit
set_option maxRecDepth 20000 in
theorem ggX6_stateBehind_X6_isJoin : GoodIn wsX6_stateBehind wsX6_isJoin := goodIn_r _ [13] (by decide +kernel) (by decide +kernel)
set_option maxRecDepth 20000 in
theorem gX6_stateBehind_X6_isJoin : GoodIn wsX6_stateBehind (va_wsS RX6 33 yX6_isJoin wsX6_isJoin) := goodIn_app (goodIn_of _ (by decide +kernel)) ggX6_stateBehind_X6_isJoin
theorem dX6_stateBehind_0 : decode cX6_stateBehind 0 = .ok (.iload_n 0, 1) := by decide +kernel
theorem dX6_stateBehind_1 : decode cX6_stateBehind 1 = .ok (.ifCond .ne 16, 3) := by decide +kernel
theorem dX6_stateBehind_4 : decode cX6_stateBehind 4 = .ok (.iload_n 1, 1) := by decide +kernel
theorem dX6_stateBehind_5 : decode cX6_stateBehind 5 = .ok (.invokestatic 23, 3) := by decide +kernel
theorem dX6_stateBehind_8 : decode cX6_stateBehind 8 = .ok (.ifCond .eq 7, 3) := by decide +kernel
theorem dX6_stateBehind_11 : decode cX6_stateBehind 11 = .ok (.iconst 1, 1) := by decide +kernel
theorem dX6_stateBehind_12 : decode cX6_stateBehind 12 = .ok (.goto 4, 3) := by decide +kernel
theorem dX6_stateBehind_15 : decode cX6_stateBehind 15 = .ok (.iconst (-1), 1) := by decide +kernel
theorem dX6_stateBehind_16 : decode cX6_stateBehind 16 = .ok (.ireturn, 1) := by decide +kernel
theorem dX6_stateBehind_17 : decode cX6_stateBehind 17 = .ok (.iload_n 0, 1) := by decide +kernel
theorem dX6_stateBehind_18 : decode cX6_stateBehind 18 = .ok (.iconst 1, 1) := by decide +kernel
theorem dX6_stateBehind_19 : decode cX6_stateBehind 19 = .ok (.if_icmp .ne 16, 3) := by decide +kernel
theorem dX6_stateBehind_22 : decode cX6_stateBehind 22 = .ok (.iload_n 1, 1) := by decide +kernel
theorem dX6_stateBehind_23 : decode cX6_stateBehind 23 = .ok (.invokestatic 27, 3) := by decide +kernel
theorem dX6_stateBehind_26 : decode cX6_stateBehind 26 = .ok (.ifCond .eq 7, 3) := by decide +kernel
theorem dX6_stateBehind_29 : decode cX6_stateBehind 29 = .ok (.iconst 2, 1) := by decide +kernel
theorem dX6_stateBehind_30 : decode cX6_stateBehind 30 = .ok (.goto 4, 3) := by decide +kernel
theorem dX6_stateBehind_33 : decode cX6_stateBehind 33 = .ok (.iconst (-1), 1) := by decide +kernel
theorem dX6_stateBehind_34 : decode cX6_stateBehind 34 = .ok (.ireturn, 1) := by decide +kernel
theorem dX6_stateBehind_35 : decode cX6_stateBehind 35 = .ok (.iload_n 1, 1) := by decide +kernel
theorem dX6_stateBehind_36 : decode cX6_stateBehind 36 = .ok (.invokestatic 30, 3) := by decide +kernel
theorem dX6_stateBehind_39 : decode cX6_stateBehind 39 = .ok (.ifCond .eq 16, 3) := by decide +kernel
theorem dX6_stateBehind_42 : decode cX6_stateBehind 42 = .ok (.iload_n 0, 1) := by decide +kernel
theorem dX6_stateBehind_43 : decode cX6_stateBehind 43 = .ok (.iconst 5, 1) := by decide +kernel
theorem dX6_stateBehind_44 : decode cX6_stateBehind 44 = .ok (.if_icmp .ge 9, 3) := by decide +kernel
theorem dX6_stateBehind_47 : decode cX6_stateBehind 47 = .ok (.iload_n 0, 1) := by decide +kernel
theorem dX6_stateBehind_48 : decode cX6_stateBehind 48 = .ok (.iconst 1, 1) := by decide +kernel
theorem dX6_stateBehind_49 : decode cX6_stateBehind 49 = .ok (.iadd, 1) := by decide +kernel
theorem dX6_stateBehind_50 : decode cX6_stateBehind 50 = .ok (.goto 4, 3) := by decide +kernel
theorem dX6_stateBehind_53 : decode cX6_stateBehind 53 = .ok (.iconst (-1), 1) := by decide +kernel
theorem dX6_stateBehind_54 : decode cX6_stateBehind 54 = .ok (.ireturn, 1) := by decide +kernel
theorem dX6_stateBehind_55 : decode cX6_stateBehind 55 = .ok (.iload_n 0, 1) := by decide +kernel
theorem dX6_stateBehind_56 : decode cX6_stateBehind 56 = .ok (.iconst 3, 1) := by decide +kernel
theorem dX6_stateBehind_57 : decode cX6_stateBehind 57 = .ok (.if_icmp .lt 14, 3) := by decide +kernel
theorem dX6_stateBehind_60 : decode cX6_stateBehind 60 = .ok (.iload_n 1, 1) := by decide +kernel
theorem dX6_stateBehind_61 : decode cX6_stateBehind 61 = .ok (.invokestatic 33, 3) := by decide +kernel
theorem dX6_stateBehind_64 : decode cX6_stateBehind 64 = .ok (.ifCond .eq 7, 3) := by decide +kernel
theorem dX6_stateBehind_67 : decode cX6_stateBehind 67 = .ok (.iconst 0, 1) := by decide +kernel
theorem dX6_stateBehind_68 : decode cX6_stateBehind 68 = .ok (.goto 4, 3) := by decide +kernel
theorem dX6_stateBehind_71 : decode cX6_stateBehind 71 = .ok (.iconst (-1), 1) := by decide +kernel
theorem dX6_stateBehind_72 : decode cX6_stateBehind 72 = .ok (.ireturn, 1) := by decide +kernel
set_option maxRecDepth 20000 in
theorem ggX6_allows_X6_isName : GoodIn wsX6_allows wsX6_isName := goodIn_r _ [6] (by decide +kernel) (by decide +kernel)
set_option maxRecDepth 20000 in
theorem gX6_allows_X6_isName : GoodIn wsX6_allows (va_wsS RX6 23 yX6_isName wsX6_isName) := goodIn_app (goodIn_of _ (by decide +kernel)) ggX6_allows_X6_isName
set_option maxRecDepth 20000 in
theorem ggX6_allows_X6_isCompare : GoodIn wsX6_allows wsX6_isCompare := goodIn_r _ [9] (by decide +kernel) (by decide +kernel)
set_option maxRecDepth 20000 in
theorem gX6_allows_X6_isCompare : GoodIn wsX6_allows (va_wsS RX6 27 yX6_isCompare wsX6_isCompare) := goodIn_app (goodIn_of _ (by decide +kernel)) ggX6_allows_X6_isCompare
set_option maxRecDepth 20000 in
theorem ggX6_allows_X6_isDigit : GoodIn wsX6_allows wsX6_isDigit := goodIn_r _ [12] (by decide +kernel) (by decide +kernel)
set_option maxRecDepth 20000 in
theorem gX6_allows_X6_isDigit : GoodIn wsX6_allows (va_wsS RX6 30 yX6_isDigit wsX6_isDigit) := goodIn_app (goodIn_of _ (by decide +kernel)) ggX6_allows_X6_isDigit
set_option maxRecDepth 20000 in
theorem ggX6_allows_X6_passes : GoodIn wsX6_allows wsX6_passes := goodIn_r _ [15] (by decide +kernel) (by decide +kernel)
set_option maxRecDepth 20000 in
theorem gX6_allows_X6_passes : GoodIn wsX6_allows (va_wsS RX6 36 yX6_passes wsX6_passes) := goodIn_app (goodIn_of _ (by decide +kernel)) ggX6_allows_X6_passes
theorem dX6_allows_0 : decode cX6_allows 0 = .ok (.aload_n 0, 1) := by decide +kernel
theorem dX6_allows_1 : decode cX6_allows 1 = .ok (.getfield 15, 3) := by decide +kernel
theorem dX6_allows_4 : decode cX6_allows 4 = .ok (.ifCond .ne 5, 3) := by decide +kernel
theorem dX6_allows_7 : decode cX6_allows 7 = .ok (.iconst 1, 1) := by decide +kernel
theorem dX6_allows_8 : decode cX6_allows 8 = .ok (.ireturn, 1) := by decide +kernel
theorem dX6_allows_9 : decode cX6_allows 9 = .ok (.iconst 0, 1) := by decide +kernel
theorem dX6_allows_10 : decode cX6_allows 10 = .ok (.istore 4, 2) := by decide +kernel
theorem dX6_allows_12 : decode cX6_allows 12 = .ok (.iconst 1, 1) := by decide +kernel
theorem dX6_allows_13 : decode cX6_allows 13 = .ok (.istore 5, 2) := by decide +kernel
theorem dX6_allows_15 : decode cX6_allows 15 = .ok (.iconst 0, 1) := by decide +kernel
theorem dX6_allows_16 : decode cX6_allows 16 = .ok (.istore 6, 2) := by decide +kernel
theorem dX6_allows_18 : decode cX6_allows 18 = .ok (.iconst 0, 1) := by decide +kernel
theorem dX6_allows_19 : decode cX6_allows 19 = .ok (.istore 7, 2) := by decide +kernel
theorem dX6_allows_21 : decode cX6_allows 21 = .ok (.iconst 0, 1) := by decide +kernel
theorem dX6_allows_22 : decode cX6_allows 22 = .ok (.istore 8, 2) := by decide +kernel
theorem dX6_allows_24 : decode cX6_allows 24 = .ok (.iconst 0, 1) := by decide +kernel
theorem dX6_allows_25 : decode cX6_allows 25 = .ok (.istore 9, 2) := by decide +kernel
theorem dX6_allows_27 : decode cX6_allows 27 = .ok (.iload 9, 2) := by decide +kernel
theorem dX6_allows_29 : decode cX6_allows 29 = .ok (.aload_n 0, 1) := by decide +kernel
theorem dX6_allows_30 : decode cX6_allows 30 = .ok (.getfield 15, 3) := by decide +kernel
theorem dX6_allows_33 : decode cX6_allows 33 = .ok (.if_icmp .ge 157, 3) := by decide +kernel
theorem dX6_allows_36 : decode cX6_allows 36 = .ok (.iload 9, 2) := by decide +kernel
theorem dX6_allows_38 : decode cX6_allows 38 = .ok (.aload_n 0, 1) := by decide +kernel
theorem dX6_allows_39 : decode cX6_allows 39 = .ok (.getfield 9, 3) := by decide +kernel
theorem dX6_allows_42 : decode cX6_allows 42 = .ok (.arraylength, 1) := by decide +kernel
theorem dX6_allows_43 : decode cX6_allows 43 = .ok (.if_icmp .ge 147, 3) := by decide +kernel
theorem dX6_allows_46 : decode cX6_allows 46 = .ok (.aload_n 0, 1) := by decide +kernel
theorem dX6_allows_47 : decode cX6_allows 47 = .ok (.getfield 9, 3) := by decide +kernel
theorem dX6_allows_50 : decode cX6_allows 50 = .ok (.iload 9, 2) := by decide +kernel
theorem dX6_allows_52 : decode cX6_allows 52 = .ok (.iaload, 1) := by decide +kernel
theorem dX6_allows_53 : decode cX6_allows 53 = .ok (.istore 10, 2) := by decide +kernel
theorem dX6_allows_55 : decode cX6_allows 55 = .ok (.iload 10, 2) := by decide +kernel
theorem dX6_allows_57 : decode cX6_allows 57 = .ok (.invokestatic 23, 3) := by decide +kernel
theorem dX6_allows_60 : decode cX6_allows 60 = .ok (.ifCond .eq 34, 3) := by decide +kernel
theorem dX6_allows_63 : decode cX6_allows 63 = .ok (.iload 10, 2) := by decide +kernel
theorem dX6_allows_65 : decode cX6_allows 65 = .ok (.bipush 97, 2) := by decide +kernel
theorem dX6_allows_67 : decode cX6_allows 67 = .ok (.if_icmp .ne 7, 3) := by decide +kernel
theorem dX6_allows_70 : decode cX6_allows 70 = .ok (.iload_n 1, 1) := by decide +kernel
theorem dX6_allows_71 : decode cX6_allows 71 = .ok (.goto 15, 3) := by decide +kernel
theorem dX6_allows_74 : decode cX6_allows 74 = .ok (.iload 10, 2) := by decide +kernel
theorem dX6_allows_76 : decode cX6_allows 76 = .ok (.bipush 121, 2) := by decide +kernel
theorem dX6_allows_78 : decode cX6_allows 78 = .ok (.if_icmp .ne 7, 3) := by decide +kernel
theorem dX6_allows_81 : decode cX6_allows 81 = .ok (.iload_n 2, 1) := by decide +kernel
theorem dX6_allows_82 : decode cX6_allows 82 = .ok (.goto 4, 3) := by decide +kernel
theorem dX6_allows_85 : decode cX6_allows 85 = .ok (.iload_n 3, 1) := by decide +kernel
theorem dX6_allows_86 : decode cX6_allows 86 = .ok (.istore 6, 2) := by decide +kernel
theorem dX6_allows_88 : decode cX6_allows 88 = .ok (.iconst 0, 1) := by decide +kernel
theorem dX6_allows_89 : decode cX6_allows 89 = .ok (.istore 8, 2) := by decide +kernel
theorem dX6_allows_91 : decode cX6_allows 91 = .ok (.goto 93, 3) := by decide +kernel
theorem dX6_allows_94 : decode cX6_allows 94 = .ok (.iload 10, 2) := by decide +kernel
theorem dX6_allows_96 : decode cX6_allows 96 = .ok (.invokestatic 27, 3) := by decide +kernel
theorem dX6_allows_99 : decode cX6_allows 99 = .ok (.ifCond .eq 10, 3) := by decide +kernel
theorem dX6_allows_102 : decode cX6_allows 102 = .ok (.iload 10, 2) := by decide +kernel
theorem dX6_allows_104 : decode cX6_allows 104 = .ok (.istore 7, 2) := by decide +kernel
theorem dX6_allows_106 : decode cX6_allows 106 = .ok (.goto 78, 3) := by decide +kernel
theorem dX6_allows_109 : decode cX6_allows 109 = .ok (.iload 10, 2) := by decide +kernel
theorem dX6_allows_111 : decode cX6_allows 111 = .ok (.invokestatic 30, 3) := by decide +kernel
theorem dX6_allows_114 : decode cX6_allows 114 = .ok (.ifCond .eq 19, 3) := by decide +kernel
theorem dX6_allows_117 : decode cX6_allows 117 = .ok (.iload 8, 2) := by decide +kernel
theorem dX6_allows_119 : decode cX6_allows 119 = .ok (.bipush 10, 2) := by decide +kernel
theorem dX6_allows_121 : decode cX6_allows 121 = .ok (.imul, 1) := by decide +kernel
theorem dX6_allows_122 : decode cX6_allows 122 = .ok (.iload 10, 2) := by decide +kernel
theorem dX6_allows_124 : decode cX6_allows 124 = .ok (.iadd, 1) := by decide +kernel
theorem dX6_allows_125 : decode cX6_allows 125 = .ok (.bipush 48, 2) := by decide +kernel
theorem dX6_allows_127 : decode cX6_allows 127 = .ok (.isub, 1) := by decide +kernel
theorem dX6_allows_128 : decode cX6_allows 128 = .ok (.istore 8, 2) := by decide +kernel
theorem dX6_allows_130 : decode cX6_allows 130 = .ok (.goto 54, 3) := by decide +kernel
theorem dX6_allows_133 : decode cX6_allows 133 = .ok (.iload 5, 2) := by decide +kernel
theorem dX6_allows_135 : decode cX6_allows 135 = .ok (.ifCond .eq 19, 3) := by decide +kernel
theorem dX6_allows_138 : decode cX6_allows 138 = .ok (.iload 6, 2) := by decide +kernel
theorem dX6_allows_140 : decode cX6_allows 140 = .ok (.iload 7, 2) := by decide +kernel
theorem dX6_allows_142 : decode cX6_allows 142 = .ok (.iload 8, 2) := by decide +kernel
theorem dX6_allows_144 : decode cX6_allows 144 = .ok (.invokestatic 36, 3) := by decide +kernel
theorem dX6_allows_147 : decode cX6_allows 147 = .ok (.ifCond .eq 7, 3) := by decide +kernel
theorem dX6_allows_150 : decode cX6_allows 150 = .ok (.iconst 1, 1) := by decide +kernel
theorem dX6_allows_151 : decode cX6_allows 151 = .ok (.goto 4, 3) := by decide +kernel
theorem dX6_allows_154 : decode cX6_allows 154 = .ok (.iconst 0, 1) := by decide +kernel
theorem dX6_allows_155 : decode cX6_allows 155 = .ok (.istore 5, 2) := by decide +kernel
theorem dX6_allows_157 : decode cX6_allows 157 = .ok (.iload 10, 2) := by decide +kernel
theorem dX6_allows_159 : decode cX6_allows 159 = .ok (.bipush 124, 2) := by decide +kernel
theorem dX6_allows_161 : decode cX6_allows 161 = .ok (.if_icmp .ne 23, 3) := by decide +kernel
theorem dX6_allows_164 : decode cX6_allows 164 = .ok (.iload 4, 2) := by decide +kernel
theorem dX6_allows_166 : decode cX6_allows 166 = .ok (.ifCond .ne 8, 3) := by decide +kernel
theorem dX6_allows_169 : decode cX6_allows 169 = .ok (.iload 5, 2) := by decide +kernel
theorem dX6_allows_171 : decode cX6_allows 171 = .ok (.ifCond .eq 7, 3) := by decide +kernel
theorem dX6_allows_174 : decode cX6_allows 174 = .ok (.iconst 1, 1) := by decide +kernel
theorem dX6_allows_175 : decode cX6_allows 175 = .ok (.goto 4, 3) := by decide +kernel
theorem dX6_allows_178 : decode cX6_allows 178 = .ok (.iconst 0, 1) := by decide +kernel
theorem dX6_allows_179 : decode cX6_allows 179 = .ok (.istore 4, 2) := by decide +kernel
theorem dX6_allows_181 : decode cX6_allows 181 = .ok (.iconst 1, 1) := by decide +kernel
theorem dX6_allows_182 : decode cX6_allows 182 = .ok (.istore 5, 2) := by decide +kernel
theorem dX6_allows_184 : decode cX6_allows 184 = .ok (.iinc 9 1, 3) := by decide +kernel
theorem dX6_allows_187 : decode cX6_allows 187 = .ok (.goto (-160), 3) := by decide +kernel
theorem dX6_allows_190 : decode cX6_allows 190 = .ok (.iload 4, 2) := by decide +kernel
theorem dX6_allows_192 : decode cX6_allows 192 = .ok (.ifCond .ne 20, 3) := by decide +kernel
theorem dX6_allows_195 : decode cX6_allows 195 = .ok (.iload 5, 2) := by decide +kernel
theorem dX6_allows_197 : decode cX6_allows 197 = .ok (.ifCond .eq 19, 3) := by decide +kernel
theorem dX6_allows_200 : decode cX6_allows 200 = .ok (.iload 6, 2) := by decide +kernel
theorem dX6_allows_202 : decode cX6_allows 202 = .ok (.iload 7, 2) := by decide +kernel
theorem dX6_allows_204 : decode cX6_allows 204 = .ok (.iload 8, 2) := by decide +kernel
theorem dX6_allows_206 : decode cX6_allows 206 = .ok (.invokestatic 36, 3) := by decide +kernel
theorem dX6_allows_209 : decode cX6_allows 209 = .ok (.ifCond .eq 7, 3) := by decide +kernel
theorem dX6_allows_212 : decode cX6_allows 212 = .ok (.iconst 1, 1) := by decide +kernel
theorem dX6_allows_213 : decode cX6_allows 213 = .ok (.goto 4, 3) := by decide +kernel
theorem dX6_allows_216 : decode cX6_allows 216 = .ok (.iconst 0, 1) := by decide +kernel
theorem dX6_allows_217 : decode cX6_allows 217 = .ok (.ireturn, 1) := by decide +kernel
theorem dX6_passes_0 : decode cX6_passes 0 = .ok (.iload_n 1, 1) := by decide +kernel
theorem dX6_passes_1 : decode cX6_passes 1 = .ok (.bipush 60, 2) := by decide +kernel
theorem dX6_passes_3 : decode cX6_passes 3 = .ok (.if_icmp .ne 14, 3) := by decide +kernel
theorem dX6_passes_6 : decode cX6_passes 6 = .ok (.iload_n 0, 1) := by decide +kernel
theorem dX6_passes_7 : decode cX6_passes 7 = .ok (.iload_n 2, 1) := by decide +kernel
theorem dX6_passes_8 : decode cX6_passes 8 = .ok (.if_icmp .ge 7, 3) := by decide +kernel
theorem dX6_passes_11 : decode cX6_passes 11 = .ok (.iconst 1, 1) := by decide +kernel
theorem dX6_passes_12 : decode cX6_passes 12 = .ok (.goto 4, 3) := by decide +kernel
theorem dX6_passes_15 : decode cX6_passes 15 = .ok (.iconst 0, 1) := by decide +kernel
theorem dX6_passes_16 : decode cX6_passes 16 = .ok (.ireturn, 1) := by decide +kernel
theorem dX6_passes_17 : decode cX6_passes 17 = .ok (.iload_n 1, 1) := by decide +kernel
theorem dX6_passes_18 : decode cX6_passes 18 = .ok (.bipush 62, 2) := by decide +kernel
theorem dX6_passes_20 : decode cX6_passes 20 = .ok (.if_icmp .ne 16, 3) := by decide +kernel
theorem dX6_passes_23 : decode cX6_passes 23 = .ok (.iload_n 0, 1) := by decide +kernel
theorem dX6_passes_24 : decode cX6_passes 24 = .ok (.iload_n 2, 1) := by decide +kernel
theorem dX6_passes_25 : decode cX6_passes 25 = .ok (.if_icmp .le 7, 3) := by decide +kernel
theorem dX6_passes_28 : decode cX6_passes 28 = .ok (.iconst 1, 1) := by decide +kernel
theorem dX6_passes_29 : decode cX6_passes 29 = .ok (.goto 17, 3) := by decide +kernel
theorem dX6_passes_32 : decode cX6_passes 32 = .ok (.iconst 0, 1) := by decide +kernel
theorem dX6_passes_33 : decode cX6_passes 33 = .ok (.goto 13, 3) := by decide +kernel
theorem dX6_passes_36 : decode cX6_passes 36 = .ok (.iload_n 0, 1) := by decide +kernel
theorem dX6_passes_37 : decode cX6_passes 37 = .ok (.iload_n 2, 1) := by decide +kernel
theorem dX6_passes_38 : decode cX6_passes 38 = .ok (.if_icmp .ne 7, 3) := by decide +kernel
theorem dX6_passes_41 : decode cX6_passes 41 = .ok (.iconst 1, 1) := by decide +kernel
theorem dX6_passes_42 : decode cX6_passes 42 = .ok (.goto 4, 3) := by decide +kernel
theorem dX6_passes_45 : decode cX6_passes 45 = .ok (.iconst 0, 1) := by decide +kernel
theorem dX6_passes_46 : decode cX6_passes 46 = .ok (.ireturn, 1) := by decide +kernel
theorem dX6_isName_0 : decode cX6_isName 0 = .ok (.iload_n 0, 1) := by decide +kernel
theorem dX6_isName_1 : decode cX6_isName 1 = .ok (.bipush 97, 2) := by decide +kernel
theorem dX6_isName_3 : decode cX6_isName 3 = .ok (.if_icmp .eq 15, 3) := by decide +kernel
theorem dX6_isName_6 : decode cX6_isName 6 = .ok (.iload_n 0, 1) := by decide +kernel
theorem dX6_isName_7 : decode cX6_isName 7 = .ok (.bipush 121, 2) := by decide +kernel
theorem dX6_isName_9 : decode cX6_isName 9 = .ok (.if_icmp .eq 9, 3) := by decide +kernel
theorem dX6_isName_12 : decode cX6_isName 12 = .ok (.iload_n 0, 1) := by decide +kernel
theorem dX6_isName_13 : decode cX6_isName 13 = .ok (.bipush 98, 2) := by decide +kernel
theorem dX6_isName_15 : decode cX6_isName 15 = .ok (.if_icmp .ne 7, 3) := by decide +kernel
theorem dX6_isName_18 : decode cX6_isName 18 = .ok (.iconst 1, 1) := by decide +kernel
theorem dX6_isName_19 : decode cX6_isName 19 = .ok (.goto 4, 3) := by decide +kernel
theorem dX6_isName_22 : decode cX6_isName 22 = .ok (.iconst 0, 1) := by decide +kernel
theorem dX6_isName_23 : decode cX6_isName 23 = .ok (.ireturn, 1) := by decide +kernel
theorem dX6_isCompare_0 : decode cX6_isCompare 0 = .ok (.iload_n 0, 1) := by decide +kernel
theorem dX6_isCompare_1 : decode cX6_isCompare 1 = .ok (.bipush 60, 2) := by decide +kernel
theorem dX6_isCompare_3 : decode cX6_isCompare 3 = .ok (.if_icmp .eq 15, 3) := by decide +kernel
theorem dX6_isCompare_6 : decode cX6_isCompare 6 = .ok (.iload_n 0, 1) := by decide +kernel
theorem dX6_isCompare_7 : decode cX6_isCompare 7 = .ok (.bipush 62, 2) := by decide +kernel
theorem dX6_isCompare_9 : decode cX6_isCompare 9 = .ok (.if_icmp .eq 9, 3) := by decide +kernel
theorem dX6_isCompare_12 : decode cX6_isCompare 12 = .ok (.iload_n 0, 1) := by decide +kernel
theorem dX6_isCompare_13 : decode cX6_isCompare 13 = .ok (.bipush 61, 2) := by decide +kernel
theorem dX6_isCompare_15 : decode cX6_isCompare 15 = .ok (.if_icmp .ne 7, 3) := by decide +kernel
theorem dX6_isCompare_18 : decode cX6_isCompare 18 = .ok (.iconst 1, 1) := by decide +kernel
theorem dX6_isCompare_19 : decode cX6_isCompare 19 = .ok (.goto 4, 3) := by decide +kernel
theorem dX6_isCompare_22 : decode cX6_isCompare 22 = .ok (.iconst 0, 1) := by decide +kernel
theorem dX6_isCompare_23 : decode cX6_isCompare 23 = .ok (.ireturn, 1) := by decide +kernel
theorem dX6_isDigit_0 : decode cX6_isDigit 0 = .ok (.iload_n 0, 1) := by decide +kernel
theorem dX6_isDigit_1 : decode cX6_isDigit 1 = .ok (.bipush 48, 2) := by decide +kernel
theorem dX6_isDigit_3 : decode cX6_isDigit 3 = .ok (.if_icmp .lt 13, 3) := by decide +kernel
theorem dX6_isDigit_6 : decode cX6_isDigit 6 = .ok (.iload_n 0, 1) := by decide +kernel
theorem dX6_isDigit_7 : decode cX6_isDigit 7 = .ok (.bipush 57, 2) := by decide +kernel
theorem dX6_isDigit_9 : decode cX6_isDigit 9 = .ok (.if_icmp .gt 7, 3) := by decide +kernel
theorem dX6_isDigit_12 : decode cX6_isDigit 12 = .ok (.iconst 1, 1) := by decide +kernel
theorem dX6_isDigit_13 : decode cX6_isDigit 13 = .ok (.goto 4, 3) := by decide +kernel
theorem dX6_isDigit_16 : decode cX6_isDigit 16 = .ok (.iconst 0, 1) := by decide +kernel
theorem dX6_isDigit_17 : decode cX6_isDigit 17 = .ok (.ireturn, 1) := by decide +kernel
theorem dX6_isJoin_0 : decode cX6_isJoin 0 = .ok (.iload_n 0, 1) := by decide +kernel
theorem dX6_isJoin_1 : decode cX6_isJoin 1 = .ok (.bipush 38, 2) := by decide +kernel
theorem dX6_isJoin_3 : decode cX6_isJoin 3 = .ok (.if_icmp .eq 9, 3) := by decide +kernel
theorem dX6_isJoin_6 : decode cX6_isJoin 6 = .ok (.iload_n 0, 1) := by decide +kernel
theorem dX6_isJoin_7 : decode cX6_isJoin 7 = .ok (.bipush 124, 2) := by decide +kernel
theorem dX6_isJoin_9 : decode cX6_isJoin 9 = .ok (.if_icmp .ne 7, 3) := by decide +kernel
theorem dX6_isJoin_12 : decode cX6_isJoin 12 = .ok (.iconst 1, 1) := by decide +kernel
theorem dX6_isJoin_13 : decode cX6_isJoin 13 = .ok (.goto 4, 3) := by decide +kernel
theorem dX6_isJoin_16 : decode cX6_isJoin 16 = .ok (.iconst 0, 1) := by decide +kernel
theorem dX6_isJoin_17 : decode cX6_isJoin 17 = .ok (.ireturn, 1) := by decide +kernel
theorem dX7_init_0 : decode cX7_init 0 = .ok (.aload_n 0, 1) := by decide +kernel
theorem dX7_init_1 : decode cX7_init 1 = .ok (.invokespecial 3, 3) := by decide +kernel
theorem dX7_init_4 : decode cX7_init 4 = .ok (.aload_n 0, 1) := by decide +kernel
theorem dX7_init_5 : decode cX7_init 5 = .ok (.bipush 30, 2) := by decide +kernel
theorem dX7_init_7 : decode cX7_init 7 = .ok (.anewarray 9, 3) := by decide +kernel
theorem dX7_init_10 : decode cX7_init 10 = .ok (.putfield 11, 3) := by decide +kernel
theorem dX7_init_13 : decode cX7_init 13 = .ok (.aload_n 0, 1) := by decide +kernel
theorem dX7_init_14 : decode cX7_init 14 = .ok (.bipush 30, 2) := by decide +kernel
theorem dX7_init_16 : decode cX7_init 16 = .ok (.newarray .int, 2) := by decide +kernel
theorem dX7_init_18 : decode cX7_init 18 = .ok (.putfield 17, 3) := by decide +kernel
theorem dX7_init_21 : decode cX7_init 21 = .ok (.aload_n 0, 1) := by decide +kernel
theorem dX7_init_22 : decode cX7_init 22 = .ok (.iconst 0, 1) := by decide +kernel
theorem dX7_init_23 : decode cX7_init 23 = .ok (.putfield 21, 3) := by decide +kernel
theorem dX7_init_26 : decode cX7_init 26 = .ok (.aload_n 0, 1) := by decide +kernel
theorem dX7_init_27 : decode cX7_init 27 = .ok (.iconst 0, 1) := by decide +kernel
theorem dX7_init_28 : decode cX7_init 28 = .ok (.putfield 25, 3) := by decide +kernel
theorem dX7_init_31 : decode cX7_init 31 = .ok (.aload_n 0, 1) := by decide +kernel
theorem dX7_init_32 : decode cX7_init 32 = .ok (.bipush 100, 2) := by decide +kernel
theorem dX7_init_34 : decode cX7_init 34 = .ok (.putfield 28, 3) := by decide +kernel
theorem dX7_init_37 : decode cX7_init 37 = .ok (.return_, 1) := by decide +kernel
theorem dX7_size_0 : decode cX7_size 0 = .ok (.aload_n 0, 1) := by decide +kernel
theorem dX7_size_1 : decode cX7_size 1 = .ok (.getfield 21, 3) := by decide +kernel
theorem dX7_size_4 : decode cX7_size 4 = .ok (.ireturn, 1) := by decide +kernel
theorem dX7_copiedSize_0 : decode cX7_copiedSize 0 = .ok (.aload_n 0, 1) := by decide +kernel
theorem dX7_copiedSize_1 : decode cX7_copiedSize 1 = .ok (.getfield 25, 3) := by decide +kernel
theorem dX7_copiedSize_4 : decode cX7_copiedSize 4 = .ok (.ireturn, 1) := by decide +kernel
theorem dX7_closeHour_0 : decode cX7_closeHour 0 = .ok (.aload_n 0, 1) := by decide +kernel
theorem dX7_closeHour_1 : decode cX7_closeHour 1 = .ok (.getfield 28, 3) := by decide +kernel
theorem dX7_closeHour_4 : decode cX7_closeHour 4 = .ok (.ireturn, 1) := by decide +kernel
theorem dX7_changeClose_0 : decode cX7_changeClose 0 = .ok (.aload_n 0, 1) := by decide +kernel
theorem dX7_changeClose_1 : decode cX7_changeClose 1 = .ok (.getfield 28, 3) := by decide +kernel
theorem dX7_changeClose_4 : decode cX7_changeClose 4 = .ok (.istore_n 2, 1) := by decide +kernel
theorem dX7_changeClose_5 : decode cX7_changeClose 5 = .ok (.aload_n 0, 1) := by decide +kernel
theorem dX7_changeClose_6 : decode cX7_changeClose 6 = .ok (.iload_n 1, 1) := by decide +kernel
theorem dX7_changeClose_7 : decode cX7_changeClose 7 = .ok (.putfield 28, 3) := by decide +kernel
theorem dX7_changeClose_10 : decode cX7_changeClose 10 = .ok (.iload_n 2, 1) := by decide +kernel
theorem dX7_changeClose_11 : decode cX7_changeClose 11 = .ok (.ireturn, 1) := by decide +kernel
theorem dX7_isFull_0 : decode cX7_isFull 0 = .ok (.aload_n 0, 1) := by decide +kernel
theorem dX7_isFull_1 : decode cX7_isFull 1 = .ok (.getfield 21, 3) := by decide +kernel
theorem dX7_isFull_4 : decode cX7_isFull 4 = .ok (.aload_n 0, 1) := by decide +kernel
theorem dX7_isFull_5 : decode cX7_isFull 5 = .ok (.getfield 11, 3) := by decide +kernel
theorem dX7_isFull_8 : decode cX7_isFull 8 = .ok (.arraylength, 1) := by decide +kernel
theorem dX7_isFull_9 : decode cX7_isFull 9 = .ok (.if_icmp .lt 7, 3) := by decide +kernel
theorem dX7_isFull_12 : decode cX7_isFull 12 = .ok (.iconst 1, 1) := by decide +kernel
theorem dX7_isFull_13 : decode cX7_isFull 13 = .ok (.goto 4, 3) := by decide +kernel
theorem dX7_isFull_16 : decode cX7_isFull 16 = .ok (.iconst 0, 1) := by decide +kernel
theorem dX7_isFull_17 : decode cX7_isFull 17 = .ok (.ireturn, 1) := by decide +kernel
theorem dX7_add_0 : decode cX7_add 0 = .ok (.aload_n 0, 1) := by decide +kernel
theorem dX7_add_1 : decode cX7_add 1 = .ok (.getfield 21, 3) := by decide +kernel
theorem dX7_add_4 : decode cX7_add 4 = .ok (.ifCond .lt 15, 3) := by decide +kernel
theorem dX7_add_7 : decode cX7_add 7 = .ok (.aload_n 0, 1) := by decide +kernel
theorem dX7_add_8 : decode cX7_add 8 = .ok (.getfield 21, 3) := by decide +kernel
theorem dX7_add_11 : decode cX7_add 11 = .ok (.aload_n 0, 1) := by decide +kernel
theorem dX7_add_12 : decode cX7_add 12 = .ok (.getfield 11, 3) := by decide +kernel
theorem dX7_add_15 : decode cX7_add 15 = .ok (.arraylength, 1) := by decide +kernel
theorem dX7_add_16 : decode cX7_add 16 = .ok (.if_icmp .lt 6, 3) := by decide +kernel
theorem dX7_add_19 : decode cX7_add 19 = .ok (.bipush (-4), 2) := by decide +kernel
theorem dX7_add_21 : decode cX7_add 21 = .ok (.ireturn, 1) := by decide +kernel
theorem dX7_add_22 : decode cX7_add 22 = .ok (.aload_n 0, 1) := by decide +kernel
theorem dX7_add_23 : decode cX7_add 23 = .ok (.getfield 11, 3) := by decide +kernel
theorem dX7_add_26 : decode cX7_add 26 = .ok (.aload_n 0, 1) := by decide +kernel
theorem dX7_add_27 : decode cX7_add 27 = .ok (.getfield 21, 3) := by decide +kernel
theorem dX7_add_30 : decode cX7_add 30 = .ok (.aload_n 1, 1) := by decide +kernel
theorem dX7_add_31 : decode cX7_add 31 = .ok (.aastore, 1) := by decide +kernel
theorem dX7_add_32 : decode cX7_add 32 = .ok (.aload_n 0, 1) := by decide +kernel
theorem dX7_add_33 : decode cX7_add 33 = .ok (.dup, 1) := by decide +kernel
theorem dX7_add_34 : decode cX7_add 34 = .ok (.getfield 21, 3) := by decide +kernel
theorem dX7_add_37 : decode cX7_add 37 = .ok (.iconst 1, 1) := by decide +kernel
theorem dX7_add_38 : decode cX7_add 38 = .ok (.iadd, 1) := by decide +kernel
theorem dX7_add_39 : decode cX7_add 39 = .ok (.putfield 21, 3) := by decide +kernel
theorem dX7_add_42 : decode cX7_add 42 = .ok (.aload_n 0, 1) := by decide +kernel
theorem dX7_add_43 : decode cX7_add 43 = .ok (.getfield 21, 3) := by decide +kernel
theorem dX7_add_46 : decode cX7_add 46 = .ok (.iconst 1, 1) := by decide +kernel
theorem dX7_add_47 : decode cX7_add 47 = .ok (.isub, 1) := by decide +kernel
theorem dX7_add_48 : decode cX7_add 48 = .ok (.ireturn, 1) := by decide +kernel
theorem dX7_at_0 : decode cX7_at 0 = .ok (.iload_n 1, 1) := by decide +kernel
theorem dX7_at_1 : decode cX7_at 1 = .ok (.ifCond .lt 29, 3) := by decide +kernel
theorem dX7_at_4 : decode cX7_at 4 = .ok (.iload_n 1, 1) := by decide +kernel
theorem dX7_at_5 : decode cX7_at 5 = .ok (.aload_n 0, 1) := by decide +kernel
theorem dX7_at_6 : decode cX7_at 6 = .ok (.getfield 21, 3) := by decide +kernel
theorem dX7_at_9 : decode cX7_at 9 = .ok (.if_icmp .ge 21, 3) := by decide +kernel
theorem dX7_at_12 : decode cX7_at 12 = .ok (.iload_n 1, 1) := by decide +kernel
theorem dX7_at_13 : decode cX7_at 13 = .ok (.aload_n 0, 1) := by decide +kernel
theorem dX7_at_14 : decode cX7_at 14 = .ok (.getfield 11, 3) := by decide +kernel
theorem dX7_at_17 : decode cX7_at 17 = .ok (.arraylength, 1) := by decide +kernel
theorem dX7_at_18 : decode cX7_at 18 = .ok (.if_icmp .ge 12, 3) := by decide +kernel
theorem dX7_at_21 : decode cX7_at 21 = .ok (.aload_n 0, 1) := by decide +kernel
theorem dX7_at_22 : decode cX7_at 22 = .ok (.getfield 11, 3) := by decide +kernel
theorem dX7_at_25 : decode cX7_at 25 = .ok (.iload_n 1, 1) := by decide +kernel
theorem dX7_at_26 : decode cX7_at 26 = .ok (.aaload, 1) := by decide +kernel
theorem dX7_at_27 : decode cX7_at 27 = .ok (.goto 4, 3) := by decide +kernel
theorem dX7_at_30 : decode cX7_at 30 = .ok (.aconst_null, 1) := by decide +kernel
theorem dX7_at_31 : decode cX7_at 31 = .ok (.areturn, 1) := by decide +kernel
set_option maxRecDepth 20000 in
theorem ggX7_kindOf_X7_at : GoodIn wsX7_kindOf wsX7_at := goodIn_r _ [9, 10, 11, 52, 53, 54, 55, 56] (by decide +kernel) (by decide +kernel)
set_option maxRecDepth 20000 in
theorem gX7_kindOf_X7_at : GoodIn wsX7_kindOf (wsV RX7 31 RX7 yX7_at wsX7_at) := goodIn_app (goodIn_of _ (by decide +kernel)) ggX7_kindOf_X7_at
set_option maxRecDepth 20000 in
theorem ggX7_kindOf_X4_allows : GoodIn wsX7_kindOf wsX4_allows := goodIn_r _ [16, 17, 18, 19, 20, 15, 21, 22, 23, 24, 25, 26, 27, 28, 29, 30, 31, 32, 33, 34, 35, 36, 37, 38, 39, 40, 41, 57, 58, 59, 60, 61] (by decide +kernel) (by decide +kernel)
set_option maxRecDepth 20000 in
theorem gX7_kindOf_X4_allows : GoodIn wsX7_kindOf (wsV RX7 45 RX4 yX4_allows wsX4_allows) := goodIn_app (goodIn_of _ (by decide +kernel)) ggX7_kindOf_X4_allows
set_option maxRecDepth 20000 in
theorem ggX7_kindOf_X7_hasLaterOne : GoodIn wsX7_kindOf wsX7_hasLaterOne := goodIn_r _ [45, 10, 4, 1, 2, 3, 5, 6, 7, 8, 9, 11, 52, 53, 54, 55, 56, 46, 47, 48, 49, 50, 51] (by decide +kernel) (by decide +kernel)
set_option maxRecDepth 20000 in
theorem gX7_kindOf_X7_hasLaterOne : GoodIn wsX7_kindOf (wsV RX7 51 RX7 yX7_hasLaterOne wsX7_hasLaterOne) := goodIn_app (goodIn_of _ (by decide +kernel)) ggX7_kindOf_X7_hasLaterOne
theorem dX7_kindOf_0 : decode cX7_kindOf 0 = .ok (.aload_n 0, 1) := by decide +kernel
theorem dX7_kindOf_1 : decode cX7_kindOf 1 = .ok (.iload_n 1, 1) := by decide +kernel
theorem dX7_kindOf_2 : decode cX7_kindOf 2 = .ok (.invokevirtual 31, 3) := by decide +kernel
theorem dX7_kindOf_5 : decode cX7_kindOf 5 = .ok (.astore_n 3, 1) := by decide +kernel
theorem dX7_kindOf_6 : decode cX7_kindOf 6 = .ok (.aload_n 3, 1) := by decide +kernel
theorem dX7_kindOf_7 : decode cX7_kindOf 7 = .ok (.ifnonnull 5, 3) := by decide +kernel
theorem dX7_kindOf_10 : decode cX7_kindOf 10 = .ok (.iconst (-1), 1) := by decide +kernel
theorem dX7_kindOf_11 : decode cX7_kindOf 11 = .ok (.ireturn, 1) := by decide +kernel
theorem dX7_kindOf_12 : decode cX7_kindOf 12 = .ok (.aload_n 3, 1) := by decide +kernel
theorem dX7_kindOf_13 : decode cX7_kindOf 13 = .ok (.getfield 35, 3) := by decide +kernel
theorem dX7_kindOf_16 : decode cX7_kindOf 16 = .ok (.aload_n 0, 1) := by decide +kernel
theorem dX7_kindOf_17 : decode cX7_kindOf 17 = .ok (.getfield 28, 3) := by decide +kernel
theorem dX7_kindOf_20 : decode cX7_kindOf 20 = .ok (.if_icmp .le 5, 3) := by decide +kernel
theorem dX7_kindOf_23 : decode cX7_kindOf 23 = .ok (.iconst 1, 1) := by decide +kernel
theorem dX7_kindOf_24 : decode cX7_kindOf 24 = .ok (.ireturn, 1) := by decide +kernel
theorem dX7_kindOf_25 : decode cX7_kindOf 25 = .ok (.aload_n 3, 1) := by decide +kernel
theorem dX7_kindOf_26 : decode cX7_kindOf 26 = .ok (.getfield 38, 3) := by decide +kernel
theorem dX7_kindOf_29 : decode cX7_kindOf 29 = .ok (.ifCond .ne 5, 3) := by decide +kernel
theorem dX7_kindOf_32 : decode cX7_kindOf 32 = .ok (.iconst 2, 1) := by decide +kernel
theorem dX7_kindOf_33 : decode cX7_kindOf 33 = .ok (.ireturn, 1) := by decide +kernel
theorem dX7_kindOf_34 : decode cX7_kindOf 34 = .ok (.aload_n 2, 1) := by decide +kernel
theorem dX7_kindOf_35 : decode cX7_kindOf 35 = .ok (.aload_n 3, 1) := by decide +kernel
theorem dX7_kindOf_36 : decode cX7_kindOf 36 = .ok (.getfield 42, 3) := by decide +kernel
theorem dX7_kindOf_39 : decode cX7_kindOf 39 = .ok (.invokevirtual 45, 3) := by decide +kernel
theorem dX7_kindOf_42 : decode cX7_kindOf 42 = .ok (.ifCond .ne 5, 3) := by decide +kernel
theorem dX7_kindOf_45 : decode cX7_kindOf 45 = .ok (.iconst 3, 1) := by decide +kernel
theorem dX7_kindOf_46 : decode cX7_kindOf 46 = .ok (.ireturn, 1) := by decide +kernel
theorem dX7_kindOf_47 : decode cX7_kindOf 47 = .ok (.aload_n 0, 1) := by decide +kernel
theorem dX7_kindOf_48 : decode cX7_kindOf 48 = .ok (.aload_n 3, 1) := by decide +kernel
theorem dX7_kindOf_49 : decode cX7_kindOf 49 = .ok (.getfield 42, 3) := by decide +kernel
theorem dX7_kindOf_52 : decode cX7_kindOf 52 = .ok (.iload_n 1, 1) := by decide +kernel
theorem dX7_kindOf_53 : decode cX7_kindOf 53 = .ok (.invokevirtual 51, 3) := by decide +kernel
theorem dX7_kindOf_56 : decode cX7_kindOf 56 = .ok (.ifCond .eq 7, 3) := by decide +kernel
theorem dX7_kindOf_59 : decode cX7_kindOf 59 = .ok (.iconst 4, 1) := by decide +kernel
theorem dX7_kindOf_60 : decode cX7_kindOf 60 = .ok (.goto 4, 3) := by decide +kernel
theorem dX7_kindOf_63 : decode cX7_kindOf 63 = .ok (.iconst 0, 1) := by decide +kernel
theorem dX7_kindOf_64 : decode cX7_kindOf 64 = .ok (.ireturn, 1) := by decide +kernel
set_option maxRecDepth 20000 in
theorem ggX7_hasLaterOne_X7_at : GoodIn wsX7_hasLaterOne wsX7_at := goodIn_r _ [10, 1, 11, 12, 13, 14, 15, 16] (by decide +kernel) (by decide +kernel)
set_option maxRecDepth 20000 in
theorem gX7_hasLaterOne_X7_at : GoodIn wsX7_hasLaterOne (wsV RX7 31 RX7 yX7_at wsX7_at) := goodIn_app (goodIn_of _ (by decide +kernel)) ggX7_hasLaterOne_X7_at
theorem dX7_hasLaterOne_0 : decode cX7_hasLaterOne 0 = .ok (.iload_n 2, 1) := by decide +kernel
theorem dX7_hasLaterOne_1 : decode cX7_hasLaterOne 1 = .ok (.iconst 1, 1) := by decide +kernel
theorem dX7_hasLaterOne_2 : decode cX7_hasLaterOne 2 = .ok (.iadd, 1) := by decide +kernel
theorem dX7_hasLaterOne_3 : decode cX7_hasLaterOne 3 = .ok (.istore_n 3, 1) := by decide +kernel
theorem dX7_hasLaterOne_4 : decode cX7_hasLaterOne 4 = .ok (.iload_n 3, 1) := by decide +kernel
theorem dX7_hasLaterOne_5 : decode cX7_hasLaterOne 5 = .ok (.aload_n 0, 1) := by decide +kernel
theorem dX7_hasLaterOne_6 : decode cX7_hasLaterOne 6 = .ok (.getfield 21, 3) := by decide +kernel
theorem dX7_hasLaterOne_9 : decode cX7_hasLaterOne 9 = .ok (.if_icmp .ge 52, 3) := by decide +kernel
theorem dX7_hasLaterOne_12 : decode cX7_hasLaterOne 12 = .ok (.aload_n 0, 1) := by decide +kernel
theorem dX7_hasLaterOne_13 : decode cX7_hasLaterOne 13 = .ok (.iload_n 3, 1) := by decide +kernel
theorem dX7_hasLaterOne_14 : decode cX7_hasLaterOne 14 = .ok (.invokevirtual 31, 3) := by decide +kernel
theorem dX7_hasLaterOne_17 : decode cX7_hasLaterOne 17 = .ok (.astore 4, 2) := by decide +kernel
theorem dX7_hasLaterOne_19 : decode cX7_hasLaterOne 19 = .ok (.aload 4, 2) := by decide +kernel
theorem dX7_hasLaterOne_21 : decode cX7_hasLaterOne 21 = .ok (.ifnull 34, 3) := by decide +kernel
theorem dX7_hasLaterOne_24 : decode cX7_hasLaterOne 24 = .ok (.aload 4, 2) := by decide +kernel
theorem dX7_hasLaterOne_26 : decode cX7_hasLaterOne 26 = .ok (.getfield 42, 3) := by decide +kernel
theorem dX7_hasLaterOne_29 : decode cX7_hasLaterOne 29 = .ok (.iload_n 1, 1) := by decide +kernel
theorem dX7_hasLaterOne_30 : decode cX7_hasLaterOne 30 = .ok (.if_icmp .ne 25, 3) := by decide +kernel
theorem dX7_hasLaterOne_33 : decode cX7_hasLaterOne 33 = .ok (.aload 4, 2) := by decide +kernel
theorem dX7_hasLaterOne_35 : decode cX7_hasLaterOne 35 = .ok (.getfield 35, 3) := by decide +kernel
theorem dX7_hasLaterOne_38 : decode cX7_hasLaterOne 38 = .ok (.aload_n 0, 1) := by decide +kernel
theorem dX7_hasLaterOne_39 : decode cX7_hasLaterOne 39 = .ok (.getfield 28, 3) := by decide +kernel
theorem dX7_hasLaterOne_42 : decode cX7_hasLaterOne 42 = .ok (.if_icmp .gt 13, 3) := by decide +kernel
theorem dX7_hasLaterOne_45 : decode cX7_hasLaterOne 45 = .ok (.aload 4, 2) := by decide +kernel
theorem dX7_hasLaterOne_47 : decode cX7_hasLaterOne 47 = .ok (.getfield 38, 3) := by decide +kernel
theorem dX7_hasLaterOne_50 : decode cX7_hasLaterOne 50 = .ok (.ifCond .eq 5, 3) := by decide +kernel
theorem dX7_hasLaterOne_53 : decode cX7_hasLaterOne 53 = .ok (.iconst 1, 1) := by decide +kernel
theorem dX7_hasLaterOne_54 : decode cX7_hasLaterOne 54 = .ok (.ireturn, 1) := by decide +kernel
theorem dX7_hasLaterOne_55 : decode cX7_hasLaterOne 55 = .ok (.iinc 3 1, 3) := by decide +kernel
theorem dX7_hasLaterOne_58 : decode cX7_hasLaterOne 58 = .ok (.goto (-54), 3) := by decide +kernel
theorem dX7_hasLaterOne_61 : decode cX7_hasLaterOne 61 = .ok (.iconst 0, 1) := by decide +kernel
theorem dX7_hasLaterOne_62 : decode cX7_hasLaterOne 62 = .ok (.ireturn, 1) := by decide +kernel
set_option maxRecDepth 20000 in
theorem ggX7_howManyAre_X7_kindOf : GoodIn wsX7_howManyAre wsX7_kindOf := goodIn_r _ [6, 7, 8, 9, 10, 11, 12, 13, 5, 14, 1, 15, 16, 17, 18, 19, 20, 21, 22, 23, 24, 25, 26, 27, 28, 29, 30, 31, 32, 33, 34, 35, 36, 37, 38, 39, 40, 41, 42, 43, 44, 45, 46, 47, 48, 49, 55, 56, 57, 58, 59, 60, 50, 51, 52, 53, 54, 61, 62, 63, 64, 65] (by decide +kernel) (by decide +kernel)
set_option maxRecDepth 20000 in
theorem gX7_howManyAre_X7_kindOf : GoodIn wsX7_howManyAre (wsV RX7 55 RX7 yX7_kindOf wsX7_kindOf) := goodIn_app (goodIn_of _ (by decide +kernel)) ggX7_howManyAre_X7_kindOf
theorem dX7_howManyAre_0 : decode cX7_howManyAre 0 = .ok (.iconst 0, 1) := by decide +kernel
theorem dX7_howManyAre_1 : decode cX7_howManyAre 1 = .ok (.istore_n 3, 1) := by decide +kernel
theorem dX7_howManyAre_2 : decode cX7_howManyAre 2 = .ok (.iconst 0, 1) := by decide +kernel
theorem dX7_howManyAre_3 : decode cX7_howManyAre 3 = .ok (.istore 4, 2) := by decide +kernel
theorem dX7_howManyAre_5 : decode cX7_howManyAre 5 = .ok (.iload 4, 2) := by decide +kernel
theorem dX7_howManyAre_7 : decode cX7_howManyAre 7 = .ok (.aload_n 0, 1) := by decide +kernel
theorem dX7_howManyAre_8 : decode cX7_howManyAre 8 = .ok (.getfield 21, 3) := by decide +kernel
theorem dX7_howManyAre_11 : decode cX7_howManyAre 11 = .ok (.if_icmp .ge 23, 3) := by decide +kernel
theorem dX7_howManyAre_14 : decode cX7_howManyAre 14 = .ok (.aload_n 0, 1) := by decide +kernel
theorem dX7_howManyAre_15 : decode cX7_howManyAre 15 = .ok (.iload 4, 2) := by decide +kernel
theorem dX7_howManyAre_17 : decode cX7_howManyAre 17 = .ok (.aload_n 2, 1) := by decide +kernel
theorem dX7_howManyAre_18 : decode cX7_howManyAre 18 = .ok (.invokevirtual 55, 3) := by decide +kernel
theorem dX7_howManyAre_21 : decode cX7_howManyAre 21 = .ok (.iload_n 1, 1) := by decide +kernel
theorem dX7_howManyAre_22 : decode cX7_howManyAre 22 = .ok (.if_icmp .ne 6, 3) := by decide +kernel
theorem dX7_howManyAre_25 : decode cX7_howManyAre 25 = .ok (.iinc 3 1, 3) := by decide +kernel
theorem dX7_howManyAre_28 : decode cX7_howManyAre 28 = .ok (.iinc 4 1, 3) := by decide +kernel
theorem dX7_howManyAre_31 : decode cX7_howManyAre 31 = .ok (.goto (-26), 3) := by decide +kernel
theorem dX7_howManyAre_34 : decode cX7_howManyAre 34 = .ok (.iload_n 3, 1) := by decide +kernel
theorem dX7_howManyAre_35 : decode cX7_howManyAre 35 = .ok (.ireturn, 1) := by decide +kernel
set_option maxRecDepth 20000 in
theorem ggX7_product_X7_at : GoodIn wsX7_product wsX7_at := goodIn_r _ [8, 1, 9, 52, 53, 54, 55, 56] (by decide +kernel) (by decide +kernel)
set_option maxRecDepth 20000 in
theorem gX7_product_X7_at : GoodIn wsX7_product (wsV RX7 31 RX7 yX7_at wsX7_at) := goodIn_app (goodIn_of _ (by decide +kernel)) ggX7_product_X7_at
set_option maxRecDepth 20000 in
theorem ggX7_product_X7_kindOf : GoodIn wsX7_product wsX7_kindOf := goodIn_r _ [13, 14, 15, 16, 17, 4, 5, 6, 7, 8, 1, 9, 18, 19, 20, 21, 22, 23, 24, 25, 26, 27, 28, 29, 30, 31, 32, 33, 34, 35, 36, 37, 38, 39, 40, 41, 42, 43, 44, 45, 46, 47, 48, 49, 50, 51, 57, 58, 59, 60, 61, 62, 52, 53, 54, 55, 56, 63, 64, 65, 66, 67] (by decide +kernel) (by decide +kernel)
set_option maxRecDepth 20000 in
theorem gX7_product_X7_kindOf : GoodIn wsX7_product (wsV RX7 55 RX7 yX7_kindOf wsX7_kindOf) := goodIn_app (goodIn_of _ (by decide +kernel)) ggX7_product_X7_kindOf
theorem dX7_product_0 : decode cX7_product 0 = .ok (.iconst 1, 1) := by decide +kernel
theorem dX7_product_1 : decode cX7_product 1 = .ok (.istore_n 3, 1) := by decide +kernel
theorem dX7_product_2 : decode cX7_product 2 = .ok (.iconst 0, 1) := by decide +kernel
theorem dX7_product_3 : decode cX7_product 3 = .ok (.istore 4, 2) := by decide +kernel
theorem dX7_product_5 : decode cX7_product 5 = .ok (.iload 4, 2) := by decide +kernel
theorem dX7_product_7 : decode cX7_product 7 = .ok (.aload_n 0, 1) := by decide +kernel
theorem dX7_product_8 : decode cX7_product 8 = .ok (.getfield 21, 3) := by decide +kernel
theorem dX7_product_11 : decode cX7_product 11 = .ok (.if_icmp .ge 56, 3) := by decide +kernel
theorem dX7_product_14 : decode cX7_product 14 = .ok (.aload_n 0, 1) := by decide +kernel
theorem dX7_product_15 : decode cX7_product 15 = .ok (.iload 4, 2) := by decide +kernel
theorem dX7_product_17 : decode cX7_product 17 = .ok (.invokevirtual 31, 3) := by decide +kernel
theorem dX7_product_20 : decode cX7_product 20 = .ok (.astore 5, 2) := by decide +kernel
theorem dX7_product_22 : decode cX7_product 22 = .ok (.aload 5, 2) := by decide +kernel
theorem dX7_product_24 : decode cX7_product 24 = .ok (.ifnull 37, 3) := by decide +kernel
theorem dX7_product_27 : decode cX7_product 27 = .ok (.aload_n 0, 1) := by decide +kernel
theorem dX7_product_28 : decode cX7_product 28 = .ok (.iload 4, 2) := by decide +kernel
theorem dX7_product_30 : decode cX7_product 30 = .ok (.aload_n 2, 1) := by decide +kernel
theorem dX7_product_31 : decode cX7_product 31 = .ok (.invokevirtual 55, 3) := by decide +kernel
theorem dX7_product_34 : decode cX7_product 34 = .ok (.ifCond .ne 27, 3) := by decide +kernel
theorem dX7_product_37 : decode cX7_product 37 = .ok (.iload_n 3, 1) := by decide +kernel
theorem dX7_product_38 : decode cX7_product 38 = .ok (.iload_n 1, 1) := by decide +kernel
theorem dX7_product_39 : decode cX7_product 39 = .ok (.ifCond .ne 11, 3) := by decide +kernel
theorem dX7_product_42 : decode cX7_product 42 = .ok (.aload 5, 2) := by decide +kernel
theorem dX7_product_44 : decode cX7_product 44 = .ok (.getfield 59, 3) := by decide +kernel
theorem dX7_product_47 : decode cX7_product 47 = .ok (.goto 8, 3) := by decide +kernel
theorem dX7_product_50 : decode cX7_product 50 = .ok (.aload 5, 2) := by decide +kernel
theorem dX7_product_52 : decode cX7_product 52 = .ok (.getfield 62, 3) := by decide +kernel
theorem dX7_product_55 : decode cX7_product 55 = .ok (.imul, 1) := by decide +kernel
theorem dX7_product_56 : decode cX7_product 56 = .ok (.sipush 10007, 3) := by decide +kernel
theorem dX7_product_59 : decode cX7_product 59 = .ok (.irem, 1) := by decide +kernel
theorem dX7_product_60 : decode cX7_product 60 = .ok (.istore_n 3, 1) := by decide +kernel
theorem dX7_product_61 : decode cX7_product 61 = .ok (.iinc 4 1, 3) := by decide +kernel
theorem dX7_product_64 : decode cX7_product 64 = .ok (.goto (-59), 3) := by decide +kernel
theorem dX7_product_67 : decode cX7_product 67 = .ok (.iload_n 3, 1) := by decide +kernel
theorem dX7_product_68 : decode cX7_product 68 = .ok (.ireturn, 1) := by decide +kernel
set_option maxRecDepth 20000 in
theorem ggX7_headBehind_X7_wordOf : GoodIn wsX7_headBehind wsX7_wordOf := goodIn_r _ [8, 9, 10, 11, 7, 12, 1, 13, 14, 15, 16, 17, 18, 19, 20, 21, 22, 23, 24, 25, 26, 27, 28, 29, 30, 31, 32, 33, 34, 35, 36] (by decide +kernel) (by decide +kernel)
set_option maxRecDepth 20000 in
theorem gX7_headBehind_X7_wordOf : GoodIn wsX7_headBehind (wsV RX7 67 RX7 yX7_wordOf wsX7_wordOf) := goodIn_app (goodIn_of _ (by decide +kernel)) ggX7_headBehind_X7_wordOf
theorem dX7_headBehind_0 : decode cX7_headBehind 0 = .ok (.lconst 1, 1) := by decide +kernel
theorem dX7_headBehind_1 : decode cX7_headBehind 1 = .ok (.lstore_n 2, 1) := by decide +kernel
theorem dX7_headBehind_2 : decode cX7_headBehind 2 = .ok (.iconst 0, 1) := by decide +kernel
theorem dX7_headBehind_3 : decode cX7_headBehind 3 = .ok (.istore 4, 2) := by decide +kernel
theorem dX7_headBehind_5 : decode cX7_headBehind 5 = .ok (.iload 4, 2) := by decide +kernel
theorem dX7_headBehind_7 : decode cX7_headBehind 7 = .ok (.iload_n 1, 1) := by decide +kernel
theorem dX7_headBehind_8 : decode cX7_headBehind 8 = .ok (.if_icmp .gt 36, 3) := by decide +kernel
theorem dX7_headBehind_11 : decode cX7_headBehind 11 = .ok (.iload 4, 2) := by decide +kernel
theorem dX7_headBehind_13 : decode cX7_headBehind 13 = .ok (.aload_n 0, 1) := by decide +kernel
theorem dX7_headBehind_14 : decode cX7_headBehind 14 = .ok (.getfield 21, 3) := by decide +kernel
theorem dX7_headBehind_17 : decode cX7_headBehind 17 = .ok (.if_icmp .ge 27, 3) := by decide +kernel
theorem dX7_headBehind_20 : decode cX7_headBehind 20 = .ok (.lload_n 2, 1) := by decide +kernel
theorem dX7_headBehind_21 : decode cX7_headBehind 21 = .ok (.ldc2_w 65, 3) := by decide +kernel
theorem dX7_headBehind_24 : decode cX7_headBehind 24 = .ok (.lmul, 1) := by decide +kernel
theorem dX7_headBehind_25 : decode cX7_headBehind 25 = .ok (.aload_n 0, 1) := by decide +kernel
theorem dX7_headBehind_26 : decode cX7_headBehind 26 = .ok (.iload 4, 2) := by decide +kernel
theorem dX7_headBehind_28 : decode cX7_headBehind 28 = .ok (.invokevirtual 67, 3) := by decide +kernel
theorem dX7_headBehind_31 : decode cX7_headBehind 31 = .ok (.i2l, 1) := by decide +kernel
theorem dX7_headBehind_32 : decode cX7_headBehind 32 = .ok (.ladd, 1) := by decide +kernel
theorem dX7_headBehind_33 : decode cX7_headBehind 33 = .ok (.ldc2_w 71, 3) := by decide +kernel
theorem dX7_headBehind_36 : decode cX7_headBehind 36 = .ok (.lrem, 1) := by decide +kernel
theorem dX7_headBehind_37 : decode cX7_headBehind 37 = .ok (.lstore_n 2, 1) := by decide +kernel
theorem dX7_headBehind_38 : decode cX7_headBehind 38 = .ok (.iinc 4 1, 3) := by decide +kernel
theorem dX7_headBehind_41 : decode cX7_headBehind 41 = .ok (.goto (-36), 3) := by decide +kernel
theorem dX7_headBehind_44 : decode cX7_headBehind 44 = .ok (.lload_n 2, 1) := by decide +kernel
theorem dX7_headBehind_45 : decode cX7_headBehind 45 = .ok (.l2i, 1) := by decide +kernel
theorem dX7_headBehind_46 : decode cX7_headBehind 46 = .ok (.ireturn, 1) := by decide +kernel
set_option maxRecDepth 20000 in
theorem ggX7_firstWithWord_X7_wordOf : GoodIn wsX7_firstWithWord wsX7_wordOf := goodIn_r _ [6, 7, 8, 9, 5, 10, 1, 11, 12, 13, 14, 15, 16, 17, 18, 19, 20, 21, 22, 23, 24, 25, 26, 27, 28, 29, 30, 31, 32, 33, 34] (by decide +kernel) (by decide +kernel)
set_option maxRecDepth 20000 in
theorem gX7_firstWithWord_X7_wordOf : GoodIn wsX7_firstWithWord (wsV RX7 67 RX7 yX7_wordOf wsX7_wordOf) := goodIn_app (goodIn_of _ (by decide +kernel)) ggX7_firstWithWord_X7_wordOf
theorem dX7_firstWithWord_0 : decode cX7_firstWithWord 0 = .ok (.iload_n 2, 1) := by decide +kernel
theorem dX7_firstWithWord_1 : decode cX7_firstWithWord 1 = .ok (.istore_n 3, 1) := by decide +kernel
theorem dX7_firstWithWord_2 : decode cX7_firstWithWord 2 = .ok (.iload_n 3, 1) := by decide +kernel
theorem dX7_firstWithWord_3 : decode cX7_firstWithWord 3 = .ok (.aload_n 0, 1) := by decide +kernel
theorem dX7_firstWithWord_4 : decode cX7_firstWithWord 4 = .ok (.getfield 21, 3) := by decide +kernel
theorem dX7_firstWithWord_7 : decode cX7_firstWithWord 7 = .ok (.if_icmp .ge 20, 3) := by decide +kernel
theorem dX7_firstWithWord_10 : decode cX7_firstWithWord 10 = .ok (.aload_n 0, 1) := by decide +kernel
theorem dX7_firstWithWord_11 : decode cX7_firstWithWord 11 = .ok (.iload_n 3, 1) := by decide +kernel
theorem dX7_firstWithWord_12 : decode cX7_firstWithWord 12 = .ok (.invokevirtual 67, 3) := by decide +kernel
theorem dX7_firstWithWord_15 : decode cX7_firstWithWord 15 = .ok (.iload_n 1, 1) := by decide +kernel
theorem dX7_firstWithWord_16 : decode cX7_firstWithWord 16 = .ok (.if_icmp .ne 5, 3) := by decide +kernel
theorem dX7_firstWithWord_19 : decode cX7_firstWithWord 19 = .ok (.iload_n 3, 1) := by decide +kernel
theorem dX7_firstWithWord_20 : decode cX7_firstWithWord 20 = .ok (.ireturn, 1) := by decide +kernel
theorem dX7_firstWithWord_21 : decode cX7_firstWithWord 21 = .ok (.iinc 3 1, 3) := by decide +kernel
theorem dX7_firstWithWord_24 : decode cX7_firstWithWord 24 = .ok (.goto (-22), 3) := by decide +kernel
theorem dX7_firstWithWord_27 : decode cX7_firstWithWord 27 = .ok (.bipush (-6), 2) := by decide +kernel
theorem dX7_firstWithWord_29 : decode cX7_firstWithWord 29 = .ok (.ireturn, 1) := by decide +kernel
set_option maxRecDepth 20000 in
theorem ggX7_wordOf_X7_at : GoodIn wsX7_wordOf wsX7_at := goodIn_r _ [5, 6, 7, 20, 21, 22, 23, 24] (by decide +kernel) (by decide +kernel)
set_option maxRecDepth 20000 in
theorem gX7_wordOf_X7_at : GoodIn wsX7_wordOf (wsV RX7 31 RX7 yX7_at wsX7_at) := goodIn_app (goodIn_of _ (by decide +kernel)) ggX7_wordOf_X7_at
set_option maxRecDepth 20000 in
theorem ggX7_wordOf_X5_word : GoodIn wsX7_wordOf wsX5_word := goodIn_r _ [12, 13, 14, 15, 16, 17, 18, 11, 19, 25, 26, 27, 28, 29, 30] (by decide +kernel) (by decide +kernel)
set_option maxRecDepth 20000 in
theorem gX7_wordOf_X5_word : GoodIn wsX7_wordOf (wsV RX7 73 RX5 yX5_word wsX5_word) := goodIn_app (goodIn_of _ (by decide +kernel)) ggX7_wordOf_X5_word
theorem dX7_wordOf_0 : decode cX7_wordOf 0 = .ok (.aload_n 0, 1) := by decide +kernel
theorem dX7_wordOf_1 : decode cX7_wordOf 1 = .ok (.iload_n 1, 1) := by decide +kernel
theorem dX7_wordOf_2 : decode cX7_wordOf 2 = .ok (.invokevirtual 31, 3) := by decide +kernel
theorem dX7_wordOf_5 : decode cX7_wordOf 5 = .ok (.astore_n 2, 1) := by decide +kernel
theorem dX7_wordOf_6 : decode cX7_wordOf 6 = .ok (.aload_n 2, 1) := by decide +kernel
theorem dX7_wordOf_7 : decode cX7_wordOf 7 = .ok (.ifnonnull 8, 3) := by decide +kernel
theorem dX7_wordOf_10 : decode cX7_wordOf 10 = .ok (.bipush (-6), 2) := by decide +kernel
theorem dX7_wordOf_12 : decode cX7_wordOf 12 = .ok (.goto 7, 3) := by decide +kernel
theorem dX7_wordOf_15 : decode cX7_wordOf 15 = .ok (.aload_n 2, 1) := by decide +kernel
theorem dX7_wordOf_16 : decode cX7_wordOf 16 = .ok (.invokevirtual 73, 3) := by decide +kernel
theorem dX7_wordOf_19 : decode cX7_wordOf 19 = .ok (.ireturn, 1) := by decide +kernel
theorem dX7_addCopied_0 : decode cX7_addCopied 0 = .ok (.aload_n 0, 1) := by decide +kernel
theorem dX7_addCopied_1 : decode cX7_addCopied 1 = .ok (.getfield 25, 3) := by decide +kernel
theorem dX7_addCopied_4 : decode cX7_addCopied 4 = .ok (.ifCond .lt 15, 3) := by decide +kernel
theorem dX7_addCopied_7 : decode cX7_addCopied 7 = .ok (.aload_n 0, 1) := by decide +kernel
theorem dX7_addCopied_8 : decode cX7_addCopied 8 = .ok (.getfield 25, 3) := by decide +kernel
theorem dX7_addCopied_11 : decode cX7_addCopied 11 = .ok (.aload_n 0, 1) := by decide +kernel
theorem dX7_addCopied_12 : decode cX7_addCopied 12 = .ok (.getfield 17, 3) := by decide +kernel
theorem dX7_addCopied_15 : decode cX7_addCopied 15 = .ok (.arraylength, 1) := by decide +kernel
theorem dX7_addCopied_16 : decode cX7_addCopied 16 = .ok (.if_icmp .lt 5, 3) := by decide +kernel
theorem dX7_addCopied_19 : decode cX7_addCopied 19 = .ok (.iconst 0, 1) := by decide +kernel
theorem dX7_addCopied_20 : decode cX7_addCopied 20 = .ok (.ireturn, 1) := by decide +kernel
theorem dX7_addCopied_21 : decode cX7_addCopied 21 = .ok (.aload_n 0, 1) := by decide +kernel
theorem dX7_addCopied_22 : decode cX7_addCopied 22 = .ok (.getfield 17, 3) := by decide +kernel
theorem dX7_addCopied_25 : decode cX7_addCopied 25 = .ok (.aload_n 0, 1) := by decide +kernel
theorem dX7_addCopied_26 : decode cX7_addCopied 26 = .ok (.getfield 25, 3) := by decide +kernel
theorem dX7_addCopied_29 : decode cX7_addCopied 29 = .ok (.iload_n 1, 1) := by decide +kernel
theorem dX7_addCopied_30 : decode cX7_addCopied 30 = .ok (.iastore, 1) := by decide +kernel
theorem dX7_addCopied_31 : decode cX7_addCopied 31 = .ok (.aload_n 0, 1) := by decide +kernel
theorem dX7_addCopied_32 : decode cX7_addCopied 32 = .ok (.dup, 1) := by decide +kernel
theorem dX7_addCopied_33 : decode cX7_addCopied 33 = .ok (.getfield 25, 3) := by decide +kernel
theorem dX7_addCopied_36 : decode cX7_addCopied 36 = .ok (.iconst 1, 1) := by decide +kernel
theorem dX7_addCopied_37 : decode cX7_addCopied 37 = .ok (.iadd, 1) := by decide +kernel
theorem dX7_addCopied_38 : decode cX7_addCopied 38 = .ok (.putfield 25, 3) := by decide +kernel
theorem dX7_addCopied_41 : decode cX7_addCopied 41 = .ok (.iconst 1, 1) := by decide +kernel
theorem dX7_addCopied_42 : decode cX7_addCopied 42 = .ok (.ireturn, 1) := by decide +kernel
set_option maxRecDepth 20000 in
theorem ggX7_firstUnlike_X7_wordOf : GoodIn wsX7_firstUnlike wsX7_wordOf := goodIn_r _ [8, 9, 10, 11, 7, 12, 1, 13, 14, 15, 16, 17, 18, 19, 20, 21, 22, 23, 24, 25, 26, 27, 28, 29, 30, 31, 32, 33, 34, 35, 36] (by decide +kernel) (by decide +kernel)
set_option maxRecDepth 20000 in
theorem gX7_firstUnlike_X7_wordOf : GoodIn wsX7_firstUnlike (wsV RX7 67 RX7 yX7_wordOf wsX7_wordOf) := goodIn_app (goodIn_of _ (by decide +kernel)) ggX7_firstUnlike_X7_wordOf
theorem dX7_firstUnlike_0 : decode cX7_firstUnlike 0 = .ok (.iconst 0, 1) := by decide +kernel
theorem dX7_firstUnlike_1 : decode cX7_firstUnlike 1 = .ok (.istore_n 1, 1) := by decide +kernel
theorem dX7_firstUnlike_2 : decode cX7_firstUnlike 2 = .ok (.iload_n 1, 1) := by decide +kernel
theorem dX7_firstUnlike_3 : decode cX7_firstUnlike 3 = .ok (.aload_n 0, 1) := by decide +kernel
theorem dX7_firstUnlike_4 : decode cX7_firstUnlike 4 = .ok (.getfield 21, 3) := by decide +kernel
theorem dX7_firstUnlike_7 : decode cX7_firstUnlike 7 = .ok (.if_icmp .ge 42, 3) := by decide +kernel
theorem dX7_firstUnlike_10 : decode cX7_firstUnlike 10 = .ok (.iload_n 1, 1) := by decide +kernel
theorem dX7_firstUnlike_11 : decode cX7_firstUnlike 11 = .ok (.aload_n 0, 1) := by decide +kernel
theorem dX7_firstUnlike_12 : decode cX7_firstUnlike 12 = .ok (.getfield 25, 3) := by decide +kernel
theorem dX7_firstUnlike_15 : decode cX7_firstUnlike 15 = .ok (.if_icmp .ge 34, 3) := by decide +kernel
theorem dX7_firstUnlike_18 : decode cX7_firstUnlike 18 = .ok (.iload_n 1, 1) := by decide +kernel
theorem dX7_firstUnlike_19 : decode cX7_firstUnlike 19 = .ok (.aload_n 0, 1) := by decide +kernel
theorem dX7_firstUnlike_20 : decode cX7_firstUnlike 20 = .ok (.getfield 17, 3) := by decide +kernel
theorem dX7_firstUnlike_23 : decode cX7_firstUnlike 23 = .ok (.arraylength, 1) := by decide +kernel
theorem dX7_firstUnlike_24 : decode cX7_firstUnlike 24 = .ok (.if_icmp .ge 25, 3) := by decide +kernel
theorem dX7_firstUnlike_27 : decode cX7_firstUnlike 27 = .ok (.aload_n 0, 1) := by decide +kernel
theorem dX7_firstUnlike_28 : decode cX7_firstUnlike 28 = .ok (.iload_n 1, 1) := by decide +kernel
theorem dX7_firstUnlike_29 : decode cX7_firstUnlike 29 = .ok (.invokevirtual 67, 3) := by decide +kernel
theorem dX7_firstUnlike_32 : decode cX7_firstUnlike 32 = .ok (.aload_n 0, 1) := by decide +kernel
theorem dX7_firstUnlike_33 : decode cX7_firstUnlike 33 = .ok (.getfield 17, 3) := by decide +kernel
theorem dX7_firstUnlike_36 : decode cX7_firstUnlike 36 = .ok (.iload_n 1, 1) := by decide +kernel
theorem dX7_firstUnlike_37 : decode cX7_firstUnlike 37 = .ok (.iaload, 1) := by decide +kernel
theorem dX7_firstUnlike_38 : decode cX7_firstUnlike 38 = .ok (.if_icmp .eq 5, 3) := by decide +kernel
theorem dX7_firstUnlike_41 : decode cX7_firstUnlike 41 = .ok (.iload_n 1, 1) := by decide +kernel
theorem dX7_firstUnlike_42 : decode cX7_firstUnlike 42 = .ok (.ireturn, 1) := by decide +kernel
theorem dX7_firstUnlike_43 : decode cX7_firstUnlike 43 = .ok (.iinc 1 1, 3) := by decide +kernel
theorem dX7_firstUnlike_46 : decode cX7_firstUnlike 46 = .ok (.goto (-44), 3) := by decide +kernel
theorem dX7_firstUnlike_49 : decode cX7_firstUnlike 49 = .ok (.bipush (-6), 2) := by decide +kernel
theorem dX7_firstUnlike_51 : decode cX7_firstUnlike 51 = .ok (.ireturn, 1) := by decide +kernel
