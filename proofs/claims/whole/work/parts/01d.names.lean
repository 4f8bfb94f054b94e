theorem dX9_init_0 : decode cX9_init 0 = .ok (.aload_n 0, 1) := by decide +kernel
theorem dX9_init_1 : decode cX9_init 1 = .ok (.invokespecial 1, 3) := by decide +kernel
theorem dX9_init_4 : decode cX9_init 4 = .ok (.aload_n 0, 1) := by decide +kernel
theorem dX9_init_5 : decode cX9_init 5 = .ok (.iconst 1, 1) := by decide +kernel
theorem dX9_init_6 : decode cX9_init 6 = .ok (.putfield 7, 3) := by decide +kernel
theorem dX9_init_9 : decode cX9_init 9 = .ok (.aload_n 0, 1) := by decide +kernel
theorem dX9_init_10 : decode cX9_init 10 = .ok (.iconst 3, 1) := by decide +kernel
theorem dX9_init_11 : decode cX9_init 11 = .ok (.newarray .int, 2) := by decide +kernel
theorem dX9_init_13 : decode cX9_init 13 = .ok (.putfield 13, 3) := by decide +kernel
theorem dX9_init_16 : decode cX9_init 16 = .ok (.aload_n 0, 1) := by decide +kernel
theorem dX9_init_17 : decode cX9_init 17 = .ok (.bipush 36, 2) := by decide +kernel
theorem dX9_init_19 : decode cX9_init 19 = .ok (.newarray .int, 2) := by decide +kernel
theorem dX9_init_21 : decode cX9_init 21 = .ok (.putfield 17, 3) := by decide +kernel
theorem dX9_init_24 : decode cX9_init 24 = .ok (.aload_n 0, 1) := by decide +kernel
theorem dX9_init_25 : decode cX9_init 25 = .ok (.bipush 40, 2) := by decide +kernel
theorem dX9_init_27 : decode cX9_init 27 = .ok (.newarray .int, 2) := by decide +kernel
theorem dX9_init_29 : decode cX9_init 29 = .ok (.putfield 20, 3) := by decide +kernel
theorem dX9_init_32 : decode cX9_init 32 = .ok (.aload_n 0, 1) := by decide +kernel
theorem dX9_init_33 : decode cX9_init 33 = .ok (.bipush 40, 2) := by decide +kernel
theorem dX9_init_35 : decode cX9_init 35 = .ok (.newarray .int, 2) := by decide +kernel
theorem dX9_init_37 : decode cX9_init 37 = .ok (.putfield 23, 3) := by decide +kernel
theorem dX9_init_40 : decode cX9_init 40 = .ok (.aload_n 0, 1) := by decide +kernel
theorem dX9_init_41 : decode cX9_init 41 = .ok (.bipush 100, 2) := by decide +kernel
theorem dX9_init_43 : decode cX9_init 43 = .ok (.putfield 26, 3) := by decide +kernel
theorem dX9_init_46 : decode cX9_init 46 = .ok (.aload_n 0, 1) := by decide +kernel
theorem dX9_init_47 : decode cX9_init 47 = .ok (.bipush 30, 2) := by decide +kernel
theorem dX9_init_49 : decode cX9_init 49 = .ok (.newarray .int, 2) := by decide +kernel
theorem dX9_init_51 : decode cX9_init 51 = .ok (.putfield 29, 3) := by decide +kernel
theorem dX9_init_54 : decode cX9_init 54 = .ok (.aload_n 0, 1) := by decide +kernel
theorem dX9_init_55 : decode cX9_init 55 = .ok (.bipush 30, 2) := by decide +kernel
theorem dX9_init_57 : decode cX9_init 57 = .ok (.newarray .int, 2) := by decide +kernel
theorem dX9_init_59 : decode cX9_init 59 = .ok (.putfield 32, 3) := by decide +kernel
theorem dX9_init_62 : decode cX9_init 62 = .ok (.aload_n 0, 1) := by decide +kernel
theorem dX9_init_63 : decode cX9_init 63 = .ok (.bipush 30, 2) := by decide +kernel
theorem dX9_init_65 : decode cX9_init 65 = .ok (.newarray .int, 2) := by decide +kernel
theorem dX9_init_67 : decode cX9_init 67 = .ok (.putfield 35, 3) := by decide +kernel
theorem dX9_init_70 : decode cX9_init 70 = .ok (.aload_n 0, 1) := by decide +kernel
theorem dX9_init_71 : decode cX9_init 71 = .ok (.bipush 30, 2) := by decide +kernel
theorem dX9_init_73 : decode cX9_init 73 = .ok (.newarray .int, 2) := by decide +kernel
theorem dX9_init_75 : decode cX9_init 75 = .ok (.putfield 38, 3) := by decide +kernel
theorem dX9_init_78 : decode cX9_init 78 = .ok (.aload_n 0, 1) := by decide +kernel
theorem dX9_init_79 : decode cX9_init 79 = .ok (.bipush 30, 2) := by decide +kernel
theorem dX9_init_81 : decode cX9_init 81 = .ok (.newarray .boolean, 2) := by decide +kernel
theorem dX9_init_83 : decode cX9_init 83 = .ok (.putfield 41, 3) := by decide +kernel
theorem dX9_init_86 : decode cX9_init 86 = .ok (.aload_n 0, 1) := by decide +kernel
theorem dX9_init_87 : decode cX9_init 87 = .ok (.bipush 120, 2) := by decide +kernel
theorem dX9_init_89 : decode cX9_init 89 = .ok (.newarray .int, 2) := by decide +kernel
theorem dX9_init_91 : decode cX9_init 91 = .ok (.putfield 45, 3) := by decide +kernel
theorem dX9_init_94 : decode cX9_init 94 = .ok (.aload_n 0, 1) := by decide +kernel
theorem dX9_init_95 : decode cX9_init 95 = .ok (.bipush 30, 2) := by decide +kernel
theorem dX9_init_97 : decode cX9_init 97 = .ok (.newarray .int, 2) := by decide +kernel
theorem dX9_init_99 : decode cX9_init 99 = .ok (.putfield 48, 3) := by decide +kernel
theorem dX9_init_102 : decode cX9_init 102 = .ok (.aload_n 0, 1) := by decide +kernel
theorem dX9_init_103 : decode cX9_init 103 = .ok (.getfield 13, 3) := by decide +kernel
theorem dX9_init_106 : decode cX9_init 106 = .ok (.iconst 0, 1) := by decide +kernel
theorem dX9_init_107 : decode cX9_init 107 = .ok (.iconst 1, 1) := by decide +kernel
theorem dX9_init_108 : decode cX9_init 108 = .ok (.iastore, 1) := by decide +kernel
theorem dX9_init_109 : decode cX9_init 109 = .ok (.iconst 0, 1) := by decide +kernel
theorem dX9_init_110 : decode cX9_init 110 = .ok (.istore_n 1, 1) := by decide +kernel
theorem dX9_init_111 : decode cX9_init 111 = .ok (.iload_n 1, 1) := by decide +kernel
theorem dX9_init_112 : decode cX9_init 112 = .ok (.bipush 12, 2) := by decide +kernel
theorem dX9_init_114 : decode cX9_init 114 = .ok (.if_icmp .ge 31, 3) := by decide +kernel
theorem dX9_init_117 : decode cX9_init 117 = .ok (.aload_n 0, 1) := by decide +kernel
theorem dX9_init_118 : decode cX9_init 118 = .ok (.getfield 17, 3) := by decide +kernel
theorem dX9_init_121 : decode cX9_init 121 = .ok (.iconst 3, 1) := by decide +kernel
theorem dX9_init_122 : decode cX9_init 122 = .ok (.iload_n 1, 1) := by decide +kernel
theorem dX9_init_123 : decode cX9_init 123 = .ok (.imul, 1) := by decide +kernel
theorem dX9_init_124 : decode cX9_init 124 = .ok (.bipush 30, 2) := by decide +kernel
theorem dX9_init_126 : decode cX9_init 126 = .ok (.iastore, 1) := by decide +kernel
theorem dX9_init_127 : decode cX9_init 127 = .ok (.aload_n 0, 1) := by decide +kernel
theorem dX9_init_128 : decode cX9_init 128 = .ok (.getfield 17, 3) := by decide +kernel
theorem dX9_init_131 : decode cX9_init 131 = .ok (.iconst 3, 1) := by decide +kernel
theorem dX9_init_132 : decode cX9_init 132 = .ok (.iload_n 1, 1) := by decide +kernel
theorem dX9_init_133 : decode cX9_init 133 = .ok (.imul, 1) := by decide +kernel
theorem dX9_init_134 : decode cX9_init 134 = .ok (.iconst 1, 1) := by decide +kernel
theorem dX9_init_135 : decode cX9_init 135 = .ok (.iadd, 1) := by decide +kernel
theorem dX9_init_136 : decode cX9_init 136 = .ok (.bipush 10, 2) := by decide +kernel
theorem dX9_init_138 : decode cX9_init 138 = .ok (.iastore, 1) := by decide +kernel
theorem dX9_init_139 : decode cX9_init 139 = .ok (.iinc 1 1, 3) := by decide +kernel
theorem dX9_init_142 : decode cX9_init 142 = .ok (.goto (-31), 3) := by decide +kernel
theorem dX9_init_145 : decode cX9_init 145 = .ok (.return_, 1) := by decide +kernel
theorem dX9_in_0 : decode cX9_in 0 = .ok (.iload_n 0, 1) := by decide +kernel
theorem dX9_in_1 : decode cX9_in 1 = .ok (.iload_n 1, 1) := by decide +kernel
theorem dX9_in_2 : decode cX9_in 2 = .ok (.if_icmp .lt 12, 3) := by decide +kernel
theorem dX9_in_5 : decode cX9_in 5 = .ok (.iload_n 0, 1) := by decide +kernel
theorem dX9_in_6 : decode cX9_in 6 = .ok (.iload_n 2, 1) := by decide +kernel
theorem dX9_in_7 : decode cX9_in 7 = .ok (.if_icmp .gt 7, 3) := by decide +kernel
theorem dX9_in_10 : decode cX9_in 10 = .ok (.iconst 1, 1) := by decide +kernel
theorem dX9_in_11 : decode cX9_in 11 = .ok (.goto 4, 3) := by decide +kernel
theorem dX9_in_14 : decode cX9_in 14 = .ok (.iconst 0, 1) := by decide +kernel
theorem dX9_in_15 : decode cX9_in 15 = .ok (.ireturn, 1) := by decide +kernel
set_option maxRecDepth 20000 in
theorem ggX9_isPower_X9_in : GoodIn wsX9_isPower wsX9_in := goodIn_r _ [4] (by decide +kernel) (by decide +kernel)
set_option maxRecDepth 20000 in
theorem gX9_isPower_X9_in : GoodIn wsX9_isPower (va_wsS RX9 51 yX9_in wsX9_in) := goodIn_app (goodIn_of _ (by decide +kernel)) ggX9_isPower_X9_in
theorem dX9_isPower_0 : decode cX9_isPower 0 = .ok (.iload_n 0, 1) := by decide +kernel
theorem dX9_isPower_1 : decode cX9_isPower 1 = .ok (.iconst 0, 1) := by decide +kernel
theorem dX9_isPower_2 : decode cX9_isPower 2 = .ok (.sipush 5002, 3) := by decide +kernel
theorem dX9_isPower_5 : decode cX9_isPower 5 = .ok (.invokestatic 51, 3) := by decide +kernel
theorem dX9_isPower_8 : decode cX9_isPower 8 = .ok (.ireturn, 1) := by decide +kernel
set_option maxRecDepth 20000 in
theorem ggX9_isNumber_X9_in : GoodIn wsX9_isNumber wsX9_in := goodIn_r _ [4] (by decide +kernel) (by decide +kernel)
set_option maxRecDepth 20000 in
theorem gX9_isNumber_X9_in : GoodIn wsX9_isNumber (va_wsS RX9 51 yX9_in wsX9_in) := goodIn_app (goodIn_of _ (by decide +kernel)) ggX9_isNumber_X9_in
theorem dX9_isNumber_0 : decode cX9_isNumber 0 = .ok (.iload_n 0, 1) := by decide +kernel
theorem dX9_isNumber_1 : decode cX9_isNumber 1 = .ok (.iconst 1, 1) := by decide +kernel
theorem dX9_isNumber_2 : decode cX9_isNumber 2 = .ok (.sipush 10006, 3) := by decide +kernel
theorem dX9_isNumber_5 : decode cX9_isNumber 5 = .ok (.invokestatic 51, 3) := by decide +kernel
theorem dX9_isNumber_8 : decode cX9_isNumber 8 = .ok (.ireturn, 1) := by decide +kernel
theorem dX9_times_0 : decode cX9_times 0 = .ok (.iload_n 0, 1) := by decide +kernel
theorem dX9_times_1 : decode cX9_times 1 = .ok (.i2l, 1) := by decide +kernel
theorem dX9_times_2 : decode cX9_times 2 = .ok (.iload_n 1, 1) := by decide +kernel
theorem dX9_times_3 : decode cX9_times 3 = .ok (.i2l, 1) := by decide +kernel
theorem dX9_times_4 : decode cX9_times 4 = .ok (.lmul, 1) := by decide +kernel
theorem dX9_times_5 : decode cX9_times 5 = .ok (.ldc2_w 55, 3) := by decide +kernel
theorem dX9_times_8 : decode cX9_times 8 = .ok (.lrem, 1) := by decide +kernel
theorem dX9_times_9 : decode cX9_times 9 = .ok (.l2i, 1) := by decide +kernel
theorem dX9_times_10 : decode cX9_times 10 = .ok (.ireturn, 1) := by decide +kernel
theorem dX9_raise_0 : decode cX9_raise 0 = .ok (.lconst 1, 1) := by decide +kernel
theorem dX9_raise_1 : decode cX9_raise 1 = .ok (.lstore 4, 2) := by decide +kernel
theorem dX9_raise_3 : decode cX9_raise 3 = .ok (.lload_n 0, 1) := by decide +kernel
theorem dX9_raise_4 : decode cX9_raise 4 = .ok (.iload_n 3, 1) := by decide +kernel
theorem dX9_raise_5 : decode cX9_raise 5 = .ok (.i2l, 1) := by decide +kernel
theorem dX9_raise_6 : decode cX9_raise 6 = .ok (.lrem, 1) := by decide +kernel
theorem dX9_raise_7 : decode cX9_raise 7 = .ok (.lstore 6, 2) := by decide +kernel
theorem dX9_raise_9 : decode cX9_raise 9 = .ok (.iload_n 2, 1) := by decide +kernel
theorem dX9_raise_10 : decode cX9_raise 10 = .ok (.istore 8, 2) := by decide +kernel
theorem dX9_raise_12 : decode cX9_raise 12 = .ok (.iload 8, 2) := by decide +kernel
theorem dX9_raise_14 : decode cX9_raise 14 = .ok (.ifCond .le 45, 3) := by decide +kernel
theorem dX9_raise_17 : decode cX9_raise 17 = .ok (.iload 8, 2) := by decide +kernel
theorem dX9_raise_19 : decode cX9_raise 19 = .ok (.iconst 2, 1) := by decide +kernel
theorem dX9_raise_20 : decode cX9_raise 20 = .ok (.irem, 1) := by decide +kernel
theorem dX9_raise_21 : decode cX9_raise 21 = .ok (.iconst 1, 1) := by decide +kernel
theorem dX9_raise_22 : decode cX9_raise 22 = .ok (.if_icmp .ne 14, 3) := by decide +kernel
theorem dX9_raise_25 : decode cX9_raise 25 = .ok (.lload 4, 2) := by decide +kernel
theorem dX9_raise_27 : decode cX9_raise 27 = .ok (.lload 6, 2) := by decide +kernel
theorem dX9_raise_29 : decode cX9_raise 29 = .ok (.lmul, 1) := by decide +kernel
theorem dX9_raise_30 : decode cX9_raise 30 = .ok (.iload_n 3, 1) := by decide +kernel
theorem dX9_raise_31 : decode cX9_raise 31 = .ok (.i2l, 1) := by decide +kernel
theorem dX9_raise_32 : decode cX9_raise 32 = .ok (.lrem, 1) := by decide +kernel
theorem dX9_raise_33 : decode cX9_raise 33 = .ok (.goto 5, 3) := by decide +kernel
theorem dX9_raise_36 : decode cX9_raise 36 = .ok (.lload 4, 2) := by decide +kernel
theorem dX9_raise_38 : decode cX9_raise 38 = .ok (.lstore 4, 2) := by decide +kernel
theorem dX9_raise_40 : decode cX9_raise 40 = .ok (.lload 6, 2) := by decide +kernel
theorem dX9_raise_42 : decode cX9_raise 42 = .ok (.lload 6, 2) := by decide +kernel
theorem dX9_raise_44 : decode cX9_raise 44 = .ok (.lmul, 1) := by decide +kernel
theorem dX9_raise_45 : decode cX9_raise 45 = .ok (.iload_n 3, 1) := by decide +kernel
theorem dX9_raise_46 : decode cX9_raise 46 = .ok (.i2l, 1) := by decide +kernel
theorem dX9_raise_47 : decode cX9_raise 47 = .ok (.lrem, 1) := by decide +kernel
theorem dX9_raise_48 : decode cX9_raise 48 = .ok (.lstore 6, 2) := by decide +kernel
theorem dX9_raise_50 : decode cX9_raise 50 = .ok (.iload 8, 2) := by decide +kernel
theorem dX9_raise_52 : decode cX9_raise 52 = .ok (.iconst 2, 1) := by decide +kernel
theorem dX9_raise_53 : decode cX9_raise 53 = .ok (.idiv, 1) := by decide +kernel
theorem dX9_raise_54 : decode cX9_raise 54 = .ok (.istore 8, 2) := by decide +kernel
theorem dX9_raise_56 : decode cX9_raise 56 = .ok (.goto (-44), 3) := by decide +kernel
theorem dX9_raise_59 : decode cX9_raise 59 = .ok (.lload 4, 2) := by decide +kernel
theorem dX9_raise_61 : decode cX9_raise 61 = .ok (.lreturn, 1) := by decide +kernel
set_option maxRecDepth 20000 in
theorem ggX9_power_X9_raise : GoodIn wsX9_power wsX9_raise := goodIn_r _ [4] (by decide +kernel) (by decide +kernel)
set_option maxRecDepth 20000 in
theorem gX9_power_X9_raise : GoodIn wsX9_power (va_wsS RX9 57 yX9_raise wsX9_raise) := goodIn_app (goodIn_of _ (by decide +kernel)) ggX9_power_X9_raise
theorem dX9_power_0 : decode cX9_power 0 = .ok (.iload_n 0, 1) := by decide +kernel
theorem dX9_power_1 : decode cX9_power 1 = .ok (.i2l, 1) := by decide +kernel
theorem dX9_power_2 : decode cX9_power 2 = .ok (.iload_n 1, 1) := by decide +kernel
theorem dX9_power_3 : decode cX9_power 3 = .ok (.sipush 10007, 3) := by decide +kernel
theorem dX9_power_6 : decode cX9_power 6 = .ok (.invokestatic 57, 3) := by decide +kernel
theorem dX9_power_9 : decode cX9_power 9 = .ok (.l2i, 1) := by decide +kernel
theorem dX9_power_10 : decode cX9_power 10 = .ok (.ireturn, 1) := by decide +kernel
set_option maxRecDepth 20000 in
theorem ggX9_by_X9_power : GoodIn wsX9_by wsX9_power := goodIn_r _ [4, 5, 6, 3, 7] (by decide +kernel) (by decide +kernel)
set_option maxRecDepth 20000 in
theorem gX9_by_X9_power : GoodIn wsX9_by (va_wsS RX9 61 yX9_power wsX9_power) := goodIn_app (goodIn_of _ (by decide +kernel)) ggX9_by_X9_power
set_option maxRecDepth 20000 in
theorem ggX9_by_X9_times : GoodIn wsX9_by wsX9_times := goodIn_r _ [10, 11] (by decide +kernel) (by decide +kernel)
set_option maxRecDepth 20000 in
theorem gX9_by_X9_times : GoodIn wsX9_by (va_wsS RX9 65 yX9_times wsX9_times) := goodIn_app (goodIn_of _ (by decide +kernel)) ggX9_by_X9_times
theorem dX9_by_0 : decode cX9_by 0 = .ok (.iload_n 0, 1) := by decide +kernel
theorem dX9_by_1 : decode cX9_by 1 = .ok (.iload_n 1, 1) := by decide +kernel
theorem dX9_by_2 : decode cX9_by 2 = .ok (.sipush 10005, 3) := by decide +kernel
theorem dX9_by_5 : decode cX9_by 5 = .ok (.invokestatic 61, 3) := by decide +kernel
theorem dX9_by_8 : decode cX9_by 8 = .ok (.invokestatic 65, 3) := by decide +kernel
theorem dX9_by_11 : decode cX9_by 11 = .ok (.ireturn, 1) := by decide +kernel
theorem dX9_partOf_0 : decode cX9_partOf 0 = .ok (.aload_n 0, 1) := by decide +kernel
theorem dX9_partOf_1 : decode cX9_partOf 1 = .ok (.getfield 13, 3) := by decide +kernel
theorem dX9_partOf_4 : decode cX9_partOf 4 = .ok (.iconst 0, 1) := by decide +kernel
theorem dX9_partOf_5 : decode cX9_partOf 5 = .ok (.iaload, 1) := by decide +kernel
theorem dX9_partOf_6 : decode cX9_partOf 6 = .ok (.aload_n 0, 1) := by decide +kernel
theorem dX9_partOf_7 : decode cX9_partOf 7 = .ok (.getfield 13, 3) := by decide +kernel
theorem dX9_partOf_10 : decode cX9_partOf 10 = .ok (.iconst 1, 1) := by decide +kernel
theorem dX9_partOf_11 : decode cX9_partOf 11 = .ok (.iaload, 1) := by decide +kernel
theorem dX9_partOf_12 : decode cX9_partOf 12 = .ok (.iload_n 1, 1) := by decide +kernel
theorem dX9_partOf_13 : decode cX9_partOf 13 = .ok (.imul, 1) := by decide +kernel
theorem dX9_partOf_14 : decode cX9_partOf 14 = .ok (.iadd, 1) := by decide +kernel
theorem dX9_partOf_15 : decode cX9_partOf 15 = .ok (.aload_n 0, 1) := by decide +kernel
theorem dX9_partOf_16 : decode cX9_partOf 16 = .ok (.getfield 13, 3) := by decide +kernel
theorem dX9_partOf_19 : decode cX9_partOf 19 = .ok (.iconst 2, 1) := by decide +kernel
theorem dX9_partOf_20 : decode cX9_partOf 20 = .ok (.iaload, 1) := by decide +kernel
theorem dX9_partOf_21 : decode cX9_partOf 21 = .ok (.iload_n 1, 1) := by decide +kernel
theorem dX9_partOf_22 : decode cX9_partOf 22 = .ok (.imul, 1) := by decide +kernel
theorem dX9_partOf_23 : decode cX9_partOf 23 = .ok (.iload_n 1, 1) := by decide +kernel
theorem dX9_partOf_24 : decode cX9_partOf 24 = .ok (.imul, 1) := by decide +kernel
theorem dX9_partOf_25 : decode cX9_partOf 25 = .ok (.iadd, 1) := by decide +kernel
theorem dX9_partOf_26 : decode cX9_partOf 26 = .ok (.sipush 5003, 3) := by decide +kernel
theorem dX9_partOf_29 : decode cX9_partOf 29 = .ok (.irem, 1) := by decide +kernel
theorem dX9_partOf_30 : decode cX9_partOf 30 = .ok (.ireturn, 1) := by decide +kernel
set_option maxRecDepth 20000 in
theorem ggX9_h_X9_power : GoodIn wsX9_h wsX9_power := goodIn_r _ [5, 6, 7, 4, 8] (by decide +kernel) (by decide +kernel)
set_option maxRecDepth 20000 in
theorem gX9_h_X9_power : GoodIn wsX9_h (va_wsS RX9 61 yX9_power wsX9_power) := goodIn_app (goodIn_of _ (by decide +kernel)) ggX9_h_X9_power
theorem dX9_h_0 : decode cX9_h 0 = .ok (.iconst 4, 1) := by decide +kernel
theorem dX9_h_1 : decode cX9_h 1 = .ok (.aload_n 0, 1) := by decide +kernel
theorem dX9_h_2 : decode cX9_h 2 = .ok (.getfield 13, 3) := by decide +kernel
theorem dX9_h_5 : decode cX9_h 5 = .ok (.iconst 0, 1) := by decide +kernel
theorem dX9_h_6 : decode cX9_h 6 = .ok (.iaload, 1) := by decide +kernel
theorem dX9_h_7 : decode cX9_h 7 = .ok (.invokestatic 61, 3) := by decide +kernel
theorem dX9_h_10 : decode cX9_h 10 = .ok (.ireturn, 1) := by decide +kernel
set_option maxRecDepth 20000 in
theorem ggX9_key_X9_in : GoodIn wsX9_key wsX9_in := goodIn_r _ [7] (by decide +kernel) (by decide +kernel)
set_option maxRecDepth 20000 in
theorem gX9_key_X9_in : GoodIn wsX9_key (va_wsS RX9 51 yX9_in wsX9_in) := goodIn_app (goodIn_of _ (by decide +kernel)) ggX9_key_X9_in
set_option maxRecDepth 20000 in
theorem ggX9_key_X9_isPower : GoodIn wsX9_key wsX9_isPower := goodIn_r _ [10, 4, 5, 6, 7] (by decide +kernel) (by decide +kernel)
set_option maxRecDepth 20000 in
theorem gX9_key_X9_isPower : GoodIn wsX9_key (va_wsS RX9 68 yX9_isPower wsX9_isPower) := goodIn_app (goodIn_of _ (by decide +kernel)) ggX9_key_X9_isPower
set_option maxRecDepth 20000 in
theorem ggX9_key_X9_h : GoodIn wsX9_key wsX9_h := goodIn_r _ [14, 3, 15, 16, 6, 17, 18, 19, 20, 21, 22, 23, 24, 25, 26, 27, 28, 29, 30, 31, 32, 33, 34, 35, 36, 37, 38] (by decide +kernel) (by decide +kernel)
set_option maxRecDepth 20000 in
theorem gX9_key_X9_h : GoodIn wsX9_key (wsV RX9 75 RX9 yX9_h wsX9_h) := goodIn_app (goodIn_of _ (by decide +kernel)) ggX9_key_X9_h
theorem dX9_key_0 : decode cX9_key 0 = .ok (.iload_n 1, 1) := by decide +kernel
theorem dX9_key_1 : decode cX9_key 1 = .ok (.iconst 1, 1) := by decide +kernel
theorem dX9_key_2 : decode cX9_key 2 = .ok (.iconst 3, 1) := by decide +kernel
theorem dX9_key_3 : decode cX9_key 3 = .ok (.invokestatic 51, 3) := by decide +kernel
theorem dX9_key_6 : decode cX9_key 6 = .ok (.ifCond .eq 25, 3) := by decide +kernel
theorem dX9_key_9 : decode cX9_key 9 = .ok (.iload_n 2, 1) := by decide +kernel
theorem dX9_key_10 : decode cX9_key 10 = .ok (.invokestatic 68, 3) := by decide +kernel
theorem dX9_key_13 : decode cX9_key 13 = .ok (.ifCond .eq 18, 3) := by decide +kernel
theorem dX9_key_16 : decode cX9_key 16 = .ok (.iload_n 3, 1) := by decide +kernel
theorem dX9_key_17 : decode cX9_key 17 = .ok (.invokestatic 68, 3) := by decide +kernel
theorem dX9_key_20 : decode cX9_key 20 = .ok (.ifCond .eq 11, 3) := by decide +kernel
theorem dX9_key_23 : decode cX9_key 23 = .ok (.iload 4, 2) := by decide +kernel
theorem dX9_key_25 : decode cX9_key 25 = .ok (.invokestatic 68, 3) := by decide +kernel
theorem dX9_key_28 : decode cX9_key 28 = .ok (.ifCond .ne 6, 3) := by decide +kernel
theorem dX9_key_31 : decode cX9_key 31 = .ok (.bipush (-2), 2) := by decide +kernel
theorem dX9_key_33 : decode cX9_key 33 = .ok (.ireturn, 1) := by decide +kernel
theorem dX9_key_34 : decode cX9_key 34 = .ok (.aload_n 0, 1) := by decide +kernel
theorem dX9_key_35 : decode cX9_key 35 = .ok (.getfield 72, 3) := by decide +kernel
theorem dX9_key_38 : decode cX9_key 38 = .ok (.ifCond .le 6, 3) := by decide +kernel
theorem dX9_key_41 : decode cX9_key 41 = .ok (.bipush (-3), 2) := by decide +kernel
theorem dX9_key_43 : decode cX9_key 43 = .ok (.ireturn, 1) := by decide +kernel
theorem dX9_key_44 : decode cX9_key 44 = .ok (.aload_n 0, 1) := by decide +kernel
theorem dX9_key_45 : decode cX9_key 45 = .ok (.iload_n 1, 1) := by decide +kernel
theorem dX9_key_46 : decode cX9_key 46 = .ok (.putfield 7, 3) := by decide +kernel
theorem dX9_key_49 : decode cX9_key 49 = .ok (.aload_n 0, 1) := by decide +kernel
theorem dX9_key_50 : decode cX9_key 50 = .ok (.getfield 13, 3) := by decide +kernel
theorem dX9_key_53 : decode cX9_key 53 = .ok (.iconst 0, 1) := by decide +kernel
theorem dX9_key_54 : decode cX9_key 54 = .ok (.iload_n 2, 1) := by decide +kernel
theorem dX9_key_55 : decode cX9_key 55 = .ok (.iastore, 1) := by decide +kernel
theorem dX9_key_56 : decode cX9_key 56 = .ok (.aload_n 0, 1) := by decide +kernel
theorem dX9_key_57 : decode cX9_key 57 = .ok (.getfield 13, 3) := by decide +kernel
theorem dX9_key_60 : decode cX9_key 60 = .ok (.iconst 1, 1) := by decide +kernel
theorem dX9_key_61 : decode cX9_key 61 = .ok (.iload_n 1, 1) := by decide +kernel
theorem dX9_key_62 : decode cX9_key 62 = .ok (.iconst 1, 1) := by decide +kernel
theorem dX9_key_63 : decode cX9_key 63 = .ok (.if_icmp .le 7, 3) := by decide +kernel
theorem dX9_key_66 : decode cX9_key 66 = .ok (.iload_n 3, 1) := by decide +kernel
theorem dX9_key_67 : decode cX9_key 67 = .ok (.goto 4, 3) := by decide +kernel
theorem dX9_key_70 : decode cX9_key 70 = .ok (.iconst 0, 1) := by decide +kernel
theorem dX9_key_71 : decode cX9_key 71 = .ok (.iastore, 1) := by decide +kernel
theorem dX9_key_72 : decode cX9_key 72 = .ok (.aload_n 0, 1) := by decide +kernel
theorem dX9_key_73 : decode cX9_key 73 = .ok (.getfield 13, 3) := by decide +kernel
theorem dX9_key_76 : decode cX9_key 76 = .ok (.iconst 2, 1) := by decide +kernel
theorem dX9_key_77 : decode cX9_key 77 = .ok (.iload_n 1, 1) := by decide +kernel
theorem dX9_key_78 : decode cX9_key 78 = .ok (.iconst 2, 1) := by decide +kernel
theorem dX9_key_79 : decode cX9_key 79 = .ok (.if_icmp .le 8, 3) := by decide +kernel
theorem dX9_key_82 : decode cX9_key 82 = .ok (.iload 4, 2) := by decide +kernel
theorem dX9_key_84 : decode cX9_key 84 = .ok (.goto 4, 3) := by decide +kernel
theorem dX9_key_87 : decode cX9_key 87 = .ok (.iconst 0, 1) := by decide +kernel
theorem dX9_key_88 : decode cX9_key 88 = .ok (.iastore, 1) := by decide +kernel
theorem dX9_key_89 : decode cX9_key 89 = .ok (.aload_n 0, 1) := by decide +kernel
theorem dX9_key_90 : decode cX9_key 90 = .ok (.invokevirtual 75, 3) := by decide +kernel
theorem dX9_key_93 : decode cX9_key 93 = .ok (.ireturn, 1) := by decide +kernel
set_option maxRecDepth 20000 in
theorem ggX9_isHolder_X9_in : GoodIn wsX9_isHolder wsX9_in := goodIn_r _ [4] (by decide +kernel) (by decide +kernel)
set_option maxRecDepth 20000 in
theorem gX9_isHolder_X9_in : GoodIn wsX9_isHolder (va_wsS RX9 51 yX9_in wsX9_in) := goodIn_app (goodIn_of _ (by decide +kernel)) ggX9_isHolder_X9_in
theorem dX9_isHolder_0 : decode cX9_isHolder 0 = .ok (.iload_n 0, 1) := by decide +kernel
theorem dX9_isHolder_1 : decode cX9_isHolder 1 = .ok (.iconst 1, 1) := by decide +kernel
theorem dX9_isHolder_2 : decode cX9_isHolder 2 = .ok (.iconst 5, 1) := by decide +kernel
theorem dX9_isHolder_3 : decode cX9_isHolder 3 = .ok (.invokestatic 51, 3) := by decide +kernel
theorem dX9_isHolder_6 : decode cX9_isHolder 6 = .ok (.ireturn, 1) := by decide +kernel
set_option maxRecDepth 20000 in
theorem ggX9_holder_X9_isHolder : GoodIn wsX9_holder wsX9_isHolder := goodIn_r _ [4, 5, 6, 3, 7] (by decide +kernel) (by decide +kernel)
set_option maxRecDepth 20000 in
theorem gX9_holder_X9_isHolder : GoodIn wsX9_holder (va_wsS RX9 79 yX9_isHolder wsX9_isHolder) := goodIn_app (goodIn_of _ (by decide +kernel)) ggX9_holder_X9_isHolder
set_option maxRecDepth 20000 in
theorem ggX9_holder_X9_partOf : GoodIn wsX9_holder wsX9_partOf := goodIn_r _ [11, 12, 19, 20, 21, 22, 23, 24, 25, 26, 27, 28, 29, 30, 31, 32, 33, 34, 35, 36] (by decide +kernel) (by decide +kernel)
set_option maxRecDepth 20000 in
theorem gX9_holder_X9_partOf : GoodIn wsX9_holder (wsV RX9 82 RX9 yX9_partOf wsX9_partOf) := goodIn_app (goodIn_of _ (by decide +kernel)) ggX9_holder_X9_partOf
set_option maxRecDepth 20000 in
theorem ggX9_holder_X9_power : GoodIn wsX9_holder wsX9_power := goodIn_r _ [15, 16, 17, 3, 18] (by decide +kernel) (by decide +kernel)
set_option maxRecDepth 20000 in
theorem gX9_holder_X9_power : GoodIn wsX9_holder (va_wsS RX9 61 yX9_power wsX9_power) := goodIn_app (goodIn_of _ (by decide +kernel)) ggX9_holder_X9_power
theorem dX9_holder_0 : decode cX9_holder 0 = .ok (.iload_n 1, 1) := by decide +kernel
theorem dX9_holder_1 : decode cX9_holder 1 = .ok (.invokestatic 79, 3) := by decide +kernel
theorem dX9_holder_4 : decode cX9_holder 4 = .ok (.ifCond .ne 5, 3) := by decide +kernel
theorem dX9_holder_7 : decode cX9_holder 7 = .ok (.iconst (-1), 1) := by decide +kernel
theorem dX9_holder_8 : decode cX9_holder 8 = .ok (.ireturn, 1) := by decide +kernel
theorem dX9_holder_9 : decode cX9_holder 9 = .ok (.iload_n 2, 1) := by decide +kernel
theorem dX9_holder_10 : decode cX9_holder 10 = .ok (.ifCond .ne 11, 3) := by decide +kernel
theorem dX9_holder_13 : decode cX9_holder 13 = .ok (.aload_n 0, 1) := by decide +kernel
theorem dX9_holder_14 : decode cX9_holder 14 = .ok (.iload_n 1, 1) := by decide +kernel
theorem dX9_holder_15 : decode cX9_holder 15 = .ok (.invokevirtual 82, 3) := by decide +kernel
theorem dX9_holder_18 : decode cX9_holder 18 = .ok (.goto 22, 3) := by decide +kernel
theorem dX9_holder_21 : decode cX9_holder 21 = .ok (.iload_n 2, 1) := by decide +kernel
theorem dX9_holder_22 : decode cX9_holder 22 = .ok (.iconst 1, 1) := by decide +kernel
theorem dX9_holder_23 : decode cX9_holder 23 = .ok (.if_icmp .ne 15, 3) := by decide +kernel
theorem dX9_holder_26 : decode cX9_holder 26 = .ok (.iconst 4, 1) := by decide +kernel
theorem dX9_holder_27 : decode cX9_holder 27 = .ok (.aload_n 0, 1) := by decide +kernel
theorem dX9_holder_28 : decode cX9_holder 28 = .ok (.iload_n 1, 1) := by decide +kernel
theorem dX9_holder_29 : decode cX9_holder 29 = .ok (.invokevirtual 82, 3) := by decide +kernel
theorem dX9_holder_32 : decode cX9_holder 32 = .ok (.invokestatic 61, 3) := by decide +kernel
theorem dX9_holder_35 : decode cX9_holder 35 = .ok (.goto 5, 3) := by decide +kernel
theorem dX9_holder_38 : decode cX9_holder 38 = .ok (.bipush (-2), 2) := by decide +kernel
theorem dX9_holder_40 : decode cX9_holder 40 = .ok (.ireturn, 1) := by decide +kernel
set_option maxRecDepth 20000 in
theorem ggX9_sealOf_X9_power : GoodIn wsX9_sealOf wsX9_power := goodIn_r _ [4, 5, 6, 3, 7] (by decide +kernel) (by decide +kernel)
set_option maxRecDepth 20000 in
theorem gX9_sealOf_X9_power : GoodIn wsX9_sealOf (va_wsS RX9 61 yX9_power wsX9_power) := goodIn_app (goodIn_of _ (by decide +kernel)) ggX9_sealOf_X9_power
set_option maxRecDepth 20000 in
theorem ggX9_sealOf_X9_h : GoodIn wsX9_sealOf wsX9_h := goodIn_r _ [11, 12, 1, 2, 3, 4, 5, 6, 7, 17, 18, 19, 20, 21, 22, 23, 24, 25, 26, 27, 28, 29, 30, 31, 32, 33, 34] (by decide +kernel) (by decide +kernel)
set_option maxRecDepth 20000 in
theorem gX9_sealOf_X9_h : GoodIn wsX9_sealOf (wsV RX9 75 RX9 yX9_h wsX9_h) := goodIn_app (goodIn_of _ (by decide +kernel)) ggX9_sealOf_X9_h
set_option maxRecDepth 20000 in
theorem ggX9_sealOf_X9_times : GoodIn wsX9_sealOf wsX9_times := goodIn_r _ [15, 16] (by decide +kernel) (by decide +kernel)
set_option maxRecDepth 20000 in
theorem gX9_sealOf_X9_times : GoodIn wsX9_sealOf (va_wsS RX9 65 yX9_times wsX9_times) := goodIn_app (goodIn_of _ (by decide +kernel)) ggX9_sealOf_X9_times
theorem dX9_sealOf_0 : decode cX9_sealOf 0 = .ok (.iload_n 3, 1) := by decide +kernel
theorem dX9_sealOf_1 : decode cX9_sealOf 1 = .ok (.ifCond .ne 11, 3) := by decide +kernel
theorem dX9_sealOf_4 : decode cX9_sealOf 4 = .ok (.iconst 4, 1) := by decide +kernel
theorem dX9_sealOf_5 : decode cX9_sealOf 5 = .ok (.iload_n 2, 1) := by decide +kernel
theorem dX9_sealOf_6 : decode cX9_sealOf 6 = .ok (.invokestatic 61, 3) := by decide +kernel
theorem dX9_sealOf_9 : decode cX9_sealOf 9 = .ok (.goto 19, 3) := by decide +kernel
theorem dX9_sealOf_12 : decode cX9_sealOf 12 = .ok (.aload_n 0, 1) := by decide +kernel
theorem dX9_sealOf_13 : decode cX9_sealOf 13 = .ok (.invokevirtual 75, 3) := by decide +kernel
theorem dX9_sealOf_16 : decode cX9_sealOf 16 = .ok (.iload_n 2, 1) := by decide +kernel
theorem dX9_sealOf_17 : decode cX9_sealOf 17 = .ok (.invokestatic 61, 3) := by decide +kernel
theorem dX9_sealOf_20 : decode cX9_sealOf 20 = .ok (.iconst 4, 1) := by decide +kernel
theorem dX9_sealOf_21 : decode cX9_sealOf 21 = .ok (.iload_n 1, 1) := by decide +kernel
theorem dX9_sealOf_22 : decode cX9_sealOf 22 = .ok (.invokestatic 61, 3) := by decide +kernel
theorem dX9_sealOf_25 : decode cX9_sealOf 25 = .ok (.invokestatic 65, 3) := by decide +kernel
theorem dX9_sealOf_28 : decode cX9_sealOf 28 = .ok (.ireturn, 1) := by decide +kernel
set_option maxRecDepth 20000 in
theorem ggX9_seal_X9_isPower : GoodIn wsX9_seal wsX9_isPower := goodIn_r _ [4, 5, 6, 3, 7] (by decide +kernel) (by decide +kernel)
set_option maxRecDepth 20000 in
theorem gX9_seal_X9_isPower : GoodIn wsX9_seal (va_wsS RX9 68 yX9_isPower wsX9_isPower) := goodIn_app (goodIn_of _ (by decide +kernel)) ggX9_seal_X9_isPower
set_option maxRecDepth 20000 in
theorem ggX9_seal_X9_in : GoodIn wsX9_seal wsX9_in := goodIn_r _ [7] (by decide +kernel) (by decide +kernel)
set_option maxRecDepth 20000 in
theorem gX9_seal_X9_in : GoodIn wsX9_seal (va_wsS RX9 51 yX9_in wsX9_in) := goodIn_app (goodIn_of _ (by decide +kernel)) ggX9_seal_X9_in
set_option maxRecDepth 20000 in
theorem ggX9_seal_X9_sealOf : GoodIn wsX9_seal wsX9_sealOf := goodIn_r _ [11, 12, 13, 3, 14, 15, 16, 17, 18, 19, 20, 21, 22, 23, 24, 25, 26, 27, 28, 29, 30, 31, 32, 33, 34, 35, 36, 37, 38, 39, 40, 41, 42, 43, 44] (by decide +kernel) (by decide +kernel)
set_option maxRecDepth 20000 in
theorem gX9_seal_X9_sealOf : GoodIn wsX9_seal (wsV RX9 86 RX9 yX9_sealOf wsX9_sealOf) := goodIn_app (goodIn_of _ (by decide +kernel)) ggX9_seal_X9_sealOf
theorem dX9_seal_0 : decode cX9_seal 0 = .ok (.iload_n 1, 1) := by decide +kernel
theorem dX9_seal_1 : decode cX9_seal 1 = .ok (.invokestatic 68, 3) := by decide +kernel
theorem dX9_seal_4 : decode cX9_seal 4 = .ok (.ifCond .eq 29, 3) := by decide +kernel
theorem dX9_seal_7 : decode cX9_seal 7 = .ok (.iload_n 2, 1) := by decide +kernel
theorem dX9_seal_8 : decode cX9_seal 8 = .ok (.invokestatic 68, 3) := by decide +kernel
theorem dX9_seal_11 : decode cX9_seal 11 = .ok (.ifCond .eq 22, 3) := by decide +kernel
theorem dX9_seal_14 : decode cX9_seal 14 = .ok (.iload_n 3, 1) := by decide +kernel
theorem dX9_seal_15 : decode cX9_seal 15 = .ok (.iconst 0, 1) := by decide +kernel
theorem dX9_seal_16 : decode cX9_seal 16 = .ok (.iconst 1, 1) := by decide +kernel
theorem dX9_seal_17 : decode cX9_seal 17 = .ok (.invokestatic 51, 3) := by decide +kernel
theorem dX9_seal_20 : decode cX9_seal 20 = .ok (.ifCond .eq 13, 3) := by decide +kernel
theorem dX9_seal_23 : decode cX9_seal 23 = .ok (.aload_n 0, 1) := by decide +kernel
theorem dX9_seal_24 : decode cX9_seal 24 = .ok (.iload_n 1, 1) := by decide +kernel
theorem dX9_seal_25 : decode cX9_seal 25 = .ok (.iload_n 2, 1) := by decide +kernel
theorem dX9_seal_26 : decode cX9_seal 26 = .ok (.iload_n 3, 1) := by decide +kernel
theorem dX9_seal_27 : decode cX9_seal 27 = .ok (.invokevirtual 86, 3) := by decide +kernel
theorem dX9_seal_30 : decode cX9_seal 30 = .ok (.goto 5, 3) := by decide +kernel
theorem dX9_seal_33 : decode cX9_seal 33 = .ok (.bipush (-2), 2) := by decide +kernel
theorem dX9_seal_35 : decode cX9_seal 35 = .ok (.ireturn, 1) := by decide +kernel
set_option maxRecDepth 20000 in
theorem ggX9_isRight_X9_isNumber : GoodIn wsX9_isRight wsX9_isNumber := goodIn_r _ [4, 5, 6, 3, 7] (by decide +kernel) (by decide +kernel)
set_option maxRecDepth 20000 in
theorem gX9_isRight_X9_isNumber : GoodIn wsX9_isRight (va_wsS RX9 90 yX9_isNumber wsX9_isNumber) := goodIn_app (goodIn_of _ (by decide +kernel)) ggX9_isRight_X9_isNumber
set_option maxRecDepth 20000 in
theorem ggX9_isRight_X9_power : GoodIn wsX9_isRight wsX9_power := goodIn_r _ [10, 11, 12, 3, 13] (by decide +kernel) (by decide +kernel)
set_option maxRecDepth 20000 in
theorem gX9_isRight_X9_power : GoodIn wsX9_isRight (va_wsS RX9 61 yX9_power wsX9_power) := goodIn_app (goodIn_of _ (by decide +kernel)) ggX9_isRight_X9_power
theorem dX9_isRight_0 : decode cX9_isRight 0 = .ok (.iload_n 0, 1) := by decide +kernel
theorem dX9_isRight_1 : decode cX9_isRight 1 = .ok (.invokestatic 90, 3) := by decide +kernel
theorem dX9_isRight_4 : decode cX9_isRight 4 = .ok (.ifCond .eq 36, 3) := by decide +kernel
theorem dX9_isRight_7 : decode cX9_isRight 7 = .ok (.iload_n 1, 1) := by decide +kernel
theorem dX9_isRight_8 : decode cX9_isRight 8 = .ok (.invokestatic 90, 3) := by decide +kernel
theorem dX9_isRight_11 : decode cX9_isRight 11 = .ok (.ifCond .eq 29, 3) := by decide +kernel
theorem dX9_isRight_14 : decode cX9_isRight 14 = .ok (.iload_n 0, 1) := by decide +kernel
theorem dX9_isRight_15 : decode cX9_isRight 15 = .ok (.sipush 5003, 3) := by decide +kernel
theorem dX9_isRight_18 : decode cX9_isRight 18 = .ok (.invokestatic 61, 3) := by decide +kernel
theorem dX9_isRight_21 : decode cX9_isRight 21 = .ok (.iconst 1, 1) := by decide +kernel
theorem dX9_isRight_22 : decode cX9_isRight 22 = .ok (.if_icmp .ne 18, 3) := by decide +kernel
theorem dX9_isRight_25 : decode cX9_isRight 25 = .ok (.iload_n 1, 1) := by decide +kernel
theorem dX9_isRight_26 : decode cX9_isRight 26 = .ok (.sipush 5003, 3) := by decide +kernel
theorem dX9_isRight_29 : decode cX9_isRight 29 = .ok (.invokestatic 61, 3) := by decide +kernel
theorem dX9_isRight_32 : decode cX9_isRight 32 = .ok (.iconst 1, 1) := by decide +kernel
theorem dX9_isRight_33 : decode cX9_isRight 33 = .ok (.if_icmp .ne 7, 3) := by decide +kernel
theorem dX9_isRight_36 : decode cX9_isRight 36 = .ok (.iconst 1, 1) := by decide +kernel
theorem dX9_isRight_37 : decode cX9_isRight 37 = .ok (.goto 4, 3) := by decide +kernel
theorem dX9_isRight_40 : decode cX9_isRight 40 = .ok (.iconst 0, 1) := by decide +kernel
theorem dX9_isRight_41 : decode cX9_isRight 41 = .ok (.ireturn, 1) := by decide +kernel
set_option maxRecDepth 20000 in
theorem ggX9_right_X9_isRight : GoodIn wsX9_right wsX9_isRight := goodIn_r _ [4, 5, 6, 3, 7, 8, 9, 10, 11, 12, 13, 14, 15, 16] (by decide +kernel) (by decide +kernel)
set_option maxRecDepth 20000 in
theorem gX9_right_X9_isRight : GoodIn wsX9_right (va_wsS RX9 93 yX9_isRight wsX9_isRight) := goodIn_app (goodIn_of _ (by decide +kernel)) ggX9_right_X9_isRight
theorem dX9_right_0 : decode cX9_right 0 = .ok (.iload_n 1, 1) := by decide +kernel
theorem dX9_right_1 : decode cX9_right 1 = .ok (.iload_n 2, 1) := by decide +kernel
theorem dX9_right_2 : decode cX9_right 2 = .ok (.invokestatic 93, 3) := by decide +kernel
theorem dX9_right_5 : decode cX9_right 5 = .ok (.ifCond .eq 7, 3) := by decide +kernel
theorem dX9_right_8 : decode cX9_right 8 = .ok (.iconst 1, 1) := by decide +kernel
theorem dX9_right_9 : decode cX9_right 9 = .ok (.goto 4, 3) := by decide +kernel
theorem dX9_right_12 : decode cX9_right 12 = .ok (.iconst 0, 1) := by decide +kernel
theorem dX9_right_13 : decode cX9_right 13 = .ok (.ireturn, 1) := by decide +kernel
set_option maxRecDepth 20000 in
theorem ggX9_open_X9_isHolder : GoodIn wsX9_open wsX9_isHolder := goodIn_r _ [4, 5, 6, 3, 7] (by decide +kernel) (by decide +kernel)
set_option maxRecDepth 20000 in
theorem gX9_open_X9_isHolder : GoodIn wsX9_open (va_wsS RX9 79 yX9_isHolder wsX9_isHolder) := goodIn_app (goodIn_of _ (by decide +kernel)) ggX9_open_X9_isHolder
set_option maxRecDepth 20000 in
theorem ggX9_open_X9_isNumber : GoodIn wsX9_open wsX9_isNumber := goodIn_r _ [10, 5, 6, 3, 7] (by decide +kernel) (by decide +kernel)
set_option maxRecDepth 20000 in
theorem gX9_open_X9_isNumber : GoodIn wsX9_open (va_wsS RX9 90 yX9_isNumber wsX9_isNumber) := goodIn_app (goodIn_of _ (by decide +kernel)) ggX9_open_X9_isNumber
set_option maxRecDepth 20000 in
theorem ggX9_open_X9_partOf : GoodIn wsX9_open wsX9_partOf := goodIn_r _ [14, 15, 22, 23, 24, 25, 26, 27, 28, 29, 30, 31, 32, 33, 34, 35, 36, 37, 38, 39] (by decide +kernel) (by decide +kernel)
set_option maxRecDepth 20000 in
theorem gX9_open_X9_partOf : GoodIn wsX9_open (wsV RX9 82 RX9 yX9_partOf wsX9_partOf) := goodIn_app (goodIn_of _ (by decide +kernel)) ggX9_open_X9_partOf
set_option maxRecDepth 20000 in
theorem ggX9_open_X9_power : GoodIn wsX9_open wsX9_power := goodIn_r _ [18, 19, 20, 3, 21] (by decide +kernel) (by decide +kernel)
set_option maxRecDepth 20000 in
theorem gX9_open_X9_power : GoodIn wsX9_open (va_wsS RX9 61 yX9_power wsX9_power) := goodIn_app (goodIn_of _ (by decide +kernel)) ggX9_open_X9_power
theorem dX9_open_0 : decode cX9_open 0 = .ok (.iload_n 1, 1) := by decide +kernel
theorem dX9_open_1 : decode cX9_open 1 = .ok (.invokestatic 79, 3) := by decide +kernel
theorem dX9_open_4 : decode cX9_open 4 = .ok (.ifCond .ne 5, 3) := by decide +kernel
theorem dX9_open_7 : decode cX9_open 7 = .ok (.iconst (-1), 1) := by decide +kernel
theorem dX9_open_8 : decode cX9_open 8 = .ok (.ireturn, 1) := by decide +kernel
theorem dX9_open_9 : decode cX9_open 9 = .ok (.iload_n 2, 1) := by decide +kernel
theorem dX9_open_10 : decode cX9_open 10 = .ok (.invokestatic 90, 3) := by decide +kernel
theorem dX9_open_13 : decode cX9_open 13 = .ok (.ifCond .eq 15, 3) := by decide +kernel
theorem dX9_open_16 : decode cX9_open 16 = .ok (.iload_n 2, 1) := by decide +kernel
theorem dX9_open_17 : decode cX9_open 17 = .ok (.aload_n 0, 1) := by decide +kernel
theorem dX9_open_18 : decode cX9_open 18 = .ok (.iload_n 1, 1) := by decide +kernel
theorem dX9_open_19 : decode cX9_open 19 = .ok (.invokevirtual 82, 3) := by decide +kernel
theorem dX9_open_22 : decode cX9_open 22 = .ok (.invokestatic 61, 3) := by decide +kernel
theorem dX9_open_25 : decode cX9_open 25 = .ok (.goto 5, 3) := by decide +kernel
theorem dX9_open_28 : decode cX9_open 28 = .ok (.bipush (-2), 2) := by decide +kernel
theorem dX9_open_30 : decode cX9_open 30 = .ok (.ireturn, 1) := by decide +kernel
set_option maxRecDepth 20000 in
theorem ggX9_isSet_X9_in : GoodIn wsX9_isSet wsX9_in := goodIn_r _ [4] (by decide +kernel) (by decide +kernel)
set_option maxRecDepth 20000 in
theorem gX9_isSet_X9_in : GoodIn wsX9_isSet (va_wsS RX9 51 yX9_in wsX9_in) := goodIn_app (goodIn_of _ (by decide +kernel)) ggX9_isSet_X9_in
theorem dX9_isSet_0 : decode cX9_isSet 0 = .ok (.iload_n 0, 1) := by decide +kernel
theorem dX9_isSet_1 : decode cX9_isSet 1 = .ok (.iconst 2, 1) := by decide +kernel
theorem dX9_isSet_2 : decode cX9_isSet 2 = .ok (.bipush 62, 2) := by decide +kernel
theorem dX9_isSet_4 : decode cX9_isSet 4 = .ok (.invokestatic 51, 3) := by decide +kernel
theorem dX9_isSet_7 : decode cX9_isSet 7 = .ok (.ifCond .eq 13, 3) := by decide +kernel
theorem dX9_isSet_10 : decode cX9_isSet 10 = .ok (.iload_n 0, 1) := by decide +kernel
theorem dX9_isSet_11 : decode cX9_isSet 11 = .ok (.iconst 2, 1) := by decide +kernel
theorem dX9_isSet_12 : decode cX9_isSet 12 = .ok (.irem, 1) := by decide +kernel
theorem dX9_isSet_13 : decode cX9_isSet 13 = .ok (.ifCond .ne 7, 3) := by decide +kernel
theorem dX9_isSet_16 : decode cX9_isSet 16 = .ok (.iconst 1, 1) := by decide +kernel
theorem dX9_isSet_17 : decode cX9_isSet 17 = .ok (.goto 4, 3) := by decide +kernel
theorem dX9_isSet_20 : decode cX9_isSet 20 = .ok (.iconst 0, 1) := by decide +kernel
theorem dX9_isSet_21 : decode cX9_isSet 21 = .ok (.ireturn, 1) := by decide +kernel
set_option maxRecDepth 20000 in
theorem ggX9_weightOf_X9_raise : GoodIn wsX9_weightOf wsX9_raise := goodIn_r _ [5] (by decide +kernel) (by decide +kernel)
set_option maxRecDepth 20000 in
theorem gX9_weightOf_X9_raise : GoodIn wsX9_weightOf (va_wsS RX9 57 yX9_raise wsX9_raise) := goodIn_app (goodIn_of _ (by decide +kernel)) ggX9_weightOf_X9_raise
theorem dX9_weightOf_0 : decode cX9_weightOf 0 = .ok (.lconst 1, 1) := by decide +kernel
theorem dX9_weightOf_1 : decode cX9_weightOf 1 = .ok (.lstore_n 2, 1) := by decide +kernel
theorem dX9_weightOf_2 : decode cX9_weightOf 2 = .ok (.iconst 1, 1) := by decide +kernel
theorem dX9_weightOf_3 : decode cX9_weightOf 3 = .ok (.istore 4, 2) := by decide +kernel
theorem dX9_weightOf_5 : decode cX9_weightOf 5 = .ok (.iload 4, 2) := by decide +kernel
theorem dX9_weightOf_7 : decode cX9_weightOf 7 = .ok (.bipush 6, 2) := by decide +kernel
theorem dX9_weightOf_9 : decode cX9_weightOf 9 = .ok (.if_icmp .ge 58, 3) := by decide +kernel
theorem dX9_weightOf_12 : decode cX9_weightOf 12 = .ok (.iload 4, 2) := by decide +kernel
theorem dX9_weightOf_14 : decode cX9_weightOf 14 = .ok (.iload_n 0, 1) := by decide +kernel
theorem dX9_weightOf_15 : decode cX9_weightOf 15 = .ok (.if_icmp .eq 46, 3) := by decide +kernel
theorem dX9_weightOf_18 : decode cX9_weightOf 18 = .ok (.iload_n 1, 1) := by decide +kernel
theorem dX9_weightOf_19 : decode cX9_weightOf 19 = .ok (.iload 4, 2) := by decide +kernel
theorem dX9_weightOf_21 : decode cX9_weightOf 21 = .ok (.ishr, 1) := by decide +kernel
theorem dX9_weightOf_22 : decode cX9_weightOf 22 = .ok (.iconst 1, 1) := by decide +kernel
theorem dX9_weightOf_23 : decode cX9_weightOf 23 = .ok (.iand, 1) := by decide +kernel
theorem dX9_weightOf_24 : decode cX9_weightOf 24 = .ok (.iconst 1, 1) := by decide +kernel
theorem dX9_weightOf_25 : decode cX9_weightOf 25 = .ok (.if_icmp .ne 36, 3) := by decide +kernel
theorem dX9_weightOf_28 : decode cX9_weightOf 28 = .ok (.lload_n 2, 1) := by decide +kernel
theorem dX9_weightOf_29 : decode cX9_weightOf 29 = .ok (.iload 4, 2) := by decide +kernel
theorem dX9_weightOf_31 : decode cX9_weightOf 31 = .ok (.i2l, 1) := by decide +kernel
theorem dX9_weightOf_32 : decode cX9_weightOf 32 = .ok (.lmul, 1) := by decide +kernel
theorem dX9_weightOf_33 : decode cX9_weightOf 33 = .ok (.ldc2_w 97, 3) := by decide +kernel
theorem dX9_weightOf_36 : decode cX9_weightOf 36 = .ok (.lrem, 1) := by decide +kernel
theorem dX9_weightOf_37 : decode cX9_weightOf 37 = .ok (.iload 4, 2) := by decide +kernel
theorem dX9_weightOf_39 : decode cX9_weightOf 39 = .ok (.iload_n 0, 1) := by decide +kernel
theorem dX9_weightOf_40 : decode cX9_weightOf 40 = .ok (.isub, 1) := by decide +kernel
theorem dX9_weightOf_41 : decode cX9_weightOf 41 = .ok (.sipush 5003, 3) := by decide +kernel
theorem dX9_weightOf_44 : decode cX9_weightOf 44 = .ok (.iadd, 1) := by decide +kernel
theorem dX9_weightOf_45 : decode cX9_weightOf 45 = .ok (.i2l, 1) := by decide +kernel
theorem dX9_weightOf_46 : decode cX9_weightOf 46 = .ok (.sipush 5001, 3) := by decide +kernel
theorem dX9_weightOf_49 : decode cX9_weightOf 49 = .ok (.sipush 5003, 3) := by decide +kernel
theorem dX9_weightOf_52 : decode cX9_weightOf 52 = .ok (.invokestatic 57, 3) := by decide +kernel
theorem dX9_weightOf_55 : decode cX9_weightOf 55 = .ok (.lmul, 1) := by decide +kernel
theorem dX9_weightOf_56 : decode cX9_weightOf 56 = .ok (.ldc2_w 97, 3) := by decide +kernel
theorem dX9_weightOf_59 : decode cX9_weightOf 59 = .ok (.lrem, 1) := by decide +kernel
theorem dX9_weightOf_60 : decode cX9_weightOf 60 = .ok (.lstore_n 2, 1) := by decide +kernel
theorem dX9_weightOf_61 : decode cX9_weightOf 61 = .ok (.iinc 4 1, 3) := by decide +kernel
theorem dX9_weightOf_64 : decode cX9_weightOf 64 = .ok (.goto (-59), 3) := by decide +kernel
theorem dX9_weightOf_67 : decode cX9_weightOf 67 = .ok (.lload_n 2, 1) := by decide +kernel
theorem dX9_weightOf_68 : decode cX9_weightOf 68 = .ok (.l2i, 1) := by decide +kernel
theorem dX9_weightOf_69 : decode cX9_weightOf 69 = .ok (.ireturn, 1) := by decide +kernel
set_option maxRecDepth 20000 in
theorem ggX9_weight_X9_isHolder : GoodIn wsX9_weight wsX9_isHolder := goodIn_r _ [4, 5, 6, 3, 7] (by decide +kernel) (by decide +kernel)
set_option maxRecDepth 20000 in
theorem gX9_weight_X9_isHolder : GoodIn wsX9_weight (va_wsS RX9 79 yX9_isHolder wsX9_isHolder) := goodIn_app (goodIn_of _ (by decide +kernel)) ggX9_weight_X9_isHolder
set_option maxRecDepth 20000 in
theorem ggX9_weight_X9_isSet : GoodIn wsX9_weight wsX9_isSet := goodIn_r _ [10, 5, 6, 3, 7] (by decide +kernel) (by decide +kernel)
set_option maxRecDepth 20000 in
theorem gX9_weight_X9_isSet : GoodIn wsX9_weight (va_wsS RX9 99 yX9_isSet wsX9_isSet) := goodIn_app (goodIn_of _ (by decide +kernel)) ggX9_weight_X9_isSet
set_option maxRecDepth 20000 in
theorem ggX9_weight_X9_weightOf : GoodIn wsX9_weight wsX9_weightOf := goodIn_r _ [13, 14, 15, 16, 3, 17] (by decide +kernel) (by decide +kernel)
set_option maxRecDepth 20000 in
theorem gX9_weight_X9_weightOf : GoodIn wsX9_weight (va_wsS RX9 102 yX9_weightOf wsX9_weightOf) := goodIn_app (goodIn_of _ (by decide +kernel)) ggX9_weight_X9_weightOf
theorem dX9_weight_0 : decode cX9_weight 0 = .ok (.iload_n 1, 1) := by decide +kernel
theorem dX9_weight_1 : decode cX9_weight 1 = .ok (.invokestatic 79, 3) := by decide +kernel
theorem dX9_weight_4 : decode cX9_weight 4 = .ok (.ifCond .eq 11, 3) := by decide +kernel
theorem dX9_weight_7 : decode cX9_weight 7 = .ok (.iload_n 2, 1) := by decide +kernel
theorem dX9_weight_8 : decode cX9_weight 8 = .ok (.iload_n 1, 1) := by decide +kernel
theorem dX9_weight_9 : decode cX9_weight 9 = .ok (.ishr, 1) := by decide +kernel
theorem dX9_weight_10 : decode cX9_weight 10 = .ok (.iconst 1, 1) := by decide +kernel
theorem dX9_weight_11 : decode cX9_weight 11 = .ok (.iand, 1) := by decide +kernel
theorem dX9_weight_12 : decode cX9_weight 12 = .ok (.ifCond .ne 5, 3) := by decide +kernel
theorem dX9_weight_15 : decode cX9_weight 15 = .ok (.iconst (-1), 1) := by decide +kernel
theorem dX9_weight_16 : decode cX9_weight 16 = .ok (.ireturn, 1) := by decide +kernel
theorem dX9_weight_17 : decode cX9_weight 17 = .ok (.iload_n 2, 1) := by decide +kernel
theorem dX9_weight_18 : decode cX9_weight 18 = .ok (.invokestatic 99, 3) := by decide +kernel
theorem dX9_weight_21 : decode cX9_weight 21 = .ok (.ifCond .eq 11, 3) := by decide +kernel
theorem dX9_weight_24 : decode cX9_weight 24 = .ok (.iload_n 1, 1) := by decide +kernel
theorem dX9_weight_25 : decode cX9_weight 25 = .ok (.iload_n 2, 1) := by decide +kernel
theorem dX9_weight_26 : decode cX9_weight 26 = .ok (.invokestatic 102, 3) := by decide +kernel
theorem dX9_weight_29 : decode cX9_weight 29 = .ok (.goto 5, 3) := by decide +kernel
theorem dX9_weight_32 : decode cX9_weight 32 = .ok (.bipush (-2), 2) := by decide +kernel
theorem dX9_weight_34 : decode cX9_weight 34 = .ok (.ireturn, 1) := by decide +kernel
set_option maxRecDepth 20000 in
theorem ggX9_opened_X9_isNumber : GoodIn wsX9_opened wsX9_isNumber := goodIn_r _ [5, 6, 7, 4, 8] (by decide +kernel) (by decide +kernel)
set_option maxRecDepth 20000 in
theorem gX9_opened_X9_isNumber : GoodIn wsX9_opened (va_wsS RX9 90 yX9_isNumber wsX9_isNumber) := goodIn_app (goodIn_of _ (by decide +kernel)) ggX9_opened_X9_isNumber
set_option maxRecDepth 20000 in
theorem ggX9_opened_X9_isSet : GoodIn wsX9_opened wsX9_isSet := goodIn_r _ [11, 6, 7, 4, 8] (by decide +kernel) (by decide +kernel)
set_option maxRecDepth 20000 in
theorem gX9_opened_X9_isSet : GoodIn wsX9_opened (va_wsS RX9 99 yX9_isSet wsX9_isSet) := goodIn_app (goodIn_of _ (by decide +kernel)) ggX9_opened_X9_isSet
set_option maxRecDepth 20000 in
theorem ggX9_opened_X9_in : GoodIn wsX9_opened wsX9_in := goodIn_r _ [8] (by decide +kernel) (by decide +kernel)
set_option maxRecDepth 20000 in
theorem gX9_opened_X9_in : GoodIn wsX9_opened (va_wsS RX9 51 yX9_in wsX9_in) := goodIn_app (goodIn_of _ (by decide +kernel)) ggX9_opened_X9_in
set_option maxRecDepth 20000 in
theorem ggX9_opened_X9_partOf : GoodIn wsX9_opened wsX9_partOf := goodIn_r _ [15, 16, 34, 35, 36, 37, 38, 39, 40, 41, 42, 43, 44, 45, 46, 47, 48, 49, 50, 51] (by decide +kernel) (by decide +kernel)
set_option maxRecDepth 20000 in
theorem gX9_opened_X9_partOf : GoodIn wsX9_opened (wsV RX9 82 RX9 yX9_partOf wsX9_partOf) := goodIn_app (goodIn_of _ (by decide +kernel)) ggX9_opened_X9_partOf
set_option maxRecDepth 20000 in
theorem ggX9_opened_X9_power : GoodIn wsX9_opened wsX9_power := goodIn_r _ [19, 20, 21, 4, 22] (by decide +kernel) (by decide +kernel)
set_option maxRecDepth 20000 in
theorem gX9_opened_X9_power : GoodIn wsX9_opened (va_wsS RX9 61 yX9_power wsX9_power) := goodIn_app (goodIn_of _ (by decide +kernel)) ggX9_opened_X9_power
set_option maxRecDepth 20000 in
theorem ggX9_opened_X9_weightOf : GoodIn wsX9_opened wsX9_weightOf := goodIn_r _ [25, 26, 20, 21, 4, 22] (by decide +kernel) (by decide +kernel)
set_option maxRecDepth 20000 in
theorem gX9_opened_X9_weightOf : GoodIn wsX9_opened (va_wsS RX9 102 yX9_weightOf wsX9_weightOf) := goodIn_app (goodIn_of _ (by decide +kernel)) ggX9_opened_X9_weightOf
set_option maxRecDepth 20000 in
theorem ggX9_opened_X9_times : GoodIn wsX9_opened wsX9_times := goodIn_r _ [29, 30] (by decide +kernel) (by decide +kernel)
set_option maxRecDepth 20000 in
theorem gX9_opened_X9_times : GoodIn wsX9_opened (va_wsS RX9 65 yX9_times wsX9_times) := goodIn_app (goodIn_of _ (by decide +kernel)) ggX9_opened_X9_times
set_option maxRecDepth 20000 in
theorem ggX9_opened_X9_by : GoodIn wsX9_opened wsX9_by := goodIn_r _ [33, 17, 18, 4, 19, 20, 21, 22, 27, 28, 29, 30] (by decide +kernel) (by decide +kernel)
set_option maxRecDepth 20000 in
theorem gX9_opened_X9_by : GoodIn wsX9_opened (va_wsS RX9 105 yX9_by wsX9_by) := goodIn_app (goodIn_of _ (by decide +kernel)) ggX9_opened_X9_by
theorem dX9_opened_0 : decode cX9_opened 0 = .ok (.iload_n 1, 1) := by decide +kernel
theorem dX9_opened_1 : decode cX9_opened 1 = .ok (.invokestatic 90, 3) := by decide +kernel
theorem dX9_opened_4 : decode cX9_opened 4 = .ok (.ifCond .eq 27, 3) := by decide +kernel
theorem dX9_opened_7 : decode cX9_opened 7 = .ok (.iload_n 2, 1) := by decide +kernel
theorem dX9_opened_8 : decode cX9_opened 8 = .ok (.invokestatic 90, 3) := by decide +kernel
theorem dX9_opened_11 : decode cX9_opened 11 = .ok (.ifCond .eq 20, 3) := by decide +kernel
theorem dX9_opened_14 : decode cX9_opened 14 = .ok (.iload_n 3, 1) := by decide +kernel
theorem dX9_opened_15 : decode cX9_opened 15 = .ok (.invokestatic 99, 3) := by decide +kernel
theorem dX9_opened_18 : decode cX9_opened 18 = .ok (.ifCond .eq 13, 3) := by decide +kernel
theorem dX9_opened_21 : decode cX9_opened 21 = .ok (.iload 4, 2) := by decide +kernel
theorem dX9_opened_23 : decode cX9_opened 23 = .ok (.iconst 0, 1) := by decide +kernel
theorem dX9_opened_24 : decode cX9_opened 24 = .ok (.iconst 1, 1) := by decide +kernel
theorem dX9_opened_25 : decode cX9_opened 25 = .ok (.invokestatic 51, 3) := by decide +kernel
theorem dX9_opened_28 : decode cX9_opened 28 = .ok (.ifCond .ne 6, 3) := by decide +kernel
theorem dX9_opened_31 : decode cX9_opened 31 = .ok (.bipush (-2), 2) := by decide +kernel
theorem dX9_opened_33 : decode cX9_opened 33 = .ok (.ireturn, 1) := by decide +kernel
theorem dX9_opened_34 : decode cX9_opened 34 = .ok (.iconst 0, 1) := by decide +kernel
theorem dX9_opened_35 : decode cX9_opened 35 = .ok (.istore 5, 2) := by decide +kernel
theorem dX9_opened_37 : decode cX9_opened 37 = .ok (.iconst 1, 1) := by decide +kernel
theorem dX9_opened_38 : decode cX9_opened 38 = .ok (.istore 6, 2) := by decide +kernel
theorem dX9_opened_40 : decode cX9_opened 40 = .ok (.iconst 1, 1) := by decide +kernel
theorem dX9_opened_41 : decode cX9_opened 41 = .ok (.istore 7, 2) := by decide +kernel
theorem dX9_opened_43 : decode cX9_opened 43 = .ok (.iload 7, 2) := by decide +kernel
theorem dX9_opened_45 : decode cX9_opened 45 = .ok (.bipush 6, 2) := by decide +kernel
theorem dX9_opened_47 : decode cX9_opened 47 = .ok (.if_icmp .ge 48, 3) := by decide +kernel
theorem dX9_opened_50 : decode cX9_opened 50 = .ok (.iload_n 3, 1) := by decide +kernel
theorem dX9_opened_51 : decode cX9_opened 51 = .ok (.iload 7, 2) := by decide +kernel
theorem dX9_opened_53 : decode cX9_opened 53 = .ok (.ishr, 1) := by decide +kernel
theorem dX9_opened_54 : decode cX9_opened 54 = .ok (.iconst 1, 1) := by decide +kernel
theorem dX9_opened_55 : decode cX9_opened 55 = .ok (.iand, 1) := by decide +kernel
theorem dX9_opened_56 : decode cX9_opened 56 = .ok (.iconst 1, 1) := by decide +kernel
theorem dX9_opened_57 : decode cX9_opened 57 = .ok (.if_icmp .ne 32, 3) := by decide +kernel
theorem dX9_opened_60 : decode cX9_opened 60 = .ok (.iinc 5 1, 3) := by decide +kernel
theorem dX9_opened_63 : decode cX9_opened 63 = .ok (.iload 6, 2) := by decide +kernel
theorem dX9_opened_65 : decode cX9_opened 65 = .ok (.iload_n 1, 1) := by decide +kernel
theorem dX9_opened_66 : decode cX9_opened 66 = .ok (.aload_n 0, 1) := by decide +kernel
theorem dX9_opened_67 : decode cX9_opened 67 = .ok (.iload 7, 2) := by decide +kernel
theorem dX9_opened_69 : decode cX9_opened 69 = .ok (.invokevirtual 82, 3) := by decide +kernel
theorem dX9_opened_72 : decode cX9_opened 72 = .ok (.invokestatic 61, 3) := by decide +kernel
theorem dX9_opened_75 : decode cX9_opened 75 = .ok (.iload 7, 2) := by decide +kernel
theorem dX9_opened_77 : decode cX9_opened 77 = .ok (.iload_n 3, 1) := by decide +kernel
theorem dX9_opened_78 : decode cX9_opened 78 = .ok (.invokestatic 102, 3) := by decide +kernel
theorem dX9_opened_81 : decode cX9_opened 81 = .ok (.invokestatic 61, 3) := by decide +kernel
theorem dX9_opened_84 : decode cX9_opened 84 = .ok (.invokestatic 65, 3) := by decide +kernel
theorem dX9_opened_87 : decode cX9_opened 87 = .ok (.istore 6, 2) := by decide +kernel
theorem dX9_opened_89 : decode cX9_opened 89 = .ok (.iinc 7 1, 3) := by decide +kernel
theorem dX9_opened_92 : decode cX9_opened 92 = .ok (.goto (-49), 3) := by decide +kernel
theorem dX9_opened_95 : decode cX9_opened 95 = .ok (.iload 5, 2) := by decide +kernel
theorem dX9_opened_97 : decode cX9_opened 97 = .ok (.aload_n 0, 1) := by decide +kernel
theorem dX9_opened_98 : decode cX9_opened 98 = .ok (.getfield 7, 3) := by decide +kernel
theorem dX9_opened_101 : decode cX9_opened 101 = .ok (.if_icmp .ge 6, 3) := by decide +kernel
theorem dX9_opened_104 : decode cX9_opened 104 = .ok (.bipush (-5), 2) := by decide +kernel
theorem dX9_opened_106 : decode cX9_opened 106 = .ok (.ireturn, 1) := by decide +kernel
theorem dX9_opened_107 : decode cX9_opened 107 = .ok (.iload_n 2, 1) := by decide +kernel
theorem dX9_opened_108 : decode cX9_opened 108 = .ok (.iload 6, 2) := by decide +kernel
theorem dX9_opened_110 : decode cX9_opened 110 = .ok (.invokestatic 105, 3) := by decide +kernel
theorem dX9_opened_113 : decode cX9_opened 113 = .ok (.istore 7, 2) := by decide +kernel
theorem dX9_opened_115 : decode cX9_opened 115 = .ok (.iload 4, 2) := by decide +kernel
theorem dX9_opened_117 : decode cX9_opened 117 = .ok (.ifCond .ne 6, 3) := by decide +kernel
theorem dX9_opened_120 : decode cX9_opened 120 = .ok (.iload 7, 2) := by decide +kernel
theorem dX9_opened_122 : decode cX9_opened 122 = .ok (.ireturn, 1) := by decide +kernel
theorem dX9_opened_123 : decode cX9_opened 123 = .ok (.iconst 0, 1) := by decide +kernel
theorem dX9_opened_124 : decode cX9_opened 124 = .ok (.istore 8, 2) := by decide +kernel
theorem dX9_opened_126 : decode cX9_opened 126 = .ok (.iconst 1, 1) := by decide +kernel
theorem dX9_opened_127 : decode cX9_opened 127 = .ok (.istore 9, 2) := by decide +kernel
theorem dX9_opened_129 : decode cX9_opened 129 = .ok (.iload 8, 2) := by decide +kernel
theorem dX9_opened_131 : decode cX9_opened 131 = .ok (.sipush 200, 3) := by decide +kernel
theorem dX9_opened_134 : decode cX9_opened 134 = .ok (.if_icmp .gt 24, 3) := by decide +kernel
theorem dX9_opened_137 : decode cX9_opened 137 = .ok (.iload 9, 2) := by decide +kernel
theorem dX9_opened_139 : decode cX9_opened 139 = .ok (.iload 7, 2) := by decide +kernel
theorem dX9_opened_141 : decode cX9_opened 141 = .ok (.if_icmp .eq 17, 3) := by decide +kernel
theorem dX9_opened_144 : decode cX9_opened 144 = .ok (.iload 9, 2) := by decide +kernel
theorem dX9_opened_146 : decode cX9_opened 146 = .ok (.iconst 4, 1) := by decide +kernel
theorem dX9_opened_147 : decode cX9_opened 147 = .ok (.invokestatic 65, 3) := by decide +kernel
theorem dX9_opened_150 : decode cX9_opened 150 = .ok (.istore 9, 2) := by decide +kernel
theorem dX9_opened_152 : decode cX9_opened 152 = .ok (.iinc 8 1, 3) := by decide +kernel
theorem dX9_opened_155 : decode cX9_opened 155 = .ok (.goto (-26), 3) := by decide +kernel
theorem dX9_opened_158 : decode cX9_opened 158 = .ok (.iload 8, 2) := by decide +kernel
theorem dX9_opened_160 : decode cX9_opened 160 = .ok (.sipush 200, 3) := by decide +kernel
theorem dX9_opened_163 : decode cX9_opened 163 = .ok (.if_icmp .gt 8, 3) := by decide +kernel
theorem dX9_opened_166 : decode cX9_opened 166 = .ok (.iload 8, 2) := by decide +kernel
theorem dX9_opened_168 : decode cX9_opened 168 = .ok (.goto 5, 3) := by decide +kernel
theorem dX9_opened_171 : decode cX9_opened 171 = .ok (.bipush (-6), 2) := by decide +kernel
theorem dX9_opened_173 : decode cX9_opened 173 = .ok (.ireturn, 1) := by decide +kernel
theorem dX9_mix_0 : decode cX9_mix 0 = .ok (.aload_n 0, 1) := by decide +kernel
theorem dX9_mix_1 : decode cX9_mix 1 = .ok (.aload_n 0, 1) := by decide +kernel
theorem dX9_mix_2 : decode cX9_mix 2 = .ok (.getfield 108, 3) := by decide +kernel
theorem dX9_mix_5 : decode cX9_mix 5 = .ok (.i2l, 1) := by decide +kernel
theorem dX9_mix_6 : decode cX9_mix 6 = .ok (.ldc2_w 111, 3) := by decide +kernel
theorem dX9_mix_9 : decode cX9_mix 9 = .ok (.lmul, 1) := by decide +kernel
theorem dX9_mix_10 : decode cX9_mix 10 = .ok (.iload_n 1, 1) := by decide +kernel
theorem dX9_mix_11 : decode cX9_mix 11 = .ok (.i2l, 1) := by decide +kernel
theorem dX9_mix_12 : decode cX9_mix 12 = .ok (.ladd, 1) := by decide +kernel
theorem dX9_mix_13 : decode cX9_mix 13 = .ok (.ldc2_w 97, 3) := by decide +kernel
theorem dX9_mix_16 : decode cX9_mix 16 = .ok (.lrem, 1) := by decide +kernel
theorem dX9_mix_17 : decode cX9_mix 17 = .ok (.l2i, 1) := by decide +kernel
theorem dX9_mix_18 : decode cX9_mix 18 = .ok (.putfield 108, 3) := by decide +kernel
theorem dX9_mix_21 : decode cX9_mix 21 = .ok (.return_, 1) := by decide +kernel
set_option maxRecDepth 20000 in
theorem ggX9_sOf_X9_power : GoodIn wsX9_sOf wsX9_power := goodIn_r _ [4, 5, 6, 3, 7] (by decide +kernel) (by decide +kernel)
set_option maxRecDepth 20000 in
theorem gX9_sOf_X9_power : GoodIn wsX9_sOf (va_wsS RX9 61 yX9_power wsX9_power) := goodIn_app (goodIn_of _ (by decide +kernel)) ggX9_sOf_X9_power
set_option maxRecDepth 20000 in
theorem ggX9_sOf_X9_by : GoodIn wsX9_sOf wsX9_by := goodIn_r _ [10, 1, 2, 3, 4, 5, 6, 7, 11, 12, 13, 14] (by decide +kernel) (by decide +kernel)
set_option maxRecDepth 20000 in
theorem gX9_sOf_X9_by : GoodIn wsX9_sOf (va_wsS RX9 105 yX9_by wsX9_by) := goodIn_app (goodIn_of _ (by decide +kernel)) ggX9_sOf_X9_by
theorem dX9_sOf_0 : decode cX9_sOf 0 = .ok (.iconst 4, 1) := by decide +kernel
theorem dX9_sOf_1 : decode cX9_sOf 1 = .ok (.iload_n 2, 1) := by decide +kernel
theorem dX9_sOf_2 : decode cX9_sOf 2 = .ok (.invokestatic 61, 3) := by decide +kernel
theorem dX9_sOf_5 : decode cX9_sOf 5 = .ok (.iload_n 0, 1) := by decide +kernel
theorem dX9_sOf_6 : decode cX9_sOf 6 = .ok (.iload_n 1, 1) := by decide +kernel
theorem dX9_sOf_7 : decode cX9_sOf 7 = .ok (.invokestatic 61, 3) := by decide +kernel
theorem dX9_sOf_10 : decode cX9_sOf 10 = .ok (.invokestatic 105, 3) := by decide +kernel
theorem dX9_sOf_13 : decode cX9_sOf 13 = .ok (.ireturn, 1) := by decide +kernel
set_option maxRecDepth 20000 in
theorem ggX9_tOf_X9_h : GoodIn wsX9_tOf wsX9_h := goodIn_r _ [5, 6, 7, 8, 4, 9, 10, 11, 12, 20, 21, 22, 23, 24, 25, 26, 27, 28, 29, 30, 31, 32, 33, 34, 35, 36, 37] (by decide +kernel) (by decide +kernel)
set_option maxRecDepth 20000 in
theorem gX9_tOf_X9_h : GoodIn wsX9_tOf (wsV RX9 75 RX9 yX9_h wsX9_h) := goodIn_app (goodIn_of _ (by decide +kernel)) ggX9_tOf_X9_h
set_option maxRecDepth 20000 in
theorem ggX9_tOf_X9_power : GoodIn wsX9_tOf wsX9_power := goodIn_r _ [9, 10, 11, 4, 12] (by decide +kernel) (by decide +kernel)
set_option maxRecDepth 20000 in
theorem gX9_tOf_X9_power : GoodIn wsX9_tOf (va_wsS RX9 61 yX9_power wsX9_power) := goodIn_app (goodIn_of _ (by decide +kernel)) ggX9_tOf_X9_power
set_option maxRecDepth 20000 in
theorem ggX9_tOf_X9_by : GoodIn wsX9_tOf wsX9_by := goodIn_r _ [15, 7, 8, 4, 9, 10, 11, 12, 16, 17, 18, 19] (by decide +kernel) (by decide +kernel)
set_option maxRecDepth 20000 in
theorem gX9_tOf_X9_by : GoodIn wsX9_tOf (va_wsS RX9 105 yX9_by wsX9_by) := goodIn_app (goodIn_of _ (by decide +kernel)) ggX9_tOf_X9_by
theorem dX9_tOf_0 : decode cX9_tOf 0 = .ok (.aload_n 0, 1) := by decide +kernel
theorem dX9_tOf_1 : decode cX9_tOf 1 = .ok (.invokevirtual 75, 3) := by decide +kernel
theorem dX9_tOf_4 : decode cX9_tOf 4 = .ok (.iload 4, 2) := by decide +kernel
theorem dX9_tOf_6 : decode cX9_tOf 6 = .ok (.invokestatic 61, 3) := by decide +kernel
theorem dX9_tOf_9 : decode cX9_tOf 9 = .ok (.iload_n 1, 1) := by decide +kernel
theorem dX9_tOf_10 : decode cX9_tOf 10 = .ok (.iconst 4, 1) := by decide +kernel
theorem dX9_tOf_11 : decode cX9_tOf 11 = .ok (.iload_n 2, 1) := by decide +kernel
theorem dX9_tOf_12 : decode cX9_tOf 12 = .ok (.invokestatic 61, 3) := by decide +kernel
theorem dX9_tOf_15 : decode cX9_tOf 15 = .ok (.invokestatic 105, 3) := by decide +kernel
theorem dX9_tOf_18 : decode cX9_tOf 18 = .ok (.iload_n 3, 1) := by decide +kernel
theorem dX9_tOf_19 : decode cX9_tOf 19 = .ok (.invokestatic 61, 3) := by decide +kernel
theorem dX9_tOf_22 : decode cX9_tOf 22 = .ok (.invokestatic 105, 3) := by decide +kernel
theorem dX9_tOf_25 : decode cX9_tOf 25 = .ok (.ireturn, 1) := by decide +kernel
set_option maxRecDepth 20000 in
theorem ggX9_prove_X9_in : GoodIn wsX9_prove wsX9_in := goodIn_r _ [4] (by decide +kernel) (by decide +kernel)
set_option maxRecDepth 20000 in
theorem gX9_prove_X9_in : GoodIn wsX9_prove (va_wsS RX9 51 yX9_in wsX9_in) := goodIn_app (goodIn_of _ (by decide +kernel)) ggX9_prove_X9_in
set_option maxRecDepth 20000 in
theorem ggX9_prove_X9_isPower : GoodIn wsX9_prove wsX9_isPower := goodIn_r _ [7, 1, 2, 3, 4] (by decide +kernel) (by decide +kernel)
set_option maxRecDepth 20000 in
theorem gX9_prove_X9_isPower : GoodIn wsX9_prove (va_wsS RX9 68 yX9_isPower wsX9_isPower) := goodIn_app (goodIn_of _ (by decide +kernel)) ggX9_prove_X9_isPower
set_option maxRecDepth 20000 in
theorem ggX9_prove_X9_proved : GoodIn wsX9_prove wsX9_proved := goodIn_r _ [11, 12, 13, 14, 15, 16, 3, 17, 18, 19, 20, 21, 22, 23, 24, 25, 26, 27, 28, 29, 30, 31, 32, 33, 34, 35, 36, 37, 38, 39, 40, 41, 42, 43, 44, 45, 46, 47, 48, 49, 50, 51, 52, 53, 54, 55, 56, 57, 58, 59, 60, 61, 62, 63, 64, 65] (by decide +kernel) (by decide +kernel)
set_option maxRecDepth 20000 in
theorem gX9_prove_X9_proved : GoodIn wsX9_prove (wsV RX9 113 RX9 yX9_proved wsX9_proved) := goodIn_app (goodIn_of _ (by decide +kernel)) ggX9_prove_X9_proved
theorem dX9_prove_0 : decode cX9_prove 0 = .ok (.iload_n 1, 1) := by decide +kernel
theorem dX9_prove_1 : decode cX9_prove 1 = .ok (.iconst 0, 1) := by decide +kernel
theorem dX9_prove_2 : decode cX9_prove 2 = .ok (.iconst 1, 1) := by decide +kernel
theorem dX9_prove_3 : decode cX9_prove 3 = .ok (.invokestatic 51, 3) := by decide +kernel
theorem dX9_prove_6 : decode cX9_prove 6 = .ok (.ifCond .eq 43, 3) := by decide +kernel
theorem dX9_prove_9 : decode cX9_prove 9 = .ok (.iload_n 2, 1) := by decide +kernel
theorem dX9_prove_10 : decode cX9_prove 10 = .ok (.invokestatic 68, 3) := by decide +kernel
theorem dX9_prove_13 : decode cX9_prove 13 = .ok (.ifCond .eq 36, 3) := by decide +kernel
theorem dX9_prove_16 : decode cX9_prove 16 = .ok (.iload_n 3, 1) := by decide +kernel
theorem dX9_prove_17 : decode cX9_prove 17 = .ok (.invokestatic 68, 3) := by decide +kernel
theorem dX9_prove_20 : decode cX9_prove 20 = .ok (.ifCond .eq 29, 3) := by decide +kernel
theorem dX9_prove_23 : decode cX9_prove 23 = .ok (.iload 4, 2) := by decide +kernel
theorem dX9_prove_25 : decode cX9_prove 25 = .ok (.invokestatic 68, 3) := by decide +kernel
theorem dX9_prove_28 : decode cX9_prove 28 = .ok (.ifCond .eq 21, 3) := by decide +kernel
theorem dX9_prove_31 : decode cX9_prove 31 = .ok (.iload 5, 2) := by decide +kernel
theorem dX9_prove_33 : decode cX9_prove 33 = .ok (.invokestatic 68, 3) := by decide +kernel
theorem dX9_prove_36 : decode cX9_prove 36 = .ok (.ifCond .eq 13, 3) := by decide +kernel
theorem dX9_prove_39 : decode cX9_prove 39 = .ok (.iload 6, 2) := by decide +kernel
theorem dX9_prove_41 : decode cX9_prove 41 = .ok (.iconst 0, 1) := by decide +kernel
theorem dX9_prove_42 : decode cX9_prove 42 = .ok (.iconst 3, 1) := by decide +kernel
theorem dX9_prove_43 : decode cX9_prove 43 = .ok (.invokestatic 51, 3) := by decide +kernel
theorem dX9_prove_46 : decode cX9_prove 46 = .ok (.ifCond .ne 6, 3) := by decide +kernel
theorem dX9_prove_49 : decode cX9_prove 49 = .ok (.bipush (-2), 2) := by decide +kernel
theorem dX9_prove_51 : decode cX9_prove 51 = .ok (.ireturn, 1) := by decide +kernel
theorem dX9_prove_52 : decode cX9_prove 52 = .ok (.aload_n 0, 1) := by decide +kernel
theorem dX9_prove_53 : decode cX9_prove 53 = .ok (.iload_n 1, 1) := by decide +kernel
theorem dX9_prove_54 : decode cX9_prove 54 = .ok (.iload_n 2, 1) := by decide +kernel
theorem dX9_prove_55 : decode cX9_prove 55 = .ok (.iload_n 3, 1) := by decide +kernel
theorem dX9_prove_56 : decode cX9_prove 56 = .ok (.iload 4, 2) := by decide +kernel
theorem dX9_prove_58 : decode cX9_prove 58 = .ok (.iload 5, 2) := by decide +kernel
theorem dX9_prove_60 : decode cX9_prove 60 = .ok (.iload 6, 2) := by decide +kernel
theorem dX9_prove_62 : decode cX9_prove 62 = .ok (.invokevirtual 113, 3) := by decide +kernel
theorem dX9_prove_65 : decode cX9_prove 65 = .ok (.ireturn, 1) := by decide +kernel
set_option maxRecDepth 20000 in
theorem ggX9_proved_X9_sealOf : GoodIn wsX9_proved wsX9_sealOf := goodIn_r _ [7, 8, 9, 6, 10, 11, 12, 13, 14, 15, 16, 17, 18, 19, 20, 21, 22, 38, 39, 40, 41, 42, 43, 44, 45, 46, 47, 48, 49, 50, 51, 52, 53, 54, 55] (by decide +kernel) (by decide +kernel)
set_option maxRecDepth 20000 in
theorem gX9_proved_X9_sealOf : GoodIn wsX9_proved (wsV RX9 86 RX9 yX9_sealOf wsX9_sealOf) := goodIn_app (goodIn_of _ (by decide +kernel)) ggX9_proved_X9_sealOf
set_option maxRecDepth 20000 in
theorem ggX9_proved_X9_mix : GoodIn wsX9_proved wsX9_mix := goodIn_r _ [26, 1, 27, 2, 38, 39, 40, 41, 42, 43, 44, 45, 46, 47, 48, 49, 50, 51, 52, 53, 54, 55] (by decide +kernel) (by decide +kernel)
set_option maxRecDepth 20000 in
theorem gX9_proved_X9_mix : GoodIn wsX9_proved (wsV RX9 117 RX9 yX9_mix wsX9_mix) := goodIn_app (goodIn_of _ (by decide +kernel)) ggX9_proved_X9_mix
set_option maxRecDepth 20000 in
theorem ggX9_proved_X9_power : GoodIn wsX9_proved wsX9_power := goodIn_r _ [10, 11, 12, 6, 13] (by decide +kernel) (by decide +kernel)
set_option maxRecDepth 20000 in
theorem gX9_proved_X9_power : GoodIn wsX9_proved (va_wsS RX9 61 yX9_power wsX9_power) := goodIn_app (goodIn_of _ (by decide +kernel)) ggX9_proved_X9_power
set_option maxRecDepth 20000 in
theorem ggX9_proved_X9_sOf : GoodIn wsX9_proved wsX9_sOf := goodIn_r _ [30, 8, 9, 6, 10, 11, 12, 13, 31, 32, 33, 19, 20, 21, 22] (by decide +kernel) (by decide +kernel)
set_option maxRecDepth 20000 in
theorem gX9_proved_X9_sOf : GoodIn wsX9_proved (va_wsS RX9 121 yX9_sOf wsX9_sOf) := goodIn_app (goodIn_of _ (by decide +kernel)) ggX9_proved_X9_sOf
set_option maxRecDepth 20000 in
theorem ggX9_proved_X9_h : GoodIn wsX9_proved wsX9_h := goodIn_r _ [17, 18, 8, 9, 6, 10, 11, 12, 13, 38, 39, 40, 41, 42, 43, 44, 45, 46, 47, 48, 49, 50, 51, 52, 53, 54, 55] (by decide +kernel) (by decide +kernel)
set_option maxRecDepth 20000 in
theorem gX9_proved_X9_h : GoodIn wsX9_proved (wsV RX9 75 RX9 yX9_h wsX9_h) := goodIn_app (goodIn_of _ (by decide +kernel)) ggX9_proved_X9_h
set_option maxRecDepth 20000 in
theorem ggX9_proved_X9_tOf : GoodIn wsX9_proved wsX9_tOf := goodIn_r _ [37, 14, 15, 16, 6, 17, 18, 8, 9, 10, 11, 12, 13, 31, 32, 33, 19, 20, 21, 22, 38, 39, 40, 41, 42, 43, 44, 45, 46, 47, 48, 49, 50, 51, 52, 53, 54, 55] (by decide +kernel) (by decide +kernel)
set_option maxRecDepth 20000 in
theorem gX9_proved_X9_tOf : GoodIn wsX9_proved (wsV RX9 124 RX9 yX9_tOf wsX9_tOf) := goodIn_app (goodIn_of _ (by decide +kernel)) ggX9_proved_X9_tOf
theorem dX9_proved_0 : decode cX9_proved 0 = .ok (.aload_n 0, 1) := by decide +kernel
theorem dX9_proved_1 : decode cX9_proved 1 = .ok (.iload_n 1, 1) := by decide +kernel
theorem dX9_proved_2 : decode cX9_proved 2 = .ok (.iload_n 2, 1) := by decide +kernel
theorem dX9_proved_3 : decode cX9_proved 3 = .ok (.iconst 0, 1) := by decide +kernel
theorem dX9_proved_4 : decode cX9_proved 4 = .ok (.invokevirtual 86, 3) := by decide +kernel
theorem dX9_proved_7 : decode cX9_proved 7 = .ok (.istore 7, 2) := by decide +kernel
theorem dX9_proved_9 : decode cX9_proved 9 = .ok (.aload_n 0, 1) := by decide +kernel
theorem dX9_proved_10 : decode cX9_proved 10 = .ok (.iload_n 1, 1) := by decide +kernel
theorem dX9_proved_11 : decode cX9_proved 11 = .ok (.iload_n 2, 1) := by decide +kernel
theorem dX9_proved_12 : decode cX9_proved 12 = .ok (.iconst 1, 1) := by decide +kernel
theorem dX9_proved_13 : decode cX9_proved 13 = .ok (.invokevirtual 86, 3) := by decide +kernel
theorem dX9_proved_16 : decode cX9_proved 16 = .ok (.istore 8, 2) := by decide +kernel
theorem dX9_proved_18 : decode cX9_proved 18 = .ok (.aload_n 0, 1) := by decide +kernel
theorem dX9_proved_19 : decode cX9_proved 19 = .ok (.iconst 1, 1) := by decide +kernel
theorem dX9_proved_20 : decode cX9_proved 20 = .ok (.putfield 108, 3) := by decide +kernel
theorem dX9_proved_23 : decode cX9_proved 23 = .ok (.aload_n 0, 1) := by decide +kernel
theorem dX9_proved_24 : decode cX9_proved 24 = .ok (.iload 7, 2) := by decide +kernel
theorem dX9_proved_26 : decode cX9_proved 26 = .ok (.invokevirtual 117, 3) := by decide +kernel
theorem dX9_proved_29 : decode cX9_proved 29 = .ok (.aload_n 0, 1) := by decide +kernel
theorem dX9_proved_30 : decode cX9_proved 30 = .ok (.iload 8, 2) := by decide +kernel
theorem dX9_proved_32 : decode cX9_proved 32 = .ok (.invokevirtual 117, 3) := by decide +kernel
theorem dX9_proved_35 : decode cX9_proved 35 = .ok (.iconst 0, 1) := by decide +kernel
theorem dX9_proved_36 : decode cX9_proved 36 = .ok (.istore 9, 2) := by decide +kernel
theorem dX9_proved_38 : decode cX9_proved 38 = .ok (.iload 9, 2) := by decide +kernel
theorem dX9_proved_40 : decode cX9_proved 40 = .ok (.iconst 2, 1) := by decide +kernel
theorem dX9_proved_41 : decode cX9_proved 41 = .ok (.if_icmp .ge 69, 3) := by decide +kernel
theorem dX9_proved_44 : decode cX9_proved 44 = .ok (.aload_n 0, 1) := by decide +kernel
theorem dX9_proved_45 : decode cX9_proved 45 = .ok (.iload 9, 2) := by decide +kernel
theorem dX9_proved_47 : decode cX9_proved 47 = .ok (.iload_n 1, 1) := by decide +kernel
theorem dX9_proved_48 : decode cX9_proved 48 = .ok (.if_icmp .ne 11, 3) := by decide +kernel
theorem dX9_proved_51 : decode cX9_proved 51 = .ok (.iconst 4, 1) := by decide +kernel
theorem dX9_proved_52 : decode cX9_proved 52 = .ok (.iload_n 3, 1) := by decide +kernel
theorem dX9_proved_53 : decode cX9_proved 53 = .ok (.invokestatic 61, 3) := by decide +kernel
theorem dX9_proved_56 : decode cX9_proved 56 = .ok (.goto 12, 3) := by decide +kernel
theorem dX9_proved_59 : decode cX9_proved 59 = .ok (.iload 7, 2) := by decide +kernel
theorem dX9_proved_61 : decode cX9_proved 61 = .ok (.iload 4, 2) := by decide +kernel
theorem dX9_proved_63 : decode cX9_proved 63 = .ok (.iload 5, 2) := by decide +kernel
theorem dX9_proved_65 : decode cX9_proved 65 = .ok (.invokestatic 121, 3) := by decide +kernel
theorem dX9_proved_68 : decode cX9_proved 68 = .ok (.invokevirtual 117, 3) := by decide +kernel
theorem dX9_proved_71 : decode cX9_proved 71 = .ok (.aload_n 0, 1) := by decide +kernel
theorem dX9_proved_72 : decode cX9_proved 72 = .ok (.iload 9, 2) := by decide +kernel
theorem dX9_proved_74 : decode cX9_proved 74 = .ok (.iload_n 1, 1) := by decide +kernel
theorem dX9_proved_75 : decode cX9_proved 75 = .ok (.if_icmp .ne 14, 3) := by decide +kernel
theorem dX9_proved_78 : decode cX9_proved 78 = .ok (.aload_n 0, 1) := by decide +kernel
theorem dX9_proved_79 : decode cX9_proved 79 = .ok (.invokevirtual 75, 3) := by decide +kernel
theorem dX9_proved_82 : decode cX9_proved 82 = .ok (.iload_n 3, 1) := by decide +kernel
theorem dX9_proved_83 : decode cX9_proved 83 = .ok (.invokestatic 61, 3) := by decide +kernel
theorem dX9_proved_86 : decode cX9_proved 86 = .ok (.goto 15, 3) := by decide +kernel
theorem dX9_proved_89 : decode cX9_proved 89 = .ok (.aload_n 0, 1) := by decide +kernel
theorem dX9_proved_90 : decode cX9_proved 90 = .ok (.iload 8, 2) := by decide +kernel
theorem dX9_proved_92 : decode cX9_proved 92 = .ok (.iload 9, 2) := by decide +kernel
theorem dX9_proved_94 : decode cX9_proved 94 = .ok (.iload 4, 2) := by decide +kernel
theorem dX9_proved_96 : decode cX9_proved 96 = .ok (.iload 5, 2) := by decide +kernel
theorem dX9_proved_98 : decode cX9_proved 98 = .ok (.invokevirtual 124, 3) := by decide +kernel
theorem dX9_proved_101 : decode cX9_proved 101 = .ok (.invokevirtual 117, 3) := by decide +kernel
theorem dX9_proved_104 : decode cX9_proved 104 = .ok (.iinc 9 1, 3) := by decide +kernel
theorem dX9_proved_107 : decode cX9_proved 107 = .ok (.goto (-69), 3) := by decide +kernel
theorem dX9_proved_110 : decode cX9_proved 110 = .ok (.aload_n 0, 1) := by decide +kernel
theorem dX9_proved_111 : decode cX9_proved 111 = .ok (.getfield 108, 3) := by decide +kernel
theorem dX9_proved_114 : decode cX9_proved 114 = .ok (.sipush 5003, 3) := by decide +kernel
theorem dX9_proved_117 : decode cX9_proved 117 = .ok (.iadd, 1) := by decide +kernel
theorem dX9_proved_118 : decode cX9_proved 118 = .ok (.iload 4, 2) := by decide +kernel
theorem dX9_proved_120 : decode cX9_proved 120 = .ok (.isub, 1) := by decide +kernel
theorem dX9_proved_121 : decode cX9_proved 121 = .ok (.sipush 5003, 3) := by decide +kernel
theorem dX9_proved_124 : decode cX9_proved 124 = .ok (.irem, 1) := by decide +kernel
theorem dX9_proved_125 : decode cX9_proved 125 = .ok (.istore 9, 2) := by decide +kernel
theorem dX9_proved_127 : decode cX9_proved 127 = .ok (.iload_n 3, 1) := by decide +kernel
theorem dX9_proved_128 : decode cX9_proved 128 = .ok (.i2l, 1) := by decide +kernel
theorem dX9_proved_129 : decode cX9_proved 129 = .ok (.iload 9, 2) := by decide +kernel
theorem dX9_proved_131 : decode cX9_proved 131 = .ok (.i2l, 1) := by decide +kernel
theorem dX9_proved_132 : decode cX9_proved 132 = .ok (.iload_n 2, 1) := by decide +kernel
theorem dX9_proved_133 : decode cX9_proved 133 = .ok (.i2l, 1) := by decide +kernel
theorem dX9_proved_134 : decode cX9_proved 134 = .ok (.lmul, 1) := by decide +kernel
theorem dX9_proved_135 : decode cX9_proved 135 = .ok (.ladd, 1) := by decide +kernel
theorem dX9_proved_136 : decode cX9_proved 136 = .ok (.ldc2_w 97, 3) := by decide +kernel
theorem dX9_proved_139 : decode cX9_proved 139 = .ok (.lrem, 1) := by decide +kernel
theorem dX9_proved_140 : decode cX9_proved 140 = .ok (.l2i, 1) := by decide +kernel
theorem dX9_proved_141 : decode cX9_proved 141 = .ok (.istore 10, 2) := by decide +kernel
theorem dX9_proved_143 : decode cX9_proved 143 = .ok (.iload 6, 2) := by decide +kernel
theorem dX9_proved_145 : decode cX9_proved 145 = .ok (.iconst 2, 1) := by decide +kernel
theorem dX9_proved_146 : decode cX9_proved 146 = .ok (.idiv, 1) := by decide +kernel
theorem dX9_proved_147 : decode cX9_proved 147 = .ok (.iload_n 1, 1) := by decide +kernel
theorem dX9_proved_148 : decode cX9_proved 148 = .ok (.if_icmp .ne 7, 3) := by decide +kernel
theorem dX9_proved_151 : decode cX9_proved 151 = .ok (.iconst 1, 1) := by decide +kernel
theorem dX9_proved_152 : decode cX9_proved 152 = .ok (.goto 4, 3) := by decide +kernel
theorem dX9_proved_155 : decode cX9_proved 155 = .ok (.iconst 0, 1) := by decide +kernel
theorem dX9_proved_156 : decode cX9_proved 156 = .ok (.istore 11, 2) := by decide +kernel
theorem dX9_proved_158 : decode cX9_proved 158 = .ok (.iload 6, 2) := by decide +kernel
theorem dX9_proved_160 : decode cX9_proved 160 = .ok (.iconst 2, 1) := by decide +kernel
theorem dX9_proved_161 : decode cX9_proved 161 = .ok (.irem, 1) := by decide +kernel
theorem dX9_proved_162 : decode cX9_proved 162 = .ok (.ifCond .ne 18, 3) := by decide +kernel
theorem dX9_proved_165 : decode cX9_proved 165 = .ok (.iload 11, 2) := by decide +kernel
theorem dX9_proved_167 : decode cX9_proved 167 = .ok (.ifCond .eq 8, 3) := by decide +kernel
theorem dX9_proved_170 : decode cX9_proved 170 = .ok (.iload 9, 2) := by decide +kernel
theorem dX9_proved_172 : decode cX9_proved 172 = .ok (.goto 20, 3) := by decide +kernel
theorem dX9_proved_175 : decode cX9_proved 175 = .ok (.iload 4, 2) := by decide +kernel
theorem dX9_proved_177 : decode cX9_proved 177 = .ok (.goto 15, 3) := by decide +kernel
theorem dX9_proved_180 : decode cX9_proved 180 = .ok (.iload 11, 2) := by decide +kernel
theorem dX9_proved_182 : decode cX9_proved 182 = .ok (.ifCond .eq 8, 3) := by decide +kernel
theorem dX9_proved_185 : decode cX9_proved 185 = .ok (.iload 10, 2) := by decide +kernel
theorem dX9_proved_187 : decode cX9_proved 187 = .ok (.goto 5, 3) := by decide +kernel
theorem dX9_proved_190 : decode cX9_proved 190 = .ok (.iload 5, 2) := by decide +kernel
theorem dX9_proved_192 : decode cX9_proved 192 = .ok (.ireturn, 1) := by decide +kernel
set_option maxRecDepth 20000 in
theorem ggX9_holds_X9_isRight : GoodIn wsX9_holds wsX9_isRight := goodIn_r _ [5, 6, 7, 4, 8, 9, 10, 11, 12, 13, 14, 15, 16, 17] (by decide +kernel) (by decide +kernel)
set_option maxRecDepth 20000 in
theorem gX9_holds_X9_isRight : GoodIn wsX9_holds (va_wsS RX9 93 yX9_isRight wsX9_isRight) := goodIn_app (goodIn_of _ (by decide +kernel)) ggX9_holds_X9_isRight
set_option maxRecDepth 20000 in
theorem ggX9_holds_X9_isPower : GoodIn wsX9_holds wsX9_isPower := goodIn_r _ [20, 9, 10, 4, 11] (by decide +kernel) (by decide +kernel)
set_option maxRecDepth 20000 in
theorem gX9_holds_X9_isPower : GoodIn wsX9_holds (va_wsS RX9 68 yX9_isPower wsX9_isPower) := goodIn_app (goodIn_of _ (by decide +kernel)) ggX9_holds_X9_isPower
set_option maxRecDepth 20000 in
theorem ggX9_holds_X9_mix : GoodIn wsX9_holds wsX9_mix := goodIn_r _ [24, 1, 25, 26, 46, 47, 48, 49, 50, 51, 52, 53, 54, 55, 56, 57, 58, 59, 60, 61, 62, 63] (by decide +kernel) (by decide +kernel)
set_option maxRecDepth 20000 in
theorem gX9_holds_X9_mix : GoodIn wsX9_holds (wsV RX9 117 RX9 yX9_mix wsX9_mix) := goodIn_app (goodIn_of _ (by decide +kernel)) ggX9_holds_X9_mix
set_option maxRecDepth 20000 in
theorem ggX9_holds_X9_sOf : GoodIn wsX9_holds wsX9_sOf := goodIn_r _ [29, 12, 13, 4, 14, 15, 16, 17, 30, 31, 32, 33, 34, 35, 36] (by decide +kernel) (by decide +kernel)
set_option maxRecDepth 20000 in
theorem gX9_holds_X9_sOf : GoodIn wsX9_holds (va_wsS RX9 121 yX9_sOf wsX9_sOf) := goodIn_app (goodIn_of _ (by decide +kernel)) ggX9_holds_X9_sOf
set_option maxRecDepth 20000 in
theorem ggX9_holds_X9_tOf : GoodIn wsX9_holds wsX9_tOf := goodIn_r _ [40, 41, 42, 43, 4, 44, 45, 12, 13, 14, 15, 16, 17, 30, 31, 32, 33, 34, 35, 36, 46, 47, 48, 49, 50, 51, 52, 53, 54, 55, 56, 57, 58, 59, 60, 61, 62, 63] (by decide +kernel) (by decide +kernel)
set_option maxRecDepth 20000 in
theorem gX9_holds_X9_tOf : GoodIn wsX9_holds (wsV RX9 124 RX9 yX9_tOf wsX9_tOf) := goodIn_app (goodIn_of _ (by decide +kernel)) ggX9_holds_X9_tOf
theorem dX9_holds_0 : decode cX9_holds 0 = .ok (.iload_n 1, 1) := by decide +kernel
theorem dX9_holds_1 : decode cX9_holds 1 = .ok (.iload_n 2, 1) := by decide +kernel
theorem dX9_holds_2 : decode cX9_holds 2 = .ok (.invokestatic 93, 3) := by decide +kernel
theorem dX9_holds_5 : decode cX9_holds 5 = .ok (.ifCond .eq 34, 3) := by decide +kernel
theorem dX9_holds_8 : decode cX9_holds 8 = .ok (.iload_n 3, 1) := by decide +kernel
theorem dX9_holds_9 : decode cX9_holds 9 = .ok (.invokestatic 68, 3) := by decide +kernel
theorem dX9_holds_12 : decode cX9_holds 12 = .ok (.ifCond .eq 27, 3) := by decide +kernel
theorem dX9_holds_15 : decode cX9_holds 15 = .ok (.iload 4, 2) := by decide +kernel
theorem dX9_holds_17 : decode cX9_holds 17 = .ok (.invokestatic 68, 3) := by decide +kernel
theorem dX9_holds_20 : decode cX9_holds 20 = .ok (.ifCond .eq 19, 3) := by decide +kernel
theorem dX9_holds_23 : decode cX9_holds 23 = .ok (.iload 5, 2) := by decide +kernel
theorem dX9_holds_25 : decode cX9_holds 25 = .ok (.invokestatic 68, 3) := by decide +kernel
theorem dX9_holds_28 : decode cX9_holds 28 = .ok (.ifCond .eq 11, 3) := by decide +kernel
theorem dX9_holds_31 : decode cX9_holds 31 = .ok (.iload 6, 2) := by decide +kernel
theorem dX9_holds_33 : decode cX9_holds 33 = .ok (.invokestatic 68, 3) := by decide +kernel
theorem dX9_holds_36 : decode cX9_holds 36 = .ok (.ifCond .ne 5, 3) := by decide +kernel
theorem dX9_holds_39 : decode cX9_holds 39 = .ok (.iconst 0, 1) := by decide +kernel
theorem dX9_holds_40 : decode cX9_holds 40 = .ok (.ireturn, 1) := by decide +kernel
theorem dX9_holds_41 : decode cX9_holds 41 = .ok (.aload_n 0, 1) := by decide +kernel
theorem dX9_holds_42 : decode cX9_holds 42 = .ok (.iconst 1, 1) := by decide +kernel
theorem dX9_holds_43 : decode cX9_holds 43 = .ok (.putfield 108, 3) := by decide +kernel
theorem dX9_holds_46 : decode cX9_holds 46 = .ok (.aload_n 0, 1) := by decide +kernel
theorem dX9_holds_47 : decode cX9_holds 47 = .ok (.iload_n 1, 1) := by decide +kernel
theorem dX9_holds_48 : decode cX9_holds 48 = .ok (.invokevirtual 117, 3) := by decide +kernel
theorem dX9_holds_51 : decode cX9_holds 51 = .ok (.aload_n 0, 1) := by decide +kernel
theorem dX9_holds_52 : decode cX9_holds 52 = .ok (.iload_n 2, 1) := by decide +kernel
theorem dX9_holds_53 : decode cX9_holds 53 = .ok (.invokevirtual 117, 3) := by decide +kernel
theorem dX9_holds_56 : decode cX9_holds 56 = .ok (.aload_n 0, 1) := by decide +kernel
theorem dX9_holds_57 : decode cX9_holds 57 = .ok (.iload_n 1, 1) := by decide +kernel
theorem dX9_holds_58 : decode cX9_holds 58 = .ok (.iload_n 3, 1) := by decide +kernel
theorem dX9_holds_59 : decode cX9_holds 59 = .ok (.iload 4, 2) := by decide +kernel
theorem dX9_holds_61 : decode cX9_holds 61 = .ok (.invokestatic 121, 3) := by decide +kernel
theorem dX9_holds_64 : decode cX9_holds 64 = .ok (.invokevirtual 117, 3) := by decide +kernel
theorem dX9_holds_67 : decode cX9_holds 67 = .ok (.aload_n 0, 1) := by decide +kernel
theorem dX9_holds_68 : decode cX9_holds 68 = .ok (.aload_n 0, 1) := by decide +kernel
theorem dX9_holds_69 : decode cX9_holds 69 = .ok (.iload_n 2, 1) := by decide +kernel
theorem dX9_holds_70 : decode cX9_holds 70 = .ok (.iconst 0, 1) := by decide +kernel
theorem dX9_holds_71 : decode cX9_holds 71 = .ok (.iload_n 3, 1) := by decide +kernel
theorem dX9_holds_72 : decode cX9_holds 72 = .ok (.iload 4, 2) := by decide +kernel
theorem dX9_holds_74 : decode cX9_holds 74 = .ok (.invokevirtual 124, 3) := by decide +kernel
theorem dX9_holds_77 : decode cX9_holds 77 = .ok (.invokevirtual 117, 3) := by decide +kernel
theorem dX9_holds_80 : decode cX9_holds 80 = .ok (.aload_n 0, 1) := by decide +kernel
theorem dX9_holds_81 : decode cX9_holds 81 = .ok (.iload_n 1, 1) := by decide +kernel
theorem dX9_holds_82 : decode cX9_holds 82 = .ok (.iload 5, 2) := by decide +kernel
theorem dX9_holds_84 : decode cX9_holds 84 = .ok (.iload 6, 2) := by decide +kernel
theorem dX9_holds_86 : decode cX9_holds 86 = .ok (.invokestatic 121, 3) := by decide +kernel
theorem dX9_holds_89 : decode cX9_holds 89 = .ok (.invokevirtual 117, 3) := by decide +kernel
theorem dX9_holds_92 : decode cX9_holds 92 = .ok (.aload_n 0, 1) := by decide +kernel
theorem dX9_holds_93 : decode cX9_holds 93 = .ok (.aload_n 0, 1) := by decide +kernel
theorem dX9_holds_94 : decode cX9_holds 94 = .ok (.iload_n 2, 1) := by decide +kernel
theorem dX9_holds_95 : decode cX9_holds 95 = .ok (.iconst 1, 1) := by decide +kernel
theorem dX9_holds_96 : decode cX9_holds 96 = .ok (.iload 5, 2) := by decide +kernel
theorem dX9_holds_98 : decode cX9_holds 98 = .ok (.iload 6, 2) := by decide +kernel
theorem dX9_holds_100 : decode cX9_holds 100 = .ok (.invokevirtual 124, 3) := by decide +kernel
theorem dX9_holds_103 : decode cX9_holds 103 = .ok (.invokevirtual 117, 3) := by decide +kernel
theorem dX9_holds_106 : decode cX9_holds 106 = .ok (.iload_n 3, 1) := by decide +kernel
theorem dX9_holds_107 : decode cX9_holds 107 = .ok (.iload 5, 2) := by decide +kernel
theorem dX9_holds_109 : decode cX9_holds 109 = .ok (.iadd, 1) := by decide +kernel
theorem dX9_holds_110 : decode cX9_holds 110 = .ok (.sipush 5003, 3) := by decide +kernel
theorem dX9_holds_113 : decode cX9_holds 113 = .ok (.irem, 1) := by decide +kernel
theorem dX9_holds_114 : decode cX9_holds 114 = .ok (.aload_n 0, 1) := by decide +kernel
theorem dX9_holds_115 : decode cX9_holds 115 = .ok (.getfield 108, 3) := by decide +kernel
theorem dX9_holds_118 : decode cX9_holds 118 = .ok (.if_icmp .ne 7, 3) := by decide +kernel
theorem dX9_holds_121 : decode cX9_holds 121 = .ok (.iconst 1, 1) := by decide +kernel
theorem dX9_holds_122 : decode cX9_holds 122 = .ok (.goto 4, 3) := by decide +kernel
theorem dX9_holds_125 : decode cX9_holds 125 = .ok (.iconst 0, 1) := by decide +kernel
theorem dX9_holds_126 : decode cX9_holds 126 = .ok (.ireturn, 1) := by decide +kernel
set_option maxRecDepth 20000 in
theorem ggX9_check_X9_holds : GoodIn wsX9_check wsX9_holds := goodIn_r _ [5, 6, 7, 8, 4, 9, 10, 11, 12, 13, 14, 15, 16, 17, 18, 19, 20, 21, 22, 23, 24, 25, 26, 27, 28, 29, 30, 31, 32, 33, 34, 35, 36, 37, 38, 39, 40, 41, 42, 43, 44, 45, 46, 47, 48, 49, 50, 51, 52, 53, 54, 55, 56, 57, 58, 59, 60, 61, 62, 63, 64, 65, 66, 67] (by decide +kernel) (by decide +kernel)
set_option maxRecDepth 20000 in
theorem gX9_check_X9_holds : GoodIn wsX9_check (wsV RX9 128 RX9 yX9_holds wsX9_holds) := goodIn_app (goodIn_of _ (by decide +kernel)) ggX9_check_X9_holds
theorem dX9_check_0 : decode cX9_check 0 = .ok (.aload_n 0, 1) := by decide +kernel
theorem dX9_check_1 : decode cX9_check 1 = .ok (.iload_n 1, 1) := by decide +kernel
theorem dX9_check_2 : decode cX9_check 2 = .ok (.iload_n 2, 1) := by decide +kernel
theorem dX9_check_3 : decode cX9_check 3 = .ok (.iload_n 3, 1) := by decide +kernel
theorem dX9_check_4 : decode cX9_check 4 = .ok (.iload 4, 2) := by decide +kernel
theorem dX9_check_6 : decode cX9_check 6 = .ok (.iload 5, 2) := by decide +kernel
theorem dX9_check_8 : decode cX9_check 8 = .ok (.iload 6, 2) := by decide +kernel
theorem dX9_check_10 : decode cX9_check 10 = .ok (.invokevirtual 128, 3) := by decide +kernel
theorem dX9_check_13 : decode cX9_check 13 = .ok (.ifCond .eq 7, 3) := by decide +kernel
theorem dX9_check_16 : decode cX9_check 16 = .ok (.iconst 1, 1) := by decide +kernel
theorem dX9_check_17 : decode cX9_check 17 = .ok (.goto 4, 3) := by decide +kernel
theorem dX9_check_20 : decode cX9_check 20 = .ok (.iconst 0, 1) := by decide +kernel
theorem dX9_check_21 : decode cX9_check 21 = .ok (.ireturn, 1) := by decide +kernel
set_option maxRecDepth 20000 in
theorem ggX9_isVoter_X9_in : GoodIn wsX9_isVoter wsX9_in := goodIn_r _ [4] (by decide +kernel) (by decide +kernel)
set_option maxRecDepth 20000 in
theorem gX9_isVoter_X9_in : GoodIn wsX9_isVoter (va_wsS RX9 51 yX9_in wsX9_in) := goodIn_app (goodIn_of _ (by decide +kernel)) ggX9_isVoter_X9_in
theorem dX9_isVoter_0 : decode cX9_isVoter 0 = .ok (.iload_n 0, 1) := by decide +kernel
theorem dX9_isVoter_1 : decode cX9_isVoter 1 = .ok (.iconst 0, 1) := by decide +kernel
theorem dX9_isVoter_2 : decode cX9_isVoter 2 = .ok (.bipush 11, 2) := by decide +kernel
theorem dX9_isVoter_4 : decode cX9_isVoter 4 = .ok (.invokestatic 51, 3) := by decide +kernel
theorem dX9_isVoter_7 : decode cX9_isVoter 7 = .ok (.ireturn, 1) := by decide +kernel
set_option maxRecDepth 20000 in
theorem ggX9_voter_X9_isVoter : GoodIn wsX9_voter wsX9_isVoter := goodIn_r _ [5, 6, 7, 4, 8] (by decide +kernel) (by decide +kernel)
set_option maxRecDepth 20000 in
theorem gX9_voter_X9_isVoter : GoodIn wsX9_voter (va_wsS RX9 132 yX9_isVoter wsX9_isVoter) := goodIn_app (goodIn_of _ (by decide +kernel)) ggX9_voter_X9_isVoter
set_option maxRecDepth 20000 in
theorem ggX9_voter_X9_in : GoodIn wsX9_voter wsX9_in := goodIn_r _ [8] (by decide +kernel) (by decide +kernel)
set_option maxRecDepth 20000 in
theorem gX9_voter_X9_in : GoodIn wsX9_voter (va_wsS RX9 51 yX9_in wsX9_in) := goodIn_app (goodIn_of _ (by decide +kernel)) ggX9_voter_X9_in
theorem dX9_voter_0 : decode cX9_voter 0 = .ok (.iload_n 1, 1) := by decide +kernel
theorem dX9_voter_1 : decode cX9_voter 1 = .ok (.invokestatic 132, 3) := by decide +kernel
theorem dX9_voter_4 : decode cX9_voter 4 = .ok (.ifCond .ne 5, 3) := by decide +kernel
theorem dX9_voter_7 : decode cX9_voter 7 = .ok (.iconst (-1), 1) := by decide +kernel
theorem dX9_voter_8 : decode cX9_voter 8 = .ok (.ireturn, 1) := by decide +kernel
theorem dX9_voter_9 : decode cX9_voter 9 = .ok (.iload_n 2, 1) := by decide +kernel
theorem dX9_voter_10 : decode cX9_voter 10 = .ok (.iconst 0, 1) := by decide +kernel
theorem dX9_voter_11 : decode cX9_voter 11 = .ok (.iconst 2, 1) := by decide +kernel
theorem dX9_voter_12 : decode cX9_voter 12 = .ok (.invokestatic 51, 3) := by decide +kernel
theorem dX9_voter_15 : decode cX9_voter 15 = .ok (.ifCond .eq 22, 3) := by decide +kernel
theorem dX9_voter_18 : decode cX9_voter 18 = .ok (.iload_n 3, 1) := by decide +kernel
theorem dX9_voter_19 : decode cX9_voter 19 = .ok (.iconst 0, 1) := by decide +kernel
theorem dX9_voter_20 : decode cX9_voter 20 = .ok (.iload_n 2, 1) := by decide +kernel
theorem dX9_voter_21 : decode cX9_voter 21 = .ok (.iconst 2, 1) := by decide +kernel
theorem dX9_voter_22 : decode cX9_voter 22 = .ok (.if_icmp .ne 7, 3) := by decide +kernel
theorem dX9_voter_25 : decode cX9_voter 25 = .ok (.iconst 1, 1) := by decide +kernel
theorem dX9_voter_26 : decode cX9_voter 26 = .ok (.goto 5, 3) := by decide +kernel
theorem dX9_voter_29 : decode cX9_voter 29 = .ok (.bipush 120, 2) := by decide +kernel
theorem dX9_voter_31 : decode cX9_voter 31 = .ok (.invokestatic 51, 3) := by decide +kernel
theorem dX9_voter_34 : decode cX9_voter 34 = .ok (.ifCond .ne 6, 3) := by decide +kernel
theorem dX9_voter_37 : decode cX9_voter 37 = .ok (.bipush (-2), 2) := by decide +kernel
theorem dX9_voter_39 : decode cX9_voter 39 = .ok (.ireturn, 1) := by decide +kernel
theorem dX9_voter_40 : decode cX9_voter 40 = .ok (.aload_n 0, 1) := by decide +kernel
theorem dX9_voter_41 : decode cX9_voter 41 = .ok (.getfield 17, 3) := by decide +kernel
theorem dX9_voter_44 : decode cX9_voter 44 = .ok (.iconst 3, 1) := by decide +kernel
theorem dX9_voter_45 : decode cX9_voter 45 = .ok (.iload_n 1, 1) := by decide +kernel
theorem dX9_voter_46 : decode cX9_voter 46 = .ok (.imul, 1) := by decide +kernel
theorem dX9_voter_47 : decode cX9_voter 47 = .ok (.iload_n 2, 1) := by decide +kernel
theorem dX9_voter_48 : decode cX9_voter 48 = .ok (.iadd, 1) := by decide +kernel
theorem dX9_voter_49 : decode cX9_voter 49 = .ok (.iaload, 1) := by decide +kernel
theorem dX9_voter_50 : decode cX9_voter 50 = .ok (.istore 4, 2) := by decide +kernel
theorem dX9_voter_52 : decode cX9_voter 52 = .ok (.aload_n 0, 1) := by decide +kernel
theorem dX9_voter_53 : decode cX9_voter 53 = .ok (.getfield 17, 3) := by decide +kernel
theorem dX9_voter_56 : decode cX9_voter 56 = .ok (.iconst 3, 1) := by decide +kernel
theorem dX9_voter_57 : decode cX9_voter 57 = .ok (.iload_n 1, 1) := by decide +kernel
theorem dX9_voter_58 : decode cX9_voter 58 = .ok (.imul, 1) := by decide +kernel
theorem dX9_voter_59 : decode cX9_voter 59 = .ok (.iload_n 2, 1) := by decide +kernel
theorem dX9_voter_60 : decode cX9_voter 60 = .ok (.iadd, 1) := by decide +kernel
theorem dX9_voter_61 : decode cX9_voter 61 = .ok (.iload_n 3, 1) := by decide +kernel
theorem dX9_voter_62 : decode cX9_voter 62 = .ok (.iastore, 1) := by decide +kernel
theorem dX9_voter_63 : decode cX9_voter 63 = .ok (.iload 4, 2) := by decide +kernel
theorem dX9_voter_65 : decode cX9_voter 65 = .ok (.ireturn, 1) := by decide +kernel
set_option maxRecDepth 20000 in
theorem ggX9_say_X9_in : GoodIn wsX9_say wsX9_in := goodIn_r _ [6] (by decide +kernel) (by decide +kernel)
set_option maxRecDepth 20000 in
theorem gX9_say_X9_in : GoodIn wsX9_say (va_wsS RX9 51 yX9_in wsX9_in) := goodIn_app (goodIn_of _ (by decide +kernel)) ggX9_say_X9_in
theorem dX9_say_0 : decode cX9_say 0 = .ok (.iload_n 1, 1) := by decide +kernel
theorem dX9_say_1 : decode cX9_say 1 = .ok (.bipush 33, 2) := by decide +kernel
theorem dX9_say_3 : decode cX9_say 3 = .ok (.bipush 126, 2) := by decide +kernel
theorem dX9_say_5 : decode cX9_say 5 = .ok (.invokestatic 51, 3) := by decide +kernel
theorem dX9_say_8 : decode cX9_say 8 = .ok (.ifCond .ne 6, 3) := by decide +kernel
theorem dX9_say_11 : decode cX9_say 11 = .ok (.bipush (-2), 2) := by decide +kernel
theorem dX9_say_13 : decode cX9_say 13 = .ok (.ireturn, 1) := by decide +kernel
theorem dX9_say_14 : decode cX9_say 14 = .ok (.aload_n 0, 1) := by decide +kernel
theorem dX9_say_15 : decode cX9_say 15 = .ok (.getfield 135, 3) := by decide +kernel
theorem dX9_say_18 : decode cX9_say 18 = .ok (.bipush 40, 2) := by decide +kernel
theorem dX9_say_20 : decode cX9_say 20 = .ok (.if_icmp .ne 6, 3) := by decide +kernel
theorem dX9_say_23 : decode cX9_say 23 = .ok (.bipush (-4), 2) := by decide +kernel
theorem dX9_say_25 : decode cX9_say 25 = .ok (.ireturn, 1) := by decide +kernel
theorem dX9_say_26 : decode cX9_say 26 = .ok (.aload_n 0, 1) := by decide +kernel
theorem dX9_say_27 : decode cX9_say 27 = .ok (.getfield 20, 3) := by decide +kernel
theorem dX9_say_30 : decode cX9_say 30 = .ok (.aload_n 0, 1) := by decide +kernel
theorem dX9_say_31 : decode cX9_say 31 = .ok (.getfield 135, 3) := by decide +kernel
theorem dX9_say_34 : decode cX9_say 34 = .ok (.iload_n 1, 1) := by decide +kernel
theorem dX9_say_35 : decode cX9_say 35 = .ok (.iastore, 1) := by decide +kernel
theorem dX9_say_36 : decode cX9_say 36 = .ok (.aload_n 0, 1) := by decide +kernel
theorem dX9_say_37 : decode cX9_say 37 = .ok (.dup, 1) := by decide +kernel
theorem dX9_say_38 : decode cX9_say 38 = .ok (.getfield 135, 3) := by decide +kernel
theorem dX9_say_41 : decode cX9_say 41 = .ok (.iconst 1, 1) := by decide +kernel
theorem dX9_say_42 : decode cX9_say 42 = .ok (.iadd, 1) := by decide +kernel
theorem dX9_say_43 : decode cX9_say 43 = .ok (.putfield 135, 3) := by decide +kernel
theorem dX9_say_46 : decode cX9_say 46 = .ok (.aload_n 0, 1) := by decide +kernel
theorem dX9_say_47 : decode cX9_say 47 = .ok (.getfield 135, 3) := by decide +kernel
theorem dX9_say_50 : decode cX9_say 50 = .ok (.ireturn, 1) := by decide +kernel
theorem dX9_wipe_0 : decode cX9_wipe 0 = .ok (.aload_n 0, 1) := by decide +kernel
theorem dX9_wipe_1 : decode cX9_wipe 1 = .ok (.getfield 135, 3) := by decide +kernel
theorem dX9_wipe_4 : decode cX9_wipe 4 = .ok (.istore_n 1, 1) := by decide +kernel
theorem dX9_wipe_5 : decode cX9_wipe 5 = .ok (.aload_n 0, 1) := by decide +kernel
theorem dX9_wipe_6 : decode cX9_wipe 6 = .ok (.iconst 0, 1) := by decide +kernel
theorem dX9_wipe_7 : decode cX9_wipe 7 = .ok (.putfield 135, 3) := by decide +kernel
theorem dX9_wipe_10 : decode cX9_wipe 10 = .ok (.iload_n 1, 1) := by decide +kernel
theorem dX9_wipe_11 : decode cX9_wipe 11 = .ok (.ireturn, 1) := by decide +kernel
set_option maxRecDepth 20000 in
theorem ggX9_faultOf_X9_in : GoodIn wsX9_faultOf wsX9_in := goodIn_r _ [6] (by decide +kernel) (by decide +kernel)
set_option maxRecDepth 20000 in
theorem gX9_faultOf_X9_in : GoodIn wsX9_faultOf (va_wsS RX9 51 yX9_in wsX9_in) := goodIn_app (goodIn_of _ (by decide +kernel)) ggX9_faultOf_X9_in
theorem dX9_faultOf_0 : decode cX9_faultOf 0 = .ok (.iconst 0, 1) := by decide +kernel
theorem dX9_faultOf_1 : decode cX9_faultOf 1 = .ok (.istore_n 1, 1) := by decide +kernel
theorem dX9_faultOf_2 : decode cX9_faultOf 2 = .ok (.iconst 0, 1) := by decide +kernel
theorem dX9_faultOf_3 : decode cX9_faultOf 3 = .ok (.istore_n 2, 1) := by decide +kernel
theorem dX9_faultOf_4 : decode cX9_faultOf 4 = .ok (.iload_n 2, 1) := by decide +kernel
theorem dX9_faultOf_5 : decode cX9_faultOf 5 = .ok (.aload_n 0, 1) := by decide +kernel
theorem dX9_faultOf_6 : decode cX9_faultOf 6 = .ok (.getfield 135, 3) := by decide +kernel
theorem dX9_faultOf_9 : decode cX9_faultOf 9 = .ok (.if_icmp .ge 166, 3) := by decide +kernel
theorem dX9_faultOf_12 : decode cX9_faultOf 12 = .ok (.aload_n 0, 1) := by decide +kernel
theorem dX9_faultOf_13 : decode cX9_faultOf 13 = .ok (.getfield 20, 3) := by decide +kernel
theorem dX9_faultOf_16 : decode cX9_faultOf 16 = .ok (.iload_n 2, 1) := by decide +kernel
theorem dX9_faultOf_17 : decode cX9_faultOf 17 = .ok (.iaload, 1) := by decide +kernel
theorem dX9_faultOf_18 : decode cX9_faultOf 18 = .ok (.istore_n 3, 1) := by decide +kernel
theorem dX9_faultOf_19 : decode cX9_faultOf 19 = .ok (.iload_n 3, 1) := by decide +kernel
theorem dX9_faultOf_20 : decode cX9_faultOf 20 = .ok (.bipush 48, 2) := by decide +kernel
theorem dX9_faultOf_22 : decode cX9_faultOf 22 = .ok (.bipush 57, 2) := by decide +kernel
theorem dX9_faultOf_24 : decode cX9_faultOf 24 = .ok (.invokestatic 51, 3) := by decide +kernel
theorem dX9_faultOf_27 : decode cX9_faultOf 27 = .ok (.istore 4, 2) := by decide +kernel
theorem dX9_faultOf_29 : decode cX9_faultOf 29 = .ok (.iload_n 3, 1) := by decide +kernel
theorem dX9_faultOf_30 : decode cX9_faultOf 30 = .ok (.bipush 38, 2) := by decide +kernel
theorem dX9_faultOf_32 : decode cX9_faultOf 32 = .ok (.if_icmp .eq 9, 3) := by decide +kernel
theorem dX9_faultOf_35 : decode cX9_faultOf 35 = .ok (.iload_n 3, 1) := by decide +kernel
theorem dX9_faultOf_36 : decode cX9_faultOf 36 = .ok (.bipush 124, 2) := by decide +kernel
theorem dX9_faultOf_38 : decode cX9_faultOf 38 = .ok (.if_icmp .ne 7, 3) := by decide +kernel
theorem dX9_faultOf_41 : decode cX9_faultOf 41 = .ok (.iconst 1, 1) := by decide +kernel
theorem dX9_faultOf_42 : decode cX9_faultOf 42 = .ok (.goto 4, 3) := by decide +kernel
theorem dX9_faultOf_45 : decode cX9_faultOf 45 = .ok (.iconst 0, 1) := by decide +kernel
theorem dX9_faultOf_46 : decode cX9_faultOf 46 = .ok (.istore 5, 2) := by decide +kernel
theorem dX9_faultOf_48 : decode cX9_faultOf 48 = .ok (.iload_n 1, 1) := by decide +kernel
theorem dX9_faultOf_49 : decode cX9_faultOf 49 = .ok (.ifCond .ne 29, 3) := by decide +kernel
theorem dX9_faultOf_52 : decode cX9_faultOf 52 = .ok (.iload_n 3, 1) := by decide +kernel
theorem dX9_faultOf_53 : decode cX9_faultOf 53 = .ok (.bipush 97, 2) := by decide +kernel
theorem dX9_faultOf_55 : decode cX9_faultOf 55 = .ok (.if_icmp .eq 15, 3) := by decide +kernel
theorem dX9_faultOf_58 : decode cX9_faultOf 58 = .ok (.iload_n 3, 1) := by decide +kernel
theorem dX9_faultOf_59 : decode cX9_faultOf 59 = .ok (.bipush 121, 2) := by decide +kernel
theorem dX9_faultOf_61 : decode cX9_faultOf 61 = .ok (.if_icmp .eq 9, 3) := by decide +kernel
theorem dX9_faultOf_64 : decode cX9_faultOf 64 = .ok (.iload_n 3, 1) := by decide +kernel
theorem dX9_faultOf_65 : decode cX9_faultOf 65 = .ok (.bipush 98, 2) := by decide +kernel
theorem dX9_faultOf_67 : decode cX9_faultOf 67 = .ok (.if_icmp .ne 7, 3) := by decide +kernel
theorem dX9_faultOf_70 : decode cX9_faultOf 70 = .ok (.iconst 1, 1) := by decide +kernel
theorem dX9_faultOf_71 : decode cX9_faultOf 71 = .ok (.goto 71, 3) := by decide +kernel
theorem dX9_faultOf_74 : decode cX9_faultOf 74 = .ok (.iconst 0, 1) := by decide +kernel
theorem dX9_faultOf_75 : decode cX9_faultOf 75 = .ok (.goto 67, 3) := by decide +kernel
theorem dX9_faultOf_78 : decode cX9_faultOf 78 = .ok (.iload_n 1, 1) := by decide +kernel
theorem dX9_faultOf_79 : decode cX9_faultOf 79 = .ok (.iconst 1, 1) := by decide +kernel
theorem dX9_faultOf_80 : decode cX9_faultOf 80 = .ok (.if_icmp .ne 29, 3) := by decide +kernel
theorem dX9_faultOf_83 : decode cX9_faultOf 83 = .ok (.iload_n 3, 1) := by decide +kernel
theorem dX9_faultOf_84 : decode cX9_faultOf 84 = .ok (.bipush 60, 2) := by decide +kernel
theorem dX9_faultOf_86 : decode cX9_faultOf 86 = .ok (.if_icmp .eq 15, 3) := by decide +kernel
theorem dX9_faultOf_89 : decode cX9_faultOf 89 = .ok (.iload_n 3, 1) := by decide +kernel
theorem dX9_faultOf_90 : decode cX9_faultOf 90 = .ok (.bipush 62, 2) := by decide +kernel
theorem dX9_faultOf_92 : decode cX9_faultOf 92 = .ok (.if_icmp .eq 9, 3) := by decide +kernel
theorem dX9_faultOf_95 : decode cX9_faultOf 95 = .ok (.iload_n 3, 1) := by decide +kernel
theorem dX9_faultOf_96 : decode cX9_faultOf 96 = .ok (.bipush 61, 2) := by decide +kernel
theorem dX9_faultOf_98 : decode cX9_faultOf 98 = .ok (.if_icmp .ne 7, 3) := by decide +kernel
theorem dX9_faultOf_101 : decode cX9_faultOf 101 = .ok (.iconst 1, 1) := by decide +kernel
theorem dX9_faultOf_102 : decode cX9_faultOf 102 = .ok (.goto 40, 3) := by decide +kernel
theorem dX9_faultOf_105 : decode cX9_faultOf 105 = .ok (.iconst 0, 1) := by decide +kernel
theorem dX9_faultOf_106 : decode cX9_faultOf 106 = .ok (.goto 36, 3) := by decide +kernel
theorem dX9_faultOf_109 : decode cX9_faultOf 109 = .ok (.iload 4, 2) := by decide +kernel
theorem dX9_faultOf_111 : decode cX9_faultOf 111 = .ok (.ifCond .eq 16, 3) := by decide +kernel
theorem dX9_faultOf_114 : decode cX9_faultOf 114 = .ok (.iload_n 1, 1) := by decide +kernel
theorem dX9_faultOf_115 : decode cX9_faultOf 115 = .ok (.iconst 5, 1) := by decide +kernel
theorem dX9_faultOf_116 : decode cX9_faultOf 116 = .ok (.if_icmp .ge 7, 3) := by decide +kernel
theorem dX9_faultOf_119 : decode cX9_faultOf 119 = .ok (.iconst 1, 1) := by decide +kernel
theorem dX9_faultOf_120 : decode cX9_faultOf 120 = .ok (.goto 22, 3) := by decide +kernel
theorem dX9_faultOf_123 : decode cX9_faultOf 123 = .ok (.iconst 0, 1) := by decide +kernel
theorem dX9_faultOf_124 : decode cX9_faultOf 124 = .ok (.goto 18, 3) := by decide +kernel
theorem dX9_faultOf_127 : decode cX9_faultOf 127 = .ok (.iload 5, 2) := by decide +kernel
theorem dX9_faultOf_129 : decode cX9_faultOf 129 = .ok (.ifCond .eq 12, 3) := by decide +kernel
theorem dX9_faultOf_132 : decode cX9_faultOf 132 = .ok (.iload_n 1, 1) := by decide +kernel
theorem dX9_faultOf_133 : decode cX9_faultOf 133 = .ok (.iconst 2, 1) := by decide +kernel
theorem dX9_faultOf_134 : decode cX9_faultOf 134 = .ok (.if_icmp .le 7, 3) := by decide +kernel
theorem dX9_faultOf_137 : decode cX9_faultOf 137 = .ok (.iconst 1, 1) := by decide +kernel
theorem dX9_faultOf_138 : decode cX9_faultOf 138 = .ok (.goto 4, 3) := by decide +kernel
theorem dX9_faultOf_141 : decode cX9_faultOf 141 = .ok (.iconst 0, 1) := by decide +kernel
theorem dX9_faultOf_142 : decode cX9_faultOf 142 = .ok (.istore 6, 2) := by decide +kernel
theorem dX9_faultOf_144 : decode cX9_faultOf 144 = .ok (.iload 6, 2) := by decide +kernel
theorem dX9_faultOf_146 : decode cX9_faultOf 146 = .ok (.ifCond .ne 5, 3) := by decide +kernel
theorem dX9_faultOf_149 : decode cX9_faultOf 149 = .ok (.iload_n 2, 1) := by decide +kernel
theorem dX9_faultOf_150 : decode cX9_faultOf 150 = .ok (.ireturn, 1) := by decide +kernel
theorem dX9_faultOf_151 : decode cX9_faultOf 151 = .ok (.iload_n 1, 1) := by decide +kernel
theorem dX9_faultOf_152 : decode cX9_faultOf 152 = .ok (.iconst 2, 1) := by decide +kernel
theorem dX9_faultOf_153 : decode cX9_faultOf 153 = .ok (.if_icmp .le 12, 3) := by decide +kernel
theorem dX9_faultOf_156 : decode cX9_faultOf 156 = .ok (.iload 5, 2) := by decide +kernel
theorem dX9_faultOf_158 : decode cX9_faultOf 158 = .ok (.ifCond .eq 7, 3) := by decide +kernel
theorem dX9_faultOf_161 : decode cX9_faultOf 161 = .ok (.iconst 0, 1) := by decide +kernel
theorem dX9_faultOf_162 : decode cX9_faultOf 162 = .ok (.goto 6, 3) := by decide +kernel
theorem dX9_faultOf_165 : decode cX9_faultOf 165 = .ok (.iload_n 1, 1) := by decide +kernel
theorem dX9_faultOf_166 : decode cX9_faultOf 166 = .ok (.iconst 1, 1) := by decide +kernel
theorem dX9_faultOf_167 : decode cX9_faultOf 167 = .ok (.iadd, 1) := by decide +kernel
theorem dX9_faultOf_168 : decode cX9_faultOf 168 = .ok (.istore_n 1, 1) := by decide +kernel
theorem dX9_faultOf_169 : decode cX9_faultOf 169 = .ok (.iinc 2 1, 3) := by decide +kernel
theorem dX9_faultOf_172 : decode cX9_faultOf 172 = .ok (.goto (-168), 3) := by decide +kernel
theorem dX9_faultOf_175 : decode cX9_faultOf 175 = .ok (.iload_n 1, 1) := by decide +kernel
theorem dX9_faultOf_176 : decode cX9_faultOf 176 = .ok (.iconst 2, 1) := by decide +kernel
theorem dX9_faultOf_177 : decode cX9_faultOf 177 = .ok (.if_icmp .le 8, 3) := by decide +kernel
theorem dX9_faultOf_180 : decode cX9_faultOf 180 = .ok (.bipush (-6), 2) := by decide +kernel
theorem dX9_faultOf_182 : decode cX9_faultOf 182 = .ok (.goto 7, 3) := by decide +kernel
theorem dX9_faultOf_185 : decode cX9_faultOf 185 = .ok (.aload_n 0, 1) := by decide +kernel
theorem dX9_faultOf_186 : decode cX9_faultOf 186 = .ok (.getfield 135, 3) := by decide +kernel
theorem dX9_faultOf_189 : decode cX9_faultOf 189 = .ok (.ireturn, 1) := by decide +kernel
set_option maxRecDepth 20000 in
theorem ggX9_fault_X9_faultOf : GoodIn wsX9_fault wsX9_faultOf := goodIn_r _ [5, 6, 7, 8, 9, 4, 10, 11, 12, 13, 14, 15, 16, 17, 18, 19, 20, 21, 22, 23, 24, 25, 26, 27, 28] (by decide +kernel) (by decide +kernel)
set_option maxRecDepth 20000 in
theorem gX9_fault_X9_faultOf : GoodIn wsX9_fault (wsV RX9 138 RX9 yX9_faultOf wsX9_faultOf) := goodIn_app (goodIn_of _ (by decide +kernel)) ggX9_fault_X9_faultOf
theorem dX9_fault_0 : decode cX9_fault 0 = .ok (.aload_n 0, 1) := by decide +kernel
theorem dX9_fault_1 : decode cX9_fault 1 = .ok (.invokevirtual 138, 3) := by decide +kernel
theorem dX9_fault_4 : decode cX9_fault 4 = .ok (.ireturn, 1) := by decide +kernel
set_option maxRecDepth 20000 in
theorem ggX9_rule_X9_faultOf : GoodIn wsX9_rule wsX9_faultOf := goodIn_r _ [9, 1, 4, 10, 11, 8, 12, 13, 14, 15, 16, 17, 18, 19, 20, 21, 22, 23, 24, 25, 26, 27, 28, 29, 30] (by decide +kernel) (by decide +kernel)
set_option maxRecDepth 20000 in
theorem gX9_rule_X9_faultOf : GoodIn wsX9_rule (wsV RX9 138 RX9 yX9_faultOf wsX9_faultOf) := goodIn_app (goodIn_of _ (by decide +kernel)) ggX9_rule_X9_faultOf
theorem dX9_rule_0 : decode cX9_rule 0 = .ok (.aload_n 0, 1) := by decide +kernel
theorem dX9_rule_1 : decode cX9_rule 1 = .ok (.invokevirtual 138, 3) := by decide +kernel
theorem dX9_rule_4 : decode cX9_rule 4 = .ok (.ifCond .lt 6, 3) := by decide +kernel
theorem dX9_rule_7 : decode cX9_rule 7 = .ok (.bipush (-5), 2) := by decide +kernel
theorem dX9_rule_9 : decode cX9_rule 9 = .ok (.ireturn, 1) := by decide +kernel
theorem dX9_rule_10 : decode cX9_rule 10 = .ok (.aload_n 0, 1) := by decide +kernel
theorem dX9_rule_11 : decode cX9_rule 11 = .ok (.aload_n 0, 1) := by decide +kernel
theorem dX9_rule_12 : decode cX9_rule 12 = .ok (.getfield 135, 3) := by decide +kernel
theorem dX9_rule_15 : decode cX9_rule 15 = .ok (.putfield 141, 3) := by decide +kernel
theorem dX9_rule_18 : decode cX9_rule 18 = .ok (.iconst 0, 1) := by decide +kernel
theorem dX9_rule_19 : decode cX9_rule 19 = .ok (.istore_n 1, 1) := by decide +kernel
theorem dX9_rule_20 : decode cX9_rule 20 = .ok (.iload_n 1, 1) := by decide +kernel
theorem dX9_rule_21 : decode cX9_rule 21 = .ok (.aload_n 0, 1) := by decide +kernel
theorem dX9_rule_22 : decode cX9_rule 22 = .ok (.getfield 135, 3) := by decide +kernel
theorem dX9_rule_25 : decode cX9_rule 25 = .ok (.if_icmp .ge 21, 3) := by decide +kernel
theorem dX9_rule_28 : decode cX9_rule 28 = .ok (.aload_n 0, 1) := by decide +kernel
theorem dX9_rule_29 : decode cX9_rule 29 = .ok (.getfield 23, 3) := by decide +kernel
theorem dX9_rule_32 : decode cX9_rule 32 = .ok (.iload_n 1, 1) := by decide +kernel
theorem dX9_rule_33 : decode cX9_rule 33 = .ok (.aload_n 0, 1) := by decide +kernel
theorem dX9_rule_34 : decode cX9_rule 34 = .ok (.getfield 20, 3) := by decide +kernel
theorem dX9_rule_37 : decode cX9_rule 37 = .ok (.iload_n 1, 1) := by decide +kernel
theorem dX9_rule_38 : decode cX9_rule 38 = .ok (.iaload, 1) := by decide +kernel
theorem dX9_rule_39 : decode cX9_rule 39 = .ok (.iastore, 1) := by decide +kernel
theorem dX9_rule_40 : decode cX9_rule 40 = .ok (.iinc 1 1, 3) := by decide +kernel
theorem dX9_rule_43 : decode cX9_rule 43 = .ok (.goto (-23), 3) := by decide +kernel
theorem dX9_rule_46 : decode cX9_rule 46 = .ok (.aload_n 0, 1) := by decide +kernel
theorem dX9_rule_47 : decode cX9_rule 47 = .ok (.iconst 0, 1) := by decide +kernel
theorem dX9_rule_48 : decode cX9_rule 48 = .ok (.putfield 135, 3) := by decide +kernel
theorem dX9_rule_51 : decode cX9_rule 51 = .ok (.iconst 1, 1) := by decide +kernel
theorem dX9_rule_52 : decode cX9_rule 52 = .ok (.ireturn, 1) := by decide +kernel
set_option maxRecDepth 20000 in
theorem ggX9_mayVote_X9_in : GoodIn wsX9_mayVote wsX9_in := goodIn_r _ [7] (by decide +kernel) (by decide +kernel)
set_option maxRecDepth 20000 in
theorem gX9_mayVote_X9_in : GoodIn wsX9_mayVote (va_wsS RX9 51 yX9_in wsX9_in) := goodIn_app (goodIn_of _ (by decide +kernel)) ggX9_mayVote_X9_in
theorem dX9_mayVote_0 : decode cX9_mayVote 0 = .ok (.aload_n 0, 1) := by decide +kernel
theorem dX9_mayVote_1 : decode cX9_mayVote 1 = .ok (.getfield 141, 3) := by decide +kernel
theorem dX9_mayVote_4 : decode cX9_mayVote 4 = .ok (.ifCond .ne 5, 3) := by decide +kernel
theorem dX9_mayVote_7 : decode cX9_mayVote 7 = .ok (.iconst 1, 1) := by decide +kernel
theorem dX9_mayVote_8 : decode cX9_mayVote 8 = .ok (.ireturn, 1) := by decide +kernel
theorem dX9_mayVote_9 : decode cX9_mayVote 9 = .ok (.iconst 0, 1) := by decide +kernel
theorem dX9_mayVote_10 : decode cX9_mayVote 10 = .ok (.istore_n 2, 1) := by decide +kernel
theorem dX9_mayVote_11 : decode cX9_mayVote 11 = .ok (.iconst 1, 1) := by decide +kernel
theorem dX9_mayVote_12 : decode cX9_mayVote 12 = .ok (.istore_n 3, 1) := by decide +kernel
theorem dX9_mayVote_13 : decode cX9_mayVote 13 = .ok (.iconst 0, 1) := by decide +kernel
theorem dX9_mayVote_14 : decode cX9_mayVote 14 = .ok (.istore 4, 2) := by decide +kernel
theorem dX9_mayVote_16 : decode cX9_mayVote 16 = .ok (.iload 4, 2) := by decide +kernel
theorem dX9_mayVote_18 : decode cX9_mayVote 18 = .ok (.aload_n 0, 1) := by decide +kernel
theorem dX9_mayVote_19 : decode cX9_mayVote 19 = .ok (.getfield 141, 3) := by decide +kernel
theorem dX9_mayVote_22 : decode cX9_mayVote 22 = .ok (.if_icmp .ge 212, 3) := by decide +kernel
theorem dX9_mayVote_25 : decode cX9_mayVote 25 = .ok (.aload_n 0, 1) := by decide +kernel
theorem dX9_mayVote_26 : decode cX9_mayVote 26 = .ok (.getfield 23, 3) := by decide +kernel
theorem dX9_mayVote_29 : decode cX9_mayVote 29 = .ok (.iload 4, 2) := by decide +kernel
theorem dX9_mayVote_31 : decode cX9_mayVote 31 = .ok (.iaload, 1) := by decide +kernel
theorem dX9_mayVote_32 : decode cX9_mayVote 32 = .ok (.bipush 97, 2) := by decide +kernel
theorem dX9_mayVote_34 : decode cX9_mayVote 34 = .ok (.if_icmp .ne 7, 3) := by decide +kernel
theorem dX9_mayVote_37 : decode cX9_mayVote 37 = .ok (.iconst 0, 1) := by decide +kernel
theorem dX9_mayVote_38 : decode cX9_mayVote 38 = .ok (.goto 20, 3) := by decide +kernel
theorem dX9_mayVote_41 : decode cX9_mayVote 41 = .ok (.aload_n 0, 1) := by decide +kernel
theorem dX9_mayVote_42 : decode cX9_mayVote 42 = .ok (.getfield 23, 3) := by decide +kernel
theorem dX9_mayVote_45 : decode cX9_mayVote 45 = .ok (.iload 4, 2) := by decide +kernel
theorem dX9_mayVote_47 : decode cX9_mayVote 47 = .ok (.iaload, 1) := by decide +kernel
theorem dX9_mayVote_48 : decode cX9_mayVote 48 = .ok (.bipush 121, 2) := by decide +kernel
theorem dX9_mayVote_50 : decode cX9_mayVote 50 = .ok (.if_icmp .ne 7, 3) := by decide +kernel
theorem dX9_mayVote_53 : decode cX9_mayVote 53 = .ok (.iconst 1, 1) := by decide +kernel
theorem dX9_mayVote_54 : decode cX9_mayVote 54 = .ok (.goto 4, 3) := by decide +kernel
theorem dX9_mayVote_57 : decode cX9_mayVote 57 = .ok (.iconst 2, 1) := by decide +kernel
theorem dX9_mayVote_58 : decode cX9_mayVote 58 = .ok (.istore 5, 2) := by decide +kernel
theorem dX9_mayVote_60 : decode cX9_mayVote 60 = .ok (.aload_n 0, 1) := by decide +kernel
theorem dX9_mayVote_61 : decode cX9_mayVote 61 = .ok (.getfield 17, 3) := by decide +kernel
theorem dX9_mayVote_64 : decode cX9_mayVote 64 = .ok (.iconst 3, 1) := by decide +kernel
theorem dX9_mayVote_65 : decode cX9_mayVote 65 = .ok (.iload_n 1, 1) := by decide +kernel
theorem dX9_mayVote_66 : decode cX9_mayVote 66 = .ok (.imul, 1) := by decide +kernel
theorem dX9_mayVote_67 : decode cX9_mayVote 67 = .ok (.iload 5, 2) := by decide +kernel
theorem dX9_mayVote_69 : decode cX9_mayVote 69 = .ok (.iadd, 1) := by decide +kernel
theorem dX9_mayVote_70 : decode cX9_mayVote 70 = .ok (.iaload, 1) := by decide +kernel
theorem dX9_mayVote_71 : decode cX9_mayVote 71 = .ok (.istore 6, 2) := by decide +kernel
theorem dX9_mayVote_73 : decode cX9_mayVote 73 = .ok (.aload_n 0, 1) := by decide +kernel
theorem dX9_mayVote_74 : decode cX9_mayVote 74 = .ok (.getfield 23, 3) := by decide +kernel
theorem dX9_mayVote_77 : decode cX9_mayVote 77 = .ok (.iload 4, 2) := by decide +kernel
theorem dX9_mayVote_79 : decode cX9_mayVote 79 = .ok (.iconst 1, 1) := by decide +kernel
theorem dX9_mayVote_80 : decode cX9_mayVote 80 = .ok (.iadd, 1) := by decide +kernel
theorem dX9_mayVote_81 : decode cX9_mayVote 81 = .ok (.iaload, 1) := by decide +kernel
theorem dX9_mayVote_82 : decode cX9_mayVote 82 = .ok (.istore 7, 2) := by decide +kernel
theorem dX9_mayVote_84 : decode cX9_mayVote 84 = .ok (.iconst 0, 1) := by decide +kernel
theorem dX9_mayVote_85 : decode cX9_mayVote 85 = .ok (.istore 8, 2) := by decide +kernel
theorem dX9_mayVote_87 : decode cX9_mayVote 87 = .ok (.iinc 4 2, 3) := by decide +kernel
theorem dX9_mayVote_90 : decode cX9_mayVote 90 = .ok (.iload 4, 2) := by decide +kernel
theorem dX9_mayVote_92 : decode cX9_mayVote 92 = .ok (.aload_n 0, 1) := by decide +kernel
theorem dX9_mayVote_93 : decode cX9_mayVote 93 = .ok (.getfield 141, 3) := by decide +kernel
theorem dX9_mayVote_96 : decode cX9_mayVote 96 = .ok (.if_icmp .ge 44, 3) := by decide +kernel
theorem dX9_mayVote_99 : decode cX9_mayVote 99 = .ok (.aload_n 0, 1) := by decide +kernel
theorem dX9_mayVote_100 : decode cX9_mayVote 100 = .ok (.getfield 23, 3) := by decide +kernel
theorem dX9_mayVote_103 : decode cX9_mayVote 103 = .ok (.iload 4, 2) := by decide +kernel
theorem dX9_mayVote_105 : decode cX9_mayVote 105 = .ok (.iaload, 1) := by decide +kernel
theorem dX9_mayVote_106 : decode cX9_mayVote 106 = .ok (.bipush 48, 2) := by decide +kernel
theorem dX9_mayVote_108 : decode cX9_mayVote 108 = .ok (.bipush 57, 2) := by decide +kernel
theorem dX9_mayVote_110 : decode cX9_mayVote 110 = .ok (.invokestatic 51, 3) := by decide +kernel
theorem dX9_mayVote_113 : decode cX9_mayVote 113 = .ok (.ifCond .eq 27, 3) := by decide +kernel
theorem dX9_mayVote_116 : decode cX9_mayVote 116 = .ok (.bipush 10, 2) := by decide +kernel
theorem dX9_mayVote_118 : decode cX9_mayVote 118 = .ok (.iload 8, 2) := by decide +kernel
theorem dX9_mayVote_120 : decode cX9_mayVote 120 = .ok (.imul, 1) := by decide +kernel
theorem dX9_mayVote_121 : decode cX9_mayVote 121 = .ok (.aload_n 0, 1) := by decide +kernel
theorem dX9_mayVote_122 : decode cX9_mayVote 122 = .ok (.getfield 23, 3) := by decide +kernel
theorem dX9_mayVote_125 : decode cX9_mayVote 125 = .ok (.iload 4, 2) := by decide +kernel
theorem dX9_mayVote_127 : decode cX9_mayVote 127 = .ok (.iaload, 1) := by decide +kernel
theorem dX9_mayVote_128 : decode cX9_mayVote 128 = .ok (.iadd, 1) := by decide +kernel
theorem dX9_mayVote_129 : decode cX9_mayVote 129 = .ok (.bipush 48, 2) := by decide +kernel
theorem dX9_mayVote_131 : decode cX9_mayVote 131 = .ok (.isub, 1) := by decide +kernel
theorem dX9_mayVote_132 : decode cX9_mayVote 132 = .ok (.istore 8, 2) := by decide +kernel
theorem dX9_mayVote_134 : decode cX9_mayVote 134 = .ok (.iinc 4 1, 3) := by decide +kernel
theorem dX9_mayVote_137 : decode cX9_mayVote 137 = .ok (.goto (-47), 3) := by decide +kernel
theorem dX9_mayVote_140 : decode cX9_mayVote 140 = .ok (.iload_n 3, 1) := by decide +kernel
theorem dX9_mayVote_141 : decode cX9_mayVote 141 = .ok (.ifCond .eq 48, 3) := by decide +kernel
theorem dX9_mayVote_144 : decode cX9_mayVote 144 = .ok (.iload 7, 2) := by decide +kernel
theorem dX9_mayVote_146 : decode cX9_mayVote 146 = .ok (.bipush 60, 2) := by decide +kernel
theorem dX9_mayVote_148 : decode cX9_mayVote 148 = .ok (.if_icmp .ne 13, 3) := by decide +kernel
theorem dX9_mayVote_151 : decode cX9_mayVote 151 = .ok (.iload 6, 2) := by decide +kernel
theorem dX9_mayVote_153 : decode cX9_mayVote 153 = .ok (.iload 8, 2) := by decide +kernel
theorem dX9_mayVote_155 : decode cX9_mayVote 155 = .ok (.if_icmp .ge 34, 3) := by decide +kernel
theorem dX9_mayVote_158 : decode cX9_mayVote 158 = .ok (.goto 27, 3) := by decide +kernel
theorem dX9_mayVote_161 : decode cX9_mayVote 161 = .ok (.iload 7, 2) := by decide +kernel
theorem dX9_mayVote_163 : decode cX9_mayVote 163 = .ok (.bipush 62, 2) := by decide +kernel
theorem dX9_mayVote_165 : decode cX9_mayVote 165 = .ok (.if_icmp .ne 13, 3) := by decide +kernel
theorem dX9_mayVote_168 : decode cX9_mayVote 168 = .ok (.iload 6, 2) := by decide +kernel
theorem dX9_mayVote_170 : decode cX9_mayVote 170 = .ok (.iload 8, 2) := by decide +kernel
theorem dX9_mayVote_172 : decode cX9_mayVote 172 = .ok (.if_icmp .le 17, 3) := by decide +kernel
theorem dX9_mayVote_175 : decode cX9_mayVote 175 = .ok (.goto 10, 3) := by decide +kernel
theorem dX9_mayVote_178 : decode cX9_mayVote 178 = .ok (.iload 6, 2) := by decide +kernel
theorem dX9_mayVote_180 : decode cX9_mayVote 180 = .ok (.iload 8, 2) := by decide +kernel
theorem dX9_mayVote_182 : decode cX9_mayVote 182 = .ok (.if_icmp .ne 7, 3) := by decide +kernel
theorem dX9_mayVote_185 : decode cX9_mayVote 185 = .ok (.iconst 1, 1) := by decide +kernel
theorem dX9_mayVote_186 : decode cX9_mayVote 186 = .ok (.goto 4, 3) := by decide +kernel
theorem dX9_mayVote_189 : decode cX9_mayVote 189 = .ok (.iconst 0, 1) := by decide +kernel
theorem dX9_mayVote_190 : decode cX9_mayVote 190 = .ok (.istore_n 3, 1) := by decide +kernel
theorem dX9_mayVote_191 : decode cX9_mayVote 191 = .ok (.iload 4, 2) := by decide +kernel
theorem dX9_mayVote_193 : decode cX9_mayVote 193 = .ok (.aload_n 0, 1) := by decide +kernel
theorem dX9_mayVote_194 : decode cX9_mayVote 194 = .ok (.getfield 141, 3) := by decide +kernel
theorem dX9_mayVote_197 : decode cX9_mayVote 197 = .ok (.if_icmp .eq 15, 3) := by decide +kernel
theorem dX9_mayVote_200 : decode cX9_mayVote 200 = .ok (.aload_n 0, 1) := by decide +kernel
theorem dX9_mayVote_201 : decode cX9_mayVote 201 = .ok (.getfield 23, 3) := by decide +kernel
theorem dX9_mayVote_204 : decode cX9_mayVote 204 = .ok (.iload 4, 2) := by decide +kernel
theorem dX9_mayVote_206 : decode cX9_mayVote 206 = .ok (.iaload, 1) := by decide +kernel
theorem dX9_mayVote_207 : decode cX9_mayVote 207 = .ok (.bipush 124, 2) := by decide +kernel
theorem dX9_mayVote_209 : decode cX9_mayVote 209 = .ok (.if_icmp .ne 19, 3) := by decide +kernel
theorem dX9_mayVote_212 : decode cX9_mayVote 212 = .ok (.iload_n 2, 1) := by decide +kernel
theorem dX9_mayVote_213 : decode cX9_mayVote 213 = .ok (.ifCond .ne 7, 3) := by decide +kernel
theorem dX9_mayVote_216 : decode cX9_mayVote 216 = .ok (.iload_n 3, 1) := by decide +kernel
theorem dX9_mayVote_217 : decode cX9_mayVote 217 = .ok (.ifCond .eq 7, 3) := by decide +kernel
theorem dX9_mayVote_220 : decode cX9_mayVote 220 = .ok (.iconst 1, 1) := by decide +kernel
theorem dX9_mayVote_221 : decode cX9_mayVote 221 = .ok (.goto 4, 3) := by decide +kernel
theorem dX9_mayVote_224 : decode cX9_mayVote 224 = .ok (.iconst 0, 1) := by decide +kernel
theorem dX9_mayVote_225 : decode cX9_mayVote 225 = .ok (.istore_n 2, 1) := by decide +kernel
theorem dX9_mayVote_226 : decode cX9_mayVote 226 = .ok (.iconst 1, 1) := by decide +kernel
theorem dX9_mayVote_227 : decode cX9_mayVote 227 = .ok (.istore_n 3, 1) := by decide +kernel
theorem dX9_mayVote_228 : decode cX9_mayVote 228 = .ok (.iinc 4 1, 3) := by decide +kernel
theorem dX9_mayVote_231 : decode cX9_mayVote 231 = .ok (.goto (-215), 3) := by decide +kernel
theorem dX9_mayVote_234 : decode cX9_mayVote 234 = .ok (.iload_n 2, 1) := by decide +kernel
theorem dX9_mayVote_235 : decode cX9_mayVote 235 = .ok (.ireturn, 1) := by decide +kernel
set_option maxRecDepth 20000 in
theorem ggX9_may_X9_isVoter : GoodIn wsX9_may wsX9_isVoter := goodIn_r _ [4, 5, 6, 3, 7] (by decide +kernel) (by decide +kernel)
set_option maxRecDepth 20000 in
theorem gX9_may_X9_isVoter : GoodIn wsX9_may (va_wsS RX9 132 yX9_isVoter wsX9_isVoter) := goodIn_app (goodIn_of _ (by decide +kernel)) ggX9_may_X9_isVoter
set_option maxRecDepth 20000 in
theorem ggX9_may_X9_mayVote : GoodIn wsX9_may wsX9_mayVote := goodIn_r _ [11, 12, 13, 14, 5, 6, 3, 7, 15, 16, 17, 18, 19, 20, 21, 22, 23, 24, 25, 26, 27, 28, 29, 30, 31, 32] (by decide +kernel) (by decide +kernel)
set_option maxRecDepth 20000 in
theorem gX9_may_X9_mayVote : GoodIn wsX9_may (wsV RX9 144 RX9 yX9_mayVote wsX9_mayVote) := goodIn_app (goodIn_of _ (by decide +kernel)) ggX9_may_X9_mayVote
theorem dX9_may_0 : decode cX9_may 0 = .ok (.iload_n 1, 1) := by decide +kernel
theorem dX9_may_1 : decode cX9_may 1 = .ok (.invokestatic 132, 3) := by decide +kernel
theorem dX9_may_4 : decode cX9_may 4 = .ok (.ifCond .ne 7, 3) := by decide +kernel
theorem dX9_may_7 : decode cX9_may 7 = .ok (.iconst (-1), 1) := by decide +kernel
theorem dX9_may_8 : decode cX9_may 8 = .ok (.goto 16, 3) := by decide +kernel
theorem dX9_may_11 : decode cX9_may 11 = .ok (.aload_n 0, 1) := by decide +kernel
theorem dX9_may_12 : decode cX9_may 12 = .ok (.iload_n 1, 1) := by decide +kernel
theorem dX9_may_13 : decode cX9_may 13 = .ok (.invokevirtual 144, 3) := by decide +kernel
theorem dX9_may_16 : decode cX9_may 16 = .ok (.ifCond .eq 7, 3) := by decide +kernel
theorem dX9_may_19 : decode cX9_may 19 = .ok (.iconst 1, 1) := by decide +kernel
theorem dX9_may_20 : decode cX9_may 20 = .ok (.goto 4, 3) := by decide +kernel
theorem dX9_may_23 : decode cX9_may 23 = .ok (.iconst 0, 1) := by decide +kernel
theorem dX9_may_24 : decode cX9_may 24 = .ok (.ireturn, 1) := by decide +kernel
set_option maxRecDepth 20000 in
theorem ggX9_isHour_X9_in : GoodIn wsX9_isHour wsX9_in := goodIn_r _ [4] (by decide +kernel) (by decide +kernel)
set_option maxRecDepth 20000 in
theorem gX9_isHour_X9_in : GoodIn wsX9_isHour (va_wsS RX9 51 yX9_in wsX9_in) := goodIn_app (goodIn_of _ (by decide +kernel)) ggX9_isHour_X9_in
theorem dX9_isHour_0 : decode cX9_isHour 0 = .ok (.iload_n 0, 1) := by decide +kernel
theorem dX9_isHour_1 : decode cX9_isHour 1 = .ok (.iconst 0, 1) := by decide +kernel
theorem dX9_isHour_2 : decode cX9_isHour 2 = .ok (.sipush 999, 3) := by decide +kernel
theorem dX9_isHour_5 : decode cX9_isHour 5 = .ok (.invokestatic 51, 3) := by decide +kernel
theorem dX9_isHour_8 : decode cX9_isHour 8 = .ok (.ireturn, 1) := by decide +kernel
set_option maxRecDepth 20000 in
theorem ggX9_isTold_X9_in : GoodIn wsX9_isTold wsX9_in := goodIn_r _ [5] (by decide +kernel) (by decide +kernel)
set_option maxRecDepth 20000 in
theorem gX9_isTold_X9_in : GoodIn wsX9_isTold (va_wsS RX9 51 yX9_in wsX9_in) := goodIn_app (goodIn_of _ (by decide +kernel)) ggX9_isTold_X9_in
theorem dX9_isTold_0 : decode cX9_isTold 0 = .ok (.iload_n 0, 1) := by decide +kernel
theorem dX9_isTold_1 : decode cX9_isTold 1 = .ok (.iconst 0, 1) := by decide +kernel
theorem dX9_isTold_2 : decode cX9_isTold 2 = .ok (.ldc 147, 2) := by decide +kernel
theorem dX9_isTold_4 : decode cX9_isTold 4 = .ok (.invokestatic 51, 3) := by decide +kernel
theorem dX9_isTold_7 : decode cX9_isTold 7 = .ok (.ireturn, 1) := by decide +kernel
set_option maxRecDepth 20000 in
theorem ggX9_close_X9_isHour : GoodIn wsX9_close wsX9_isHour := goodIn_r _ [5, 6, 7, 4, 8] (by decide +kernel) (by decide +kernel)
set_option maxRecDepth 20000 in
theorem gX9_close_X9_isHour : GoodIn wsX9_close (va_wsS RX9 148 yX9_isHour wsX9_isHour) := goodIn_app (goodIn_of _ (by decide +kernel)) ggX9_close_X9_isHour
theorem dX9_close_0 : decode cX9_close 0 = .ok (.iload_n 1, 1) := by decide +kernel
theorem dX9_close_1 : decode cX9_close 1 = .ok (.invokestatic 148, 3) := by decide +kernel
theorem dX9_close_4 : decode cX9_close 4 = .ok (.ifCond .ne 6, 3) := by decide +kernel
theorem dX9_close_7 : decode cX9_close 7 = .ok (.bipush (-2), 2) := by decide +kernel
theorem dX9_close_9 : decode cX9_close 9 = .ok (.ireturn, 1) := by decide +kernel
theorem dX9_close_10 : decode cX9_close 10 = .ok (.aload_n 0, 1) := by decide +kernel
theorem dX9_close_11 : decode cX9_close 11 = .ok (.getfield 26, 3) := by decide +kernel
theorem dX9_close_14 : decode cX9_close 14 = .ok (.istore_n 2, 1) := by decide +kernel
theorem dX9_close_15 : decode cX9_close 15 = .ok (.aload_n 0, 1) := by decide +kernel
theorem dX9_close_16 : decode cX9_close 16 = .ok (.iload_n 1, 1) := by decide +kernel
theorem dX9_close_17 : decode cX9_close 17 = .ok (.putfield 26, 3) := by decide +kernel
theorem dX9_close_20 : decode cX9_close 20 = .ok (.iload_n 2, 1) := by decide +kernel
theorem dX9_close_21 : decode cX9_close 21 = .ok (.ireturn, 1) := by decide +kernel
theorem dX9_addRow_0 : decode cX9_addRow 0 = .ok (.aload_n 0, 1) := by decide +kernel
theorem dX9_addRow_1 : decode cX9_addRow 1 = .ok (.getfield 29, 3) := by decide +kernel
theorem dX9_addRow_4 : decode cX9_addRow 4 = .ok (.aload_n 0, 1) := by decide +kernel
theorem dX9_addRow_5 : decode cX9_addRow 5 = .ok (.getfield 72, 3) := by decide +kernel
theorem dX9_addRow_8 : decode cX9_addRow 8 = .ok (.iload_n 1, 1) := by decide +kernel
theorem dX9_addRow_9 : decode cX9_addRow 9 = .ok (.iastore, 1) := by decide +kernel
theorem dX9_addRow_10 : decode cX9_addRow 10 = .ok (.aload_n 0, 1) := by decide +kernel
theorem dX9_addRow_11 : decode cX9_addRow 11 = .ok (.getfield 32, 3) := by decide +kernel
theorem dX9_addRow_14 : decode cX9_addRow 14 = .ok (.aload_n 0, 1) := by decide +kernel
theorem dX9_addRow_15 : decode cX9_addRow 15 = .ok (.getfield 72, 3) := by decide +kernel
theorem dX9_addRow_18 : decode cX9_addRow 18 = .ok (.iload_n 2, 1) := by decide +kernel
theorem dX9_addRow_19 : decode cX9_addRow 19 = .ok (.iastore, 1) := by decide +kernel
theorem dX9_addRow_20 : decode cX9_addRow 20 = .ok (.aload_n 0, 1) := by decide +kernel
theorem dX9_addRow_21 : decode cX9_addRow 21 = .ok (.getfield 35, 3) := by decide +kernel
theorem dX9_addRow_24 : decode cX9_addRow 24 = .ok (.aload_n 0, 1) := by decide +kernel
theorem dX9_addRow_25 : decode cX9_addRow 25 = .ok (.getfield 72, 3) := by decide +kernel
theorem dX9_addRow_28 : decode cX9_addRow 28 = .ok (.iload_n 3, 1) := by decide +kernel
theorem dX9_addRow_29 : decode cX9_addRow 29 = .ok (.iastore, 1) := by decide +kernel
theorem dX9_addRow_30 : decode cX9_addRow 30 = .ok (.aload_n 0, 1) := by decide +kernel
theorem dX9_addRow_31 : decode cX9_addRow 31 = .ok (.getfield 38, 3) := by decide +kernel
theorem dX9_addRow_34 : decode cX9_addRow 34 = .ok (.aload_n 0, 1) := by decide +kernel
theorem dX9_addRow_35 : decode cX9_addRow 35 = .ok (.getfield 72, 3) := by decide +kernel
theorem dX9_addRow_38 : decode cX9_addRow 38 = .ok (.iload 4, 2) := by decide +kernel
theorem dX9_addRow_40 : decode cX9_addRow 40 = .ok (.iastore, 1) := by decide +kernel
theorem dX9_addRow_41 : decode cX9_addRow 41 = .ok (.aload_n 0, 1) := by decide +kernel
theorem dX9_addRow_42 : decode cX9_addRow 42 = .ok (.getfield 41, 3) := by decide +kernel
theorem dX9_addRow_45 : decode cX9_addRow 45 = .ok (.aload_n 0, 1) := by decide +kernel
theorem dX9_addRow_46 : decode cX9_addRow 46 = .ok (.getfield 72, 3) := by decide +kernel
theorem dX9_addRow_49 : decode cX9_addRow 49 = .ok (.iload 5, 2) := by decide +kernel
theorem dX9_addRow_51 : decode cX9_addRow 51 = .ok (.bastore, 1) := by decide +kernel
theorem dX9_addRow_52 : decode cX9_addRow 52 = .ok (.iconst 0, 1) := by decide +kernel
theorem dX9_addRow_53 : decode cX9_addRow 53 = .ok (.istore 6, 2) := by decide +kernel
theorem dX9_addRow_55 : decode cX9_addRow 55 = .ok (.iload 6, 2) := by decide +kernel
theorem dX9_addRow_57 : decode cX9_addRow 57 = .ok (.iconst 4, 1) := by decide +kernel
theorem dX9_addRow_58 : decode cX9_addRow 58 = .ok (.if_icmp .ge 24, 3) := by decide +kernel
theorem dX9_addRow_61 : decode cX9_addRow 61 = .ok (.aload_n 0, 1) := by decide +kernel
theorem dX9_addRow_62 : decode cX9_addRow 62 = .ok (.getfield 45, 3) := by decide +kernel
theorem dX9_addRow_65 : decode cX9_addRow 65 = .ok (.iconst 4, 1) := by decide +kernel
theorem dX9_addRow_66 : decode cX9_addRow 66 = .ok (.aload_n 0, 1) := by decide +kernel
theorem dX9_addRow_67 : decode cX9_addRow 67 = .ok (.getfield 72, 3) := by decide +kernel
theorem dX9_addRow_70 : decode cX9_addRow 70 = .ok (.imul, 1) := by decide +kernel
theorem dX9_addRow_71 : decode cX9_addRow 71 = .ok (.iload 6, 2) := by decide +kernel
theorem dX9_addRow_73 : decode cX9_addRow 73 = .ok (.iadd, 1) := by decide +kernel
theorem dX9_addRow_74 : decode cX9_addRow 74 = .ok (.iconst 0, 1) := by decide +kernel
theorem dX9_addRow_75 : decode cX9_addRow 75 = .ok (.iastore, 1) := by decide +kernel
theorem dX9_addRow_76 : decode cX9_addRow 76 = .ok (.iinc 6 1, 3) := by decide +kernel
theorem dX9_addRow_79 : decode cX9_addRow 79 = .ok (.goto (-24), 3) := by decide +kernel
theorem dX9_addRow_82 : decode cX9_addRow 82 = .ok (.aload_n 0, 1) := by decide +kernel
theorem dX9_addRow_83 : decode cX9_addRow 83 = .ok (.dup, 1) := by decide +kernel
theorem dX9_addRow_84 : decode cX9_addRow 84 = .ok (.getfield 72, 3) := by decide +kernel
theorem dX9_addRow_87 : decode cX9_addRow 87 = .ok (.iconst 1, 1) := by decide +kernel
theorem dX9_addRow_88 : decode cX9_addRow 88 = .ok (.iadd, 1) := by decide +kernel
theorem dX9_addRow_89 : decode cX9_addRow 89 = .ok (.putfield 72, 3) := by decide +kernel
theorem dX9_addRow_92 : decode cX9_addRow 92 = .ok (.aload_n 0, 1) := by decide +kernel
theorem dX9_addRow_93 : decode cX9_addRow 93 = .ok (.getfield 72, 3) := by decide +kernel
theorem dX9_addRow_96 : decode cX9_addRow 96 = .ok (.iconst 1, 1) := by decide +kernel
theorem dX9_addRow_97 : decode cX9_addRow 97 = .ok (.isub, 1) := by decide +kernel
theorem dX9_addRow_98 : decode cX9_addRow 98 = .ok (.ireturn, 1) := by decide +kernel
set_option maxRecDepth 20000 in
theorem ggX9_row_X9_isVoter : GoodIn wsX9_row wsX9_isVoter := goodIn_r _ [5, 6, 7, 4, 8] (by decide +kernel) (by decide +kernel)
set_option maxRecDepth 20000 in
theorem gX9_row_X9_isVoter : GoodIn wsX9_row (va_wsS RX9 132 yX9_isVoter wsX9_isVoter) := goodIn_app (goodIn_of _ (by decide +kernel)) ggX9_row_X9_isVoter
set_option maxRecDepth 20000 in
theorem ggX9_row_X9_isTold : GoodIn wsX9_row wsX9_isTold := goodIn_r _ [11, 12, 6, 7, 4, 8] (by decide +kernel) (by decide +kernel)
set_option maxRecDepth 20000 in
theorem gX9_row_X9_isTold : GoodIn wsX9_row (va_wsS RX9 151 yX9_isTold wsX9_isTold) := goodIn_app (goodIn_of _ (by decide +kernel)) ggX9_row_X9_isTold
set_option maxRecDepth 20000 in
theorem ggX9_row_X9_isHour : GoodIn wsX9_row wsX9_isHour := goodIn_r _ [15, 6, 7, 4, 8] (by decide +kernel) (by decide +kernel)
set_option maxRecDepth 20000 in
theorem gX9_row_X9_isHour : GoodIn wsX9_row (va_wsS RX9 148 yX9_isHour wsX9_isHour) := goodIn_app (goodIn_of _ (by decide +kernel)) ggX9_row_X9_isHour
set_option maxRecDepth 20000 in
theorem ggX9_row_X9_addRow : GoodIn wsX9_row wsX9_addRow := goodIn_r _ [19, 20, 1, 21, 22, 23, 24, 25, 26, 27, 28, 29, 30, 31, 32, 33, 34, 35, 36, 37, 38, 39, 40, 41, 42, 43] (by decide +kernel) (by decide +kernel)
set_option maxRecDepth 20000 in
theorem gX9_row_X9_addRow : GoodIn wsX9_row (wsV RX9 154 RX9 yX9_addRow wsX9_addRow) := goodIn_app (goodIn_of _ (by decide +kernel)) ggX9_row_X9_addRow
theorem dX9_row_0 : decode cX9_row 0 = .ok (.iload_n 1, 1) := by decide +kernel
theorem dX9_row_1 : decode cX9_row 1 = .ok (.invokestatic 132, 3) := by decide +kernel
theorem dX9_row_4 : decode cX9_row 4 = .ok (.ifCond .ne 5, 3) := by decide +kernel
theorem dX9_row_7 : decode cX9_row 7 = .ok (.iconst (-1), 1) := by decide +kernel
theorem dX9_row_8 : decode cX9_row 8 = .ok (.ireturn, 1) := by decide +kernel
theorem dX9_row_9 : decode cX9_row 9 = .ok (.iload_n 2, 1) := by decide +kernel
theorem dX9_row_10 : decode cX9_row 10 = .ok (.invokestatic 151, 3) := by decide +kernel
theorem dX9_row_13 : decode cX9_row 13 = .ok (.ifCond .eq 18, 3) := by decide +kernel
theorem dX9_row_16 : decode cX9_row 16 = .ok (.iload_n 3, 1) := by decide +kernel
theorem dX9_row_17 : decode cX9_row 17 = .ok (.invokestatic 151, 3) := by decide +kernel
theorem dX9_row_20 : decode cX9_row 20 = .ok (.ifCond .eq 11, 3) := by decide +kernel
theorem dX9_row_23 : decode cX9_row 23 = .ok (.iload 4, 2) := by decide +kernel
theorem dX9_row_25 : decode cX9_row 25 = .ok (.invokestatic 148, 3) := by decide +kernel
theorem dX9_row_28 : decode cX9_row 28 = .ok (.ifCond .ne 6, 3) := by decide +kernel
theorem dX9_row_31 : decode cX9_row 31 = .ok (.bipush (-2), 2) := by decide +kernel
theorem dX9_row_33 : decode cX9_row 33 = .ok (.ireturn, 1) := by decide +kernel
theorem dX9_row_34 : decode cX9_row 34 = .ok (.aload_n 0, 1) := by decide +kernel
theorem dX9_row_35 : decode cX9_row 35 = .ok (.getfield 72, 3) := by decide +kernel
theorem dX9_row_38 : decode cX9_row 38 = .ok (.bipush 30, 2) := by decide +kernel
theorem dX9_row_40 : decode cX9_row 40 = .ok (.if_icmp .ne 8, 3) := by decide +kernel
theorem dX9_row_43 : decode cX9_row 43 = .ok (.bipush (-4), 2) := by decide +kernel
theorem dX9_row_45 : decode cX9_row 45 = .ok (.goto 13, 3) := by decide +kernel
theorem dX9_row_48 : decode cX9_row 48 = .ok (.aload_n 0, 1) := by decide +kernel
theorem dX9_row_49 : decode cX9_row 49 = .ok (.iload_n 1, 1) := by decide +kernel
theorem dX9_row_50 : decode cX9_row 50 = .ok (.iload_n 2, 1) := by decide +kernel
theorem dX9_row_51 : decode cX9_row 51 = .ok (.iload_n 3, 1) := by decide +kernel
theorem dX9_row_52 : decode cX9_row 52 = .ok (.iload 4, 2) := by decide +kernel
theorem dX9_row_54 : decode cX9_row 54 = .ok (.iconst 0, 1) := by decide +kernel
theorem dX9_row_55 : decode cX9_row 55 = .ok (.invokevirtual 154, 3) := by decide +kernel
theorem dX9_row_58 : decode cX9_row 58 = .ok (.ireturn, 1) := by decide +kernel
set_option maxRecDepth 20000 in
theorem ggX9_isRow_X9_in : GoodIn wsX9_isRow wsX9_in := goodIn_r _ [5] (by decide +kernel) (by decide +kernel)
set_option maxRecDepth 20000 in
theorem gX9_isRow_X9_in : GoodIn wsX9_isRow (va_wsS RX9 51 yX9_in wsX9_in) := goodIn_app (goodIn_of _ (by decide +kernel)) ggX9_isRow_X9_in
theorem dX9_isRow_0 : decode cX9_isRow 0 = .ok (.iload_n 1, 1) := by decide +kernel
theorem dX9_isRow_1 : decode cX9_isRow 1 = .ok (.iconst 0, 1) := by decide +kernel
theorem dX9_isRow_2 : decode cX9_isRow 2 = .ok (.aload_n 0, 1) := by decide +kernel
theorem dX9_isRow_3 : decode cX9_isRow 3 = .ok (.getfield 72, 3) := by decide +kernel
theorem dX9_isRow_6 : decode cX9_isRow 6 = .ok (.iconst 1, 1) := by decide +kernel
theorem dX9_isRow_7 : decode cX9_isRow 7 = .ok (.isub, 1) := by decide +kernel
theorem dX9_isRow_8 : decode cX9_isRow 8 = .ok (.invokestatic 51, 3) := by decide +kernel
theorem dX9_isRow_11 : decode cX9_isRow 11 = .ok (.ireturn, 1) := by decide +kernel
set_option maxRecDepth 20000 in
theorem ggX9_attach_X9_isRow : GoodIn wsX9_attach wsX9_isRow := goodIn_r _ [7, 8, 9, 10, 6, 11, 16, 17, 18, 19, 20, 21, 22, 23, 24, 25, 26, 27, 28, 29, 30, 31, 32, 33] (by decide +kernel) (by decide +kernel)
set_option maxRecDepth 20000 in
theorem gX9_attach_X9_isRow : GoodIn wsX9_attach (wsV RX9 158 RX9 yX9_isRow wsX9_isRow) := goodIn_app (goodIn_of _ (by decide +kernel)) ggX9_attach_X9_isRow
set_option maxRecDepth 20000 in
theorem ggX9_attach_X9_isTold : GoodIn wsX9_attach wsX9_isTold := goodIn_r _ [14, 15, 9, 10, 6, 11] (by decide +kernel) (by decide +kernel)
set_option maxRecDepth 20000 in
theorem gX9_attach_X9_isTold : GoodIn wsX9_attach (va_wsS RX9 151 yX9_isTold wsX9_isTold) := goodIn_app (goodIn_of _ (by decide +kernel)) ggX9_attach_X9_isTold
theorem dX9_attach_0 : decode cX9_attach 0 = .ok (.aload_n 0, 1) := by decide +kernel
theorem dX9_attach_1 : decode cX9_attach 1 = .ok (.iload_n 1, 1) := by decide +kernel
theorem dX9_attach_2 : decode cX9_attach 2 = .ok (.invokevirtual 158, 3) := by decide +kernel
theorem dX9_attach_5 : decode cX9_attach 5 = .ok (.ifCond .ne 5, 3) := by decide +kernel
theorem dX9_attach_8 : decode cX9_attach 8 = .ok (.iconst (-1), 1) := by decide +kernel
theorem dX9_attach_9 : decode cX9_attach 9 = .ok (.ireturn, 1) := by decide +kernel
theorem dX9_attach_10 : decode cX9_attach 10 = .ok (.iload_n 2, 1) := by decide +kernel
theorem dX9_attach_11 : decode cX9_attach 11 = .ok (.invokestatic 151, 3) := by decide +kernel
theorem dX9_attach_14 : decode cX9_attach 14 = .ok (.ifCond .eq 26, 3) := by decide +kernel
theorem dX9_attach_17 : decode cX9_attach 17 = .ok (.iload_n 3, 1) := by decide +kernel
theorem dX9_attach_18 : decode cX9_attach 18 = .ok (.invokestatic 151, 3) := by decide +kernel
theorem dX9_attach_21 : decode cX9_attach 21 = .ok (.ifCond .eq 19, 3) := by decide +kernel
theorem dX9_attach_24 : decode cX9_attach 24 = .ok (.iload 4, 2) := by decide +kernel
theorem dX9_attach_26 : decode cX9_attach 26 = .ok (.invokestatic 151, 3) := by decide +kernel
theorem dX9_attach_29 : decode cX9_attach 29 = .ok (.ifCond .eq 11, 3) := by decide +kernel
theorem dX9_attach_32 : decode cX9_attach 32 = .ok (.iload 5, 2) := by decide +kernel
theorem dX9_attach_34 : decode cX9_attach 34 = .ok (.invokestatic 151, 3) := by decide +kernel
theorem dX9_attach_37 : decode cX9_attach 37 = .ok (.ifCond .ne 6, 3) := by decide +kernel
theorem dX9_attach_40 : decode cX9_attach 40 = .ok (.bipush (-2), 2) := by decide +kernel
theorem dX9_attach_42 : decode cX9_attach 42 = .ok (.ireturn, 1) := by decide +kernel
theorem dX9_attach_43 : decode cX9_attach 43 = .ok (.aload_n 0, 1) := by decide +kernel
theorem dX9_attach_44 : decode cX9_attach 44 = .ok (.getfield 41, 3) := by decide +kernel
theorem dX9_attach_47 : decode cX9_attach 47 = .ok (.iload_n 1, 1) := by decide +kernel
theorem dX9_attach_48 : decode cX9_attach 48 = .ok (.baload, 1) := by decide +kernel
theorem dX9_attach_49 : decode cX9_attach 49 = .ok (.ifCond .eq 6, 3) := by decide +kernel
theorem dX9_attach_52 : decode cX9_attach 52 = .ok (.bipush (-3), 2) := by decide +kernel
theorem dX9_attach_54 : decode cX9_attach 54 = .ok (.ireturn, 1) := by decide +kernel
theorem dX9_attach_55 : decode cX9_attach 55 = .ok (.aload_n 0, 1) := by decide +kernel
theorem dX9_attach_56 : decode cX9_attach 56 = .ok (.getfield 41, 3) := by decide +kernel
theorem dX9_attach_59 : decode cX9_attach 59 = .ok (.iload_n 1, 1) := by decide +kernel
theorem dX9_attach_60 : decode cX9_attach 60 = .ok (.iconst 1, 1) := by decide +kernel
theorem dX9_attach_61 : decode cX9_attach 61 = .ok (.bastore, 1) := by decide +kernel
theorem dX9_attach_62 : decode cX9_attach 62 = .ok (.aload_n 0, 1) := by decide +kernel
theorem dX9_attach_63 : decode cX9_attach 63 = .ok (.getfield 45, 3) := by decide +kernel
theorem dX9_attach_66 : decode cX9_attach 66 = .ok (.iconst 4, 1) := by decide +kernel
theorem dX9_attach_67 : decode cX9_attach 67 = .ok (.iload_n 1, 1) := by decide +kernel
theorem dX9_attach_68 : decode cX9_attach 68 = .ok (.imul, 1) := by decide +kernel
theorem dX9_attach_69 : decode cX9_attach 69 = .ok (.iload_n 2, 1) := by decide +kernel
theorem dX9_attach_70 : decode cX9_attach 70 = .ok (.iastore, 1) := by decide +kernel
theorem dX9_attach_71 : decode cX9_attach 71 = .ok (.aload_n 0, 1) := by decide +kernel
theorem dX9_attach_72 : decode cX9_attach 72 = .ok (.getfield 45, 3) := by decide +kernel
theorem dX9_attach_75 : decode cX9_attach 75 = .ok (.iconst 4, 1) := by decide +kernel
theorem dX9_attach_76 : decode cX9_attach 76 = .ok (.iload_n 1, 1) := by decide +kernel
theorem dX9_attach_77 : decode cX9_attach 77 = .ok (.imul, 1) := by decide +kernel
theorem dX9_attach_78 : decode cX9_attach 78 = .ok (.iconst 1, 1) := by decide +kernel
theorem dX9_attach_79 : decode cX9_attach 79 = .ok (.iadd, 1) := by decide +kernel
theorem dX9_attach_80 : decode cX9_attach 80 = .ok (.iload_n 3, 1) := by decide +kernel
theorem dX9_attach_81 : decode cX9_attach 81 = .ok (.iastore, 1) := by decide +kernel
theorem dX9_attach_82 : decode cX9_attach 82 = .ok (.aload_n 0, 1) := by decide +kernel
theorem dX9_attach_83 : decode cX9_attach 83 = .ok (.getfield 45, 3) := by decide +kernel
theorem dX9_attach_86 : decode cX9_attach 86 = .ok (.iconst 4, 1) := by decide +kernel
theorem dX9_attach_87 : decode cX9_attach 87 = .ok (.iload_n 1, 1) := by decide +kernel
theorem dX9_attach_88 : decode cX9_attach 88 = .ok (.imul, 1) := by decide +kernel
theorem dX9_attach_89 : decode cX9_attach 89 = .ok (.iconst 2, 1) := by decide +kernel
theorem dX9_attach_90 : decode cX9_attach 90 = .ok (.iadd, 1) := by decide +kernel
theorem dX9_attach_91 : decode cX9_attach 91 = .ok (.iload 4, 2) := by decide +kernel
theorem dX9_attach_93 : decode cX9_attach 93 = .ok (.iastore, 1) := by decide +kernel
theorem dX9_attach_94 : decode cX9_attach 94 = .ok (.aload_n 0, 1) := by decide +kernel
theorem dX9_attach_95 : decode cX9_attach 95 = .ok (.getfield 45, 3) := by decide +kernel
theorem dX9_attach_98 : decode cX9_attach 98 = .ok (.iconst 4, 1) := by decide +kernel
theorem dX9_attach_99 : decode cX9_attach 99 = .ok (.iload_n 1, 1) := by decide +kernel
theorem dX9_attach_100 : decode cX9_attach 100 = .ok (.imul, 1) := by decide +kernel
theorem dX9_attach_101 : decode cX9_attach 101 = .ok (.iconst 3, 1) := by decide +kernel
theorem dX9_attach_102 : decode cX9_attach 102 = .ok (.iadd, 1) := by decide +kernel
theorem dX9_attach_103 : decode cX9_attach 103 = .ok (.iload 5, 2) := by decide +kernel
theorem dX9_attach_105 : decode cX9_attach 105 = .ok (.iastore, 1) := by decide +kernel
theorem dX9_attach_106 : decode cX9_attach 106 = .ok (.iconst 1, 1) := by decide +kernel
theorem dX9_attach_107 : decode cX9_attach 107 = .ok (.ireturn, 1) := by decide +kernel
set_option maxRecDepth 20000 in
theorem ggX9_cast_X9_isVoter : GoodIn wsX9_cast wsX9_isVoter := goodIn_r _ [6, 7, 8, 5, 9] (by decide +kernel) (by decide +kernel)
set_option maxRecDepth 20000 in
theorem gX9_cast_X9_isVoter : GoodIn wsX9_cast (va_wsS RX9 132 yX9_isVoter wsX9_isVoter) := goodIn_app (goodIn_of _ (by decide +kernel)) ggX9_cast_X9_isVoter
set_option maxRecDepth 20000 in
theorem ggX9_cast_X9_in : GoodIn wsX9_cast wsX9_in := goodIn_r _ [9] (by decide +kernel) (by decide +kernel)
set_option maxRecDepth 20000 in
theorem gX9_cast_X9_in : GoodIn wsX9_cast (va_wsS RX9 51 yX9_in wsX9_in) := goodIn_app (goodIn_of _ (by decide +kernel)) ggX9_cast_X9_in
set_option maxRecDepth 20000 in
theorem ggX9_cast_X9_isHour : GoodIn wsX9_cast wsX9_isHour := goodIn_r _ [12, 7, 8, 5, 9] (by decide +kernel) (by decide +kernel)
set_option maxRecDepth 20000 in
theorem gX9_cast_X9_isHour : GoodIn wsX9_cast (va_wsS RX9 148 yX9_isHour wsX9_isHour) := goodIn_app (goodIn_of _ (by decide +kernel)) ggX9_cast_X9_isHour
set_option maxRecDepth 20000 in
theorem ggX9_cast_X9_isPower : GoodIn wsX9_cast wsX9_isPower := goodIn_r _ [15, 7, 8, 5, 9] (by decide +kernel) (by decide +kernel)
set_option maxRecDepth 20000 in
theorem gX9_cast_X9_isPower : GoodIn wsX9_cast (va_wsS RX9 68 yX9_isPower wsX9_isPower) := goodIn_app (goodIn_of _ (by decide +kernel)) ggX9_cast_X9_isPower
set_option maxRecDepth 20000 in
theorem ggX9_cast_X9_sealOf : GoodIn wsX9_cast wsX9_sealOf := goodIn_r _ [19, 20, 21, 5, 22, 23, 24, 25, 26, 27, 28, 29, 30, 31, 32, 33, 34, 65, 66, 67, 68, 69, 70, 71, 72, 73, 74, 75, 76, 77, 78, 79, 80, 81, 82] (by decide +kernel) (by decide +kernel)
set_option maxRecDepth 20000 in
theorem gX9_cast_X9_sealOf : GoodIn wsX9_cast (wsV RX9 86 RX9 yX9_sealOf wsX9_sealOf) := goodIn_app (goodIn_of _ (by decide +kernel)) ggX9_cast_X9_sealOf
set_option maxRecDepth 20000 in
theorem ggX9_cast_X9_addRow : GoodIn wsX9_cast wsX9_addRow := goodIn_r _ [38, 39, 1, 40, 41, 42, 43, 2, 65, 66, 67, 68, 69, 70, 71, 72, 73, 74, 75, 76, 77, 78, 79, 80, 81, 82] (by decide +kernel) (by decide +kernel)
set_option maxRecDepth 20000 in
theorem gX9_cast_X9_addRow : GoodIn wsX9_cast (wsV RX9 154 RX9 yX9_addRow wsX9_addRow) := goodIn_app (goodIn_of _ (by decide +kernel)) ggX9_cast_X9_addRow
set_option maxRecDepth 20000 in
theorem ggX9_cast_X9_proved : GoodIn wsX9_cast wsX9_proved := goodIn_r _ [47, 48, 49, 16, 17, 18, 5, 19, 20, 21, 22, 23, 24, 25, 26, 27, 28, 29, 30, 31, 32, 33, 34, 50, 51, 52, 53, 54, 55, 56, 57, 58, 59, 60, 61, 62, 63, 64, 65, 66, 67, 68, 69, 70, 71, 72, 73, 74, 75, 76, 77, 78, 79, 80, 81, 82] (by decide +kernel) (by decide +kernel)
set_option maxRecDepth 20000 in
theorem gX9_cast_X9_proved : GoodIn wsX9_cast (wsV RX9 113 RX9 yX9_proved wsX9_proved) := goodIn_app (goodIn_of _ (by decide +kernel)) ggX9_cast_X9_proved
theorem dX9_cast_0 : decode cX9_cast 0 = .ok (.iload_n 1, 1) := by decide +kernel
theorem dX9_cast_1 : decode cX9_cast 1 = .ok (.invokestatic 132, 3) := by decide +kernel
theorem dX9_cast_4 : decode cX9_cast 4 = .ok (.ifCond .ne 5, 3) := by decide +kernel
theorem dX9_cast_7 : decode cX9_cast 7 = .ok (.iconst (-1), 1) := by decide +kernel
theorem dX9_cast_8 : decode cX9_cast 8 = .ok (.ireturn, 1) := by decide +kernel
theorem dX9_cast_9 : decode cX9_cast 9 = .ok (.iload_n 2, 1) := by decide +kernel
theorem dX9_cast_10 : decode cX9_cast 10 = .ok (.iconst 0, 1) := by decide +kernel
theorem dX9_cast_11 : decode cX9_cast 11 = .ok (.iconst 1, 1) := by decide +kernel
theorem dX9_cast_12 : decode cX9_cast 12 = .ok (.invokestatic 51, 3) := by decide +kernel
theorem dX9_cast_15 : decode cX9_cast 15 = .ok (.ifCond .eq 42, 3) := by decide +kernel
theorem dX9_cast_18 : decode cX9_cast 18 = .ok (.iload_n 3, 1) := by decide +kernel
theorem dX9_cast_19 : decode cX9_cast 19 = .ok (.invokestatic 148, 3) := by decide +kernel
theorem dX9_cast_22 : decode cX9_cast 22 = .ok (.ifCond .eq 35, 3) := by decide +kernel
theorem dX9_cast_25 : decode cX9_cast 25 = .ok (.iload 4, 2) := by decide +kernel
theorem dX9_cast_27 : decode cX9_cast 27 = .ok (.invokestatic 68, 3) := by decide +kernel
theorem dX9_cast_30 : decode cX9_cast 30 = .ok (.ifCond .eq 27, 3) := by decide +kernel
theorem dX9_cast_33 : decode cX9_cast 33 = .ok (.iload 5, 2) := by decide +kernel
theorem dX9_cast_35 : decode cX9_cast 35 = .ok (.invokestatic 68, 3) := by decide +kernel
theorem dX9_cast_38 : decode cX9_cast 38 = .ok (.ifCond .eq 19, 3) := by decide +kernel
theorem dX9_cast_41 : decode cX9_cast 41 = .ok (.iload 6, 2) := by decide +kernel
theorem dX9_cast_43 : decode cX9_cast 43 = .ok (.invokestatic 68, 3) := by decide +kernel
theorem dX9_cast_46 : decode cX9_cast 46 = .ok (.ifCond .eq 11, 3) := by decide +kernel
theorem dX9_cast_49 : decode cX9_cast 49 = .ok (.iload 7, 2) := by decide +kernel
theorem dX9_cast_51 : decode cX9_cast 51 = .ok (.invokestatic 68, 3) := by decide +kernel
theorem dX9_cast_54 : decode cX9_cast 54 = .ok (.ifCond .ne 6, 3) := by decide +kernel
theorem dX9_cast_57 : decode cX9_cast 57 = .ok (.bipush (-2), 2) := by decide +kernel
theorem dX9_cast_59 : decode cX9_cast 59 = .ok (.ireturn, 1) := by decide +kernel
theorem dX9_cast_60 : decode cX9_cast 60 = .ok (.aload_n 0, 1) := by decide +kernel
theorem dX9_cast_61 : decode cX9_cast 61 = .ok (.getfield 72, 3) := by decide +kernel
theorem dX9_cast_64 : decode cX9_cast 64 = .ok (.bipush 30, 2) := by decide +kernel
theorem dX9_cast_66 : decode cX9_cast 66 = .ok (.if_icmp .ne 6, 3) := by decide +kernel
theorem dX9_cast_69 : decode cX9_cast 69 = .ok (.bipush (-4), 2) := by decide +kernel
theorem dX9_cast_71 : decode cX9_cast 71 = .ok (.ireturn, 1) := by decide +kernel
theorem dX9_cast_72 : decode cX9_cast 72 = .ok (.aload_n 0, 1) := by decide +kernel
theorem dX9_cast_73 : decode cX9_cast 73 = .ok (.iload_n 1, 1) := by decide +kernel
theorem dX9_cast_74 : decode cX9_cast 74 = .ok (.aload_n 0, 1) := by decide +kernel
theorem dX9_cast_75 : decode cX9_cast 75 = .ok (.iload_n 2, 1) := by decide +kernel
theorem dX9_cast_76 : decode cX9_cast 76 = .ok (.iload 4, 2) := by decide +kernel
theorem dX9_cast_78 : decode cX9_cast 78 = .ok (.iconst 0, 1) := by decide +kernel
theorem dX9_cast_79 : decode cX9_cast 79 = .ok (.invokevirtual 86, 3) := by decide +kernel
theorem dX9_cast_82 : decode cX9_cast 82 = .ok (.aload_n 0, 1) := by decide +kernel
theorem dX9_cast_83 : decode cX9_cast 83 = .ok (.iload_n 2, 1) := by decide +kernel
theorem dX9_cast_84 : decode cX9_cast 84 = .ok (.iload 4, 2) := by decide +kernel
theorem dX9_cast_86 : decode cX9_cast 86 = .ok (.iconst 1, 1) := by decide +kernel
theorem dX9_cast_87 : decode cX9_cast 87 = .ok (.invokevirtual 86, 3) := by decide +kernel
theorem dX9_cast_90 : decode cX9_cast 90 = .ok (.iload_n 3, 1) := by decide +kernel
theorem dX9_cast_91 : decode cX9_cast 91 = .ok (.iconst 1, 1) := by decide +kernel
theorem dX9_cast_92 : decode cX9_cast 92 = .ok (.invokevirtual 154, 3) := by decide +kernel
theorem dX9_cast_95 : decode cX9_cast 95 = .ok (.istore 8, 2) := by decide +kernel
theorem dX9_cast_97 : decode cX9_cast 97 = .ok (.iconst 0, 1) := by decide +kernel
theorem dX9_cast_98 : decode cX9_cast 98 = .ok (.istore 9, 2) := by decide +kernel
theorem dX9_cast_100 : decode cX9_cast 100 = .ok (.iload 9, 2) := by decide +kernel
theorem dX9_cast_102 : decode cX9_cast 102 = .ok (.iconst 4, 1) := by decide +kernel
theorem dX9_cast_103 : decode cX9_cast 103 = .ok (.if_icmp .ge 36, 3) := by decide +kernel
theorem dX9_cast_106 : decode cX9_cast 106 = .ok (.aload_n 0, 1) := by decide +kernel
theorem dX9_cast_107 : decode cX9_cast 107 = .ok (.getfield 45, 3) := by decide +kernel
theorem dX9_cast_110 : decode cX9_cast 110 = .ok (.iconst 4, 1) := by decide +kernel
theorem dX9_cast_111 : decode cX9_cast 111 = .ok (.iload 8, 2) := by decide +kernel
theorem dX9_cast_113 : decode cX9_cast 113 = .ok (.imul, 1) := by decide +kernel
theorem dX9_cast_114 : decode cX9_cast 114 = .ok (.iload 9, 2) := by decide +kernel
theorem dX9_cast_116 : decode cX9_cast 116 = .ok (.iadd, 1) := by decide +kernel
theorem dX9_cast_117 : decode cX9_cast 117 = .ok (.aload_n 0, 1) := by decide +kernel
theorem dX9_cast_118 : decode cX9_cast 118 = .ok (.iload_n 2, 1) := by decide +kernel
theorem dX9_cast_119 : decode cX9_cast 119 = .ok (.iload 4, 2) := by decide +kernel
theorem dX9_cast_121 : decode cX9_cast 121 = .ok (.iload 5, 2) := by decide +kernel
theorem dX9_cast_123 : decode cX9_cast 123 = .ok (.iload 6, 2) := by decide +kernel
theorem dX9_cast_125 : decode cX9_cast 125 = .ok (.iload 7, 2) := by decide +kernel
theorem dX9_cast_127 : decode cX9_cast 127 = .ok (.iload 9, 2) := by decide +kernel
theorem dX9_cast_129 : decode cX9_cast 129 = .ok (.invokevirtual 113, 3) := by decide +kernel
theorem dX9_cast_132 : decode cX9_cast 132 = .ok (.iastore, 1) := by decide +kernel
theorem dX9_cast_133 : decode cX9_cast 133 = .ok (.iinc 9 1, 3) := by decide +kernel
theorem dX9_cast_136 : decode cX9_cast 136 = .ok (.goto (-36), 3) := by decide +kernel
theorem dX9_cast_139 : decode cX9_cast 139 = .ok (.iload 8, 2) := by decide +kernel
theorem dX9_cast_141 : decode cX9_cast 141 = .ok (.ireturn, 1) := by decide +kernel
set_option maxRecDepth 20000 in
theorem ggX9_flawOf_X9_holds : GoodIn wsX9_flawOf wsX9_holds := goodIn_r _ [11, 12, 13, 14, 10, 15, 16, 17, 18, 19, 20, 21, 22, 23, 24, 25, 26, 27, 28, 29, 30, 31, 32, 33, 34, 35, 36, 37, 38, 39, 40, 41, 42, 43, 44, 45, 46, 47, 48, 49, 50, 51, 52, 53, 54, 55, 63, 64, 65, 66, 67, 68, 69, 70, 71, 72, 73, 74, 75, 76, 77, 78, 79, 80] (by decide +kernel) (by decide +kernel)
set_option maxRecDepth 20000 in
theorem gX9_flawOf_X9_holds : GoodIn wsX9_flawOf (wsV RX9 128 RX9 yX9_holds wsX9_holds) := goodIn_app (goodIn_of _ (by decide +kernel)) ggX9_flawOf_X9_holds
set_option maxRecDepth 20000 in
theorem ggX9_flawOf_X9_mayVote : GoodIn wsX9_flawOf wsX9_mayVote := goodIn_r _ [59, 60, 61, 62, 19, 20, 10, 21, 63, 64, 65, 66, 67, 68, 69, 70, 71, 72, 73, 74, 75, 76, 77, 78, 79, 80] (by decide +kernel) (by decide +kernel)
set_option maxRecDepth 20000 in
theorem gX9_flawOf_X9_mayVote : GoodIn wsX9_flawOf (wsV RX9 144 RX9 yX9_mayVote wsX9_mayVote) := goodIn_app (goodIn_of _ (by decide +kernel)) ggX9_flawOf_X9_mayVote
theorem dX9_flawOf_0 : decode cX9_flawOf 0 = .ok (.aload_n 0, 1) := by decide +kernel
theorem dX9_flawOf_1 : decode cX9_flawOf 1 = .ok (.getfield 38, 3) := by decide +kernel
theorem dX9_flawOf_4 : decode cX9_flawOf 4 = .ok (.iload_n 1, 1) := by decide +kernel
theorem dX9_flawOf_5 : decode cX9_flawOf 5 = .ok (.iaload, 1) := by decide +kernel
theorem dX9_flawOf_6 : decode cX9_flawOf 6 = .ok (.aload_n 0, 1) := by decide +kernel
theorem dX9_flawOf_7 : decode cX9_flawOf 7 = .ok (.getfield 26, 3) := by decide +kernel
theorem dX9_flawOf_10 : decode cX9_flawOf 10 = .ok (.if_icmp .le 5, 3) := by decide +kernel
theorem dX9_flawOf_13 : decode cX9_flawOf 13 = .ok (.iconst 1, 1) := by decide +kernel
theorem dX9_flawOf_14 : decode cX9_flawOf 14 = .ok (.ireturn, 1) := by decide +kernel
theorem dX9_flawOf_15 : decode cX9_flawOf 15 = .ok (.aload_n 0, 1) := by decide +kernel
theorem dX9_flawOf_16 : decode cX9_flawOf 16 = .ok (.aload_n 0, 1) := by decide +kernel
theorem dX9_flawOf_17 : decode cX9_flawOf 17 = .ok (.getfield 32, 3) := by decide +kernel
theorem dX9_flawOf_20 : decode cX9_flawOf 20 = .ok (.iload_n 1, 1) := by decide +kernel
theorem dX9_flawOf_21 : decode cX9_flawOf 21 = .ok (.iaload, 1) := by decide +kernel
theorem dX9_flawOf_22 : decode cX9_flawOf 22 = .ok (.aload_n 0, 1) := by decide +kernel
theorem dX9_flawOf_23 : decode cX9_flawOf 23 = .ok (.getfield 35, 3) := by decide +kernel
theorem dX9_flawOf_26 : decode cX9_flawOf 26 = .ok (.iload_n 1, 1) := by decide +kernel
theorem dX9_flawOf_27 : decode cX9_flawOf 27 = .ok (.iaload, 1) := by decide +kernel
theorem dX9_flawOf_28 : decode cX9_flawOf 28 = .ok (.aload_n 0, 1) := by decide +kernel
theorem dX9_flawOf_29 : decode cX9_flawOf 29 = .ok (.getfield 45, 3) := by decide +kernel
theorem dX9_flawOf_32 : decode cX9_flawOf 32 = .ok (.iconst 4, 1) := by decide +kernel
theorem dX9_flawOf_33 : decode cX9_flawOf 33 = .ok (.iload_n 1, 1) := by decide +kernel
theorem dX9_flawOf_34 : decode cX9_flawOf 34 = .ok (.imul, 1) := by decide +kernel
theorem dX9_flawOf_35 : decode cX9_flawOf 35 = .ok (.iaload, 1) := by decide +kernel
theorem dX9_flawOf_36 : decode cX9_flawOf 36 = .ok (.aload_n 0, 1) := by decide +kernel
theorem dX9_flawOf_37 : decode cX9_flawOf 37 = .ok (.getfield 45, 3) := by decide +kernel
theorem dX9_flawOf_40 : decode cX9_flawOf 40 = .ok (.iconst 4, 1) := by decide +kernel
theorem dX9_flawOf_41 : decode cX9_flawOf 41 = .ok (.iload_n 1, 1) := by decide +kernel
theorem dX9_flawOf_42 : decode cX9_flawOf 42 = .ok (.imul, 1) := by decide +kernel
theorem dX9_flawOf_43 : decode cX9_flawOf 43 = .ok (.iconst 1, 1) := by decide +kernel
theorem dX9_flawOf_44 : decode cX9_flawOf 44 = .ok (.iadd, 1) := by decide +kernel
theorem dX9_flawOf_45 : decode cX9_flawOf 45 = .ok (.iaload, 1) := by decide +kernel
theorem dX9_flawOf_46 : decode cX9_flawOf 46 = .ok (.aload_n 0, 1) := by decide +kernel
theorem dX9_flawOf_47 : decode cX9_flawOf 47 = .ok (.getfield 45, 3) := by decide +kernel
theorem dX9_flawOf_50 : decode cX9_flawOf 50 = .ok (.iconst 4, 1) := by decide +kernel
theorem dX9_flawOf_51 : decode cX9_flawOf 51 = .ok (.iload_n 1, 1) := by decide +kernel
theorem dX9_flawOf_52 : decode cX9_flawOf 52 = .ok (.imul, 1) := by decide +kernel
theorem dX9_flawOf_53 : decode cX9_flawOf 53 = .ok (.iconst 2, 1) := by decide +kernel
theorem dX9_flawOf_54 : decode cX9_flawOf 54 = .ok (.iadd, 1) := by decide +kernel
theorem dX9_flawOf_55 : decode cX9_flawOf 55 = .ok (.iaload, 1) := by decide +kernel
theorem dX9_flawOf_56 : decode cX9_flawOf 56 = .ok (.aload_n 0, 1) := by decide +kernel
theorem dX9_flawOf_57 : decode cX9_flawOf 57 = .ok (.getfield 45, 3) := by decide +kernel
theorem dX9_flawOf_60 : decode cX9_flawOf 60 = .ok (.iconst 4, 1) := by decide +kernel
theorem dX9_flawOf_61 : decode cX9_flawOf 61 = .ok (.iload_n 1, 1) := by decide +kernel
theorem dX9_flawOf_62 : decode cX9_flawOf 62 = .ok (.imul, 1) := by decide +kernel
theorem dX9_flawOf_63 : decode cX9_flawOf 63 = .ok (.iconst 3, 1) := by decide +kernel
theorem dX9_flawOf_64 : decode cX9_flawOf 64 = .ok (.iadd, 1) := by decide +kernel
theorem dX9_flawOf_65 : decode cX9_flawOf 65 = .ok (.iaload, 1) := by decide +kernel
theorem dX9_flawOf_66 : decode cX9_flawOf 66 = .ok (.invokevirtual 128, 3) := by decide +kernel
theorem dX9_flawOf_69 : decode cX9_flawOf 69 = .ok (.istore_n 2, 1) := by decide +kernel
theorem dX9_flawOf_70 : decode cX9_flawOf 70 = .ok (.iload_n 2, 1) := by decide +kernel
theorem dX9_flawOf_71 : decode cX9_flawOf 71 = .ok (.ifCond .ne 7, 3) := by decide +kernel
theorem dX9_flawOf_74 : decode cX9_flawOf 74 = .ok (.iconst 2, 1) := by decide +kernel
theorem dX9_flawOf_75 : decode cX9_flawOf 75 = .ok (.goto 21, 3) := by decide +kernel
theorem dX9_flawOf_78 : decode cX9_flawOf 78 = .ok (.aload_n 0, 1) := by decide +kernel
theorem dX9_flawOf_79 : decode cX9_flawOf 79 = .ok (.aload_n 0, 1) := by decide +kernel
theorem dX9_flawOf_80 : decode cX9_flawOf 80 = .ok (.getfield 29, 3) := by decide +kernel
theorem dX9_flawOf_83 : decode cX9_flawOf 83 = .ok (.iload_n 1, 1) := by decide +kernel
theorem dX9_flawOf_84 : decode cX9_flawOf 84 = .ok (.iaload, 1) := by decide +kernel
theorem dX9_flawOf_85 : decode cX9_flawOf 85 = .ok (.invokevirtual 144, 3) := by decide +kernel
theorem dX9_flawOf_88 : decode cX9_flawOf 88 = .ok (.ifCond .eq 7, 3) := by decide +kernel
theorem dX9_flawOf_91 : decode cX9_flawOf 91 = .ok (.iconst 0, 1) := by decide +kernel
theorem dX9_flawOf_92 : decode cX9_flawOf 92 = .ok (.goto 4, 3) := by decide +kernel
theorem dX9_flawOf_95 : decode cX9_flawOf 95 = .ok (.iconst 3, 1) := by decide +kernel
theorem dX9_flawOf_96 : decode cX9_flawOf 96 = .ok (.ireturn, 1) := by decide +kernel
set_option maxRecDepth 20000 in
theorem ggX9_stateOf_X9_flawOf : GoodIn wsX9_stateOf wsX9_flawOf := goodIn_r _ [7, 8, 9, 10, 11, 12, 2, 13, 14, 15, 6, 16, 17, 18, 19, 20, 21, 22, 23, 24, 25, 26, 27, 28, 29, 30, 31, 32, 33, 34, 35, 36, 37, 38, 39, 40, 41, 42, 43, 44, 45, 46, 47, 48, 49, 50, 51, 52, 53, 54, 55, 56, 57, 58, 59, 60, 61, 62, 63, 64, 65, 66, 67, 68, 69, 70, 71, 72, 73, 74, 75, 76, 77, 78, 79, 80, 81, 82, 83, 84, 85] (by decide +kernel) (by decide +kernel)
set_option maxRecDepth 20000 in
theorem gX9_stateOf_X9_flawOf : GoodIn wsX9_stateOf (wsV RX9 161 RX9 yX9_flawOf wsX9_flawOf) := goodIn_app (goodIn_of _ (by decide +kernel)) ggX9_stateOf_X9_flawOf
theorem dX9_stateOf_0 : decode cX9_stateOf 0 = .ok (.aload_n 0, 1) := by decide +kernel
theorem dX9_stateOf_1 : decode cX9_stateOf 1 = .ok (.iload_n 1, 1) := by decide +kernel
theorem dX9_stateOf_2 : decode cX9_stateOf 2 = .ok (.invokevirtual 161, 3) := by decide +kernel
theorem dX9_stateOf_5 : decode cX9_stateOf 5 = .ok (.istore_n 2, 1) := by decide +kernel
theorem dX9_stateOf_6 : decode cX9_stateOf 6 = .ok (.iconst 0, 1) := by decide +kernel
theorem dX9_stateOf_7 : decode cX9_stateOf 7 = .ok (.istore_n 3, 1) := by decide +kernel
theorem dX9_stateOf_8 : decode cX9_stateOf 8 = .ok (.iload_n 1, 1) := by decide +kernel
theorem dX9_stateOf_9 : decode cX9_stateOf 9 = .ok (.iconst 1, 1) := by decide +kernel
theorem dX9_stateOf_10 : decode cX9_stateOf 10 = .ok (.iadd, 1) := by decide +kernel
theorem dX9_stateOf_11 : decode cX9_stateOf 11 = .ok (.istore 4, 2) := by decide +kernel
theorem dX9_stateOf_13 : decode cX9_stateOf 13 = .ok (.iload 4, 2) := by decide +kernel
theorem dX9_stateOf_15 : decode cX9_stateOf 15 = .ok (.aload_n 0, 1) := by decide +kernel
theorem dX9_stateOf_16 : decode cX9_stateOf 16 = .ok (.getfield 72, 3) := by decide +kernel
theorem dX9_stateOf_19 : decode cX9_stateOf 19 = .ok (.if_icmp .ge 48, 3) := by decide +kernel
theorem dX9_stateOf_22 : decode cX9_stateOf 22 = .ok (.iload_n 2, 1) := by decide +kernel
theorem dX9_stateOf_23 : decode cX9_stateOf 23 = .ok (.ifCond .ne 44, 3) := by decide +kernel
theorem dX9_stateOf_26 : decode cX9_stateOf 26 = .ok (.iload_n 3, 1) := by decide +kernel
theorem dX9_stateOf_27 : decode cX9_stateOf 27 = .ok (.ifCond .ne 40, 3) := by decide +kernel
theorem dX9_stateOf_30 : decode cX9_stateOf 30 = .ok (.aload_n 0, 1) := by decide +kernel
theorem dX9_stateOf_31 : decode cX9_stateOf 31 = .ok (.getfield 29, 3) := by decide +kernel
theorem dX9_stateOf_34 : decode cX9_stateOf 34 = .ok (.iload 4, 2) := by decide +kernel
theorem dX9_stateOf_36 : decode cX9_stateOf 36 = .ok (.iaload, 1) := by decide +kernel
theorem dX9_stateOf_37 : decode cX9_stateOf 37 = .ok (.aload_n 0, 1) := by decide +kernel
theorem dX9_stateOf_38 : decode cX9_stateOf 38 = .ok (.getfield 29, 3) := by decide +kernel
theorem dX9_stateOf_41 : decode cX9_stateOf 41 = .ok (.iload_n 1, 1) := by decide +kernel
theorem dX9_stateOf_42 : decode cX9_stateOf 42 = .ok (.iaload, 1) := by decide +kernel
theorem dX9_stateOf_43 : decode cX9_stateOf 43 = .ok (.if_icmp .ne 16, 3) := by decide +kernel
theorem dX9_stateOf_46 : decode cX9_stateOf 46 = .ok (.aload_n 0, 1) := by decide +kernel
theorem dX9_stateOf_47 : decode cX9_stateOf 47 = .ok (.iload 4, 2) := by decide +kernel
theorem dX9_stateOf_49 : decode cX9_stateOf 49 = .ok (.invokevirtual 161, 3) := by decide +kernel
theorem dX9_stateOf_52 : decode cX9_stateOf 52 = .ok (.ifCond .ne 7, 3) := by decide +kernel
theorem dX9_stateOf_55 : decode cX9_stateOf 55 = .ok (.iconst 1, 1) := by decide +kernel
theorem dX9_stateOf_56 : decode cX9_stateOf 56 = .ok (.goto 4, 3) := by decide +kernel
theorem dX9_stateOf_59 : decode cX9_stateOf 59 = .ok (.iconst 0, 1) := by decide +kernel
theorem dX9_stateOf_60 : decode cX9_stateOf 60 = .ok (.istore_n 3, 1) := by decide +kernel
theorem dX9_stateOf_61 : decode cX9_stateOf 61 = .ok (.iinc 4 1, 3) := by decide +kernel
theorem dX9_stateOf_64 : decode cX9_stateOf 64 = .ok (.goto (-51), 3) := by decide +kernel
theorem dX9_stateOf_67 : decode cX9_stateOf 67 = .ok (.iload_n 2, 1) := by decide +kernel
theorem dX9_stateOf_68 : decode cX9_stateOf 68 = .ok (.ifCond .le 7, 3) := by decide +kernel
theorem dX9_stateOf_71 : decode cX9_stateOf 71 = .ok (.iload_n 2, 1) := by decide +kernel
theorem dX9_stateOf_72 : decode cX9_stateOf 72 = .ok (.goto 12, 3) := by decide +kernel
theorem dX9_stateOf_75 : decode cX9_stateOf 75 = .ok (.iload_n 3, 1) := by decide +kernel
theorem dX9_stateOf_76 : decode cX9_stateOf 76 = .ok (.ifCond .eq 7, 3) := by decide +kernel
theorem dX9_stateOf_79 : decode cX9_stateOf 79 = .ok (.iconst 4, 1) := by decide +kernel
theorem dX9_stateOf_80 : decode cX9_stateOf 80 = .ok (.goto 4, 3) := by decide +kernel
theorem dX9_stateOf_83 : decode cX9_stateOf 83 = .ok (.iconst 0, 1) := by decide +kernel
theorem dX9_stateOf_84 : decode cX9_stateOf 84 = .ok (.ireturn, 1) := by decide +kernel
theorem dX9_wordOf_0 : decode cX9_wordOf 0 = .ok (.ldc2_w 164, 3) := by decide +kernel
theorem dX9_wordOf_3 : decode cX9_wordOf 3 = .ok (.lstore_n 2, 1) := by decide +kernel
theorem dX9_wordOf_4 : decode cX9_wordOf 4 = .ok (.lload_n 2, 1) := by decide +kernel
theorem dX9_wordOf_5 : decode cX9_wordOf 5 = .ok (.ldc2_w 166, 3) := by decide +kernel
theorem dX9_wordOf_8 : decode cX9_wordOf 8 = .ok (.lmul, 1) := by decide +kernel
theorem dX9_wordOf_9 : decode cX9_wordOf 9 = .ok (.aload_n 0, 1) := by decide +kernel
theorem dX9_wordOf_10 : decode cX9_wordOf 10 = .ok (.getfield 29, 3) := by decide +kernel
theorem dX9_wordOf_13 : decode cX9_wordOf 13 = .ok (.iload_n 1, 1) := by decide +kernel
theorem dX9_wordOf_14 : decode cX9_wordOf 14 = .ok (.iaload, 1) := by decide +kernel
theorem dX9_wordOf_15 : decode cX9_wordOf 15 = .ok (.i2l, 1) := by decide +kernel
theorem dX9_wordOf_16 : decode cX9_wordOf 16 = .ok (.ladd, 1) := by decide +kernel
theorem dX9_wordOf_17 : decode cX9_wordOf 17 = .ok (.ldc2_w 168, 3) := by decide +kernel
theorem dX9_wordOf_20 : decode cX9_wordOf 20 = .ok (.lrem, 1) := by decide +kernel
theorem dX9_wordOf_21 : decode cX9_wordOf 21 = .ok (.lstore_n 2, 1) := by decide +kernel
theorem dX9_wordOf_22 : decode cX9_wordOf 22 = .ok (.lload_n 2, 1) := by decide +kernel
theorem dX9_wordOf_23 : decode cX9_wordOf 23 = .ok (.ldc2_w 166, 3) := by decide +kernel
theorem dX9_wordOf_26 : decode cX9_wordOf 26 = .ok (.lmul, 1) := by decide +kernel
theorem dX9_wordOf_27 : decode cX9_wordOf 27 = .ok (.aload_n 0, 1) := by decide +kernel
theorem dX9_wordOf_28 : decode cX9_wordOf 28 = .ok (.getfield 32, 3) := by decide +kernel
theorem dX9_wordOf_31 : decode cX9_wordOf 31 = .ok (.iload_n 1, 1) := by decide +kernel
theorem dX9_wordOf_32 : decode cX9_wordOf 32 = .ok (.iaload, 1) := by decide +kernel
theorem dX9_wordOf_33 : decode cX9_wordOf 33 = .ok (.i2l, 1) := by decide +kernel
theorem dX9_wordOf_34 : decode cX9_wordOf 34 = .ok (.ladd, 1) := by decide +kernel
theorem dX9_wordOf_35 : decode cX9_wordOf 35 = .ok (.ldc2_w 168, 3) := by decide +kernel
theorem dX9_wordOf_38 : decode cX9_wordOf 38 = .ok (.lrem, 1) := by decide +kernel
theorem dX9_wordOf_39 : decode cX9_wordOf 39 = .ok (.lstore_n 2, 1) := by decide +kernel
theorem dX9_wordOf_40 : decode cX9_wordOf 40 = .ok (.lload_n 2, 1) := by decide +kernel
theorem dX9_wordOf_41 : decode cX9_wordOf 41 = .ok (.ldc2_w 166, 3) := by decide +kernel
theorem dX9_wordOf_44 : decode cX9_wordOf 44 = .ok (.lmul, 1) := by decide +kernel
theorem dX9_wordOf_45 : decode cX9_wordOf 45 = .ok (.aload_n 0, 1) := by decide +kernel
theorem dX9_wordOf_46 : decode cX9_wordOf 46 = .ok (.getfield 35, 3) := by decide +kernel
theorem dX9_wordOf_49 : decode cX9_wordOf 49 = .ok (.iload_n 1, 1) := by decide +kernel
theorem dX9_wordOf_50 : decode cX9_wordOf 50 = .ok (.iaload, 1) := by decide +kernel
theorem dX9_wordOf_51 : decode cX9_wordOf 51 = .ok (.i2l, 1) := by decide +kernel
theorem dX9_wordOf_52 : decode cX9_wordOf 52 = .ok (.ladd, 1) := by decide +kernel
theorem dX9_wordOf_53 : decode cX9_wordOf 53 = .ok (.ldc2_w 168, 3) := by decide +kernel
theorem dX9_wordOf_56 : decode cX9_wordOf 56 = .ok (.lrem, 1) := by decide +kernel
theorem dX9_wordOf_57 : decode cX9_wordOf 57 = .ok (.lstore_n 2, 1) := by decide +kernel
theorem dX9_wordOf_58 : decode cX9_wordOf 58 = .ok (.lload_n 2, 1) := by decide +kernel
theorem dX9_wordOf_59 : decode cX9_wordOf 59 = .ok (.ldc2_w 166, 3) := by decide +kernel
theorem dX9_wordOf_62 : decode cX9_wordOf 62 = .ok (.lmul, 1) := by decide +kernel
theorem dX9_wordOf_63 : decode cX9_wordOf 63 = .ok (.aload_n 0, 1) := by decide +kernel
theorem dX9_wordOf_64 : decode cX9_wordOf 64 = .ok (.getfield 38, 3) := by decide +kernel
theorem dX9_wordOf_67 : decode cX9_wordOf 67 = .ok (.iload_n 1, 1) := by decide +kernel
theorem dX9_wordOf_68 : decode cX9_wordOf 68 = .ok (.iaload, 1) := by decide +kernel
theorem dX9_wordOf_69 : decode cX9_wordOf 69 = .ok (.i2l, 1) := by decide +kernel
theorem dX9_wordOf_70 : decode cX9_wordOf 70 = .ok (.ladd, 1) := by decide +kernel
theorem dX9_wordOf_71 : decode cX9_wordOf 71 = .ok (.ldc2_w 168, 3) := by decide +kernel
theorem dX9_wordOf_74 : decode cX9_wordOf 74 = .ok (.lrem, 1) := by decide +kernel
theorem dX9_wordOf_75 : decode cX9_wordOf 75 = .ok (.lstore_n 2, 1) := by decide +kernel
theorem dX9_wordOf_76 : decode cX9_wordOf 76 = .ok (.lload_n 2, 1) := by decide +kernel
theorem dX9_wordOf_77 : decode cX9_wordOf 77 = .ok (.l2i, 1) := by decide +kernel
theorem dX9_wordOf_78 : decode cX9_wordOf 78 = .ok (.ireturn, 1) := by decide +kernel
set_option maxRecDepth 20000 in
theorem ggX9_headOf_X9_wordOf : GoodIn wsX9_headOf wsX9_wordOf := goodIn_r _ [7, 8, 9, 10, 11, 12, 13, 14, 15, 16, 17, 18, 19, 20, 21, 22, 23, 24, 25, 26, 27, 28, 29, 30, 31, 32] (by decide +kernel) (by decide +kernel)
set_option maxRecDepth 20000 in
theorem gX9_headOf_X9_wordOf : GoodIn wsX9_headOf (wsV RX9 170 RX9 yX9_wordOf wsX9_wordOf) := goodIn_app (goodIn_of _ (by decide +kernel)) ggX9_headOf_X9_wordOf
theorem dX9_headOf_0 : decode cX9_headOf 0 = .ok (.lconst 1, 1) := by decide +kernel
theorem dX9_headOf_1 : decode cX9_headOf 1 = .ok (.lstore_n 2, 1) := by decide +kernel
theorem dX9_headOf_2 : decode cX9_headOf 2 = .ok (.iconst 0, 1) := by decide +kernel
theorem dX9_headOf_3 : decode cX9_headOf 3 = .ok (.istore 4, 2) := by decide +kernel
theorem dX9_headOf_5 : decode cX9_headOf 5 = .ok (.iload 4, 2) := by decide +kernel
theorem dX9_headOf_7 : decode cX9_headOf 7 = .ok (.iload_n 1, 1) := by decide +kernel
theorem dX9_headOf_8 : decode cX9_headOf 8 = .ok (.if_icmp .gt 27, 3) := by decide +kernel
theorem dX9_headOf_11 : decode cX9_headOf 11 = .ok (.lload_n 2, 1) := by decide +kernel
theorem dX9_headOf_12 : decode cX9_headOf 12 = .ok (.ldc2_w 55, 3) := by decide +kernel
theorem dX9_headOf_15 : decode cX9_headOf 15 = .ok (.lmul, 1) := by decide +kernel
theorem dX9_headOf_16 : decode cX9_headOf 16 = .ok (.aload_n 0, 1) := by decide +kernel
theorem dX9_headOf_17 : decode cX9_headOf 17 = .ok (.iload 4, 2) := by decide +kernel
theorem dX9_headOf_19 : decode cX9_headOf 19 = .ok (.invokevirtual 170, 3) := by decide +kernel
theorem dX9_headOf_22 : decode cX9_headOf 22 = .ok (.i2l, 1) := by decide +kernel
theorem dX9_headOf_23 : decode cX9_headOf 23 = .ok (.ladd, 1) := by decide +kernel
theorem dX9_headOf_24 : decode cX9_headOf 24 = .ok (.ldc2_w 173, 3) := by decide +kernel
theorem dX9_headOf_27 : decode cX9_headOf 27 = .ok (.lrem, 1) := by decide +kernel
theorem dX9_headOf_28 : decode cX9_headOf 28 = .ok (.lstore_n 2, 1) := by decide +kernel
theorem dX9_headOf_29 : decode cX9_headOf 29 = .ok (.iinc 4 1, 3) := by decide +kernel
theorem dX9_headOf_32 : decode cX9_headOf 32 = .ok (.goto (-27), 3) := by decide +kernel
theorem dX9_headOf_35 : decode cX9_headOf 35 = .ok (.lload_n 2, 1) := by decide +kernel
theorem dX9_headOf_36 : decode cX9_headOf 36 = .ok (.l2i, 1) := by decide +kernel
theorem dX9_headOf_37 : decode cX9_headOf 37 = .ok (.ireturn, 1) := by decide +kernel
set_option maxRecDepth 20000 in
theorem ggX9_ofRow_X9_isRow : GoodIn wsX9_ofRow wsX9_isRow := goodIn_r _ [9, 10, 11, 12, 8, 13, 88, 89, 90, 91, 92, 93, 94, 95, 96, 97, 98, 99, 100, 101, 102, 103, 104, 105] (by decide +kernel) (by decide +kernel)
set_option maxRecDepth 20000 in
theorem gX9_ofRow_X9_isRow : GoodIn wsX9_ofRow (wsV RX9 158 RX9 yX9_isRow wsX9_isRow) := goodIn_app (goodIn_of _ (by decide +kernel)) ggX9_ofRow_X9_isRow
set_option maxRecDepth 20000 in
theorem ggX9_ofRow_X9_stateOf : GoodIn wsX9_ofRow wsX9_stateOf := goodIn_r _ [17, 10, 1, 18, 19, 20, 8, 21, 4, 22, 2, 3, 23, 24, 25, 26, 27, 28, 29, 30, 31, 32, 33, 34, 11, 12, 13, 35, 36, 37, 38, 39, 40, 41, 42, 43, 44, 45, 46, 47, 48, 49, 50, 51, 52, 53, 54, 55, 56, 57, 58, 59, 60, 61, 62, 63, 64, 65, 66, 67, 68, 69, 70, 71, 72, 73, 74, 75, 88, 89, 90, 91, 92, 93, 94, 95, 96, 97, 98, 99, 100, 101, 102, 103, 104, 105] (by decide +kernel) (by decide +kernel)
set_option maxRecDepth 20000 in
theorem gX9_ofRow_X9_stateOf : GoodIn wsX9_ofRow (wsV RX9 175 RX9 yX9_stateOf wsX9_stateOf) := goodIn_app (goodIn_of _ (by decide +kernel)) ggX9_ofRow_X9_stateOf
set_option maxRecDepth 20000 in
theorem ggX9_ofRow_X9_wordOf : GoodIn wsX9_ofRow wsX9_wordOf := goodIn_r _ [79, 80, 81, 1, 82, 2, 3, 4, 88, 89, 90, 91, 92, 93, 94, 95, 96, 97, 98, 99, 100, 101, 102, 103, 104, 105] (by decide +kernel) (by decide +kernel)
set_option maxRecDepth 20000 in
theorem gX9_ofRow_X9_wordOf : GoodIn wsX9_ofRow (wsV RX9 170 RX9 yX9_wordOf wsX9_wordOf) := goodIn_app (goodIn_of _ (by decide +kernel)) ggX9_ofRow_X9_wordOf
set_option maxRecDepth 20000 in
theorem ggX9_ofRow_X9_headOf : GoodIn wsX9_ofRow wsX9_headOf := goodIn_r _ [86, 59, 87, 76, 77, 78, 8, 79, 80, 81, 1, 82, 2, 3, 4, 88, 89, 90, 91, 92, 93, 94, 95, 96, 97, 98, 99, 100, 101, 102, 103, 104, 105] (by decide +kernel) (by decide +kernel)
set_option maxRecDepth 20000 in
theorem gX9_ofRow_X9_headOf : GoodIn wsX9_ofRow (wsV RX9 178 RX9 yX9_headOf wsX9_headOf) := goodIn_app (goodIn_of _ (by decide +kernel)) ggX9_ofRow_X9_headOf
theorem dX9_ofRow_0 : decode cX9_ofRow 0 = .ok (.aload_n 0, 1) := by decide +kernel
theorem dX9_ofRow_1 : decode cX9_ofRow 1 = .ok (.iload_n 1, 1) := by decide +kernel
theorem dX9_ofRow_2 : decode cX9_ofRow 2 = .ok (.invokevirtual 158, 3) := by decide +kernel
theorem dX9_ofRow_5 : decode cX9_ofRow 5 = .ok (.ifCond .ne 5, 3) := by decide +kernel
theorem dX9_ofRow_8 : decode cX9_ofRow 8 = .ok (.iconst (-1), 1) := by decide +kernel
theorem dX9_ofRow_9 : decode cX9_ofRow 9 = .ok (.ireturn, 1) := by decide +kernel
theorem dX9_ofRow_10 : decode cX9_ofRow 10 = .ok (.iload_n 2, 1) := by decide +kernel
theorem dX9_ofRow_11 : decode cX9_ofRow 11 = .ok (.tableswitch 87 0 6 #[41, 48, 55, 62, 69, 75, 81], 41) := by decide +kernel
theorem dX9_ofRow_52 : decode cX9_ofRow 52 = .ok (.aload_n 0, 1) := by decide +kernel
theorem dX9_ofRow_53 : decode cX9_ofRow 53 = .ok (.getfield 29, 3) := by decide +kernel
theorem dX9_ofRow_56 : decode cX9_ofRow 56 = .ok (.iload_n 1, 1) := by decide +kernel
theorem dX9_ofRow_57 : decode cX9_ofRow 57 = .ok (.iaload, 1) := by decide +kernel
theorem dX9_ofRow_58 : decode cX9_ofRow 58 = .ok (.ireturn, 1) := by decide +kernel
theorem dX9_ofRow_59 : decode cX9_ofRow 59 = .ok (.aload_n 0, 1) := by decide +kernel
theorem dX9_ofRow_60 : decode cX9_ofRow 60 = .ok (.getfield 32, 3) := by decide +kernel
theorem dX9_ofRow_63 : decode cX9_ofRow 63 = .ok (.iload_n 1, 1) := by decide +kernel
theorem dX9_ofRow_64 : decode cX9_ofRow 64 = .ok (.iaload, 1) := by decide +kernel
theorem dX9_ofRow_65 : decode cX9_ofRow 65 = .ok (.ireturn, 1) := by decide +kernel
theorem dX9_ofRow_66 : decode cX9_ofRow 66 = .ok (.aload_n 0, 1) := by decide +kernel
theorem dX9_ofRow_67 : decode cX9_ofRow 67 = .ok (.getfield 35, 3) := by decide +kernel
theorem dX9_ofRow_70 : decode cX9_ofRow 70 = .ok (.iload_n 1, 1) := by decide +kernel
theorem dX9_ofRow_71 : decode cX9_ofRow 71 = .ok (.iaload, 1) := by decide +kernel
theorem dX9_ofRow_72 : decode cX9_ofRow 72 = .ok (.ireturn, 1) := by decide +kernel
theorem dX9_ofRow_73 : decode cX9_ofRow 73 = .ok (.aload_n 0, 1) := by decide +kernel
theorem dX9_ofRow_74 : decode cX9_ofRow 74 = .ok (.getfield 38, 3) := by decide +kernel
theorem dX9_ofRow_77 : decode cX9_ofRow 77 = .ok (.iload_n 1, 1) := by decide +kernel
theorem dX9_ofRow_78 : decode cX9_ofRow 78 = .ok (.iaload, 1) := by decide +kernel
theorem dX9_ofRow_79 : decode cX9_ofRow 79 = .ok (.ireturn, 1) := by decide +kernel
theorem dX9_ofRow_80 : decode cX9_ofRow 80 = .ok (.aload_n 0, 1) := by decide +kernel
theorem dX9_ofRow_81 : decode cX9_ofRow 81 = .ok (.iload_n 1, 1) := by decide +kernel
theorem dX9_ofRow_82 : decode cX9_ofRow 82 = .ok (.invokevirtual 175, 3) := by decide +kernel
theorem dX9_ofRow_85 : decode cX9_ofRow 85 = .ok (.ireturn, 1) := by decide +kernel
theorem dX9_ofRow_86 : decode cX9_ofRow 86 = .ok (.aload_n 0, 1) := by decide +kernel
theorem dX9_ofRow_87 : decode cX9_ofRow 87 = .ok (.iload_n 1, 1) := by decide +kernel
theorem dX9_ofRow_88 : decode cX9_ofRow 88 = .ok (.invokevirtual 170, 3) := by decide +kernel
theorem dX9_ofRow_91 : decode cX9_ofRow 91 = .ok (.ireturn, 1) := by decide +kernel
theorem dX9_ofRow_92 : decode cX9_ofRow 92 = .ok (.aload_n 0, 1) := by decide +kernel
theorem dX9_ofRow_93 : decode cX9_ofRow 93 = .ok (.iload_n 1, 1) := by decide +kernel
theorem dX9_ofRow_94 : decode cX9_ofRow 94 = .ok (.invokevirtual 178, 3) := by decide +kernel
theorem dX9_ofRow_97 : decode cX9_ofRow 97 = .ok (.ireturn, 1) := by decide +kernel
theorem dX9_ofRow_98 : decode cX9_ofRow 98 = .ok (.bipush (-2), 2) := by decide +kernel
theorem dX9_ofRow_100 : decode cX9_ofRow 100 = .ok (.ireturn, 1) := by decide +kernel
set_option maxRecDepth 20000 in
theorem ggX9_find_X9_in : GoodIn wsX9_find wsX9_in := goodIn_r _ [5] (by decide +kernel) (by decide +kernel)
set_option maxRecDepth 20000 in
theorem gX9_find_X9_in : GoodIn wsX9_find (va_wsS RX9 51 yX9_in wsX9_in) := goodIn_app (goodIn_of _ (by decide +kernel)) ggX9_find_X9_in
set_option maxRecDepth 20000 in
theorem ggX9_find_X9_wordOf : GoodIn wsX9_find wsX9_wordOf := goodIn_r _ [9, 10, 11, 12, 13, 14, 15, 16, 17, 18, 19, 20, 21, 22, 23, 24, 25, 26, 27, 28, 29, 30, 31, 32, 33, 34] (by decide +kernel) (by decide +kernel)
set_option maxRecDepth 20000 in
theorem gX9_find_X9_wordOf : GoodIn wsX9_find (wsV RX9 170 RX9 yX9_wordOf wsX9_wordOf) := goodIn_app (goodIn_of _ (by decide +kernel)) ggX9_find_X9_wordOf
theorem dX9_find_0 : decode cX9_find 0 = .ok (.iload_n 2, 1) := by decide +kernel
theorem dX9_find_1 : decode cX9_find 1 = .ok (.iconst 0, 1) := by decide +kernel
theorem dX9_find_2 : decode cX9_find 2 = .ok (.bipush 30, 2) := by decide +kernel
theorem dX9_find_4 : decode cX9_find 4 = .ok (.invokestatic 51, 3) := by decide +kernel
theorem dX9_find_7 : decode cX9_find 7 = .ok (.ifCond .ne 6, 3) := by decide +kernel
theorem dX9_find_10 : decode cX9_find 10 = .ok (.bipush (-2), 2) := by decide +kernel
theorem dX9_find_12 : decode cX9_find 12 = .ok (.ireturn, 1) := by decide +kernel
theorem dX9_find_13 : decode cX9_find 13 = .ok (.iload_n 2, 1) := by decide +kernel
theorem dX9_find_14 : decode cX9_find 14 = .ok (.istore_n 3, 1) := by decide +kernel
theorem dX9_find_15 : decode cX9_find 15 = .ok (.iload_n 3, 1) := by decide +kernel
theorem dX9_find_16 : decode cX9_find 16 = .ok (.aload_n 0, 1) := by decide +kernel
theorem dX9_find_17 : decode cX9_find 17 = .ok (.getfield 72, 3) := by decide +kernel
theorem dX9_find_20 : decode cX9_find 20 = .ok (.if_icmp .ge 20, 3) := by decide +kernel
theorem dX9_find_23 : decode cX9_find 23 = .ok (.aload_n 0, 1) := by decide +kernel
theorem dX9_find_24 : decode cX9_find 24 = .ok (.iload_n 3, 1) := by decide +kernel
theorem dX9_find_25 : decode cX9_find 25 = .ok (.invokevirtual 170, 3) := by decide +kernel
theorem dX9_find_28 : decode cX9_find 28 = .ok (.iload_n 1, 1) := by decide +kernel
theorem dX9_find_29 : decode cX9_find 29 = .ok (.if_icmp .ne 5, 3) := by decide +kernel
theorem dX9_find_32 : decode cX9_find 32 = .ok (.iload_n 3, 1) := by decide +kernel
theorem dX9_find_33 : decode cX9_find 33 = .ok (.ireturn, 1) := by decide +kernel
theorem dX9_find_34 : decode cX9_find 34 = .ok (.iinc 3 1, 3) := by decide +kernel
theorem dX9_find_37 : decode cX9_find 37 = .ok (.goto (-22), 3) := by decide +kernel
theorem dX9_find_40 : decode cX9_find 40 = .ok (.bipush (-6), 2) := by decide +kernel
theorem dX9_find_42 : decode cX9_find 42 = .ok (.ireturn, 1) := by decide +kernel
set_option maxRecDepth 20000 in
theorem ggX9_tally_X9_in : GoodIn wsX9_tally wsX9_in := goodIn_r _ [7] (by decide +kernel) (by decide +kernel)
set_option maxRecDepth 20000 in
theorem gX9_tally_X9_in : GoodIn wsX9_tally (va_wsS RX9 51 yX9_in wsX9_in) := goodIn_app (goodIn_of _ (by decide +kernel)) ggX9_tally_X9_in
set_option maxRecDepth 20000 in
theorem ggX9_tally_X9_stateOf : GoodIn wsX9_tally wsX9_stateOf := goodIn_r _ [11, 1, 12, 13, 14, 15, 6, 16, 17, 18, 2, 3, 19, 20, 21, 22, 23, 24, 25, 26, 27, 28, 29, 30, 4, 5, 7, 31, 32, 33, 34, 35, 36, 37, 38, 39, 40, 41, 42, 43, 44, 45, 46, 47, 48, 49, 50, 51, 52, 53, 54, 55, 56, 57, 58, 59, 60, 61, 62, 63, 64, 65, 66, 67, 68, 69, 70, 71, 72, 73, 74, 75, 76, 77, 78, 79, 80, 81, 82, 83, 84, 85, 86, 87, 88, 89] (by decide +kernel) (by decide +kernel)
set_option maxRecDepth 20000 in
theorem gX9_tally_X9_stateOf : GoodIn wsX9_tally (wsV RX9 175 RX9 yX9_stateOf wsX9_stateOf) := goodIn_app (goodIn_of _ (by decide +kernel)) ggX9_tally_X9_stateOf
set_option maxRecDepth 20000 in
theorem ggX9_tally_X9_times : GoodIn wsX9_tally wsX9_times := goodIn_r _ [54, 55] (by decide +kernel) (by decide +kernel)
set_option maxRecDepth 20000 in
theorem gX9_tally_X9_times : GoodIn wsX9_tally (va_wsS RX9 65 yX9_times wsX9_times) := goodIn_app (goodIn_of _ (by decide +kernel)) ggX9_tally_X9_times
theorem dX9_tally_0 : decode cX9_tally 0 = .ok (.iload_n 1, 1) := by decide +kernel
theorem dX9_tally_1 : decode cX9_tally 1 = .ok (.iconst 0, 1) := by decide +kernel
theorem dX9_tally_2 : decode cX9_tally 2 = .ok (.iconst 2, 1) := by decide +kernel
theorem dX9_tally_3 : decode cX9_tally 3 = .ok (.invokestatic 51, 3) := by decide +kernel
theorem dX9_tally_6 : decode cX9_tally 6 = .ok (.ifCond .ne 6, 3) := by decide +kernel
theorem dX9_tally_9 : decode cX9_tally 9 = .ok (.bipush (-2), 2) := by decide +kernel
theorem dX9_tally_11 : decode cX9_tally 11 = .ok (.ireturn, 1) := by decide +kernel
theorem dX9_tally_12 : decode cX9_tally 12 = .ok (.iconst 1, 1) := by decide +kernel
theorem dX9_tally_13 : decode cX9_tally 13 = .ok (.istore_n 2, 1) := by decide +kernel
theorem dX9_tally_14 : decode cX9_tally 14 = .ok (.iconst 1, 1) := by decide +kernel
theorem dX9_tally_15 : decode cX9_tally 15 = .ok (.istore_n 3, 1) := by decide +kernel
theorem dX9_tally_16 : decode cX9_tally 16 = .ok (.iconst 0, 1) := by decide +kernel
theorem dX9_tally_17 : decode cX9_tally 17 = .ok (.istore 4, 2) := by decide +kernel
theorem dX9_tally_19 : decode cX9_tally 19 = .ok (.iconst 0, 1) := by decide +kernel
theorem dX9_tally_20 : decode cX9_tally 20 = .ok (.istore 5, 2) := by decide +kernel
theorem dX9_tally_22 : decode cX9_tally 22 = .ok (.iload 5, 2) := by decide +kernel
theorem dX9_tally_24 : decode cX9_tally 24 = .ok (.aload_n 0, 1) := by decide +kernel
theorem dX9_tally_25 : decode cX9_tally 25 = .ok (.getfield 72, 3) := by decide +kernel
theorem dX9_tally_28 : decode cX9_tally 28 = .ok (.if_icmp .ge 45, 3) := by decide +kernel
theorem dX9_tally_31 : decode cX9_tally 31 = .ok (.aload_n 0, 1) := by decide +kernel
theorem dX9_tally_32 : decode cX9_tally 32 = .ok (.iload 5, 2) := by decide +kernel
theorem dX9_tally_34 : decode cX9_tally 34 = .ok (.invokevirtual 175, 3) := by decide +kernel
theorem dX9_tally_37 : decode cX9_tally 37 = .ok (.ifCond .ne 30, 3) := by decide +kernel
theorem dX9_tally_40 : decode cX9_tally 40 = .ok (.iload_n 2, 1) := by decide +kernel
theorem dX9_tally_41 : decode cX9_tally 41 = .ok (.aload_n 0, 1) := by decide +kernel
theorem dX9_tally_42 : decode cX9_tally 42 = .ok (.getfield 32, 3) := by decide +kernel
theorem dX9_tally_45 : decode cX9_tally 45 = .ok (.iload 5, 2) := by decide +kernel
theorem dX9_tally_47 : decode cX9_tally 47 = .ok (.iaload, 1) := by decide +kernel
theorem dX9_tally_48 : decode cX9_tally 48 = .ok (.invokestatic 65, 3) := by decide +kernel
theorem dX9_tally_51 : decode cX9_tally 51 = .ok (.istore_n 2, 1) := by decide +kernel
theorem dX9_tally_52 : decode cX9_tally 52 = .ok (.iload_n 3, 1) := by decide +kernel
theorem dX9_tally_53 : decode cX9_tally 53 = .ok (.aload_n 0, 1) := by decide +kernel
theorem dX9_tally_54 : decode cX9_tally 54 = .ok (.getfield 35, 3) := by decide +kernel
theorem dX9_tally_57 : decode cX9_tally 57 = .ok (.iload 5, 2) := by decide +kernel
theorem dX9_tally_59 : decode cX9_tally 59 = .ok (.iaload, 1) := by decide +kernel
theorem dX9_tally_60 : decode cX9_tally 60 = .ok (.invokestatic 65, 3) := by decide +kernel
theorem dX9_tally_63 : decode cX9_tally 63 = .ok (.istore_n 3, 1) := by decide +kernel
theorem dX9_tally_64 : decode cX9_tally 64 = .ok (.iinc 4 1, 3) := by decide +kernel
theorem dX9_tally_67 : decode cX9_tally 67 = .ok (.iinc 5 1, 3) := by decide +kernel
theorem dX9_tally_70 : decode cX9_tally 70 = .ok (.goto (-48), 3) := by decide +kernel
theorem dX9_tally_73 : decode cX9_tally 73 = .ok (.iload_n 1, 1) := by decide +kernel
theorem dX9_tally_74 : decode cX9_tally 74 = .ok (.ifCond .ne 7, 3) := by decide +kernel
theorem dX9_tally_77 : decode cX9_tally 77 = .ok (.iload_n 2, 1) := by decide +kernel
theorem dX9_tally_78 : decode cX9_tally 78 = .ok (.goto 14, 3) := by decide +kernel
theorem dX9_tally_81 : decode cX9_tally 81 = .ok (.iload_n 1, 1) := by decide +kernel
theorem dX9_tally_82 : decode cX9_tally 82 = .ok (.iconst 1, 1) := by decide +kernel
theorem dX9_tally_83 : decode cX9_tally 83 = .ok (.if_icmp .ne 7, 3) := by decide +kernel
theorem dX9_tally_86 : decode cX9_tally 86 = .ok (.iload_n 3, 1) := by decide +kernel
theorem dX9_tally_87 : decode cX9_tally 87 = .ok (.goto 5, 3) := by decide +kernel
theorem dX9_tally_90 : decode cX9_tally 90 = .ok (.iload 4, 2) := by decide +kernel
theorem dX9_tally_92 : decode cX9_tally 92 = .ok (.ireturn, 1) := by decide +kernel
set_option maxRecDepth 20000 in
theorem ggX9_copy_X9_in : GoodIn wsX9_copy wsX9_in := goodIn_r _ [6] (by decide +kernel) (by decide +kernel)
set_option maxRecDepth 20000 in
theorem gX9_copy_X9_in : GoodIn wsX9_copy (va_wsS RX9 51 yX9_in wsX9_in) := goodIn_app (goodIn_of _ (by decide +kernel)) ggX9_copy_X9_in
theorem dX9_copy_0 : decode cX9_copy 0 = .ok (.iload_n 1, 1) := by decide +kernel
theorem dX9_copy_1 : decode cX9_copy 1 = .ok (.iconst 0, 1) := by decide +kernel
theorem dX9_copy_2 : decode cX9_copy 2 = .ok (.sipush 9972, 3) := by decide +kernel
theorem dX9_copy_5 : decode cX9_copy 5 = .ok (.invokestatic 51, 3) := by decide +kernel
theorem dX9_copy_8 : decode cX9_copy 8 = .ok (.ifCond .ne 6, 3) := by decide +kernel
theorem dX9_copy_11 : decode cX9_copy 11 = .ok (.bipush (-2), 2) := by decide +kernel
theorem dX9_copy_13 : decode cX9_copy 13 = .ok (.ireturn, 1) := by decide +kernel
theorem dX9_copy_14 : decode cX9_copy 14 = .ok (.aload_n 0, 1) := by decide +kernel
theorem dX9_copy_15 : decode cX9_copy 15 = .ok (.getfield 181, 3) := by decide +kernel
theorem dX9_copy_18 : decode cX9_copy 18 = .ok (.bipush 30, 2) := by decide +kernel
theorem dX9_copy_20 : decode cX9_copy 20 = .ok (.if_icmp .ne 6, 3) := by decide +kernel
theorem dX9_copy_23 : decode cX9_copy 23 = .ok (.bipush (-4), 2) := by decide +kernel
theorem dX9_copy_25 : decode cX9_copy 25 = .ok (.ireturn, 1) := by decide +kernel
theorem dX9_copy_26 : decode cX9_copy 26 = .ok (.aload_n 0, 1) := by decide +kernel
theorem dX9_copy_27 : decode cX9_copy 27 = .ok (.getfield 48, 3) := by decide +kernel
theorem dX9_copy_30 : decode cX9_copy 30 = .ok (.aload_n 0, 1) := by decide +kernel
theorem dX9_copy_31 : decode cX9_copy 31 = .ok (.getfield 181, 3) := by decide +kernel
theorem dX9_copy_34 : decode cX9_copy 34 = .ok (.iload_n 1, 1) := by decide +kernel
theorem dX9_copy_35 : decode cX9_copy 35 = .ok (.iastore, 1) := by decide +kernel
theorem dX9_copy_36 : decode cX9_copy 36 = .ok (.aload_n 0, 1) := by decide +kernel
theorem dX9_copy_37 : decode cX9_copy 37 = .ok (.dup, 1) := by decide +kernel
theorem dX9_copy_38 : decode cX9_copy 38 = .ok (.getfield 181, 3) := by decide +kernel
theorem dX9_copy_41 : decode cX9_copy 41 = .ok (.iconst 1, 1) := by decide +kernel
theorem dX9_copy_42 : decode cX9_copy 42 = .ok (.iadd, 1) := by decide +kernel
theorem dX9_copy_43 : decode cX9_copy 43 = .ok (.putfield 181, 3) := by decide +kernel
theorem dX9_copy_46 : decode cX9_copy 46 = .ok (.aload_n 0, 1) := by decide +kernel
theorem dX9_copy_47 : decode cX9_copy 47 = .ok (.getfield 181, 3) := by decide +kernel
theorem dX9_copy_50 : decode cX9_copy 50 = .ok (.ireturn, 1) := by decide +kernel
set_option maxRecDepth 20000 in
theorem ggX9_parted_X9_wordOf : GoodIn wsX9_parted wsX9_wordOf := goodIn_r _ [8, 9, 10, 11, 12, 13, 14, 15, 16, 17, 18, 19, 20, 21, 22, 23, 24, 25, 26, 27, 28, 29, 30, 31, 32, 33] (by decide +kernel) (by decide +kernel)
set_option maxRecDepth 20000 in
theorem gX9_parted_X9_wordOf : GoodIn wsX9_parted (wsV RX9 170 RX9 yX9_wordOf wsX9_wordOf) := goodIn_app (goodIn_of _ (by decide +kernel)) ggX9_parted_X9_wordOf
theorem dX9_parted_0 : decode cX9_parted 0 = .ok (.iconst 0, 1) := by decide +kernel
theorem dX9_parted_1 : decode cX9_parted 1 = .ok (.istore_n 1, 1) := by decide +kernel
theorem dX9_parted_2 : decode cX9_parted 2 = .ok (.iload_n 1, 1) := by decide +kernel
theorem dX9_parted_3 : decode cX9_parted 3 = .ok (.aload_n 0, 1) := by decide +kernel
theorem dX9_parted_4 : decode cX9_parted 4 = .ok (.getfield 72, 3) := by decide +kernel
theorem dX9_parted_7 : decode cX9_parted 7 = .ok (.if_icmp .ge 33, 3) := by decide +kernel
theorem dX9_parted_10 : decode cX9_parted 10 = .ok (.iload_n 1, 1) := by decide +kernel
theorem dX9_parted_11 : decode cX9_parted 11 = .ok (.aload_n 0, 1) := by decide +kernel
theorem dX9_parted_12 : decode cX9_parted 12 = .ok (.getfield 181, 3) := by decide +kernel
theorem dX9_parted_15 : decode cX9_parted 15 = .ok (.if_icmp .ge 25, 3) := by decide +kernel
theorem dX9_parted_18 : decode cX9_parted 18 = .ok (.aload_n 0, 1) := by decide +kernel
theorem dX9_parted_19 : decode cX9_parted 19 = .ok (.getfield 48, 3) := by decide +kernel
theorem dX9_parted_22 : decode cX9_parted 22 = .ok (.iload_n 1, 1) := by decide +kernel
theorem dX9_parted_23 : decode cX9_parted 23 = .ok (.iaload, 1) := by decide +kernel
theorem dX9_parted_24 : decode cX9_parted 24 = .ok (.aload_n 0, 1) := by decide +kernel
theorem dX9_parted_25 : decode cX9_parted 25 = .ok (.iload_n 1, 1) := by decide +kernel
theorem dX9_parted_26 : decode cX9_parted 26 = .ok (.invokevirtual 170, 3) := by decide +kernel
theorem dX9_parted_29 : decode cX9_parted 29 = .ok (.if_icmp .eq 5, 3) := by decide +kernel
theorem dX9_parted_32 : decode cX9_parted 32 = .ok (.iload_n 1, 1) := by decide +kernel
theorem dX9_parted_33 : decode cX9_parted 33 = .ok (.ireturn, 1) := by decide +kernel
theorem dX9_parted_34 : decode cX9_parted 34 = .ok (.iinc 1 1, 3) := by decide +kernel
theorem dX9_parted_37 : decode cX9_parted 37 = .ok (.goto (-35), 3) := by decide +kernel
theorem dX9_parted_40 : decode cX9_parted 40 = .ok (.bipush (-6), 2) := by decide +kernel
theorem dX9_parted_42 : decode cX9_parted 42 = .ok (.ireturn, 1) := by decide +kernel
theorem dX9_choose_0 : decode cX9_choose 0 = .ok (.iload_n 1, 1) := by decide +kernel
theorem dX9_choose_1 : decode cX9_choose 1 = .ok (.ifCond .lt 8, 3) := by decide +kernel
theorem dX9_choose_4 : decode cX9_choose 4 = .ok (.iload_n 1, 1) := by decide +kernel
theorem dX9_choose_5 : decode cX9_choose 5 = .ok (.iload_n 0, 1) := by decide +kernel
theorem dX9_choose_6 : decode cX9_choose 6 = .ok (.if_icmp .le 7, 3) := by decide +kernel
theorem dX9_choose_9 : decode cX9_choose 9 = .ok (.lconst 0, 1) := by decide +kernel
theorem dX9_choose_10 : decode cX9_choose 10 = .ok (.goto 4, 3) := by decide +kernel
theorem dX9_choose_13 : decode cX9_choose 13 = .ok (.lconst 1, 1) := by decide +kernel
theorem dX9_choose_14 : decode cX9_choose 14 = .ok (.lstore_n 2, 1) := by decide +kernel
theorem dX9_choose_15 : decode cX9_choose 15 = .ok (.iconst 0, 1) := by decide +kernel
theorem dX9_choose_16 : decode cX9_choose 16 = .ok (.istore 4, 2) := by decide +kernel
theorem dX9_choose_18 : decode cX9_choose 18 = .ok (.iload 4, 2) := by decide +kernel
theorem dX9_choose_20 : decode cX9_choose 20 = .ok (.iload_n 1, 1) := by decide +kernel
theorem dX9_choose_21 : decode cX9_choose 21 = .ok (.if_icmp .ge 29, 3) := by decide +kernel
theorem dX9_choose_24 : decode cX9_choose 24 = .ok (.lload_n 2, 1) := by decide +kernel
theorem dX9_choose_25 : decode cX9_choose 25 = .ok (.lconst 0, 1) := by decide +kernel
theorem dX9_choose_26 : decode cX9_choose 26 = .ok (.lcmp, 1) := by decide +kernel
theorem dX9_choose_27 : decode cX9_choose 27 = .ok (.ifCond .le 23, 3) := by decide +kernel
theorem dX9_choose_30 : decode cX9_choose 30 = .ok (.lload_n 2, 1) := by decide +kernel
theorem dX9_choose_31 : decode cX9_choose 31 = .ok (.iload_n 0, 1) := by decide +kernel
theorem dX9_choose_32 : decode cX9_choose 32 = .ok (.iload 4, 2) := by decide +kernel
theorem dX9_choose_34 : decode cX9_choose 34 = .ok (.isub, 1) := by decide +kernel
theorem dX9_choose_35 : decode cX9_choose 35 = .ok (.i2l, 1) := by decide +kernel
theorem dX9_choose_36 : decode cX9_choose 36 = .ok (.lmul, 1) := by decide +kernel
theorem dX9_choose_37 : decode cX9_choose 37 = .ok (.iload 4, 2) := by decide +kernel
theorem dX9_choose_39 : decode cX9_choose 39 = .ok (.iconst 1, 1) := by decide +kernel
theorem dX9_choose_40 : decode cX9_choose 40 = .ok (.iadd, 1) := by decide +kernel
theorem dX9_choose_41 : decode cX9_choose 41 = .ok (.i2l, 1) := by decide +kernel
theorem dX9_choose_42 : decode cX9_choose 42 = .ok (.ldiv, 1) := by decide +kernel
theorem dX9_choose_43 : decode cX9_choose 43 = .ok (.lstore_n 2, 1) := by decide +kernel
theorem dX9_choose_44 : decode cX9_choose 44 = .ok (.iinc 4 1, 3) := by decide +kernel
theorem dX9_choose_47 : decode cX9_choose 47 = .ok (.goto (-29), 3) := by decide +kernel
theorem dX9_choose_50 : decode cX9_choose 50 = .ok (.lload_n 2, 1) := by decide +kernel
theorem dX9_choose_51 : decode cX9_choose 51 = .ok (.lreturn, 1) := by decide +kernel
theorem dX9_term_0 : decode cX9_term 0 = .ok (.lload_n 0, 1) := by decide +kernel
theorem dX9_term_1 : decode cX9_term 1 = .ok (.lstore 5, 2) := by decide +kernel
theorem dX9_term_3 : decode cX9_term 3 = .ok (.lload_n 2, 1) := by decide +kernel
theorem dX9_term_4 : decode cX9_term 4 = .ok (.lstore 7, 2) := by decide +kernel
theorem dX9_term_6 : decode cX9_term 6 = .ok (.lload 7, 2) := by decide +kernel
theorem dX9_term_8 : decode cX9_term 8 = .ok (.lconst 0, 1) := by decide +kernel
theorem dX9_term_9 : decode cX9_term 9 = .ok (.lcmp, 1) := by decide +kernel
theorem dX9_term_10 : decode cX9_term 10 = .ok (.ifCond .eq 21, 3) := by decide +kernel
theorem dX9_term_13 : decode cX9_term 13 = .ok (.lload 5, 2) := by decide +kernel
theorem dX9_term_15 : decode cX9_term 15 = .ok (.lload 7, 2) := by decide +kernel
theorem dX9_term_17 : decode cX9_term 17 = .ok (.lrem, 1) := by decide +kernel
theorem dX9_term_18 : decode cX9_term 18 = .ok (.lstore 9, 2) := by decide +kernel
theorem dX9_term_20 : decode cX9_term 20 = .ok (.lload 7, 2) := by decide +kernel
theorem dX9_term_22 : decode cX9_term 22 = .ok (.lstore 5, 2) := by decide +kernel
theorem dX9_term_24 : decode cX9_term 24 = .ok (.lload 9, 2) := by decide +kernel
theorem dX9_term_26 : decode cX9_term 26 = .ok (.lstore 7, 2) := by decide +kernel
theorem dX9_term_28 : decode cX9_term 28 = .ok (.goto (-22), 3) := by decide +kernel
theorem dX9_term_31 : decode cX9_term 31 = .ok (.iload 4, 2) := by decide +kernel
theorem dX9_term_33 : decode cX9_term 33 = .ok (.ifCond .ne 10, 3) := by decide +kernel
theorem dX9_term_36 : decode cX9_term 36 = .ok (.lload_n 0, 1) := by decide +kernel
theorem dX9_term_37 : decode cX9_term 37 = .ok (.lload 5, 2) := by decide +kernel
theorem dX9_term_39 : decode cX9_term 39 = .ok (.ldiv, 1) := by decide +kernel
theorem dX9_term_40 : decode cX9_term 40 = .ok (.goto 7, 3) := by decide +kernel
theorem dX9_term_43 : decode cX9_term 43 = .ok (.lload_n 2, 1) := by decide +kernel
theorem dX9_term_44 : decode cX9_term 44 = .ok (.lload 5, 2) := by decide +kernel
theorem dX9_term_46 : decode cX9_term 46 = .ok (.ldiv, 1) := by decide +kernel
theorem dX9_term_47 : decode cX9_term 47 = .ok (.lreturn, 1) := by decide +kernel
set_option maxRecDepth 20000 in
theorem ggX9_isBooth_X9_in : GoodIn wsX9_isBooth wsX9_in := goodIn_r _ [4] (by decide +kernel) (by decide +kernel)
set_option maxRecDepth 20000 in
theorem gX9_isBooth_X9_in : GoodIn wsX9_isBooth (va_wsS RX9 51 yX9_in wsX9_in) := goodIn_app (goodIn_of _ (by decide +kernel)) ggX9_isBooth_X9_in
theorem dX9_isBooth_0 : decode cX9_isBooth 0 = .ok (.iload_n 0, 1) := by decide +kernel
theorem dX9_isBooth_1 : decode cX9_isBooth 1 = .ok (.iconst 1, 1) := by decide +kernel
theorem dX9_isBooth_2 : decode cX9_isBooth 2 = .ok (.bipush 40, 2) := by decide +kernel
theorem dX9_isBooth_4 : decode cX9_isBooth 4 = .ok (.invokestatic 51, 3) := by decide +kernel
theorem dX9_isBooth_7 : decode cX9_isBooth 7 = .ok (.ifCond .eq 16, 3) := by decide +kernel
theorem dX9_isBooth_10 : decode cX9_isBooth 10 = .ok (.iload_n 1, 1) := by decide +kernel
theorem dX9_isBooth_11 : decode cX9_isBooth 11 = .ok (.iconst 0, 1) := by decide +kernel
theorem dX9_isBooth_12 : decode cX9_isBooth 12 = .ok (.iload_n 0, 1) := by decide +kernel
theorem dX9_isBooth_13 : decode cX9_isBooth 13 = .ok (.invokestatic 51, 3) := by decide +kernel
theorem dX9_isBooth_16 : decode cX9_isBooth 16 = .ok (.ifCond .eq 7, 3) := by decide +kernel
theorem dX9_isBooth_19 : decode cX9_isBooth 19 = .ok (.iconst 1, 1) := by decide +kernel
theorem dX9_isBooth_20 : decode cX9_isBooth 20 = .ok (.goto 4, 3) := by decide +kernel
theorem dX9_isBooth_23 : decode cX9_isBooth 23 = .ok (.iconst 0, 1) := by decide +kernel
theorem dX9_isBooth_24 : decode cX9_isBooth 24 = .ok (.ireturn, 1) := by decide +kernel
set_option maxRecDepth 20000 in
theorem ggX9_lies_X9_isBooth : GoodIn wsX9_lies wsX9_isBooth := goodIn_r _ [5, 6, 7, 4, 8] (by decide +kernel) (by decide +kernel)
set_option maxRecDepth 20000 in
theorem gX9_lies_X9_isBooth : GoodIn wsX9_lies (va_wsS RX9 184 yX9_isBooth wsX9_isBooth) := goodIn_app (goodIn_of _ (by decide +kernel)) ggX9_lies_X9_isBooth
set_option maxRecDepth 20000 in
theorem ggX9_lies_X9_in : GoodIn wsX9_lies wsX9_in := goodIn_r _ [8] (by decide +kernel) (by decide +kernel)
set_option maxRecDepth 20000 in
theorem gX9_lies_X9_in : GoodIn wsX9_lies (va_wsS RX9 51 yX9_in wsX9_in) := goodIn_app (goodIn_of _ (by decide +kernel)) ggX9_lies_X9_in
set_option maxRecDepth 20000 in
theorem ggX9_lies_X9_choose : GoodIn wsX9_lies wsX9_choose := goodIn_r _ [11] (by decide +kernel) (by decide +kernel)
set_option maxRecDepth 20000 in
theorem gX9_lies_X9_choose : GoodIn wsX9_lies (va_wsS RX9 189 yX9_choose wsX9_choose) := goodIn_app (goodIn_of _ (by decide +kernel)) ggX9_lies_X9_choose
set_option maxRecDepth 20000 in
theorem ggX9_lies_X9_term : GoodIn wsX9_lies wsX9_term := goodIn_r _ [14] (by decide +kernel) (by decide +kernel)
set_option maxRecDepth 20000 in
theorem gX9_lies_X9_term : GoodIn wsX9_lies (va_wsS RX9 193 yX9_term wsX9_term) := goodIn_app (goodIn_of _ (by decide +kernel)) ggX9_lies_X9_term
theorem dX9_lies_0 : decode cX9_lies 0 = .ok (.iload_n 1, 1) := by decide +kernel
theorem dX9_lies_1 : decode cX9_lies 1 = .ok (.iload_n 2, 1) := by decide +kernel
theorem dX9_lies_2 : decode cX9_lies 2 = .ok (.invokestatic 184, 3) := by decide +kernel
theorem dX9_lies_5 : decode cX9_lies 5 = .ok (.ifCond .eq 22, 3) := by decide +kernel
theorem dX9_lies_8 : decode cX9_lies 8 = .ok (.iload_n 3, 1) := by decide +kernel
theorem dX9_lies_9 : decode cX9_lies 9 = .ok (.iconst 0, 1) := by decide +kernel
theorem dX9_lies_10 : decode cX9_lies 10 = .ok (.iload_n 1, 1) := by decide +kernel
theorem dX9_lies_11 : decode cX9_lies 11 = .ok (.invokestatic 51, 3) := by decide +kernel
theorem dX9_lies_14 : decode cX9_lies 14 = .ok (.ifCond .eq 13, 3) := by decide +kernel
theorem dX9_lies_17 : decode cX9_lies 17 = .ok (.iload 4, 2) := by decide +kernel
theorem dX9_lies_19 : decode cX9_lies 19 = .ok (.iconst 0, 1) := by decide +kernel
theorem dX9_lies_20 : decode cX9_lies 20 = .ok (.iconst 1, 1) := by decide +kernel
theorem dX9_lies_21 : decode cX9_lies 21 = .ok (.invokestatic 51, 3) := by decide +kernel
theorem dX9_lies_24 : decode cX9_lies 24 = .ok (.ifCond .ne 7, 3) := by decide +kernel
theorem dX9_lies_27 : decode cX9_lies 27 = .ok (.ldc2_w 187, 3) := by decide +kernel
theorem dX9_lies_30 : decode cX9_lies 30 = .ok (.lreturn, 1) := by decide +kernel
theorem dX9_lies_31 : decode cX9_lies 31 = .ok (.iload_n 1, 1) := by decide +kernel
theorem dX9_lies_32 : decode cX9_lies 32 = .ok (.iload_n 2, 1) := by decide +kernel
theorem dX9_lies_33 : decode cX9_lies 33 = .ok (.isub, 1) := by decide +kernel
theorem dX9_lies_34 : decode cX9_lies 34 = .ok (.iload_n 3, 1) := by decide +kernel
theorem dX9_lies_35 : decode cX9_lies 35 = .ok (.invokestatic 189, 3) := by decide +kernel
theorem dX9_lies_38 : decode cX9_lies 38 = .ok (.iload_n 1, 1) := by decide +kernel
theorem dX9_lies_39 : decode cX9_lies 39 = .ok (.iload_n 3, 1) := by decide +kernel
theorem dX9_lies_40 : decode cX9_lies 40 = .ok (.invokestatic 189, 3) := by decide +kernel
theorem dX9_lies_43 : decode cX9_lies 43 = .ok (.iload 4, 2) := by decide +kernel
theorem dX9_lies_45 : decode cX9_lies 45 = .ok (.invokestatic 193, 3) := by decide +kernel
theorem dX9_lies_48 : decode cX9_lies 48 = .ok (.lreturn, 1) := by decide +kernel
set_option maxRecDepth 20000 in
theorem ggX9_ask_X9_isBooth : GoodIn wsX9_ask wsX9_isBooth := goodIn_r _ [5, 6, 7, 4, 8] (by decide +kernel) (by decide +kernel)
set_option maxRecDepth 20000 in
theorem gX9_ask_X9_isBooth : GoodIn wsX9_ask (va_wsS RX9 184 yX9_isBooth wsX9_isBooth) := goodIn_app (goodIn_of _ (by decide +kernel)) ggX9_ask_X9_isBooth
set_option maxRecDepth 20000 in
theorem ggX9_ask_X9_in : GoodIn wsX9_ask wsX9_in := goodIn_r _ [8] (by decide +kernel) (by decide +kernel)
set_option maxRecDepth 20000 in
theorem gX9_ask_X9_in : GoodIn wsX9_ask (va_wsS RX9 51 yX9_in wsX9_in) := goodIn_app (goodIn_of _ (by decide +kernel)) ggX9_ask_X9_in
set_option maxRecDepth 20000 in
theorem ggX9_ask_X9_choose : GoodIn wsX9_ask wsX9_choose := goodIn_r _ [11] (by decide +kernel) (by decide +kernel)
set_option maxRecDepth 20000 in
theorem gX9_ask_X9_choose : GoodIn wsX9_ask (va_wsS RX9 189 yX9_choose wsX9_choose) := goodIn_app (goodIn_of _ (by decide +kernel)) ggX9_ask_X9_choose
theorem dX9_ask_0 : decode cX9_ask 0 = .ok (.iload_n 1, 1) := by decide +kernel
theorem dX9_ask_1 : decode cX9_ask 1 = .ok (.iload_n 2, 1) := by decide +kernel
theorem dX9_ask_2 : decode cX9_ask 2 = .ok (.invokestatic 184, 3) := by decide +kernel
theorem dX9_ask_5 : decode cX9_ask 5 = .ok (.ifCond .eq 13, 3) := by decide +kernel
theorem dX9_ask_8 : decode cX9_ask 8 = .ok (.iload_n 3, 1) := by decide +kernel
theorem dX9_ask_9 : decode cX9_ask 9 = .ok (.iconst 0, 1) := by decide +kernel
theorem dX9_ask_10 : decode cX9_ask 10 = .ok (.bipush 100, 2) := by decide +kernel
theorem dX9_ask_12 : decode cX9_ask 12 = .ok (.invokestatic 51, 3) := by decide +kernel
theorem dX9_ask_15 : decode cX9_ask 15 = .ok (.ifCond .ne 6, 3) := by decide +kernel
theorem dX9_ask_18 : decode cX9_ask 18 = .ok (.bipush (-2), 2) := by decide +kernel
theorem dX9_ask_20 : decode cX9_ask 20 = .ok (.ireturn, 1) := by decide +kernel
theorem dX9_ask_21 : decode cX9_ask 21 = .ok (.iconst 0, 1) := by decide +kernel
theorem dX9_ask_22 : decode cX9_ask 22 = .ok (.istore 4, 2) := by decide +kernel
theorem dX9_ask_24 : decode cX9_ask 24 = .ok (.iload 4, 2) := by decide +kernel
theorem dX9_ask_26 : decode cX9_ask 26 = .ok (.iload_n 1, 1) := by decide +kernel
theorem dX9_ask_27 : decode cX9_ask 27 = .ok (.if_icmp .gt 37, 3) := by decide +kernel
theorem dX9_ask_30 : decode cX9_ask 30 = .ok (.iload_n 1, 1) := by decide +kernel
theorem dX9_ask_31 : decode cX9_ask 31 = .ok (.iload_n 2, 1) := by decide +kernel
theorem dX9_ask_32 : decode cX9_ask 32 = .ok (.isub, 1) := by decide +kernel
theorem dX9_ask_33 : decode cX9_ask 33 = .ok (.iload 4, 2) := by decide +kernel
theorem dX9_ask_35 : decode cX9_ask 35 = .ok (.invokestatic 189, 3) := by decide +kernel
theorem dX9_ask_38 : decode cX9_ask 38 = .ok (.ldc2_w 197, 3) := by decide +kernel
theorem dX9_ask_41 : decode cX9_ask 41 = .ok (.lmul, 1) := by decide +kernel
theorem dX9_ask_42 : decode cX9_ask 42 = .ok (.iload_n 3, 1) := by decide +kernel
theorem dX9_ask_43 : decode cX9_ask 43 = .ok (.i2l, 1) := by decide +kernel
theorem dX9_ask_44 : decode cX9_ask 44 = .ok (.iload_n 1, 1) := by decide +kernel
theorem dX9_ask_45 : decode cX9_ask 45 = .ok (.iload 4, 2) := by decide +kernel
theorem dX9_ask_47 : decode cX9_ask 47 = .ok (.invokestatic 189, 3) := by decide +kernel
theorem dX9_ask_50 : decode cX9_ask 50 = .ok (.lmul, 1) := by decide +kernel
theorem dX9_ask_51 : decode cX9_ask 51 = .ok (.lcmp, 1) := by decide +kernel
theorem dX9_ask_52 : decode cX9_ask 52 = .ok (.ifCond .gt 6, 3) := by decide +kernel
theorem dX9_ask_55 : decode cX9_ask 55 = .ok (.iload 4, 2) := by decide +kernel
theorem dX9_ask_57 : decode cX9_ask 57 = .ok (.ireturn, 1) := by decide +kernel
theorem dX9_ask_58 : decode cX9_ask 58 = .ok (.iinc 4 1, 3) := by decide +kernel
theorem dX9_ask_61 : decode cX9_ask 61 = .ok (.goto (-37), 3) := by decide +kernel
theorem dX9_ask_64 : decode cX9_ask 64 = .ok (.bipush (-6), 2) := by decide +kernel
theorem dX9_ask_66 : decode cX9_ask 66 = .ok (.ireturn, 1) := by decide +kernel
set_option maxRecDepth 20000 in
theorem ggX9_isAll_X9_in : GoodIn wsX9_isAll wsX9_in := goodIn_r _ [4] (by decide +kernel) (by decide +kernel)
set_option maxRecDepth 20000 in
theorem gX9_isAll_X9_in : GoodIn wsX9_isAll (va_wsS RX9 51 yX9_in wsX9_in) := goodIn_app (goodIn_of _ (by decide +kernel)) ggX9_isAll_X9_in
theorem dX9_isAll_0 : decode cX9_isAll 0 = .ok (.iload_n 0, 1) := by decide +kernel
theorem dX9_isAll_1 : decode cX9_isAll 1 = .ok (.iconst 2, 1) := by decide +kernel
theorem dX9_isAll_2 : decode cX9_isAll 2 = .ok (.bipush 40, 2) := by decide +kernel
theorem dX9_isAll_4 : decode cX9_isAll 4 = .ok (.invokestatic 51, 3) := by decide +kernel
theorem dX9_isAll_7 : decode cX9_isAll 7 = .ok (.ireturn, 1) := by decide +kernel
set_option maxRecDepth 20000 in
theorem ggX9_slips_X9_isAll : GoodIn wsX9_slips wsX9_isAll := goodIn_r _ [5, 6, 7, 4, 8] (by decide +kernel) (by decide +kernel)
set_option maxRecDepth 20000 in
theorem gX9_slips_X9_isAll : GoodIn wsX9_slips (va_wsS RX9 199 yX9_isAll wsX9_isAll) := goodIn_app (goodIn_of _ (by decide +kernel)) ggX9_slips_X9_isAll
set_option maxRecDepth 20000 in
theorem ggX9_slips_X9_in : GoodIn wsX9_slips wsX9_in := goodIn_r _ [8] (by decide +kernel) (by decide +kernel)
set_option maxRecDepth 20000 in
theorem gX9_slips_X9_in : GoodIn wsX9_slips (va_wsS RX9 51 yX9_in wsX9_in) := goodIn_app (goodIn_of _ (by decide +kernel)) ggX9_slips_X9_in
set_option maxRecDepth 20000 in
theorem ggX9_slips_X9_choose : GoodIn wsX9_slips wsX9_choose := goodIn_r _ [11] (by decide +kernel) (by decide +kernel)
set_option maxRecDepth 20000 in
theorem gX9_slips_X9_choose : GoodIn wsX9_slips (va_wsS RX9 189 yX9_choose wsX9_choose) := goodIn_app (goodIn_of _ (by decide +kernel)) ggX9_slips_X9_choose
set_option maxRecDepth 20000 in
theorem ggX9_slips_X9_term : GoodIn wsX9_slips wsX9_term := goodIn_r _ [14] (by decide +kernel) (by decide +kernel)
set_option maxRecDepth 20000 in
theorem gX9_slips_X9_term : GoodIn wsX9_slips (va_wsS RX9 193 yX9_term wsX9_term) := goodIn_app (goodIn_of _ (by decide +kernel)) ggX9_slips_X9_term
theorem dX9_slips_0 : decode cX9_slips 0 = .ok (.iload_n 1, 1) := by decide +kernel
theorem dX9_slips_1 : decode cX9_slips 1 = .ok (.invokestatic 199, 3) := by decide +kernel
theorem dX9_slips_4 : decode cX9_slips 4 = .ok (.ifCond .eq 31, 3) := by decide +kernel
theorem dX9_slips_7 : decode cX9_slips 7 = .ok (.iload_n 2, 1) := by decide +kernel
theorem dX9_slips_8 : decode cX9_slips 8 = .ok (.iconst 0, 1) := by decide +kernel
theorem dX9_slips_9 : decode cX9_slips 9 = .ok (.iload_n 1, 1) := by decide +kernel
theorem dX9_slips_10 : decode cX9_slips 10 = .ok (.invokestatic 51, 3) := by decide +kernel
theorem dX9_slips_13 : decode cX9_slips 13 = .ok (.ifCond .eq 22, 3) := by decide +kernel
theorem dX9_slips_16 : decode cX9_slips 16 = .ok (.iload_n 3, 1) := by decide +kernel
theorem dX9_slips_17 : decode cX9_slips 17 = .ok (.iconst 0, 1) := by decide +kernel
theorem dX9_slips_18 : decode cX9_slips 18 = .ok (.iload_n 2, 1) := by decide +kernel
theorem dX9_slips_19 : decode cX9_slips 19 = .ok (.invokestatic 51, 3) := by decide +kernel
theorem dX9_slips_22 : decode cX9_slips 22 = .ok (.ifCond .eq 13, 3) := by decide +kernel
theorem dX9_slips_25 : decode cX9_slips 25 = .ok (.iload 4, 2) := by decide +kernel
theorem dX9_slips_27 : decode cX9_slips 27 = .ok (.iconst 0, 1) := by decide +kernel
theorem dX9_slips_28 : decode cX9_slips 28 = .ok (.iconst 1, 1) := by decide +kernel
theorem dX9_slips_29 : decode cX9_slips 29 = .ok (.invokestatic 51, 3) := by decide +kernel
theorem dX9_slips_32 : decode cX9_slips 32 = .ok (.ifCond .ne 7, 3) := by decide +kernel
theorem dX9_slips_35 : decode cX9_slips 35 = .ok (.ldc2_w 187, 3) := by decide +kernel
theorem dX9_slips_38 : decode cX9_slips 38 = .ok (.lreturn, 1) := by decide +kernel
theorem dX9_slips_39 : decode cX9_slips 39 = .ok (.iload_n 1, 1) := by decide +kernel
theorem dX9_slips_40 : decode cX9_slips 40 = .ok (.iconst 2, 1) := by decide +kernel
theorem dX9_slips_41 : decode cX9_slips 41 = .ok (.idiv, 1) := by decide +kernel
theorem dX9_slips_42 : decode cX9_slips 42 = .ok (.istore 5, 2) := by decide +kernel
theorem dX9_slips_44 : decode cX9_slips 44 = .ok (.lconst 0, 1) := by decide +kernel
theorem dX9_slips_45 : decode cX9_slips 45 = .ok (.lstore 6, 2) := by decide +kernel
theorem dX9_slips_47 : decode cX9_slips 47 = .ok (.iload_n 3, 1) := by decide +kernel
theorem dX9_slips_48 : decode cX9_slips 48 = .ok (.istore 8, 2) := by decide +kernel
theorem dX9_slips_50 : decode cX9_slips 50 = .ok (.iload 8, 2) := by decide +kernel
theorem dX9_slips_52 : decode cX9_slips 52 = .ok (.iload_n 2, 1) := by decide +kernel
theorem dX9_slips_53 : decode cX9_slips 53 = .ok (.if_icmp .gt 33, 3) := by decide +kernel
theorem dX9_slips_56 : decode cX9_slips 56 = .ok (.lload 6, 2) := by decide +kernel
theorem dX9_slips_58 : decode cX9_slips 58 = .ok (.iload_n 1, 1) := by decide +kernel
theorem dX9_slips_59 : decode cX9_slips 59 = .ok (.iload 5, 2) := by decide +kernel
theorem dX9_slips_61 : decode cX9_slips 61 = .ok (.isub, 1) := by decide +kernel
theorem dX9_slips_62 : decode cX9_slips 62 = .ok (.iload 8, 2) := by decide +kernel
theorem dX9_slips_64 : decode cX9_slips 64 = .ok (.invokestatic 189, 3) := by decide +kernel
theorem dX9_slips_67 : decode cX9_slips 67 = .ok (.iload 5, 2) := by decide +kernel
theorem dX9_slips_69 : decode cX9_slips 69 = .ok (.iload_n 2, 1) := by decide +kernel
theorem dX9_slips_70 : decode cX9_slips 70 = .ok (.iload 8, 2) := by decide +kernel
theorem dX9_slips_72 : decode cX9_slips 72 = .ok (.isub, 1) := by decide +kernel
theorem dX9_slips_73 : decode cX9_slips 73 = .ok (.invokestatic 189, 3) := by decide +kernel
theorem dX9_slips_76 : decode cX9_slips 76 = .ok (.lmul, 1) := by decide +kernel
theorem dX9_slips_77 : decode cX9_slips 77 = .ok (.ladd, 1) := by decide +kernel
theorem dX9_slips_78 : decode cX9_slips 78 = .ok (.lstore 6, 2) := by decide +kernel
theorem dX9_slips_80 : decode cX9_slips 80 = .ok (.iinc 8 1, 3) := by decide +kernel
theorem dX9_slips_83 : decode cX9_slips 83 = .ok (.goto (-33), 3) := by decide +kernel
theorem dX9_slips_86 : decode cX9_slips 86 = .ok (.lload 6, 2) := by decide +kernel
theorem dX9_slips_88 : decode cX9_slips 88 = .ok (.iload_n 1, 1) := by decide +kernel
theorem dX9_slips_89 : decode cX9_slips 89 = .ok (.iload_n 2, 1) := by decide +kernel
theorem dX9_slips_90 : decode cX9_slips 90 = .ok (.invokestatic 189, 3) := by decide +kernel
theorem dX9_slips_93 : decode cX9_slips 93 = .ok (.iload 4, 2) := by decide +kernel
theorem dX9_slips_95 : decode cX9_slips 95 = .ok (.invokestatic 193, 3) := by decide +kernel
theorem dX9_slips_98 : decode cX9_slips 98 = .ok (.lreturn, 1) := by decide +kernel
set_option maxRecDepth 20000 in
theorem ggX9_drawn_X9_in : GoodIn wsX9_drawn wsX9_in := goodIn_r _ [7] (by decide +kernel) (by decide +kernel)
set_option maxRecDepth 20000 in
theorem gX9_drawn_X9_in : GoodIn wsX9_drawn (va_wsS RX9 51 yX9_in wsX9_in) := goodIn_app (goodIn_of _ (by decide +kernel)) ggX9_drawn_X9_in
set_option maxRecDepth 20000 in
theorem ggX9_drawn_X9_isAll : GoodIn wsX9_drawn wsX9_isAll := goodIn_r _ [10, 4, 5, 6, 7] (by decide +kernel) (by decide +kernel)
set_option maxRecDepth 20000 in
theorem gX9_drawn_X9_isAll : GoodIn wsX9_drawn (va_wsS RX9 199 yX9_isAll wsX9_isAll) := goodIn_app (goodIn_of _ (by decide +kernel)) ggX9_drawn_X9_isAll
theorem dX9_drawn_0 : decode cX9_drawn 0 = .ok (.iload_n 1, 1) := by decide +kernel
theorem dX9_drawn_1 : decode cX9_drawn 1 = .ok (.iconst 1, 1) := by decide +kernel
theorem dX9_drawn_2 : decode cX9_drawn 2 = .ok (.ldc 147, 2) := by decide +kernel
theorem dX9_drawn_4 : decode cX9_drawn 4 = .ok (.invokestatic 51, 3) := by decide +kernel
theorem dX9_drawn_7 : decode cX9_drawn 7 = .ok (.ifCond .eq 20, 3) := by decide +kernel
theorem dX9_drawn_10 : decode cX9_drawn 10 = .ok (.iload_n 2, 1) := by decide +kernel
theorem dX9_drawn_11 : decode cX9_drawn 11 = .ok (.invokestatic 199, 3) := by decide +kernel
theorem dX9_drawn_14 : decode cX9_drawn 14 = .ok (.ifCond .eq 13, 3) := by decide +kernel
theorem dX9_drawn_17 : decode cX9_drawn 17 = .ok (.iload_n 3, 1) := by decide +kernel
theorem dX9_drawn_18 : decode cX9_drawn 18 = .ok (.iconst 1, 1) := by decide +kernel
theorem dX9_drawn_19 : decode cX9_drawn 19 = .ok (.bipush 40, 2) := by decide +kernel
theorem dX9_drawn_21 : decode cX9_drawn 21 = .ok (.invokestatic 51, 3) := by decide +kernel
theorem dX9_drawn_24 : decode cX9_drawn 24 = .ok (.ifCond .ne 6, 3) := by decide +kernel
theorem dX9_drawn_27 : decode cX9_drawn 27 = .ok (.bipush (-2), 2) := by decide +kernel
theorem dX9_drawn_29 : decode cX9_drawn 29 = .ok (.ireturn, 1) := by decide +kernel
theorem dX9_drawn_30 : decode cX9_drawn 30 = .ok (.iload_n 1, 1) := by decide +kernel
theorem dX9_drawn_31 : decode cX9_drawn 31 = .ok (.i2l, 1) := by decide +kernel
theorem dX9_drawn_32 : decode cX9_drawn 32 = .ok (.lstore 4, 2) := by decide +kernel
theorem dX9_drawn_34 : decode cX9_drawn 34 = .ok (.iconst 0, 1) := by decide +kernel
theorem dX9_drawn_35 : decode cX9_drawn 35 = .ok (.istore 6, 2) := by decide +kernel
theorem dX9_drawn_37 : decode cX9_drawn 37 = .ok (.iload 6, 2) := by decide +kernel
theorem dX9_drawn_39 : decode cX9_drawn 39 = .ok (.iload_n 3, 1) := by decide +kernel
theorem dX9_drawn_40 : decode cX9_drawn 40 = .ok (.if_icmp .ge 21, 3) := by decide +kernel
theorem dX9_drawn_43 : decode cX9_drawn 43 = .ok (.lload 4, 2) := by decide +kernel
theorem dX9_drawn_45 : decode cX9_drawn 45 = .ok (.ldc2_w 202, 3) := by decide +kernel
theorem dX9_drawn_48 : decode cX9_drawn 48 = .ok (.lmul, 1) := by decide +kernel
theorem dX9_drawn_49 : decode cX9_drawn 49 = .ok (.ldc2_w 204, 3) := by decide +kernel
theorem dX9_drawn_52 : decode cX9_drawn 52 = .ok (.lrem, 1) := by decide +kernel
theorem dX9_drawn_53 : decode cX9_drawn 53 = .ok (.lstore 4, 2) := by decide +kernel
theorem dX9_drawn_55 : decode cX9_drawn 55 = .ok (.iinc 6 1, 3) := by decide +kernel
theorem dX9_drawn_58 : decode cX9_drawn 58 = .ok (.goto (-21), 3) := by decide +kernel
theorem dX9_drawn_61 : decode cX9_drawn 61 = .ok (.lload 4, 2) := by decide +kernel
theorem dX9_drawn_63 : decode cX9_drawn 63 = .ok (.iload_n 2, 1) := by decide +kernel
theorem dX9_drawn_64 : decode cX9_drawn 64 = .ok (.i2l, 1) := by decide +kernel
theorem dX9_drawn_65 : decode cX9_drawn 65 = .ok (.lrem, 1) := by decide +kernel
theorem dX9_drawn_66 : decode cX9_drawn 66 = .ok (.l2i, 1) := by decide +kernel
theorem dX9_drawn_67 : decode cX9_drawn 67 = .ok (.ireturn, 1) := by decide +kernel
set_option maxRecDepth 20000 in
theorem ggX9_sure_X9_isAll : GoodIn wsX9_sure wsX9_isAll := goodIn_r _ [5, 6, 7, 4, 8] (by decide +kernel) (by decide +kernel)
set_option maxRecDepth 20000 in
theorem gX9_sure_X9_isAll : GoodIn wsX9_sure (va_wsS RX9 199 yX9_isAll wsX9_isAll) := goodIn_app (goodIn_of _ (by decide +kernel)) ggX9_sure_X9_isAll
set_option maxRecDepth 20000 in
theorem ggX9_sure_X9_in : GoodIn wsX9_sure wsX9_in := goodIn_r _ [8] (by decide +kernel) (by decide +kernel)
set_option maxRecDepth 20000 in
theorem gX9_sure_X9_in : GoodIn wsX9_sure (va_wsS RX9 51 yX9_in wsX9_in) := goodIn_app (goodIn_of _ (by decide +kernel)) ggX9_sure_X9_in
set_option maxRecDepth 20000 in
theorem ggX9_sure_X9_choose : GoodIn wsX9_sure wsX9_choose := goodIn_r _ [11] (by decide +kernel) (by decide +kernel)
set_option maxRecDepth 20000 in
theorem gX9_sure_X9_choose : GoodIn wsX9_sure (va_wsS RX9 189 yX9_choose wsX9_choose) := goodIn_app (goodIn_of _ (by decide +kernel)) ggX9_sure_X9_choose
theorem dX9_sure_0 : decode cX9_sure 0 = .ok (.iload_n 1, 1) := by decide +kernel
theorem dX9_sure_1 : decode cX9_sure 1 = .ok (.invokestatic 199, 3) := by decide +kernel
theorem dX9_sure_4 : decode cX9_sure 4 = .ok (.ifCond .eq 13, 3) := by decide +kernel
theorem dX9_sure_7 : decode cX9_sure 7 = .ok (.iload_n 2, 1) := by decide +kernel
theorem dX9_sure_8 : decode cX9_sure 8 = .ok (.iconst 0, 1) := by decide +kernel
theorem dX9_sure_9 : decode cX9_sure 9 = .ok (.bipush 100, 2) := by decide +kernel
theorem dX9_sure_11 : decode cX9_sure 11 = .ok (.invokestatic 51, 3) := by decide +kernel
theorem dX9_sure_14 : decode cX9_sure 14 = .ok (.ifCond .ne 6, 3) := by decide +kernel
theorem dX9_sure_17 : decode cX9_sure 17 = .ok (.bipush (-2), 2) := by decide +kernel
theorem dX9_sure_19 : decode cX9_sure 19 = .ok (.ireturn, 1) := by decide +kernel
theorem dX9_sure_20 : decode cX9_sure 20 = .ok (.iconst 1, 1) := by decide +kernel
theorem dX9_sure_21 : decode cX9_sure 21 = .ok (.istore_n 3, 1) := by decide +kernel
theorem dX9_sure_22 : decode cX9_sure 22 = .ok (.iload_n 3, 1) := by decide +kernel
theorem dX9_sure_23 : decode cX9_sure 23 = .ok (.iload_n 1, 1) := by decide +kernel
theorem dX9_sure_24 : decode cX9_sure 24 = .ok (.if_icmp .gt 36, 3) := by decide +kernel
theorem dX9_sure_27 : decode cX9_sure 27 = .ok (.iload_n 1, 1) := by decide +kernel
theorem dX9_sure_28 : decode cX9_sure 28 = .ok (.iload_n 1, 1) := by decide +kernel
theorem dX9_sure_29 : decode cX9_sure 29 = .ok (.iconst 2, 1) := by decide +kernel
theorem dX9_sure_30 : decode cX9_sure 30 = .ok (.idiv, 1) := by decide +kernel
theorem dX9_sure_31 : decode cX9_sure 31 = .ok (.isub, 1) := by decide +kernel
theorem dX9_sure_32 : decode cX9_sure 32 = .ok (.iload_n 3, 1) := by decide +kernel
theorem dX9_sure_33 : decode cX9_sure 33 = .ok (.invokestatic 189, 3) := by decide +kernel
theorem dX9_sure_36 : decode cX9_sure 36 = .ok (.ldc2_w 197, 3) := by decide +kernel
theorem dX9_sure_39 : decode cX9_sure 39 = .ok (.lmul, 1) := by decide +kernel
theorem dX9_sure_40 : decode cX9_sure 40 = .ok (.iload_n 2, 1) := by decide +kernel
theorem dX9_sure_41 : decode cX9_sure 41 = .ok (.i2l, 1) := by decide +kernel
theorem dX9_sure_42 : decode cX9_sure 42 = .ok (.iload_n 1, 1) := by decide +kernel
theorem dX9_sure_43 : decode cX9_sure 43 = .ok (.iload_n 3, 1) := by decide +kernel
theorem dX9_sure_44 : decode cX9_sure 44 = .ok (.invokestatic 189, 3) := by decide +kernel
theorem dX9_sure_47 : decode cX9_sure 47 = .ok (.lmul, 1) := by decide +kernel
theorem dX9_sure_48 : decode cX9_sure 48 = .ok (.lcmp, 1) := by decide +kernel
theorem dX9_sure_49 : decode cX9_sure 49 = .ok (.ifCond .gt 5, 3) := by decide +kernel
theorem dX9_sure_52 : decode cX9_sure 52 = .ok (.iload_n 3, 1) := by decide +kernel
theorem dX9_sure_53 : decode cX9_sure 53 = .ok (.ireturn, 1) := by decide +kernel
theorem dX9_sure_54 : decode cX9_sure 54 = .ok (.iinc 3 1, 3) := by decide +kernel
theorem dX9_sure_57 : decode cX9_sure 57 = .ok (.goto (-35), 3) := by decide +kernel
theorem dX9_sure_60 : decode cX9_sure 60 = .ok (.bipush (-6), 2) := by decide +kernel
theorem dX9_sure_62 : decode cX9_sure 62 = .ok (.ireturn, 1) := by decide +kernel
set_option maxRecDepth 20000 in
theorem ggX9_areSums_X9_in : GoodIn wsX9_areSums wsX9_in := goodIn_r _ [4] (by decide +kernel) (by decide +kernel)
set_option maxRecDepth 20000 in
theorem gX9_areSums_X9_in : GoodIn wsX9_areSums (va_wsS RX9 51 yX9_in wsX9_in) := goodIn_app (goodIn_of _ (by decide +kernel)) ggX9_areSums_X9_in
theorem dX9_areSums_0 : decode cX9_areSums 0 = .ok (.iload_n 0, 1) := by decide +kernel
theorem dX9_areSums_1 : decode cX9_areSums 1 = .ok (.iconst 0, 1) := by decide +kernel
theorem dX9_areSums_2 : decode cX9_areSums 2 = .ok (.bipush 8, 2) := by decide +kernel
theorem dX9_areSums_4 : decode cX9_areSums 4 = .ok (.invokestatic 51, 3) := by decide +kernel
theorem dX9_areSums_7 : decode cX9_areSums 7 = .ok (.ifCond .eq 41, 3) := by decide +kernel
theorem dX9_areSums_10 : decode cX9_areSums 10 = .ok (.iload_n 1, 1) := by decide +kernel
theorem dX9_areSums_11 : decode cX9_areSums 11 = .ok (.iconst 0, 1) := by decide +kernel
theorem dX9_areSums_12 : decode cX9_areSums 12 = .ok (.bipush 8, 2) := by decide +kernel
theorem dX9_areSums_14 : decode cX9_areSums 14 = .ok (.invokestatic 51, 3) := by decide +kernel
theorem dX9_areSums_17 : decode cX9_areSums 17 = .ok (.ifCond .eq 31, 3) := by decide +kernel
theorem dX9_areSums_20 : decode cX9_areSums 20 = .ok (.iload_n 2, 1) := by decide +kernel
theorem dX9_areSums_21 : decode cX9_areSums 21 = .ok (.iconst 0, 1) := by decide +kernel
theorem dX9_areSums_22 : decode cX9_areSums 22 = .ok (.bipush 8, 2) := by decide +kernel
theorem dX9_areSums_24 : decode cX9_areSums 24 = .ok (.invokestatic 51, 3) := by decide +kernel
theorem dX9_areSums_27 : decode cX9_areSums 27 = .ok (.ifCond .eq 21, 3) := by decide +kernel
theorem dX9_areSums_30 : decode cX9_areSums 30 = .ok (.iload_n 0, 1) := by decide +kernel
theorem dX9_areSums_31 : decode cX9_areSums 31 = .ok (.iload_n 1, 1) := by decide +kernel
theorem dX9_areSums_32 : decode cX9_areSums 32 = .ok (.iadd, 1) := by decide +kernel
theorem dX9_areSums_33 : decode cX9_areSums 33 = .ok (.iload_n 2, 1) := by decide +kernel
theorem dX9_areSums_34 : decode cX9_areSums 34 = .ok (.iadd, 1) := by decide +kernel
theorem dX9_areSums_35 : decode cX9_areSums 35 = .ok (.iconst 1, 1) := by decide +kernel
theorem dX9_areSums_36 : decode cX9_areSums 36 = .ok (.bipush 8, 2) := by decide +kernel
theorem dX9_areSums_38 : decode cX9_areSums 38 = .ok (.invokestatic 51, 3) := by decide +kernel
theorem dX9_areSums_41 : decode cX9_areSums 41 = .ok (.ifCond .eq 7, 3) := by decide +kernel
theorem dX9_areSums_44 : decode cX9_areSums 44 = .ok (.iconst 1, 1) := by decide +kernel
theorem dX9_areSums_45 : decode cX9_areSums 45 = .ok (.goto 4, 3) := by decide +kernel
theorem dX9_areSums_48 : decode cX9_areSums 48 = .ok (.iconst 0, 1) := by decide +kernel
theorem dX9_areSums_49 : decode cX9_areSums 49 = .ok (.istore 6, 2) := by decide +kernel
theorem dX9_areSums_51 : decode cX9_areSums 51 = .ok (.iload 6, 2) := by decide +kernel
theorem dX9_areSums_53 : decode cX9_areSums 53 = .ok (.ifCond .eq 36, 3) := by decide +kernel
theorem dX9_areSums_56 : decode cX9_areSums 56 = .ok (.iload_n 3, 1) := by decide +kernel
theorem dX9_areSums_57 : decode cX9_areSums 57 = .ok (.iconst 0, 1) := by decide +kernel
theorem dX9_areSums_58 : decode cX9_areSums 58 = .ok (.iload_n 0, 1) := by decide +kernel
theorem dX9_areSums_59 : decode cX9_areSums 59 = .ok (.invokestatic 51, 3) := by decide +kernel
theorem dX9_areSums_62 : decode cX9_areSums 62 = .ok (.ifCond .eq 27, 3) := by decide +kernel
theorem dX9_areSums_65 : decode cX9_areSums 65 = .ok (.iload 4, 2) := by decide +kernel
theorem dX9_areSums_67 : decode cX9_areSums 67 = .ok (.iconst 0, 1) := by decide +kernel
theorem dX9_areSums_68 : decode cX9_areSums 68 = .ok (.iload_n 1, 1) := by decide +kernel
theorem dX9_areSums_69 : decode cX9_areSums 69 = .ok (.invokestatic 51, 3) := by decide +kernel
theorem dX9_areSums_72 : decode cX9_areSums 72 = .ok (.ifCond .eq 17, 3) := by decide +kernel
theorem dX9_areSums_75 : decode cX9_areSums 75 = .ok (.iload 5, 2) := by decide +kernel
theorem dX9_areSums_77 : decode cX9_areSums 77 = .ok (.iconst 0, 1) := by decide +kernel
theorem dX9_areSums_78 : decode cX9_areSums 78 = .ok (.iload_n 2, 1) := by decide +kernel
theorem dX9_areSums_79 : decode cX9_areSums 79 = .ok (.invokestatic 51, 3) := by decide +kernel
theorem dX9_areSums_82 : decode cX9_areSums 82 = .ok (.ifCond .eq 7, 3) := by decide +kernel
theorem dX9_areSums_85 : decode cX9_areSums 85 = .ok (.iconst 1, 1) := by decide +kernel
theorem dX9_areSums_86 : decode cX9_areSums 86 = .ok (.goto 4, 3) := by decide +kernel
theorem dX9_areSums_89 : decode cX9_areSums 89 = .ok (.iconst 0, 1) := by decide +kernel
theorem dX9_areSums_90 : decode cX9_areSums 90 = .ok (.ireturn, 1) := by decide +kernel
set_option maxRecDepth 20000 in
theorem ggX9_told_X9_areSums : GoodIn wsX9_told wsX9_areSums := goodIn_r _ [6, 7, 8, 5, 9] (by decide +kernel) (by decide +kernel)
set_option maxRecDepth 20000 in
theorem gX9_told_X9_areSums : GoodIn wsX9_told (va_wsS RX9 206 yX9_areSums wsX9_areSums) := goodIn_app (goodIn_of _ (by decide +kernel)) ggX9_told_X9_areSums
set_option maxRecDepth 20000 in
theorem ggX9_told_X9_in : GoodIn wsX9_told wsX9_in := goodIn_r _ [9] (by decide +kernel) (by decide +kernel)
set_option maxRecDepth 20000 in
theorem gX9_told_X9_in : GoodIn wsX9_told (va_wsS RX9 51 yX9_in wsX9_in) := goodIn_app (goodIn_of _ (by decide +kernel)) ggX9_told_X9_in
set_option maxRecDepth 20000 in
theorem ggX9_told_X9_term : GoodIn wsX9_told wsX9_term := goodIn_r _ [12] (by decide +kernel) (by decide +kernel)
set_option maxRecDepth 20000 in
theorem gX9_told_X9_term : GoodIn wsX9_told (va_wsS RX9 193 yX9_term wsX9_term) := goodIn_app (goodIn_of _ (by decide +kernel)) ggX9_told_X9_term
theorem dX9_told_0 : decode cX9_told 0 = .ok (.iload_n 1, 1) := by decide +kernel
theorem dX9_told_1 : decode cX9_told 1 = .ok (.iload_n 2, 1) := by decide +kernel
theorem dX9_told_2 : decode cX9_told 2 = .ok (.iload_n 3, 1) := by decide +kernel
theorem dX9_told_3 : decode cX9_told 3 = .ok (.iload 4, 2) := by decide +kernel
theorem dX9_told_5 : decode cX9_told 5 = .ok (.iload 5, 2) := by decide +kernel
theorem dX9_told_7 : decode cX9_told 7 = .ok (.iload 6, 2) := by decide +kernel
theorem dX9_told_9 : decode cX9_told 9 = .ok (.invokestatic 206, 3) := by decide +kernel
theorem dX9_told_12 : decode cX9_told 12 = .ok (.ifCond .eq 23, 3) := by decide +kernel
theorem dX9_told_15 : decode cX9_told 15 = .ok (.iload 7, 2) := by decide +kernel
theorem dX9_told_17 : decode cX9_told 17 = .ok (.iconst 0, 1) := by decide +kernel
theorem dX9_told_18 : decode cX9_told 18 = .ok (.iconst 2, 1) := by decide +kernel
theorem dX9_told_19 : decode cX9_told 19 = .ok (.invokestatic 51, 3) := by decide +kernel
theorem dX9_told_22 : decode cX9_told 22 = .ok (.ifCond .eq 13, 3) := by decide +kernel
theorem dX9_told_25 : decode cX9_told 25 = .ok (.iload 8, 2) := by decide +kernel
theorem dX9_told_27 : decode cX9_told 27 = .ok (.iconst 0, 1) := by decide +kernel
theorem dX9_told_28 : decode cX9_told 28 = .ok (.iconst 1, 1) := by decide +kernel
theorem dX9_told_29 : decode cX9_told 29 = .ok (.invokestatic 51, 3) := by decide +kernel
theorem dX9_told_32 : decode cX9_told 32 = .ok (.ifCond .ne 7, 3) := by decide +kernel
theorem dX9_told_35 : decode cX9_told 35 = .ok (.ldc2_w 187, 3) := by decide +kernel
theorem dX9_told_38 : decode cX9_told 38 = .ok (.lreturn, 1) := by decide +kernel
theorem dX9_told_39 : decode cX9_told 39 = .ok (.iload_n 1, 1) := by decide +kernel
theorem dX9_told_40 : decode cX9_told 40 = .ok (.iload_n 2, 1) := by decide +kernel
theorem dX9_told_41 : decode cX9_told 41 = .ok (.iadd, 1) := by decide +kernel
theorem dX9_told_42 : decode cX9_told 42 = .ok (.iload_n 3, 1) := by decide +kernel
theorem dX9_told_43 : decode cX9_told 43 = .ok (.iadd, 1) := by decide +kernel
theorem dX9_told_44 : decode cX9_told 44 = .ok (.iload 4, 2) := by decide +kernel
theorem dX9_told_46 : decode cX9_told 46 = .ok (.isub, 1) := by decide +kernel
theorem dX9_told_47 : decode cX9_told 47 = .ok (.iload 5, 2) := by decide +kernel
theorem dX9_told_49 : decode cX9_told 49 = .ok (.isub, 1) := by decide +kernel
theorem dX9_told_50 : decode cX9_told 50 = .ok (.iload 6, 2) := by decide +kernel
theorem dX9_told_52 : decode cX9_told 52 = .ok (.isub, 1) := by decide +kernel
theorem dX9_told_53 : decode cX9_told 53 = .ok (.istore 9, 2) := by decide +kernel
theorem dX9_told_55 : decode cX9_told 55 = .ok (.iload 9, 2) := by decide +kernel
theorem dX9_told_57 : decode cX9_told 57 = .ok (.ifCond .ne 7, 3) := by decide +kernel
theorem dX9_told_60 : decode cX9_told 60 = .ok (.ldc2_w 209, 3) := by decide +kernel
theorem dX9_told_63 : decode cX9_told 63 = .ok (.lreturn, 1) := by decide +kernel
theorem dX9_told_64 : decode cX9_told 64 = .ok (.iload 7, 2) := by decide +kernel
theorem dX9_told_66 : decode cX9_told 66 = .ok (.ifCond .ne 11, 3) := by decide +kernel
theorem dX9_told_69 : decode cX9_told 69 = .ok (.iload_n 1, 1) := by decide +kernel
theorem dX9_told_70 : decode cX9_told 70 = .ok (.iload 4, 2) := by decide +kernel
theorem dX9_told_72 : decode cX9_told 72 = .ok (.isub, 1) := by decide +kernel
theorem dX9_told_73 : decode cX9_told 73 = .ok (.i2l, 1) := by decide +kernel
theorem dX9_told_74 : decode cX9_told 74 = .ok (.goto 22, 3) := by decide +kernel
theorem dX9_told_77 : decode cX9_told 77 = .ok (.iload 7, 2) := by decide +kernel
theorem dX9_told_79 : decode cX9_told 79 = .ok (.iconst 1, 1) := by decide +kernel
theorem dX9_told_80 : decode cX9_told 80 = .ok (.if_icmp .ne 11, 3) := by decide +kernel
theorem dX9_told_83 : decode cX9_told 83 = .ok (.iload_n 2, 1) := by decide +kernel
theorem dX9_told_84 : decode cX9_told 84 = .ok (.iload 5, 2) := by decide +kernel
theorem dX9_told_86 : decode cX9_told 86 = .ok (.isub, 1) := by decide +kernel
theorem dX9_told_87 : decode cX9_told 87 = .ok (.i2l, 1) := by decide +kernel
theorem dX9_told_88 : decode cX9_told 88 = .ok (.goto 8, 3) := by decide +kernel
theorem dX9_told_91 : decode cX9_told 91 = .ok (.iload_n 3, 1) := by decide +kernel
theorem dX9_told_92 : decode cX9_told 92 = .ok (.iload 6, 2) := by decide +kernel
theorem dX9_told_94 : decode cX9_told 94 = .ok (.isub, 1) := by decide +kernel
theorem dX9_told_95 : decode cX9_told 95 = .ok (.i2l, 1) := by decide +kernel
theorem dX9_told_96 : decode cX9_told 96 = .ok (.iload 9, 2) := by decide +kernel
theorem dX9_told_98 : decode cX9_told 98 = .ok (.i2l, 1) := by decide +kernel
theorem dX9_told_99 : decode cX9_told 99 = .ok (.iload 8, 2) := by decide +kernel
theorem dX9_told_101 : decode cX9_told 101 = .ok (.invokestatic 193, 3) := by decide +kernel
theorem dX9_told_104 : decode cX9_told 104 = .ok (.lreturn, 1) := by decide +kernel
set_option maxRecDepth 20000 in
theorem ggX9_forced_X9_areSums : GoodIn wsX9_forced wsX9_areSums := goodIn_r _ [4, 5, 6, 3, 7] (by decide +kernel) (by decide +kernel)
set_option maxRecDepth 20000 in
theorem gX9_forced_X9_areSums : GoodIn wsX9_forced (va_wsS RX9 206 yX9_areSums wsX9_areSums) := goodIn_app (goodIn_of _ (by decide +kernel)) ggX9_forced_X9_areSums
theorem dX9_forced_0 : decode cX9_forced 0 = .ok (.iload_n 1, 1) := by decide +kernel
theorem dX9_forced_1 : decode cX9_forced 1 = .ok (.iload_n 2, 1) := by decide +kernel
theorem dX9_forced_2 : decode cX9_forced 2 = .ok (.iload_n 3, 1) := by decide +kernel
theorem dX9_forced_3 : decode cX9_forced 3 = .ok (.iload 4, 2) := by decide +kernel
theorem dX9_forced_5 : decode cX9_forced 5 = .ok (.iload 5, 2) := by decide +kernel
theorem dX9_forced_7 : decode cX9_forced 7 = .ok (.iload 6, 2) := by decide +kernel
theorem dX9_forced_9 : decode cX9_forced 9 = .ok (.invokestatic 206, 3) := by decide +kernel
theorem dX9_forced_12 : decode cX9_forced 12 = .ok (.ifCond .ne 6, 3) := by decide +kernel
theorem dX9_forced_15 : decode cX9_forced 15 = .ok (.bipush (-2), 2) := by decide +kernel
theorem dX9_forced_17 : decode cX9_forced 17 = .ok (.ireturn, 1) := by decide +kernel
theorem dX9_forced_18 : decode cX9_forced 18 = .ok (.iload_n 1, 1) := by decide +kernel
theorem dX9_forced_19 : decode cX9_forced 19 = .ok (.iload 4, 2) := by decide +kernel
theorem dX9_forced_21 : decode cX9_forced 21 = .ok (.isub, 1) := by decide +kernel
theorem dX9_forced_22 : decode cX9_forced 22 = .ok (.iload_n 2, 1) := by decide +kernel
theorem dX9_forced_23 : decode cX9_forced 23 = .ok (.iload 5, 2) := by decide +kernel
theorem dX9_forced_25 : decode cX9_forced 25 = .ok (.isub, 1) := by decide +kernel
theorem dX9_forced_26 : decode cX9_forced 26 = .ok (.if_icmp .le 10, 3) := by decide +kernel
theorem dX9_forced_29 : decode cX9_forced 29 = .ok (.iload_n 1, 1) := by decide +kernel
theorem dX9_forced_30 : decode cX9_forced 30 = .ok (.iload 4, 2) := by decide +kernel
theorem dX9_forced_32 : decode cX9_forced 32 = .ok (.isub, 1) := by decide +kernel
theorem dX9_forced_33 : decode cX9_forced 33 = .ok (.goto 7, 3) := by decide +kernel
theorem dX9_forced_36 : decode cX9_forced 36 = .ok (.iload_n 2, 1) := by decide +kernel
theorem dX9_forced_37 : decode cX9_forced 37 = .ok (.iload 5, 2) := by decide +kernel
theorem dX9_forced_39 : decode cX9_forced 39 = .ok (.isub, 1) := by decide +kernel
theorem dX9_forced_40 : decode cX9_forced 40 = .ok (.istore 7, 2) := by decide +kernel
theorem dX9_forced_42 : decode cX9_forced 42 = .ok (.iload_n 3, 1) := by decide +kernel
theorem dX9_forced_43 : decode cX9_forced 43 = .ok (.iload 6, 2) := by decide +kernel
theorem dX9_forced_45 : decode cX9_forced 45 = .ok (.isub, 1) := by decide +kernel
theorem dX9_forced_46 : decode cX9_forced 46 = .ok (.iload 7, 2) := by decide +kernel
theorem dX9_forced_48 : decode cX9_forced 48 = .ok (.if_icmp .le 10, 3) := by decide +kernel
theorem dX9_forced_51 : decode cX9_forced 51 = .ok (.iload_n 3, 1) := by decide +kernel
theorem dX9_forced_52 : decode cX9_forced 52 = .ok (.iload 6, 2) := by decide +kernel
theorem dX9_forced_54 : decode cX9_forced 54 = .ok (.isub, 1) := by decide +kernel
theorem dX9_forced_55 : decode cX9_forced 55 = .ok (.goto 5, 3) := by decide +kernel
theorem dX9_forced_58 : decode cX9_forced 58 = .ok (.iload 7, 2) := by decide +kernel
theorem dX9_forced_60 : decode cX9_forced 60 = .ok (.istore 7, 2) := by decide +kernel
theorem dX9_forced_62 : decode cX9_forced 62 = .ok (.iload_n 1, 1) := by decide +kernel
theorem dX9_forced_63 : decode cX9_forced 63 = .ok (.iload_n 2, 1) := by decide +kernel
theorem dX9_forced_64 : decode cX9_forced 64 = .ok (.iadd, 1) := by decide +kernel
theorem dX9_forced_65 : decode cX9_forced 65 = .ok (.iload_n 3, 1) := by decide +kernel
theorem dX9_forced_66 : decode cX9_forced 66 = .ok (.iadd, 1) := by decide +kernel
theorem dX9_forced_67 : decode cX9_forced 67 = .ok (.iload 4, 2) := by decide +kernel
theorem dX9_forced_69 : decode cX9_forced 69 = .ok (.isub, 1) := by decide +kernel
theorem dX9_forced_70 : decode cX9_forced 70 = .ok (.iload 5, 2) := by decide +kernel
theorem dX9_forced_72 : decode cX9_forced 72 = .ok (.isub, 1) := by decide +kernel
theorem dX9_forced_73 : decode cX9_forced 73 = .ok (.iload 6, 2) := by decide +kernel
theorem dX9_forced_75 : decode cX9_forced 75 = .ok (.isub, 1) := by decide +kernel
theorem dX9_forced_76 : decode cX9_forced 76 = .ok (.iload 7, 2) := by decide +kernel
theorem dX9_forced_78 : decode cX9_forced 78 = .ok (.isub, 1) := by decide +kernel
theorem dX9_forced_79 : decode cX9_forced 79 = .ok (.ireturn, 1) := by decide +kernel
set_option maxRecDepth 20000 in
theorem ggX9_rowsThatAre_X9_stateOf : GoodIn wsX9_rowsThatAre wsX9_stateOf := goodIn_r _ [6, 1, 7, 8, 9, 10, 5, 11, 12, 13, 14, 15, 16, 17, 18, 19, 20, 21, 22, 23, 24, 25, 26, 27, 28, 29, 30, 31, 32, 33, 34, 35, 36, 37, 38, 39, 40, 41, 42, 43, 44, 45, 46, 47, 48, 49, 50, 51, 52, 53, 54, 55, 56, 57, 58, 59, 60, 61, 62, 63, 64, 65, 66, 67, 68, 69, 70, 71, 72, 73, 74, 75, 76, 77, 78, 79, 80, 81, 82, 83, 84, 85, 86, 87, 88, 89] (by decide +kernel) (by decide +kernel)
set_option maxRecDepth 20000 in
theorem gX9_rowsThatAre_X9_stateOf : GoodIn wsX9_rowsThatAre (wsV RX9 175 RX9 yX9_stateOf wsX9_stateOf) := goodIn_app (goodIn_of _ (by decide +kernel)) ggX9_rowsThatAre_X9_stateOf
theorem dX9_rowsThatAre_0 : decode cX9_rowsThatAre 0 = .ok (.iconst 0, 1) := by decide +kernel
theorem dX9_rowsThatAre_1 : decode cX9_rowsThatAre 1 = .ok (.istore_n 2, 1) := by decide +kernel
theorem dX9_rowsThatAre_2 : decode cX9_rowsThatAre 2 = .ok (.iconst 0, 1) := by decide +kernel
theorem dX9_rowsThatAre_3 : decode cX9_rowsThatAre 3 = .ok (.istore_n 3, 1) := by decide +kernel
theorem dX9_rowsThatAre_4 : decode cX9_rowsThatAre 4 = .ok (.iload_n 3, 1) := by decide +kernel
theorem dX9_rowsThatAre_5 : decode cX9_rowsThatAre 5 = .ok (.aload_n 0, 1) := by decide +kernel
theorem dX9_rowsThatAre_6 : decode cX9_rowsThatAre 6 = .ok (.getfield 72, 3) := by decide +kernel
theorem dX9_rowsThatAre_9 : decode cX9_rowsThatAre 9 = .ok (.if_icmp .ge 26, 3) := by decide +kernel
theorem dX9_rowsThatAre_12 : decode cX9_rowsThatAre 12 = .ok (.iload_n 2, 1) := by decide +kernel
theorem dX9_rowsThatAre_13 : decode cX9_rowsThatAre 13 = .ok (.aload_n 0, 1) := by decide +kernel
theorem dX9_rowsThatAre_14 : decode cX9_rowsThatAre 14 = .ok (.iload_n 3, 1) := by decide +kernel
theorem dX9_rowsThatAre_15 : decode cX9_rowsThatAre 15 = .ok (.invokevirtual 175, 3) := by decide +kernel
theorem dX9_rowsThatAre_18 : decode cX9_rowsThatAre 18 = .ok (.iload_n 1, 1) := by decide +kernel
theorem dX9_rowsThatAre_19 : decode cX9_rowsThatAre 19 = .ok (.if_icmp .ne 7, 3) := by decide +kernel
theorem dX9_rowsThatAre_22 : decode cX9_rowsThatAre 22 = .ok (.iconst 1, 1) := by decide +kernel
theorem dX9_rowsThatAre_23 : decode cX9_rowsThatAre 23 = .ok (.goto 4, 3) := by decide +kernel
theorem dX9_rowsThatAre_26 : decode cX9_rowsThatAre 26 = .ok (.iconst 0, 1) := by decide +kernel
theorem dX9_rowsThatAre_27 : decode cX9_rowsThatAre 27 = .ok (.iadd, 1) := by decide +kernel
theorem dX9_rowsThatAre_28 : decode cX9_rowsThatAre 28 = .ok (.istore_n 2, 1) := by decide +kernel
theorem dX9_rowsThatAre_29 : decode cX9_rowsThatAre 29 = .ok (.iinc 3 1, 3) := by decide +kernel
theorem dX9_rowsThatAre_32 : decode cX9_rowsThatAre 32 = .ok (.goto (-28), 3) := by decide +kernel
theorem dX9_rowsThatAre_35 : decode cX9_rowsThatAre 35 = .ok (.iload_n 2, 1) := by decide +kernel
theorem dX9_rowsThatAre_36 : decode cX9_rowsThatAre 36 = .ok (.ireturn, 1) := by decide +kernel
set_option maxRecDepth 20000 in
theorem ggX9_count_X9_in : GoodIn wsX9_count wsX9_in := goodIn_r _ [9] (by decide +kernel) (by decide +kernel)
set_option maxRecDepth 20000 in
theorem gX9_count_X9_in : GoodIn wsX9_count (va_wsS RX9 51 yX9_in wsX9_in) := goodIn_app (goodIn_of _ (by decide +kernel)) ggX9_count_X9_in
set_option maxRecDepth 20000 in
theorem ggX9_count_X9_rowsThatAre : GoodIn wsX9_count wsX9_rowsThatAre := goodIn_r _ [13, 1, 14, 15, 16, 8, 17, 18, 19, 20, 21, 22, 23, 4, 24, 25, 26, 27, 28, 29, 30, 31, 32, 33, 34, 35, 36, 37, 6, 7, 9, 38, 39, 40, 41, 42, 43, 44, 45, 46, 47, 48, 49, 50, 51, 52, 53, 54, 55, 56, 57, 58, 59, 60, 61, 62, 63, 64, 65, 66, 67, 68, 69, 70, 71, 72, 73, 74, 75, 76, 77, 78, 79, 80, 81, 82, 83, 84, 85, 86, 87, 88, 89, 90, 91, 92, 93, 94, 95, 96] (by decide +kernel) (by decide +kernel)
set_option maxRecDepth 20000 in
theorem gX9_count_X9_rowsThatAre : GoodIn wsX9_count (wsV RX9 211 RX9 yX9_rowsThatAre wsX9_rowsThatAre) := goodIn_app (goodIn_of _ (by decide +kernel)) ggX9_count_X9_rowsThatAre
set_option maxRecDepth 20000 in
theorem ggX9_count_X9_h : GoodIn wsX9_count wsX9_h := goodIn_r _ [70, 71, 38, 39, 8, 40, 41, 42, 43, 79, 80, 81, 82, 83, 84, 85, 86, 87, 88, 89, 90, 91, 92, 93, 94, 95, 96] (by decide +kernel) (by decide +kernel)
set_option maxRecDepth 20000 in
theorem gX9_count_X9_h : GoodIn wsX9_count (wsV RX9 75 RX9 yX9_h wsX9_h) := goodIn_app (goodIn_of _ (by decide +kernel)) ggX9_count_X9_h
theorem dX9_count_0 : decode cX9_count 0 = .ok (.iload_n 1, 1) := by decide +kernel
theorem dX9_count_1 : decode cX9_count 1 = .ok (.bipush 10, 2) := by decide +kernel
theorem dX9_count_3 : decode cX9_count 3 = .ok (.bipush 14, 2) := by decide +kernel
theorem dX9_count_5 : decode cX9_count 5 = .ok (.invokestatic 51, 3) := by decide +kernel
theorem dX9_count_8 : decode cX9_count 8 = .ok (.ifCond .eq 12, 3) := by decide +kernel
theorem dX9_count_11 : decode cX9_count 11 = .ok (.aload_n 0, 1) := by decide +kernel
theorem dX9_count_12 : decode cX9_count 12 = .ok (.iload_n 1, 1) := by decide +kernel
theorem dX9_count_13 : decode cX9_count 13 = .ok (.bipush 10, 2) := by decide +kernel
theorem dX9_count_15 : decode cX9_count 15 = .ok (.isub, 1) := by decide +kernel
theorem dX9_count_16 : decode cX9_count 16 = .ok (.invokevirtual 211, 3) := by decide +kernel
theorem dX9_count_19 : decode cX9_count 19 = .ok (.ireturn, 1) := by decide +kernel
theorem dX9_count_20 : decode cX9_count 20 = .ok (.iload_n 1, 1) := by decide +kernel
theorem dX9_count_21 : decode cX9_count 21 = .ok (.tableswitch 69 0 5 #[39, 44, 49, 54, 59, 64], 39) := by decide +kernel
theorem dX9_count_60 : decode cX9_count 60 = .ok (.aload_n 0, 1) := by decide +kernel
theorem dX9_count_61 : decode cX9_count 61 = .ok (.getfield 72, 3) := by decide +kernel
theorem dX9_count_64 : decode cX9_count 64 = .ok (.ireturn, 1) := by decide +kernel
theorem dX9_count_65 : decode cX9_count 65 = .ok (.aload_n 0, 1) := by decide +kernel
theorem dX9_count_66 : decode cX9_count 66 = .ok (.getfield 135, 3) := by decide +kernel
theorem dX9_count_69 : decode cX9_count 69 = .ok (.ireturn, 1) := by decide +kernel
theorem dX9_count_70 : decode cX9_count 70 = .ok (.aload_n 0, 1) := by decide +kernel
theorem dX9_count_71 : decode cX9_count 71 = .ok (.invokevirtual 75, 3) := by decide +kernel
theorem dX9_count_74 : decode cX9_count 74 = .ok (.ireturn, 1) := by decide +kernel
theorem dX9_count_75 : decode cX9_count 75 = .ok (.aload_n 0, 1) := by decide +kernel
theorem dX9_count_76 : decode cX9_count 76 = .ok (.getfield 7, 3) := by decide +kernel
theorem dX9_count_79 : decode cX9_count 79 = .ok (.ireturn, 1) := by decide +kernel
theorem dX9_count_80 : decode cX9_count 80 = .ok (.aload_n 0, 1) := by decide +kernel
theorem dX9_count_81 : decode cX9_count 81 = .ok (.getfield 26, 3) := by decide +kernel
theorem dX9_count_84 : decode cX9_count 84 = .ok (.ireturn, 1) := by decide +kernel
theorem dX9_count_85 : decode cX9_count 85 = .ok (.aload_n 0, 1) := by decide +kernel
theorem dX9_count_86 : decode cX9_count 86 = .ok (.getfield 181, 3) := by decide +kernel
theorem dX9_count_89 : decode cX9_count 89 = .ok (.ireturn, 1) := by decide +kernel
theorem dX9_count_90 : decode cX9_count 90 = .ok (.bipush (-2), 2) := by decide +kernel
theorem dX9_count_92 : decode cX9_count 92 = .ok (.ireturn, 1) := by decide +kernel
theorem dJ6_bitCount_0f7a4_0 : decode cJ6_bitCount_0f7a4 0 = .ok (.iload_n 0, 1) := by decide +kernel
theorem dJ6_bitCount_0f7a4_1 : decode cJ6_bitCount_0f7a4 1 = .ok (.iload_n 0, 1) := by decide +kernel
theorem dJ6_bitCount_0f7a4_2 : decode cJ6_bitCount_0f7a4 2 = .ok (.iconst 1, 1) := by decide +kernel
theorem dJ6_bitCount_0f7a4_3 : decode cJ6_bitCount_0f7a4 3 = .ok (.iushr, 1) := by decide +kernel
theorem dJ6_bitCount_0f7a4_4 : decode cJ6_bitCount_0f7a4 4 = .ok (.ldc_w 265, 3) := by decide +kernel
theorem dJ6_bitCount_0f7a4_7 : decode cJ6_bitCount_0f7a4 7 = .ok (.iand, 1) := by decide +kernel
theorem dJ6_bitCount_0f7a4_8 : decode cJ6_bitCount_0f7a4 8 = .ok (.isub, 1) := by decide +kernel
theorem dJ6_bitCount_0f7a4_9 : decode cJ6_bitCount_0f7a4 9 = .ok (.istore_n 0, 1) := by decide +kernel
theorem dJ6_bitCount_0f7a4_10 : decode cJ6_bitCount_0f7a4 10 = .ok (.iload_n 0, 1) := by decide +kernel
theorem dJ6_bitCount_0f7a4_11 : decode cJ6_bitCount_0f7a4 11 = .ok (.ldc_w 266, 3) := by decide +kernel
theorem dJ6_bitCount_0f7a4_14 : decode cJ6_bitCount_0f7a4 14 = .ok (.iand, 1) := by decide +kernel
theorem dJ6_bitCount_0f7a4_15 : decode cJ6_bitCount_0f7a4 15 = .ok (.iload_n 0, 1) := by decide +kernel
theorem dJ6_bitCount_0f7a4_16 : decode cJ6_bitCount_0f7a4 16 = .ok (.iconst 2, 1) := by decide +kernel
theorem dJ6_bitCount_0f7a4_17 : decode cJ6_bitCount_0f7a4 17 = .ok (.iushr, 1) := by decide +kernel
theorem dJ6_bitCount_0f7a4_18 : decode cJ6_bitCount_0f7a4 18 = .ok (.ldc_w 266, 3) := by decide +kernel
theorem dJ6_bitCount_0f7a4_21 : decode cJ6_bitCount_0f7a4 21 = .ok (.iand, 1) := by decide +kernel
theorem dJ6_bitCount_0f7a4_22 : decode cJ6_bitCount_0f7a4 22 = .ok (.iadd, 1) := by decide +kernel
theorem dJ6_bitCount_0f7a4_23 : decode cJ6_bitCount_0f7a4 23 = .ok (.istore_n 0, 1) := by decide +kernel
theorem dJ6_bitCount_0f7a4_24 : decode cJ6_bitCount_0f7a4 24 = .ok (.iload_n 0, 1) := by decide +kernel
theorem dJ6_bitCount_0f7a4_25 : decode cJ6_bitCount_0f7a4 25 = .ok (.iload_n 0, 1) := by decide +kernel
theorem dJ6_bitCount_0f7a4_26 : decode cJ6_bitCount_0f7a4 26 = .ok (.iconst 4, 1) := by decide +kernel
theorem dJ6_bitCount_0f7a4_27 : decode cJ6_bitCount_0f7a4 27 = .ok (.iushr, 1) := by decide +kernel
theorem dJ6_bitCount_0f7a4_28 : decode cJ6_bitCount_0f7a4 28 = .ok (.iadd, 1) := by decide +kernel
theorem dJ6_bitCount_0f7a4_29 : decode cJ6_bitCount_0f7a4 29 = .ok (.ldc_w 267, 3) := by decide +kernel
theorem dJ6_bitCount_0f7a4_32 : decode cJ6_bitCount_0f7a4 32 = .ok (.iand, 1) := by decide +kernel
theorem dJ6_bitCount_0f7a4_33 : decode cJ6_bitCount_0f7a4 33 = .ok (.istore_n 0, 1) := by decide +kernel
theorem dJ6_bitCount_0f7a4_34 : decode cJ6_bitCount_0f7a4 34 = .ok (.iload_n 0, 1) := by decide +kernel
theorem dJ6_bitCount_0f7a4_35 : decode cJ6_bitCount_0f7a4 35 = .ok (.iload_n 0, 1) := by decide +kernel
theorem dJ6_bitCount_0f7a4_36 : decode cJ6_bitCount_0f7a4 36 = .ok (.bipush 8, 2) := by decide +kernel
theorem dJ6_bitCount_0f7a4_38 : decode cJ6_bitCount_0f7a4 38 = .ok (.iushr, 1) := by decide +kernel
theorem dJ6_bitCount_0f7a4_39 : decode cJ6_bitCount_0f7a4 39 = .ok (.iadd, 1) := by decide +kernel
theorem dJ6_bitCount_0f7a4_40 : decode cJ6_bitCount_0f7a4 40 = .ok (.istore_n 0, 1) := by decide +kernel
theorem dJ6_bitCount_0f7a4_41 : decode cJ6_bitCount_0f7a4 41 = .ok (.iload_n 0, 1) := by decide +kernel
theorem dJ6_bitCount_0f7a4_42 : decode cJ6_bitCount_0f7a4 42 = .ok (.iload_n 0, 1) := by decide +kernel
theorem dJ6_bitCount_0f7a4_43 : decode cJ6_bitCount_0f7a4 43 = .ok (.bipush 16, 2) := by decide +kernel
theorem dJ6_bitCount_0f7a4_45 : decode cJ6_bitCount_0f7a4 45 = .ok (.iushr, 1) := by decide +kernel
theorem dJ6_bitCount_0f7a4_46 : decode cJ6_bitCount_0f7a4 46 = .ok (.iadd, 1) := by decide +kernel
theorem dJ6_bitCount_0f7a4_47 : decode cJ6_bitCount_0f7a4 47 = .ok (.istore_n 0, 1) := by decide +kernel
theorem dJ6_bitCount_0f7a4_48 : decode cJ6_bitCount_0f7a4 48 = .ok (.iload_n 0, 1) := by decide +kernel
theorem dJ6_bitCount_0f7a4_49 : decode cJ6_bitCount_0f7a4 49 = .ok (.bipush 63, 2) := by decide +kernel
theorem dJ6_bitCount_0f7a4_51 : decode cJ6_bitCount_0f7a4 51 = .ok (.iand, 1) := by decide +kernel
theorem dJ6_bitCount_0f7a4_52 : decode cJ6_bitCount_0f7a4 52 = .ok (.ireturn, 1) := by decide +kernel
theorem dJ9_max_7cf53_0 : decode cJ9_max_7cf53 0 = .ok (.iload_n 0, 1) := by decide +kernel
theorem dJ9_max_7cf53_1 : decode cJ9_max_7cf53 1 = .ok (.iload_n 1, 1) := by decide +kernel
theorem dJ9_max_7cf53_2 : decode cJ9_max_7cf53 2 = .ok (.if_icmp .lt 7, 3) := by decide +kernel
theorem dJ9_max_7cf53_5 : decode cJ9_max_7cf53 5 = .ok (.iload_n 0, 1) := by decide +kernel
theorem dJ9_max_7cf53_6 : decode cJ9_max_7cf53 6 = .ok (.goto 4, 3) := by decide +kernel
theorem dJ9_max_7cf53_9 : decode cJ9_max_7cf53 9 = .ok (.iload_n 1, 1) := by decide +kernel
theorem dJ9_max_7cf53_10 : decode cJ9_max_7cf53 10 = .ok (.ireturn, 1) := by decide +kernel
