theorem dX8_ways_11 : decode cX8_ways 11 = .ok (.lload_n 2, 1) := by decide +kernel
theorem dX8_ways_12 : decode cX8_ways 12 = .ok (.iload_n 0, 1) := by decide +kernel
theorem dX8_ways_13 : decode cX8_ways 13 = .ok (.iload_n 1, 1) := by decide +kernel
theorem dX8_ways_14 : decode cX8_ways 14 = .ok (.isub, 1) := by decide +kernel
theorem dX8_ways_15 : decode cX8_ways 15 = .ok (.iload 4, 2) := by decide +kernel
theorem dX8_ways_17 : decode cX8_ways 17 = .ok (.iadd, 1) := by decide +kernel
theorem dX8_ways_18 : decode cX8_ways 18 = .ok (.i2l, 1) := by decide +kernel
theorem dX8_ways_19 : decode cX8_ways 19 = .ok (.lmul, 1) := by decide +kernel
theorem dX8_ways_20 : decode cX8_ways 20 = .ok (.iload 4, 2) := by decide +kernel
theorem dX8_ways_22 : decode cX8_ways 22 = .ok (.i2l, 1) := by decide +kernel
theorem dX8_ways_23 : decode cX8_ways 23 = .ok (.ldiv, 1) := by decide +kernel
theorem dX8_ways_24 : decode cX8_ways 24 = .ok (.lstore_n 2, 1) := by decide +kernel
theorem dX8_ways_25 : decode cX8_ways 25 = .ok (.iinc 4 1, 3) := by decide +kernel
theorem dX8_ways_28 : decode cX8_ways 28 = .ok (.goto (-23), 3) := by decide +kernel
theorem dX8_ways_31 : decode cX8_ways 31 = .ok (.lload_n 2, 1) := by decide +kernel
theorem dX8_ways_32 : decode cX8_ways 32 = .ok (.lreturn, 1) := by decide +kernel
set_option maxRecDepth 20000 in
theorem ggX9_init_X9_atFirst : GoodIn wsX9_init wsX9_atFirst := goodIn_r _ [22, 10, 23, 24, 25, 30, 31, 32, 33, 34, 35, 36, 37, 38, 39, 40, 41, 42, 43, 44, 45, 46, 47, 48, 49, 50, 51, 52, 53, 54, 55, 56, 57, 58] (by decide +kernel) (by decide +kernel)
set_option maxRecDepth 20000 in
theorem gX9_init_X9_atFirst : GoodIn wsX9_init (wsV RX9 45 RX9 yX9_atFirst wsX9_atFirst) := goodIn_app (goodIn_of _ (by decide +kernel)) ggX9_init_X9_atFirst
set_option maxRecDepth 20000 in
theorem ggX9_init_X9_taken : GoodIn wsX9_init wsX9_taken := goodIn_r _ [29, 5, 10, 30, 31, 32, 33, 34, 35, 36, 37, 38, 39, 40, 41, 42, 43, 44, 45, 46, 47, 48, 49, 50, 51, 52, 53, 54, 55, 56, 57, 58] (by decide +kernel) (by decide +kernel)
set_option maxRecDepth 20000 in
theorem gX9_init_X9_taken : GoodIn wsX9_init (wsV RX9 48 RX9 yX9_taken wsX9_taken) := goodIn_app (goodIn_of _ (by decide +kernel)) ggX9_init_X9_taken
theorem dX9_init_0 : decode cX9_init 0 = .ok (.aload_n 0, 1) := by decide +kernel
theorem dX9_init_1 : decode cX9_init 1 = .ok (.invokespecial 1, 3) := by decide +kernel
theorem dX9_init_4 : decode cX9_init 4 = .ok (.aload_n 0, 1) := by decide +kernel
theorem dX9_init_5 : decode cX9_init 5 = .ok (.sipush 376, 3) := by decide +kernel
theorem dX9_init_8 : decode cX9_init 8 = .ok (.newarray .int, 2) := by decide +kernel
theorem dX9_init_10 : decode cX9_init 10 = .ok (.putfield 7, 3) := by decide +kernel
theorem dX9_init_13 : decode cX9_init 13 = .ok (.aload_n 0, 1) := by decide +kernel
theorem dX9_init_14 : decode cX9_init 14 = .ok (.sipush 2000, 3) := by decide +kernel
theorem dX9_init_17 : decode cX9_init 17 = .ok (.newarray .byte, 2) := by decide +kernel
theorem dX9_init_19 : decode cX9_init 19 = .ok (.putfield 13, 3) := by decide +kernel
theorem dX9_init_22 : decode cX9_init 22 = .ok (.aload_n 0, 1) := by decide +kernel
theorem dX9_init_23 : decode cX9_init 23 = .ok (.iconst 3, 1) := by decide +kernel
theorem dX9_init_24 : decode cX9_init 24 = .ok (.newarray .boolean, 2) := by decide +kernel
theorem dX9_init_26 : decode cX9_init 26 = .ok (.putfield 17, 3) := by decide +kernel
theorem dX9_init_29 : decode cX9_init 29 = .ok (.aload_n 0, 1) := by decide +kernel
theorem dX9_init_30 : decode cX9_init 30 = .ok (.bipush 94, 2) := by decide +kernel
theorem dX9_init_32 : decode cX9_init 32 = .ok (.newarray .int, 2) := by decide +kernel
theorem dX9_init_34 : decode cX9_init 34 = .ok (.putfield 21, 3) := by decide +kernel
theorem dX9_init_37 : decode cX9_init 37 = .ok (.aload_n 0, 1) := by decide +kernel
theorem dX9_init_38 : decode cX9_init 38 = .ok (.iconst 5, 1) := by decide +kernel
theorem dX9_init_39 : decode cX9_init 39 = .ok (.newarray .int, 2) := by decide +kernel
theorem dX9_init_41 : decode cX9_init 41 = .ok (.putfield 24, 3) := by decide +kernel
theorem dX9_init_44 : decode cX9_init 44 = .ok (.aload_n 0, 1) := by decide +kernel
theorem dX9_init_45 : decode cX9_init 45 = .ok (.iconst 5, 1) := by decide +kernel
theorem dX9_init_46 : decode cX9_init 46 = .ok (.newarray .int, 2) := by decide +kernel
theorem dX9_init_48 : decode cX9_init 48 = .ok (.putfield 27, 3) := by decide +kernel
theorem dX9_init_51 : decode cX9_init 51 = .ok (.aload_n 0, 1) := by decide +kernel
theorem dX9_init_52 : decode cX9_init 52 = .ok (.sipush 200, 3) := by decide +kernel
theorem dX9_init_55 : decode cX9_init 55 = .ok (.newarray .int, 2) := by decide +kernel
theorem dX9_init_57 : decode cX9_init 57 = .ok (.putfield 30, 3) := by decide +kernel
theorem dX9_init_60 : decode cX9_init 60 = .ok (.aload_n 0, 1) := by decide +kernel
theorem dX9_init_61 : decode cX9_init 61 = .ok (.bipush 65, 2) := by decide +kernel
theorem dX9_init_63 : decode cX9_init 63 = .ok (.newarray .int, 2) := by decide +kernel
theorem dX9_init_65 : decode cX9_init 65 = .ok (.putfield 33, 3) := by decide +kernel
theorem dX9_init_68 : decode cX9_init 68 = .ok (.aload_n 0, 1) := by decide +kernel
theorem dX9_init_69 : decode cX9_init 69 = .ok (.sipush 10000, 3) := by decide +kernel
theorem dX9_init_72 : decode cX9_init 72 = .ok (.newarray .int, 2) := by decide +kernel
theorem dX9_init_74 : decode cX9_init 74 = .ok (.putfield 36, 3) := by decide +kernel
theorem dX9_init_77 : decode cX9_init 77 = .ok (.aload_n 0, 1) := by decide +kernel
theorem dX9_init_78 : decode cX9_init 78 = .ok (.bipush 13, 2) := by decide +kernel
theorem dX9_init_80 : decode cX9_init 80 = .ok (.newarray .int, 2) := by decide +kernel
theorem dX9_init_82 : decode cX9_init 82 = .ok (.putfield 39, 3) := by decide +kernel
theorem dX9_init_85 : decode cX9_init 85 = .ok (.aload_n 0, 1) := by decide +kernel
theorem dX9_init_86 : decode cX9_init 86 = .ok (.bipush 13, 2) := by decide +kernel
theorem dX9_init_88 : decode cX9_init 88 = .ok (.newarray .int, 2) := by decide +kernel
theorem dX9_init_90 : decode cX9_init 90 = .ok (.putfield 42, 3) := by decide +kernel
theorem dX9_init_93 : decode cX9_init 93 = .ok (.aload_n 0, 1) := by decide +kernel
theorem dX9_init_94 : decode cX9_init 94 = .ok (.getfield 7, 3) := by decide +kernel
theorem dX9_init_97 : decode cX9_init 97 = .ok (.iconst 4, 1) := by decide +kernel
theorem dX9_init_98 : decode cX9_init 98 = .ok (.iconst (-1), 1) := by decide +kernel
theorem dX9_init_99 : decode cX9_init 99 = .ok (.iastore, 1) := by decide +kernel
theorem dX9_init_100 : decode cX9_init 100 = .ok (.aload_n 0, 1) := by decide +kernel
theorem dX9_init_101 : decode cX9_init 101 = .ok (.invokevirtual 45, 3) := by decide +kernel
theorem dX9_init_104 : decode cX9_init 104 = .ok (.aload_n 0, 1) := by decide +kernel
theorem dX9_init_105 : decode cX9_init 105 = .ok (.invokevirtual 48, 3) := by decide +kernel
theorem dX9_init_108 : decode cX9_init 108 = .ok (.return_, 1) := by decide +kernel
theorem dX9_thrown_0 : decode cX9_thrown 0 = .ok (.aload_n 0, 1) := by decide +kernel
theorem dX9_thrown_1 : decode cX9_thrown 1 = .ok (.getfield 51, 3) := by decide +kernel
theorem dX9_thrown_4 : decode cX9_thrown 4 = .ok (.ireturn, 1) := by decide +kernel
theorem dX9_in_0 : decode cX9_in 0 = .ok (.iload_n 0, 1) := by decide +kernel
theorem dX9_in_1 : decode cX9_in 1 = .ok (.iload_n 1, 1) := by decide +kernel
theorem dX9_in_2 : decode cX9_in 2 = .ok (.if_icmp .lt 12, 3) := by decide +kernel
theorem dX9_in_5 : decode cX9_in 5 = .ok (.iload_n 0, 1) := by decide +kernel
theorem dX9_in_6 : decode cX9_in 6 = .ok (.iload_n 2, 1) := by decide +kernel
theorem dX9_in_7 : decode cX9_in 7 = .ok (.if_icmp .gt 7, 3) := by decide +kernel
theorem dX9_in_10 : decode cX9_in 10 = .ok (.iconst 1, 1) := by decide +kernel
theorem dX9_in_11 : decode cX9_in 11 = .ok (.goto 4, 3) := by decide +kernel
theorem dX9_in_14 : decode cX9_in 14 = .ok (.iconst 0, 1) := by decide +kernel
theorem dX9_in_15 : decode cX9_in 15 = .ok (.ireturn, 1) := by decide +kernel
theorem dX9_has_0 : decode cX9_has 0 = .ok (.iload_n 0, 1) := by decide +kernel
theorem dX9_has_1 : decode cX9_has 1 = .ok (.iload_n 1, 1) := by decide +kernel
theorem dX9_has_2 : decode cX9_has 2 = .ok (.ishr, 1) := by decide +kernel
theorem dX9_has_3 : decode cX9_has 3 = .ok (.iconst 1, 1) := by decide +kernel
theorem dX9_has_4 : decode cX9_has 4 = .ok (.iand, 1) := by decide +kernel
theorem dX9_has_5 : decode cX9_has 5 = .ok (.iconst 1, 1) := by decide +kernel
theorem dX9_has_6 : decode cX9_has 6 = .ok (.if_icmp .ne 7, 3) := by decide +kernel
theorem dX9_has_9 : decode cX9_has 9 = .ok (.iconst 1, 1) := by decide +kernel
theorem dX9_has_10 : decode cX9_has 10 = .ok (.goto 4, 3) := by decide +kernel
theorem dX9_has_13 : decode cX9_has 13 = .ok (.iconst 0, 1) := by decide +kernel
theorem dX9_has_14 : decode cX9_has 14 = .ok (.ireturn, 1) := by decide +kernel
theorem dX9_lesser_0 : decode cX9_lesser 0 = .ok (.iload_n 0, 1) := by decide +kernel
theorem dX9_lesser_1 : decode cX9_lesser 1 = .ok (.iload_n 1, 1) := by decide +kernel
theorem dX9_lesser_2 : decode cX9_lesser 2 = .ok (.if_icmp .ge 7, 3) := by decide +kernel
theorem dX9_lesser_5 : decode cX9_lesser 5 = .ok (.iload_n 0, 1) := by decide +kernel
theorem dX9_lesser_6 : decode cX9_lesser 6 = .ok (.goto 4, 3) := by decide +kernel
theorem dX9_lesser_9 : decode cX9_lesser 9 = .ok (.iload_n 1, 1) := by decide +kernel
theorem dX9_lesser_10 : decode cX9_lesser 10 = .ok (.ireturn, 1) := by decide +kernel
theorem dX9_greater_0 : decode cX9_greater 0 = .ok (.iload_n 0, 1) := by decide +kernel
theorem dX9_greater_1 : decode cX9_greater 1 = .ok (.iload_n 1, 1) := by decide +kernel
theorem dX9_greater_2 : decode cX9_greater 2 = .ok (.if_icmp .le 7, 3) := by decide +kernel
theorem dX9_greater_5 : decode cX9_greater 5 = .ok (.iload_n 0, 1) := by decide +kernel
theorem dX9_greater_6 : decode cX9_greater 6 = .ok (.goto 4, 3) := by decide +kernel
theorem dX9_greater_9 : decode cX9_greater 9 = .ok (.iload_n 1, 1) := by decide +kernel
theorem dX9_greater_10 : decode cX9_greater 10 = .ok (.ireturn, 1) := by decide +kernel
theorem dX9_rest_0 : decode cX9_rest 0 = .ok (.iload_n 0, 1) := by decide +kernel
theorem dX9_rest_1 : decode cX9_rest 1 = .ok (.iload_n 1, 1) := by decide +kernel
theorem dX9_rest_2 : decode cX9_rest 2 = .ok (.irem, 1) := by decide +kernel
theorem dX9_rest_3 : decode cX9_rest 3 = .ok (.istore_n 2, 1) := by decide +kernel
theorem dX9_rest_4 : decode cX9_rest 4 = .ok (.iload_n 2, 1) := by decide +kernel
theorem dX9_rest_5 : decode cX9_rest 5 = .ok (.ifCond .ge 9, 3) := by decide +kernel
theorem dX9_rest_8 : decode cX9_rest 8 = .ok (.iload_n 2, 1) := by decide +kernel
theorem dX9_rest_9 : decode cX9_rest 9 = .ok (.iload_n 1, 1) := by decide +kernel
theorem dX9_rest_10 : decode cX9_rest 10 = .ok (.iadd, 1) := by decide +kernel
theorem dX9_rest_11 : decode cX9_rest 11 = .ok (.goto 4, 3) := by decide +kernel
theorem dX9_rest_14 : decode cX9_rest 14 = .ok (.iload_n 2, 1) := by decide +kernel
theorem dX9_rest_15 : decode cX9_rest 15 = .ok (.ireturn, 1) := by decide +kernel
set_option maxRecDepth 20000 in
theorem ggX9_floor_X9_rest : GoodIn wsX9_floor wsX9_rest := goodIn_r _ [4] (by decide +kernel) (by decide +kernel)
set_option maxRecDepth 20000 in
theorem gX9_floor_X9_rest : GoodIn wsX9_floor (va_wsS RX9 55 yX9_rest wsX9_rest) := goodIn_app (goodIn_of _ (by decide +kernel)) ggX9_floor_X9_rest
theorem dX9_floor_0 : decode cX9_floor 0 = .ok (.iload_n 0, 1) := by decide +kernel
theorem dX9_floor_1 : decode cX9_floor 1 = .ok (.iload_n 0, 1) := by decide +kernel
theorem dX9_floor_2 : decode cX9_floor 2 = .ok (.iload_n 1, 1) := by decide +kernel
theorem dX9_floor_3 : decode cX9_floor 3 = .ok (.invokestatic 55, 3) := by decide +kernel
theorem dX9_floor_6 : decode cX9_floor 6 = .ok (.isub, 1) := by decide +kernel
theorem dX9_floor_7 : decode cX9_floor 7 = .ok (.iload_n 1, 1) := by decide +kernel
theorem dX9_floor_8 : decode cX9_floor 8 = .ok (.idiv, 1) := by decide +kernel
theorem dX9_floor_9 : decode cX9_floor 9 = .ok (.ireturn, 1) := by decide +kernel
theorem dX9_measure_0 : decode cX9_measure 0 = .ok (.lload_n 0, 1) := by decide +kernel
theorem dX9_measure_1 : decode cX9_measure 1 = .ok (.lstore 4, 2) := by decide +kernel
theorem dX9_measure_3 : decode cX9_measure 3 = .ok (.lload_n 2, 1) := by decide +kernel
theorem dX9_measure_4 : decode cX9_measure 4 = .ok (.lstore 6, 2) := by decide +kernel
theorem dX9_measure_6 : decode cX9_measure 6 = .ok (.lload 6, 2) := by decide +kernel
theorem dX9_measure_8 : decode cX9_measure 8 = .ok (.lconst 0, 1) := by decide +kernel
theorem dX9_measure_9 : decode cX9_measure 9 = .ok (.lcmp, 1) := by decide +kernel
theorem dX9_measure_10 : decode cX9_measure 10 = .ok (.ifCond .eq 21, 3) := by decide +kernel
theorem dX9_measure_13 : decode cX9_measure 13 = .ok (.lload 4, 2) := by decide +kernel
theorem dX9_measure_15 : decode cX9_measure 15 = .ok (.lload 6, 2) := by decide +kernel
theorem dX9_measure_17 : decode cX9_measure 17 = .ok (.lrem, 1) := by decide +kernel
theorem dX9_measure_18 : decode cX9_measure 18 = .ok (.lstore 8, 2) := by decide +kernel
theorem dX9_measure_20 : decode cX9_measure 20 = .ok (.lload 6, 2) := by decide +kernel
theorem dX9_measure_22 : decode cX9_measure 22 = .ok (.lstore 4, 2) := by decide +kernel
theorem dX9_measure_24 : decode cX9_measure 24 = .ok (.lload 8, 2) := by decide +kernel
theorem dX9_measure_26 : decode cX9_measure 26 = .ok (.lstore 6, 2) := by decide +kernel
theorem dX9_measure_28 : decode cX9_measure 28 = .ok (.goto (-22), 3) := by decide +kernel
theorem dX9_measure_31 : decode cX9_measure 31 = .ok (.lload 4, 2) := by decide +kernel
theorem dX9_measure_33 : decode cX9_measure 33 = .ok (.lreturn, 1) := by decide +kernel
set_option maxRecDepth 20000 in
theorem ggX9_common_X9_measure : GoodIn wsX9_common wsX9_measure := goodIn_r _ [4] (by decide +kernel) (by decide +kernel)
set_option maxRecDepth 20000 in
theorem gX9_common_X9_measure : GoodIn wsX9_common (va_wsS RX9 59 yX9_measure wsX9_measure) := goodIn_app (goodIn_of _ (by decide +kernel)) ggX9_common_X9_measure
theorem dX9_common_0 : decode cX9_common 0 = .ok (.iload_n 0, 1) := by decide +kernel
theorem dX9_common_1 : decode cX9_common 1 = .ok (.iload_n 0, 1) := by decide +kernel
theorem dX9_common_2 : decode cX9_common 2 = .ok (.i2l, 1) := by decide +kernel
theorem dX9_common_3 : decode cX9_common 3 = .ok (.iload_n 1, 1) := by decide +kernel
theorem dX9_common_4 : decode cX9_common 4 = .ok (.i2l, 1) := by decide +kernel
theorem dX9_common_5 : decode cX9_common 5 = .ok (.invokestatic 59, 3) := by decide +kernel
theorem dX9_common_8 : decode cX9_common 8 = .ok (.l2i, 1) := by decide +kernel
theorem dX9_common_9 : decode cX9_common 9 = .ok (.idiv, 1) := by decide +kernel
theorem dX9_common_10 : decode cX9_common 10 = .ok (.iload_n 1, 1) := by decide +kernel
theorem dX9_common_11 : decode cX9_common 11 = .ok (.imul, 1) := by decide +kernel
theorem dX9_common_12 : decode cX9_common 12 = .ok (.ireturn, 1) := by decide +kernel
theorem dX9_ones_0 : decode cX9_ones 0 = .ok (.iconst 0, 1) := by decide +kernel
theorem dX9_ones_1 : decode cX9_ones 1 = .ok (.istore_n 1, 1) := by decide +kernel
theorem dX9_ones_2 : decode cX9_ones 2 = .ok (.iconst 0, 1) := by decide +kernel
theorem dX9_ones_3 : decode cX9_ones 3 = .ok (.istore_n 2, 1) := by decide +kernel
theorem dX9_ones_4 : decode cX9_ones 4 = .ok (.iload_n 2, 1) := by decide +kernel
theorem dX9_ones_5 : decode cX9_ones 5 = .ok (.bipush 13, 2) := by decide +kernel
theorem dX9_ones_7 : decode cX9_ones 7 = .ok (.if_icmp .ge 17, 3) := by decide +kernel
theorem dX9_ones_10 : decode cX9_ones 10 = .ok (.iload_n 1, 1) := by decide +kernel
theorem dX9_ones_11 : decode cX9_ones 11 = .ok (.iload_n 0, 1) := by decide +kernel
theorem dX9_ones_12 : decode cX9_ones 12 = .ok (.iload_n 2, 1) := by decide +kernel
theorem dX9_ones_13 : decode cX9_ones 13 = .ok (.ishr, 1) := by decide +kernel
theorem dX9_ones_14 : decode cX9_ones 14 = .ok (.iconst 1, 1) := by decide +kernel
theorem dX9_ones_15 : decode cX9_ones 15 = .ok (.iand, 1) := by decide +kernel
theorem dX9_ones_16 : decode cX9_ones 16 = .ok (.iadd, 1) := by decide +kernel
theorem dX9_ones_17 : decode cX9_ones 17 = .ok (.istore_n 1, 1) := by decide +kernel
theorem dX9_ones_18 : decode cX9_ones 18 = .ok (.iinc 2 1, 3) := by decide +kernel
theorem dX9_ones_21 : decode cX9_ones 21 = .ok (.goto (-17), 3) := by decide +kernel
theorem dX9_ones_24 : decode cX9_ones 24 = .ok (.iload_n 1, 1) := by decide +kernel
theorem dX9_ones_25 : decode cX9_ones 25 = .ok (.ireturn, 1) := by decide +kernel
set_option maxRecDepth 20000 in
theorem ggX9_isPart_X9_in : GoodIn wsX9_isPart wsX9_in := goodIn_r _ [5] (by decide +kernel) (by decide +kernel)
set_option maxRecDepth 20000 in
theorem gX9_isPart_X9_in : GoodIn wsX9_isPart (va_wsS RX9 63 yX9_in wsX9_in) := goodIn_app (goodIn_of _ (by decide +kernel)) ggX9_isPart_X9_in
theorem dX9_isPart_0 : decode cX9_isPart 0 = .ok (.iload_n 1, 1) := by decide +kernel
theorem dX9_isPart_1 : decode cX9_isPart 1 = .ok (.iconst 0, 1) := by decide +kernel
theorem dX9_isPart_2 : decode cX9_isPart 2 = .ok (.aload_n 0, 1) := by decide +kernel
theorem dX9_isPart_3 : decode cX9_isPart 3 = .ok (.getfield 7, 3) := by decide +kernel
theorem dX9_isPart_6 : decode cX9_isPart 6 = .ok (.iconst 0, 1) := by decide +kernel
theorem dX9_isPart_7 : decode cX9_isPart 7 = .ok (.iaload, 1) := by decide +kernel
theorem dX9_isPart_8 : decode cX9_isPart 8 = .ok (.iconst 1, 1) := by decide +kernel
theorem dX9_isPart_9 : decode cX9_isPart 9 = .ok (.isub, 1) := by decide +kernel
theorem dX9_isPart_10 : decode cX9_isPart 10 = .ok (.invokestatic 63, 3) := by decide +kernel
theorem dX9_isPart_13 : decode cX9_isPart 13 = .ok (.ireturn, 1) := by decide +kernel
set_option maxRecDepth 20000 in
theorem ggX9_isLeg_X9_in : GoodIn wsX9_isLeg wsX9_in := goodIn_r _ [4] (by decide +kernel) (by decide +kernel)
set_option maxRecDepth 20000 in
theorem gX9_isLeg_X9_in : GoodIn wsX9_isLeg (va_wsS RX9 63 yX9_in wsX9_in) := goodIn_app (goodIn_of _ (by decide +kernel)) ggX9_isLeg_X9_in
theorem dX9_isLeg_0 : decode cX9_isLeg 0 = .ok (.iload_n 0, 1) := by decide +kernel
theorem dX9_isLeg_1 : decode cX9_isLeg 1 = .ok (.iconst 0, 1) := by decide +kernel
theorem dX9_isLeg_2 : decode cX9_isLeg 2 = .ok (.iconst 1, 1) := by decide +kernel
theorem dX9_isLeg_3 : decode cX9_isLeg 3 = .ok (.invokestatic 63, 3) := by decide +kernel
theorem dX9_isLeg_6 : decode cX9_isLeg 6 = .ok (.ireturn, 1) := by decide +kernel
theorem dX9_of_0 : decode cX9_of 0 = .ok (.aload_n 0, 1) := by decide +kernel
theorem dX9_of_1 : decode cX9_of 1 = .ok (.getfield 7, 3) := by decide +kernel
theorem dX9_of_4 : decode cX9_of 4 = .ok (.iconst 5, 1) := by decide +kernel
theorem dX9_of_5 : decode cX9_of 5 = .ok (.iconst 3, 1) := by decide +kernel
theorem dX9_of_6 : decode cX9_of 6 = .ok (.iload_n 1, 1) := by decide +kernel
theorem dX9_of_7 : decode cX9_of 7 = .ok (.imul, 1) := by decide +kernel
theorem dX9_of_8 : decode cX9_of 8 = .ok (.iadd, 1) := by decide +kernel
theorem dX9_of_9 : decode cX9_of 9 = .ok (.iload_n 2, 1) := by decide +kernel
theorem dX9_of_10 : decode cX9_of 10 = .ok (.iadd, 1) := by decide +kernel
theorem dX9_of_11 : decode cX9_of 11 = .ok (.iaload, 1) := by decide +kernel
theorem dX9_of_12 : decode cX9_of 12 = .ok (.ireturn, 1) := by decide +kernel
theorem dX9_lays_0 : decode cX9_lays 0 = .ok (.aload_n 0, 1) := by decide +kernel
theorem dX9_lays_1 : decode cX9_lays 1 = .ok (.getfield 7, 3) := by decide +kernel
theorem dX9_lays_4 : decode cX9_lays 4 = .ok (.iconst 5, 1) := by decide +kernel
theorem dX9_lays_5 : decode cX9_lays 5 = .ok (.iconst 3, 1) := by decide +kernel
theorem dX9_lays_6 : decode cX9_lays 6 = .ok (.iload_n 1, 1) := by decide +kernel
theorem dX9_lays_7 : decode cX9_lays 7 = .ok (.imul, 1) := by decide +kernel
theorem dX9_lays_8 : decode cX9_lays 8 = .ok (.iadd, 1) := by decide +kernel
theorem dX9_lays_9 : decode cX9_lays 9 = .ok (.iload_n 2, 1) := by decide +kernel
theorem dX9_lays_10 : decode cX9_lays 10 = .ok (.iadd, 1) := by decide +kernel
theorem dX9_lays_11 : decode cX9_lays 11 = .ok (.iload_n 3, 1) := by decide +kernel
theorem dX9_lays_12 : decode cX9_lays 12 = .ok (.iastore, 1) := by decide +kernel
theorem dX9_lays_13 : decode cX9_lays 13 = .ok (.return_, 1) := by decide +kernel
theorem dX9_ofLeg_0 : decode cX9_ofLeg 0 = .ok (.aload_n 0, 1) := by decide +kernel
theorem dX9_ofLeg_1 : decode cX9_ofLeg 1 = .ok (.getfield 7, 3) := by decide +kernel
theorem dX9_ofLeg_4 : decode cX9_ofLeg 4 = .ok (.bipush 20, 2) := by decide +kernel
theorem dX9_ofLeg_6 : decode cX9_ofLeg 6 = .ok (.bipush 37, 2) := by decide +kernel
theorem dX9_ofLeg_8 : decode cX9_ofLeg 8 = .ok (.iload_n 1, 1) := by decide +kernel
theorem dX9_ofLeg_9 : decode cX9_ofLeg 9 = .ok (.imul, 1) := by decide +kernel
theorem dX9_ofLeg_10 : decode cX9_ofLeg 10 = .ok (.iadd, 1) := by decide +kernel
theorem dX9_ofLeg_11 : decode cX9_ofLeg 11 = .ok (.iload_n 2, 1) := by decide +kernel
theorem dX9_ofLeg_12 : decode cX9_ofLeg 12 = .ok (.iadd, 1) := by decide +kernel
theorem dX9_ofLeg_13 : decode cX9_ofLeg 13 = .ok (.iaload, 1) := by decide +kernel
theorem dX9_ofLeg_14 : decode cX9_ofLeg 14 = .ok (.ireturn, 1) := by decide +kernel
theorem dX9_layLeg_0 : decode cX9_layLeg 0 = .ok (.aload_n 0, 1) := by decide +kernel
theorem dX9_layLeg_1 : decode cX9_layLeg 1 = .ok (.getfield 7, 3) := by decide +kernel
theorem dX9_layLeg_4 : decode cX9_layLeg 4 = .ok (.bipush 20, 2) := by decide +kernel
theorem dX9_layLeg_6 : decode cX9_layLeg 6 = .ok (.bipush 37, 2) := by decide +kernel
theorem dX9_layLeg_8 : decode cX9_layLeg 8 = .ok (.iload_n 1, 1) := by decide +kernel
theorem dX9_layLeg_9 : decode cX9_layLeg 9 = .ok (.imul, 1) := by decide +kernel
theorem dX9_layLeg_10 : decode cX9_layLeg 10 = .ok (.iadd, 1) := by decide +kernel
theorem dX9_layLeg_11 : decode cX9_layLeg 11 = .ok (.iload_n 2, 1) := by decide +kernel
theorem dX9_layLeg_12 : decode cX9_layLeg 12 = .ok (.iadd, 1) := by decide +kernel
theorem dX9_layLeg_13 : decode cX9_layLeg 13 = .ok (.iload_n 3, 1) := by decide +kernel
theorem dX9_layLeg_14 : decode cX9_layLeg 14 = .ok (.iastore, 1) := by decide +kernel
theorem dX9_layLeg_15 : decode cX9_layLeg 15 = .ok (.return_, 1) := by decide +kernel
theorem dX9_write_0 : decode cX9_write 0 = .ok (.aload_n 0, 1) := by decide +kernel
theorem dX9_write_1 : decode cX9_write 1 = .ok (.iconst 0, 1) := by decide +kernel
theorem dX9_write_2 : decode cX9_write 2 = .ok (.putfield 51, 3) := by decide +kernel
theorem dX9_write_5 : decode cX9_write 5 = .ok (.iconst 0, 1) := by decide +kernel
theorem dX9_write_6 : decode cX9_write 6 = .ok (.istore_n 3, 1) := by decide +kernel
theorem dX9_write_7 : decode cX9_write 7 = .ok (.iload_n 3, 1) := by decide +kernel
theorem dX9_write_8 : decode cX9_write 8 = .ok (.bipush 8, 2) := by decide +kernel
theorem dX9_write_10 : decode cX9_write 10 = .ok (.if_icmp .ge 27, 3) := by decide +kernel
theorem dX9_write_13 : decode cX9_write 13 = .ok (.lload_n 1, 1) := by decide +kernel
theorem dX9_write_14 : decode cX9_write 14 = .ok (.bipush 56, 2) := by decide +kernel
theorem dX9_write_16 : decode cX9_write 16 = .ok (.bipush 8, 2) := by decide +kernel
theorem dX9_write_18 : decode cX9_write 18 = .ok (.iload_n 3, 1) := by decide +kernel
theorem dX9_write_19 : decode cX9_write 19 = .ok (.imul, 1) := by decide +kernel
theorem dX9_write_20 : decode cX9_write 20 = .ok (.isub, 1) := by decide +kernel
theorem dX9_write_21 : decode cX9_write 21 = .ok (.lshr, 1) := by decide +kernel
theorem dX9_write_22 : decode cX9_write 22 = .ok (.ldc2_w 67, 3) := by decide +kernel
theorem dX9_write_25 : decode cX9_write 25 = .ok (.land, 1) := by decide +kernel
theorem dX9_write_26 : decode cX9_write 26 = .ok (.lconst 0, 1) := by decide +kernel
theorem dX9_write_27 : decode cX9_write 27 = .ok (.lcmp, 1) := by decide +kernel
theorem dX9_write_28 : decode cX9_write 28 = .ok (.ifCond .eq 9, 3) := by decide +kernel
theorem dX9_write_31 : decode cX9_write 31 = .ok (.iinc 3 1, 3) := by decide +kernel
theorem dX9_write_34 : decode cX9_write 34 = .ok (.goto (-27), 3) := by decide +kernel
theorem dX9_write_37 : decode cX9_write 37 = .ok (.aload_n 0, 1) := by decide +kernel
theorem dX9_write_38 : decode cX9_write 38 = .ok (.getfield 7, 3) := by decide +kernel
theorem dX9_write_41 : decode cX9_write 41 = .ok (.iconst 2, 1) := by decide +kernel
theorem dX9_write_42 : decode cX9_write 42 = .ok (.iaload, 1) := by decide +kernel
theorem dX9_write_43 : decode cX9_write 43 = .ok (.iload_n 3, 1) := by decide +kernel
theorem dX9_write_44 : decode cX9_write 44 = .ok (.iadd, 1) := by decide +kernel
theorem dX9_write_45 : decode cX9_write 45 = .ok (.sipush 500, 3) := by decide +kernel
theorem dX9_write_48 : decode cX9_write 48 = .ok (.if_icmp .le 5, 3) := by decide +kernel
theorem dX9_write_51 : decode cX9_write 51 = .ok (.iconst (-1), 1) := by decide +kernel
theorem dX9_write_52 : decode cX9_write 52 = .ok (.ireturn, 1) := by decide +kernel
theorem dX9_write_53 : decode cX9_write 53 = .ok (.iconst 0, 1) := by decide +kernel
theorem dX9_write_54 : decode cX9_write 54 = .ok (.istore 4, 2) := by decide +kernel
theorem dX9_write_56 : decode cX9_write 56 = .ok (.iload 4, 2) := by decide +kernel
theorem dX9_write_58 : decode cX9_write 58 = .ok (.iload_n 3, 1) := by decide +kernel
theorem dX9_write_59 : decode cX9_write 59 = .ok (.if_icmp .ge 42, 3) := by decide +kernel
theorem dX9_write_62 : decode cX9_write 62 = .ok (.aload_n 0, 1) := by decide +kernel
theorem dX9_write_63 : decode cX9_write 63 = .ok (.getfield 13, 3) := by decide +kernel
theorem dX9_write_66 : decode cX9_write 66 = .ok (.aload_n 0, 1) := by decide +kernel
theorem dX9_write_67 : decode cX9_write 67 = .ok (.getfield 7, 3) := by decide +kernel
theorem dX9_write_70 : decode cX9_write 70 = .ok (.iconst 2, 1) := by decide +kernel
theorem dX9_write_71 : decode cX9_write 71 = .ok (.iaload, 1) := by decide +kernel
theorem dX9_write_72 : decode cX9_write 72 = .ok (.lload_n 1, 1) := by decide +kernel
theorem dX9_write_73 : decode cX9_write 73 = .ok (.bipush 56, 2) := by decide +kernel
theorem dX9_write_75 : decode cX9_write 75 = .ok (.bipush 8, 2) := by decide +kernel
theorem dX9_write_77 : decode cX9_write 77 = .ok (.iload 4, 2) := by decide +kernel
theorem dX9_write_79 : decode cX9_write 79 = .ok (.imul, 1) := by decide +kernel
theorem dX9_write_80 : decode cX9_write 80 = .ok (.isub, 1) := by decide +kernel
theorem dX9_write_81 : decode cX9_write 81 = .ok (.lshr, 1) := by decide +kernel
theorem dX9_write_82 : decode cX9_write 82 = .ok (.l2i, 1) := by decide +kernel
theorem dX9_write_83 : decode cX9_write 83 = .ok (.i2b, 1) := by decide +kernel
theorem dX9_write_84 : decode cX9_write 84 = .ok (.bastore, 1) := by decide +kernel
theorem dX9_write_85 : decode cX9_write 85 = .ok (.aload_n 0, 1) := by decide +kernel
theorem dX9_write_86 : decode cX9_write 86 = .ok (.getfield 7, 3) := by decide +kernel
theorem dX9_write_89 : decode cX9_write 89 = .ok (.iconst 2, 1) := by decide +kernel
theorem dX9_write_90 : decode cX9_write 90 = .ok (.dup2, 1) := by decide +kernel
theorem dX9_write_91 : decode cX9_write 91 = .ok (.iaload, 1) := by decide +kernel
theorem dX9_write_92 : decode cX9_write 92 = .ok (.iconst 1, 1) := by decide +kernel
theorem dX9_write_93 : decode cX9_write 93 = .ok (.iadd, 1) := by decide +kernel
theorem dX9_write_94 : decode cX9_write 94 = .ok (.iastore, 1) := by decide +kernel
theorem dX9_write_95 : decode cX9_write 95 = .ok (.iinc 4 1, 3) := by decide +kernel
theorem dX9_write_98 : decode cX9_write 98 = .ok (.goto (-42), 3) := by decide +kernel
theorem dX9_write_101 : decode cX9_write 101 = .ok (.aload_n 0, 1) := by decide +kernel
theorem dX9_write_102 : decode cX9_write 102 = .ok (.getfield 7, 3) := by decide +kernel
theorem dX9_write_105 : decode cX9_write 105 = .ok (.iconst 2, 1) := by decide +kernel
theorem dX9_write_106 : decode cX9_write 106 = .ok (.iaload, 1) := by decide +kernel
theorem dX9_write_107 : decode cX9_write 107 = .ok (.ireturn, 1) := by decide +kernel
theorem dX9_see_0 : decode cX9_see 0 = .ok (.aload_n 0, 1) := by decide +kernel
theorem dX9_see_1 : decode cX9_see 1 = .ok (.getfield 69, 3) := by decide +kernel
theorem dX9_see_4 : decode cX9_see 4 = .ok (.aload_n 0, 1) := by decide +kernel
theorem dX9_see_5 : decode cX9_see 5 = .ok (.getfield 72, 3) := by decide +kernel
theorem dX9_see_8 : decode cX9_see 8 = .ok (.if_icmp .ge 19, 3) := by decide +kernel
theorem dX9_see_11 : decode cX9_see 11 = .ok (.aload_n 0, 1) := by decide +kernel
theorem dX9_see_12 : decode cX9_see 12 = .ok (.getfield 13, 3) := by decide +kernel
theorem dX9_see_15 : decode cX9_see 15 = .ok (.aload_n 0, 1) := by decide +kernel
theorem dX9_see_16 : decode cX9_see 16 = .ok (.getfield 69, 3) := by decide +kernel
theorem dX9_see_19 : decode cX9_see 19 = .ok (.baload, 1) := by decide +kernel
theorem dX9_see_20 : decode cX9_see 20 = .ok (.sipush 255, 3) := by decide +kernel
theorem dX9_see_23 : decode cX9_see 23 = .ok (.iand, 1) := by decide +kernel
theorem dX9_see_24 : decode cX9_see 24 = .ok (.goto 4, 3) := by decide +kernel
theorem dX9_see_27 : decode cX9_see 27 = .ok (.iconst (-1), 1) := by decide +kernel
theorem dX9_see_28 : decode cX9_see 28 = .ok (.ireturn, 1) := by decide +kernel
set_option maxRecDepth 20000 in
theorem ggX9_token_X9_see : GoodIn wsX9_token wsX9_see := goodIn_r _ [11, 1, 12, 13, 17, 18, 19, 20, 21, 22, 23, 24, 25, 26, 27, 28, 29, 30, 31, 32, 33, 34, 35, 36, 37, 38, 39, 40, 41, 42, 43, 44, 45] (by decide +kernel) (by decide +kernel)
set_option maxRecDepth 20000 in
theorem gX9_token_X9_see : GoodIn wsX9_token (wsV RX9 75 RX9 yX9_see wsX9_see) := goodIn_app (goodIn_of _ (by decide +kernel)) ggX9_token_X9_see
set_option maxRecDepth 20000 in
theorem ggX9_token_X9_in : GoodIn wsX9_token wsX9_in := goodIn_r _ [16] (by decide +kernel) (by decide +kernel)
set_option maxRecDepth 20000 in
theorem gX9_token_X9_in : GoodIn wsX9_token (va_wsS RX9 63 yX9_in wsX9_in) := goodIn_app (goodIn_of _ (by decide +kernel)) ggX9_token_X9_in
theorem dX9_token_0 : decode cX9_token 0 = .ok (.aload_n 0, 1) := by decide +kernel
theorem dX9_token_1 : decode cX9_token 1 = .ok (.invokevirtual 75, 3) := by decide +kernel
theorem dX9_token_4 : decode cX9_token 4 = .ok (.bipush 10, 2) := by decide +kernel
theorem dX9_token_6 : decode cX9_token 6 = .ok (.if_icmp .eq 12, 3) := by decide +kernel
theorem dX9_token_9 : decode cX9_token 9 = .ok (.aload_n 0, 1) := by decide +kernel
theorem dX9_token_10 : decode cX9_token 10 = .ok (.invokevirtual 75, 3) := by decide +kernel
theorem dX9_token_13 : decode cX9_token 13 = .ok (.bipush 32, 2) := by decide +kernel
theorem dX9_token_15 : decode cX9_token 15 = .ok (.if_icmp .ne 16, 3) := by decide +kernel
theorem dX9_token_18 : decode cX9_token 18 = .ok (.aload_n 0, 1) := by decide +kernel
theorem dX9_token_19 : decode cX9_token 19 = .ok (.dup, 1) := by decide +kernel
theorem dX9_token_20 : decode cX9_token 20 = .ok (.getfield 69, 3) := by decide +kernel
theorem dX9_token_23 : decode cX9_token 23 = .ok (.iconst 1, 1) := by decide +kernel
theorem dX9_token_24 : decode cX9_token 24 = .ok (.iadd, 1) := by decide +kernel
theorem dX9_token_25 : decode cX9_token 25 = .ok (.putfield 69, 3) := by decide +kernel
theorem dX9_token_28 : decode cX9_token 28 = .ok (.goto (-28), 3) := by decide +kernel
theorem dX9_token_31 : decode cX9_token 31 = .ok (.aload_n 0, 1) := by decide +kernel
theorem dX9_token_32 : decode cX9_token 32 = .ok (.aload_n 0, 1) := by decide +kernel
theorem dX9_token_33 : decode cX9_token 33 = .ok (.getfield 69, 3) := by decide +kernel
theorem dX9_token_36 : decode cX9_token 36 = .ok (.putfield 79, 3) := by decide +kernel
theorem dX9_token_39 : decode cX9_token 39 = .ok (.aload_n 0, 1) := by decide +kernel
theorem dX9_token_40 : decode cX9_token 40 = .ok (.invokevirtual 75, 3) := by decide +kernel
theorem dX9_token_43 : decode cX9_token 43 = .ok (.istore_n 1, 1) := by decide +kernel
theorem dX9_token_44 : decode cX9_token 44 = .ok (.aload_n 0, 1) := by decide +kernel
theorem dX9_token_45 : decode cX9_token 45 = .ok (.lconst 0, 1) := by decide +kernel
theorem dX9_token_46 : decode cX9_token 46 = .ok (.putfield 82, 3) := by decide +kernel
theorem dX9_token_49 : decode cX9_token 49 = .ok (.iconst 0, 1) := by decide +kernel
theorem dX9_token_50 : decode cX9_token 50 = .ok (.istore_n 2, 1) := by decide +kernel
theorem dX9_token_51 : decode cX9_token 51 = .ok (.iload_n 1, 1) := by decide +kernel
theorem dX9_token_52 : decode cX9_token 52 = .ok (.ifCond .ge 11, 3) := by decide +kernel
theorem dX9_token_55 : decode cX9_token 55 = .ok (.aload_n 0, 1) := by decide +kernel
theorem dX9_token_56 : decode cX9_token 56 = .ok (.iconst 0, 1) := by decide +kernel
theorem dX9_token_57 : decode cX9_token 57 = .ok (.putfield 86, 3) := by decide +kernel
theorem dX9_token_60 : decode cX9_token 60 = .ok (.goto 221, 3) := by decide +kernel
theorem dX9_token_63 : decode cX9_token 63 = .ok (.iload_n 1, 1) := by decide +kernel
theorem dX9_token_64 : decode cX9_token 64 = .ok (.bipush 97, 2) := by decide +kernel
theorem dX9_token_66 : decode cX9_token 66 = .ok (.bipush 122, 2) := by decide +kernel
theorem dX9_token_68 : decode cX9_token 68 = .ok (.invokestatic 63, 3) := by decide +kernel
theorem dX9_token_71 : decode cX9_token 71 = .ok (.ifCond .eq 91, 3) := by decide +kernel
theorem dX9_token_74 : decode cX9_token 74 = .ok (.aload_n 0, 1) := by decide +kernel
theorem dX9_token_75 : decode cX9_token 75 = .ok (.invokevirtual 75, 3) := by decide +kernel
theorem dX9_token_78 : decode cX9_token 78 = .ok (.bipush 97, 2) := by decide +kernel
theorem dX9_token_80 : decode cX9_token 80 = .ok (.bipush 122, 2) := by decide +kernel
theorem dX9_token_82 : decode cX9_token 82 = .ok (.invokestatic 63, 3) := by decide +kernel
theorem dX9_token_85 : decode cX9_token 85 = .ok (.ifCond .eq 36, 3) := by decide +kernel
theorem dX9_token_88 : decode cX9_token 88 = .ok (.aload_n 0, 1) := by decide +kernel
theorem dX9_token_89 : decode cX9_token 89 = .ok (.aload_n 0, 1) := by decide +kernel
theorem dX9_token_90 : decode cX9_token 90 = .ok (.getfield 82, 3) := by decide +kernel
theorem dX9_token_93 : decode cX9_token 93 = .ok (.bipush 8, 2) := by decide +kernel
theorem dX9_token_95 : decode cX9_token 95 = .ok (.lshl, 1) := by decide +kernel
theorem dX9_token_96 : decode cX9_token 96 = .ok (.aload_n 0, 1) := by decide +kernel
theorem dX9_token_97 : decode cX9_token 97 = .ok (.invokevirtual 75, 3) := by decide +kernel
theorem dX9_token_100 : decode cX9_token 100 = .ok (.i2l, 1) := by decide +kernel
theorem dX9_token_101 : decode cX9_token 101 = .ok (.lor, 1) := by decide +kernel
theorem dX9_token_102 : decode cX9_token 102 = .ok (.putfield 82, 3) := by decide +kernel
theorem dX9_token_105 : decode cX9_token 105 = .ok (.aload_n 0, 1) := by decide +kernel
theorem dX9_token_106 : decode cX9_token 106 = .ok (.dup, 1) := by decide +kernel
theorem dX9_token_107 : decode cX9_token 107 = .ok (.getfield 69, 3) := by decide +kernel
theorem dX9_token_110 : decode cX9_token 110 = .ok (.iconst 1, 1) := by decide +kernel
theorem dX9_token_111 : decode cX9_token 111 = .ok (.iadd, 1) := by decide +kernel
theorem dX9_token_112 : decode cX9_token 112 = .ok (.putfield 69, 3) := by decide +kernel
theorem dX9_token_115 : decode cX9_token 115 = .ok (.iinc 2 1, 3) := by decide +kernel
theorem dX9_token_118 : decode cX9_token 118 = .ok (.goto (-44), 3) := by decide +kernel
theorem dX9_token_121 : decode cX9_token 121 = .ok (.aload_n 0, 1) := by decide +kernel
theorem dX9_token_122 : decode cX9_token 122 = .ok (.iload_n 2, 1) := by decide +kernel
theorem dX9_token_123 : decode cX9_token 123 = .ok (.putfield 89, 3) := by decide +kernel
theorem dX9_token_126 : decode cX9_token 126 = .ok (.aload_n 0, 1) := by decide +kernel
theorem dX9_token_127 : decode cX9_token 127 = .ok (.iload_n 2, 1) := by decide +kernel
theorem dX9_token_128 : decode cX9_token 128 = .ok (.bipush 8, 2) := by decide +kernel
theorem dX9_token_130 : decode cX9_token 130 = .ok (.if_icmp .le 7, 3) := by decide +kernel
theorem dX9_token_133 : decode cX9_token 133 = .ok (.lconst 0, 1) := by decide +kernel
theorem dX9_token_134 : decode cX9_token 134 = .ok (.goto 7, 3) := by decide +kernel
theorem dX9_token_137 : decode cX9_token 137 = .ok (.aload_n 0, 1) := by decide +kernel
theorem dX9_token_138 : decode cX9_token 138 = .ok (.getfield 82, 3) := by decide +kernel
theorem dX9_token_141 : decode cX9_token 141 = .ok (.putfield 82, 3) := by decide +kernel
theorem dX9_token_144 : decode cX9_token 144 = .ok (.aload_n 0, 1) := by decide +kernel
theorem dX9_token_145 : decode cX9_token 145 = .ok (.iload_n 2, 1) := by decide +kernel
theorem dX9_token_146 : decode cX9_token 146 = .ok (.bipush 13, 2) := by decide +kernel
theorem dX9_token_148 : decode cX9_token 148 = .ok (.if_icmp .le 7, 3) := by decide +kernel
theorem dX9_token_151 : decode cX9_token 151 = .ok (.iconst 1, 1) := by decide +kernel
theorem dX9_token_152 : decode cX9_token 152 = .ok (.goto 4, 3) := by decide +kernel
theorem dX9_token_155 : decode cX9_token 155 = .ok (.iconst 2, 1) := by decide +kernel
theorem dX9_token_156 : decode cX9_token 156 = .ok (.putfield 86, 3) := by decide +kernel
theorem dX9_token_159 : decode cX9_token 159 = .ok (.goto 122, 3) := by decide +kernel
theorem dX9_token_162 : decode cX9_token 162 = .ok (.iload_n 1, 1) := by decide +kernel
theorem dX9_token_163 : decode cX9_token 163 = .ok (.bipush 48, 2) := by decide +kernel
theorem dX9_token_165 : decode cX9_token 165 = .ok (.bipush 57, 2) := by decide +kernel
theorem dX9_token_167 : decode cX9_token 167 = .ok (.invokestatic 63, 3) := by decide +kernel
theorem dX9_token_170 : decode cX9_token 170 = .ok (.ifCond .eq 86, 3) := by decide +kernel
theorem dX9_token_173 : decode cX9_token 173 = .ok (.aload_n 0, 1) := by decide +kernel
theorem dX9_token_174 : decode cX9_token 174 = .ok (.iconst 0, 1) := by decide +kernel
theorem dX9_token_175 : decode cX9_token 175 = .ok (.putfield 92, 3) := by decide +kernel
theorem dX9_token_178 : decode cX9_token 178 = .ok (.aload_n 0, 1) := by decide +kernel
theorem dX9_token_179 : decode cX9_token 179 = .ok (.invokevirtual 75, 3) := by decide +kernel
theorem dX9_token_182 : decode cX9_token 182 = .ok (.bipush 48, 2) := by decide +kernel
theorem dX9_token_184 : decode cX9_token 184 = .ok (.bipush 57, 2) := by decide +kernel
theorem dX9_token_186 : decode cX9_token 186 = .ok (.invokestatic 63, 3) := by decide +kernel
theorem dX9_token_189 : decode cX9_token 189 = .ok (.ifCond .eq 50, 3) := by decide +kernel
theorem dX9_token_192 : decode cX9_token 192 = .ok (.aload_n 0, 1) := by decide +kernel
theorem dX9_token_193 : decode cX9_token 193 = .ok (.iload_n 2, 1) := by decide +kernel
theorem dX9_token_194 : decode cX9_token 194 = .ok (.iconst 4, 1) := by decide +kernel
theorem dX9_token_195 : decode cX9_token 195 = .ok (.if_icmp .ge 21, 3) := by decide +kernel
theorem dX9_token_198 : decode cX9_token 198 = .ok (.bipush 10, 2) := by decide +kernel
theorem dX9_token_200 : decode cX9_token 200 = .ok (.aload_n 0, 1) := by decide +kernel
theorem dX9_token_201 : decode cX9_token 201 = .ok (.getfield 92, 3) := by decide +kernel
theorem dX9_token_204 : decode cX9_token 204 = .ok (.imul, 1) := by decide +kernel
theorem dX9_token_205 : decode cX9_token 205 = .ok (.aload_n 0, 1) := by decide +kernel
theorem dX9_token_206 : decode cX9_token 206 = .ok (.invokevirtual 75, 3) := by decide +kernel
theorem dX9_token_209 : decode cX9_token 209 = .ok (.iadd, 1) := by decide +kernel
theorem dX9_token_210 : decode cX9_token 210 = .ok (.bipush 48, 2) := by decide +kernel
theorem dX9_token_212 : decode cX9_token 212 = .ok (.isub, 1) := by decide +kernel
theorem dX9_token_213 : decode cX9_token 213 = .ok (.goto 7, 3) := by decide +kernel
theorem dX9_token_216 : decode cX9_token 216 = .ok (.aload_n 0, 1) := by decide +kernel
theorem dX9_token_217 : decode cX9_token 217 = .ok (.getfield 92, 3) := by decide +kernel
theorem dX9_token_220 : decode cX9_token 220 = .ok (.putfield 92, 3) := by decide +kernel
theorem dX9_token_223 : decode cX9_token 223 = .ok (.aload_n 0, 1) := by decide +kernel
theorem dX9_token_224 : decode cX9_token 224 = .ok (.dup, 1) := by decide +kernel
theorem dX9_token_225 : decode cX9_token 225 = .ok (.getfield 69, 3) := by decide +kernel
theorem dX9_token_228 : decode cX9_token 228 = .ok (.iconst 1, 1) := by decide +kernel
theorem dX9_token_229 : decode cX9_token 229 = .ok (.iadd, 1) := by decide +kernel
theorem dX9_token_230 : decode cX9_token 230 = .ok (.putfield 69, 3) := by decide +kernel
theorem dX9_token_233 : decode cX9_token 233 = .ok (.iinc 2 1, 3) := by decide +kernel
theorem dX9_token_236 : decode cX9_token 236 = .ok (.goto (-58), 3) := by decide +kernel
theorem dX9_token_239 : decode cX9_token 239 = .ok (.aload_n 0, 1) := by decide +kernel
theorem dX9_token_240 : decode cX9_token 240 = .ok (.iload_n 2, 1) := by decide +kernel
theorem dX9_token_241 : decode cX9_token 241 = .ok (.iconst 4, 1) := by decide +kernel
theorem dX9_token_242 : decode cX9_token 242 = .ok (.if_icmp .le 7, 3) := by decide +kernel
theorem dX9_token_245 : decode cX9_token 245 = .ok (.iconst 1, 1) := by decide +kernel
theorem dX9_token_246 : decode cX9_token 246 = .ok (.goto 4, 3) := by decide +kernel
theorem dX9_token_249 : decode cX9_token 249 = .ok (.iconst 3, 1) := by decide +kernel
theorem dX9_token_250 : decode cX9_token 250 = .ok (.putfield 86, 3) := by decide +kernel
theorem dX9_token_253 : decode cX9_token 253 = .ok (.goto 28, 3) := by decide +kernel
theorem dX9_token_256 : decode cX9_token 256 = .ok (.aload_n 0, 1) := by decide +kernel
theorem dX9_token_257 : decode cX9_token 257 = .ok (.dup, 1) := by decide +kernel
theorem dX9_token_258 : decode cX9_token 258 = .ok (.getfield 69, 3) := by decide +kernel
theorem dX9_token_261 : decode cX9_token 261 = .ok (.iconst 1, 1) := by decide +kernel
theorem dX9_token_262 : decode cX9_token 262 = .ok (.iadd, 1) := by decide +kernel
theorem dX9_token_263 : decode cX9_token 263 = .ok (.putfield 69, 3) := by decide +kernel
theorem dX9_token_266 : decode cX9_token 266 = .ok (.aload_n 0, 1) := by decide +kernel
theorem dX9_token_267 : decode cX9_token 267 = .ok (.iload_n 1, 1) := by decide +kernel
theorem dX9_token_268 : decode cX9_token 268 = .ok (.bipush 59, 2) := by decide +kernel
theorem dX9_token_270 : decode cX9_token 270 = .ok (.if_icmp .ne 7, 3) := by decide +kernel
theorem dX9_token_273 : decode cX9_token 273 = .ok (.iconst 4, 1) := by decide +kernel
theorem dX9_token_274 : decode cX9_token 274 = .ok (.goto 4, 3) := by decide +kernel
theorem dX9_token_277 : decode cX9_token 277 = .ok (.iconst 1, 1) := by decide +kernel
theorem dX9_token_278 : decode cX9_token 278 = .ok (.putfield 86, 3) := by decide +kernel
theorem dX9_token_281 : decode cX9_token 281 = .ok (.return_, 1) := by decide +kernel
theorem dX9_fails_0 : decode cX9_fails 0 = .ok (.aload_n 0, 1) := by decide +kernel
theorem dX9_fails_1 : decode cX9_fails 1 = .ok (.aload_n 0, 1) := by decide +kernel
theorem dX9_fails_2 : decode cX9_fails 2 = .ok (.getfield 79, 3) := by decide +kernel
theorem dX9_fails_5 : decode cX9_fails 5 = .ok (.putfield 95, 3) := by decide +kernel
theorem dX9_fails_8 : decode cX9_fails 8 = .ok (.iconst 0, 1) := by decide +kernel
theorem dX9_fails_9 : decode cX9_fails 9 = .ok (.ireturn, 1) := by decide +kernel
theorem dX9_isBad_0 : decode cX9_isBad 0 = .ok (.aload_n 0, 1) := by decide +kernel
theorem dX9_isBad_1 : decode cX9_isBad 1 = .ok (.getfield 98, 3) := by decide +kernel
theorem dX9_isBad_4 : decode cX9_isBad 4 = .ok (.ifCond .eq 27, 3) := by decide +kernel
theorem dX9_isBad_7 : decode cX9_isBad 7 = .ok (.iload_n 2, 1) := by decide +kernel
theorem dX9_isBad_8 : decode cX9_isBad 8 = .ok (.aload_n 0, 1) := by decide +kernel
theorem dX9_isBad_9 : decode cX9_isBad 9 = .ok (.getfield 101, 3) := by decide +kernel
theorem dX9_isBad_12 : decode cX9_isBad 12 = .ok (.if_icmp .lt 19, 3) := by decide +kernel
theorem dX9_isBad_15 : decode cX9_isBad 15 = .ok (.iload_n 2, 1) := by decide +kernel
theorem dX9_isBad_16 : decode cX9_isBad 16 = .ok (.aload_n 0, 1) := by decide +kernel
theorem dX9_isBad_17 : decode cX9_isBad 17 = .ok (.getfield 101, 3) := by decide +kernel
theorem dX9_isBad_20 : decode cX9_isBad 20 = .ok (.if_icmp .ne 21, 3) := by decide +kernel
theorem dX9_isBad_23 : decode cX9_isBad 23 = .ok (.iload_n 1, 1) := by decide +kernel
theorem dX9_isBad_24 : decode cX9_isBad 24 = .ok (.aload_n 0, 1) := by decide +kernel
theorem dX9_isBad_25 : decode cX9_isBad 25 = .ok (.getfield 98, 3) := by decide +kernel
theorem dX9_isBad_28 : decode cX9_isBad 28 = .ok (.if_icmp .ge 13, 3) := by decide +kernel
theorem dX9_isBad_31 : decode cX9_isBad 31 = .ok (.aload_n 0, 1) := by decide +kernel
theorem dX9_isBad_32 : decode cX9_isBad 32 = .ok (.iload_n 1, 1) := by decide +kernel
theorem dX9_isBad_33 : decode cX9_isBad 33 = .ok (.putfield 98, 3) := by decide +kernel
theorem dX9_isBad_36 : decode cX9_isBad 36 = .ok (.aload_n 0, 1) := by decide +kernel
theorem dX9_isBad_37 : decode cX9_isBad 37 = .ok (.iload_n 2, 1) := by decide +kernel
theorem dX9_isBad_38 : decode cX9_isBad 38 = .ok (.putfield 101, 3) := by decide +kernel
theorem dX9_isBad_41 : decode cX9_isBad 41 = .ok (.return_, 1) := by decide +kernel
set_option maxRecDepth 20000 in
theorem ggX9_takes_X9_fails : GoodIn wsX9_takes wsX9_fails := goodIn_r _ [9, 4, 10, 33, 34, 35, 36, 37, 38, 39, 40, 41, 42, 43, 44, 45, 46, 47, 48, 49, 50, 51, 52, 53, 54, 55, 56, 57, 58, 59, 60, 61] (by decide +kernel) (by decide +kernel)
set_option maxRecDepth 20000 in
theorem gX9_takes_X9_fails : GoodIn wsX9_takes (wsV RX9 104 RX9 yX9_fails wsX9_fails) := goodIn_app (goodIn_of _ (by decide +kernel)) ggX9_takes_X9_fails
set_option maxRecDepth 20000 in
theorem ggX9_takes_X9_in : GoodIn wsX9_takes wsX9_in := goodIn_r _ [13] (by decide +kernel) (by decide +kernel)
set_option maxRecDepth 20000 in
theorem gX9_takes_X9_in : GoodIn wsX9_takes (va_wsS RX9 63 yX9_in wsX9_in) := goodIn_app (goodIn_of _ (by decide +kernel)) ggX9_takes_X9_in
set_option maxRecDepth 20000 in
theorem ggX9_takes_X9_isBad : GoodIn wsX9_takes wsX9_isBad := goodIn_r _ [17, 18, 19, 33, 34, 35, 36, 37, 38, 39, 40, 41, 42, 43, 44, 45, 46, 47, 48, 49, 50, 51, 52, 53, 54, 55, 56, 57, 58, 59, 60, 61] (by decide +kernel) (by decide +kernel)
set_option maxRecDepth 20000 in
theorem gX9_takes_X9_isBad : GoodIn wsX9_takes (wsV RX9 111 RX9 yX9_isBad wsX9_isBad) := goodIn_app (goodIn_of _ (by decide +kernel)) ggX9_takes_X9_isBad
set_option maxRecDepth 20000 in
theorem ggX9_takes_X9_token : GoodIn wsX9_takes wsX9_token := goodIn_r _ [23, 24, 4, 25, 1, 26, 2, 27, 28, 29, 8, 30, 31, 32, 11, 12, 13, 33, 34, 35, 36, 37, 38, 39, 40, 41, 42, 43, 44, 45, 46, 47, 48, 49, 50, 51, 52, 53, 54, 55, 56, 57, 58, 59, 60, 61] (by decide +kernel) (by decide +kernel)
set_option maxRecDepth 20000 in
theorem gX9_takes_X9_token : GoodIn wsX9_takes (wsV RX9 115 RX9 yX9_token wsX9_token) := goodIn_app (goodIn_of _ (by decide +kernel)) ggX9_takes_X9_token
theorem dX9_takes_0 : decode cX9_takes 0 = .ok (.aload_n 0, 1) := by decide +kernel
theorem dX9_takes_1 : decode cX9_takes 1 = .ok (.getfield 86, 3) := by decide +kernel
theorem dX9_takes_4 : decode cX9_takes 4 = .ok (.iconst 3, 1) := by decide +kernel
theorem dX9_takes_5 : decode cX9_takes 5 = .ok (.if_icmp .eq 8, 3) := by decide +kernel
theorem dX9_takes_8 : decode cX9_takes 8 = .ok (.aload_n 0, 1) := by decide +kernel
theorem dX9_takes_9 : decode cX9_takes 9 = .ok (.invokevirtual 104, 3) := by decide +kernel
theorem dX9_takes_12 : decode cX9_takes 12 = .ok (.ireturn, 1) := by decide +kernel
theorem dX9_takes_13 : decode cX9_takes 13 = .ok (.aload_n 0, 1) := by decide +kernel
theorem dX9_takes_14 : decode cX9_takes 14 = .ok (.aload_n 0, 1) := by decide +kernel
theorem dX9_takes_15 : decode cX9_takes 15 = .ok (.getfield 92, 3) := by decide +kernel
theorem dX9_takes_18 : decode cX9_takes 18 = .ok (.putfield 108, 3) := by decide +kernel
theorem dX9_takes_21 : decode cX9_takes 21 = .ok (.aload_n 0, 1) := by decide +kernel
theorem dX9_takes_22 : decode cX9_takes 22 = .ok (.getfield 92, 3) := by decide +kernel
theorem dX9_takes_25 : decode cX9_takes 25 = .ok (.iload_n 1, 1) := by decide +kernel
theorem dX9_takes_26 : decode cX9_takes 26 = .ok (.iload_n 2, 1) := by decide +kernel
theorem dX9_takes_27 : decode cX9_takes 27 = .ok (.invokestatic 63, 3) := by decide +kernel
theorem dX9_takes_30 : decode cX9_takes 30 = .ok (.ifCond .ne 12, 3) := by decide +kernel
theorem dX9_takes_33 : decode cX9_takes 33 = .ok (.aload_n 0, 1) := by decide +kernel
theorem dX9_takes_34 : decode cX9_takes 34 = .ok (.iconst 2, 1) := by decide +kernel
theorem dX9_takes_35 : decode cX9_takes 35 = .ok (.aload_n 0, 1) := by decide +kernel
theorem dX9_takes_36 : decode cX9_takes 36 = .ok (.getfield 79, 3) := by decide +kernel
theorem dX9_takes_39 : decode cX9_takes 39 = .ok (.invokevirtual 111, 3) := by decide +kernel
theorem dX9_takes_42 : decode cX9_takes 42 = .ok (.aload_n 0, 1) := by decide +kernel
theorem dX9_takes_43 : decode cX9_takes 43 = .ok (.invokevirtual 115, 3) := by decide +kernel
theorem dX9_takes_46 : decode cX9_takes 46 = .ok (.iconst 1, 1) := by decide +kernel
theorem dX9_takes_47 : decode cX9_takes 47 = .ok (.ireturn, 1) := by decide +kernel
theorem dX9_rowOf_0 : decode cX9_rowOf 0 = .ok (.iconst 0, 1) := by decide +kernel
theorem dX9_rowOf_1 : decode cX9_rowOf 1 = .ok (.istore_n 1, 1) := by decide +kernel
theorem dX9_rowOf_2 : decode cX9_rowOf 2 = .ok (.iconst 0, 1) := by decide +kernel
theorem dX9_rowOf_3 : decode cX9_rowOf 3 = .ok (.istore_n 2, 1) := by decide +kernel
theorem dX9_rowOf_4 : decode cX9_rowOf 4 = .ok (.iload_n 2, 1) := by decide +kernel
theorem dX9_rowOf_5 : decode cX9_rowOf 5 = .ok (.aload_n 0, 1) := by decide +kernel
theorem dX9_rowOf_6 : decode cX9_rowOf 6 = .ok (.getfield 89, 3) := by decide +kernel
theorem dX9_rowOf_9 : decode cX9_rowOf 9 = .ok (.if_icmp .ge 51, 3) := by decide +kernel
theorem dX9_rowOf_12 : decode cX9_rowOf 12 = .ok (.aload_n 0, 1) := by decide +kernel
theorem dX9_rowOf_13 : decode cX9_rowOf 13 = .ok (.getfield 13, 3) := by decide +kernel
theorem dX9_rowOf_16 : decode cX9_rowOf 16 = .ok (.aload_n 0, 1) := by decide +kernel
theorem dX9_rowOf_17 : decode cX9_rowOf 17 = .ok (.getfield 79, 3) := by decide +kernel
theorem dX9_rowOf_20 : decode cX9_rowOf 20 = .ok (.iload_n 2, 1) := by decide +kernel
theorem dX9_rowOf_21 : decode cX9_rowOf 21 = .ok (.iadd, 1) := by decide +kernel
theorem dX9_rowOf_22 : decode cX9_rowOf 22 = .ok (.baload, 1) := by decide +kernel
theorem dX9_rowOf_23 : decode cX9_rowOf 23 = .ok (.istore_n 3, 1) := by decide +kernel
theorem dX9_rowOf_24 : decode cX9_rowOf 24 = .ok (.iload_n 3, 1) := by decide +kernel
theorem dX9_rowOf_25 : decode cX9_rowOf 25 = .ok (.bipush 120, 2) := by decide +kernel
theorem dX9_rowOf_27 : decode cX9_rowOf 27 = .ok (.if_icmp .eq 11, 3) := by decide +kernel
theorem dX9_rowOf_30 : decode cX9_rowOf 30 = .ok (.iload_n 3, 1) := by decide +kernel
theorem dX9_rowOf_31 : decode cX9_rowOf 31 = .ok (.bipush 111, 2) := by decide +kernel
theorem dX9_rowOf_33 : decode cX9_rowOf 33 = .ok (.if_icmp .eq 5, 3) := by decide +kernel
theorem dX9_rowOf_36 : decode cX9_rowOf 36 = .ok (.iconst (-1), 1) := by decide +kernel
theorem dX9_rowOf_37 : decode cX9_rowOf 37 = .ok (.ireturn, 1) := by decide +kernel
theorem dX9_rowOf_38 : decode cX9_rowOf 38 = .ok (.iload_n 1, 1) := by decide +kernel
theorem dX9_rowOf_39 : decode cX9_rowOf 39 = .ok (.iload_n 3, 1) := by decide +kernel
theorem dX9_rowOf_40 : decode cX9_rowOf 40 = .ok (.bipush 120, 2) := by decide +kernel
theorem dX9_rowOf_42 : decode cX9_rowOf 42 = .ok (.if_icmp .ne 9, 3) := by decide +kernel
theorem dX9_rowOf_45 : decode cX9_rowOf 45 = .ok (.iconst 1, 1) := by decide +kernel
theorem dX9_rowOf_46 : decode cX9_rowOf 46 = .ok (.iload_n 2, 1) := by decide +kernel
theorem dX9_rowOf_47 : decode cX9_rowOf 47 = .ok (.ishl, 1) := by decide +kernel
theorem dX9_rowOf_48 : decode cX9_rowOf 48 = .ok (.goto 4, 3) := by decide +kernel
theorem dX9_rowOf_51 : decode cX9_rowOf 51 = .ok (.iconst 0, 1) := by decide +kernel
theorem dX9_rowOf_52 : decode cX9_rowOf 52 = .ok (.ior, 1) := by decide +kernel
theorem dX9_rowOf_53 : decode cX9_rowOf 53 = .ok (.istore_n 1, 1) := by decide +kernel
theorem dX9_rowOf_54 : decode cX9_rowOf 54 = .ok (.iinc 2 1, 3) := by decide +kernel
theorem dX9_rowOf_57 : decode cX9_rowOf 57 = .ok (.goto (-53), 3) := by decide +kernel
theorem dX9_rowOf_60 : decode cX9_rowOf 60 = .ok (.iload_n 1, 1) := by decide +kernel
theorem dX9_rowOf_61 : decode cX9_rowOf 61 = .ok (.ireturn, 1) := by decide +kernel
set_option maxRecDepth 20000 in
theorem ggX9_partLine_X9_isBad : GoodIn wsX9_partLine wsX9_isBad := goodIn_r _ [10, 11, 12, 42, 43, 44, 45, 46, 47, 48, 49, 50, 51, 52, 53, 54, 55, 56, 57, 58, 59, 60, 61, 62, 63, 64, 65, 66, 67, 68, 69, 70] (by decide +kernel) (by decide +kernel)
set_option maxRecDepth 20000 in
theorem gX9_partLine_X9_isBad : GoodIn wsX9_partLine (wsV RX9 111 RX9 yX9_isBad wsX9_isBad) := goodIn_app (goodIn_of _ (by decide +kernel)) ggX9_partLine_X9_isBad
set_option maxRecDepth 20000 in
theorem ggX9_partLine_X9_token : GoodIn wsX9_partLine wsX9_token := goodIn_r _ [16, 17, 2, 18, 3, 4, 19, 20, 21, 22, 9, 23, 24, 25, 26, 27, 28, 42, 43, 44, 45, 46, 47, 48, 49, 50, 51, 52, 53, 54, 55, 56, 57, 58, 59, 60, 61, 62, 63, 64, 65, 66, 67, 68, 69, 70] (by decide +kernel) (by decide +kernel)
set_option maxRecDepth 20000 in
theorem gX9_partLine_X9_token : GoodIn wsX9_partLine (wsV RX9 115 RX9 yX9_token wsX9_token) := goodIn_app (goodIn_of _ (by decide +kernel)) ggX9_partLine_X9_token
set_option maxRecDepth 20000 in
theorem ggX9_partLine_X9_rowOf : GoodIn wsX9_partLine wsX9_rowOf := goodIn_r _ [32, 4, 25, 2, 42, 43, 44, 45, 46, 47, 48, 49, 50, 51, 52, 53, 54, 55, 56, 57, 58, 59, 60, 61, 62, 63, 64, 65, 66, 67, 68, 69, 70] (by decide +kernel) (by decide +kernel)
set_option maxRecDepth 20000 in
theorem gX9_partLine_X9_rowOf : GoodIn wsX9_partLine (wsV RX9 118 RX9 yX9_rowOf wsX9_rowOf) := goodIn_app (goodIn_of _ (by decide +kernel)) ggX9_partLine_X9_rowOf
set_option maxRecDepth 20000 in
theorem ggX9_partLine_X9_fails : GoodIn wsX9_partLine wsX9_fails := goodIn_r _ [36, 2, 37, 42, 43, 44, 45, 46, 47, 48, 49, 50, 51, 52, 53, 54, 55, 56, 57, 58, 59, 60, 61, 62, 63, 64, 65, 66, 67, 68, 69, 70] (by decide +kernel) (by decide +kernel)
set_option maxRecDepth 20000 in
theorem gX9_partLine_X9_fails : GoodIn wsX9_partLine (wsV RX9 104 RX9 yX9_fails wsX9_fails) := goodIn_app (goodIn_of _ (by decide +kernel)) ggX9_partLine_X9_fails
set_option maxRecDepth 20000 in
theorem ggX9_partLine_X9_takes : GoodIn wsX9_partLine wsX9_takes := goodIn_r _ [41, 3, 19, 5, 2, 33, 34, 35, 9, 36, 37, 26, 27, 28, 6, 7, 8, 10, 11, 12, 13, 14, 15, 16, 17, 18, 4, 20, 21, 22, 23, 24, 25, 42, 43, 44, 45, 46, 47, 48, 49, 50, 51, 52, 53, 54, 55, 56, 57, 58, 59, 60, 61, 62, 63, 64, 65, 66, 67, 68, 69, 70] (by decide +kernel) (by decide +kernel)
set_option maxRecDepth 20000 in
theorem gX9_partLine_X9_takes : GoodIn wsX9_partLine (wsV RX9 121 RX9 yX9_takes wsX9_takes) := goodIn_app (goodIn_of _ (by decide +kernel)) ggX9_partLine_X9_takes
theorem dX9_partLine_0 : decode cX9_partLine 0 = .ok (.aload_n 0, 1) := by decide +kernel
theorem dX9_partLine_1 : decode cX9_partLine 1 = .ok (.getfield 21, 3) := by decide +kernel
theorem dX9_partLine_4 : decode cX9_partLine 4 = .ok (.iconst 0, 1) := by decide +kernel
theorem dX9_partLine_5 : decode cX9_partLine 5 = .ok (.iaload, 1) := by decide +kernel
theorem dX9_partLine_6 : decode cX9_partLine 6 = .ok (.iconst 5, 1) := by decide +kernel
theorem dX9_partLine_7 : decode cX9_partLine 7 = .ok (.if_icmp .ne 12, 3) := by decide +kernel
theorem dX9_partLine_10 : decode cX9_partLine 10 = .ok (.aload_n 0, 1) := by decide +kernel
theorem dX9_partLine_11 : decode cX9_partLine 11 = .ok (.iconst 3, 1) := by decide +kernel
theorem dX9_partLine_12 : decode cX9_partLine 12 = .ok (.aload_n 0, 1) := by decide +kernel
theorem dX9_partLine_13 : decode cX9_partLine 13 = .ok (.getfield 79, 3) := by decide +kernel
theorem dX9_partLine_16 : decode cX9_partLine 16 = .ok (.invokevirtual 111, 3) := by decide +kernel
theorem dX9_partLine_19 : decode cX9_partLine 19 = .ok (.aload_n 0, 1) := by decide +kernel
theorem dX9_partLine_20 : decode cX9_partLine 20 = .ok (.invokevirtual 115, 3) := by decide +kernel
theorem dX9_partLine_23 : decode cX9_partLine 23 = .ok (.aload_n 0, 1) := by decide +kernel
theorem dX9_partLine_24 : decode cX9_partLine 24 = .ok (.getfield 86, 3) := by decide +kernel
theorem dX9_partLine_27 : decode cX9_partLine 27 = .ok (.iconst 2, 1) := by decide +kernel
theorem dX9_partLine_28 : decode cX9_partLine 28 = .ok (.if_icmp .ne 18, 3) := by decide +kernel
theorem dX9_partLine_31 : decode cX9_partLine 31 = .ok (.aload_n 0, 1) := by decide +kernel
theorem dX9_partLine_32 : decode cX9_partLine 32 = .ok (.getfield 89, 3) := by decide +kernel
theorem dX9_partLine_35 : decode cX9_partLine 35 = .ok (.iconst 1, 1) := by decide +kernel
theorem dX9_partLine_36 : decode cX9_partLine 36 = .ok (.if_icmp .le 10, 3) := by decide +kernel
theorem dX9_partLine_39 : decode cX9_partLine 39 = .ok (.aload_n 0, 1) := by decide +kernel
theorem dX9_partLine_40 : decode cX9_partLine 40 = .ok (.invokevirtual 118, 3) := by decide +kernel
theorem dX9_partLine_43 : decode cX9_partLine 43 = .ok (.goto 4, 3) := by decide +kernel
theorem dX9_partLine_46 : decode cX9_partLine 46 = .ok (.iconst (-1), 1) := by decide +kernel
theorem dX9_partLine_47 : decode cX9_partLine 47 = .ok (.istore_n 1, 1) := by decide +kernel
theorem dX9_partLine_48 : decode cX9_partLine 48 = .ok (.aload_n 0, 1) := by decide +kernel
theorem dX9_partLine_49 : decode cX9_partLine 49 = .ok (.getfield 89, 3) := by decide +kernel
theorem dX9_partLine_52 : decode cX9_partLine 52 = .ok (.istore_n 2, 1) := by decide +kernel
theorem dX9_partLine_53 : decode cX9_partLine 53 = .ok (.iload_n 1, 1) := by decide +kernel
theorem dX9_partLine_54 : decode cX9_partLine 54 = .ok (.iconst (-1), 1) := by decide +kernel
theorem dX9_partLine_55 : decode cX9_partLine 55 = .ok (.if_icmp .ne 8, 3) := by decide +kernel
theorem dX9_partLine_58 : decode cX9_partLine 58 = .ok (.aload_n 0, 1) := by decide +kernel
theorem dX9_partLine_59 : decode cX9_partLine 59 = .ok (.invokevirtual 104, 3) := by decide +kernel
theorem dX9_partLine_62 : decode cX9_partLine 62 = .ok (.ireturn, 1) := by decide +kernel
theorem dX9_partLine_63 : decode cX9_partLine 63 = .ok (.aload_n 0, 1) := by decide +kernel
theorem dX9_partLine_64 : decode cX9_partLine 64 = .ok (.invokevirtual 115, 3) := by decide +kernel
theorem dX9_partLine_67 : decode cX9_partLine 67 = .ok (.aload_n 0, 1) := by decide +kernel
theorem dX9_partLine_68 : decode cX9_partLine 68 = .ok (.iconst 1, 1) := by decide +kernel
theorem dX9_partLine_69 : decode cX9_partLine 69 = .ok (.bipush 9, 2) := by decide +kernel
theorem dX9_partLine_71 : decode cX9_partLine 71 = .ok (.invokevirtual 121, 3) := by decide +kernel
theorem dX9_partLine_74 : decode cX9_partLine 74 = .ok (.ifCond .ne 5, 3) := by decide +kernel
theorem dX9_partLine_77 : decode cX9_partLine 77 = .ok (.iconst 0, 1) := by decide +kernel
theorem dX9_partLine_78 : decode cX9_partLine 78 = .ok (.ireturn, 1) := by decide +kernel
theorem dX9_partLine_79 : decode cX9_partLine 79 = .ok (.aload_n 0, 1) := by decide +kernel
theorem dX9_partLine_80 : decode cX9_partLine 80 = .ok (.getfield 21, 3) := by decide +kernel
theorem dX9_partLine_83 : decode cX9_partLine 83 = .ok (.iconst 0, 1) := by decide +kernel
theorem dX9_partLine_84 : decode cX9_partLine 84 = .ok (.iaload, 1) := by decide +kernel
theorem dX9_partLine_85 : decode cX9_partLine 85 = .ok (.iconst 5, 1) := by decide +kernel
theorem dX9_partLine_86 : decode cX9_partLine 86 = .ok (.if_icmp .ge 54, 3) := by decide +kernel
theorem dX9_partLine_89 : decode cX9_partLine 89 = .ok (.iconst 5, 1) := by decide +kernel
theorem dX9_partLine_90 : decode cX9_partLine 90 = .ok (.iconst 3, 1) := by decide +kernel
theorem dX9_partLine_91 : decode cX9_partLine 91 = .ok (.aload_n 0, 1) := by decide +kernel
theorem dX9_partLine_92 : decode cX9_partLine 92 = .ok (.getfield 21, 3) := by decide +kernel
theorem dX9_partLine_95 : decode cX9_partLine 95 = .ok (.iconst 0, 1) := by decide +kernel
theorem dX9_partLine_96 : decode cX9_partLine 96 = .ok (.iaload, 1) := by decide +kernel
theorem dX9_partLine_97 : decode cX9_partLine 97 = .ok (.imul, 1) := by decide +kernel
theorem dX9_partLine_98 : decode cX9_partLine 98 = .ok (.iadd, 1) := by decide +kernel
theorem dX9_partLine_99 : decode cX9_partLine 99 = .ok (.istore_n 3, 1) := by decide +kernel
theorem dX9_partLine_100 : decode cX9_partLine 100 = .ok (.aload_n 0, 1) := by decide +kernel
theorem dX9_partLine_101 : decode cX9_partLine 101 = .ok (.getfield 21, 3) := by decide +kernel
theorem dX9_partLine_104 : decode cX9_partLine 104 = .ok (.iload_n 3, 1) := by decide +kernel
theorem dX9_partLine_105 : decode cX9_partLine 105 = .ok (.iconst 0, 1) := by decide +kernel
theorem dX9_partLine_106 : decode cX9_partLine 106 = .ok (.iadd, 1) := by decide +kernel
theorem dX9_partLine_107 : decode cX9_partLine 107 = .ok (.iload_n 2, 1) := by decide +kernel
theorem dX9_partLine_108 : decode cX9_partLine 108 = .ok (.iastore, 1) := by decide +kernel
theorem dX9_partLine_109 : decode cX9_partLine 109 = .ok (.aload_n 0, 1) := by decide +kernel
theorem dX9_partLine_110 : decode cX9_partLine 110 = .ok (.getfield 21, 3) := by decide +kernel
theorem dX9_partLine_113 : decode cX9_partLine 113 = .ok (.iload_n 3, 1) := by decide +kernel
theorem dX9_partLine_114 : decode cX9_partLine 114 = .ok (.iconst 1, 1) := by decide +kernel
theorem dX9_partLine_115 : decode cX9_partLine 115 = .ok (.iadd, 1) := by decide +kernel
theorem dX9_partLine_116 : decode cX9_partLine 116 = .ok (.aload_n 0, 1) := by decide +kernel
theorem dX9_partLine_117 : decode cX9_partLine 117 = .ok (.getfield 108, 3) := by decide +kernel
theorem dX9_partLine_120 : decode cX9_partLine 120 = .ok (.iastore, 1) := by decide +kernel
theorem dX9_partLine_121 : decode cX9_partLine 121 = .ok (.aload_n 0, 1) := by decide +kernel
theorem dX9_partLine_122 : decode cX9_partLine 122 = .ok (.getfield 21, 3) := by decide +kernel
theorem dX9_partLine_125 : decode cX9_partLine 125 = .ok (.iload_n 3, 1) := by decide +kernel
theorem dX9_partLine_126 : decode cX9_partLine 126 = .ok (.iconst 2, 1) := by decide +kernel
theorem dX9_partLine_127 : decode cX9_partLine 127 = .ok (.iadd, 1) := by decide +kernel
theorem dX9_partLine_128 : decode cX9_partLine 128 = .ok (.iload_n 1, 1) := by decide +kernel
theorem dX9_partLine_129 : decode cX9_partLine 129 = .ok (.iastore, 1) := by decide +kernel
theorem dX9_partLine_130 : decode cX9_partLine 130 = .ok (.aload_n 0, 1) := by decide +kernel
theorem dX9_partLine_131 : decode cX9_partLine 131 = .ok (.getfield 21, 3) := by decide +kernel
theorem dX9_partLine_134 : decode cX9_partLine 134 = .ok (.iconst 0, 1) := by decide +kernel
theorem dX9_partLine_135 : decode cX9_partLine 135 = .ok (.dup2, 1) := by decide +kernel
theorem dX9_partLine_136 : decode cX9_partLine 136 = .ok (.iaload, 1) := by decide +kernel
theorem dX9_partLine_137 : decode cX9_partLine 137 = .ok (.iconst 1, 1) := by decide +kernel
theorem dX9_partLine_138 : decode cX9_partLine 138 = .ok (.iadd, 1) := by decide +kernel
theorem dX9_partLine_139 : decode cX9_partLine 139 = .ok (.iastore, 1) := by decide +kernel
theorem dX9_partLine_140 : decode cX9_partLine 140 = .ok (.iconst 1, 1) := by decide +kernel
theorem dX9_partLine_141 : decode cX9_partLine 141 = .ok (.ireturn, 1) := by decide +kernel
theorem dX9_settingOf_0 : decode cX9_settingOf 0 = .ok (.lload_n 0, 1) := by decide +kernel
theorem dX9_settingOf_1 : decode cX9_settingOf 1 = .ok (.ldc2_w 125, 3) := by decide +kernel
theorem dX9_settingOf_4 : decode cX9_settingOf 4 = .ok (.lcmp, 1) := by decide +kernel
theorem dX9_settingOf_5 : decode cX9_settingOf 5 = .ok (.ifCond .ne 7, 3) := by decide +kernel
theorem dX9_settingOf_8 : decode cX9_settingOf 8 = .ok (.iconst 0, 1) := by decide +kernel
theorem dX9_settingOf_9 : decode cX9_settingOf 9 = .ok (.goto 72, 3) := by decide +kernel
theorem dX9_settingOf_12 : decode cX9_settingOf 12 = .ok (.lload_n 0, 1) := by decide +kernel
theorem dX9_settingOf_13 : decode cX9_settingOf 13 = .ok (.ldc2_w 127, 3) := by decide +kernel
theorem dX9_settingOf_16 : decode cX9_settingOf 16 = .ok (.lcmp, 1) := by decide +kernel
theorem dX9_settingOf_17 : decode cX9_settingOf 17 = .ok (.ifCond .eq 11, 3) := by decide +kernel
theorem dX9_settingOf_20 : decode cX9_settingOf 20 = .ok (.lload_n 0, 1) := by decide +kernel
theorem dX9_settingOf_21 : decode cX9_settingOf 21 = .ok (.ldc2_w 129, 3) := by decide +kernel
theorem dX9_settingOf_24 : decode cX9_settingOf 24 = .ok (.lcmp, 1) := by decide +kernel
theorem dX9_settingOf_25 : decode cX9_settingOf 25 = .ok (.ifCond .ne 7, 3) := by decide +kernel
theorem dX9_settingOf_28 : decode cX9_settingOf 28 = .ok (.iconst 1, 1) := by decide +kernel
theorem dX9_settingOf_29 : decode cX9_settingOf 29 = .ok (.goto 52, 3) := by decide +kernel
theorem dX9_settingOf_32 : decode cX9_settingOf 32 = .ok (.lload_n 0, 1) := by decide +kernel
theorem dX9_settingOf_33 : decode cX9_settingOf 33 = .ok (.ldc2_w 131, 3) := by decide +kernel
theorem dX9_settingOf_36 : decode cX9_settingOf 36 = .ok (.lcmp, 1) := by decide +kernel
theorem dX9_settingOf_37 : decode cX9_settingOf 37 = .ok (.ifCond .ne 7, 3) := by decide +kernel
theorem dX9_settingOf_40 : decode cX9_settingOf 40 = .ok (.iconst 2, 1) := by decide +kernel
theorem dX9_settingOf_41 : decode cX9_settingOf 41 = .ok (.goto 40, 3) := by decide +kernel
theorem dX9_settingOf_44 : decode cX9_settingOf 44 = .ok (.lload_n 0, 1) := by decide +kernel
theorem dX9_settingOf_45 : decode cX9_settingOf 45 = .ok (.ldc2_w 133, 3) := by decide +kernel
theorem dX9_settingOf_48 : decode cX9_settingOf 48 = .ok (.lcmp, 1) := by decide +kernel
theorem dX9_settingOf_49 : decode cX9_settingOf 49 = .ok (.ifCond .ne 7, 3) := by decide +kernel
theorem dX9_settingOf_52 : decode cX9_settingOf 52 = .ok (.iconst 3, 1) := by decide +kernel
theorem dX9_settingOf_53 : decode cX9_settingOf 53 = .ok (.goto 28, 3) := by decide +kernel
theorem dX9_settingOf_56 : decode cX9_settingOf 56 = .ok (.lload_n 0, 1) := by decide +kernel
theorem dX9_settingOf_57 : decode cX9_settingOf 57 = .ok (.ldc2_w 135, 3) := by decide +kernel
theorem dX9_settingOf_60 : decode cX9_settingOf 60 = .ok (.lcmp, 1) := by decide +kernel
theorem dX9_settingOf_61 : decode cX9_settingOf 61 = .ok (.ifCond .ne 7, 3) := by decide +kernel
theorem dX9_settingOf_64 : decode cX9_settingOf 64 = .ok (.iconst 4, 1) := by decide +kernel
theorem dX9_settingOf_65 : decode cX9_settingOf 65 = .ok (.goto 16, 3) := by decide +kernel
theorem dX9_settingOf_68 : decode cX9_settingOf 68 = .ok (.lload_n 0, 1) := by decide +kernel
theorem dX9_settingOf_69 : decode cX9_settingOf 69 = .ok (.ldc2_w 137, 3) := by decide +kernel
theorem dX9_settingOf_72 : decode cX9_settingOf 72 = .ok (.lcmp, 1) := by decide +kernel
theorem dX9_settingOf_73 : decode cX9_settingOf 73 = .ok (.ifCond .ne 7, 3) := by decide +kernel
theorem dX9_settingOf_76 : decode cX9_settingOf 76 = .ok (.iconst 5, 1) := by decide +kernel
theorem dX9_settingOf_77 : decode cX9_settingOf 77 = .ok (.goto 4, 3) := by decide +kernel
theorem dX9_settingOf_80 : decode cX9_settingOf 80 = .ok (.iconst (-1), 1) := by decide +kernel
theorem dX9_settingOf_81 : decode cX9_settingOf 81 = .ok (.ireturn, 1) := by decide +kernel
theorem dX9_markOf_0 : decode cX9_markOf 0 = .ok (.lload_n 0, 1) := by decide +kernel
theorem dX9_markOf_1 : decode cX9_markOf 1 = .ok (.ldc2_w 139, 3) := by decide +kernel
theorem dX9_markOf_4 : decode cX9_markOf 4 = .ok (.lcmp, 1) := by decide +kernel
theorem dX9_markOf_5 : decode cX9_markOf 5 = .ok (.ifCond .ne 7, 3) := by decide +kernel
theorem dX9_markOf_8 : decode cX9_markOf 8 = .ok (.iconst 0, 1) := by decide +kernel
theorem dX9_markOf_9 : decode cX9_markOf 9 = .ok (.goto 40, 3) := by decide +kernel
theorem dX9_markOf_12 : decode cX9_markOf 12 = .ok (.lload_n 0, 1) := by decide +kernel
theorem dX9_markOf_13 : decode cX9_markOf 13 = .ok (.ldc2_w 141, 3) := by decide +kernel
theorem dX9_markOf_16 : decode cX9_markOf 16 = .ok (.lcmp, 1) := by decide +kernel
theorem dX9_markOf_17 : decode cX9_markOf 17 = .ok (.ifCond .ne 7, 3) := by decide +kernel
theorem dX9_markOf_20 : decode cX9_markOf 20 = .ok (.iconst 1, 1) := by decide +kernel
theorem dX9_markOf_21 : decode cX9_markOf 21 = .ok (.goto 28, 3) := by decide +kernel
theorem dX9_markOf_24 : decode cX9_markOf 24 = .ok (.lload_n 0, 1) := by decide +kernel
theorem dX9_markOf_25 : decode cX9_markOf 25 = .ok (.ldc2_w 143, 3) := by decide +kernel
theorem dX9_markOf_28 : decode cX9_markOf 28 = .ok (.lcmp, 1) := by decide +kernel
theorem dX9_markOf_29 : decode cX9_markOf 29 = .ok (.ifCond .ne 7, 3) := by decide +kernel
theorem dX9_markOf_32 : decode cX9_markOf 32 = .ok (.iconst 2, 1) := by decide +kernel
theorem dX9_markOf_33 : decode cX9_markOf 33 = .ok (.goto 16, 3) := by decide +kernel
theorem dX9_markOf_36 : decode cX9_markOf 36 = .ok (.lload_n 0, 1) := by decide +kernel
theorem dX9_markOf_37 : decode cX9_markOf 37 = .ok (.ldc2_w 145, 3) := by decide +kernel
theorem dX9_markOf_40 : decode cX9_markOf 40 = .ok (.lcmp, 1) := by decide +kernel
theorem dX9_markOf_41 : decode cX9_markOf 41 = .ok (.ifCond .ne 7, 3) := by decide +kernel
theorem dX9_markOf_44 : decode cX9_markOf 44 = .ok (.iconst 3, 1) := by decide +kernel
theorem dX9_markOf_45 : decode cX9_markOf 45 = .ok (.goto 4, 3) := by decide +kernel
theorem dX9_markOf_48 : decode cX9_markOf 48 = .ok (.iconst (-1), 1) := by decide +kernel
theorem dX9_markOf_49 : decode cX9_markOf 49 = .ok (.ireturn, 1) := by decide +kernel
theorem dX9_leastOf_0 : decode cX9_leastOf 0 = .ok (.iload_n 0, 1) := by decide +kernel
theorem dX9_leastOf_1 : decode cX9_leastOf 1 = .ok (.iconst 3, 1) := by decide +kernel
theorem dX9_leastOf_2 : decode cX9_leastOf 2 = .ok (.if_icmp .ne 7, 3) := by decide +kernel
theorem dX9_leastOf_5 : decode cX9_leastOf 5 = .ok (.iconst 1, 1) := by decide +kernel
theorem dX9_leastOf_6 : decode cX9_leastOf 6 = .ok (.goto 14, 3) := by decide +kernel
theorem dX9_leastOf_9 : decode cX9_leastOf 9 = .ok (.iload_n 0, 1) := by decide +kernel
theorem dX9_leastOf_10 : decode cX9_leastOf 10 = .ok (.iconst 1, 1) := by decide +kernel
theorem dX9_leastOf_11 : decode cX9_leastOf 11 = .ok (.if_icmp .ne 8, 3) := by decide +kernel
theorem dX9_leastOf_14 : decode cX9_leastOf 14 = .ok (.bipush (-64), 2) := by decide +kernel
theorem dX9_leastOf_16 : decode cX9_leastOf 16 = .ok (.goto 4, 3) := by decide +kernel
theorem dX9_leastOf_19 : decode cX9_leastOf 19 = .ok (.iconst 0, 1) := by decide +kernel
theorem dX9_leastOf_20 : decode cX9_leastOf 20 = .ok (.ireturn, 1) := by decide +kernel
theorem dX9_mostOf_0 : decode cX9_mostOf 0 = .ok (.iload_n 0, 1) := by decide +kernel
theorem dX9_mostOf_1 : decode cX9_mostOf 1 = .ok (.iconst 1, 1) := by decide +kernel
theorem dX9_mostOf_2 : decode cX9_mostOf 2 = .ok (.if_icmp .ne 8, 3) := by decide +kernel
theorem dX9_mostOf_5 : decode cX9_mostOf 5 = .ok (.bipush 64, 2) := by decide +kernel
theorem dX9_mostOf_7 : decode cX9_mostOf 7 = .ok (.goto 27, 3) := by decide +kernel
theorem dX9_mostOf_10 : decode cX9_mostOf 10 = .ok (.iload_n 0, 1) := by decide +kernel
theorem dX9_mostOf_11 : decode cX9_mostOf 11 = .ok (.iconst 3, 1) := by decide +kernel
theorem dX9_mostOf_12 : decode cX9_mostOf 12 = .ok (.if_icmp .ne 9, 3) := by decide +kernel
theorem dX9_mostOf_15 : decode cX9_mostOf 15 = .ok (.sipush 200, 3) := by decide +kernel
theorem dX9_mostOf_18 : decode cX9_mostOf 18 = .ok (.goto 16, 3) := by decide +kernel
theorem dX9_mostOf_21 : decode cX9_mostOf 21 = .ok (.iload_n 0, 1) := by decide +kernel
theorem dX9_mostOf_22 : decode cX9_mostOf 22 = .ok (.iconst 4, 1) := by decide +kernel
theorem dX9_mostOf_23 : decode cX9_mostOf 23 = .ok (.if_icmp .ne 8, 3) := by decide +kernel
theorem dX9_mostOf_26 : decode cX9_mostOf 26 = .ok (.bipush 100, 2) := by decide +kernel
theorem dX9_mostOf_28 : decode cX9_mostOf 28 = .ok (.goto 6, 3) := by decide +kernel
theorem dX9_mostOf_31 : decode cX9_mostOf 31 = .ok (.sipush 9999, 3) := by decide +kernel
theorem dX9_mostOf_34 : decode cX9_mostOf 34 = .ok (.ireturn, 1) := by decide +kernel
set_option maxRecDepth 20000 in
theorem ggX9_markLine_X9_isBad : GoodIn wsX9_markLine wsX9_isBad := goodIn_r _ [8, 9, 10, 38, 39, 40, 41, 42, 43, 44, 45, 46, 47, 48, 49, 50, 51, 52, 53, 54, 55, 56, 57, 58, 59, 60, 61, 62, 63, 64, 65, 66] (by decide +kernel) (by decide +kernel)
set_option maxRecDepth 20000 in
theorem gX9_markLine_X9_isBad : GoodIn wsX9_markLine (wsV RX9 111 RX9 yX9_isBad wsX9_isBad) := goodIn_app (goodIn_of _ (by decide +kernel)) ggX9_markLine_X9_isBad
set_option maxRecDepth 20000 in
theorem ggX9_markLine_X9_token : GoodIn wsX9_markLine wsX9_token := goodIn_r _ [14, 15, 2, 16, 17, 18, 19, 20, 21, 22, 7, 23, 24, 25, 26, 27, 28, 38, 39, 40, 41, 42, 43, 44, 45, 46, 47, 48, 49, 50, 51, 52, 53, 54, 55, 56, 57, 58, 59, 60, 61, 62, 63, 64, 65, 66] (by decide +kernel) (by decide +kernel)
set_option maxRecDepth 20000 in
theorem gX9_markLine_X9_token : GoodIn wsX9_markLine (wsV RX9 115 RX9 yX9_token wsX9_token) := goodIn_app (goodIn_of _ (by decide +kernel)) ggX9_markLine_X9_token
set_option maxRecDepth 20000 in
theorem ggX9_markLine_X9_takes : GoodIn wsX9_markLine wsX9_takes := goodIn_r _ [32, 17, 19, 3, 2, 33, 34, 35, 7, 36, 37, 26, 27, 28, 4, 5, 6, 8, 9, 10, 11, 12, 13, 14, 15, 16, 18, 20, 21, 22, 23, 24, 25, 38, 39, 40, 41, 42, 43, 44, 45, 46, 47, 48, 49, 50, 51, 52, 53, 54, 55, 56, 57, 58, 59, 60, 61, 62, 63, 64, 65, 66] (by decide +kernel) (by decide +kernel)
set_option maxRecDepth 20000 in
theorem gX9_markLine_X9_takes : GoodIn wsX9_markLine (wsV RX9 121 RX9 yX9_takes wsX9_takes) := goodIn_app (goodIn_of _ (by decide +kernel)) ggX9_markLine_X9_takes
theorem dX9_markLine_0 : decode cX9_markLine 0 = .ok (.bipush 20, 2) := by decide +kernel
theorem dX9_markLine_2 : decode cX9_markLine 2 = .ok (.bipush 37, 2) := by decide +kernel
theorem dX9_markLine_4 : decode cX9_markLine 4 = .ok (.iload_n 1, 1) := by decide +kernel
theorem dX9_markLine_5 : decode cX9_markLine 5 = .ok (.imul, 1) := by decide +kernel
theorem dX9_markLine_6 : decode cX9_markLine 6 = .ok (.iadd, 1) := by decide +kernel
theorem dX9_markLine_7 : decode cX9_markLine 7 = .ok (.istore_n 3, 1) := by decide +kernel
theorem dX9_markLine_8 : decode cX9_markLine 8 = .ok (.aload_n 0, 1) := by decide +kernel
theorem dX9_markLine_9 : decode cX9_markLine 9 = .ok (.getfield 21, 3) := by decide +kernel
theorem dX9_markLine_12 : decode cX9_markLine 12 = .ok (.iload_n 3, 1) := by decide +kernel
theorem dX9_markLine_13 : decode cX9_markLine 13 = .ok (.bipush 6, 2) := by decide +kernel
theorem dX9_markLine_15 : decode cX9_markLine 15 = .ok (.iadd, 1) := by decide +kernel
theorem dX9_markLine_16 : decode cX9_markLine 16 = .ok (.iaload, 1) := by decide +kernel
theorem dX9_markLine_17 : decode cX9_markLine 17 = .ok (.bipush 10, 2) := by decide +kernel
theorem dX9_markLine_19 : decode cX9_markLine 19 = .ok (.if_icmp .ne 12, 3) := by decide +kernel
theorem dX9_markLine_22 : decode cX9_markLine 22 = .ok (.aload_n 0, 1) := by decide +kernel
theorem dX9_markLine_23 : decode cX9_markLine 23 = .ok (.iconst 4, 1) := by decide +kernel
theorem dX9_markLine_24 : decode cX9_markLine 24 = .ok (.aload_n 0, 1) := by decide +kernel
theorem dX9_markLine_25 : decode cX9_markLine 25 = .ok (.getfield 79, 3) := by decide +kernel
theorem dX9_markLine_28 : decode cX9_markLine 28 = .ok (.invokevirtual 111, 3) := by decide +kernel
theorem dX9_markLine_31 : decode cX9_markLine 31 = .ok (.aload_n 0, 1) := by decide +kernel
theorem dX9_markLine_32 : decode cX9_markLine 32 = .ok (.invokevirtual 115, 3) := by decide +kernel
theorem dX9_markLine_35 : decode cX9_markLine 35 = .ok (.aload_n 0, 1) := by decide +kernel
theorem dX9_markLine_36 : decode cX9_markLine 36 = .ok (.iconst 0, 1) := by decide +kernel
theorem dX9_markLine_37 : decode cX9_markLine 37 = .ok (.sipush 199, 3) := by decide +kernel
theorem dX9_markLine_40 : decode cX9_markLine 40 = .ok (.invokevirtual 121, 3) := by decide +kernel
theorem dX9_markLine_43 : decode cX9_markLine 43 = .ok (.ifCond .ne 5, 3) := by decide +kernel
theorem dX9_markLine_46 : decode cX9_markLine 46 = .ok (.iconst 0, 1) := by decide +kernel
theorem dX9_markLine_47 : decode cX9_markLine 47 = .ok (.ireturn, 1) := by decide +kernel
theorem dX9_markLine_48 : decode cX9_markLine 48 = .ok (.aload_n 0, 1) := by decide +kernel
theorem dX9_markLine_49 : decode cX9_markLine 49 = .ok (.getfield 108, 3) := by decide +kernel
theorem dX9_markLine_52 : decode cX9_markLine 52 = .ok (.istore 4, 2) := by decide +kernel
theorem dX9_markLine_54 : decode cX9_markLine 54 = .ok (.iload_n 2, 1) := by decide +kernel
theorem dX9_markLine_55 : decode cX9_markLine 55 = .ok (.iconst 3, 1) := by decide +kernel
theorem dX9_markLine_56 : decode cX9_markLine 56 = .ok (.if_icmp .ne 17, 3) := by decide +kernel
theorem dX9_markLine_59 : decode cX9_markLine 59 = .ok (.aload_n 0, 1) := by decide +kernel
theorem dX9_markLine_60 : decode cX9_markLine 60 = .ok (.iload 4, 2) := by decide +kernel
theorem dX9_markLine_62 : decode cX9_markLine 62 = .ok (.sipush 199, 3) := by decide +kernel
theorem dX9_markLine_65 : decode cX9_markLine 65 = .ok (.invokevirtual 121, 3) := by decide +kernel
theorem dX9_markLine_68 : decode cX9_markLine 68 = .ok (.ifCond .ne 5, 3) := by decide +kernel
theorem dX9_markLine_71 : decode cX9_markLine 71 = .ok (.iconst 0, 1) := by decide +kernel
theorem dX9_markLine_72 : decode cX9_markLine 72 = .ok (.ireturn, 1) := by decide +kernel
theorem dX9_markLine_73 : decode cX9_markLine 73 = .ok (.aload_n 0, 1) := by decide +kernel
theorem dX9_markLine_74 : decode cX9_markLine 74 = .ok (.getfield 21, 3) := by decide +kernel
theorem dX9_markLine_77 : decode cX9_markLine 77 = .ok (.iload_n 3, 1) := by decide +kernel
theorem dX9_markLine_78 : decode cX9_markLine 78 = .ok (.bipush 6, 2) := by decide +kernel
theorem dX9_markLine_80 : decode cX9_markLine 80 = .ok (.iadd, 1) := by decide +kernel
theorem dX9_markLine_81 : decode cX9_markLine 81 = .ok (.iaload, 1) := by decide +kernel
theorem dX9_markLine_82 : decode cX9_markLine 82 = .ok (.bipush 10, 2) := by decide +kernel
theorem dX9_markLine_84 : decode cX9_markLine 84 = .ok (.if_icmp .ge 76, 3) := by decide +kernel
theorem dX9_markLine_87 : decode cX9_markLine 87 = .ok (.iload_n 3, 1) := by decide +kernel
theorem dX9_markLine_88 : decode cX9_markLine 88 = .ok (.bipush 7, 2) := by decide +kernel
theorem dX9_markLine_90 : decode cX9_markLine 90 = .ok (.iadd, 1) := by decide +kernel
theorem dX9_markLine_91 : decode cX9_markLine 91 = .ok (.iconst 3, 1) := by decide +kernel
theorem dX9_markLine_92 : decode cX9_markLine 92 = .ok (.aload_n 0, 1) := by decide +kernel
theorem dX9_markLine_93 : decode cX9_markLine 93 = .ok (.getfield 21, 3) := by decide +kernel
theorem dX9_markLine_96 : decode cX9_markLine 96 = .ok (.iload_n 3, 1) := by decide +kernel
theorem dX9_markLine_97 : decode cX9_markLine 97 = .ok (.bipush 6, 2) := by decide +kernel
theorem dX9_markLine_99 : decode cX9_markLine 99 = .ok (.iadd, 1) := by decide +kernel
theorem dX9_markLine_100 : decode cX9_markLine 100 = .ok (.iaload, 1) := by decide +kernel
theorem dX9_markLine_101 : decode cX9_markLine 101 = .ok (.imul, 1) := by decide +kernel
theorem dX9_markLine_102 : decode cX9_markLine 102 = .ok (.iadd, 1) := by decide +kernel
theorem dX9_markLine_103 : decode cX9_markLine 103 = .ok (.istore 5, 2) := by decide +kernel
theorem dX9_markLine_105 : decode cX9_markLine 105 = .ok (.aload_n 0, 1) := by decide +kernel
theorem dX9_markLine_106 : decode cX9_markLine 106 = .ok (.getfield 21, 3) := by decide +kernel
theorem dX9_markLine_109 : decode cX9_markLine 109 = .ok (.iload 5, 2) := by decide +kernel
theorem dX9_markLine_111 : decode cX9_markLine 111 = .ok (.iload_n 2, 1) := by decide +kernel
theorem dX9_markLine_112 : decode cX9_markLine 112 = .ok (.iastore, 1) := by decide +kernel
theorem dX9_markLine_113 : decode cX9_markLine 113 = .ok (.aload_n 0, 1) := by decide +kernel
theorem dX9_markLine_114 : decode cX9_markLine 114 = .ok (.getfield 21, 3) := by decide +kernel
theorem dX9_markLine_117 : decode cX9_markLine 117 = .ok (.iload 5, 2) := by decide +kernel
theorem dX9_markLine_119 : decode cX9_markLine 119 = .ok (.iconst 1, 1) := by decide +kernel
theorem dX9_markLine_120 : decode cX9_markLine 120 = .ok (.iadd, 1) := by decide +kernel
theorem dX9_markLine_121 : decode cX9_markLine 121 = .ok (.iload 4, 2) := by decide +kernel
theorem dX9_markLine_123 : decode cX9_markLine 123 = .ok (.iastore, 1) := by decide +kernel
theorem dX9_markLine_124 : decode cX9_markLine 124 = .ok (.aload_n 0, 1) := by decide +kernel
theorem dX9_markLine_125 : decode cX9_markLine 125 = .ok (.getfield 21, 3) := by decide +kernel
theorem dX9_markLine_128 : decode cX9_markLine 128 = .ok (.iload 5, 2) := by decide +kernel
theorem dX9_markLine_130 : decode cX9_markLine 130 = .ok (.iconst 2, 1) := by decide +kernel
theorem dX9_markLine_131 : decode cX9_markLine 131 = .ok (.iadd, 1) := by decide +kernel
theorem dX9_markLine_132 : decode cX9_markLine 132 = .ok (.iload_n 2, 1) := by decide +kernel
theorem dX9_markLine_133 : decode cX9_markLine 133 = .ok (.iconst 3, 1) := by decide +kernel
theorem dX9_markLine_134 : decode cX9_markLine 134 = .ok (.if_icmp .ne 10, 3) := by decide +kernel
theorem dX9_markLine_137 : decode cX9_markLine 137 = .ok (.aload_n 0, 1) := by decide +kernel
theorem dX9_markLine_138 : decode cX9_markLine 138 = .ok (.getfield 108, 3) := by decide +kernel
theorem dX9_markLine_141 : decode cX9_markLine 141 = .ok (.goto 5, 3) := by decide +kernel
theorem dX9_markLine_144 : decode cX9_markLine 144 = .ok (.iload 4, 2) := by decide +kernel
theorem dX9_markLine_146 : decode cX9_markLine 146 = .ok (.iastore, 1) := by decide +kernel
theorem dX9_markLine_147 : decode cX9_markLine 147 = .ok (.aload_n 0, 1) := by decide +kernel
theorem dX9_markLine_148 : decode cX9_markLine 148 = .ok (.getfield 21, 3) := by decide +kernel
theorem dX9_markLine_151 : decode cX9_markLine 151 = .ok (.iload_n 3, 1) := by decide +kernel
theorem dX9_markLine_152 : decode cX9_markLine 152 = .ok (.bipush 6, 2) := by decide +kernel
theorem dX9_markLine_154 : decode cX9_markLine 154 = .ok (.iadd, 1) := by decide +kernel
theorem dX9_markLine_155 : decode cX9_markLine 155 = .ok (.dup2, 1) := by decide +kernel
theorem dX9_markLine_156 : decode cX9_markLine 156 = .ok (.iaload, 1) := by decide +kernel
theorem dX9_markLine_157 : decode cX9_markLine 157 = .ok (.iconst 1, 1) := by decide +kernel
theorem dX9_markLine_158 : decode cX9_markLine 158 = .ok (.iadd, 1) := by decide +kernel
theorem dX9_markLine_159 : decode cX9_markLine 159 = .ok (.iastore, 1) := by decide +kernel
theorem dX9_markLine_160 : decode cX9_markLine 160 = .ok (.iconst 1, 1) := by decide +kernel
theorem dX9_markLine_161 : decode cX9_markLine 161 = .ok (.ireturn, 1) := by decide +kernel
set_option maxRecDepth 20000 in
theorem ggX9_legLine_X9_token : GoodIn wsX9_legLine wsX9_token := goodIn_r _ [10, 11, 12, 2, 1, 13, 14, 15, 16, 17, 9, 18, 19, 20, 21, 22, 23, 65, 66, 67, 68, 69, 70, 71, 72, 73, 74, 75, 76, 77, 78, 79, 80, 81, 82, 83, 84, 85, 86, 87, 88, 89, 90, 91, 92, 93] (by decide +kernel) (by decide +kernel)
set_option maxRecDepth 20000 in
theorem gX9_legLine_X9_token : GoodIn wsX9_legLine (wsV RX9 115 RX9 yX9_token wsX9_token) := goodIn_app (goodIn_of _ (by decide +kernel)) ggX9_legLine_X9_token
set_option maxRecDepth 20000 in
theorem ggX9_legLine_X9_markOf : GoodIn wsX9_legLine wsX9_markOf := goodIn_r _ [26, 27, 28, 29, 30] (by decide +kernel) (by decide +kernel)
set_option maxRecDepth 20000 in
theorem gX9_legLine_X9_markOf : GoodIn wsX9_legLine (va_wsS RX9 147 yX9_markOf wsX9_markOf) := goodIn_app (goodIn_of _ (by decide +kernel)) ggX9_legLine_X9_markOf
set_option maxRecDepth 20000 in
theorem ggX9_legLine_X9_markLine : GoodIn wsX9_legLine wsX9_markLine := goodIn_r _ [34, 3, 12, 5, 35, 36, 37, 9, 38, 39, 40, 6, 7, 8, 10, 11, 2, 1, 13, 14, 15, 16, 17, 18, 19, 20, 21, 22, 23, 41, 42, 43, 44, 45, 46, 47, 48, 49, 65, 66, 67, 68, 69, 70, 71, 72, 73, 74, 75, 76, 77, 78, 79, 80, 81, 82, 83, 84, 85, 86, 87, 88, 89, 90, 91, 92, 93] (by decide +kernel) (by decide +kernel)
set_option maxRecDepth 20000 in
theorem gX9_legLine_X9_markLine : GoodIn wsX9_legLine (wsV RX9 151 RX9 yX9_markLine wsX9_markLine) := goodIn_app (goodIn_of _ (by decide +kernel)) ggX9_legLine_X9_markLine
set_option maxRecDepth 20000 in
theorem ggX9_legLine_X9_settingOf : GoodIn wsX9_legLine wsX9_settingOf := goodIn_r _ [52, 53, 54, 4, 55, 56, 57, 58] (by decide +kernel) (by decide +kernel)
set_option maxRecDepth 20000 in
theorem gX9_legLine_X9_settingOf : GoodIn wsX9_legLine (va_wsS RX9 154 yX9_settingOf wsX9_settingOf) := goodIn_app (goodIn_of _ (by decide +kernel)) ggX9_legLine_X9_settingOf
set_option maxRecDepth 20000 in
theorem ggX9_legLine_X9_fails : GoodIn wsX9_legLine wsX9_fails := goodIn_r _ [48, 12, 49, 65, 66, 67, 68, 69, 70, 71, 72, 73, 74, 75, 76, 77, 78, 79, 80, 81, 82, 83, 84, 85, 86, 87, 88, 89, 90, 91, 92, 93] (by decide +kernel) (by decide +kernel)
set_option maxRecDepth 20000 in
theorem gX9_legLine_X9_fails : GoodIn wsX9_legLine (wsV RX9 104 RX9 yX9_fails wsX9_fails) := goodIn_app (goodIn_of _ (by decide +kernel)) ggX9_legLine_X9_fails
set_option maxRecDepth 20000 in
theorem ggX9_legLine_X9_leastOf : GoodIn wsX9_legLine wsX9_leastOf := goodIn_r _ [61] (by decide +kernel) (by decide +kernel)
set_option maxRecDepth 20000 in
theorem gX9_legLine_X9_leastOf : GoodIn wsX9_legLine (va_wsS RX9 157 yX9_leastOf wsX9_leastOf) := goodIn_app (goodIn_of _ (by decide +kernel)) ggX9_legLine_X9_leastOf
set_option maxRecDepth 20000 in
theorem ggX9_legLine_X9_mostOf : GoodIn wsX9_legLine wsX9_mostOf := goodIn_r _ [64] (by decide +kernel) (by decide +kernel)
set_option maxRecDepth 20000 in
theorem gX9_legLine_X9_mostOf : GoodIn wsX9_legLine (va_wsS RX9 161 yX9_mostOf wsX9_mostOf) := goodIn_app (goodIn_of _ (by decide +kernel)) ggX9_legLine_X9_mostOf
set_option maxRecDepth 20000 in
theorem ggX9_legLine_X9_takes : GoodIn wsX9_legLine wsX9_takes := goodIn_r _ [44, 1, 14, 5, 12, 45, 46, 47, 9, 48, 49, 21, 22, 23, 35, 36, 37, 38, 39, 40, 6, 7, 8, 10, 11, 2, 13, 15, 16, 17, 18, 19, 20, 65, 66, 67, 68, 69, 70, 71, 72, 73, 74, 75, 76, 77, 78, 79, 80, 81, 82, 83, 84, 85, 86, 87, 88, 89, 90, 91, 92, 93] (by decide +kernel) (by decide +kernel)
set_option maxRecDepth 20000 in
theorem gX9_legLine_X9_takes : GoodIn wsX9_legLine (wsV RX9 121 RX9 yX9_takes wsX9_takes) := goodIn_app (goodIn_of _ (by decide +kernel)) ggX9_legLine_X9_takes
theorem dX9_legLine_0 : decode cX9_legLine 0 = .ok (.aload_n 0, 1) := by decide +kernel
theorem dX9_legLine_1 : decode cX9_legLine 1 = .ok (.invokevirtual 115, 3) := by decide +kernel
theorem dX9_legLine_4 : decode cX9_legLine 4 = .ok (.aload_n 0, 1) := by decide +kernel
theorem dX9_legLine_5 : decode cX9_legLine 5 = .ok (.getfield 86, 3) := by decide +kernel
theorem dX9_legLine_8 : decode cX9_legLine 8 = .ok (.iconst 2, 1) := by decide +kernel
theorem dX9_legLine_9 : decode cX9_legLine 9 = .ok (.if_icmp .ne 10, 3) := by decide +kernel
theorem dX9_legLine_12 : decode cX9_legLine 12 = .ok (.aload_n 0, 1) := by decide +kernel
theorem dX9_legLine_13 : decode cX9_legLine 13 = .ok (.getfield 82, 3) := by decide +kernel
theorem dX9_legLine_16 : decode cX9_legLine 16 = .ok (.goto 4, 3) := by decide +kernel
theorem dX9_legLine_19 : decode cX9_legLine 19 = .ok (.lconst 0, 1) := by decide +kernel
theorem dX9_legLine_20 : decode cX9_legLine 20 = .ok (.lstore_n 2, 1) := by decide +kernel
theorem dX9_legLine_21 : decode cX9_legLine 21 = .ok (.lload_n 2, 1) := by decide +kernel
theorem dX9_legLine_22 : decode cX9_legLine 22 = .ok (.invokestatic 147, 3) := by decide +kernel
theorem dX9_legLine_25 : decode cX9_legLine 25 = .ok (.iconst (-1), 1) := by decide +kernel
theorem dX9_legLine_26 : decode cX9_legLine 26 = .ok (.if_icmp .eq 13, 3) := by decide +kernel
theorem dX9_legLine_29 : decode cX9_legLine 29 = .ok (.aload_n 0, 1) := by decide +kernel
theorem dX9_legLine_30 : decode cX9_legLine 30 = .ok (.iload_n 1, 1) := by decide +kernel
theorem dX9_legLine_31 : decode cX9_legLine 31 = .ok (.lload_n 2, 1) := by decide +kernel
theorem dX9_legLine_32 : decode cX9_legLine 32 = .ok (.invokestatic 147, 3) := by decide +kernel
theorem dX9_legLine_35 : decode cX9_legLine 35 = .ok (.invokevirtual 151, 3) := by decide +kernel
theorem dX9_legLine_38 : decode cX9_legLine 38 = .ok (.ireturn, 1) := by decide +kernel
theorem dX9_legLine_39 : decode cX9_legLine 39 = .ok (.lload_n 2, 1) := by decide +kernel
theorem dX9_legLine_40 : decode cX9_legLine 40 = .ok (.invokestatic 154, 3) := by decide +kernel
theorem dX9_legLine_43 : decode cX9_legLine 43 = .ok (.istore 4, 2) := by decide +kernel
theorem dX9_legLine_45 : decode cX9_legLine 45 = .ok (.iload 4, 2) := by decide +kernel
theorem dX9_legLine_47 : decode cX9_legLine 47 = .ok (.iconst (-1), 1) := by decide +kernel
theorem dX9_legLine_48 : decode cX9_legLine 48 = .ok (.if_icmp .ne 8, 3) := by decide +kernel
theorem dX9_legLine_51 : decode cX9_legLine 51 = .ok (.aload_n 0, 1) := by decide +kernel
theorem dX9_legLine_52 : decode cX9_legLine 52 = .ok (.invokevirtual 104, 3) := by decide +kernel
theorem dX9_legLine_55 : decode cX9_legLine 55 = .ok (.ireturn, 1) := by decide +kernel
theorem dX9_legLine_56 : decode cX9_legLine 56 = .ok (.aload_n 0, 1) := by decide +kernel
theorem dX9_legLine_57 : decode cX9_legLine 57 = .ok (.invokevirtual 115, 3) := by decide +kernel
theorem dX9_legLine_60 : decode cX9_legLine 60 = .ok (.aload_n 0, 1) := by decide +kernel
theorem dX9_legLine_61 : decode cX9_legLine 61 = .ok (.iload 4, 2) := by decide +kernel
theorem dX9_legLine_63 : decode cX9_legLine 63 = .ok (.iconst 1, 1) := by decide +kernel
theorem dX9_legLine_64 : decode cX9_legLine 64 = .ok (.if_icmp .ne 7, 3) := by decide +kernel
theorem dX9_legLine_67 : decode cX9_legLine 67 = .ok (.iconst 0, 1) := by decide +kernel
theorem dX9_legLine_68 : decode cX9_legLine 68 = .ok (.goto 8, 3) := by decide +kernel
theorem dX9_legLine_71 : decode cX9_legLine 71 = .ok (.iload 4, 2) := by decide +kernel
theorem dX9_legLine_73 : decode cX9_legLine 73 = .ok (.invokestatic 157, 3) := by decide +kernel
theorem dX9_legLine_76 : decode cX9_legLine 76 = .ok (.iload 4, 2) := by decide +kernel
theorem dX9_legLine_78 : decode cX9_legLine 78 = .ok (.invokestatic 161, 3) := by decide +kernel
theorem dX9_legLine_81 : decode cX9_legLine 81 = .ok (.invokevirtual 121, 3) := by decide +kernel
theorem dX9_legLine_84 : decode cX9_legLine 84 = .ok (.ifCond .ne 5, 3) := by decide +kernel
theorem dX9_legLine_87 : decode cX9_legLine 87 = .ok (.iconst 0, 1) := by decide +kernel
theorem dX9_legLine_88 : decode cX9_legLine 88 = .ok (.ireturn, 1) := by decide +kernel
theorem dX9_legLine_89 : decode cX9_legLine 89 = .ok (.aload_n 0, 1) := by decide +kernel
theorem dX9_legLine_90 : decode cX9_legLine 90 = .ok (.getfield 21, 3) := by decide +kernel
theorem dX9_legLine_93 : decode cX9_legLine 93 = .ok (.bipush 20, 2) := by decide +kernel
theorem dX9_legLine_95 : decode cX9_legLine 95 = .ok (.bipush 37, 2) := by decide +kernel
theorem dX9_legLine_97 : decode cX9_legLine 97 = .ok (.iload_n 1, 1) := by decide +kernel
theorem dX9_legLine_98 : decode cX9_legLine 98 = .ok (.imul, 1) := by decide +kernel
theorem dX9_legLine_99 : decode cX9_legLine 99 = .ok (.iadd, 1) := by decide +kernel
theorem dX9_legLine_100 : decode cX9_legLine 100 = .ok (.iload 4, 2) := by decide +kernel
theorem dX9_legLine_102 : decode cX9_legLine 102 = .ok (.iadd, 1) := by decide +kernel
theorem dX9_legLine_103 : decode cX9_legLine 103 = .ok (.lload_n 2, 1) := by decide +kernel
theorem dX9_legLine_104 : decode cX9_legLine 104 = .ok (.ldc2_w 129, 3) := by decide +kernel
theorem dX9_legLine_107 : decode cX9_legLine 107 = .ok (.lcmp, 1) := by decide +kernel
theorem dX9_legLine_108 : decode cX9_legLine 108 = .ok (.ifCond .ne 11, 3) := by decide +kernel
theorem dX9_legLine_111 : decode cX9_legLine 111 = .ok (.aload_n 0, 1) := by decide +kernel
theorem dX9_legLine_112 : decode cX9_legLine 112 = .ok (.getfield 108, 3) := by decide +kernel
theorem dX9_legLine_115 : decode cX9_legLine 115 = .ok (.ineg, 1) := by decide +kernel
theorem dX9_legLine_116 : decode cX9_legLine 116 = .ok (.goto 7, 3) := by decide +kernel
theorem dX9_legLine_119 : decode cX9_legLine 119 = .ok (.aload_n 0, 1) := by decide +kernel
theorem dX9_legLine_120 : decode cX9_legLine 120 = .ok (.getfield 108, 3) := by decide +kernel
theorem dX9_legLine_123 : decode cX9_legLine 123 = .ok (.iastore, 1) := by decide +kernel
theorem dX9_legLine_124 : decode cX9_legLine 124 = .ok (.iconst 1, 1) := by decide +kernel
theorem dX9_legLine_125 : decode cX9_legLine 125 = .ok (.ireturn, 1) := by decide +kernel
set_option maxRecDepth 20000 in
theorem ggX9_line_X9_partLine : GoodIn wsX9_line wsX9_partLine := goodIn_r _ [13, 7, 14, 1, 15, 8, 16, 17, 18, 12, 19, 20, 21, 22, 23, 24, 25, 26, 2, 27, 28, 29, 30, 31, 32, 33, 34, 35, 36, 37, 38, 39, 40, 41, 42, 43, 44, 45, 46, 47, 48, 49, 81, 82, 83, 84, 85, 86, 87, 88, 89, 90, 91, 92, 93, 94, 95, 96, 97, 98, 99, 100, 101, 102, 103, 104, 105, 106, 107, 108, 109] (by decide +kernel) (by decide +kernel)
set_option maxRecDepth 20000 in
theorem gX9_line_X9_partLine : GoodIn wsX9_line (wsV RX9 166 RX9 yX9_partLine wsX9_partLine) := goodIn_app (goodIn_of _ (by decide +kernel)) ggX9_line_X9_partLine
set_option maxRecDepth 20000 in
theorem ggX9_line_X9_legLine : GoodIn wsX9_line wsX9_legLine := goodIn_r _ [53, 1, 2, 7, 54, 8, 22, 23, 24, 12, 25, 26, 14, 15, 27, 28, 29, 30, 31, 32, 33, 34, 35, 36, 55, 56, 57, 58, 59, 60, 61, 62, 63, 64, 65, 16, 17, 18, 19, 20, 21, 46, 47, 48, 49, 41, 42, 43, 44, 45, 66, 67, 68, 69, 70, 71, 72, 73, 74, 75, 76, 77, 78, 79, 80, 81, 82, 83, 84, 85, 86, 87, 88, 89, 90, 91, 92, 93, 94, 95, 96, 97, 98, 99, 100, 101, 102, 103, 104, 105, 106, 107, 108, 109] (by decide +kernel) (by decide +kernel)
set_option maxRecDepth 20000 in
theorem gX9_line_X9_legLine : GoodIn wsX9_line (wsV RX9 173 RX9 yX9_legLine wsX9_legLine) := goodIn_app (goodIn_of _ (by decide +kernel)) ggX9_line_X9_legLine
set_option maxRecDepth 20000 in
theorem ggX9_line_X9_fails : GoodIn wsX9_line wsX9_fails := goodIn_r _ [44, 14, 45, 81, 82, 83, 84, 85, 86, 87, 88, 89, 90, 91, 92, 93, 94, 95, 96, 97, 98, 99, 100, 101, 102, 103, 104, 105, 106, 107, 108, 109] (by decide +kernel) (by decide +kernel)
set_option maxRecDepth 20000 in
theorem gX9_line_X9_fails : GoodIn wsX9_line (wsV RX9 104 RX9 yX9_fails wsX9_fails) := goodIn_app (goodIn_of _ (by decide +kernel)) ggX9_line_X9_fails
set_option maxRecDepth 20000 in
theorem ggX9_line_X9_token : GoodIn wsX9_line wsX9_token := goodIn_r _ [25, 26, 14, 2, 1, 15, 27, 28, 29, 30, 12, 31, 32, 33, 34, 35, 36, 81, 82, 83, 84, 85, 86, 87, 88, 89, 90, 91, 92, 93, 94, 95, 96, 97, 98, 99, 100, 101, 102, 103, 104, 105, 106, 107, 108, 109] (by decide +kernel) (by decide +kernel)
set_option maxRecDepth 20000 in
theorem gX9_line_X9_token : GoodIn wsX9_line (wsV RX9 115 RX9 yX9_token wsX9_token) := goodIn_app (goodIn_of _ (by decide +kernel)) ggX9_line_X9_token
set_option maxRecDepth 20000 in
theorem ggX9_line_X9_takes : GoodIn wsX9_line wsX9_takes := goodIn_r _ [49, 1, 27, 8, 14, 41, 42, 43, 12, 44, 45, 34, 35, 36, 16, 17, 18, 19, 20, 21, 22, 23, 24, 25, 26, 2, 15, 28, 29, 30, 31, 32, 33, 81, 82, 83, 84, 85, 86, 87, 88, 89, 90, 91, 92, 93, 94, 95, 96, 97, 98, 99, 100, 101, 102, 103, 104, 105, 106, 107, 108, 109] (by decide +kernel) (by decide +kernel)
set_option maxRecDepth 20000 in
theorem gX9_line_X9_takes : GoodIn wsX9_line (wsV RX9 121 RX9 yX9_takes wsX9_takes) := goodIn_app (goodIn_of _ (by decide +kernel)) ggX9_line_X9_takes
theorem dX9_line_0 : decode cX9_line 0 = .ok (.aload_n 0, 1) := by decide +kernel
theorem dX9_line_1 : decode cX9_line 1 = .ok (.getfield 86, 3) := by decide +kernel
theorem dX9_line_4 : decode cX9_line 4 = .ok (.iconst 2, 1) := by decide +kernel
theorem dX9_line_5 : decode cX9_line 5 = .ok (.if_icmp .ne 10, 3) := by decide +kernel
theorem dX9_line_8 : decode cX9_line 8 = .ok (.aload_n 0, 1) := by decide +kernel
theorem dX9_line_9 : decode cX9_line 9 = .ok (.getfield 82, 3) := by decide +kernel
theorem dX9_line_12 : decode cX9_line 12 = .ok (.goto 4, 3) := by decide +kernel
theorem dX9_line_15 : decode cX9_line 15 = .ok (.lconst 0, 1) := by decide +kernel
theorem dX9_line_16 : decode cX9_line 16 = .ok (.lstore_n 1, 1) := by decide +kernel
theorem dX9_line_17 : decode cX9_line 17 = .ok (.lload_n 1, 1) := by decide +kernel
theorem dX9_line_18 : decode cX9_line 18 = .ok (.ldc2_w 164, 3) := by decide +kernel
theorem dX9_line_21 : decode cX9_line 21 = .ok (.lcmp, 1) := by decide +kernel
theorem dX9_line_22 : decode cX9_line 22 = .ok (.ifCond .ne 8, 3) := by decide +kernel
theorem dX9_line_25 : decode cX9_line 25 = .ok (.aload_n 0, 1) := by decide +kernel
theorem dX9_line_26 : decode cX9_line 26 = .ok (.invokevirtual 166, 3) := by decide +kernel
theorem dX9_line_29 : decode cX9_line 29 = .ok (.ireturn, 1) := by decide +kernel
theorem dX9_line_30 : decode cX9_line 30 = .ok (.lload_n 1, 1) := by decide +kernel
theorem dX9_line_31 : decode cX9_line 31 = .ok (.ldc2_w 169, 3) := by decide +kernel
theorem dX9_line_34 : decode cX9_line 34 = .ok (.lcmp, 1) := by decide +kernel
theorem dX9_line_35 : decode cX9_line 35 = .ok (.ifCond .eq 11, 3) := by decide +kernel
theorem dX9_line_38 : decode cX9_line 38 = .ok (.lload_n 1, 1) := by decide +kernel
theorem dX9_line_39 : decode cX9_line 39 = .ok (.ldc2_w 171, 3) := by decide +kernel
theorem dX9_line_42 : decode cX9_line 42 = .ok (.lcmp, 1) := by decide +kernel
theorem dX9_line_43 : decode cX9_line 43 = .ok (.ifCond .ne 21, 3) := by decide +kernel
theorem dX9_line_46 : decode cX9_line 46 = .ok (.aload_n 0, 1) := by decide +kernel
theorem dX9_line_47 : decode cX9_line 47 = .ok (.lload_n 1, 1) := by decide +kernel
theorem dX9_line_48 : decode cX9_line 48 = .ok (.ldc2_w 169, 3) := by decide +kernel
theorem dX9_line_51 : decode cX9_line 51 = .ok (.lcmp, 1) := by decide +kernel
theorem dX9_line_52 : decode cX9_line 52 = .ok (.ifCond .ne 7, 3) := by decide +kernel
theorem dX9_line_55 : decode cX9_line 55 = .ok (.iconst 0, 1) := by decide +kernel
theorem dX9_line_56 : decode cX9_line 56 = .ok (.goto 4, 3) := by decide +kernel
theorem dX9_line_59 : decode cX9_line 59 = .ok (.iconst 1, 1) := by decide +kernel
theorem dX9_line_60 : decode cX9_line 60 = .ok (.invokevirtual 173, 3) := by decide +kernel
theorem dX9_line_63 : decode cX9_line 63 = .ok (.ireturn, 1) := by decide +kernel
theorem dX9_line_64 : decode cX9_line 64 = .ok (.lload_n 1, 1) := by decide +kernel
theorem dX9_line_65 : decode cX9_line 65 = .ok (.ldc2_w 177, 3) := by decide +kernel
theorem dX9_line_68 : decode cX9_line 68 = .ok (.lcmp, 1) := by decide +kernel
theorem dX9_line_69 : decode cX9_line 69 = .ok (.ifCond .eq 8, 3) := by decide +kernel
theorem dX9_line_72 : decode cX9_line 72 = .ok (.aload_n 0, 1) := by decide +kernel
theorem dX9_line_73 : decode cX9_line 73 = .ok (.invokevirtual 104, 3) := by decide +kernel
theorem dX9_line_76 : decode cX9_line 76 = .ok (.ireturn, 1) := by decide +kernel
theorem dX9_line_77 : decode cX9_line 77 = .ok (.aload_n 0, 1) := by decide +kernel
theorem dX9_line_78 : decode cX9_line 78 = .ok (.invokevirtual 115, 3) := by decide +kernel
theorem dX9_line_81 : decode cX9_line 81 = .ok (.aload_n 0, 1) := by decide +kernel
theorem dX9_line_82 : decode cX9_line 82 = .ok (.iconst 1, 1) := by decide +kernel
theorem dX9_line_83 : decode cX9_line 83 = .ok (.sipush 9999, 3) := by decide +kernel
theorem dX9_line_86 : decode cX9_line 86 = .ok (.invokevirtual 121, 3) := by decide +kernel
theorem dX9_line_89 : decode cX9_line 89 = .ok (.istore_n 3, 1) := by decide +kernel
theorem dX9_line_90 : decode cX9_line 90 = .ok (.aload_n 0, 1) := by decide +kernel
theorem dX9_line_91 : decode cX9_line 91 = .ok (.getfield 21, 3) := by decide +kernel
theorem dX9_line_94 : decode cX9_line 94 = .ok (.iconst 1, 1) := by decide +kernel
theorem dX9_line_95 : decode cX9_line 95 = .ok (.aload_n 0, 1) := by decide +kernel
theorem dX9_line_96 : decode cX9_line 96 = .ok (.getfield 108, 3) := by decide +kernel
theorem dX9_line_99 : decode cX9_line 99 = .ok (.iastore, 1) := by decide +kernel
theorem dX9_line_100 : decode cX9_line 100 = .ok (.iload_n 3, 1) := by decide +kernel
theorem dX9_line_101 : decode cX9_line 101 = .ok (.ireturn, 1) := by decide +kernel
theorem dX9_atFirst_0 : decode cX9_atFirst 0 = .ok (.iconst 0, 1) := by decide +kernel
theorem dX9_atFirst_1 : decode cX9_atFirst 1 = .ok (.istore_n 1, 1) := by decide +kernel
theorem dX9_atFirst_2 : decode cX9_atFirst 2 = .ok (.iload_n 1, 1) := by decide +kernel
theorem dX9_atFirst_3 : decode cX9_atFirst 3 = .ok (.bipush 94, 2) := by decide +kernel
theorem dX9_atFirst_5 : decode cX9_atFirst 5 = .ok (.if_icmp .ge 16, 3) := by decide +kernel
theorem dX9_atFirst_8 : decode cX9_atFirst 8 = .ok (.aload_n 0, 1) := by decide +kernel
theorem dX9_atFirst_9 : decode cX9_atFirst 9 = .ok (.getfield 21, 3) := by decide +kernel
theorem dX9_atFirst_12 : decode cX9_atFirst 12 = .ok (.iload_n 1, 1) := by decide +kernel
theorem dX9_atFirst_13 : decode cX9_atFirst 13 = .ok (.iconst 0, 1) := by decide +kernel
theorem dX9_atFirst_14 : decode cX9_atFirst 14 = .ok (.iastore, 1) := by decide +kernel
theorem dX9_atFirst_15 : decode cX9_atFirst 15 = .ok (.iinc 1 1, 3) := by decide +kernel
theorem dX9_atFirst_18 : decode cX9_atFirst 18 = .ok (.goto (-16), 3) := by decide +kernel
theorem dX9_atFirst_21 : decode cX9_atFirst 21 = .ok (.aload_n 0, 1) := by decide +kernel
theorem dX9_atFirst_22 : decode cX9_atFirst 22 = .ok (.getfield 21, 3) := by decide +kernel
theorem dX9_atFirst_25 : decode cX9_atFirst 25 = .ok (.iconst 1, 1) := by decide +kernel
theorem dX9_atFirst_26 : decode cX9_atFirst 26 = .ok (.sipush 1000, 3) := by decide +kernel
theorem dX9_atFirst_29 : decode cX9_atFirst 29 = .ok (.iastore, 1) := by decide +kernel
theorem dX9_atFirst_30 : decode cX9_atFirst 30 = .ok (.iconst 0, 1) := by decide +kernel
theorem dX9_atFirst_31 : decode cX9_atFirst 31 = .ok (.istore_n 1, 1) := by decide +kernel
theorem dX9_atFirst_32 : decode cX9_atFirst 32 = .ok (.iload_n 1, 1) := by decide +kernel
theorem dX9_atFirst_33 : decode cX9_atFirst 33 = .ok (.iconst 2, 1) := by decide +kernel
theorem dX9_atFirst_34 : decode cX9_atFirst 34 = .ok (.if_icmp .ge 25, 3) := by decide +kernel
theorem dX9_atFirst_37 : decode cX9_atFirst 37 = .ok (.aload_n 0, 1) := by decide +kernel
theorem dX9_atFirst_38 : decode cX9_atFirst 38 = .ok (.getfield 21, 3) := by decide +kernel
theorem dX9_atFirst_41 : decode cX9_atFirst 41 = .ok (.bipush 20, 2) := by decide +kernel
theorem dX9_atFirst_43 : decode cX9_atFirst 43 = .ok (.bipush 37, 2) := by decide +kernel
theorem dX9_atFirst_45 : decode cX9_atFirst 45 = .ok (.iload_n 1, 1) := by decide +kernel
theorem dX9_atFirst_46 : decode cX9_atFirst 46 = .ok (.imul, 1) := by decide +kernel
theorem dX9_atFirst_47 : decode cX9_atFirst 47 = .ok (.iadd, 1) := by decide +kernel
theorem dX9_atFirst_48 : decode cX9_atFirst 48 = .ok (.iconst 3, 1) := by decide +kernel
theorem dX9_atFirst_49 : decode cX9_atFirst 49 = .ok (.iadd, 1) := by decide +kernel
theorem dX9_atFirst_50 : decode cX9_atFirst 50 = .ok (.bipush 40, 2) := by decide +kernel
theorem dX9_atFirst_52 : decode cX9_atFirst 52 = .ok (.iastore, 1) := by decide +kernel
theorem dX9_atFirst_53 : decode cX9_atFirst 53 = .ok (.iinc 1 1, 3) := by decide +kernel
theorem dX9_atFirst_56 : decode cX9_atFirst 56 = .ok (.goto (-24), 3) := by decide +kernel
theorem dX9_atFirst_59 : decode cX9_atFirst 59 = .ok (.aload_n 0, 1) := by decide +kernel
theorem dX9_atFirst_60 : decode cX9_atFirst 60 = .ok (.iconst 0, 1) := by decide +kernel
theorem dX9_atFirst_61 : decode cX9_atFirst 61 = .ok (.putfield 98, 3) := by decide +kernel
theorem dX9_atFirst_64 : decode cX9_atFirst 64 = .ok (.aload_n 0, 1) := by decide +kernel
theorem dX9_atFirst_65 : decode cX9_atFirst 65 = .ok (.iconst (-1), 1) := by decide +kernel
theorem dX9_atFirst_66 : decode cX9_atFirst 66 = .ok (.putfield 101, 3) := by decide +kernel
theorem dX9_atFirst_69 : decode cX9_atFirst 69 = .ok (.aload_n 0, 1) := by decide +kernel
theorem dX9_atFirst_70 : decode cX9_atFirst 70 = .ok (.iconst 0, 1) := by decide +kernel
theorem dX9_atFirst_71 : decode cX9_atFirst 71 = .ok (.putfield 69, 3) := by decide +kernel
theorem dX9_atFirst_74 : decode cX9_atFirst 74 = .ok (.return_, 1) := by decide +kernel
theorem dX9_taken_0 : decode cX9_taken 0 = .ok (.aload_n 0, 1) := by decide +kernel
theorem dX9_taken_1 : decode cX9_taken 1 = .ok (.getfield 7, 3) := by decide +kernel
theorem dX9_taken_4 : decode cX9_taken 4 = .ok (.iconst 0, 1) := by decide +kernel
theorem dX9_taken_5 : decode cX9_taken 5 = .ok (.aload_n 0, 1) := by decide +kernel
theorem dX9_taken_6 : decode cX9_taken 6 = .ok (.getfield 21, 3) := by decide +kernel
theorem dX9_taken_9 : decode cX9_taken 9 = .ok (.iconst 0, 1) := by decide +kernel
theorem dX9_taken_10 : decode cX9_taken 10 = .ok (.iaload, 1) := by decide +kernel
theorem dX9_taken_11 : decode cX9_taken 11 = .ok (.iastore, 1) := by decide +kernel
theorem dX9_taken_12 : decode cX9_taken 12 = .ok (.aload_n 0, 1) := by decide +kernel
theorem dX9_taken_13 : decode cX9_taken 13 = .ok (.getfield 7, 3) := by decide +kernel
theorem dX9_taken_16 : decode cX9_taken 16 = .ok (.iconst 1, 1) := by decide +kernel
theorem dX9_taken_17 : decode cX9_taken 17 = .ok (.aload_n 0, 1) := by decide +kernel
theorem dX9_taken_18 : decode cX9_taken 18 = .ok (.getfield 21, 3) := by decide +kernel
theorem dX9_taken_21 : decode cX9_taken 21 = .ok (.iconst 1, 1) := by decide +kernel
theorem dX9_taken_22 : decode cX9_taken 22 = .ok (.iaload, 1) := by decide +kernel
theorem dX9_taken_23 : decode cX9_taken 23 = .ok (.iastore, 1) := by decide +kernel
theorem dX9_taken_24 : decode cX9_taken 24 = .ok (.iconst 5, 1) := by decide +kernel
theorem dX9_taken_25 : decode cX9_taken 25 = .ok (.istore_n 1, 1) := by decide +kernel
theorem dX9_taken_26 : decode cX9_taken 26 = .ok (.iload_n 1, 1) := by decide +kernel
theorem dX9_taken_27 : decode cX9_taken 27 = .ok (.bipush 94, 2) := by decide +kernel
theorem dX9_taken_29 : decode cX9_taken 29 = .ok (.if_icmp .ge 21, 3) := by decide +kernel
theorem dX9_taken_32 : decode cX9_taken 32 = .ok (.aload_n 0, 1) := by decide +kernel
theorem dX9_taken_33 : decode cX9_taken 33 = .ok (.getfield 7, 3) := by decide +kernel
theorem dX9_taken_36 : decode cX9_taken 36 = .ok (.iload_n 1, 1) := by decide +kernel
theorem dX9_taken_37 : decode cX9_taken 37 = .ok (.aload_n 0, 1) := by decide +kernel
theorem dX9_taken_38 : decode cX9_taken 38 = .ok (.getfield 21, 3) := by decide +kernel
theorem dX9_taken_41 : decode cX9_taken 41 = .ok (.iload_n 1, 1) := by decide +kernel
theorem dX9_taken_42 : decode cX9_taken 42 = .ok (.iaload, 1) := by decide +kernel
theorem dX9_taken_43 : decode cX9_taken 43 = .ok (.iastore, 1) := by decide +kernel
theorem dX9_taken_44 : decode cX9_taken 44 = .ok (.iinc 1 1, 3) := by decide +kernel
theorem dX9_taken_47 : decode cX9_taken 47 = .ok (.goto (-21), 3) := by decide +kernel
theorem dX9_taken_50 : decode cX9_taken 50 = .ok (.return_, 1) := by decide +kernel
set_option maxRecDepth 20000 in
theorem ggX9_tune_X9_atFirst : GoodIn wsX9_tune wsX9_atFirst := goodIn_r _ [12, 13, 5, 6, 14, 95, 96, 97, 98, 99, 100, 101, 102, 103, 104, 105, 106, 107, 108, 109, 110, 111, 112, 113, 114, 115, 116, 117, 118, 119, 120, 121, 122, 123] (by decide +kernel) (by decide +kernel)
set_option maxRecDepth 20000 in
theorem gX9_tune_X9_atFirst : GoodIn wsX9_tune (wsV RX9 45 RX9 yX9_atFirst wsX9_atFirst) := goodIn_app (goodIn_of _ (by decide +kernel)) ggX9_tune_X9_atFirst
set_option maxRecDepth 20000 in
theorem ggX9_tune_X9_token : GoodIn wsX9_tune wsX9_token := goodIn_r _ [18, 14, 19, 20, 4, 21, 22, 23, 24, 25, 11, 26, 3, 27, 28, 29, 30, 95, 96, 97, 98, 99, 100, 101, 102, 103, 104, 105, 106, 107, 108, 109, 110, 111, 112, 113, 114, 115, 116, 117, 118, 119, 120, 121, 122, 123] (by decide +kernel) (by decide +kernel)
set_option maxRecDepth 20000 in
theorem gX9_tune_X9_token : GoodIn wsX9_tune (wsV RX9 115 RX9 yX9_token wsX9_token) := goodIn_app (goodIn_of _ (by decide +kernel)) ggX9_tune_X9_token
set_option maxRecDepth 20000 in
theorem ggX9_tune_X9_line : GoodIn wsX9_tune wsX9_line := goodIn_r _ [34, 4, 20, 35, 36, 37, 38, 13, 39, 40, 41, 42, 11, 43, 19, 21, 44, 45, 46, 47, 5, 6, 15, 16, 17, 18, 14, 22, 23, 24, 25, 26, 3, 27, 28, 29, 30, 48, 49, 50, 51, 52, 53, 54, 55, 7, 56, 57, 58, 59, 60, 61, 62, 63, 64, 65, 66, 67, 68, 69, 70, 71, 72, 73, 74, 75, 76, 77, 78, 79, 80, 81, 82, 83, 84, 85, 86, 87, 88, 89, 90, 95, 96, 97, 98, 99, 100, 101, 102, 103, 104, 105, 106, 107, 108, 109, 110, 111, 112, 113, 114, 115, 116, 117, 118, 119, 120, 121, 122, 123] (by decide +kernel) (by decide +kernel)
set_option maxRecDepth 20000 in
theorem gX9_tune_X9_line : GoodIn wsX9_tune (wsV RX9 179 RX9 yX9_line wsX9_line) := goodIn_app (goodIn_of _ (by decide +kernel)) ggX9_tune_X9_line
set_option maxRecDepth 20000 in
theorem ggX9_tune_X9_fails : GoodIn wsX9_tune wsX9_fails := goodIn_r _ [55, 19, 7, 95, 96, 97, 98, 99, 100, 101, 102, 103, 104, 105, 106, 107, 108, 109, 110, 111, 112, 113, 114, 115, 116, 117, 118, 119, 120, 121, 122, 123] (by decide +kernel) (by decide +kernel)
set_option maxRecDepth 20000 in
theorem gX9_tune_X9_fails : GoodIn wsX9_tune (wsV RX9 104 RX9 yX9_fails wsX9_fails) := goodIn_app (goodIn_of _ (by decide +kernel)) ggX9_tune_X9_fails
set_option maxRecDepth 20000 in
theorem ggX9_tune_X9_taken : GoodIn wsX9_tune wsX9_taken := goodIn_r _ [94, 2, 13, 95, 96, 97, 98, 99, 100, 101, 102, 103, 104, 105, 106, 107, 108, 109, 110, 111, 112, 113, 114, 115, 116, 117, 118, 119, 120, 121, 122, 123] (by decide +kernel) (by decide +kernel)
set_option maxRecDepth 20000 in
theorem gX9_tune_X9_taken : GoodIn wsX9_tune (wsV RX9 48 RX9 yX9_taken wsX9_taken) := goodIn_app (goodIn_of _ (by decide +kernel)) ggX9_tune_X9_taken
theorem dX9_tune_0 : decode cX9_tune 0 = .ok (.aload_n 0, 1) := by decide +kernel
theorem dX9_tune_1 : decode cX9_tune 1 = .ok (.iconst 0, 1) := by decide +kernel
theorem dX9_tune_2 : decode cX9_tune 2 = .ok (.putfield 51, 3) := by decide +kernel
theorem dX9_tune_5 : decode cX9_tune 5 = .ok (.aload_n 0, 1) := by decide +kernel
theorem dX9_tune_6 : decode cX9_tune 6 = .ok (.aload_n 0, 1) := by decide +kernel
theorem dX9_tune_7 : decode cX9_tune 7 = .ok (.getfield 7, 3) := by decide +kernel
theorem dX9_tune_10 : decode cX9_tune 10 = .ok (.iconst 2, 1) := by decide +kernel
theorem dX9_tune_11 : decode cX9_tune 11 = .ok (.iaload, 1) := by decide +kernel
theorem dX9_tune_12 : decode cX9_tune 12 = .ok (.putfield 72, 3) := by decide +kernel
theorem dX9_tune_15 : decode cX9_tune 15 = .ok (.aload_n 0, 1) := by decide +kernel
theorem dX9_tune_16 : decode cX9_tune 16 = .ok (.getfield 7, 3) := by decide +kernel
theorem dX9_tune_19 : decode cX9_tune 19 = .ok (.iconst 2, 1) := by decide +kernel
theorem dX9_tune_20 : decode cX9_tune 20 = .ok (.iconst 0, 1) := by decide +kernel
theorem dX9_tune_21 : decode cX9_tune 21 = .ok (.iastore, 1) := by decide +kernel
theorem dX9_tune_22 : decode cX9_tune 22 = .ok (.aload_n 0, 1) := by decide +kernel
theorem dX9_tune_23 : decode cX9_tune 23 = .ok (.invokevirtual 45, 3) := by decide +kernel
theorem dX9_tune_26 : decode cX9_tune 26 = .ok (.aload_n 0, 1) := by decide +kernel
theorem dX9_tune_27 : decode cX9_tune 27 = .ok (.invokevirtual 115, 3) := by decide +kernel
theorem dX9_tune_30 : decode cX9_tune 30 = .ok (.iconst 1, 1) := by decide +kernel
theorem dX9_tune_31 : decode cX9_tune 31 = .ok (.istore_n 1, 1) := by decide +kernel
theorem dX9_tune_32 : decode cX9_tune 32 = .ok (.iload_n 1, 1) := by decide +kernel
theorem dX9_tune_33 : decode cX9_tune 33 = .ok (.ifCond .eq 43, 3) := by decide +kernel
theorem dX9_tune_36 : decode cX9_tune 36 = .ok (.aload_n 0, 1) := by decide +kernel
theorem dX9_tune_37 : decode cX9_tune 37 = .ok (.getfield 86, 3) := by decide +kernel
theorem dX9_tune_40 : decode cX9_tune 40 = .ok (.ifCond .eq 36, 3) := by decide +kernel
theorem dX9_tune_43 : decode cX9_tune 43 = .ok (.aload_n 0, 1) := by decide +kernel
theorem dX9_tune_44 : decode cX9_tune 44 = .ok (.invokevirtual 179, 3) := by decide +kernel
theorem dX9_tune_47 : decode cX9_tune 47 = .ok (.istore_n 1, 1) := by decide +kernel
theorem dX9_tune_48 : decode cX9_tune 48 = .ok (.iload_n 1, 1) := by decide +kernel
theorem dX9_tune_49 : decode cX9_tune 49 = .ok (.ifCond .eq 16, 3) := by decide +kernel
theorem dX9_tune_52 : decode cX9_tune 52 = .ok (.aload_n 0, 1) := by decide +kernel
theorem dX9_tune_53 : decode cX9_tune 53 = .ok (.getfield 86, 3) := by decide +kernel
theorem dX9_tune_56 : decode cX9_tune 56 = .ok (.iconst 4, 1) := by decide +kernel
theorem dX9_tune_57 : decode cX9_tune 57 = .ok (.if_icmp .eq 8, 3) := by decide +kernel
theorem dX9_tune_60 : decode cX9_tune 60 = .ok (.aload_n 0, 1) := by decide +kernel
theorem dX9_tune_61 : decode cX9_tune 61 = .ok (.invokevirtual 104, 3) := by decide +kernel
theorem dX9_tune_64 : decode cX9_tune 64 = .ok (.istore_n 1, 1) := by decide +kernel
theorem dX9_tune_65 : decode cX9_tune 65 = .ok (.iload_n 1, 1) := by decide +kernel
theorem dX9_tune_66 : decode cX9_tune 66 = .ok (.ifCond .eq (-34), 3) := by decide +kernel
theorem dX9_tune_69 : decode cX9_tune 69 = .ok (.aload_n 0, 1) := by decide +kernel
theorem dX9_tune_70 : decode cX9_tune 70 = .ok (.invokevirtual 115, 3) := by decide +kernel
theorem dX9_tune_73 : decode cX9_tune 73 = .ok (.goto (-41), 3) := by decide +kernel
theorem dX9_tune_76 : decode cX9_tune 76 = .ok (.aload_n 0, 1) := by decide +kernel
theorem dX9_tune_77 : decode cX9_tune 77 = .ok (.getfield 7, 3) := by decide +kernel
theorem dX9_tune_80 : decode cX9_tune 80 = .ok (.iconst 3, 1) := by decide +kernel
theorem dX9_tune_81 : decode cX9_tune 81 = .ok (.iload_n 1, 1) := by decide +kernel
theorem dX9_tune_82 : decode cX9_tune 82 = .ok (.ifCond .eq 10, 3) := by decide +kernel
theorem dX9_tune_85 : decode cX9_tune 85 = .ok (.aload_n 0, 1) := by decide +kernel
theorem dX9_tune_86 : decode cX9_tune 86 = .ok (.getfield 98, 3) := by decide +kernel
theorem dX9_tune_89 : decode cX9_tune 89 = .ok (.goto 4, 3) := by decide +kernel
theorem dX9_tune_92 : decode cX9_tune 92 = .ok (.iconst 1, 1) := by decide +kernel
theorem dX9_tune_93 : decode cX9_tune 93 = .ok (.iastore, 1) := by decide +kernel
theorem dX9_tune_94 : decode cX9_tune 94 = .ok (.aload_n 0, 1) := by decide +kernel
theorem dX9_tune_95 : decode cX9_tune 95 = .ok (.getfield 7, 3) := by decide +kernel
theorem dX9_tune_98 : decode cX9_tune 98 = .ok (.iconst 4, 1) := by decide +kernel
theorem dX9_tune_99 : decode cX9_tune 99 = .ok (.iload_n 1, 1) := by decide +kernel
theorem dX9_tune_100 : decode cX9_tune 100 = .ok (.ifCond .eq 10, 3) := by decide +kernel
theorem dX9_tune_103 : decode cX9_tune 103 = .ok (.aload_n 0, 1) := by decide +kernel
theorem dX9_tune_104 : decode cX9_tune 104 = .ok (.getfield 101, 3) := by decide +kernel
theorem dX9_tune_107 : decode cX9_tune 107 = .ok (.goto 7, 3) := by decide +kernel
theorem dX9_tune_110 : decode cX9_tune 110 = .ok (.aload_n 0, 1) := by decide +kernel
theorem dX9_tune_111 : decode cX9_tune 111 = .ok (.getfield 95, 3) := by decide +kernel
theorem dX9_tune_114 : decode cX9_tune 114 = .ok (.iastore, 1) := by decide +kernel
theorem dX9_tune_115 : decode cX9_tune 115 = .ok (.aload_n 0, 1) := by decide +kernel
theorem dX9_tune_116 : decode cX9_tune 116 = .ok (.getfield 7, 3) := by decide +kernel
theorem dX9_tune_119 : decode cX9_tune 119 = .ok (.iconst 3, 1) := by decide +kernel
theorem dX9_tune_120 : decode cX9_tune 120 = .ok (.iaload, 1) := by decide +kernel
theorem dX9_tune_121 : decode cX9_tune 121 = .ok (.ifCond .eq 5, 3) := by decide +kernel
theorem dX9_tune_124 : decode cX9_tune 124 = .ok (.iconst (-1), 1) := by decide +kernel
theorem dX9_tune_125 : decode cX9_tune 125 = .ok (.ireturn, 1) := by decide +kernel
theorem dX9_tune_126 : decode cX9_tune 126 = .ok (.aload_n 0, 1) := by decide +kernel
theorem dX9_tune_127 : decode cX9_tune 127 = .ok (.invokevirtual 48, 3) := by decide +kernel
theorem dX9_tune_130 : decode cX9_tune 130 = .ok (.aload_n 0, 1) := by decide +kernel
theorem dX9_tune_131 : decode cX9_tune 131 = .ok (.getfield 7, 3) := by decide +kernel
theorem dX9_tune_134 : decode cX9_tune 134 = .ok (.iconst 0, 1) := by decide +kernel
theorem dX9_tune_135 : decode cX9_tune 135 = .ok (.iaload, 1) := by decide +kernel
theorem dX9_tune_136 : decode cX9_tune 136 = .ok (.ireturn, 1) := by decide +kernel
theorem dX9_fault_0 : decode cX9_fault 0 = .ok (.aload_n 0, 1) := by decide +kernel
theorem dX9_fault_1 : decode cX9_fault 1 = .ok (.iconst 0, 1) := by decide +kernel
theorem dX9_fault_2 : decode cX9_fault 2 = .ok (.putfield 51, 3) := by decide +kernel
theorem dX9_fault_5 : decode cX9_fault 5 = .ok (.iload_n 1, 1) := by decide +kernel
theorem dX9_fault_6 : decode cX9_fault 6 = .ok (.ifCond .eq 12, 3) := by decide +kernel
theorem dX9_fault_9 : decode cX9_fault 9 = .ok (.aload_n 0, 1) := by decide +kernel
theorem dX9_fault_10 : decode cX9_fault 10 = .ok (.getfield 7, 3) := by decide +kernel
theorem dX9_fault_13 : decode cX9_fault 13 = .ok (.iconst 4, 1) := by decide +kernel
theorem dX9_fault_14 : decode cX9_fault 14 = .ok (.iaload, 1) := by decide +kernel
theorem dX9_fault_15 : decode cX9_fault 15 = .ok (.goto 9, 3) := by decide +kernel
theorem dX9_fault_18 : decode cX9_fault 18 = .ok (.aload_n 0, 1) := by decide +kernel
theorem dX9_fault_19 : decode cX9_fault 19 = .ok (.getfield 7, 3) := by decide +kernel
theorem dX9_fault_22 : decode cX9_fault 22 = .ok (.iconst 3, 1) := by decide +kernel
theorem dX9_fault_23 : decode cX9_fault 23 = .ok (.iaload, 1) := by decide +kernel
theorem dX9_fault_24 : decode cX9_fault 24 = .ok (.ireturn, 1) := by decide +kernel
set_option maxRecDepth 20000 in
theorem ggX9_set_X9_isLeg : GoodIn wsX9_set wsX9_isLeg := goodIn_r _ [5, 6, 7, 4, 8] (by decide +kernel) (by decide +kernel)
set_option maxRecDepth 20000 in
theorem gX9_set_X9_isLeg : GoodIn wsX9_set (va_wsS RX9 182 yX9_isLeg wsX9_isLeg) := goodIn_app (goodIn_of _ (by decide +kernel)) ggX9_set_X9_isLeg
set_option maxRecDepth 20000 in
theorem ggX9_set_X9_in : GoodIn wsX9_set wsX9_in := goodIn_r _ [8] (by decide +kernel) (by decide +kernel)
set_option maxRecDepth 20000 in
theorem gX9_set_X9_in : GoodIn wsX9_set (va_wsS RX9 63 yX9_in wsX9_in) := goodIn_app (goodIn_of _ (by decide +kernel)) ggX9_set_X9_in
set_option maxRecDepth 20000 in
theorem ggX9_set_X9_leastOf : GoodIn wsX9_set wsX9_leastOf := goodIn_r _ [11] (by decide +kernel) (by decide +kernel)
set_option maxRecDepth 20000 in
theorem gX9_set_X9_leastOf : GoodIn wsX9_set (va_wsS RX9 157 yX9_leastOf wsX9_leastOf) := goodIn_app (goodIn_of _ (by decide +kernel)) ggX9_set_X9_leastOf
set_option maxRecDepth 20000 in
theorem ggX9_set_X9_mostOf : GoodIn wsX9_set wsX9_mostOf := goodIn_r _ [14] (by decide +kernel) (by decide +kernel)
set_option maxRecDepth 20000 in
theorem gX9_set_X9_mostOf : GoodIn wsX9_set (va_wsS RX9 161 yX9_mostOf wsX9_mostOf) := goodIn_app (goodIn_of _ (by decide +kernel)) ggX9_set_X9_mostOf
set_option maxRecDepth 20000 in
theorem ggX9_set_X9_ofLeg : GoodIn wsX9_set wsX9_ofLeg := goodIn_r _ [18, 19, 24, 25, 26, 27, 28, 29, 30, 31, 32, 33, 34, 35, 36, 37, 38, 39, 40, 41, 42, 43, 44, 45, 46, 47, 48, 49, 50, 51, 52] (by decide +kernel) (by decide +kernel)
set_option maxRecDepth 20000 in
theorem gX9_set_X9_ofLeg : GoodIn wsX9_set (wsV RX9 185 RX9 yX9_ofLeg wsX9_ofLeg) := goodIn_app (goodIn_of _ (by decide +kernel)) ggX9_set_X9_ofLeg
set_option maxRecDepth 20000 in
theorem ggX9_set_X9_layLeg : GoodIn wsX9_set wsX9_layLeg := goodIn_r _ [23, 19, 24, 25, 26, 27, 28, 29, 30, 31, 32, 33, 34, 35, 36, 37, 38, 39, 40, 41, 42, 43, 44, 45, 46, 47, 48, 49, 50, 51, 52] (by decide +kernel) (by decide +kernel)
set_option maxRecDepth 20000 in
theorem gX9_set_X9_layLeg : GoodIn wsX9_set (wsV RX9 188 RX9 yX9_layLeg wsX9_layLeg) := goodIn_app (goodIn_of _ (by decide +kernel)) ggX9_set_X9_layLeg
theorem dX9_set_0 : decode cX9_set 0 = .ok (.aload_n 0, 1) := by decide +kernel
theorem dX9_set_1 : decode cX9_set 1 = .ok (.iconst 0, 1) := by decide +kernel
theorem dX9_set_2 : decode cX9_set 2 = .ok (.putfield 51, 3) := by decide +kernel
theorem dX9_set_5 : decode cX9_set 5 = .ok (.iload_n 1, 1) := by decide +kernel
theorem dX9_set_6 : decode cX9_set 6 = .ok (.invokestatic 182, 3) := by decide +kernel
theorem dX9_set_9 : decode cX9_set 9 = .ok (.ifCond .eq 37, 3) := by decide +kernel
theorem dX9_set_12 : decode cX9_set 12 = .ok (.iload_n 2, 1) := by decide +kernel
theorem dX9_set_13 : decode cX9_set 13 = .ok (.iconst 0, 1) := by decide +kernel
theorem dX9_set_14 : decode cX9_set 14 = .ok (.iconst 5, 1) := by decide +kernel
theorem dX9_set_15 : decode cX9_set 15 = .ok (.invokestatic 63, 3) := by decide +kernel
theorem dX9_set_18 : decode cX9_set 18 = .ok (.ifCond .eq 28, 3) := by decide +kernel
theorem dX9_set_21 : decode cX9_set 21 = .ok (.iload_n 3, 1) := by decide +kernel
theorem dX9_set_22 : decode cX9_set 22 = .ok (.iload_n 2, 1) := by decide +kernel
theorem dX9_set_23 : decode cX9_set 23 = .ok (.invokestatic 157, 3) := by decide +kernel
theorem dX9_set_26 : decode cX9_set 26 = .ok (.iload_n 2, 1) := by decide +kernel
theorem dX9_set_27 : decode cX9_set 27 = .ok (.invokestatic 161, 3) := by decide +kernel
theorem dX9_set_30 : decode cX9_set 30 = .ok (.invokestatic 63, 3) := by decide +kernel
theorem dX9_set_33 : decode cX9_set 33 = .ok (.ifCond .eq 13, 3) := by decide +kernel
theorem dX9_set_36 : decode cX9_set 36 = .ok (.aload_n 0, 1) := by decide +kernel
theorem dX9_set_37 : decode cX9_set 37 = .ok (.iload_n 1, 1) := by decide +kernel
theorem dX9_set_38 : decode cX9_set 38 = .ok (.iload_n 2, 1) := by decide +kernel
theorem dX9_set_39 : decode cX9_set 39 = .ok (.invokevirtual 185, 3) := by decide +kernel
theorem dX9_set_42 : decode cX9_set 42 = .ok (.iload_n 3, 1) := by decide +kernel
theorem dX9_set_43 : decode cX9_set 43 = .ok (.if_icmp .ne 5, 3) := by decide +kernel
theorem dX9_set_46 : decode cX9_set 46 = .ok (.iconst 0, 1) := by decide +kernel
theorem dX9_set_47 : decode cX9_set 47 = .ok (.ireturn, 1) := by decide +kernel
theorem dX9_set_48 : decode cX9_set 48 = .ok (.aload_n 0, 1) := by decide +kernel
theorem dX9_set_49 : decode cX9_set 49 = .ok (.iload_n 1, 1) := by decide +kernel
theorem dX9_set_50 : decode cX9_set 50 = .ok (.iload_n 2, 1) := by decide +kernel
theorem dX9_set_51 : decode cX9_set 51 = .ok (.iload_n 3, 1) := by decide +kernel
theorem dX9_set_52 : decode cX9_set 52 = .ok (.invokevirtual 188, 3) := by decide +kernel
theorem dX9_set_55 : decode cX9_set 55 = .ok (.iconst 1, 1) := by decide +kernel
theorem dX9_set_56 : decode cX9_set 56 = .ok (.ireturn, 1) := by decide +kernel
set_option maxRecDepth 20000 in
theorem ggX9_vote_X9_isPart : GoodIn wsX9_vote wsX9_isPart := goodIn_r _ [6, 7, 8, 9, 5, 10, 19, 20, 21, 22, 23, 24, 25, 26, 27, 28, 29, 30, 31, 32, 33, 34, 35, 36, 37, 38, 39, 40, 41, 42, 43, 44, 45, 46, 47] (by decide +kernel) (by decide +kernel)
set_option maxRecDepth 20000 in
theorem gX9_vote_X9_isPart : GoodIn wsX9_vote (wsV RX9 192 RX9 yX9_isPart wsX9_isPart) := goodIn_app (goodIn_of _ (by decide +kernel)) ggX9_vote_X9_isPart
set_option maxRecDepth 20000 in
theorem ggX9_vote_X9_in : GoodIn wsX9_vote wsX9_in := goodIn_r _ [10] (by decide +kernel) (by decide +kernel)
set_option maxRecDepth 20000 in
theorem gX9_vote_X9_in : GoodIn wsX9_vote (va_wsS RX9 63 yX9_in wsX9_in) := goodIn_app (goodIn_of _ (by decide +kernel)) ggX9_vote_X9_in
set_option maxRecDepth 20000 in
theorem ggX9_vote_X9_of : GoodIn wsX9_vote wsX9_of := goodIn_r _ [14, 7, 19, 20, 21, 22, 23, 24, 25, 26, 27, 28, 29, 30, 31, 32, 33, 34, 35, 36, 37, 38, 39, 40, 41, 42, 43, 44, 45, 46, 47] (by decide +kernel) (by decide +kernel)
set_option maxRecDepth 20000 in
theorem gX9_vote_X9_of : GoodIn wsX9_vote (wsV RX9 195 RX9 yX9_of wsX9_of) := goodIn_app (goodIn_of _ (by decide +kernel)) ggX9_vote_X9_of
set_option maxRecDepth 20000 in
theorem ggX9_vote_X9_lays : GoodIn wsX9_vote wsX9_lays := goodIn_r _ [18, 7, 19, 20, 21, 22, 23, 24, 25, 26, 27, 28, 29, 30, 31, 32, 33, 34, 35, 36, 37, 38, 39, 40, 41, 42, 43, 44, 45, 46, 47] (by decide +kernel) (by decide +kernel)
set_option maxRecDepth 20000 in
theorem gX9_vote_X9_lays : GoodIn wsX9_vote (wsV RX9 198 RX9 yX9_lays wsX9_lays) := goodIn_app (goodIn_of _ (by decide +kernel)) ggX9_vote_X9_lays
theorem dX9_vote_0 : decode cX9_vote 0 = .ok (.aload_n 0, 1) := by decide +kernel
theorem dX9_vote_1 : decode cX9_vote 1 = .ok (.iconst 0, 1) := by decide +kernel
theorem dX9_vote_2 : decode cX9_vote 2 = .ok (.putfield 51, 3) := by decide +kernel
theorem dX9_vote_5 : decode cX9_vote 5 = .ok (.aload_n 0, 1) := by decide +kernel
theorem dX9_vote_6 : decode cX9_vote 6 = .ok (.iload_n 1, 1) := by decide +kernel
theorem dX9_vote_7 : decode cX9_vote 7 = .ok (.invokevirtual 192, 3) := by decide +kernel
theorem dX9_vote_10 : decode cX9_vote 10 = .ok (.ifCond .eq 23, 3) := by decide +kernel
theorem dX9_vote_13 : decode cX9_vote 13 = .ok (.iload_n 2, 1) := by decide +kernel
theorem dX9_vote_14 : decode cX9_vote 14 = .ok (.iconst 1, 1) := by decide +kernel
theorem dX9_vote_15 : decode cX9_vote 15 = .ok (.bipush 9, 2) := by decide +kernel
theorem dX9_vote_17 : decode cX9_vote 17 = .ok (.invokestatic 63, 3) := by decide +kernel
theorem dX9_vote_20 : decode cX9_vote 20 = .ok (.ifCond .eq 13, 3) := by decide +kernel
theorem dX9_vote_23 : decode cX9_vote 23 = .ok (.aload_n 0, 1) := by decide +kernel
theorem dX9_vote_24 : decode cX9_vote 24 = .ok (.iload_n 1, 1) := by decide +kernel
theorem dX9_vote_25 : decode cX9_vote 25 = .ok (.iconst 1, 1) := by decide +kernel
theorem dX9_vote_26 : decode cX9_vote 26 = .ok (.invokevirtual 195, 3) := by decide +kernel
theorem dX9_vote_29 : decode cX9_vote 29 = .ok (.iload_n 2, 1) := by decide +kernel
theorem dX9_vote_30 : decode cX9_vote 30 = .ok (.if_icmp .ne 5, 3) := by decide +kernel
theorem dX9_vote_33 : decode cX9_vote 33 = .ok (.iconst 0, 1) := by decide +kernel
theorem dX9_vote_34 : decode cX9_vote 34 = .ok (.ireturn, 1) := by decide +kernel
theorem dX9_vote_35 : decode cX9_vote 35 = .ok (.aload_n 0, 1) := by decide +kernel
theorem dX9_vote_36 : decode cX9_vote 36 = .ok (.iload_n 1, 1) := by decide +kernel
theorem dX9_vote_37 : decode cX9_vote 37 = .ok (.iconst 1, 1) := by decide +kernel
theorem dX9_vote_38 : decode cX9_vote 38 = .ok (.iload_n 2, 1) := by decide +kernel
theorem dX9_vote_39 : decode cX9_vote 39 = .ok (.invokevirtual 198, 3) := by decide +kernel
theorem dX9_vote_42 : decode cX9_vote 42 = .ok (.iconst 1, 1) := by decide +kernel
theorem dX9_vote_43 : decode cX9_vote 43 = .ok (.ireturn, 1) := by decide +kernel
set_option maxRecDepth 20000 in
theorem ggX9_limit_X9_in : GoodIn wsX9_limit wsX9_in := goodIn_r _ [6] (by decide +kernel) (by decide +kernel)
set_option maxRecDepth 20000 in
theorem gX9_limit_X9_in : GoodIn wsX9_limit (va_wsS RX9 63 yX9_in wsX9_in) := goodIn_app (goodIn_of _ (by decide +kernel)) ggX9_limit_X9_in
theorem dX9_limit_0 : decode cX9_limit 0 = .ok (.aload_n 0, 1) := by decide +kernel
theorem dX9_limit_1 : decode cX9_limit 1 = .ok (.iconst 0, 1) := by decide +kernel
theorem dX9_limit_2 : decode cX9_limit 2 = .ok (.putfield 51, 3) := by decide +kernel
theorem dX9_limit_5 : decode cX9_limit 5 = .ok (.iload_n 1, 1) := by decide +kernel
theorem dX9_limit_6 : decode cX9_limit 6 = .ok (.iconst 1, 1) := by decide +kernel
theorem dX9_limit_7 : decode cX9_limit 7 = .ok (.sipush 9999, 3) := by decide +kernel
theorem dX9_limit_10 : decode cX9_limit 10 = .ok (.invokestatic 63, 3) := by decide +kernel
theorem dX9_limit_13 : decode cX9_limit 13 = .ok (.ifCond .eq 13, 3) := by decide +kernel
theorem dX9_limit_16 : decode cX9_limit 16 = .ok (.aload_n 0, 1) := by decide +kernel
theorem dX9_limit_17 : decode cX9_limit 17 = .ok (.getfield 7, 3) := by decide +kernel
theorem dX9_limit_20 : decode cX9_limit 20 = .ok (.iconst 1, 1) := by decide +kernel
theorem dX9_limit_21 : decode cX9_limit 21 = .ok (.iaload, 1) := by decide +kernel
theorem dX9_limit_22 : decode cX9_limit 22 = .ok (.iload_n 1, 1) := by decide +kernel
theorem dX9_limit_23 : decode cX9_limit 23 = .ok (.if_icmp .ne 5, 3) := by decide +kernel
theorem dX9_limit_26 : decode cX9_limit 26 = .ok (.iconst 0, 1) := by decide +kernel
theorem dX9_limit_27 : decode cX9_limit 27 = .ok (.ireturn, 1) := by decide +kernel
theorem dX9_limit_28 : decode cX9_limit 28 = .ok (.aload_n 0, 1) := by decide +kernel
theorem dX9_limit_29 : decode cX9_limit 29 = .ok (.getfield 7, 3) := by decide +kernel
theorem dX9_limit_32 : decode cX9_limit 32 = .ok (.iconst 1, 1) := by decide +kernel
theorem dX9_limit_33 : decode cX9_limit 33 = .ok (.iload_n 1, 1) := by decide +kernel
theorem dX9_limit_34 : decode cX9_limit 34 = .ok (.iastore, 1) := by decide +kernel
theorem dX9_limit_35 : decode cX9_limit 35 = .ok (.iconst 1, 1) := by decide +kernel
theorem dX9_limit_36 : decode cX9_limit 36 = .ok (.ireturn, 1) := by decide +kernel
set_option maxRecDepth 20000 in
theorem ggX9_mark_X9_isLeg : GoodIn wsX9_mark wsX9_isLeg := goodIn_r _ [5, 6, 7, 4, 8] (by decide +kernel) (by decide +kernel)
set_option maxRecDepth 20000 in
theorem gX9_mark_X9_isLeg : GoodIn wsX9_mark (va_wsS RX9 182 yX9_isLeg wsX9_isLeg) := goodIn_app (goodIn_of _ (by decide +kernel)) ggX9_mark_X9_isLeg
set_option maxRecDepth 20000 in
theorem ggX9_mark_X9_in : GoodIn wsX9_mark wsX9_in := goodIn_r _ [8] (by decide +kernel) (by decide +kernel)
set_option maxRecDepth 20000 in
theorem gX9_mark_X9_in : GoodIn wsX9_mark (va_wsS RX9 63 yX9_in wsX9_in) := goodIn_app (goodIn_of _ (by decide +kernel)) ggX9_mark_X9_in
set_option maxRecDepth 20000 in
theorem ggX9_mark_X9_ofLeg : GoodIn wsX9_mark wsX9_ofLeg := goodIn_r _ [12, 13, 18, 19, 20, 21, 22, 23, 24, 25, 26, 27, 28, 29, 30, 31, 32, 33, 34, 35, 36, 37, 38, 39, 40, 41, 42, 43, 44, 45, 46] (by decide +kernel) (by decide +kernel)
set_option maxRecDepth 20000 in
theorem gX9_mark_X9_ofLeg : GoodIn wsX9_mark (wsV RX9 185 RX9 yX9_ofLeg wsX9_ofLeg) := goodIn_app (goodIn_of _ (by decide +kernel)) ggX9_mark_X9_ofLeg
set_option maxRecDepth 20000 in
theorem ggX9_mark_X9_layLeg : GoodIn wsX9_mark wsX9_layLeg := goodIn_r _ [17, 13, 18, 19, 20, 21, 22, 23, 24, 25, 26, 27, 28, 29, 30, 31, 32, 33, 34, 35, 36, 37, 38, 39, 40, 41, 42, 43, 44, 45, 46] (by decide +kernel) (by decide +kernel)
set_option maxRecDepth 20000 in
theorem gX9_mark_X9_layLeg : GoodIn wsX9_mark (wsV RX9 188 RX9 yX9_layLeg wsX9_layLeg) := goodIn_app (goodIn_of _ (by decide +kernel)) ggX9_mark_X9_layLeg
theorem dX9_mark_0 : decode cX9_mark 0 = .ok (.aload_n 0, 1) := by decide +kernel
theorem dX9_mark_1 : decode cX9_mark 1 = .ok (.iconst 0, 1) := by decide +kernel
theorem dX9_mark_2 : decode cX9_mark 2 = .ok (.putfield 51, 3) := by decide +kernel
theorem dX9_mark_5 : decode cX9_mark 5 = .ok (.iload_n 1, 1) := by decide +kernel
theorem dX9_mark_6 : decode cX9_mark 6 = .ok (.invokestatic 182, 3) := by decide +kernel
theorem dX9_mark_9 : decode cX9_mark 9 = .ok (.ifCond .eq 35, 3) := by decide +kernel
theorem dX9_mark_12 : decode cX9_mark 12 = .ok (.iload_n 2, 1) := by decide +kernel
theorem dX9_mark_13 : decode cX9_mark 13 = .ok (.iconst 0, 1) := by decide +kernel
theorem dX9_mark_14 : decode cX9_mark 14 = .ok (.iconst 2, 1) := by decide +kernel
theorem dX9_mark_15 : decode cX9_mark 15 = .ok (.invokestatic 63, 3) := by decide +kernel
theorem dX9_mark_18 : decode cX9_mark 18 = .ok (.ifCond .eq 26, 3) := by decide +kernel
theorem dX9_mark_21 : decode cX9_mark 21 = .ok (.iload_n 3, 1) := by decide +kernel
theorem dX9_mark_22 : decode cX9_mark 22 = .ok (.iconst 0, 1) := by decide +kernel
theorem dX9_mark_23 : decode cX9_mark 23 = .ok (.sipush 199, 3) := by decide +kernel
theorem dX9_mark_26 : decode cX9_mark 26 = .ok (.invokestatic 63, 3) := by decide +kernel
theorem dX9_mark_29 : decode cX9_mark 29 = .ok (.ifCond .eq 15, 3) := by decide +kernel
theorem dX9_mark_32 : decode cX9_mark 32 = .ok (.aload_n 0, 1) := by decide +kernel
theorem dX9_mark_33 : decode cX9_mark 33 = .ok (.iload_n 1, 1) := by decide +kernel
theorem dX9_mark_34 : decode cX9_mark 34 = .ok (.bipush 6, 2) := by decide +kernel
theorem dX9_mark_36 : decode cX9_mark 36 = .ok (.invokevirtual 185, 3) := by decide +kernel
theorem dX9_mark_39 : decode cX9_mark 39 = .ok (.bipush 10, 2) := by decide +kernel
theorem dX9_mark_41 : decode cX9_mark 41 = .ok (.if_icmp .ne 5, 3) := by decide +kernel
theorem dX9_mark_44 : decode cX9_mark 44 = .ok (.iconst (-1), 1) := by decide +kernel
theorem dX9_mark_45 : decode cX9_mark 45 = .ok (.ireturn, 1) := by decide +kernel
theorem dX9_mark_46 : decode cX9_mark 46 = .ok (.bipush 7, 2) := by decide +kernel
theorem dX9_mark_48 : decode cX9_mark 48 = .ok (.iconst 3, 1) := by decide +kernel
theorem dX9_mark_49 : decode cX9_mark 49 = .ok (.aload_n 0, 1) := by decide +kernel
theorem dX9_mark_50 : decode cX9_mark 50 = .ok (.iload_n 1, 1) := by decide +kernel
theorem dX9_mark_51 : decode cX9_mark 51 = .ok (.bipush 6, 2) := by decide +kernel
theorem dX9_mark_53 : decode cX9_mark 53 = .ok (.invokevirtual 185, 3) := by decide +kernel
theorem dX9_mark_56 : decode cX9_mark 56 = .ok (.imul, 1) := by decide +kernel
theorem dX9_mark_57 : decode cX9_mark 57 = .ok (.iadd, 1) := by decide +kernel
theorem dX9_mark_58 : decode cX9_mark 58 = .ok (.istore 4, 2) := by decide +kernel
theorem dX9_mark_60 : decode cX9_mark 60 = .ok (.aload_n 0, 1) := by decide +kernel
theorem dX9_mark_61 : decode cX9_mark 61 = .ok (.iload_n 1, 1) := by decide +kernel
theorem dX9_mark_62 : decode cX9_mark 62 = .ok (.iload 4, 2) := by decide +kernel
theorem dX9_mark_64 : decode cX9_mark 64 = .ok (.iload_n 2, 1) := by decide +kernel
theorem dX9_mark_65 : decode cX9_mark 65 = .ok (.invokevirtual 188, 3) := by decide +kernel
theorem dX9_mark_68 : decode cX9_mark 68 = .ok (.aload_n 0, 1) := by decide +kernel
theorem dX9_mark_69 : decode cX9_mark 69 = .ok (.iload_n 1, 1) := by decide +kernel
theorem dX9_mark_70 : decode cX9_mark 70 = .ok (.iload 4, 2) := by decide +kernel
theorem dX9_mark_72 : decode cX9_mark 72 = .ok (.iconst 1, 1) := by decide +kernel
theorem dX9_mark_73 : decode cX9_mark 73 = .ok (.iadd, 1) := by decide +kernel
theorem dX9_mark_74 : decode cX9_mark 74 = .ok (.iload_n 3, 1) := by decide +kernel
theorem dX9_mark_75 : decode cX9_mark 75 = .ok (.invokevirtual 188, 3) := by decide +kernel
theorem dX9_mark_78 : decode cX9_mark 78 = .ok (.aload_n 0, 1) := by decide +kernel
theorem dX9_mark_79 : decode cX9_mark 79 = .ok (.iload_n 1, 1) := by decide +kernel
theorem dX9_mark_80 : decode cX9_mark 80 = .ok (.iload 4, 2) := by decide +kernel
theorem dX9_mark_82 : decode cX9_mark 82 = .ok (.iconst 2, 1) := by decide +kernel
theorem dX9_mark_83 : decode cX9_mark 83 = .ok (.iadd, 1) := by decide +kernel
theorem dX9_mark_84 : decode cX9_mark 84 = .ok (.iload_n 3, 1) := by decide +kernel
theorem dX9_mark_85 : decode cX9_mark 85 = .ok (.invokevirtual 188, 3) := by decide +kernel
theorem dX9_mark_88 : decode cX9_mark 88 = .ok (.aload_n 0, 1) := by decide +kernel
theorem dX9_mark_89 : decode cX9_mark 89 = .ok (.iload_n 1, 1) := by decide +kernel
theorem dX9_mark_90 : decode cX9_mark 90 = .ok (.bipush 6, 2) := by decide +kernel
theorem dX9_mark_92 : decode cX9_mark 92 = .ok (.aload_n 0, 1) := by decide +kernel
theorem dX9_mark_93 : decode cX9_mark 93 = .ok (.iload_n 1, 1) := by decide +kernel
theorem dX9_mark_94 : decode cX9_mark 94 = .ok (.bipush 6, 2) := by decide +kernel
theorem dX9_mark_96 : decode cX9_mark 96 = .ok (.invokevirtual 185, 3) := by decide +kernel
theorem dX9_mark_99 : decode cX9_mark 99 = .ok (.iconst 1, 1) := by decide +kernel
theorem dX9_mark_100 : decode cX9_mark 100 = .ok (.iadd, 1) := by decide +kernel
theorem dX9_mark_101 : decode cX9_mark 101 = .ok (.invokevirtual 188, 3) := by decide +kernel
theorem dX9_mark_104 : decode cX9_mark 104 = .ok (.aload_n 0, 1) := by decide +kernel
theorem dX9_mark_105 : decode cX9_mark 105 = .ok (.iload_n 1, 1) := by decide +kernel
theorem dX9_mark_106 : decode cX9_mark 106 = .ok (.bipush 6, 2) := by decide +kernel
theorem dX9_mark_108 : decode cX9_mark 108 = .ok (.invokevirtual 185, 3) := by decide +kernel
theorem dX9_mark_111 : decode cX9_mark 111 = .ok (.ireturn, 1) := by decide +kernel
set_option maxRecDepth 20000 in
theorem ggX9_clean_X9_isLeg : GoodIn wsX9_clean wsX9_isLeg := goodIn_r _ [5, 6, 7, 4, 8] (by decide +kernel) (by decide +kernel)
set_option maxRecDepth 20000 in
theorem gX9_clean_X9_isLeg : GoodIn wsX9_clean (va_wsS RX9 182 yX9_isLeg wsX9_isLeg) := goodIn_app (goodIn_of _ (by decide +kernel)) ggX9_clean_X9_isLeg
set_option maxRecDepth 20000 in
theorem ggX9_clean_X9_ofLeg : GoodIn wsX9_clean wsX9_ofLeg := goodIn_r _ [12, 13, 18, 19, 20, 21, 22, 23, 24, 25, 26, 27, 28, 29, 30, 31, 32, 33, 34, 35, 36, 37, 38, 39, 40, 41, 42, 43, 44, 45, 46] (by decide +kernel) (by decide +kernel)
set_option maxRecDepth 20000 in
theorem gX9_clean_X9_ofLeg : GoodIn wsX9_clean (wsV RX9 185 RX9 yX9_ofLeg wsX9_ofLeg) := goodIn_app (goodIn_of _ (by decide +kernel)) ggX9_clean_X9_ofLeg
set_option maxRecDepth 20000 in
theorem ggX9_clean_X9_layLeg : GoodIn wsX9_clean wsX9_layLeg := goodIn_r _ [17, 13, 18, 19, 20, 21, 22, 23, 24, 25, 26, 27, 28, 29, 30, 31, 32, 33, 34, 35, 36, 37, 38, 39, 40, 41, 42, 43, 44, 45, 46] (by decide +kernel) (by decide +kernel)
set_option maxRecDepth 20000 in
theorem gX9_clean_X9_layLeg : GoodIn wsX9_clean (wsV RX9 188 RX9 yX9_layLeg wsX9_layLeg) := goodIn_app (goodIn_of _ (by decide +kernel)) ggX9_clean_X9_layLeg
theorem dX9_clean_0 : decode cX9_clean 0 = .ok (.aload_n 0, 1) := by decide +kernel
theorem dX9_clean_1 : decode cX9_clean 1 = .ok (.iconst 0, 1) := by decide +kernel
theorem dX9_clean_2 : decode cX9_clean 2 = .ok (.putfield 51, 3) := by decide +kernel
theorem dX9_clean_5 : decode cX9_clean 5 = .ok (.iload_n 1, 1) := by decide +kernel
theorem dX9_clean_6 : decode cX9_clean 6 = .ok (.invokestatic 182, 3) := by decide +kernel
theorem dX9_clean_9 : decode cX9_clean 9 = .ok (.ifCond .ne 5, 3) := by decide +kernel
theorem dX9_clean_12 : decode cX9_clean 12 = .ok (.iconst (-1), 1) := by decide +kernel
theorem dX9_clean_13 : decode cX9_clean 13 = .ok (.ireturn, 1) := by decide +kernel
theorem dX9_clean_14 : decode cX9_clean 14 = .ok (.aload_n 0, 1) := by decide +kernel
theorem dX9_clean_15 : decode cX9_clean 15 = .ok (.iload_n 1, 1) := by decide +kernel
theorem dX9_clean_16 : decode cX9_clean 16 = .ok (.bipush 6, 2) := by decide +kernel
theorem dX9_clean_18 : decode cX9_clean 18 = .ok (.invokevirtual 185, 3) := by decide +kernel
theorem dX9_clean_21 : decode cX9_clean 21 = .ok (.istore_n 2, 1) := by decide +kernel
theorem dX9_clean_22 : decode cX9_clean 22 = .ok (.aload_n 0, 1) := by decide +kernel
theorem dX9_clean_23 : decode cX9_clean 23 = .ok (.iload_n 1, 1) := by decide +kernel
theorem dX9_clean_24 : decode cX9_clean 24 = .ok (.bipush 6, 2) := by decide +kernel
theorem dX9_clean_26 : decode cX9_clean 26 = .ok (.iconst 0, 1) := by decide +kernel
theorem dX9_clean_27 : decode cX9_clean 27 = .ok (.invokevirtual 188, 3) := by decide +kernel
theorem dX9_clean_30 : decode cX9_clean 30 = .ok (.iload_n 2, 1) := by decide +kernel
theorem dX9_clean_31 : decode cX9_clean 31 = .ok (.ireturn, 1) := by decide +kernel
set_option maxRecDepth 20000 in
theorem ggX9_turn_X9_isPart : GoodIn wsX9_turn wsX9_isPart := goodIn_r _ [6, 7, 8, 9, 5, 10, 22, 23, 24, 25, 26, 27, 28, 29, 30, 31, 32, 33, 34, 35, 36, 37, 38, 39, 40, 41, 42, 43, 44, 45, 46, 47, 48, 49, 50] (by decide +kernel) (by decide +kernel)
set_option maxRecDepth 20000 in
theorem gX9_turn_X9_isPart : GoodIn wsX9_turn (wsV RX9 192 RX9 yX9_isPart wsX9_isPart) := goodIn_app (goodIn_of _ (by decide +kernel)) ggX9_turn_X9_isPart
set_option maxRecDepth 20000 in
theorem ggX9_turn_X9_of : GoodIn wsX9_turn wsX9_of := goodIn_r _ [14, 7, 22, 23, 24, 25, 26, 27, 28, 29, 30, 31, 32, 33, 34, 35, 36, 37, 38, 39, 40, 41, 42, 43, 44, 45, 46, 47, 48, 49, 50] (by decide +kernel) (by decide +kernel)
set_option maxRecDepth 20000 in
theorem gX9_turn_X9_of : GoodIn wsX9_turn (wsV RX9 195 RX9 yX9_of wsX9_of) := goodIn_app (goodIn_of _ (by decide +kernel)) ggX9_turn_X9_of
set_option maxRecDepth 20000 in
theorem ggX9_turn_X9_in : GoodIn wsX9_turn wsX9_in := goodIn_r _ [10] (by decide +kernel) (by decide +kernel)
set_option maxRecDepth 20000 in
theorem gX9_turn_X9_in : GoodIn wsX9_turn (va_wsS RX9 63 yX9_in wsX9_in) := goodIn_app (goodIn_of _ (by decide +kernel)) ggX9_turn_X9_in
set_option maxRecDepth 20000 in
theorem ggX9_turn_X9_has : GoodIn wsX9_turn wsX9_has := goodIn_r _ [17] (by decide +kernel) (by decide +kernel)
set_option maxRecDepth 20000 in
theorem gX9_turn_X9_has : GoodIn wsX9_turn (va_wsS RX9 201 yX9_has wsX9_has) := goodIn_app (goodIn_of _ (by decide +kernel)) ggX9_turn_X9_has
set_option maxRecDepth 20000 in
theorem ggX9_turn_X9_lays : GoodIn wsX9_turn wsX9_lays := goodIn_r _ [21, 7, 22, 23, 24, 25, 26, 27, 28, 29, 30, 31, 32, 33, 34, 35, 36, 37, 38, 39, 40, 41, 42, 43, 44, 45, 46, 47, 48, 49, 50] (by decide +kernel) (by decide +kernel)
set_option maxRecDepth 20000 in
theorem gX9_turn_X9_lays : GoodIn wsX9_turn (wsV RX9 198 RX9 yX9_lays wsX9_lays) := goodIn_app (goodIn_of _ (by decide +kernel)) ggX9_turn_X9_lays
theorem dX9_turn_0 : decode cX9_turn 0 = .ok (.aload_n 0, 1) := by decide +kernel
theorem dX9_turn_1 : decode cX9_turn 1 = .ok (.iconst 0, 1) := by decide +kernel
theorem dX9_turn_2 : decode cX9_turn 2 = .ok (.putfield 51, 3) := by decide +kernel
theorem dX9_turn_5 : decode cX9_turn 5 = .ok (.aload_n 0, 1) := by decide +kernel
theorem dX9_turn_6 : decode cX9_turn 6 = .ok (.iload_n 1, 1) := by decide +kernel
theorem dX9_turn_7 : decode cX9_turn 7 = .ok (.invokevirtual 192, 3) := by decide +kernel
theorem dX9_turn_10 : decode cX9_turn 10 = .ok (.ifCond .eq 19, 3) := by decide +kernel
theorem dX9_turn_13 : decode cX9_turn 13 = .ok (.iload_n 2, 1) := by decide +kernel
theorem dX9_turn_14 : decode cX9_turn 14 = .ok (.iconst 1, 1) := by decide +kernel
theorem dX9_turn_15 : decode cX9_turn 15 = .ok (.aload_n 0, 1) := by decide +kernel
theorem dX9_turn_16 : decode cX9_turn 16 = .ok (.iload_n 1, 1) := by decide +kernel
theorem dX9_turn_17 : decode cX9_turn 17 = .ok (.iconst 0, 1) := by decide +kernel
theorem dX9_turn_18 : decode cX9_turn 18 = .ok (.invokevirtual 195, 3) := by decide +kernel
theorem dX9_turn_21 : decode cX9_turn 21 = .ok (.iconst 1, 1) := by decide +kernel
theorem dX9_turn_22 : decode cX9_turn 22 = .ok (.isub, 1) := by decide +kernel
theorem dX9_turn_23 : decode cX9_turn 23 = .ok (.invokestatic 63, 3) := by decide +kernel
theorem dX9_turn_26 : decode cX9_turn 26 = .ok (.ifCond .ne 5, 3) := by decide +kernel
theorem dX9_turn_29 : decode cX9_turn 29 = .ok (.iconst 0, 1) := by decide +kernel
theorem dX9_turn_30 : decode cX9_turn 30 = .ok (.ireturn, 1) := by decide +kernel
theorem dX9_turn_31 : decode cX9_turn 31 = .ok (.aload_n 0, 1) := by decide +kernel
theorem dX9_turn_32 : decode cX9_turn 32 = .ok (.iload_n 1, 1) := by decide +kernel
theorem dX9_turn_33 : decode cX9_turn 33 = .ok (.iconst 0, 1) := by decide +kernel
theorem dX9_turn_34 : decode cX9_turn 34 = .ok (.invokevirtual 195, 3) := by decide +kernel
theorem dX9_turn_37 : decode cX9_turn 37 = .ok (.istore_n 3, 1) := by decide +kernel
theorem dX9_turn_38 : decode cX9_turn 38 = .ok (.iconst 0, 1) := by decide +kernel
theorem dX9_turn_39 : decode cX9_turn 39 = .ok (.istore 4, 2) := by decide +kernel
theorem dX9_turn_41 : decode cX9_turn 41 = .ok (.iconst 0, 1) := by decide +kernel
theorem dX9_turn_42 : decode cX9_turn 42 = .ok (.istore 5, 2) := by decide +kernel
theorem dX9_turn_44 : decode cX9_turn 44 = .ok (.iload 5, 2) := by decide +kernel
theorem dX9_turn_46 : decode cX9_turn 46 = .ok (.iload_n 3, 1) := by decide +kernel
theorem dX9_turn_47 : decode cX9_turn 47 = .ok (.if_icmp .ge 40, 3) := by decide +kernel
theorem dX9_turn_50 : decode cX9_turn 50 = .ok (.iload 4, 2) := by decide +kernel
theorem dX9_turn_52 : decode cX9_turn 52 = .ok (.aload_n 0, 1) := by decide +kernel
theorem dX9_turn_53 : decode cX9_turn 53 = .ok (.iload_n 1, 1) := by decide +kernel
theorem dX9_turn_54 : decode cX9_turn 54 = .ok (.iconst 2, 1) := by decide +kernel
theorem dX9_turn_55 : decode cX9_turn 55 = .ok (.invokevirtual 195, 3) := by decide +kernel
theorem dX9_turn_58 : decode cX9_turn 58 = .ok (.iload 5, 2) := by decide +kernel
theorem dX9_turn_60 : decode cX9_turn 60 = .ok (.invokestatic 201, 3) := by decide +kernel
theorem dX9_turn_63 : decode cX9_turn 63 = .ok (.ifCond .eq 14, 3) := by decide +kernel
theorem dX9_turn_66 : decode cX9_turn 66 = .ok (.iconst 1, 1) := by decide +kernel
theorem dX9_turn_67 : decode cX9_turn 67 = .ok (.iload 5, 2) := by decide +kernel
theorem dX9_turn_69 : decode cX9_turn 69 = .ok (.iload_n 2, 1) := by decide +kernel
theorem dX9_turn_70 : decode cX9_turn 70 = .ok (.iadd, 1) := by decide +kernel
theorem dX9_turn_71 : decode cX9_turn 71 = .ok (.iload_n 3, 1) := by decide +kernel
theorem dX9_turn_72 : decode cX9_turn 72 = .ok (.irem, 1) := by decide +kernel
theorem dX9_turn_73 : decode cX9_turn 73 = .ok (.ishl, 1) := by decide +kernel
theorem dX9_turn_74 : decode cX9_turn 74 = .ok (.goto 4, 3) := by decide +kernel
theorem dX9_turn_77 : decode cX9_turn 77 = .ok (.iconst 0, 1) := by decide +kernel
theorem dX9_turn_78 : decode cX9_turn 78 = .ok (.ior, 1) := by decide +kernel
theorem dX9_turn_79 : decode cX9_turn 79 = .ok (.istore 4, 2) := by decide +kernel
theorem dX9_turn_81 : decode cX9_turn 81 = .ok (.iinc 5 1, 3) := by decide +kernel
theorem dX9_turn_84 : decode cX9_turn 84 = .ok (.goto (-40), 3) := by decide +kernel
theorem dX9_turn_87 : decode cX9_turn 87 = .ok (.aload_n 0, 1) := by decide +kernel
theorem dX9_turn_88 : decode cX9_turn 88 = .ok (.iload_n 1, 1) := by decide +kernel
theorem dX9_turn_89 : decode cX9_turn 89 = .ok (.iconst 2, 1) := by decide +kernel
theorem dX9_turn_90 : decode cX9_turn 90 = .ok (.iload 4, 2) := by decide +kernel
theorem dX9_turn_92 : decode cX9_turn 92 = .ok (.invokevirtual 198, 3) := by decide +kernel
theorem dX9_turn_95 : decode cX9_turn 95 = .ok (.iconst 1, 1) := by decide +kernel
theorem dX9_turn_96 : decode cX9_turn 96 = .ok (.ireturn, 1) := by decide +kernel
set_option maxRecDepth 20000 in
theorem ggX9_swap_X9_isPart : GoodIn wsX9_swap wsX9_isPart := goodIn_r _ [6, 7, 8, 9, 5, 10, 19, 20, 21, 22, 23, 24, 25, 26, 27, 28, 29, 30, 31, 32, 33, 34, 35, 36, 37, 38, 39, 40, 41, 42, 43, 44, 45, 46, 47] (by decide +kernel) (by decide +kernel)
set_option maxRecDepth 20000 in
theorem gX9_swap_X9_isPart : GoodIn wsX9_swap (wsV RX9 192 RX9 yX9_isPart wsX9_isPart) := goodIn_app (goodIn_of _ (by decide +kernel)) ggX9_swap_X9_isPart
set_option maxRecDepth 20000 in
theorem ggX9_swap_X9_of : GoodIn wsX9_swap wsX9_of := goodIn_r _ [14, 7, 19, 20, 21, 22, 23, 24, 25, 26, 27, 28, 29, 30, 31, 32, 33, 34, 35, 36, 37, 38, 39, 40, 41, 42, 43, 44, 45, 46, 47] (by decide +kernel) (by decide +kernel)
set_option maxRecDepth 20000 in
theorem gX9_swap_X9_of : GoodIn wsX9_swap (wsV RX9 195 RX9 yX9_of wsX9_of) := goodIn_app (goodIn_of _ (by decide +kernel)) ggX9_swap_X9_of
set_option maxRecDepth 20000 in
theorem ggX9_swap_X9_lays : GoodIn wsX9_swap wsX9_lays := goodIn_r _ [18, 7, 19, 20, 21, 22, 23, 24, 25, 26, 27, 28, 29, 30, 31, 32, 33, 34, 35, 36, 37, 38, 39, 40, 41, 42, 43, 44, 45, 46, 47] (by decide +kernel) (by decide +kernel)
set_option maxRecDepth 20000 in
theorem gX9_swap_X9_lays : GoodIn wsX9_swap (wsV RX9 198 RX9 yX9_lays wsX9_lays) := goodIn_app (goodIn_of _ (by decide +kernel)) ggX9_swap_X9_lays
theorem dX9_swap_0 : decode cX9_swap 0 = .ok (.aload_n 0, 1) := by decide +kernel
theorem dX9_swap_1 : decode cX9_swap 1 = .ok (.iconst 0, 1) := by decide +kernel
theorem dX9_swap_2 : decode cX9_swap 2 = .ok (.putfield 51, 3) := by decide +kernel
theorem dX9_swap_5 : decode cX9_swap 5 = .ok (.aload_n 0, 1) := by decide +kernel
theorem dX9_swap_6 : decode cX9_swap 6 = .ok (.iload_n 1, 1) := by decide +kernel
theorem dX9_swap_7 : decode cX9_swap 7 = .ok (.invokevirtual 192, 3) := by decide +kernel
theorem dX9_swap_10 : decode cX9_swap 10 = .ok (.ifCond .eq 16, 3) := by decide +kernel
theorem dX9_swap_13 : decode cX9_swap 13 = .ok (.aload_n 0, 1) := by decide +kernel
theorem dX9_swap_14 : decode cX9_swap 14 = .ok (.iload_n 2, 1) := by decide +kernel
theorem dX9_swap_15 : decode cX9_swap 15 = .ok (.invokevirtual 192, 3) := by decide +kernel
theorem dX9_swap_18 : decode cX9_swap 18 = .ok (.ifCond .eq 8, 3) := by decide +kernel
theorem dX9_swap_21 : decode cX9_swap 21 = .ok (.iload_n 1, 1) := by decide +kernel
theorem dX9_swap_22 : decode cX9_swap 22 = .ok (.iload_n 2, 1) := by decide +kernel
theorem dX9_swap_23 : decode cX9_swap 23 = .ok (.if_icmp .ne 5, 3) := by decide +kernel
theorem dX9_swap_26 : decode cX9_swap 26 = .ok (.iconst 0, 1) := by decide +kernel
theorem dX9_swap_27 : decode cX9_swap 27 = .ok (.ireturn, 1) := by decide +kernel
theorem dX9_swap_28 : decode cX9_swap 28 = .ok (.iconst 0, 1) := by decide +kernel
theorem dX9_swap_29 : decode cX9_swap 29 = .ok (.istore_n 3, 1) := by decide +kernel
theorem dX9_swap_30 : decode cX9_swap 30 = .ok (.iload_n 3, 1) := by decide +kernel
theorem dX9_swap_31 : decode cX9_swap 31 = .ok (.iconst 3, 1) := by decide +kernel
theorem dX9_swap_32 : decode cX9_swap 32 = .ok (.if_icmp .ge 37, 3) := by decide +kernel
theorem dX9_swap_35 : decode cX9_swap 35 = .ok (.aload_n 0, 1) := by decide +kernel
theorem dX9_swap_36 : decode cX9_swap 36 = .ok (.iload_n 1, 1) := by decide +kernel
theorem dX9_swap_37 : decode cX9_swap 37 = .ok (.iload_n 3, 1) := by decide +kernel
theorem dX9_swap_38 : decode cX9_swap 38 = .ok (.invokevirtual 195, 3) := by decide +kernel
theorem dX9_swap_41 : decode cX9_swap 41 = .ok (.istore 4, 2) := by decide +kernel
theorem dX9_swap_43 : decode cX9_swap 43 = .ok (.aload_n 0, 1) := by decide +kernel
theorem dX9_swap_44 : decode cX9_swap 44 = .ok (.iload_n 1, 1) := by decide +kernel
theorem dX9_swap_45 : decode cX9_swap 45 = .ok (.iload_n 3, 1) := by decide +kernel
theorem dX9_swap_46 : decode cX9_swap 46 = .ok (.aload_n 0, 1) := by decide +kernel
theorem dX9_swap_47 : decode cX9_swap 47 = .ok (.iload_n 2, 1) := by decide +kernel
theorem dX9_swap_48 : decode cX9_swap 48 = .ok (.iload_n 3, 1) := by decide +kernel
theorem dX9_swap_49 : decode cX9_swap 49 = .ok (.invokevirtual 195, 3) := by decide +kernel
theorem dX9_swap_52 : decode cX9_swap 52 = .ok (.invokevirtual 198, 3) := by decide +kernel
theorem dX9_swap_55 : decode cX9_swap 55 = .ok (.aload_n 0, 1) := by decide +kernel
theorem dX9_swap_56 : decode cX9_swap 56 = .ok (.iload_n 2, 1) := by decide +kernel
theorem dX9_swap_57 : decode cX9_swap 57 = .ok (.iload_n 3, 1) := by decide +kernel
theorem dX9_swap_58 : decode cX9_swap 58 = .ok (.iload 4, 2) := by decide +kernel
theorem dX9_swap_60 : decode cX9_swap 60 = .ok (.invokevirtual 198, 3) := by decide +kernel
theorem dX9_swap_63 : decode cX9_swap 63 = .ok (.iinc 3 1, 3) := by decide +kernel
theorem dX9_swap_66 : decode cX9_swap 66 = .ok (.goto (-36), 3) := by decide +kernel
theorem dX9_swap_69 : decode cX9_swap 69 = .ok (.iconst 1, 1) := by decide +kernel
theorem dX9_swap_70 : decode cX9_swap 70 = .ok (.ireturn, 1) := by decide +kernel
set_option maxRecDepth 20000 in
theorem ggX9_commonOf_X9_has : GoodIn wsX9_commonOf wsX9_has := goodIn_r _ [5] (by decide +kernel) (by decide +kernel)
set_option maxRecDepth 20000 in
theorem gX9_commonOf_X9_has : GoodIn wsX9_commonOf (va_wsS RX9 201 yX9_has wsX9_has) := goodIn_app (goodIn_of _ (by decide +kernel)) ggX9_commonOf_X9_has
set_option maxRecDepth 20000 in
theorem ggX9_commonOf_X9_of : GoodIn wsX9_commonOf wsX9_of := goodIn_r _ [9, 1, 16, 17, 18, 19, 20, 21, 22, 23, 24, 25, 26, 27, 28, 29, 30, 31, 32, 33, 34, 35, 36, 37, 38, 39, 40, 41, 42, 43, 44] (by decide +kernel) (by decide +kernel)
set_option maxRecDepth 20000 in
theorem gX9_commonOf_X9_of : GoodIn wsX9_commonOf (wsV RX9 195 RX9 yX9_of wsX9_of) := goodIn_app (goodIn_of _ (by decide +kernel)) ggX9_commonOf_X9_of
set_option maxRecDepth 20000 in
theorem ggX9_commonOf_X9_common : GoodIn wsX9_commonOf wsX9_common := goodIn_r _ [12, 13, 14, 4, 15] (by decide +kernel) (by decide +kernel)
set_option maxRecDepth 20000 in
theorem gX9_commonOf_X9_common : GoodIn wsX9_commonOf (va_wsS RX9 204 yX9_common wsX9_common) := goodIn_app (goodIn_of _ (by decide +kernel)) ggX9_commonOf_X9_common
theorem dX9_commonOf_0 : decode cX9_commonOf 0 = .ok (.iconst 1, 1) := by decide +kernel
theorem dX9_commonOf_1 : decode cX9_commonOf 1 = .ok (.istore_n 2, 1) := by decide +kernel
theorem dX9_commonOf_2 : decode cX9_commonOf 2 = .ok (.iconst 0, 1) := by decide +kernel
theorem dX9_commonOf_3 : decode cX9_commonOf 3 = .ok (.istore_n 3, 1) := by decide +kernel
theorem dX9_commonOf_4 : decode cX9_commonOf 4 = .ok (.iload_n 3, 1) := by decide +kernel
theorem dX9_commonOf_5 : decode cX9_commonOf 5 = .ok (.aload_n 0, 1) := by decide +kernel
theorem dX9_commonOf_6 : decode cX9_commonOf 6 = .ok (.getfield 7, 3) := by decide +kernel
theorem dX9_commonOf_9 : decode cX9_commonOf 9 = .ok (.iconst 0, 1) := by decide +kernel
theorem dX9_commonOf_10 : decode cX9_commonOf 10 = .ok (.iaload, 1) := by decide +kernel
theorem dX9_commonOf_11 : decode cX9_commonOf 11 = .ok (.if_icmp .ge 32, 3) := by decide +kernel
theorem dX9_commonOf_14 : decode cX9_commonOf 14 = .ok (.iload_n 1, 1) := by decide +kernel
theorem dX9_commonOf_15 : decode cX9_commonOf 15 = .ok (.iload_n 3, 1) := by decide +kernel
theorem dX9_commonOf_16 : decode cX9_commonOf 16 = .ok (.invokestatic 201, 3) := by decide +kernel
theorem dX9_commonOf_19 : decode cX9_commonOf 19 = .ok (.ifCond .eq 16, 3) := by decide +kernel
theorem dX9_commonOf_22 : decode cX9_commonOf 22 = .ok (.iload_n 2, 1) := by decide +kernel
theorem dX9_commonOf_23 : decode cX9_commonOf 23 = .ok (.aload_n 0, 1) := by decide +kernel
theorem dX9_commonOf_24 : decode cX9_commonOf 24 = .ok (.iload_n 3, 1) := by decide +kernel
theorem dX9_commonOf_25 : decode cX9_commonOf 25 = .ok (.iconst 0, 1) := by decide +kernel
theorem dX9_commonOf_26 : decode cX9_commonOf 26 = .ok (.invokevirtual 195, 3) := by decide +kernel
theorem dX9_commonOf_29 : decode cX9_commonOf 29 = .ok (.invokestatic 204, 3) := by decide +kernel
theorem dX9_commonOf_32 : decode cX9_commonOf 32 = .ok (.goto 4, 3) := by decide +kernel
theorem dX9_commonOf_35 : decode cX9_commonOf 35 = .ok (.iload_n 2, 1) := by decide +kernel
theorem dX9_commonOf_36 : decode cX9_commonOf 36 = .ok (.istore_n 2, 1) := by decide +kernel
theorem dX9_commonOf_37 : decode cX9_commonOf 37 = .ok (.iinc 3 1, 3) := by decide +kernel
theorem dX9_commonOf_40 : decode cX9_commonOf 40 = .ok (.goto (-36), 3) := by decide +kernel
theorem dX9_commonOf_43 : decode cX9_commonOf 43 = .ok (.iload_n 2, 1) := by decide +kernel
theorem dX9_commonOf_44 : decode cX9_commonOf 44 = .ok (.ireturn, 1) := by decide +kernel
theorem dX9_everyPart_0 : decode cX9_everyPart 0 = .ok (.iconst 1, 1) := by decide +kernel
theorem dX9_everyPart_1 : decode cX9_everyPart 1 = .ok (.aload_n 0, 1) := by decide +kernel
theorem dX9_everyPart_2 : decode cX9_everyPart 2 = .ok (.getfield 7, 3) := by decide +kernel
theorem dX9_everyPart_5 : decode cX9_everyPart 5 = .ok (.iconst 0, 1) := by decide +kernel
theorem dX9_everyPart_6 : decode cX9_everyPart 6 = .ok (.iaload, 1) := by decide +kernel
theorem dX9_everyPart_7 : decode cX9_everyPart 7 = .ok (.ishl, 1) := by decide +kernel
theorem dX9_everyPart_8 : decode cX9_everyPart 8 = .ok (.iconst 1, 1) := by decide +kernel
theorem dX9_everyPart_9 : decode cX9_everyPart 9 = .ok (.isub, 1) := by decide +kernel
theorem dX9_everyPart_10 : decode cX9_everyPart 10 = .ok (.ireturn, 1) := by decide +kernel
set_option maxRecDepth 20000 in
theorem ggX9_chipOf_X9_of : GoodIn wsX9_chipOf wsX9_of := goodIn_r _ [5, 6, 13, 14, 15, 16, 17, 18, 19, 20, 21, 22, 23, 24, 25, 26, 27, 28, 29, 30, 31, 32, 33, 34, 35, 36, 37, 38, 39, 40, 41] (by decide +kernel) (by decide +kernel)
set_option maxRecDepth 20000 in
theorem gX9_chipOf_X9_of : GoodIn wsX9_chipOf (wsV RX9 195 RX9 yX9_of wsX9_of) := goodIn_app (goodIn_of _ (by decide +kernel)) ggX9_chipOf_X9_of
set_option maxRecDepth 20000 in
theorem ggX9_chipOf_X9_rest : GoodIn wsX9_chipOf wsX9_rest := goodIn_r _ [9] (by decide +kernel) (by decide +kernel)
set_option maxRecDepth 20000 in
theorem gX9_chipOf_X9_rest : GoodIn wsX9_chipOf (va_wsS RX9 55 yX9_rest wsX9_rest) := goodIn_app (goodIn_of _ (by decide +kernel)) ggX9_chipOf_X9_rest
set_option maxRecDepth 20000 in
theorem ggX9_chipOf_X9_has : GoodIn wsX9_chipOf wsX9_has := goodIn_r _ [12] (by decide +kernel) (by decide +kernel)
set_option maxRecDepth 20000 in
theorem gX9_chipOf_X9_has : GoodIn wsX9_chipOf (va_wsS RX9 201 yX9_has wsX9_has) := goodIn_app (goodIn_of _ (by decide +kernel)) ggX9_chipOf_X9_has
theorem dX9_chipOf_0 : decode cX9_chipOf 0 = .ok (.aload_n 0, 1) := by decide +kernel
theorem dX9_chipOf_1 : decode cX9_chipOf 1 = .ok (.iload_n 1, 1) := by decide +kernel
theorem dX9_chipOf_2 : decode cX9_chipOf 2 = .ok (.iconst 2, 1) := by decide +kernel
theorem dX9_chipOf_3 : decode cX9_chipOf 3 = .ok (.invokevirtual 195, 3) := by decide +kernel
theorem dX9_chipOf_6 : decode cX9_chipOf 6 = .ok (.iload_n 2, 1) := by decide +kernel
theorem dX9_chipOf_7 : decode cX9_chipOf 7 = .ok (.aload_n 0, 1) := by decide +kernel
theorem dX9_chipOf_8 : decode cX9_chipOf 8 = .ok (.iload_n 1, 1) := by decide +kernel
theorem dX9_chipOf_9 : decode cX9_chipOf 9 = .ok (.iconst 0, 1) := by decide +kernel
theorem dX9_chipOf_10 : decode cX9_chipOf 10 = .ok (.invokevirtual 195, 3) := by decide +kernel
theorem dX9_chipOf_13 : decode cX9_chipOf 13 = .ok (.invokestatic 55, 3) := by decide +kernel
theorem dX9_chipOf_16 : decode cX9_chipOf 16 = .ok (.invokestatic 201, 3) := by decide +kernel
theorem dX9_chipOf_19 : decode cX9_chipOf 19 = .ok (.ireturn, 1) := by decide +kernel
set_option maxRecDepth 20000 in
theorem ggX9_chipAt_X9_chipOf : GoodIn wsX9_chipAt wsX9_chipOf := goodIn_r _ [6, 7, 8, 9, 5, 10, 1, 11, 12, 13, 14, 15, 16, 17, 18, 19, 20, 21, 22, 23, 24, 25, 26, 27, 28, 29, 30, 31, 32, 33, 34, 35, 36, 37, 38, 39, 40, 41, 42, 43, 44, 45] (by decide +kernel) (by decide +kernel)
set_option maxRecDepth 20000 in
theorem gX9_chipAt_X9_chipOf : GoodIn wsX9_chipAt (wsV RX9 207 RX9 yX9_chipOf wsX9_chipOf) := goodIn_app (goodIn_of _ (by decide +kernel)) ggX9_chipAt_X9_chipOf
set_option maxRecDepth 20000 in
theorem ggX9_chipAt_X9_of : GoodIn wsX9_chipAt wsX9_of := goodIn_r _ [10, 1, 17, 18, 19, 20, 21, 22, 23, 24, 25, 26, 27, 28, 29, 30, 31, 32, 33, 34, 35, 36, 37, 38, 39, 40, 41, 42, 43, 44, 45] (by decide +kernel) (by decide +kernel)
set_option maxRecDepth 20000 in
theorem gX9_chipAt_X9_of : GoodIn wsX9_chipAt (wsV RX9 195 RX9 yX9_of wsX9_of) := goodIn_app (goodIn_of _ (by decide +kernel)) ggX9_chipAt_X9_of
theorem dX9_chipAt_0 : decode cX9_chipAt 0 = .ok (.iconst 0, 1) := by decide +kernel
theorem dX9_chipAt_1 : decode cX9_chipAt 1 = .ok (.istore_n 2, 1) := by decide +kernel
theorem dX9_chipAt_2 : decode cX9_chipAt 2 = .ok (.iconst 0, 1) := by decide +kernel
theorem dX9_chipAt_3 : decode cX9_chipAt 3 = .ok (.istore_n 3, 1) := by decide +kernel
theorem dX9_chipAt_4 : decode cX9_chipAt 4 = .ok (.iload_n 3, 1) := by decide +kernel
theorem dX9_chipAt_5 : decode cX9_chipAt 5 = .ok (.aload_n 0, 1) := by decide +kernel
theorem dX9_chipAt_6 : decode cX9_chipAt 6 = .ok (.getfield 7, 3) := by decide +kernel
theorem dX9_chipAt_9 : decode cX9_chipAt 9 = .ok (.iconst 0, 1) := by decide +kernel
theorem dX9_chipAt_10 : decode cX9_chipAt 10 = .ok (.iaload, 1) := by decide +kernel
theorem dX9_chipAt_11 : decode cX9_chipAt 11 = .ok (.if_icmp .ge 37, 3) := by decide +kernel
theorem dX9_chipAt_14 : decode cX9_chipAt 14 = .ok (.iload_n 2, 1) := by decide +kernel
theorem dX9_chipAt_15 : decode cX9_chipAt 15 = .ok (.aload_n 0, 1) := by decide +kernel
theorem dX9_chipAt_16 : decode cX9_chipAt 16 = .ok (.iload_n 3, 1) := by decide +kernel
theorem dX9_chipAt_17 : decode cX9_chipAt 17 = .ok (.iload_n 1, 1) := by decide +kernel
theorem dX9_chipAt_18 : decode cX9_chipAt 18 = .ok (.invokevirtual 207, 3) := by decide +kernel
theorem dX9_chipAt_21 : decode cX9_chipAt 21 = .ok (.ifCond .eq 12, 3) := by decide +kernel
theorem dX9_chipAt_24 : decode cX9_chipAt 24 = .ok (.aload_n 0, 1) := by decide +kernel
theorem dX9_chipAt_25 : decode cX9_chipAt 25 = .ok (.iload_n 3, 1) := by decide +kernel
theorem dX9_chipAt_26 : decode cX9_chipAt 26 = .ok (.iconst 1, 1) := by decide +kernel
theorem dX9_chipAt_27 : decode cX9_chipAt 27 = .ok (.invokevirtual 195, 3) := by decide +kernel
theorem dX9_chipAt_30 : decode cX9_chipAt 30 = .ok (.goto 10, 3) := by decide +kernel
theorem dX9_chipAt_33 : decode cX9_chipAt 33 = .ok (.aload_n 0, 1) := by decide +kernel
theorem dX9_chipAt_34 : decode cX9_chipAt 34 = .ok (.iload_n 3, 1) := by decide +kernel
theorem dX9_chipAt_35 : decode cX9_chipAt 35 = .ok (.iconst 1, 1) := by decide +kernel
theorem dX9_chipAt_36 : decode cX9_chipAt 36 = .ok (.invokevirtual 195, 3) := by decide +kernel
theorem dX9_chipAt_39 : decode cX9_chipAt 39 = .ok (.ineg, 1) := by decide +kernel
theorem dX9_chipAt_40 : decode cX9_chipAt 40 = .ok (.iadd, 1) := by decide +kernel
theorem dX9_chipAt_41 : decode cX9_chipAt 41 = .ok (.istore_n 2, 1) := by decide +kernel
theorem dX9_chipAt_42 : decode cX9_chipAt 42 = .ok (.iinc 3 1, 3) := by decide +kernel
theorem dX9_chipAt_45 : decode cX9_chipAt 45 = .ok (.goto (-41), 3) := by decide +kernel
theorem dX9_chipAt_48 : decode cX9_chipAt 48 = .ok (.iload_n 2, 1) := by decide +kernel
theorem dX9_chipAt_49 : decode cX9_chipAt 49 = .ok (.ifCond .eq 15, 3) := by decide +kernel
theorem dX9_chipAt_52 : decode cX9_chipAt 52 = .ok (.iload_n 2, 1) := by decide +kernel
theorem dX9_chipAt_53 : decode cX9_chipAt 53 = .ok (.ifCond .le 7, 3) := by decide +kernel
theorem dX9_chipAt_56 : decode cX9_chipAt 56 = .ok (.iconst 1, 1) := by decide +kernel
theorem dX9_chipAt_57 : decode cX9_chipAt 57 = .ok (.goto 30, 3) := by decide +kernel
theorem dX9_chipAt_60 : decode cX9_chipAt 60 = .ok (.iconst 0, 1) := by decide +kernel
theorem dX9_chipAt_61 : decode cX9_chipAt 61 = .ok (.goto 26, 3) := by decide +kernel
theorem dX9_chipAt_64 : decode cX9_chipAt 64 = .ok (.aload_n 0, 1) := by decide +kernel
theorem dX9_chipAt_65 : decode cX9_chipAt 65 = .ok (.getfield 7, 3) := by decide +kernel
theorem dX9_chipAt_68 : decode cX9_chipAt 68 = .ok (.iconst 0, 1) := by decide +kernel
theorem dX9_chipAt_69 : decode cX9_chipAt 69 = .ok (.iaload, 1) := by decide +kernel
theorem dX9_chipAt_70 : decode cX9_chipAt 70 = .ok (.ifCond .le 16, 3) := by decide +kernel
theorem dX9_chipAt_73 : decode cX9_chipAt 73 = .ok (.aload_n 0, 1) := by decide +kernel
theorem dX9_chipAt_74 : decode cX9_chipAt 74 = .ok (.iconst 0, 1) := by decide +kernel
theorem dX9_chipAt_75 : decode cX9_chipAt 75 = .ok (.iload_n 1, 1) := by decide +kernel
theorem dX9_chipAt_76 : decode cX9_chipAt 76 = .ok (.invokevirtual 207, 3) := by decide +kernel
theorem dX9_chipAt_79 : decode cX9_chipAt 79 = .ok (.ifCond .eq 7, 3) := by decide +kernel
theorem dX9_chipAt_82 : decode cX9_chipAt 82 = .ok (.iconst 1, 1) := by decide +kernel
theorem dX9_chipAt_83 : decode cX9_chipAt 83 = .ok (.goto 4, 3) := by decide +kernel
