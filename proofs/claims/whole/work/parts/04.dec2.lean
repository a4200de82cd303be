theorem dX8_clean_25 : decode cX8_clean 25 = .ok (.iconst 0, 1) := by decide +kernel
theorem dX8_clean_26 : decode cX8_clean 26 = .ok (.putfield 132, 3) := by decide +kernel
theorem dX8_clean_29 : decode cX8_clean 29 = .ok (.iload_n 3, 1) := by decide +kernel
theorem dX8_clean_30 : decode cX8_clean 30 = .ok (.ireturn, 1) := by decide +kernel
set_option maxRecDepth 20000 in
theorem ggX8_turn_X7_hasPart : GoodIn wsX8_turn wsX7_hasPart := goodIn_r _ [8, 9, 22, 23, 24, 25, 26, 27] (by decide +kernel) (by decide +kernel)
set_option maxRecDepth 20000 in
theorem gX8_turn_X7_hasPart : GoodIn wsX8_turn (wsV RX8 119 RX7 yX7_hasPart wsX7_hasPart) := goodIn_app (goodIn_of _ (by decide +kernel)) ggX8_turn_X7_hasPart
set_option maxRecDepth 20000 in
theorem ggX8_turn_X8_turned : GoodIn wsX8_turn wsX8_turned := goodIn_r _ [13] (by decide +kernel) (by decide +kernel)
set_option maxRecDepth 20000 in
theorem gX8_turn_X8_turned : GoodIn wsX8_turn (va_wsS RX8 141 yX8_turned wsX8_turned) := goodIn_app (goodIn_of _ (by decide +kernel)) ggX8_turn_X8_turned
theorem dX8_turn_0 : decode cX8_turn 0 = .ok (.aload_n 0, 1) := by decide +kernel
theorem dX8_turn_1 : decode cX8_turn 1 = .ok (.getfield 24, 3) := by decide +kernel
theorem dX8_turn_4 : decode cX8_turn 4 = .ok (.iload_n 1, 1) := by decide +kernel
theorem dX8_turn_5 : decode cX8_turn 5 = .ok (.invokevirtual 119, 3) := by decide +kernel
theorem dX8_turn_8 : decode cX8_turn 8 = .ok (.ifCond .eq 21, 3) := by decide +kernel
theorem dX8_turn_11 : decode cX8_turn 11 = .ok (.iload_n 2, 1) := by decide +kernel
theorem dX8_turn_12 : decode cX8_turn 12 = .ok (.iconst 1, 1) := by decide +kernel
theorem dX8_turn_13 : decode cX8_turn 13 = .ok (.if_icmp .lt 16, 3) := by decide +kernel
theorem dX8_turn_16 : decode cX8_turn 16 = .ok (.iload_n 2, 1) := by decide +kernel
theorem dX8_turn_17 : decode cX8_turn 17 = .ok (.aload_n 0, 1) := by decide +kernel
theorem dX8_turn_18 : decode cX8_turn 18 = .ok (.getfield 24, 3) := by decide +kernel
theorem dX8_turn_21 : decode cX8_turn 21 = .ok (.getfield 135, 3) := by decide +kernel
theorem dX8_turn_24 : decode cX8_turn 24 = .ok (.iload_n 1, 1) := by decide +kernel
theorem dX8_turn_25 : decode cX8_turn 25 = .ok (.iaload, 1) := by decide +kernel
theorem dX8_turn_26 : decode cX8_turn 26 = .ok (.if_icmp .lt 5, 3) := by decide +kernel
theorem dX8_turn_29 : decode cX8_turn 29 = .ok (.iconst 0, 1) := by decide +kernel
theorem dX8_turn_30 : decode cX8_turn 30 = .ok (.ireturn, 1) := by decide +kernel
theorem dX8_turn_31 : decode cX8_turn 31 = .ok (.aload_n 0, 1) := by decide +kernel
theorem dX8_turn_32 : decode cX8_turn 32 = .ok (.getfield 24, 3) := by decide +kernel
theorem dX8_turn_35 : decode cX8_turn 35 = .ok (.getfield 138, 3) := by decide +kernel
theorem dX8_turn_38 : decode cX8_turn 38 = .ok (.iload_n 1, 1) := by decide +kernel
theorem dX8_turn_39 : decode cX8_turn 39 = .ok (.aload_n 0, 1) := by decide +kernel
theorem dX8_turn_40 : decode cX8_turn 40 = .ok (.getfield 24, 3) := by decide +kernel
theorem dX8_turn_43 : decode cX8_turn 43 = .ok (.getfield 138, 3) := by decide +kernel
theorem dX8_turn_46 : decode cX8_turn 46 = .ok (.iload_n 1, 1) := by decide +kernel
theorem dX8_turn_47 : decode cX8_turn 47 = .ok (.iaload, 1) := by decide +kernel
theorem dX8_turn_48 : decode cX8_turn 48 = .ok (.aload_n 0, 1) := by decide +kernel
theorem dX8_turn_49 : decode cX8_turn 49 = .ok (.getfield 24, 3) := by decide +kernel
theorem dX8_turn_52 : decode cX8_turn 52 = .ok (.getfield 135, 3) := by decide +kernel
theorem dX8_turn_55 : decode cX8_turn 55 = .ok (.iload_n 1, 1) := by decide +kernel
theorem dX8_turn_56 : decode cX8_turn 56 = .ok (.iaload, 1) := by decide +kernel
theorem dX8_turn_57 : decode cX8_turn 57 = .ok (.iload_n 2, 1) := by decide +kernel
theorem dX8_turn_58 : decode cX8_turn 58 = .ok (.invokestatic 141, 3) := by decide +kernel
theorem dX8_turn_61 : decode cX8_turn 61 = .ok (.iastore, 1) := by decide +kernel
theorem dX8_turn_62 : decode cX8_turn 62 = .ok (.iconst 1, 1) := by decide +kernel
theorem dX8_turn_63 : decode cX8_turn 63 = .ok (.ireturn, 1) := by decide +kernel
set_option maxRecDepth 20000 in
theorem ggX8_swap_X7_hasPart : GoodIn wsX8_swap wsX7_hasPart := goodIn_r _ [9, 10, 23, 24, 25, 26, 27, 28] (by decide +kernel) (by decide +kernel)
set_option maxRecDepth 20000 in
theorem gX8_swap_X7_hasPart : GoodIn wsX8_swap (wsV RX8 119 RX7 yX7_hasPart wsX7_hasPart) := goodIn_app (goodIn_of _ (by decide +kernel)) ggX8_swap_X7_hasPart
set_option maxRecDepth 20000 in
theorem ggX8_swap_X8_swapIn : GoodIn wsX8_swap wsX8_swapIn := goodIn_r _ [14] (by decide +kernel) (by decide +kernel)
set_option maxRecDepth 20000 in
theorem gX8_swap_X8_swapIn : GoodIn wsX8_swap (va_wsS RX8 145 yX8_swapIn wsX8_swapIn) := goodIn_app (goodIn_of _ (by decide +kernel)) ggX8_swap_X8_swapIn
theorem dX8_swap_0 : decode cX8_swap 0 = .ok (.aload_n 0, 1) := by decide +kernel
theorem dX8_swap_1 : decode cX8_swap 1 = .ok (.getfield 24, 3) := by decide +kernel
theorem dX8_swap_4 : decode cX8_swap 4 = .ok (.iload_n 1, 1) := by decide +kernel
theorem dX8_swap_5 : decode cX8_swap 5 = .ok (.invokevirtual 119, 3) := by decide +kernel
theorem dX8_swap_8 : decode cX8_swap 8 = .ok (.ifCond .eq 19, 3) := by decide +kernel
theorem dX8_swap_11 : decode cX8_swap 11 = .ok (.aload_n 0, 1) := by decide +kernel
theorem dX8_swap_12 : decode cX8_swap 12 = .ok (.getfield 24, 3) := by decide +kernel
theorem dX8_swap_15 : decode cX8_swap 15 = .ok (.iload_n 2, 1) := by decide +kernel
theorem dX8_swap_16 : decode cX8_swap 16 = .ok (.invokevirtual 119, 3) := by decide +kernel
theorem dX8_swap_19 : decode cX8_swap 19 = .ok (.ifCond .eq 8, 3) := by decide +kernel
theorem dX8_swap_22 : decode cX8_swap 22 = .ok (.iload_n 1, 1) := by decide +kernel
theorem dX8_swap_23 : decode cX8_swap 23 = .ok (.iload_n 2, 1) := by decide +kernel
theorem dX8_swap_24 : decode cX8_swap 24 = .ok (.if_icmp .ne 5, 3) := by decide +kernel
theorem dX8_swap_27 : decode cX8_swap 27 = .ok (.iconst 0, 1) := by decide +kernel
theorem dX8_swap_28 : decode cX8_swap 28 = .ok (.ireturn, 1) := by decide +kernel
theorem dX8_swap_29 : decode cX8_swap 29 = .ok (.aload_n 0, 1) := by decide +kernel
theorem dX8_swap_30 : decode cX8_swap 30 = .ok (.getfield 24, 3) := by decide +kernel
theorem dX8_swap_33 : decode cX8_swap 33 = .ok (.getfield 135, 3) := by decide +kernel
theorem dX8_swap_36 : decode cX8_swap 36 = .ok (.iload_n 1, 1) := by decide +kernel
theorem dX8_swap_37 : decode cX8_swap 37 = .ok (.iload_n 2, 1) := by decide +kernel
theorem dX8_swap_38 : decode cX8_swap 38 = .ok (.invokestatic 145, 3) := by decide +kernel
theorem dX8_swap_41 : decode cX8_swap 41 = .ok (.aload_n 0, 1) := by decide +kernel
theorem dX8_swap_42 : decode cX8_swap 42 = .ok (.getfield 24, 3) := by decide +kernel
theorem dX8_swap_45 : decode cX8_swap 45 = .ok (.getfield 138, 3) := by decide +kernel
theorem dX8_swap_48 : decode cX8_swap 48 = .ok (.iload_n 1, 1) := by decide +kernel
theorem dX8_swap_49 : decode cX8_swap 49 = .ok (.iload_n 2, 1) := by decide +kernel
theorem dX8_swap_50 : decode cX8_swap 50 = .ok (.invokestatic 145, 3) := by decide +kernel
theorem dX8_swap_53 : decode cX8_swap 53 = .ok (.aload_n 0, 1) := by decide +kernel
theorem dX8_swap_54 : decode cX8_swap 54 = .ok (.getfield 24, 3) := by decide +kernel
theorem dX8_swap_57 : decode cX8_swap 57 = .ok (.getfield 122, 3) := by decide +kernel
theorem dX8_swap_60 : decode cX8_swap 60 = .ok (.iload_n 1, 1) := by decide +kernel
theorem dX8_swap_61 : decode cX8_swap 61 = .ok (.iload_n 2, 1) := by decide +kernel
theorem dX8_swap_62 : decode cX8_swap 62 = .ok (.invokestatic 145, 3) := by decide +kernel
theorem dX8_swap_65 : decode cX8_swap 65 = .ok (.iconst 1, 1) := by decide +kernel
theorem dX8_swap_66 : decode cX8_swap 66 = .ok (.ireturn, 1) := by decide +kernel
set_option maxRecDepth 20000 in
theorem ggX8_enough_X7_allParts : GoodIn wsX8_enough wsX7_allParts := goodIn_r _ [8, 9, 36, 37, 38, 39, 40, 41] (by decide +kernel) (by decide +kernel)
set_option maxRecDepth 20000 in
theorem gX8_enough_X7_allParts : GoodIn wsX8_enough (wsV RX8 149 RX7 yX7_allParts wsX7_allParts) := goodIn_app (goodIn_of _ (by decide +kernel)) ggX8_enough_X7_allParts
set_option maxRecDepth 20000 in
theorem ggX8_enough_J6_bitCount_0f7a4 : GoodIn wsX8_enough wsJ6_bitCount_0f7a4 := goodIn_r _ [13, 14, 15, 16] (by decide +kernel) (by decide +kernel)
set_option maxRecDepth 20000 in
theorem gX8_enough_J6_bitCount_0f7a4 : GoodIn wsX8_enough (va_wsS RX8 153 yJ6_bitCount_0f7a4 wsJ6_bitCount_0f7a4) := goodIn_app (goodIn_of _ (by decide +kernel)) ggX8_enough_J6_bitCount_0f7a4
set_option maxRecDepth 20000 in
theorem ggX8_enough_X7_periodOf : GoodIn wsX8_enough wsX7_periodOf := goodIn_r _ [20, 9, 21, 22, 23, 24, 25, 26, 27, 36, 37, 38, 39, 40, 41] (by decide +kernel) (by decide +kernel)
set_option maxRecDepth 20000 in
theorem gX8_enough_X7_periodOf : GoodIn wsX8_enough (wsV RX8 159 RX7 yX7_periodOf wsX7_periodOf) := goodIn_app (goodIn_of _ (by decide +kernel)) ggX8_enough_X7_periodOf
theorem dX8_enough_0 : decode cX8_enough 0 = .ok (.iload_n 1, 1) := by decide +kernel
theorem dX8_enough_1 : decode cX8_enough 1 = .ok (.ifCond .eq 10, 3) := by decide +kernel
theorem dX8_enough_4 : decode cX8_enough 4 = .ok (.iload_n 1, 1) := by decide +kernel
theorem dX8_enough_5 : decode cX8_enough 5 = .ok (.iconst 1, 1) := by decide +kernel
theorem dX8_enough_6 : decode cX8_enough 6 = .ok (.if_icmp .eq 5, 3) := by decide +kernel
theorem dX8_enough_9 : decode cX8_enough 9 = .ok (.iconst (-1), 1) := by decide +kernel
theorem dX8_enough_10 : decode cX8_enough 10 = .ok (.ireturn, 1) := by decide +kernel
theorem dX8_enough_11 : decode cX8_enough 11 = .ok (.aload_n 0, 1) := by decide +kernel
theorem dX8_enough_12 : decode cX8_enough 12 = .ok (.getfield 24, 3) := by decide +kernel
theorem dX8_enough_15 : decode cX8_enough 15 = .ok (.invokevirtual 149, 3) := by decide +kernel
theorem dX8_enough_18 : decode cX8_enough 18 = .ok (.istore_n 2, 1) := by decide +kernel
theorem dX8_enough_19 : decode cX8_enough 19 = .ok (.iconst 0, 1) := by decide +kernel
theorem dX8_enough_20 : decode cX8_enough 20 = .ok (.istore_n 3, 1) := by decide +kernel
theorem dX8_enough_21 : decode cX8_enough 21 = .ok (.iload_n 3, 1) := by decide +kernel
theorem dX8_enough_22 : decode cX8_enough 22 = .ok (.aload_n 0, 1) := by decide +kernel
theorem dX8_enough_23 : decode cX8_enough 23 = .ok (.getfield 24, 3) := by decide +kernel
theorem dX8_enough_26 : decode cX8_enough 26 = .ok (.getfield 96, 3) := by decide +kernel
theorem dX8_enough_29 : decode cX8_enough 29 = .ok (.if_icmp .gt 71, 3) := by decide +kernel
theorem dX8_enough_32 : decode cX8_enough 32 = .ok (.iconst 0, 1) := by decide +kernel
theorem dX8_enough_33 : decode cX8_enough 33 = .ok (.istore 4, 2) := by decide +kernel
theorem dX8_enough_35 : decode cX8_enough 35 = .ok (.iload 4, 2) := by decide +kernel
theorem dX8_enough_37 : decode cX8_enough 37 = .ok (.iload_n 2, 1) := by decide +kernel
theorem dX8_enough_38 : decode cX8_enough 38 = .ok (.if_icmp .gt 56, 3) := by decide +kernel
theorem dX8_enough_41 : decode cX8_enough 41 = .ok (.iload 4, 2) := by decide +kernel
theorem dX8_enough_43 : decode cX8_enough 43 = .ok (.invokestatic 153, 3) := by decide +kernel
theorem dX8_enough_46 : decode cX8_enough 46 = .ok (.iload_n 3, 1) := by decide +kernel
theorem dX8_enough_47 : decode cX8_enough 47 = .ok (.if_icmp .ne 41, 3) := by decide +kernel
theorem dX8_enough_50 : decode cX8_enough 50 = .ok (.aload_n 0, 1) := by decide +kernel
theorem dX8_enough_51 : decode cX8_enough 51 = .ok (.getfield 24, 3) := by decide +kernel
theorem dX8_enough_54 : decode cX8_enough 54 = .ok (.iload 4, 2) := by decide +kernel
theorem dX8_enough_56 : decode cX8_enough 56 = .ok (.invokevirtual 159, 3) := by decide +kernel
theorem dX8_enough_59 : decode cX8_enough 59 = .ok (.aload_n 0, 1) := by decide +kernel
theorem dX8_enough_60 : decode cX8_enough 60 = .ok (.getfield 24, 3) := by decide +kernel
theorem dX8_enough_63 : decode cX8_enough 63 = .ok (.getfield 125, 3) := by decide +kernel
theorem dX8_enough_66 : decode cX8_enough 66 = .ok (.if_icmp .lt 22, 3) := by decide +kernel
theorem dX8_enough_69 : decode cX8_enough 69 = .ok (.iload_n 1, 1) := by decide +kernel
theorem dX8_enough_70 : decode cX8_enough 70 = .ok (.ifCond .ne 8, 3) := by decide +kernel
theorem dX8_enough_73 : decode cX8_enough 73 = .ok (.iload 4, 2) := by decide +kernel
theorem dX8_enough_75 : decode cX8_enough 75 = .ok (.goto 12, 3) := by decide +kernel
theorem dX8_enough_78 : decode cX8_enough 78 = .ok (.aload_n 0, 1) := by decide +kernel
theorem dX8_enough_79 : decode cX8_enough 79 = .ok (.getfield 24, 3) := by decide +kernel
theorem dX8_enough_82 : decode cX8_enough 82 = .ok (.getfield 96, 3) := by decide +kernel
theorem dX8_enough_85 : decode cX8_enough 85 = .ok (.iload_n 3, 1) := by decide +kernel
theorem dX8_enough_86 : decode cX8_enough 86 = .ok (.isub, 1) := by decide +kernel
theorem dX8_enough_87 : decode cX8_enough 87 = .ok (.ireturn, 1) := by decide +kernel
theorem dX8_enough_88 : decode cX8_enough 88 = .ok (.iinc 4 1, 3) := by decide +kernel
theorem dX8_enough_91 : decode cX8_enough 91 = .ok (.goto (-56), 3) := by decide +kernel
theorem dX8_enough_94 : decode cX8_enough 94 = .ok (.iinc 3 1, 3) := by decide +kernel
theorem dX8_enough_97 : decode cX8_enough 97 = .ok (.goto (-76), 3) := by decide +kernel
theorem dX8_enough_100 : decode cX8_enough 100 = .ok (.iconst (-1), 1) := by decide +kernel
theorem dX8_enough_101 : decode cX8_enough 101 = .ok (.ireturn, 1) := by decide +kernel
set_option maxRecDepth 20000 in
theorem ggX8_better_X7_hasPart : GoodIn wsX8_better wsX7_hasPart := goodIn_r _ [8, 9, 95, 96, 97, 98, 99, 100] (by decide +kernel) (by decide +kernel)
set_option maxRecDepth 20000 in
theorem gX8_better_X7_hasPart : GoodIn wsX8_better (wsV RX8 119 RX7 yX7_hasPart wsX7_hasPart) := goodIn_app (goodIn_of _ (by decide +kernel)) ggX8_better_X7_hasPart
set_option maxRecDepth 20000 in
theorem ggX8_better_X6_takeCode : GoodIn wsX8_better wsX6_takeCode := goodIn_r _ [14, 15, 16, 17, 18, 19, 20, 21, 22, 23, 24, 25, 95, 96, 97, 98, 99, 100, 101, 102, 103, 104, 105, 106, 107] (by decide +kernel) (by decide +kernel)
set_option maxRecDepth 20000 in
theorem gX8_better_X6_takeCode : GoodIn wsX8_better (wsV RX8 163 RX6 yX6_takeCode wsX6_takeCode) := goodIn_app (goodIn_of _ (by decide +kernel)) ggX8_better_X6_takeCode
set_option maxRecDepth 20000 in
theorem ggX8_better_X6_countAll : GoodIn wsX8_better wsX6_countAll := goodIn_r _ [29, 30, 17, 31, 32, 33, 34, 35, 36, 37, 13, 38, 19, 39, 40, 41, 42, 43, 44, 45, 46, 47, 48, 49, 50, 51, 52, 53, 25, 54, 55, 56, 57, 58, 59, 60, 20, 21, 22, 23, 101, 102, 103, 104, 105, 106, 107] (by decide +kernel) (by decide +kernel)
set_option maxRecDepth 20000 in
theorem gX8_better_X6_countAll : GoodIn wsX8_better (wsV RX8 166 RX6 yX6_countAll wsX6_countAll) := goodIn_app (goodIn_of _ (by decide +kernel)) ggX8_better_X6_countAll
set_option maxRecDepth 20000 in
theorem ggX8_better_X7_election : GoodIn wsX8_better wsX7_election := goodIn_r _ [64, 65, 66, 5, 6, 7, 8, 9, 67, 68, 69, 70, 71, 72, 73, 74, 95, 96, 97, 98, 99, 100] (by decide +kernel) (by decide +kernel)
set_option maxRecDepth 20000 in
theorem gX8_better_X7_election : GoodIn wsX8_better (wsV RX8 169 RX7 yX7_election wsX7_election) := goodIn_app (goodIn_of _ (by decide +kernel)) ggX8_better_X7_election
set_option maxRecDepth 20000 in
theorem ggX8_better_X6_leastFull : GoodIn wsX8_better wsX6_leastFull := goodIn_r _ [78, 16, 79, 80, 81, 82, 83, 84, 85, 13, 86, 30, 101, 102, 103, 104, 105, 106, 107] (by decide +kernel) (by decide +kernel)
set_option maxRecDepth 20000 in
theorem gX8_better_X6_leastFull : GoodIn wsX8_better (wsV RX8 173 RX6 yX6_leastFull wsX6_leastFull) := goodIn_app (goodIn_of _ (by decide +kernel)) ggX8_better_X6_leastFull
theorem dX8_better_0 : decode cX8_better 0 = .ok (.aload_n 0, 1) := by decide +kernel
theorem dX8_better_1 : decode cX8_better 1 = .ok (.getfield 24, 3) := by decide +kernel
theorem dX8_better_4 : decode cX8_better 4 = .ok (.iload_n 1, 1) := by decide +kernel
theorem dX8_better_5 : decode cX8_better 5 = .ok (.invokevirtual 119, 3) := by decide +kernel
theorem dX8_better_8 : decode cX8_better 8 = .ok (.ifCond .ne 6, 3) := by decide +kernel
theorem dX8_better_11 : decode cX8_better 11 = .ok (.ldc 162, 2) := by decide +kernel
theorem dX8_better_13 : decode cX8_better 13 = .ok (.ireturn, 1) := by decide +kernel
theorem dX8_better_14 : decode cX8_better 14 = .ok (.aload_n 0, 1) := by decide +kernel
theorem dX8_better_15 : decode cX8_better 15 = .ok (.getfield 66, 3) := by decide +kernel
theorem dX8_better_18 : decode cX8_better 18 = .ok (.aload_n 0, 1) := by decide +kernel
theorem dX8_better_19 : decode cX8_better 19 = .ok (.getfield 24, 3) := by decide +kernel
theorem dX8_better_22 : decode cX8_better 22 = .ok (.invokevirtual 163, 3) := by decide +kernel
theorem dX8_better_25 : decode cX8_better 25 = .ok (.aload_n 0, 1) := by decide +kernel
theorem dX8_better_26 : decode cX8_better 26 = .ok (.getfield 66, 3) := by decide +kernel
theorem dX8_better_29 : decode cX8_better 29 = .ok (.invokevirtual 166, 3) := by decide +kernel
theorem dX8_better_32 : decode cX8_better 32 = .ok (.iconst 1, 1) := by decide +kernel
theorem dX8_better_33 : decode cX8_better 33 = .ok (.istore_n 3, 1) := by decide +kernel
theorem dX8_better_34 : decode cX8_better 34 = .ok (.aload_n 0, 1) := by decide +kernel
theorem dX8_better_35 : decode cX8_better 35 = .ok (.getfield 66, 3) := by decide +kernel
theorem dX8_better_38 : decode cX8_better 38 = .ok (.aload_n 0, 1) := by decide +kernel
theorem dX8_better_39 : decode cX8_better 39 = .ok (.getfield 24, 3) := by decide +kernel
theorem dX8_better_42 : decode cX8_better 42 = .ok (.iload_n 1, 1) := by decide +kernel
theorem dX8_better_43 : decode cX8_better 43 = .ok (.iconst 1, 1) := by decide +kernel
theorem dX8_better_44 : decode cX8_better 44 = .ok (.invokevirtual 169, 3) := by decide +kernel
theorem dX8_better_47 : decode cX8_better 47 = .ok (.invokevirtual 173, 3) := by decide +kernel
theorem dX8_better_50 : decode cX8_better 50 = .ok (.istore 4, 2) := by decide +kernel
theorem dX8_better_52 : decode cX8_better 52 = .ok (.iconst 2, 1) := by decide +kernel
theorem dX8_better_53 : decode cX8_better 53 = .ok (.istore 5, 2) := by decide +kernel
theorem dX8_better_55 : decode cX8_better 55 = .ok (.iload 5, 2) := by decide +kernel
theorem dX8_better_57 : decode cX8_better 57 = .ok (.bipush 9, 2) := by decide +kernel
theorem dX8_better_59 : decode cX8_better 59 = .ok (.if_icmp .gt 42, 3) := by decide +kernel
theorem dX8_better_62 : decode cX8_better 62 = .ok (.aload_n 0, 1) := by decide +kernel
theorem dX8_better_63 : decode cX8_better 63 = .ok (.getfield 66, 3) := by decide +kernel
theorem dX8_better_66 : decode cX8_better 66 = .ok (.aload_n 0, 1) := by decide +kernel
theorem dX8_better_67 : decode cX8_better 67 = .ok (.getfield 24, 3) := by decide +kernel
theorem dX8_better_70 : decode cX8_better 70 = .ok (.iload_n 1, 1) := by decide +kernel
theorem dX8_better_71 : decode cX8_better 71 = .ok (.iload 5, 2) := by decide +kernel
theorem dX8_better_73 : decode cX8_better 73 = .ok (.invokevirtual 169, 3) := by decide +kernel
theorem dX8_better_76 : decode cX8_better 76 = .ok (.invokevirtual 173, 3) := by decide +kernel
theorem dX8_better_79 : decode cX8_better 79 = .ok (.istore 6, 2) := by decide +kernel
theorem dX8_better_81 : decode cX8_better 81 = .ok (.iload 6, 2) := by decide +kernel
theorem dX8_better_83 : decode cX8_better 83 = .ok (.iload 4, 2) := by decide +kernel
theorem dX8_better_85 : decode cX8_better 85 = .ok (.if_icmp .le 10, 3) := by decide +kernel
theorem dX8_better_88 : decode cX8_better 88 = .ok (.iload 5, 2) := by decide +kernel
theorem dX8_better_90 : decode cX8_better 90 = .ok (.istore_n 3, 1) := by decide +kernel
theorem dX8_better_91 : decode cX8_better 91 = .ok (.iload 6, 2) := by decide +kernel
theorem dX8_better_93 : decode cX8_better 93 = .ok (.istore 4, 2) := by decide +kernel
theorem dX8_better_95 : decode cX8_better 95 = .ok (.iinc 5 1, 3) := by decide +kernel
theorem dX8_better_98 : decode cX8_better 98 = .ok (.goto (-43), 3) := by decide +kernel
theorem dX8_better_101 : decode cX8_better 101 = .ok (.iload_n 2, 1) := by decide +kernel
theorem dX8_better_102 : decode cX8_better 102 = .ok (.ifCond .eq 8, 3) := by decide +kernel
theorem dX8_better_105 : decode cX8_better 105 = .ok (.iload 4, 2) := by decide +kernel
theorem dX8_better_107 : decode cX8_better 107 = .ok (.goto 4, 3) := by decide +kernel
theorem dX8_better_110 : decode cX8_better 110 = .ok (.iload_n 3, 1) := by decide +kernel
theorem dX8_better_111 : decode cX8_better 111 = .ok (.ireturn, 1) := by decide +kernel
set_option maxRecDepth 20000 in
theorem ggX8_code_X7_allParts : GoodIn wsX8_code wsX7_allParts := goodIn_r _ [10, 11, 36, 37, 38, 39, 40, 41] (by decide +kernel) (by decide +kernel)
set_option maxRecDepth 20000 in
theorem gX8_code_X7_allParts : GoodIn wsX8_code (wsV RX8 149 RX7 yX7_allParts wsX7_allParts) := goodIn_app (goodIn_of _ (by decide +kernel)) ggX8_code_X7_allParts
set_option maxRecDepth 20000 in
theorem ggX8_code_X7_periodOf : GoodIn wsX8_code wsX7_periodOf := goodIn_r _ [15, 11, 16, 17, 18, 19, 20, 21, 22, 36, 37, 38, 39, 40, 41] (by decide +kernel) (by decide +kernel)
set_option maxRecDepth 20000 in
theorem gX8_code_X7_periodOf : GoodIn wsX8_code (wsV RX8 159 RX7 yX7_periodOf wsX7_periodOf) := goodIn_app (goodIn_of _ (by decide +kernel)) ggX8_code_X7_periodOf
set_option maxRecDepth 20000 in
theorem ggX8_code_X7_votesOf : GoodIn wsX8_code wsX7_votesOf := goodIn_r _ [26, 11, 27, 36, 37, 38, 39, 40, 41] (by decide +kernel) (by decide +kernel)
set_option maxRecDepth 20000 in
theorem gX8_code_X7_votesOf : GoodIn wsX8_code (wsV RX8 176 RX7 yX7_votesOf wsX7_votesOf) := goodIn_app (goodIn_of _ (by decide +kernel)) ggX8_code_X7_votesOf
theorem dX8_code_0 : decode cX8_code 0 = .ok (.iload_n 1, 1) := by decide +kernel
theorem dX8_code_1 : decode cX8_code 1 = .ok (.tableswitch 89 0 4 #[35, 43, 58, 66, 81], 35) := by decide +kernel
theorem dX8_code_36 : decode cX8_code 36 = .ok (.aload_n 0, 1) := by decide +kernel
theorem dX8_code_37 : decode cX8_code 37 = .ok (.getfield 24, 3) := by decide +kernel
theorem dX8_code_40 : decode cX8_code 40 = .ok (.getfield 96, 3) := by decide +kernel
theorem dX8_code_43 : decode cX8_code 43 = .ok (.ireturn, 1) := by decide +kernel
theorem dX8_code_44 : decode cX8_code 44 = .ok (.aload_n 0, 1) := by decide +kernel
theorem dX8_code_45 : decode cX8_code 45 = .ok (.getfield 24, 3) := by decide +kernel
theorem dX8_code_48 : decode cX8_code 48 = .ok (.aload_n 0, 1) := by decide +kernel
theorem dX8_code_49 : decode cX8_code 49 = .ok (.getfield 24, 3) := by decide +kernel
theorem dX8_code_52 : decode cX8_code 52 = .ok (.invokevirtual 149, 3) := by decide +kernel
theorem dX8_code_55 : decode cX8_code 55 = .ok (.invokevirtual 159, 3) := by decide +kernel
theorem dX8_code_58 : decode cX8_code 58 = .ok (.ireturn, 1) := by decide +kernel
theorem dX8_code_59 : decode cX8_code 59 = .ok (.aload_n 0, 1) := by decide +kernel
theorem dX8_code_60 : decode cX8_code 60 = .ok (.getfield 24, 3) := by decide +kernel
theorem dX8_code_63 : decode cX8_code 63 = .ok (.getfield 125, 3) := by decide +kernel
theorem dX8_code_66 : decode cX8_code 66 = .ok (.ireturn, 1) := by decide +kernel
theorem dX8_code_67 : decode cX8_code 67 = .ok (.aload_n 0, 1) := by decide +kernel
theorem dX8_code_68 : decode cX8_code 68 = .ok (.getfield 24, 3) := by decide +kernel
theorem dX8_code_71 : decode cX8_code 71 = .ok (.aload_n 0, 1) := by decide +kernel
theorem dX8_code_72 : decode cX8_code 72 = .ok (.getfield 24, 3) := by decide +kernel
theorem dX8_code_75 : decode cX8_code 75 = .ok (.invokevirtual 149, 3) := by decide +kernel
theorem dX8_code_78 : decode cX8_code 78 = .ok (.invokevirtual 176, 3) := by decide +kernel
theorem dX8_code_81 : decode cX8_code 81 = .ok (.ireturn, 1) := by decide +kernel
theorem dX8_code_82 : decode cX8_code 82 = .ok (.aload_n 0, 1) := by decide +kernel
theorem dX8_code_83 : decode cX8_code 83 = .ok (.getfield 10, 3) := by decide +kernel
theorem dX8_code_86 : decode cX8_code 86 = .ok (.getfield 74, 3) := by decide +kernel
theorem dX8_code_89 : decode cX8_code 89 = .ok (.ireturn, 1) := by decide +kernel
theorem dX8_code_90 : decode cX8_code 90 = .ok (.iconst (-1), 1) := by decide +kernel
theorem dX8_code_91 : decode cX8_code 91 = .ok (.ireturn, 1) := by decide +kernel
set_option maxRecDepth 20000 in
theorem ggX8_part_X7_hasPart : GoodIn wsX8_part wsX7_hasPart := goodIn_r _ [11, 12, 41, 42, 43, 44, 45, 46] (by decide +kernel) (by decide +kernel)
set_option maxRecDepth 20000 in
theorem gX8_part_X7_hasPart : GoodIn wsX8_part (wsV RX8 119 RX7 yX7_hasPart wsX7_hasPart) := goodIn_app (goodIn_of _ (by decide +kernel)) ggX8_part_X7_hasPart
set_option maxRecDepth 20000 in
theorem ggX8_part_X7_hasPlace : GoodIn wsX8_part wsX7_hasPlace := goodIn_r _ [16, 17, 41, 42, 43, 44, 45, 46] (by decide +kernel) (by decide +kernel)
set_option maxRecDepth 20000 in
theorem gX8_part_X7_hasPlace : GoodIn wsX8_part (wsV RX8 186 RX7 yX7_hasPlace wsX7_hasPlace) := goodIn_app (goodIn_of _ (by decide +kernel)) ggX8_part_X7_hasPlace
set_option maxRecDepth 20000 in
theorem ggX8_part_X7_chipOf : GoodIn wsX8_part wsX7_chipOf := goodIn_r _ [21, 22, 17, 23, 24, 25, 41, 42, 43, 44, 45, 46] (by decide +kernel) (by decide +kernel)
set_option maxRecDepth 20000 in
theorem gX8_part_X7_chipOf : GoodIn wsX8_part (wsV RX8 190 RX7 yX7_chipOf wsX7_chipOf) := goodIn_app (goodIn_of _ (by decide +kernel)) ggX8_part_X7_chipOf
set_option maxRecDepth 20000 in
theorem ggX8_part_J6_bitCount_0f7a4 : GoodIn wsX8_part wsJ6_bitCount_0f7a4 := goodIn_r _ [29, 30, 31, 32] (by decide +kernel) (by decide +kernel)
set_option maxRecDepth 20000 in
theorem gX8_part_J6_bitCount_0f7a4 : GoodIn wsX8_part (va_wsS RX8 153 yJ6_bitCount_0f7a4 wsJ6_bitCount_0f7a4) := goodIn_app (goodIn_of _ (by decide +kernel)) ggX8_part_J6_bitCount_0f7a4
theorem dX8_part_0 : decode cX8_part 0 = .ok (.aload_n 0, 1) := by decide +kernel
theorem dX8_part_1 : decode cX8_part 1 = .ok (.getfield 24, 3) := by decide +kernel
theorem dX8_part_4 : decode cX8_part 4 = .ok (.iload_n 1, 1) := by decide +kernel
theorem dX8_part_5 : decode cX8_part 5 = .ok (.invokevirtual 119, 3) := by decide +kernel
theorem dX8_part_8 : decode cX8_part 8 = .ok (.ifCond .ne 13, 3) := by decide +kernel
theorem dX8_part_11 : decode cX8_part 11 = .ok (.new 179, 3) := by decide +kernel
theorem dX8_part_14 : decode cX8_part 14 = .ok (.dup, 1) := by decide +kernel
theorem dX8_part_15 : decode cX8_part 15 = .ok (.ldc 181, 2) := by decide +kernel
theorem dX8_part_17 : decode cX8_part 17 = .ok (.invokespecial 183, 3) := by decide +kernel
theorem dX8_part_20 : decode cX8_part 20 = .ok (.athrow, 1) := by decide +kernel
theorem dX8_part_21 : decode cX8_part 21 = .ok (.iload_n 2, 1) := by decide +kernel
theorem dX8_part_22 : decode cX8_part 22 = .ok (.bipush 10, 2) := by decide +kernel
theorem dX8_part_24 : decode cX8_part 24 = .ok (.if_icmp .lt 31, 3) := by decide +kernel
theorem dX8_part_27 : decode cX8_part 27 = .ok (.aload_n 0, 1) := by decide +kernel
theorem dX8_part_28 : decode cX8_part 28 = .ok (.getfield 24, 3) := by decide +kernel
theorem dX8_part_31 : decode cX8_part 31 = .ok (.iload_n 1, 1) := by decide +kernel
theorem dX8_part_32 : decode cX8_part 32 = .ok (.iload_n 2, 1) := by decide +kernel
theorem dX8_part_33 : decode cX8_part 33 = .ok (.bipush 10, 2) := by decide +kernel
theorem dX8_part_35 : decode cX8_part 35 = .ok (.isub, 1) := by decide +kernel
theorem dX8_part_36 : decode cX8_part 36 = .ok (.invokevirtual 186, 3) := by decide +kernel
theorem dX8_part_39 : decode cX8_part 39 = .ok (.ifCond .eq 16, 3) := by decide +kernel
theorem dX8_part_42 : decode cX8_part 42 = .ok (.aload_n 0, 1) := by decide +kernel
theorem dX8_part_43 : decode cX8_part 43 = .ok (.getfield 24, 3) := by decide +kernel
theorem dX8_part_46 : decode cX8_part 46 = .ok (.iload_n 1, 1) := by decide +kernel
theorem dX8_part_47 : decode cX8_part 47 = .ok (.iload_n 2, 1) := by decide +kernel
theorem dX8_part_48 : decode cX8_part 48 = .ok (.bipush 10, 2) := by decide +kernel
theorem dX8_part_50 : decode cX8_part 50 = .ok (.isub, 1) := by decide +kernel
theorem dX8_part_51 : decode cX8_part 51 = .ok (.invokevirtual 190, 3) := by decide +kernel
theorem dX8_part_54 : decode cX8_part 54 = .ok (.ireturn, 1) := by decide +kernel
theorem dX8_part_55 : decode cX8_part 55 = .ok (.iload_n 2, 1) := by decide +kernel
theorem dX8_part_56 : decode cX8_part 56 = .ok (.tableswitch 61 0 2 #[28, 38, 48], 28) := by decide +kernel
theorem dX8_part_84 : decode cX8_part 84 = .ok (.aload_n 0, 1) := by decide +kernel
theorem dX8_part_85 : decode cX8_part 85 = .ok (.getfield 24, 3) := by decide +kernel
theorem dX8_part_88 : decode cX8_part 88 = .ok (.getfield 135, 3) := by decide +kernel
theorem dX8_part_91 : decode cX8_part 91 = .ok (.iload_n 1, 1) := by decide +kernel
theorem dX8_part_92 : decode cX8_part 92 = .ok (.iaload, 1) := by decide +kernel
theorem dX8_part_93 : decode cX8_part 93 = .ok (.ireturn, 1) := by decide +kernel
theorem dX8_part_94 : decode cX8_part 94 = .ok (.aload_n 0, 1) := by decide +kernel
theorem dX8_part_95 : decode cX8_part 95 = .ok (.getfield 24, 3) := by decide +kernel
theorem dX8_part_98 : decode cX8_part 98 = .ok (.getfield 122, 3) := by decide +kernel
theorem dX8_part_101 : decode cX8_part 101 = .ok (.iload_n 1, 1) := by decide +kernel
theorem dX8_part_102 : decode cX8_part 102 = .ok (.iaload, 1) := by decide +kernel
theorem dX8_part_103 : decode cX8_part 103 = .ok (.ireturn, 1) := by decide +kernel
theorem dX8_part_104 : decode cX8_part 104 = .ok (.aload_n 0, 1) := by decide +kernel
theorem dX8_part_105 : decode cX8_part 105 = .ok (.getfield 24, 3) := by decide +kernel
theorem dX8_part_108 : decode cX8_part 108 = .ok (.getfield 138, 3) := by decide +kernel
theorem dX8_part_111 : decode cX8_part 111 = .ok (.iload_n 1, 1) := by decide +kernel
theorem dX8_part_112 : decode cX8_part 112 = .ok (.iaload, 1) := by decide +kernel
theorem dX8_part_113 : decode cX8_part 113 = .ok (.invokestatic 153, 3) := by decide +kernel
theorem dX8_part_116 : decode cX8_part 116 = .ok (.ireturn, 1) := by decide +kernel
theorem dX8_part_117 : decode cX8_part 117 = .ok (.new 179, 3) := by decide +kernel
theorem dX8_part_120 : decode cX8_part 120 = .ok (.dup, 1) := by decide +kernel
theorem dX8_part_121 : decode cX8_part 121 = .ok (.ldc 193, 2) := by decide +kernel
theorem dX8_part_123 : decode cX8_part 123 = .ok (.invokespecial 183, 3) := by decide +kernel
theorem dX8_part_126 : decode cX8_part 126 = .ok (.athrow, 1) := by decide +kernel
set_option maxRecDepth 20000 in
theorem ggX8_chip_X7_election : GoodIn wsX8_chip wsX7_election := goodIn_r _ [6, 7, 8, 9, 10, 5, 11, 12, 13, 14, 15, 16, 17, 18, 19, 20, 38, 39, 40, 41, 42, 43] (by decide +kernel) (by decide +kernel)
set_option maxRecDepth 20000 in
theorem gX8_chip_X7_election : GoodIn wsX8_chip (wsV RX8 169 RX7 yX7_election wsX7_election) := goodIn_app (goodIn_of _ (by decide +kernel)) ggX8_chip_X7_election
set_option maxRecDepth 20000 in
theorem ggX8_chip_X7_codeChip : GoodIn wsX8_chip wsX7_codeChip := goodIn_r _ [24, 12, 25, 26, 27, 28, 29, 38, 39, 40, 41, 42, 43] (by decide +kernel) (by decide +kernel)
set_option maxRecDepth 20000 in
theorem gX8_chip_X7_codeChip : GoodIn wsX8_chip (wsV RX8 195 RX7 yX7_codeChip wsX7_codeChip) := goodIn_app (goodIn_of _ (by decide +kernel)) ggX8_chip_X7_codeChip
theorem dX8_chip_0 : decode cX8_chip 0 = .ok (.aload_n 0, 1) := by decide +kernel
theorem dX8_chip_1 : decode cX8_chip 1 = .ok (.getfield 24, 3) := by decide +kernel
theorem dX8_chip_4 : decode cX8_chip 4 = .ok (.iload_n 1, 1) := by decide +kernel
theorem dX8_chip_5 : decode cX8_chip 5 = .ok (.aload_n 0, 1) := by decide +kernel
theorem dX8_chip_6 : decode cX8_chip 6 = .ok (.getfield 24, 3) := by decide +kernel
theorem dX8_chip_9 : decode cX8_chip 9 = .ok (.iconst (-1), 1) := by decide +kernel
theorem dX8_chip_10 : decode cX8_chip 10 = .ok (.iconst 0, 1) := by decide +kernel
theorem dX8_chip_11 : decode cX8_chip 11 = .ok (.invokevirtual 169, 3) := by decide +kernel
theorem dX8_chip_14 : decode cX8_chip 14 = .ok (.invokevirtual 195, 3) := by decide +kernel
theorem dX8_chip_17 : decode cX8_chip 17 = .ok (.ireturn, 1) := by decide +kernel
set_option maxRecDepth 20000 in
theorem ggX8_full_X7_hasPart : GoodIn wsX8_full wsX7_hasPart := goodIn_r _ [10, 11, 101, 102, 103, 104, 105, 106] (by decide +kernel) (by decide +kernel)
set_option maxRecDepth 20000 in
theorem gX8_full_X7_hasPart : GoodIn wsX8_full (wsV RX8 119 RX7 yX7_hasPart wsX7_hasPart) := goodIn_app (goodIn_of _ (by decide +kernel)) ggX8_full_X7_hasPart
set_option maxRecDepth 20000 in
theorem ggX8_full_X7_hasPlace : GoodIn wsX8_full wsX7_hasPlace := goodIn_r _ [15, 16, 101, 102, 103, 104, 105, 106] (by decide +kernel) (by decide +kernel)
set_option maxRecDepth 20000 in
theorem gX8_full_X7_hasPlace : GoodIn wsX8_full (wsV RX8 186 RX7 yX7_hasPlace wsX7_hasPlace) := goodIn_app (goodIn_of _ (by decide +kernel)) ggX8_full_X7_hasPlace
set_option maxRecDepth 20000 in
theorem ggX8_full_X6_takeCode : GoodIn wsX8_full wsX6_takeCode := goodIn_r _ [21, 22, 23, 24, 25, 26, 27, 28, 29, 30, 31, 32, 101, 102, 103, 104, 105, 106, 107, 108, 109, 110, 111, 112, 113] (by decide +kernel) (by decide +kernel)
set_option maxRecDepth 20000 in
theorem gX8_full_X6_takeCode : GoodIn wsX8_full (wsV RX8 163 RX6 yX6_takeCode wsX6_takeCode) := goodIn_app (goodIn_of _ (by decide +kernel)) ggX8_full_X6_takeCode
set_option maxRecDepth 20000 in
theorem ggX8_full_X8_turned : GoodIn wsX8_full wsX8_turned := goodIn_r _ [36] (by decide +kernel) (by decide +kernel)
set_option maxRecDepth 20000 in
theorem gX8_full_X8_turned : GoodIn wsX8_full (va_wsS RX8 141 yX8_turned wsX8_turned) := goodIn_app (goodIn_of _ (by decide +kernel)) ggX8_full_X8_turned
set_option maxRecDepth 20000 in
theorem ggX8_full_X6_addRow : GoodIn wsX8_full wsX6_addRow := goodIn_r _ [40, 26, 23, 32, 24, 107, 108, 109, 110, 111, 112, 113] (by decide +kernel) (by decide +kernel)
set_option maxRecDepth 20000 in
theorem gX8_full_X6_addRow : GoodIn wsX8_full (wsV RX8 198 RX6 yX6_addRow wsX6_addRow) := goodIn_app (goodIn_of _ (by decide +kernel)) ggX8_full_X6_addRow
set_option maxRecDepth 20000 in
theorem ggX8_full_X6_countAll : GoodIn wsX8_full wsX6_countAll := goodIn_r _ [44, 45, 24, 46, 47, 48, 49, 50, 51, 52, 20, 53, 26, 54, 35, 55, 56, 57, 58, 59, 60, 61, 62, 63, 64, 65, 66, 67, 32, 68, 69, 70, 71, 72, 73, 74, 27, 28, 29, 30, 107, 108, 109, 110, 111, 112, 113] (by decide +kernel) (by decide +kernel)
set_option maxRecDepth 20000 in
theorem gX8_full_X6_countAll : GoodIn wsX8_full (wsV RX8 166 RX6 yX6_countAll wsX6_countAll) := goodIn_app (goodIn_of _ (by decide +kernel)) ggX8_full_X6_countAll
set_option maxRecDepth 20000 in
theorem ggX8_full_X7_election : GoodIn wsX8_full wsX7_election := goodIn_r _ [78, 79, 80, 7, 8, 9, 10, 11, 81, 82, 83, 84, 85, 86, 87, 88, 101, 102, 103, 104, 105, 106] (by decide +kernel) (by decide +kernel)
set_option maxRecDepth 20000 in
theorem gX8_full_X7_election : GoodIn wsX8_full (wsV RX8 169 RX7 yX7_election wsX7_election) := goodIn_app (goodIn_of _ (by decide +kernel)) ggX8_full_X7_election
set_option maxRecDepth 20000 in
theorem ggX8_full_X6_fullOf : GoodIn wsX8_full wsX6_fullOf := goodIn_r _ [92, 23, 45, 107, 108, 109, 110, 111, 112, 113] (by decide +kernel) (by decide +kernel)
set_option maxRecDepth 20000 in
theorem gX8_full_X6_fullOf : GoodIn wsX8_full (wsV RX8 201 RX6 yX6_fullOf wsX6_fullOf) := goodIn_app (goodIn_of _ (by decide +kernel)) ggX8_full_X6_fullOf
theorem dX8_full_0 : decode cX8_full 0 = .ok (.aload_n 0, 1) := by decide +kernel
theorem dX8_full_1 : decode cX8_full 1 = .ok (.getfield 24, 3) := by decide +kernel
theorem dX8_full_4 : decode cX8_full 4 = .ok (.iload_n 1, 1) := by decide +kernel
theorem dX8_full_5 : decode cX8_full 5 = .ok (.invokevirtual 119, 3) := by decide +kernel
theorem dX8_full_8 : decode cX8_full 8 = .ok (.ifCond .eq 15, 3) := by decide +kernel
theorem dX8_full_11 : decode cX8_full 11 = .ok (.aload_n 0, 1) := by decide +kernel
theorem dX8_full_12 : decode cX8_full 12 = .ok (.getfield 24, 3) := by decide +kernel
theorem dX8_full_15 : decode cX8_full 15 = .ok (.iload_n 1, 1) := by decide +kernel
theorem dX8_full_16 : decode cX8_full 16 = .ok (.iload_n 2, 1) := by decide +kernel
theorem dX8_full_17 : decode cX8_full 17 = .ok (.invokevirtual 186, 3) := by decide +kernel
theorem dX8_full_20 : decode cX8_full 20 = .ok (.ifCond .ne 6, 3) := by decide +kernel
theorem dX8_full_23 : decode cX8_full 23 = .ok (.ldc 162, 2) := by decide +kernel
theorem dX8_full_25 : decode cX8_full 25 = .ok (.ireturn, 1) := by decide +kernel
theorem dX8_full_26 : decode cX8_full 26 = .ok (.aload_n 0, 1) := by decide +kernel
theorem dX8_full_27 : decode cX8_full 27 = .ok (.getfield 66, 3) := by decide +kernel
theorem dX8_full_30 : decode cX8_full 30 = .ok (.aload_n 0, 1) := by decide +kernel
theorem dX8_full_31 : decode cX8_full 31 = .ok (.getfield 24, 3) := by decide +kernel
theorem dX8_full_34 : decode cX8_full 34 = .ok (.invokevirtual 163, 3) := by decide +kernel
theorem dX8_full_37 : decode cX8_full 37 = .ok (.aload_n 0, 1) := by decide +kernel
theorem dX8_full_38 : decode cX8_full 38 = .ok (.getfield 24, 3) := by decide +kernel
theorem dX8_full_41 : decode cX8_full 41 = .ok (.getfield 135, 3) := by decide +kernel
theorem dX8_full_44 : decode cX8_full 44 = .ok (.iload_n 1, 1) := by decide +kernel
theorem dX8_full_45 : decode cX8_full 45 = .ok (.iaload, 1) := by decide +kernel
theorem dX8_full_46 : decode cX8_full 46 = .ok (.istore_n 3, 1) := by decide +kernel
theorem dX8_full_47 : decode cX8_full 47 = .ok (.aload_n 0, 1) := by decide +kernel
theorem dX8_full_48 : decode cX8_full 48 = .ok (.getfield 66, 3) := by decide +kernel
theorem dX8_full_51 : decode cX8_full 51 = .ok (.iload_n 3, 1) := by decide +kernel
theorem dX8_full_52 : decode cX8_full 52 = .ok (.aload_n 0, 1) := by decide +kernel
theorem dX8_full_53 : decode cX8_full 53 = .ok (.getfield 24, 3) := by decide +kernel
theorem dX8_full_56 : decode cX8_full 56 = .ok (.getfield 138, 3) := by decide +kernel
theorem dX8_full_59 : decode cX8_full 59 = .ok (.iload_n 1, 1) := by decide +kernel
theorem dX8_full_60 : decode cX8_full 60 = .ok (.iaload, 1) := by decide +kernel
theorem dX8_full_61 : decode cX8_full 61 = .ok (.iload_n 3, 1) := by decide +kernel
theorem dX8_full_62 : decode cX8_full 62 = .ok (.iload_n 2, 1) := by decide +kernel
theorem dX8_full_63 : decode cX8_full 63 = .ok (.invokestatic 141, 3) := by decide +kernel
theorem dX8_full_66 : decode cX8_full 66 = .ok (.invokevirtual 198, 3) := by decide +kernel
theorem dX8_full_69 : decode cX8_full 69 = .ok (.istore 4, 2) := by decide +kernel
theorem dX8_full_71 : decode cX8_full 71 = .ok (.aload_n 0, 1) := by decide +kernel
theorem dX8_full_72 : decode cX8_full 72 = .ok (.getfield 66, 3) := by decide +kernel
theorem dX8_full_75 : decode cX8_full 75 = .ok (.invokevirtual 166, 3) := by decide +kernel
theorem dX8_full_78 : decode cX8_full 78 = .ok (.aload_n 0, 1) := by decide +kernel
theorem dX8_full_79 : decode cX8_full 79 = .ok (.getfield 66, 3) := by decide +kernel
theorem dX8_full_82 : decode cX8_full 82 = .ok (.iload 4, 2) := by decide +kernel
theorem dX8_full_84 : decode cX8_full 84 = .ok (.aload_n 0, 1) := by decide +kernel
theorem dX8_full_85 : decode cX8_full 85 = .ok (.getfield 24, 3) := by decide +kernel
theorem dX8_full_88 : decode cX8_full 88 = .ok (.iconst (-1), 1) := by decide +kernel
theorem dX8_full_89 : decode cX8_full 89 = .ok (.iconst 0, 1) := by decide +kernel
theorem dX8_full_90 : decode cX8_full 90 = .ok (.invokevirtual 169, 3) := by decide +kernel
theorem dX8_full_93 : decode cX8_full 93 = .ok (.invokevirtual 201, 3) := by decide +kernel
theorem dX8_full_96 : decode cX8_full 96 = .ok (.ireturn, 1) := by decide +kernel
set_option maxRecDepth 20000 in
theorem ggX8_leg_X8_isLeg : GoodIn wsX8_leg wsX8_isLeg := goodIn_r _ [8] (by decide +kernel) (by decide +kernel)
set_option maxRecDepth 20000 in
theorem gX8_leg_X8_isLeg : GoodIn wsX8_leg (va_wsS RX8 99 yX8_isLeg wsX8_isLeg) := goodIn_app (goodIn_of _ (by decide +kernel)) ggX8_leg_X8_isLeg
set_option maxRecDepth 20000 in
theorem ggX8_leg_X1_countOf : GoodIn wsX8_leg wsX1_countOf := goodIn_r _ [13, 14, 15, 175, 176, 177, 178, 179] (by decide +kernel) (by decide +kernel)
set_option maxRecDepth 20000 in
theorem gX8_leg_X1_countOf : GoodIn wsX8_leg (wsV RX8 204 RX1 yX1_countOf wsX1_countOf) := goodIn_app (goodIn_of _ (by decide +kernel)) ggX8_leg_X1_countOf
set_option maxRecDepth 20000 in
theorem ggX8_leg_X0_listen : GoodIn wsX8_leg wsX0_listen := goodIn_r _ [20, 21, 22, 23, 24, 25, 26, 27, 28, 29, 30, 31, 32, 33, 34, 35, 36, 37, 38, 39, 40, 41, 42, 43, 44, 45, 19, 46, 47, 48, 49, 50, 51, 52, 53, 54, 55, 56, 57, 58, 59, 60, 61, 62, 63, 64, 65, 66, 67, 68, 12, 69, 14, 15, 70, 71, 72, 73, 74, 75, 76, 77, 78, 79, 80, 81, 82, 83, 84, 85, 86, 87, 88, 89, 90, 91, 7, 92, 93, 94, 95, 96, 97, 98, 99, 100, 101, 102, 103, 104, 105, 106, 107, 108, 109, 110, 111, 112, 113, 114, 115, 116, 117, 118, 119, 120, 121, 122, 123, 124, 125, 126, 127, 128, 129, 130, 131, 132, 133, 134, 135, 136, 137, 138, 139, 140, 141, 142, 143, 144, 145, 146, 147, 148, 149, 150, 151, 152, 153, 154, 155, 156, 180, 181, 182, 183, 184, 185, 186, 187, 188, 189, 190, 191, 169, 170, 171, 172, 173, 174, 175, 176, 177, 178, 179] (by decide +kernel) (by decide +kernel)
set_option maxRecDepth 20000 in
theorem gX8_leg_X0_listen : GoodIn wsX8_leg (wsV RX8 207 RX0 yX0_listen wsX0_listen) := goodIn_app (goodIn_of _ (by decide +kernel)) ggX8_leg_X0_listen
set_option maxRecDepth 20000 in
theorem ggX8_leg_X0_countOf : GoodIn wsX8_leg wsX0_countOf := goodIn_r _ [160, 54, 65, 180, 181, 182, 183, 184, 185, 186, 187, 188, 189, 190, 191] (by decide +kernel) (by decide +kernel)
set_option maxRecDepth 20000 in
theorem gX8_leg_X0_countOf : GoodIn wsX8_leg (wsV RX8 210 RX0 yX0_countOf wsX0_countOf) := goodIn_app (goodIn_of _ (by decide +kernel)) ggX8_leg_X0_countOf
theorem dX8_leg_0 : decode cX8_leg 0 = .ok (.iload_n 1, 1) := by decide +kernel
theorem dX8_leg_1 : decode cX8_leg 1 = .ok (.invokestatic 99, 3) := by decide +kernel
theorem dX8_leg_4 : decode cX8_leg 4 = .ok (.ifCond .ne 7, 3) := by decide +kernel
theorem dX8_leg_7 : decode cX8_leg 7 = .ok (.sipush (-1000), 3) := by decide +kernel
theorem dX8_leg_10 : decode cX8_leg 10 = .ok (.ireturn, 1) := by decide +kernel
theorem dX8_leg_11 : decode cX8_leg 11 = .ok (.aload_n 0, 1) := by decide +kernel
theorem dX8_leg_12 : decode cX8_leg 12 = .ok (.getfield 24, 3) := by decide +kernel
theorem dX8_leg_15 : decode cX8_leg 15 = .ok (.getfield 103, 3) := by decide +kernel
theorem dX8_leg_18 : decode cX8_leg 18 = .ok (.iload_n 1, 1) := by decide +kernel
theorem dX8_leg_19 : decode cX8_leg 19 = .ok (.aaload, 1) := by decide +kernel
theorem dX8_leg_20 : decode cX8_leg 20 = .ok (.astore_n 3, 1) := by decide +kernel
theorem dX8_leg_21 : decode cX8_leg 21 = .ok (.iload_n 2, 1) := by decide +kernel
theorem dX8_leg_22 : decode cX8_leg 22 = .ok (.ifCond .lt 16, 3) := by decide +kernel
theorem dX8_leg_25 : decode cX8_leg 25 = .ok (.iload_n 2, 1) := by decide +kernel
theorem dX8_leg_26 : decode cX8_leg 26 = .ok (.bipush 6, 2) := by decide +kernel
theorem dX8_leg_28 : decode cX8_leg 28 = .ok (.if_icmp .ge 10, 3) := by decide +kernel
theorem dX8_leg_31 : decode cX8_leg 31 = .ok (.aload_n 3, 1) := by decide +kernel
theorem dX8_leg_32 : decode cX8_leg 32 = .ok (.getfield 107, 3) := by decide +kernel
theorem dX8_leg_35 : decode cX8_leg 35 = .ok (.iload_n 2, 1) := by decide +kernel
theorem dX8_leg_36 : decode cX8_leg 36 = .ok (.iaload, 1) := by decide +kernel
theorem dX8_leg_37 : decode cX8_leg 37 = .ok (.ireturn, 1) := by decide +kernel
theorem dX8_leg_38 : decode cX8_leg 38 = .ok (.iload_n 2, 1) := by decide +kernel
theorem dX8_leg_39 : decode cX8_leg 39 = .ok (.tableswitch 100 6 10 #[33, 39, 45, 57, 83], 33) := by decide +kernel
theorem dX8_leg_72 : decode cX8_leg 72 = .ok (.aload_n 3, 1) := by decide +kernel
theorem dX8_leg_73 : decode cX8_leg 73 = .ok (.iconst 0, 1) := by decide +kernel
theorem dX8_leg_74 : decode cX8_leg 74 = .ok (.invokevirtual 204, 3) := by decide +kernel
theorem dX8_leg_77 : decode cX8_leg 77 = .ok (.ireturn, 1) := by decide +kernel
theorem dX8_leg_78 : decode cX8_leg 78 = .ok (.aload_n 3, 1) := by decide +kernel
theorem dX8_leg_79 : decode cX8_leg 79 = .ok (.iconst 3, 1) := by decide +kernel
theorem dX8_leg_80 : decode cX8_leg 80 = .ok (.invokevirtual 204, 3) := by decide +kernel
theorem dX8_leg_83 : decode cX8_leg 83 = .ok (.ireturn, 1) := by decide +kernel
theorem dX8_leg_84 : decode cX8_leg 84 = .ok (.aload_n 3, 1) := by decide +kernel
theorem dX8_leg_85 : decode cX8_leg 85 = .ok (.iconst 1, 1) := by decide +kernel
theorem dX8_leg_86 : decode cX8_leg 86 = .ok (.invokevirtual 204, 3) := by decide +kernel
theorem dX8_leg_89 : decode cX8_leg 89 = .ok (.aload_n 3, 1) := by decide +kernel
theorem dX8_leg_90 : decode cX8_leg 90 = .ok (.iconst 2, 1) := by decide +kernel
theorem dX8_leg_91 : decode cX8_leg 91 = .ok (.invokevirtual 204, 3) := by decide +kernel
theorem dX8_leg_94 : decode cX8_leg 94 = .ok (.iadd, 1) := by decide +kernel
theorem dX8_leg_95 : decode cX8_leg 95 = .ok (.ireturn, 1) := by decide +kernel
theorem dX8_leg_96 : decode cX8_leg 96 = .ok (.aload_n 0, 1) := by decide +kernel
theorem dX8_leg_97 : decode cX8_leg 97 = .ok (.getfield 43, 3) := by decide +kernel
theorem dX8_leg_100 : decode cX8_leg 100 = .ok (.iload_n 1, 1) := by decide +kernel
theorem dX8_leg_101 : decode cX8_leg 101 = .ok (.invokevirtual 207, 3) := by decide +kernel
theorem dX8_leg_104 : decode cX8_leg 104 = .ok (.aload_n 0, 1) := by decide +kernel
theorem dX8_leg_105 : decode cX8_leg 105 = .ok (.getfield 43, 3) := by decide +kernel
theorem dX8_leg_108 : decode cX8_leg 108 = .ok (.iconst 1, 1) := by decide +kernel
theorem dX8_leg_109 : decode cX8_leg 109 = .ok (.invokevirtual 210, 3) := by decide +kernel
theorem dX8_leg_112 : decode cX8_leg 112 = .ok (.aload_n 0, 1) := by decide +kernel
theorem dX8_leg_113 : decode cX8_leg 113 = .ok (.getfield 43, 3) := by decide +kernel
theorem dX8_leg_116 : decode cX8_leg 116 = .ok (.iconst 0, 1) := by decide +kernel
theorem dX8_leg_117 : decode cX8_leg 117 = .ok (.invokevirtual 210, 3) := by decide +kernel
theorem dX8_leg_120 : decode cX8_leg 120 = .ok (.iadd, 1) := by decide +kernel
theorem dX8_leg_121 : decode cX8_leg 121 = .ok (.ireturn, 1) := by decide +kernel
theorem dX8_leg_122 : decode cX8_leg 122 = .ok (.aload_n 0, 1) := by decide +kernel
theorem dX8_leg_123 : decode cX8_leg 123 = .ok (.getfield 43, 3) := by decide +kernel
theorem dX8_leg_126 : decode cX8_leg 126 = .ok (.iload_n 1, 1) := by decide +kernel
theorem dX8_leg_127 : decode cX8_leg 127 = .ok (.invokevirtual 207, 3) := by decide +kernel
theorem dX8_leg_130 : decode cX8_leg 130 = .ok (.aload_n 0, 1) := by decide +kernel
theorem dX8_leg_131 : decode cX8_leg 131 = .ok (.getfield 43, 3) := by decide +kernel
theorem dX8_leg_134 : decode cX8_leg 134 = .ok (.iconst 1, 1) := by decide +kernel
theorem dX8_leg_135 : decode cX8_leg 135 = .ok (.invokevirtual 210, 3) := by decide +kernel
theorem dX8_leg_138 : decode cX8_leg 138 = .ok (.ireturn, 1) := by decide +kernel
theorem dX8_leg_139 : decode cX8_leg 139 = .ok (.sipush (-1000), 3) := by decide +kernel
theorem dX8_leg_142 : decode cX8_leg 142 = .ok (.ireturn, 1) := by decide +kernel
set_option maxRecDepth 20000 in
theorem ggX8_heard_X8_hasChip : GoodIn wsX8_heard wsX8_hasChip := goodIn_r _ [7, 8, 9, 10, 11, 12, 6, 13, 158, 159, 160, 161, 162, 163, 164, 165, 178, 179, 180, 181, 182, 183, 184, 185, 186, 187, 188] (by decide +kernel) (by decide +kernel)
set_option maxRecDepth 20000 in
theorem gX8_heard_X8_hasChip : GoodIn wsX8_heard (wsV RX8 211 RX8 yX8_hasChip wsX8_hasChip) := goodIn_app (goodIn_of _ (by decide +kernel)) ggX8_heard_X8_hasChip
set_option maxRecDepth 20000 in
theorem ggX8_heard_X0_listen : GoodIn wsX8_heard wsX0_listen := goodIn_r _ [18, 19, 20, 21, 22, 23, 24, 25, 26, 27, 28, 29, 30, 31, 32, 33, 34, 35, 36, 37, 38, 39, 40, 41, 42, 43, 17, 44, 45, 46, 47, 48, 49, 50, 51, 52, 53, 54, 55, 56, 57, 58, 59, 60, 61, 62, 63, 64, 65, 66, 67, 68, 69, 70, 71, 72, 73, 74, 75, 76, 77, 78, 79, 80, 81, 82, 83, 84, 85, 86, 87, 88, 89, 90, 91, 92, 6, 93, 94, 95, 96, 97, 98, 99, 100, 101, 102, 103, 104, 105, 106, 107, 108, 109, 110, 111, 112, 113, 114, 115, 116, 117, 118, 119, 120, 121, 122, 123, 124, 125, 126, 127, 128, 129, 130, 131, 132, 133, 134, 135, 136, 137, 138, 139, 140, 141, 142, 143, 144, 145, 146, 147, 148, 149, 150, 151, 152, 153, 154, 155, 156, 157, 166, 167, 168, 169, 170, 171, 172, 173, 174, 175, 176, 177, 178, 179, 180, 181, 182, 183, 184, 185, 186, 187, 188] (by decide +kernel) (by decide +kernel)
set_option maxRecDepth 20000 in
theorem gX8_heard_X0_listen : GoodIn wsX8_heard (wsV RX8 207 RX0 yX0_listen wsX0_listen) := goodIn_app (goodIn_of _ (by decide +kernel)) ggX8_heard_X0_listen
theorem dX8_heard_0 : decode cX8_heard 0 = .ok (.aload_n 0, 1) := by decide +kernel
theorem dX8_heard_1 : decode cX8_heard 1 = .ok (.iload_n 1, 1) := by decide +kernel
theorem dX8_heard_2 : decode cX8_heard 2 = .ok (.iload_n 2, 1) := by decide +kernel
theorem dX8_heard_3 : decode cX8_heard 3 = .ok (.invokevirtual 211, 3) := by decide +kernel
theorem dX8_heard_6 : decode cX8_heard 6 = .ok (.ifCond .ne 5, 3) := by decide +kernel
theorem dX8_heard_9 : decode cX8_heard 9 = .ok (.iconst (-1), 1) := by decide +kernel
theorem dX8_heard_10 : decode cX8_heard 10 = .ok (.ireturn, 1) := by decide +kernel
theorem dX8_heard_11 : decode cX8_heard 11 = .ok (.aload_n 0, 1) := by decide +kernel
theorem dX8_heard_12 : decode cX8_heard 12 = .ok (.getfield 43, 3) := by decide +kernel
theorem dX8_heard_15 : decode cX8_heard 15 = .ok (.iload_n 1, 1) := by decide +kernel
theorem dX8_heard_16 : decode cX8_heard 16 = .ok (.invokevirtual 207, 3) := by decide +kernel
theorem dX8_heard_19 : decode cX8_heard 19 = .ok (.aload_n 0, 1) := by decide +kernel
theorem dX8_heard_20 : decode cX8_heard 20 = .ok (.getfield 43, 3) := by decide +kernel
theorem dX8_heard_23 : decode cX8_heard 23 = .ok (.getfield 214, 3) := by decide +kernel
theorem dX8_heard_26 : decode cX8_heard 26 = .ok (.iload_n 2, 1) := by decide +kernel
theorem dX8_heard_27 : decode cX8_heard 27 = .ok (.iaload, 1) := by decide +kernel
theorem dX8_heard_28 : decode cX8_heard 28 = .ok (.ireturn, 1) := by decide +kernel
set_option maxRecDepth 20000 in
theorem ggX8_behind_X8_hasChip : GoodIn wsX8_behind wsX8_hasChip := goodIn_r _ [6, 7, 8, 9, 10, 11, 5, 12, 30, 31, 32, 33, 34, 35, 36, 37, 38, 39, 40, 41, 42, 43, 44, 45, 46, 47, 48] (by decide +kernel) (by decide +kernel)
set_option maxRecDepth 20000 in
theorem gX8_behind_X8_hasChip : GoodIn wsX8_behind (wsV RX8 211 RX8 yX8_hasChip wsX8_hasChip) := goodIn_app (goodIn_of _ (by decide +kernel)) ggX8_behind_X8_hasChip
set_option maxRecDepth 20000 in
theorem ggX8_behind_X8_lagOf : GoodIn wsX8_behind wsX8_lagOf := goodIn_r _ [16, 7, 8, 9, 17, 18, 19, 20, 21, 22, 23, 24, 25, 26, 27, 28, 29, 30, 31, 32, 33, 34, 35, 36, 37, 38, 39, 40, 41, 42, 43, 44, 45, 46, 47, 48] (by decide +kernel) (by decide +kernel)
set_option maxRecDepth 20000 in
theorem gX8_behind_X8_lagOf : GoodIn wsX8_behind (wsV RX8 217 RX8 yX8_lagOf wsX8_lagOf) := goodIn_app (goodIn_of _ (by decide +kernel)) ggX8_behind_X8_lagOf
theorem dX8_behind_0 : decode cX8_behind 0 = .ok (.aload_n 0, 1) := by decide +kernel
theorem dX8_behind_1 : decode cX8_behind 1 = .ok (.iload_n 1, 1) := by decide +kernel
theorem dX8_behind_2 : decode cX8_behind 2 = .ok (.iload_n 2, 1) := by decide +kernel
theorem dX8_behind_3 : decode cX8_behind 3 = .ok (.invokevirtual 211, 3) := by decide +kernel
theorem dX8_behind_6 : decode cX8_behind 6 = .ok (.ifCond .eq 12, 3) := by decide +kernel
theorem dX8_behind_9 : decode cX8_behind 9 = .ok (.aload_n 0, 1) := by decide +kernel
theorem dX8_behind_10 : decode cX8_behind 10 = .ok (.iload_n 1, 1) := by decide +kernel
theorem dX8_behind_11 : decode cX8_behind 11 = .ok (.iload_n 2, 1) := by decide +kernel
theorem dX8_behind_12 : decode cX8_behind 12 = .ok (.invokevirtual 217, 3) := by decide +kernel
theorem dX8_behind_15 : decode cX8_behind 15 = .ok (.goto 5, 3) := by decide +kernel
theorem dX8_behind_18 : decode cX8_behind 18 = .ok (.ldc 220, 2) := by decide +kernel
theorem dX8_behind_20 : decode cX8_behind 20 = .ok (.ireturn, 1) := by decide +kernel
set_option maxRecDepth 20000 in
theorem ggX8_match_X8_isLeg : GoodIn wsX8_match wsX8_isLeg := goodIn_r _ [7] (by decide +kernel) (by decide +kernel)
set_option maxRecDepth 20000 in
theorem gX8_match_X8_isLeg : GoodIn wsX8_match (va_wsS RX8 99 yX8_isLeg wsX8_isLeg) := goodIn_app (goodIn_of _ (by decide +kernel)) ggX8_match_X8_isLeg
set_option maxRecDepth 20000 in
theorem ggX8_match_X7_hasPart : GoodIn wsX8_match wsX7_hasPart := goodIn_r _ [12, 13, 177, 178, 179, 180, 181, 182] (by decide +kernel) (by decide +kernel)
set_option maxRecDepth 20000 in
theorem gX8_match_X7_hasPart : GoodIn wsX8_match (wsV RX8 119 RX7 yX7_hasPart wsX7_hasPart) := goodIn_app (goodIn_of _ (by decide +kernel)) ggX8_match_X7_hasPart
set_option maxRecDepth 20000 in
theorem ggX8_match_X7_hasPlace : GoodIn wsX8_match wsX7_hasPlace := goodIn_r _ [17, 18, 177, 178, 179, 180, 181, 182] (by decide +kernel) (by decide +kernel)
set_option maxRecDepth 20000 in
theorem gX8_match_X7_hasPlace : GoodIn wsX8_match (wsV RX8 186 RX7 yX7_hasPlace wsX7_hasPlace) := goodIn_app (goodIn_of _ (by decide +kernel)) ggX8_match_X7_hasPlace
set_option maxRecDepth 20000 in
theorem ggX8_match_X0_listen : GoodIn wsX8_match wsX0_listen := goodIn_r _ [23, 24, 25, 26, 27, 28, 29, 11, 30, 31, 32, 9, 10, 12, 13, 33, 34, 35, 36, 37, 38, 39, 40, 41, 42, 43, 22, 44, 45, 46, 47, 48, 49, 50, 51, 52, 53, 54, 55, 56, 57, 58, 59, 60, 61, 62, 63, 64, 65, 66, 67, 68, 69, 70, 71, 72, 73, 74, 75, 76, 77, 78, 79, 80, 81, 82, 83, 84, 85, 86, 87, 88, 89, 90, 18, 91, 6, 92, 93, 94, 95, 96, 97, 98, 99, 100, 101, 102, 103, 104, 105, 106, 107, 108, 109, 110, 111, 112, 113, 114, 115, 116, 117, 118, 119, 120, 121, 122, 123, 124, 125, 126, 127, 128, 129, 130, 131, 132, 133, 134, 135, 136, 137, 138, 139, 140, 141, 142, 143, 144, 145, 146, 147, 148, 149, 150, 151, 152, 153, 154, 155, 156, 165, 166, 167, 168, 169, 170, 171, 172, 173, 174, 175, 176, 177, 178, 179, 180, 181, 182, 183, 184, 185, 186, 187] (by decide +kernel) (by decide +kernel)
set_option maxRecDepth 20000 in
theorem gX8_match_X0_listen : GoodIn wsX8_match (wsV RX8 207 RX0 yX0_listen wsX0_listen) := goodIn_app (goodIn_of _ (by decide +kernel)) ggX8_match_X0_listen
theorem dX8_match_0 : decode cX8_match 0 = .ok (.iload_n 1, 1) := by decide +kernel
theorem dX8_match_1 : decode cX8_match 1 = .ok (.invokestatic 99, 3) := by decide +kernel
theorem dX8_match_4 : decode cX8_match 4 = .ok (.ifCond .eq 26, 3) := by decide +kernel
theorem dX8_match_7 : decode cX8_match 7 = .ok (.aload_n 0, 1) := by decide +kernel
theorem dX8_match_8 : decode cX8_match 8 = .ok (.getfield 24, 3) := by decide +kernel
theorem dX8_match_11 : decode cX8_match 11 = .ok (.iload_n 2, 1) := by decide +kernel
theorem dX8_match_12 : decode cX8_match 12 = .ok (.invokevirtual 119, 3) := by decide +kernel
theorem dX8_match_15 : decode cX8_match 15 = .ok (.ifCond .eq 15, 3) := by decide +kernel
theorem dX8_match_18 : decode cX8_match 18 = .ok (.aload_n 0, 1) := by decide +kernel
theorem dX8_match_19 : decode cX8_match 19 = .ok (.getfield 24, 3) := by decide +kernel
theorem dX8_match_22 : decode cX8_match 22 = .ok (.iload_n 2, 1) := by decide +kernel
theorem dX8_match_23 : decode cX8_match 23 = .ok (.iload_n 3, 1) := by decide +kernel
theorem dX8_match_24 : decode cX8_match 24 = .ok (.invokevirtual 186, 3) := by decide +kernel
theorem dX8_match_27 : decode cX8_match 27 = .ok (.ifCond .ne 7, 3) := by decide +kernel
theorem dX8_match_30 : decode cX8_match 30 = .ok (.sipush (-1000), 3) := by decide +kernel
theorem dX8_match_33 : decode cX8_match 33 = .ok (.ireturn, 1) := by decide +kernel
theorem dX8_match_34 : decode cX8_match 34 = .ok (.aload_n 0, 1) := by decide +kernel
theorem dX8_match_35 : decode cX8_match 35 = .ok (.getfield 43, 3) := by decide +kernel
theorem dX8_match_38 : decode cX8_match 38 = .ok (.iload_n 1, 1) := by decide +kernel
theorem dX8_match_39 : decode cX8_match 39 = .ok (.invokevirtual 207, 3) := by decide +kernel
theorem dX8_match_42 : decode cX8_match 42 = .ok (.aload_n 0, 1) := by decide +kernel
theorem dX8_match_43 : decode cX8_match 43 = .ok (.getfield 43, 3) := by decide +kernel
theorem dX8_match_46 : decode cX8_match 46 = .ok (.getfield 221, 3) := by decide +kernel
theorem dX8_match_49 : decode cX8_match 49 = .ok (.iload_n 2, 1) := by decide +kernel
theorem dX8_match_50 : decode cX8_match 50 = .ok (.aaload, 1) := by decide +kernel
theorem dX8_match_51 : decode cX8_match 51 = .ok (.iload_n 3, 1) := by decide +kernel
theorem dX8_match_52 : decode cX8_match 52 = .ok (.iaload, 1) := by decide +kernel
theorem dX8_match_53 : decode cX8_match 53 = .ok (.ireturn, 1) := by decide +kernel
set_option maxRecDepth 20000 in
theorem ggX8_best_X8_isLeg : GoodIn wsX8_best wsX8_isLeg := goodIn_r _ [7] (by decide +kernel) (by decide +kernel)
set_option maxRecDepth 20000 in
theorem gX8_best_X8_isLeg : GoodIn wsX8_best (va_wsS RX8 99 yX8_isLeg wsX8_isLeg) := goodIn_app (goodIn_of _ (by decide +kernel)) ggX8_best_X8_isLeg
set_option maxRecDepth 20000 in
theorem ggX8_best_X7_hasPart : GoodIn wsX8_best wsX7_hasPart := goodIn_r _ [12, 13, 186, 187, 188, 189, 190, 191] (by decide +kernel) (by decide +kernel)
set_option maxRecDepth 20000 in
theorem gX8_best_X7_hasPart : GoodIn wsX8_best (wsV RX8 119 RX7 yX7_hasPart wsX7_hasPart) := goodIn_app (goodIn_of _ (by decide +kernel)) ggX8_best_X7_hasPart
set_option maxRecDepth 20000 in
theorem ggX8_best_X0_listen : GoodIn wsX8_best wsX0_listen := goodIn_r _ [18, 19, 20, 21, 22, 23, 24, 11, 25, 26, 27, 9, 10, 12, 13, 28, 29, 30, 31, 32, 33, 34, 35, 36, 37, 38, 17, 39, 40, 41, 42, 43, 44, 45, 46, 47, 48, 49, 50, 51, 52, 53, 54, 55, 56, 57, 58, 59, 60, 61, 62, 63, 64, 65, 66, 67, 68, 69, 70, 71, 72, 73, 74, 75, 76, 77, 78, 79, 80, 81, 82, 83, 84, 85, 86, 87, 6, 88, 89, 90, 91, 92, 93, 94, 95, 96, 97, 98, 99, 100, 101, 102, 103, 104, 105, 106, 107, 108, 109, 110, 111, 112, 113, 114, 115, 116, 117, 118, 119, 120, 121, 122, 123, 124, 125, 126, 127, 128, 129, 130, 131, 132, 133, 134, 135, 136, 137, 138, 139, 140, 141, 142, 143, 144, 145, 146, 147, 148, 149, 150, 151, 152, 174, 175, 176, 177, 178, 179, 180, 181, 182, 183, 184, 185, 186, 187, 188, 189, 190, 191, 192, 193, 194, 195, 196] (by decide +kernel) (by decide +kernel)
set_option maxRecDepth 20000 in
theorem gX8_best_X0_listen : GoodIn wsX8_best (wsV RX8 207 RX0 yX0_listen wsX0_listen) := goodIn_app (goodIn_of _ (by decide +kernel)) ggX8_best_X0_listen
set_option maxRecDepth 20000 in
theorem ggX8_best_X0_bestMatch : GoodIn wsX8_best wsX0_bestMatch := goodIn_r _ [156, 95, 116, 174, 175, 176, 177, 178, 179, 180, 181, 182, 183, 184, 185] (by decide +kernel) (by decide +kernel)
set_option maxRecDepth 20000 in
theorem gX8_best_X0_bestMatch : GoodIn wsX8_best (wsV RX8 228 RX0 yX0_bestMatch wsX0_bestMatch) := goodIn_app (goodIn_of _ (by decide +kernel)) ggX8_best_X0_bestMatch
set_option maxRecDepth 20000 in
theorem ggX8_best_X0_edge : GoodIn wsX8_best wsX0_edge := goodIn_r _ [160, 95, 19, 93, 116, 117, 118, 17, 119, 161, 154, 155, 156, 174, 175, 176, 177, 178, 179, 180, 181, 182, 183, 184, 185, 186, 187, 188, 189, 190, 191] (by decide +kernel) (by decide +kernel)
set_option maxRecDepth 20000 in
theorem gX8_best_X0_edge : GoodIn wsX8_best (wsV RX8 231 RX0 yX0_edge wsX0_edge) := goodIn_app (goodIn_of _ (by decide +kernel)) ggX8_best_X0_edge
set_option maxRecDepth 20000 in
theorem ggX8_best_X0_alike : GoodIn wsX8_best wsX0_alike := goodIn_r _ [165, 19, 93, 95, 161, 154, 155, 17, 156, 116, 174, 175, 176, 177, 178, 179, 180, 181, 182, 183, 184, 185, 186, 187, 188, 189, 190, 191] (by decide +kernel) (by decide +kernel)
set_option maxRecDepth 20000 in
theorem gX8_best_X0_alike : GoodIn wsX8_best (wsV RX8 234 RX0 yX0_alike wsX0_alike) := goodIn_app (goodIn_of _ (by decide +kernel)) ggX8_best_X0_alike
theorem dX8_best_0 : decode cX8_best 0 = .ok (.iload_n 1, 1) := by decide +kernel
theorem dX8_best_1 : decode cX8_best 1 = .ok (.invokestatic 99, 3) := by decide +kernel
theorem dX8_best_4 : decode cX8_best 4 = .ok (.ifCond .eq 23, 3) := by decide +kernel
theorem dX8_best_7 : decode cX8_best 7 = .ok (.aload_n 0, 1) := by decide +kernel
theorem dX8_best_8 : decode cX8_best 8 = .ok (.getfield 24, 3) := by decide +kernel
theorem dX8_best_11 : decode cX8_best 11 = .ok (.iload_n 2, 1) := by decide +kernel
theorem dX8_best_12 : decode cX8_best 12 = .ok (.invokevirtual 119, 3) := by decide +kernel
theorem dX8_best_15 : decode cX8_best 15 = .ok (.ifCond .eq 12, 3) := by decide +kernel
theorem dX8_best_18 : decode cX8_best 18 = .ok (.iload_n 3, 1) := by decide +kernel
theorem dX8_best_19 : decode cX8_best 19 = .ok (.ifCond .lt 8, 3) := by decide +kernel
theorem dX8_best_22 : decode cX8_best 22 = .ok (.iload_n 3, 1) := by decide +kernel
theorem dX8_best_23 : decode cX8_best 23 = .ok (.iconst 3, 1) := by decide +kernel
theorem dX8_best_24 : decode cX8_best 24 = .ok (.if_icmp .le 7, 3) := by decide +kernel
theorem dX8_best_27 : decode cX8_best 27 = .ok (.sipush (-1000), 3) := by decide +kernel
theorem dX8_best_30 : decode cX8_best 30 = .ok (.ireturn, 1) := by decide +kernel
theorem dX8_best_31 : decode cX8_best 31 = .ok (.aload_n 0, 1) := by decide +kernel
theorem dX8_best_32 : decode cX8_best 32 = .ok (.getfield 43, 3) := by decide +kernel
theorem dX8_best_35 : decode cX8_best 35 = .ok (.iload_n 1, 1) := by decide +kernel
theorem dX8_best_36 : decode cX8_best 36 = .ok (.invokevirtual 207, 3) := by decide +kernel
theorem dX8_best_39 : decode cX8_best 39 = .ok (.iload_n 3, 1) := by decide +kernel
theorem dX8_best_40 : decode cX8_best 40 = .ok (.tableswitch 56 0 2 #[28, 38, 47], 28) := by decide +kernel
theorem dX8_best_68 : decode cX8_best 68 = .ok (.aload_n 0, 1) := by decide +kernel
theorem dX8_best_69 : decode cX8_best 69 = .ok (.getfield 43, 3) := by decide +kernel
theorem dX8_best_72 : decode cX8_best 72 = .ok (.getfield 225, 3) := by decide +kernel
theorem dX8_best_75 : decode cX8_best 75 = .ok (.iload_n 2, 1) := by decide +kernel
theorem dX8_best_76 : decode cX8_best 76 = .ok (.iaload, 1) := by decide +kernel
theorem dX8_best_77 : decode cX8_best 77 = .ok (.ireturn, 1) := by decide +kernel
theorem dX8_best_78 : decode cX8_best 78 = .ok (.aload_n 0, 1) := by decide +kernel
theorem dX8_best_79 : decode cX8_best 79 = .ok (.getfield 43, 3) := by decide +kernel
theorem dX8_best_82 : decode cX8_best 82 = .ok (.iload_n 2, 1) := by decide +kernel
theorem dX8_best_83 : decode cX8_best 83 = .ok (.invokevirtual 228, 3) := by decide +kernel
theorem dX8_best_86 : decode cX8_best 86 = .ok (.ireturn, 1) := by decide +kernel
theorem dX8_best_87 : decode cX8_best 87 = .ok (.aload_n 0, 1) := by decide +kernel
theorem dX8_best_88 : decode cX8_best 88 = .ok (.getfield 43, 3) := by decide +kernel
theorem dX8_best_91 : decode cX8_best 91 = .ok (.iload_n 2, 1) := by decide +kernel
theorem dX8_best_92 : decode cX8_best 92 = .ok (.invokevirtual 231, 3) := by decide +kernel
theorem dX8_best_95 : decode cX8_best 95 = .ok (.ireturn, 1) := by decide +kernel
theorem dX8_best_96 : decode cX8_best 96 = .ok (.aload_n 0, 1) := by decide +kernel
theorem dX8_best_97 : decode cX8_best 97 = .ok (.getfield 43, 3) := by decide +kernel
theorem dX8_best_100 : decode cX8_best 100 = .ok (.iload_n 2, 1) := by decide +kernel
theorem dX8_best_101 : decode cX8_best 101 = .ok (.invokevirtual 234, 3) := by decide +kernel
theorem dX8_best_104 : decode cX8_best 104 = .ok (.ireturn, 1) := by decide +kernel
set_option maxRecDepth 20000 in
theorem ggX8_fragile_X8_isLeg : GoodIn wsX8_fragile wsX8_isLeg := goodIn_r _ [6] (by decide +kernel) (by decide +kernel)
set_option maxRecDepth 20000 in
theorem gX8_fragile_X8_isLeg : GoodIn wsX8_fragile (va_wsS RX8 99 yX8_isLeg wsX8_isLeg) := goodIn_app (goodIn_of _ (by decide +kernel)) ggX8_fragile_X8_isLeg
set_option maxRecDepth 20000 in
theorem ggX8_fragile_X7_hasPart : GoodIn wsX8_fragile wsX7_hasPart := goodIn_r _ [11, 12, 172, 173, 174, 175, 176, 177] (by decide +kernel) (by decide +kernel)
set_option maxRecDepth 20000 in
theorem gX8_fragile_X7_hasPart : GoodIn wsX8_fragile (wsV RX8 119 RX7 yX7_hasPart wsX7_hasPart) := goodIn_app (goodIn_of _ (by decide +kernel)) ggX8_fragile_X7_hasPart
set_option maxRecDepth 20000 in
theorem ggX8_fragile_X0_listen : GoodIn wsX8_fragile wsX0_listen := goodIn_r _ [17, 18, 19, 20, 21, 22, 23, 10, 24, 25, 26, 8, 9, 11, 12, 27, 28, 29, 30, 31, 32, 33, 34, 35, 36, 37, 16, 38, 39, 40, 41, 42, 43, 44, 45, 46, 47, 48, 49, 50, 51, 52, 53, 54, 55, 56, 57, 58, 59, 60, 61, 62, 63, 64, 65, 66, 67, 68, 69, 70, 71, 72, 73, 74, 75, 76, 77, 78, 79, 80, 81, 82, 83, 84, 85, 86, 5, 87, 88, 89, 90, 91, 92, 93, 94, 95, 96, 97, 98, 99, 100, 101, 102, 103, 104, 105, 106, 107, 108, 109, 110, 111, 112, 113, 114, 115, 116, 117, 118, 119, 120, 121, 122, 123, 124, 125, 126, 127, 128, 129, 130, 131, 132, 133, 134, 135, 136, 137, 138, 139, 140, 141, 142, 143, 144, 145, 146, 147, 148, 149, 150, 151, 178, 179, 180, 181, 182, 183, 184, 185, 186, 187, 188, 189, 172, 173, 174, 175, 176, 177, 190, 191, 192, 193, 194] (by decide +kernel) (by decide +kernel)
set_option maxRecDepth 20000 in
theorem gX8_fragile_X0_listen : GoodIn wsX8_fragile (wsV RX8 207 RX0 yX0_listen wsX0_listen) := goodIn_app (goodIn_of _ (by decide +kernel)) ggX8_fragile_X0_listen
set_option maxRecDepth 20000 in
theorem ggX8_fragile_X0_fewestTurns : GoodIn wsX8_fragile wsX0_fewestTurns := goodIn_r _ [155, 18, 92, 94, 115, 156, 157, 158, 16, 159, 160, 161, 162, 163, 46, 45, 57, 107, 108, 109, 10, 110, 84, 85, 86, 5, 87, 178, 179, 180, 181, 182, 183, 184, 185, 186, 187, 188, 189, 172, 173, 174, 175, 176, 177] (by decide +kernel) (by decide +kernel)
set_option maxRecDepth 20000 in
theorem gX8_fragile_X0_fewestTurns : GoodIn wsX8_fragile (wsV RX8 237 RX0 yX0_fewestTurns wsX0_fewestTurns) := goodIn_app (goodIn_of _ (by decide +kernel)) ggX8_fragile_X0_fewestTurns
theorem dX8_fragile_0 : decode cX8_fragile 0 = .ok (.iload_n 1, 1) := by decide +kernel
theorem dX8_fragile_1 : decode cX8_fragile 1 = .ok (.invokestatic 99, 3) := by decide +kernel
theorem dX8_fragile_4 : decode cX8_fragile 4 = .ok (.ifCond .eq 14, 3) := by decide +kernel
theorem dX8_fragile_7 : decode cX8_fragile 7 = .ok (.aload_n 0, 1) := by decide +kernel
theorem dX8_fragile_8 : decode cX8_fragile 8 = .ok (.getfield 24, 3) := by decide +kernel
theorem dX8_fragile_11 : decode cX8_fragile 11 = .ok (.iload_n 2, 1) := by decide +kernel
theorem dX8_fragile_12 : decode cX8_fragile 12 = .ok (.invokevirtual 119, 3) := by decide +kernel
theorem dX8_fragile_15 : decode cX8_fragile 15 = .ok (.ifCond .ne 7, 3) := by decide +kernel
theorem dX8_fragile_18 : decode cX8_fragile 18 = .ok (.sipush (-1000), 3) := by decide +kernel
theorem dX8_fragile_21 : decode cX8_fragile 21 = .ok (.ireturn, 1) := by decide +kernel
theorem dX8_fragile_22 : decode cX8_fragile 22 = .ok (.aload_n 0, 1) := by decide +kernel
theorem dX8_fragile_23 : decode cX8_fragile 23 = .ok (.getfield 43, 3) := by decide +kernel
theorem dX8_fragile_26 : decode cX8_fragile 26 = .ok (.iload_n 1, 1) := by decide +kernel
theorem dX8_fragile_27 : decode cX8_fragile 27 = .ok (.invokevirtual 207, 3) := by decide +kernel
theorem dX8_fragile_30 : decode cX8_fragile 30 = .ok (.aload_n 0, 1) := by decide +kernel
theorem dX8_fragile_31 : decode cX8_fragile 31 = .ok (.getfield 43, 3) := by decide +kernel
theorem dX8_fragile_34 : decode cX8_fragile 34 = .ok (.iload_n 2, 1) := by decide +kernel
theorem dX8_fragile_35 : decode cX8_fragile 35 = .ok (.invokevirtual 237, 3) := by decide +kernel
theorem dX8_fragile_38 : decode cX8_fragile 38 = .ok (.ireturn, 1) := by decide +kernel
set_option maxRecDepth 20000 in
theorem ggX8_right_X8_isLeg : GoodIn wsX8_right wsX8_isLeg := goodIn_r _ [10] (by decide +kernel) (by decide +kernel)
set_option maxRecDepth 20000 in
theorem gX8_right_X8_isLeg : GoodIn wsX8_right (va_wsS RX8 99 yX8_isLeg wsX8_isLeg) := goodIn_app (goodIn_of _ (by decide +kernel)) ggX8_right_X8_isLeg
set_option maxRecDepth 20000 in
theorem ggX8_right_X0_listen : GoodIn wsX8_right wsX0_listen := goodIn_r _ [15, 16, 17, 18, 19, 20, 21, 22, 23, 24, 25, 26, 27, 28, 29, 30, 31, 32, 33, 34, 35, 36, 37, 38, 39, 40, 14, 41, 42, 43, 44, 45, 46, 47, 48, 49, 50, 51, 52, 53, 54, 55, 56, 57, 58, 59, 60, 61, 62, 63, 64, 65, 66, 67, 68, 69, 70, 71, 72, 73, 74, 75, 76, 77, 78, 79, 80, 81, 82, 83, 84, 85, 86, 87, 88, 89, 9, 90, 91, 92, 93, 94, 95, 96, 97, 98, 99, 100, 101, 102, 103, 104, 105, 106, 107, 108, 109, 110, 111, 112, 113, 114, 115, 116, 117, 118, 119, 120, 121, 122, 123, 124, 125, 126, 127, 128, 129, 130, 131, 132, 133, 134, 135, 136, 137, 138, 139, 140, 141, 142, 143, 144, 145, 146, 147, 148, 149, 150, 151, 152, 153, 154, 171, 172, 173, 174, 175, 176, 177, 178, 179, 180, 181, 182, 183, 184, 185, 186, 187, 188, 189, 190, 191, 192, 193] (by decide +kernel) (by decide +kernel)
set_option maxRecDepth 20000 in
theorem gX8_right_X0_listen : GoodIn wsX8_right (wsV RX8 207 RX0 yX0_listen wsX0_listen) := goodIn_app (goodIn_of _ (by decide +kernel)) ggX8_right_X0_listen
set_option maxRecDepth 20000 in
theorem ggX8_right_X8_lagOf : GoodIn wsX8_right wsX8_lagOf := goodIn_r _ [158, 3, 159, 160, 161, 70, 71, 64, 72, 73, 66, 68, 67, 74, 75, 76, 77, 163, 164, 165, 166, 167, 168, 169, 170, 183, 184, 185, 186, 187, 188, 189, 190, 191, 192, 193] (by decide +kernel) (by decide +kernel)
set_option maxRecDepth 20000 in
theorem gX8_right_X8_lagOf : GoodIn wsX8_right (wsV RX8 217 RX8 yX8_lagOf wsX8_lagOf) := goodIn_app (goodIn_of _ (by decide +kernel)) ggX8_right_X8_lagOf
set_option maxRecDepth 20000 in
theorem ggX8_right_X8_rest : GoodIn wsX8_right wsX8_rest := goodIn_r _ [90] (by decide +kernel) (by decide +kernel)
set_option maxRecDepth 20000 in
theorem gX8_right_X8_rest : GoodIn wsX8_right (va_wsS RX8 243 yX8_rest wsX8_rest) := goodIn_app (goodIn_of _ (by decide +kernel)) ggX8_right_X8_rest
theorem dX8_right_0 : decode cX8_right 0 = .ok (.iload_n 1, 1) := by decide +kernel
theorem dX8_right_1 : decode cX8_right 1 = .ok (.invokestatic 99, 3) := by decide +kernel
theorem dX8_right_4 : decode cX8_right 4 = .ok (.ifCond .ne 5, 3) := by decide +kernel
theorem dX8_right_7 : decode cX8_right 7 = .ok (.iconst (-1), 1) := by decide +kernel
theorem dX8_right_8 : decode cX8_right 8 = .ok (.ireturn, 1) := by decide +kernel
theorem dX8_right_9 : decode cX8_right 9 = .ok (.aload_n 0, 1) := by decide +kernel
theorem dX8_right_10 : decode cX8_right 10 = .ok (.getfield 43, 3) := by decide +kernel
theorem dX8_right_13 : decode cX8_right 13 = .ok (.iload_n 1, 1) := by decide +kernel
theorem dX8_right_14 : decode cX8_right 14 = .ok (.invokevirtual 207, 3) := by decide +kernel
theorem dX8_right_17 : decode cX8_right 17 = .ok (.aload_n 0, 1) := by decide +kernel
theorem dX8_right_18 : decode cX8_right 18 = .ok (.iload_n 1, 1) := by decide +kernel
theorem dX8_right_19 : decode cX8_right 19 = .ok (.iconst 0, 1) := by decide +kernel
theorem dX8_right_20 : decode cX8_right 20 = .ok (.invokevirtual 217, 3) := by decide +kernel
theorem dX8_right_23 : decode cX8_right 23 = .ok (.istore_n 2, 1) := by decide +kernel
theorem dX8_right_24 : decode cX8_right 24 = .ok (.aload_n 0, 1) := by decide +kernel
theorem dX8_right_25 : decode cX8_right 25 = .ok (.getfield 43, 3) := by decide +kernel
theorem dX8_right_28 : decode cX8_right 28 = .ok (.getfield 240, 3) := by decide +kernel
theorem dX8_right_31 : decode cX8_right 31 = .ok (.iconst (-1), 1) := by decide +kernel
theorem dX8_right_32 : decode cX8_right 32 = .ok (.if_icmp .eq 13, 3) := by decide +kernel
theorem dX8_right_35 : decode cX8_right 35 = .ok (.iload_n 2, 1) := by decide +kernel
theorem dX8_right_36 : decode cX8_right 36 = .ok (.aload_n 0, 1) := by decide +kernel
theorem dX8_right_37 : decode cX8_right 37 = .ok (.getfield 43, 3) := by decide +kernel
theorem dX8_right_40 : decode cX8_right 40 = .ok (.getfield 240, 3) := by decide +kernel
theorem dX8_right_43 : decode cX8_right 43 = .ok (.iadd, 1) := by decide +kernel
theorem dX8_right_44 : decode cX8_right 44 = .ok (.istore_n 2, 1) := by decide +kernel
theorem dX8_right_45 : decode cX8_right 45 = .ok (.iconst 0, 1) := by decide +kernel
theorem dX8_right_46 : decode cX8_right 46 = .ok (.istore_n 3, 1) := by decide +kernel
theorem dX8_right_47 : decode cX8_right 47 = .ok (.iconst 0, 1) := by decide +kernel
theorem dX8_right_48 : decode cX8_right 48 = .ok (.istore 4, 2) := by decide +kernel
theorem dX8_right_50 : decode cX8_right 50 = .ok (.iload 4, 2) := by decide +kernel
theorem dX8_right_52 : decode cX8_right 52 = .ok (.aload_n 0, 1) := by decide +kernel
theorem dX8_right_53 : decode cX8_right 53 = .ok (.getfield 24, 3) := by decide +kernel
theorem dX8_right_56 : decode cX8_right 56 = .ok (.getfield 96, 3) := by decide +kernel
theorem dX8_right_59 : decode cX8_right 59 = .ok (.if_icmp .ge 43, 3) := by decide +kernel
theorem dX8_right_62 : decode cX8_right 62 = .ok (.aload_n 0, 1) := by decide +kernel
theorem dX8_right_63 : decode cX8_right 63 = .ok (.getfield 43, 3) := by decide +kernel
theorem dX8_right_66 : decode cX8_right 66 = .ok (.getfield 225, 3) := by decide +kernel
theorem dX8_right_69 : decode cX8_right 69 = .ok (.iload 4, 2) := by decide +kernel
theorem dX8_right_71 : decode cX8_right 71 = .ok (.iaload, 1) := by decide +kernel
theorem dX8_right_72 : decode cX8_right 72 = .ok (.iload_n 2, 1) := by decide +kernel
theorem dX8_right_73 : decode cX8_right 73 = .ok (.aload_n 0, 1) := by decide +kernel
theorem dX8_right_74 : decode cX8_right 74 = .ok (.getfield 24, 3) := by decide +kernel
theorem dX8_right_77 : decode cX8_right 77 = .ok (.getfield 135, 3) := by decide +kernel
theorem dX8_right_80 : decode cX8_right 80 = .ok (.iload 4, 2) := by decide +kernel
theorem dX8_right_82 : decode cX8_right 82 = .ok (.iaload, 1) := by decide +kernel
theorem dX8_right_83 : decode cX8_right 83 = .ok (.invokestatic 243, 3) := by decide +kernel
theorem dX8_right_86 : decode cX8_right 86 = .ok (.if_icmp .ne 10, 3) := by decide +kernel
theorem dX8_right_89 : decode cX8_right 89 = .ok (.iload_n 3, 1) := by decide +kernel
theorem dX8_right_90 : decode cX8_right 90 = .ok (.iconst 1, 1) := by decide +kernel
theorem dX8_right_91 : decode cX8_right 91 = .ok (.iload 4, 2) := by decide +kernel
theorem dX8_right_93 : decode cX8_right 93 = .ok (.ishl, 1) := by decide +kernel
theorem dX8_right_94 : decode cX8_right 94 = .ok (.ior, 1) := by decide +kernel
theorem dX8_right_95 : decode cX8_right 95 = .ok (.istore_n 3, 1) := by decide +kernel
theorem dX8_right_96 : decode cX8_right 96 = .ok (.iinc 4 1, 3) := by decide +kernel
theorem dX8_right_99 : decode cX8_right 99 = .ok (.goto (-49), 3) := by decide +kernel
theorem dX8_right_102 : decode cX8_right 102 = .ok (.iload_n 3, 1) := by decide +kernel
theorem dX8_right_103 : decode cX8_right 103 = .ok (.ireturn, 1) := by decide +kernel
set_option maxRecDepth 20000 in
theorem ggX8_joined_X8_isLeg : GoodIn wsX8_joined wsX8_isLeg := goodIn_r _ [6] (by decide +kernel) (by decide +kernel)
set_option maxRecDepth 20000 in
theorem gX8_joined_X8_isLeg : GoodIn wsX8_joined (va_wsS RX8 99 yX8_isLeg wsX8_isLeg) := goodIn_app (goodIn_of _ (by decide +kernel)) ggX8_joined_X8_isLeg
set_option maxRecDepth 20000 in
theorem ggX8_joined_X7_allParts : GoodIn wsX8_joined wsX7_allParts := goodIn_r _ [11, 12, 161, 162, 163, 164, 165, 166] (by decide +kernel) (by decide +kernel)
set_option maxRecDepth 20000 in
theorem gX8_joined_X7_allParts : GoodIn wsX8_joined (wsV RX8 149 RX7 yX7_allParts wsX7_allParts) := goodIn_app (goodIn_of _ (by decide +kernel)) ggX8_joined_X7_allParts
set_option maxRecDepth 20000 in
theorem ggX8_joined_X0_listen : GoodIn wsX8_joined wsX0_listen := goodIn_r _ [17, 18, 19, 20, 21, 22, 23, 10, 24, 25, 26, 27, 28, 29, 12, 30, 8, 9, 11, 31, 32, 33, 34, 35, 36, 37, 16, 38, 39, 40, 41, 42, 43, 44, 45, 46, 47, 48, 49, 50, 51, 52, 53, 54, 55, 56, 57, 58, 59, 60, 61, 62, 63, 64, 65, 66, 67, 68, 69, 70, 71, 72, 73, 74, 75, 76, 77, 78, 79, 80, 81, 82, 83, 84, 85, 86, 5, 87, 88, 89, 90, 91, 92, 93, 94, 95, 96, 97, 98, 99, 100, 101, 102, 103, 104, 105, 106, 107, 108, 109, 110, 111, 112, 113, 114, 115, 116, 117, 118, 119, 120, 121, 122, 123, 124, 125, 126, 127, 128, 129, 130, 131, 132, 133, 134, 135, 136, 137, 138, 139, 140, 141, 142, 143, 144, 145, 146, 147, 148, 149, 150, 151, 167, 168, 169, 170, 171, 172, 173, 174, 175, 176, 177, 178, 161, 162, 163, 164, 165, 166, 179, 180, 181, 182, 183] (by decide +kernel) (by decide +kernel)
set_option maxRecDepth 20000 in
theorem gX8_joined_X0_listen : GoodIn wsX8_joined (wsV RX8 207 RX0 yX0_listen wsX0_listen) := goodIn_app (goodIn_of _ (by decide +kernel)) ggX8_joined_X0_listen
set_option maxRecDepth 20000 in
theorem ggX8_joined_X0_join : GoodIn wsX8_joined wsX0_join := goodIn_r _ [142, 18, 47, 92, 115, 86, 5, 87, 143, 144, 145, 146, 147, 167, 168, 169, 170, 171, 172, 173, 174, 175, 176, 177, 178, 161, 162, 163, 164, 165, 166] (by decide +kernel) (by decide +kernel)
set_option maxRecDepth 20000 in
theorem gX8_joined_X0_join : GoodIn wsX8_joined (wsV RX8 246 RX0 yX0_join wsX0_join) := goodIn_app (goodIn_of _ (by decide +kernel)) ggX8_joined_X0_join
theorem dX8_joined_0 : decode cX8_joined 0 = .ok (.iload_n 1, 1) := by decide +kernel
theorem dX8_joined_1 : decode cX8_joined 1 = .ok (.invokestatic 99, 3) := by decide +kernel
theorem dX8_joined_4 : decode cX8_joined 4 = .ok (.ifCond .eq 18, 3) := by decide +kernel
theorem dX8_joined_7 : decode cX8_joined 7 = .ok (.iload_n 2, 1) := by decide +kernel
theorem dX8_joined_8 : decode cX8_joined 8 = .ok (.ifCond .lt 14, 3) := by decide +kernel
theorem dX8_joined_11 : decode cX8_joined 11 = .ok (.iload_n 2, 1) := by decide +kernel
theorem dX8_joined_12 : decode cX8_joined 12 = .ok (.aload_n 0, 1) := by decide +kernel
theorem dX8_joined_13 : decode cX8_joined 13 = .ok (.getfield 24, 3) := by decide +kernel
theorem dX8_joined_16 : decode cX8_joined 16 = .ok (.invokevirtual 149, 3) := by decide +kernel
theorem dX8_joined_19 : decode cX8_joined 19 = .ok (.if_icmp .le 6, 3) := by decide +kernel
theorem dX8_joined_22 : decode cX8_joined 22 = .ok (.bipush (-2), 2) := by decide +kernel
theorem dX8_joined_24 : decode cX8_joined 24 = .ok (.ireturn, 1) := by decide +kernel
theorem dX8_joined_25 : decode cX8_joined 25 = .ok (.aload_n 0, 1) := by decide +kernel
theorem dX8_joined_26 : decode cX8_joined 26 = .ok (.getfield 43, 3) := by decide +kernel
theorem dX8_joined_29 : decode cX8_joined 29 = .ok (.iload_n 1, 1) := by decide +kernel
theorem dX8_joined_30 : decode cX8_joined 30 = .ok (.invokevirtual 207, 3) := by decide +kernel
theorem dX8_joined_33 : decode cX8_joined 33 = .ok (.aload_n 0, 1) := by decide +kernel
theorem dX8_joined_34 : decode cX8_joined 34 = .ok (.getfield 43, 3) := by decide +kernel
theorem dX8_joined_37 : decode cX8_joined 37 = .ok (.iload_n 2, 1) := by decide +kernel
theorem dX8_joined_38 : decode cX8_joined 38 = .ok (.invokevirtual 246, 3) := by decide +kernel
theorem dX8_joined_41 : decode cX8_joined 41 = .ok (.ireturn, 1) := by decide +kernel
set_option maxRecDepth 20000 in
theorem ggX8_found_X8_isLeg : GoodIn wsX8_found wsX8_isLeg := goodIn_r _ [5] (by decide +kernel) (by decide +kernel)
set_option maxRecDepth 20000 in
theorem gX8_found_X8_isLeg : GoodIn wsX8_found (va_wsS RX8 99 yX8_isLeg wsX8_isLeg) := goodIn_app (goodIn_of _ (by decide +kernel)) ggX8_found_X8_isLeg
set_option maxRecDepth 20000 in
theorem ggX8_found_X0_listen : GoodIn wsX8_found wsX0_listen := goodIn_r _ [10, 11, 12, 13, 14, 15, 16, 17, 18, 19, 20, 21, 22, 23, 24, 25, 26, 27, 28, 29, 30, 31, 32, 33, 34, 35, 9, 36, 37, 38, 39, 40, 41, 42, 43, 44, 45, 46, 47, 48, 49, 50, 51, 52, 53, 54, 55, 56, 57, 58, 59, 60, 61, 62, 63, 64, 65, 66, 67, 68, 69, 70, 71, 72, 73, 74, 75, 76, 77, 78, 79, 80, 81, 82, 83, 84, 4, 85, 86, 87, 88, 89, 90, 91, 92, 93, 94, 95, 96, 97, 98, 99, 100, 101, 102, 103, 104, 105, 106, 107, 108, 109, 110, 111, 112, 113, 114, 115, 116, 117, 118, 119, 120, 121, 122, 123, 124, 125, 126, 127, 128, 129, 130, 131, 132, 133, 134, 135, 136, 137, 138, 139, 140, 141, 142, 143, 144, 145, 146, 147, 148, 149, 166, 167, 168, 169, 170, 171, 172, 173, 174, 175, 176, 177, 178, 179, 180, 181, 182, 183, 184, 185, 186, 187, 188] (by decide +kernel) (by decide +kernel)
set_option maxRecDepth 20000 in
theorem gX8_found_X0_listen : GoodIn wsX8_found (wsV RX8 207 RX0 yX0_listen wsX0_listen) := goodIn_app (goodIn_of _ (by decide +kernel)) ggX8_found_X0_listen
set_option maxRecDepth 20000 in
theorem ggX8_found_X0_finding : GoodIn wsX8_found wsX0_finding := goodIn_r _ [153, 38, 121, 122, 123, 154, 155, 156, 9, 157, 11, 128, 166, 167, 168, 169, 170, 171, 172, 173, 174, 175, 176, 177, 178, 179, 180, 181, 182, 183] (by decide +kernel) (by decide +kernel)
set_option maxRecDepth 20000 in
theorem gX8_found_X0_finding : GoodIn wsX8_found (wsV RX8 249 RX0 yX0_finding wsX0_finding) := goodIn_app (goodIn_of _ (by decide +kernel)) ggX8_found_X0_finding
theorem dX8_found_0 : decode cX8_found 0 = .ok (.iload_n 1, 1) := by decide +kernel
theorem dX8_found_1 : decode cX8_found 1 = .ok (.invokestatic 99, 3) := by decide +kernel
theorem dX8_found_4 : decode cX8_found 4 = .ok (.ifCond .ne 5, 3) := by decide +kernel
theorem dX8_found_7 : decode cX8_found 7 = .ok (.iconst (-1), 1) := by decide +kernel
theorem dX8_found_8 : decode cX8_found 8 = .ok (.ireturn, 1) := by decide +kernel
theorem dX8_found_9 : decode cX8_found 9 = .ok (.aload_n 0, 1) := by decide +kernel
theorem dX8_found_10 : decode cX8_found 10 = .ok (.getfield 43, 3) := by decide +kernel
theorem dX8_found_13 : decode cX8_found 13 = .ok (.iload_n 1, 1) := by decide +kernel
theorem dX8_found_14 : decode cX8_found 14 = .ok (.invokevirtual 207, 3) := by decide +kernel
theorem dX8_found_17 : decode cX8_found 17 = .ok (.aload_n 0, 1) := by decide +kernel
theorem dX8_found_18 : decode cX8_found 18 = .ok (.getfield 43, 3) := by decide +kernel
theorem dX8_found_21 : decode cX8_found 21 = .ok (.iload_n 2, 1) := by decide +kernel
theorem dX8_found_22 : decode cX8_found 22 = .ok (.invokevirtual 249, 3) := by decide +kernel
theorem dX8_found_25 : decode cX8_found 25 = .ok (.ireturn, 1) := by decide +kernel
set_option maxRecDepth 20000 in
theorem ggX8_guess_X8_isLeg : GoodIn wsX8_guess wsX8_isLeg := goodIn_r _ [7] (by decide +kernel) (by decide +kernel)
set_option maxRecDepth 20000 in
theorem gX8_guess_X8_isLeg : GoodIn wsX8_guess (va_wsS RX8 99 yX8_isLeg wsX8_isLeg) := goodIn_app (goodIn_of _ (by decide +kernel)) ggX8_guess_X8_isLeg
set_option maxRecDepth 20000 in
theorem ggX8_guess_X0_listen : GoodIn wsX8_guess wsX0_listen := goodIn_r _ [12, 13, 14, 15, 16, 17, 18, 19, 20, 21, 22, 23, 24, 25, 26, 27, 28, 29, 30, 31, 32, 33, 34, 35, 36, 37, 11, 38, 39, 40, 41, 42, 43, 44, 45, 46, 47, 48, 49, 50, 51, 52, 53, 54, 55, 56, 57, 58, 59, 60, 61, 62, 63, 64, 65, 66, 67, 68, 69, 70, 71, 72, 73, 74, 75, 76, 77, 78, 79, 80, 81, 82, 83, 84, 85, 86, 6, 87, 88, 89, 90, 91, 92, 93, 94, 95, 96, 97, 98, 99, 100, 101, 102, 103, 104, 105, 106, 107, 108, 109, 110, 111, 112, 113, 114, 115, 116, 117, 118, 119, 120, 121, 122, 123, 124, 125, 126, 127, 128, 129, 130, 131, 132, 133, 134, 135, 136, 137, 138, 139, 140, 141, 142, 143, 144, 145, 146, 147, 148, 149, 150, 151, 164, 165, 166, 167, 168, 169, 170, 171, 172, 173, 174, 175, 176, 177, 178, 179, 180, 181, 182, 183, 184, 185, 186] (by decide +kernel) (by decide +kernel)
set_option maxRecDepth 20000 in
theorem gX8_guess_X0_listen : GoodIn wsX8_guess (wsV RX8 207 RX0 yX0_listen wsX0_listen) := goodIn_app (goodIn_of _ (by decide +kernel)) ggX8_guess_X0_listen
set_option maxRecDepth 20000 in
theorem ggX8_guess_X0_guesses : GoodIn wsX8_guess wsX0_guesses := goodIn_r _ [155, 40, 124, 13, 130, 164, 165, 166, 167, 168, 169, 170, 171, 172, 173, 174, 175, 176, 177, 178, 179, 180, 181] (by decide +kernel) (by decide +kernel)
set_option maxRecDepth 20000 in
theorem gX8_guess_X0_guesses : GoodIn wsX8_guess (wsV RX8 252 RX0 yX0_guesses wsX0_guesses) := goodIn_app (goodIn_of _ (by decide +kernel)) ggX8_guess_X0_guesses
theorem dX8_guess_0 : decode cX8_guess 0 = .ok (.iload_n 1, 1) := by decide +kernel
theorem dX8_guess_1 : decode cX8_guess 1 = .ok (.invokestatic 99, 3) := by decide +kernel
theorem dX8_guess_4 : decode cX8_guess 4 = .ok (.ifCond .eq 7, 3) := by decide +kernel
theorem dX8_guess_7 : decode cX8_guess 7 = .ok (.iload_n 2, 1) := by decide +kernel
theorem dX8_guess_8 : decode cX8_guess 8 = .ok (.ifCond .ge 5, 3) := by decide +kernel
theorem dX8_guess_11 : decode cX8_guess 11 = .ok (.iconst (-1), 1) := by decide +kernel
theorem dX8_guess_12 : decode cX8_guess 12 = .ok (.ireturn, 1) := by decide +kernel
theorem dX8_guess_13 : decode cX8_guess 13 = .ok (.aload_n 0, 1) := by decide +kernel
theorem dX8_guess_14 : decode cX8_guess 14 = .ok (.getfield 43, 3) := by decide +kernel
theorem dX8_guess_17 : decode cX8_guess 17 = .ok (.iload_n 1, 1) := by decide +kernel
theorem dX8_guess_18 : decode cX8_guess 18 = .ok (.invokevirtual 207, 3) := by decide +kernel
theorem dX8_guess_21 : decode cX8_guess 21 = .ok (.iload_n 2, 1) := by decide +kernel
theorem dX8_guess_22 : decode cX8_guess 22 = .ok (.aload_n 0, 1) := by decide +kernel
theorem dX8_guess_23 : decode cX8_guess 23 = .ok (.getfield 43, 3) := by decide +kernel
theorem dX8_guess_26 : decode cX8_guess 26 = .ok (.invokevirtual 252, 3) := by decide +kernel
theorem dX8_guess_29 : decode cX8_guess 29 = .ok (.if_icmp .ge 23, 3) := by decide +kernel
theorem dX8_guess_32 : decode cX8_guess 32 = .ok (.aload_n 0, 1) := by decide +kernel
theorem dX8_guess_33 : decode cX8_guess 33 = .ok (.getfield 43, 3) := by decide +kernel
theorem dX8_guess_36 : decode cX8_guess 36 = .ok (.getfield 255, 3) := by decide +kernel
theorem dX8_guess_39 : decode cX8_guess 39 = .ok (.iload_n 2, 1) := by decide +kernel
theorem dX8_guess_40 : decode cX8_guess 40 = .ok (.aload_n 0, 1) := by decide +kernel
theorem dX8_guess_41 : decode cX8_guess 41 = .ok (.getfield 43, 3) := by decide +kernel
theorem dX8_guess_44 : decode cX8_guess 44 = .ok (.getfield 258, 3) := by decide +kernel
theorem dX8_guess_47 : decode cX8_guess 47 = .ok (.imul, 1) := by decide +kernel
theorem dX8_guess_48 : decode cX8_guess 48 = .ok (.iadd, 1) := by decide +kernel
theorem dX8_guess_49 : decode cX8_guess 49 = .ok (.goto 4, 3) := by decide +kernel
theorem dX8_guess_52 : decode cX8_guess 52 = .ok (.iconst (-1), 1) := by decide +kernel
theorem dX8_guess_53 : decode cX8_guess 53 = .ok (.ireturn, 1) := by decide +kernel
set_option maxRecDepth 20000 in
theorem ggX8_likely_X8_isLeg : GoodIn wsX8_likely wsX8_isLeg := goodIn_r _ [11] (by decide +kernel) (by decide +kernel)
set_option maxRecDepth 20000 in
theorem gX8_likely_X8_isLeg : GoodIn wsX8_likely (va_wsS RX8 99 yX8_isLeg wsX8_isLeg) := goodIn_app (goodIn_of _ (by decide +kernel)) ggX8_likely_X8_isLeg
set_option maxRecDepth 20000 in
theorem ggX8_likely_X0_listen : GoodIn wsX8_likely wsX0_listen := goodIn_r _ [16, 17, 18, 19, 20, 21, 22, 23, 24, 25, 26, 27, 28, 29, 30, 31, 32, 33, 34, 35, 36, 37, 38, 39, 40, 41, 15, 42, 43, 44, 45, 46, 47, 48, 49, 50, 51, 52, 53, 54, 55, 56, 57, 58, 59, 60, 61, 62, 63, 64, 65, 66, 67, 68, 69, 70, 71, 72, 73, 74, 75, 76, 77, 78, 79, 80, 81, 82, 83, 84, 85, 86, 87, 88, 89, 90, 10, 91, 92, 93, 94, 95, 96, 97, 98, 99, 100, 101, 102, 103, 104, 105, 106, 107, 108, 109, 110, 111, 112, 113, 114, 115, 116, 117, 118, 119, 120, 121, 122, 123, 124, 125, 126, 127, 128, 129, 130, 131, 132, 133, 134, 135, 136, 137, 138, 139, 140, 141, 142, 143, 144, 145, 146, 147, 148, 149, 150, 151, 152, 153, 154, 155, 201, 202, 203, 204, 205, 206, 207, 208, 209, 210, 211, 212, 191, 192, 193, 194, 195, 196, 213, 214, 215, 216, 217] (by decide +kernel) (by decide +kernel)
set_option maxRecDepth 20000 in
theorem gX8_likely_X0_listen : GoodIn wsX8_likely (wsV RX8 207 RX0 yX0_listen wsX0_listen) := goodIn_app (goodIn_of _ (by decide +kernel)) ggX8_likely_X0_listen
set_option maxRecDepth 20000 in
theorem ggX8_likely_X3_rankFirst : GoodIn wsX8_likely wsX3_rankFirst := goodIn_r _ [160, 161, 162, 163, 164, 165, 166, 167, 132, 168, 169, 100, 101, 102, 170, 171, 172, 159, 173, 174, 175, 176, 177, 178, 179, 180, 181, 182, 197, 198, 199, 200, 201, 202, 203, 204, 205, 206, 207, 208, 209, 210, 211, 212, 191, 192, 193, 194, 195, 196] (by decide +kernel) (by decide +kernel)
set_option maxRecDepth 20000 in
theorem gX8_likely_X3_rankFirst : GoodIn wsX8_likely (wsV RX8 261 RX3 yX3_rankFirst wsX3_rankFirst) := goodIn_app (goodIn_of _ (by decide +kernel)) ggX8_likely_X3_rankFirst
theorem dX8_likely_0 : decode cX8_likely 0 = .ok (.iload_n 1, 1) := by decide +kernel
theorem dX8_likely_1 : decode cX8_likely 1 = .ok (.invokestatic 99, 3) := by decide +kernel
theorem dX8_likely_4 : decode cX8_likely 4 = .ok (.ifCond .eq 24, 3) := by decide +kernel
theorem dX8_likely_7 : decode cX8_likely 7 = .ok (.iload_n 2, 1) := by decide +kernel
theorem dX8_likely_8 : decode cX8_likely 8 = .ok (.ifCond .lt 20, 3) := by decide +kernel
theorem dX8_likely_11 : decode cX8_likely 11 = .ok (.iload_n 2, 1) := by decide +kernel
theorem dX8_likely_12 : decode cX8_likely 12 = .ok (.bipush 20, 2) := by decide +kernel
theorem dX8_likely_14 : decode cX8_likely 14 = .ok (.if_icmp .ge 14, 3) := by decide +kernel
theorem dX8_likely_17 : decode cX8_likely 17 = .ok (.iload_n 2, 1) := by decide +kernel
theorem dX8_likely_18 : decode cX8_likely 18 = .ok (.aload_n 0, 1) := by decide +kernel
theorem dX8_likely_19 : decode cX8_likely 19 = .ok (.getfield 24, 3) := by decide +kernel
theorem dX8_likely_22 : decode cX8_likely 22 = .ok (.getfield 125, 3) := by decide +kernel
theorem dX8_likely_25 : decode cX8_likely 25 = .ok (.if_icmp .lt 6, 3) := by decide +kernel
theorem dX8_likely_28 : decode cX8_likely 28 = .ok (.ldc 162, 2) := by decide +kernel
theorem dX8_likely_30 : decode cX8_likely 30 = .ok (.ireturn, 1) := by decide +kernel
theorem dX8_likely_31 : decode cX8_likely 31 = .ok (.aload_n 0, 1) := by decide +kernel
theorem dX8_likely_32 : decode cX8_likely 32 = .ok (.getfield 43, 3) := by decide +kernel
theorem dX8_likely_35 : decode cX8_likely 35 = .ok (.iload_n 1, 1) := by decide +kernel
theorem dX8_likely_36 : decode cX8_likely 36 = .ok (.invokevirtual 207, 3) := by decide +kernel
theorem dX8_likely_39 : decode cX8_likely 39 = .ok (.aload_n 0, 1) := by decide +kernel
theorem dX8_likely_40 : decode cX8_likely 40 = .ok (.getfield 59, 3) := by decide +kernel
theorem dX8_likely_43 : decode cX8_likely 43 = .ok (.iload_n 2, 1) := by decide +kernel
theorem dX8_likely_44 : decode cX8_likely 44 = .ok (.iconst 1, 1) := by decide +kernel
theorem dX8_likely_45 : decode cX8_likely 45 = .ok (.iadd, 1) := by decide +kernel
theorem dX8_likely_46 : decode cX8_likely 46 = .ok (.invokevirtual 261, 3) := by decide +kernel
theorem dX8_likely_49 : decode cX8_likely 49 = .ok (.iload_n 3, 1) := by decide +kernel
theorem dX8_likely_50 : decode cX8_likely 50 = .ok (.ifCond .eq 15, 3) := by decide +kernel
theorem dX8_likely_53 : decode cX8_likely 53 = .ok (.aload_n 0, 1) := by decide +kernel
theorem dX8_likely_54 : decode cX8_likely 54 = .ok (.getfield 59, 3) := by decide +kernel
theorem dX8_likely_57 : decode cX8_likely 57 = .ok (.getfield 264, 3) := by decide +kernel
theorem dX8_likely_60 : decode cX8_likely 60 = .ok (.iload_n 2, 1) := by decide +kernel
theorem dX8_likely_61 : decode cX8_likely 61 = .ok (.iaload, 1) := by decide +kernel
theorem dX8_likely_62 : decode cX8_likely 62 = .ok (.goto 12, 3) := by decide +kernel
theorem dX8_likely_65 : decode cX8_likely 65 = .ok (.aload_n 0, 1) := by decide +kernel
theorem dX8_likely_66 : decode cX8_likely 66 = .ok (.getfield 59, 3) := by decide +kernel
theorem dX8_likely_69 : decode cX8_likely 69 = .ok (.getfield 267, 3) := by decide +kernel
theorem dX8_likely_72 : decode cX8_likely 72 = .ok (.iload_n 2, 1) := by decide +kernel
theorem dX8_likely_73 : decode cX8_likely 73 = .ok (.iaload, 1) := by decide +kernel
theorem dX8_likely_74 : decode cX8_likely 74 = .ok (.ireturn, 1) := by decide +kernel
set_option maxRecDepth 20000 in
theorem ggX8_rank_X8_isLeg : GoodIn wsX8_rank wsX8_isLeg := goodIn_r _ [8] (by decide +kernel) (by decide +kernel)
set_option maxRecDepth 20000 in
theorem gX8_rank_X8_isLeg : GoodIn wsX8_rank (va_wsS RX8 99 yX8_isLeg wsX8_isLeg) := goodIn_app (goodIn_of _ (by decide +kernel)) ggX8_rank_X8_isLeg
set_option maxRecDepth 20000 in
theorem ggX8_rank_X0_listen : GoodIn wsX8_rank wsX0_listen := goodIn_r _ [13, 14, 15, 16, 17, 18, 19, 20, 21, 22, 23, 24, 25, 26, 27, 28, 29, 30, 31, 32, 33, 34, 35, 36, 37, 38, 12, 39, 40, 41, 42, 43, 44, 45, 46, 47, 48, 49, 50, 51, 52, 53, 54, 55, 56, 57, 58, 59, 60, 61, 62, 63, 64, 65, 66, 67, 68, 69, 70, 71, 72, 73, 74, 75, 76, 77, 78, 79, 80, 81, 82, 83, 84, 85, 86, 87, 7, 88, 89, 90, 91, 92, 93, 94, 95, 96, 97, 98, 99, 100, 101, 102, 103, 104, 105, 106, 107, 108, 109, 110, 111, 112, 113, 114, 115, 116, 117, 118, 119, 120, 121, 122, 123, 124, 125, 126, 127, 128, 129, 130, 131, 132, 133, 134, 135, 136, 137, 138, 139, 140, 141, 142, 143, 144, 145, 146, 147, 148, 149, 150, 151, 152, 185, 186, 187, 188, 189, 190, 191, 192, 193, 194, 195, 196, 179, 180, 181, 182, 183, 184, 197, 198, 199, 200, 201] (by decide +kernel) (by decide +kernel)
set_option maxRecDepth 20000 in
theorem gX8_rank_X0_listen : GoodIn wsX8_rank (wsV RX8 207 RX0 yX0_listen wsX0_listen) := goodIn_app (goodIn_of _ (by decide +kernel)) ggX8_rank_X0_listen
set_option maxRecDepth 20000 in
theorem ggX8_rank_X3_placeOf : GoodIn wsX8_rank wsX3_placeOf := goodIn_r _ [157, 158, 159, 160, 161, 162, 163, 87, 7, 88, 164, 165, 166, 156, 167, 168, 169, 170, 97, 98, 99, 202, 203, 204, 205, 185, 186, 187, 188, 189, 190, 191, 192, 193, 194, 195, 196, 179, 180, 181, 182, 183, 184] (by decide +kernel) (by decide +kernel)
set_option maxRecDepth 20000 in
theorem gX8_rank_X3_placeOf : GoodIn wsX8_rank (wsV RX8 268 RX3 yX3_placeOf wsX3_placeOf) := goodIn_app (goodIn_of _ (by decide +kernel)) ggX8_rank_X3_placeOf
theorem dX8_rank_0 : decode cX8_rank 0 = .ok (.iload_n 1, 1) := by decide +kernel
theorem dX8_rank_1 : decode cX8_rank 1 = .ok (.invokestatic 99, 3) := by decide +kernel
theorem dX8_rank_4 : decode cX8_rank 4 = .ok (.ifCond .eq 18, 3) := by decide +kernel
theorem dX8_rank_7 : decode cX8_rank 7 = .ok (.iload_n 2, 1) := by decide +kernel
theorem dX8_rank_8 : decode cX8_rank 8 = .ok (.ifCond .lt 14, 3) := by decide +kernel
theorem dX8_rank_11 : decode cX8_rank 11 = .ok (.iload_n 2, 1) := by decide +kernel
theorem dX8_rank_12 : decode cX8_rank 12 = .ok (.aload_n 0, 1) := by decide +kernel
theorem dX8_rank_13 : decode cX8_rank 13 = .ok (.getfield 24, 3) := by decide +kernel
theorem dX8_rank_16 : decode cX8_rank 16 = .ok (.getfield 125, 3) := by decide +kernel
theorem dX8_rank_19 : decode cX8_rank 19 = .ok (.if_icmp .lt 5, 3) := by decide +kernel
theorem dX8_rank_22 : decode cX8_rank 22 = .ok (.iconst (-1), 1) := by decide +kernel
theorem dX8_rank_23 : decode cX8_rank 23 = .ok (.ireturn, 1) := by decide +kernel
theorem dX8_rank_24 : decode cX8_rank 24 = .ok (.aload_n 0, 1) := by decide +kernel
theorem dX8_rank_25 : decode cX8_rank 25 = .ok (.getfield 43, 3) := by decide +kernel
theorem dX8_rank_28 : decode cX8_rank 28 = .ok (.iload_n 1, 1) := by decide +kernel
theorem dX8_rank_29 : decode cX8_rank 29 = .ok (.invokevirtual 207, 3) := by decide +kernel
theorem dX8_rank_32 : decode cX8_rank 32 = .ok (.aload_n 0, 1) := by decide +kernel
theorem dX8_rank_33 : decode cX8_rank 33 = .ok (.getfield 59, 3) := by decide +kernel
theorem dX8_rank_36 : decode cX8_rank 36 = .ok (.iload_n 2, 1) := by decide +kernel
theorem dX8_rank_37 : decode cX8_rank 37 = .ok (.invokevirtual 268, 3) := by decide +kernel
theorem dX8_rank_40 : decode cX8_rank 40 = .ok (.ireturn, 1) := by decide +kernel
set_option maxRecDepth 20000 in
theorem ggX8_broken_X8_isLeg : GoodIn wsX8_broken wsX8_isLeg := goodIn_r _ [13] (by decide +kernel) (by decide +kernel)
set_option maxRecDepth 20000 in
theorem gX8_broken_X8_isLeg : GoodIn wsX8_broken (va_wsS RX8 99 yX8_isLeg wsX8_isLeg) := goodIn_app (goodIn_of _ (by decide +kernel)) ggX8_broken_X8_isLeg
set_option maxRecDepth 20000 in
theorem ggX8_broken_X7_hasPart : GoodIn wsX8_broken wsX7_hasPart := goodIn_r _ [18, 19, 196, 197, 198, 199, 200, 201] (by decide +kernel) (by decide +kernel)
set_option maxRecDepth 20000 in
theorem gX8_broken_X7_hasPart : GoodIn wsX8_broken (wsV RX8 119 RX7 yX7_hasPart wsX7_hasPart) := goodIn_app (goodIn_of _ (by decide +kernel)) ggX8_broken_X7_hasPart
set_option maxRecDepth 20000 in
theorem ggX8_broken_X0_listen : GoodIn wsX8_broken wsX0_listen := goodIn_r _ [24, 25, 26, 27, 28, 29, 30, 17, 31, 32, 33, 15, 16, 18, 19, 34, 35, 36, 37, 38, 39, 40, 41, 42, 43, 44, 23, 45, 46, 47, 48, 49, 50, 51, 52, 53, 54, 55, 56, 57, 58, 59, 60, 61, 62, 63, 64, 65, 66, 67, 68, 69, 70, 71, 72, 73, 74, 75, 76, 77, 78, 79, 80, 81, 82, 83, 84, 85, 86, 87, 88, 89, 90, 91, 92, 93, 12, 94, 95, 96, 97, 98, 99, 100, 101, 102, 103, 104, 105, 106, 107, 108, 109, 110, 111, 112, 113, 114, 115, 116, 117, 118, 119, 120, 121, 122, 123, 124, 125, 126, 127, 128, 129, 130, 131, 132, 133, 134, 135, 136, 137, 138, 139, 140, 141, 142, 143, 144, 145, 146, 147, 148, 149, 150, 151, 152, 153, 154, 155, 156, 157, 158, 214, 215, 216, 217, 218, 219, 220, 221, 222, 223, 224, 225, 196, 197, 198, 199, 200, 201, 202, 203, 204, 205, 206] (by decide +kernel) (by decide +kernel)
set_option maxRecDepth 20000 in
theorem gX8_broken_X0_listen : GoodIn wsX8_broken (wsV RX8 207 RX0 yX0_listen wsX0_listen) := goodIn_app (goodIn_of _ (by decide +kernel)) ggX8_broken_X0_listen
set_option maxRecDepth 20000 in
theorem ggX8_broken_X5_find : GoodIn wsX8_broken wsX5_find := goodIn_r _ [163, 164, 165, 166, 167, 168, 169, 170, 171, 172, 173, 103, 104, 105, 174, 107, 108, 23, 109, 64, 175, 111, 112, 113, 25, 99, 114, 115, 116, 17, 117, 91, 92, 93, 12, 94, 176, 177, 178, 162, 179, 180, 181, 182, 183, 124, 125, 207, 208, 209, 210, 211, 212, 213, 214, 215, 216, 217, 218, 219, 220, 221, 222, 223, 224, 225, 196, 197, 198, 199, 200, 201] (by decide +kernel) (by decide +kernel)
set_option maxRecDepth 20000 in
theorem gX8_broken_X5_find : GoodIn wsX8_broken (wsV RX8 271 RX5 yX5_find wsX5_find) := goodIn_app (goodIn_of _ (by decide +kernel)) ggX8_broken_X5_find
set_option maxRecDepth 20000 in
theorem ggX8_broken_X0_bestMatch : GoodIn wsX8_broken wsX0_bestMatch := goodIn_r _ [187, 101, 122, 214, 215, 216, 217, 218, 219, 220, 221, 222, 223, 224, 225] (by decide +kernel) (by decide +kernel)
set_option maxRecDepth 20000 in
theorem gX8_broken_X0_bestMatch : GoodIn wsX8_broken (wsV RX8 228 RX0 yX0_bestMatch wsX0_bestMatch) := goodIn_app (goodIn_of _ (by decide +kernel)) ggX8_broken_X0_bestMatch
theorem dX8_broken_0 : decode cX8_broken 0 = .ok (.iload_n 1, 1) := by decide +kernel
theorem dX8_broken_1 : decode cX8_broken 1 = .ok (.invokestatic 99, 3) := by decide +kernel
theorem dX8_broken_4 : decode cX8_broken 4 = .ok (.ifCond .eq 41, 3) := by decide +kernel
theorem dX8_broken_7 : decode cX8_broken 7 = .ok (.aload_n 0, 1) := by decide +kernel
theorem dX8_broken_8 : decode cX8_broken 8 = .ok (.getfield 24, 3) := by decide +kernel
theorem dX8_broken_11 : decode cX8_broken 11 = .ok (.iload_n 2, 1) := by decide +kernel
theorem dX8_broken_12 : decode cX8_broken 12 = .ok (.invokevirtual 119, 3) := by decide +kernel
theorem dX8_broken_15 : decode cX8_broken 15 = .ok (.ifCond .eq 30, 3) := by decide +kernel
theorem dX8_broken_18 : decode cX8_broken 18 = .ok (.iload_n 3, 1) := by decide +kernel
theorem dX8_broken_19 : decode cX8_broken 19 = .ok (.ifCond .lt 26, 3) := by decide +kernel
theorem dX8_broken_22 : decode cX8_broken 22 = .ok (.iload_n 3, 1) := by decide +kernel
theorem dX8_broken_23 : decode cX8_broken 23 = .ok (.iconst 4, 1) := by decide +kernel
theorem dX8_broken_24 : decode cX8_broken 24 = .ok (.if_icmp .gt 21, 3) := by decide +kernel
theorem dX8_broken_27 : decode cX8_broken 27 = .ok (.aload_n 0, 1) := by decide +kernel
theorem dX8_broken_28 : decode cX8_broken 28 = .ok (.getfield 24, 3) := by decide +kernel
theorem dX8_broken_31 : decode cX8_broken 31 = .ok (.getfield 103, 3) := by decide +kernel
theorem dX8_broken_34 : decode cX8_broken 34 = .ok (.iload_n 1, 1) := by decide +kernel
theorem dX8_broken_35 : decode cX8_broken 35 = .ok (.aaload, 1) := by decide +kernel
theorem dX8_broken_36 : decode cX8_broken 36 = .ok (.getfield 107, 3) := by decide +kernel
theorem dX8_broken_39 : decode cX8_broken 39 = .ok (.iconst 3, 1) := by decide +kernel
theorem dX8_broken_40 : decode cX8_broken 40 = .ok (.iaload, 1) := by decide +kernel
theorem dX8_broken_41 : decode cX8_broken 41 = .ok (.iconst 2, 1) := by decide +kernel
theorem dX8_broken_42 : decode cX8_broken 42 = .ok (.if_icmp .ge 7, 3) := by decide +kernel
theorem dX8_broken_45 : decode cX8_broken 45 = .ok (.sipush (-1000), 3) := by decide +kernel
theorem dX8_broken_48 : decode cX8_broken 48 = .ok (.ireturn, 1) := by decide +kernel
theorem dX8_broken_49 : decode cX8_broken 49 = .ok (.aload_n 0, 1) := by decide +kernel
theorem dX8_broken_50 : decode cX8_broken 50 = .ok (.getfield 43, 3) := by decide +kernel
theorem dX8_broken_53 : decode cX8_broken 53 = .ok (.iload_n 1, 1) := by decide +kernel
theorem dX8_broken_54 : decode cX8_broken 54 = .ok (.invokevirtual 207, 3) := by decide +kernel
theorem dX8_broken_57 : decode cX8_broken 57 = .ok (.aload_n 0, 1) := by decide +kernel
theorem dX8_broken_58 : decode cX8_broken 58 = .ok (.getfield 52, 3) := by decide +kernel
theorem dX8_broken_61 : decode cX8_broken 61 = .ok (.iload_n 2, 1) := by decide +kernel
theorem dX8_broken_62 : decode cX8_broken 62 = .ok (.invokevirtual 271, 3) := by decide +kernel
theorem dX8_broken_65 : decode cX8_broken 65 = .ok (.iload_n 3, 1) := by decide +kernel
theorem dX8_broken_66 : decode cX8_broken 66 = .ok (.tableswitch 62 0 3 #[30, 38, 46, 54], 30) := by decide +kernel
theorem dX8_broken_96 : decode cX8_broken 96 = .ok (.aload_n 0, 1) := by decide +kernel
theorem dX8_broken_97 : decode cX8_broken 97 = .ok (.getfield 52, 3) := by decide +kernel
theorem dX8_broken_100 : decode cX8_broken 100 = .ok (.getfield 274, 3) := by decide +kernel
theorem dX8_broken_103 : decode cX8_broken 103 = .ok (.ireturn, 1) := by decide +kernel
theorem dX8_broken_104 : decode cX8_broken 104 = .ok (.aload_n 0, 1) := by decide +kernel
theorem dX8_broken_105 : decode cX8_broken 105 = .ok (.getfield 52, 3) := by decide +kernel
theorem dX8_broken_108 : decode cX8_broken 108 = .ok (.getfield 277, 3) := by decide +kernel
theorem dX8_broken_111 : decode cX8_broken 111 = .ok (.ireturn, 1) := by decide +kernel
theorem dX8_broken_112 : decode cX8_broken 112 = .ok (.aload_n 0, 1) := by decide +kernel
theorem dX8_broken_113 : decode cX8_broken 113 = .ok (.getfield 52, 3) := by decide +kernel
theorem dX8_broken_116 : decode cX8_broken 116 = .ok (.getfield 280, 3) := by decide +kernel
theorem dX8_broken_119 : decode cX8_broken 119 = .ok (.ireturn, 1) := by decide +kernel
theorem dX8_broken_120 : decode cX8_broken 120 = .ok (.aload_n 0, 1) := by decide +kernel
theorem dX8_broken_121 : decode cX8_broken 121 = .ok (.getfield 52, 3) := by decide +kernel
theorem dX8_broken_124 : decode cX8_broken 124 = .ok (.getfield 283, 3) := by decide +kernel
theorem dX8_broken_127 : decode cX8_broken 127 = .ok (.ireturn, 1) := by decide +kernel
theorem dX8_broken_128 : decode cX8_broken 128 = .ok (.aload_n 0, 1) := by decide +kernel
theorem dX8_broken_129 : decode cX8_broken 129 = .ok (.getfield 52, 3) := by decide +kernel
theorem dX8_broken_132 : decode cX8_broken 132 = .ok (.getfield 283, 3) := by decide +kernel
theorem dX8_broken_135 : decode cX8_broken 135 = .ok (.aload_n 0, 1) := by decide +kernel
theorem dX8_broken_136 : decode cX8_broken 136 = .ok (.getfield 43, 3) := by decide +kernel
theorem dX8_broken_139 : decode cX8_broken 139 = .ok (.iload_n 2, 1) := by decide +kernel
theorem dX8_broken_140 : decode cX8_broken 140 = .ok (.invokevirtual 228, 3) := by decide +kernel
theorem dX8_broken_143 : decode cX8_broken 143 = .ok (.isub, 1) := by decide +kernel
theorem dX8_broken_144 : decode cX8_broken 144 = .ok (.ireturn, 1) := by decide +kernel
set_option maxRecDepth 20000 in
theorem ggX8_both_X8_lagOf : GoodIn wsX8_both wsX8_lagOf := goodIn_r _ [9, 10, 11, 12, 13, 14, 15, 16, 17, 18, 19, 20, 21, 22, 23, 24, 25, 158, 159, 160, 161, 162, 163, 164, 165, 178, 179, 180, 181, 182, 183, 184, 185, 186, 187, 188] (by decide +kernel) (by decide +kernel)
set_option maxRecDepth 20000 in
theorem gX8_both_X8_lagOf : GoodIn wsX8_both (wsV RX8 217 RX8 yX8_lagOf wsX8_lagOf) := goodIn_app (goodIn_of _ (by decide +kernel)) ggX8_both_X8_lagOf
set_option maxRecDepth 20000 in
theorem ggX8_both_X0_listen : GoodIn wsX8_both wsX0_listen := goodIn_r _ [30, 31, 32, 33, 34, 35, 36, 37, 38, 39, 40, 41, 42, 43, 44, 45, 46, 47, 48, 49, 50, 51, 52, 53, 54, 55, 29, 56, 57, 58, 59, 60, 61, 62, 63, 64, 65, 66, 67, 68, 69, 70, 71, 72, 73, 74, 75, 76, 77, 78, 16, 79, 19, 21, 20, 80, 14, 15, 17, 18, 22, 23, 24, 25, 81, 82, 83, 84, 85, 86, 87, 88, 89, 90, 91, 92, 8, 93, 94, 95, 96, 97, 98, 99, 100, 101, 102, 103, 104, 105, 106, 107, 108, 109, 110, 111, 112, 113, 114, 115, 116, 117, 118, 119, 120, 121, 122, 123, 124, 125, 126, 127, 128, 129, 130, 131, 132, 133, 134, 135, 136, 137, 138, 139, 140, 141, 142, 143, 144, 145, 146, 147, 148, 149, 150, 151, 152, 153, 154, 155, 156, 157, 166, 167, 168, 169, 170, 171, 172, 173, 174, 175, 176, 177, 178, 179, 180, 181, 182, 183, 184, 185, 186, 187, 188] (by decide +kernel) (by decide +kernel)
set_option maxRecDepth 20000 in
theorem gX8_both_X0_listen : GoodIn wsX8_both (wsV RX8 207 RX0 yX0_listen wsX0_listen) := goodIn_app (goodIn_of _ (by decide +kernel)) ggX8_both_X0_listen
theorem dX8_both_0 : decode cX8_both 0 = .ok (.aload_n 0, 1) := by decide +kernel
theorem dX8_both_1 : decode cX8_both 1 = .ok (.iconst 0, 1) := by decide +kernel
theorem dX8_both_2 : decode cX8_both 2 = .ok (.iconst 0, 1) := by decide +kernel
theorem dX8_both_3 : decode cX8_both 3 = .ok (.invokevirtual 217, 3) := by decide +kernel
theorem dX8_both_6 : decode cX8_both 6 = .ok (.aload_n 0, 1) := by decide +kernel
theorem dX8_both_7 : decode cX8_both 7 = .ok (.iconst 1, 1) := by decide +kernel
theorem dX8_both_8 : decode cX8_both 8 = .ok (.iconst 0, 1) := by decide +kernel
theorem dX8_both_9 : decode cX8_both 9 = .ok (.invokevirtual 217, 3) := by decide +kernel
theorem dX8_both_12 : decode cX8_both 12 = .ok (.iadd, 1) := by decide +kernel
theorem dX8_both_13 : decode cX8_both 13 = .ok (.istore_n 2, 1) := by decide +kernel
theorem dX8_both_14 : decode cX8_both 14 = .ok (.iload_n 1, 1) := by decide +kernel
theorem dX8_both_15 : decode cX8_both 15 = .ok (.iconst 1, 1) := by decide +kernel
theorem dX8_both_16 : decode cX8_both 16 = .ok (.if_icmp .ne 5, 3) := by decide +kernel
theorem dX8_both_19 : decode cX8_both 19 = .ok (.iload_n 2, 1) := by decide +kernel
theorem dX8_both_20 : decode cX8_both 20 = .ok (.ireturn, 1) := by decide +kernel
theorem dX8_both_21 : decode cX8_both 21 = .ok (.iload_n 1, 1) := by decide +kernel
theorem dX8_both_22 : decode cX8_both 22 = .ok (.ifCond .eq 11, 3) := by decide +kernel
theorem dX8_both_25 : decode cX8_both 25 = .ok (.iload_n 1, 1) := by decide +kernel
theorem dX8_both_26 : decode cX8_both 26 = .ok (.iconst 2, 1) := by decide +kernel
theorem dX8_both_27 : decode cX8_both 27 = .ok (.if_icmp .eq 6, 3) := by decide +kernel
theorem dX8_both_30 : decode cX8_both 30 = .ok (.ldc 162, 2) := by decide +kernel
theorem dX8_both_32 : decode cX8_both 32 = .ok (.ireturn, 1) := by decide +kernel
theorem dX8_both_33 : decode cX8_both 33 = .ok (.aload_n 0, 1) := by decide +kernel
theorem dX8_both_34 : decode cX8_both 34 = .ok (.getfield 43, 3) := by decide +kernel
theorem dX8_both_37 : decode cX8_both 37 = .ok (.iconst 1, 1) := by decide +kernel
theorem dX8_both_38 : decode cX8_both 38 = .ok (.invokevirtual 207, 3) := by decide +kernel
theorem dX8_both_41 : decode cX8_both 41 = .ok (.aload_n 0, 1) := by decide +kernel
theorem dX8_both_42 : decode cX8_both 42 = .ok (.getfield 43, 3) := by decide +kernel
theorem dX8_both_45 : decode cX8_both 45 = .ok (.getfield 240, 3) := by decide +kernel
theorem dX8_both_48 : decode cX8_both 48 = .ok (.iconst (-1), 1) := by decide +kernel
theorem dX8_both_49 : decode cX8_both 49 = .ok (.if_icmp .eq 14, 3) := by decide +kernel
theorem dX8_both_52 : decode cX8_both 52 = .ok (.aload_n 0, 1) := by decide +kernel
theorem dX8_both_53 : decode cX8_both 53 = .ok (.getfield 43, 3) := by decide +kernel
theorem dX8_both_56 : decode cX8_both 56 = .ok (.getfield 255, 3) := by decide +kernel
theorem dX8_both_59 : decode cX8_both 59 = .ok (.iconst (-1), 1) := by decide +kernel
theorem dX8_both_60 : decode cX8_both 60 = .ok (.if_icmp .ne 6, 3) := by decide +kernel
theorem dX8_both_63 : decode cX8_both 63 = .ok (.ldc 162, 2) := by decide +kernel
theorem dX8_both_65 : decode cX8_both 65 = .ok (.ireturn, 1) := by decide +kernel
theorem dX8_both_66 : decode cX8_both 66 = .ok (.aload_n 0, 1) := by decide +kernel
theorem dX8_both_67 : decode cX8_both 67 = .ok (.getfield 43, 3) := by decide +kernel
theorem dX8_both_70 : decode cX8_both 70 = .ok (.getfield 255, 3) := by decide +kernel
theorem dX8_both_73 : decode cX8_both 73 = .ok (.iload_n 1, 1) := by decide +kernel
theorem dX8_both_74 : decode cX8_both 74 = .ok (.ifCond .ne 13, 3) := by decide +kernel
theorem dX8_both_77 : decode cX8_both 77 = .ok (.aload_n 0, 1) := by decide +kernel
theorem dX8_both_78 : decode cX8_both 78 = .ok (.getfield 43, 3) := by decide +kernel
theorem dX8_both_81 : decode cX8_both 81 = .ok (.getfield 240, 3) := by decide +kernel
theorem dX8_both_84 : decode cX8_both 84 = .ok (.goto 4, 3) := by decide +kernel
theorem dX8_both_87 : decode cX8_both 87 = .ok (.iload_n 2, 1) := by decide +kernel
theorem dX8_both_88 : decode cX8_both 88 = .ok (.isub, 1) := by decide +kernel
theorem dX8_both_89 : decode cX8_both 89 = .ok (.ireturn, 1) := by decide +kernel
set_option maxRecDepth 20000 in
theorem ggX8_chance_X8_ways : GoodIn wsX8_chance wsX8_ways := goodIn_r _ [6] (by decide +kernel) (by decide +kernel)
set_option maxRecDepth 20000 in
theorem gX8_chance_X8_ways : GoodIn wsX8_chance (va_wsS RX8 288 yX8_ways wsX8_ways) := goodIn_app (goodIn_of _ (by decide +kernel)) ggX8_chance_X8_ways
set_option maxRecDepth 20000 in
theorem ggX8_chance_X8_power : GoodIn wsX8_chance wsX8_power := goodIn_r _ [9] (by decide +kernel) (by decide +kernel)
set_option maxRecDepth 20000 in
theorem gX8_chance_X8_power : GoodIn wsX8_chance (va_wsS RX8 292 yX8_power wsX8_power) := goodIn_app (goodIn_of _ (by decide +kernel)) ggX8_chance_X8_power
set_option maxRecDepth 20000 in
theorem ggX8_chance_X8_commonDivisor : GoodIn wsX8_chance wsX8_commonDivisor := goodIn_r _ [12] (by decide +kernel) (by decide +kernel)
set_option maxRecDepth 20000 in
theorem gX8_chance_X8_commonDivisor : GoodIn wsX8_chance (va_wsS RX8 298 yX8_commonDivisor wsX8_commonDivisor) := goodIn_app (goodIn_of _ (by decide +kernel)) ggX8_chance_X8_commonDivisor
theorem dX8_chance_0 : decode cX8_chance 0 = .ok (.iload_n 1, 1) := by decide +kernel
theorem dX8_chance_1 : decode cX8_chance 1 = .ok (.ifCond .lt 29, 3) := by decide +kernel
theorem dX8_chance_4 : decode cX8_chance 4 = .ok (.iload_n 1, 1) := by decide +kernel
theorem dX8_chance_5 : decode cX8_chance 5 = .ok (.bipush 18, 2) := by decide +kernel
theorem dX8_chance_7 : decode cX8_chance 7 = .ok (.if_icmp .gt 23, 3) := by decide +kernel
theorem dX8_chance_10 : decode cX8_chance 10 = .ok (.iload_n 2, 1) := by decide +kernel
theorem dX8_chance_11 : decode cX8_chance 11 = .ok (.ifCond .lt 19, 3) := by decide +kernel
theorem dX8_chance_14 : decode cX8_chance 14 = .ok (.iload_n 2, 1) := by decide +kernel
theorem dX8_chance_15 : decode cX8_chance 15 = .ok (.bipush 10, 2) := by decide +kernel
theorem dX8_chance_17 : decode cX8_chance 17 = .ok (.if_icmp .gt 13, 3) := by decide +kernel
theorem dX8_chance_20 : decode cX8_chance 20 = .ok (.iload_n 3, 1) := by decide +kernel
theorem dX8_chance_21 : decode cX8_chance 21 = .ok (.ifCond .lt 9, 3) := by decide +kernel
theorem dX8_chance_24 : decode cX8_chance 24 = .ok (.iload_n 3, 1) := by decide +kernel
theorem dX8_chance_25 : decode cX8_chance 25 = .ok (.bipush 18, 2) := by decide +kernel
theorem dX8_chance_27 : decode cX8_chance 27 = .ok (.if_icmp .le 7, 3) := by decide +kernel
theorem dX8_chance_30 : decode cX8_chance 30 = .ok (.ldc2_w 286, 3) := by decide +kernel
theorem dX8_chance_33 : decode cX8_chance 33 = .ok (.lreturn, 1) := by decide +kernel
theorem dX8_chance_34 : decode cX8_chance 34 = .ok (.lconst 0, 1) := by decide +kernel
theorem dX8_chance_35 : decode cX8_chance 35 = .ok (.lstore 5, 2) := by decide +kernel
theorem dX8_chance_37 : decode cX8_chance 37 = .ok (.iload_n 3, 1) := by decide +kernel
theorem dX8_chance_38 : decode cX8_chance 38 = .ok (.istore 7, 2) := by decide +kernel
theorem dX8_chance_40 : decode cX8_chance 40 = .ok (.iload 7, 2) := by decide +kernel
theorem dX8_chance_42 : decode cX8_chance 42 = .ok (.iload_n 1, 1) := by decide +kernel
theorem dX8_chance_43 : decode cX8_chance 43 = .ok (.if_icmp .gt 41, 3) := by decide +kernel
theorem dX8_chance_46 : decode cX8_chance 46 = .ok (.lload 5, 2) := by decide +kernel
theorem dX8_chance_48 : decode cX8_chance 48 = .ok (.iload_n 1, 1) := by decide +kernel
theorem dX8_chance_49 : decode cX8_chance 49 = .ok (.iload 7, 2) := by decide +kernel
theorem dX8_chance_51 : decode cX8_chance 51 = .ok (.invokestatic 288, 3) := by decide +kernel
theorem dX8_chance_54 : decode cX8_chance 54 = .ok (.iload_n 2, 1) := by decide +kernel
theorem dX8_chance_55 : decode cX8_chance 55 = .ok (.i2l, 1) := by decide +kernel
theorem dX8_chance_56 : decode cX8_chance 56 = .ok (.iload 7, 2) := by decide +kernel
theorem dX8_chance_58 : decode cX8_chance 58 = .ok (.invokestatic 292, 3) := by decide +kernel
theorem dX8_chance_61 : decode cX8_chance 61 = .ok (.bipush 10, 2) := by decide +kernel
theorem dX8_chance_63 : decode cX8_chance 63 = .ok (.iload_n 2, 1) := by decide +kernel
theorem dX8_chance_64 : decode cX8_chance 64 = .ok (.isub, 1) := by decide +kernel
theorem dX8_chance_65 : decode cX8_chance 65 = .ok (.i2l, 1) := by decide +kernel
theorem dX8_chance_66 : decode cX8_chance 66 = .ok (.iload_n 1, 1) := by decide +kernel
theorem dX8_chance_67 : decode cX8_chance 67 = .ok (.iload 7, 2) := by decide +kernel
theorem dX8_chance_69 : decode cX8_chance 69 = .ok (.isub, 1) := by decide +kernel
theorem dX8_chance_70 : decode cX8_chance 70 = .ok (.invokestatic 292, 3) := by decide +kernel
theorem dX8_chance_73 : decode cX8_chance 73 = .ok (.lmul, 1) := by decide +kernel
theorem dX8_chance_74 : decode cX8_chance 74 = .ok (.lmul, 1) := by decide +kernel
theorem dX8_chance_75 : decode cX8_chance 75 = .ok (.ladd, 1) := by decide +kernel
theorem dX8_chance_76 : decode cX8_chance 76 = .ok (.lstore 5, 2) := by decide +kernel
theorem dX8_chance_78 : decode cX8_chance 78 = .ok (.iinc 7 1, 3) := by decide +kernel
theorem dX8_chance_81 : decode cX8_chance 81 = .ok (.goto (-41), 3) := by decide +kernel
theorem dX8_chance_84 : decode cX8_chance 84 = .ok (.ldc2_w 296, 3) := by decide +kernel
theorem dX8_chance_87 : decode cX8_chance 87 = .ok (.iload_n 1, 1) := by decide +kernel
theorem dX8_chance_88 : decode cX8_chance 88 = .ok (.invokestatic 292, 3) := by decide +kernel
theorem dX8_chance_91 : decode cX8_chance 91 = .ok (.lstore 7, 2) := by decide +kernel
theorem dX8_chance_93 : decode cX8_chance 93 = .ok (.lload 5, 2) := by decide +kernel
theorem dX8_chance_95 : decode cX8_chance 95 = .ok (.lload 7, 2) := by decide +kernel
theorem dX8_chance_97 : decode cX8_chance 97 = .ok (.invokestatic 298, 3) := by decide +kernel
theorem dX8_chance_100 : decode cX8_chance 100 = .ok (.lstore 9, 2) := by decide +kernel
theorem dX8_chance_102 : decode cX8_chance 102 = .ok (.lload 9, 2) := by decide +kernel
theorem dX8_chance_104 : decode cX8_chance 104 = .ok (.lconst 1, 1) := by decide +kernel
theorem dX8_chance_105 : decode cX8_chance 105 = .ok (.lcmp, 1) := by decide +kernel
theorem dX8_chance_106 : decode cX8_chance 106 = .ok (.ifCond .ge 7, 3) := by decide +kernel
theorem dX8_chance_109 : decode cX8_chance 109 = .ok (.ldc2_w 286, 3) := by decide +kernel
theorem dX8_chance_112 : decode cX8_chance 112 = .ok (.lreturn, 1) := by decide +kernel
theorem dX8_chance_113 : decode cX8_chance 113 = .ok (.iload 4, 2) := by decide +kernel
theorem dX8_chance_115 : decode cX8_chance 115 = .ok (.ifCond .eq 8, 3) := by decide +kernel
theorem dX8_chance_118 : decode cX8_chance 118 = .ok (.lload 7, 2) := by decide +kernel
theorem dX8_chance_120 : decode cX8_chance 120 = .ok (.goto 5, 3) := by decide +kernel
theorem dX8_chance_123 : decode cX8_chance 123 = .ok (.lload 5, 2) := by decide +kernel
theorem dX8_chance_125 : decode cX8_chance 125 = .ok (.lload 9, 2) := by decide +kernel
theorem dX8_chance_127 : decode cX8_chance 127 = .ok (.ldiv, 1) := by decide +kernel
theorem dX8_chance_128 : decode cX8_chance 128 = .ok (.lreturn, 1) := by decide +kernel
set_option maxRecDepth 20000 in
theorem ggX8_bar_X8_power : GoodIn wsX8_bar wsX8_power := goodIn_r _ [6] (by decide +kernel) (by decide +kernel)
set_option maxRecDepth 20000 in
theorem gX8_bar_X8_power : GoodIn wsX8_bar (va_wsS RX8 292 yX8_power wsX8_power) := goodIn_app (goodIn_of _ (by decide +kernel)) ggX8_bar_X8_power
set_option maxRecDepth 20000 in
theorem ggX8_bar_X8_ways : GoodIn wsX8_bar wsX8_ways := goodIn_r _ [9] (by decide +kernel) (by decide +kernel)
set_option maxRecDepth 20000 in
theorem gX8_bar_X8_ways : GoodIn wsX8_bar (va_wsS RX8 288 yX8_ways wsX8_ways) := goodIn_app (goodIn_of _ (by decide +kernel)) ggX8_bar_X8_ways
theorem dX8_bar_0 : decode cX8_bar 0 = .ok (.iload_n 1, 1) := by decide +kernel
theorem dX8_bar_1 : decode cX8_bar 1 = .ok (.iconst 1, 1) := by decide +kernel
theorem dX8_bar_2 : decode cX8_bar 2 = .ok (.if_icmp .lt 20, 3) := by decide +kernel
theorem dX8_bar_5 : decode cX8_bar 5 = .ok (.iload_n 1, 1) := by decide +kernel
theorem dX8_bar_6 : decode cX8_bar 6 = .ok (.bipush 18, 2) := by decide +kernel
theorem dX8_bar_8 : decode cX8_bar 8 = .ok (.if_icmp .gt 14, 3) := by decide +kernel
theorem dX8_bar_11 : decode cX8_bar 11 = .ok (.iload_n 2, 1) := by decide +kernel
theorem dX8_bar_12 : decode cX8_bar 12 = .ok (.ifCond .lt 10, 3) := by decide +kernel
theorem dX8_bar_15 : decode cX8_bar 15 = .ok (.iload_n 2, 1) := by decide +kernel
theorem dX8_bar_16 : decode cX8_bar 16 = .ok (.sipush 1000, 3) := by decide +kernel
theorem dX8_bar_19 : decode cX8_bar 19 = .ok (.if_icmp .le 5, 3) := by decide +kernel
theorem dX8_bar_22 : decode cX8_bar 22 = .ok (.iconst (-1), 1) := by decide +kernel
theorem dX8_bar_23 : decode cX8_bar 23 = .ok (.ireturn, 1) := by decide +kernel
theorem dX8_bar_24 : decode cX8_bar 24 = .ok (.iload_n 2, 1) := by decide +kernel
theorem dX8_bar_25 : decode cX8_bar 25 = .ok (.i2l, 1) := by decide +kernel
theorem dX8_bar_26 : decode cX8_bar 26 = .ok (.ldc2_w 302, 3) := by decide +kernel
theorem dX8_bar_29 : decode cX8_bar 29 = .ok (.iload_n 1, 1) := by decide +kernel
theorem dX8_bar_30 : decode cX8_bar 30 = .ok (.invokestatic 292, 3) := by decide +kernel
theorem dX8_bar_33 : decode cX8_bar 33 = .ok (.lmul, 1) := by decide +kernel
theorem dX8_bar_34 : decode cX8_bar 34 = .ok (.lstore_n 3, 1) := by decide +kernel
theorem dX8_bar_35 : decode cX8_bar 35 = .ok (.lconst 0, 1) := by decide +kernel
theorem dX8_bar_36 : decode cX8_bar 36 = .ok (.lstore 5, 2) := by decide +kernel
theorem dX8_bar_38 : decode cX8_bar 38 = .ok (.iload_n 1, 1) := by decide +kernel
theorem dX8_bar_39 : decode cX8_bar 39 = .ok (.iconst 1, 1) := by decide +kernel
theorem dX8_bar_40 : decode cX8_bar 40 = .ok (.iadd, 1) := by decide +kernel
theorem dX8_bar_41 : decode cX8_bar 41 = .ok (.istore 7, 2) := by decide +kernel
theorem dX8_bar_43 : decode cX8_bar 43 = .ok (.iload 7, 2) := by decide +kernel
theorem dX8_bar_45 : decode cX8_bar 45 = .ok (.ifCond .le 40, 3) := by decide +kernel
theorem dX8_bar_48 : decode cX8_bar 48 = .ok (.lload 5, 2) := by decide +kernel
theorem dX8_bar_50 : decode cX8_bar 50 = .ok (.iload_n 1, 1) := by decide +kernel
theorem dX8_bar_51 : decode cX8_bar 51 = .ok (.iload 7, 2) := by decide +kernel
theorem dX8_bar_53 : decode cX8_bar 53 = .ok (.iconst 1, 1) := by decide +kernel
theorem dX8_bar_54 : decode cX8_bar 54 = .ok (.isub, 1) := by decide +kernel
theorem dX8_bar_55 : decode cX8_bar 55 = .ok (.invokestatic 288, 3) := by decide +kernel
theorem dX8_bar_58 : decode cX8_bar 58 = .ok (.ladd, 1) := by decide +kernel
theorem dX8_bar_59 : decode cX8_bar 59 = .ok (.ldc2_w 304, 3) := by decide +kernel
theorem dX8_bar_62 : decode cX8_bar 62 = .ok (.lmul, 1) := by decide +kernel
theorem dX8_bar_63 : decode cX8_bar 63 = .ok (.lload_n 3, 1) := by decide +kernel
theorem dX8_bar_64 : decode cX8_bar 64 = .ok (.lcmp, 1) := by decide +kernel
theorem dX8_bar_65 : decode cX8_bar 65 = .ok (.ifCond .gt 20, 3) := by decide +kernel
theorem dX8_bar_68 : decode cX8_bar 68 = .ok (.iinc 7 (-1), 3) := by decide +kernel
theorem dX8_bar_71 : decode cX8_bar 71 = .ok (.lload 5, 2) := by decide +kernel
theorem dX8_bar_73 : decode cX8_bar 73 = .ok (.iload_n 1, 1) := by decide +kernel
theorem dX8_bar_74 : decode cX8_bar 74 = .ok (.iload 7, 2) := by decide +kernel
theorem dX8_bar_76 : decode cX8_bar 76 = .ok (.invokestatic 288, 3) := by decide +kernel
theorem dX8_bar_79 : decode cX8_bar 79 = .ok (.ladd, 1) := by decide +kernel
theorem dX8_bar_80 : decode cX8_bar 80 = .ok (.lstore 5, 2) := by decide +kernel
theorem dX8_bar_82 : decode cX8_bar 82 = .ok (.goto (-39), 3) := by decide +kernel
theorem dX8_bar_85 : decode cX8_bar 85 = .ok (.iload 7, 2) := by decide +kernel
theorem dX8_bar_87 : decode cX8_bar 87 = .ok (.ireturn, 1) := by decide +kernel
set_option maxRecDepth 20000 in
theorem ggX8_metres_X8_isLeg : GoodIn wsX8_metres wsX8_isLeg := goodIn_r _ [9] (by decide +kernel) (by decide +kernel)
set_option maxRecDepth 20000 in
theorem gX8_metres_X8_isLeg : GoodIn wsX8_metres (va_wsS RX8 99 yX8_isLeg wsX8_isLeg) := goodIn_app (goodIn_of _ (by decide +kernel)) ggX8_metres_X8_isLeg
set_option maxRecDepth 20000 in
theorem ggX8_metres_X0_listen : GoodIn wsX8_metres wsX0_listen := goodIn_r _ [14, 15, 16, 17, 18, 19, 20, 21, 22, 23, 24, 25, 26, 27, 28, 29, 30, 31, 32, 33, 34, 35, 36, 37, 38, 39, 13, 40, 41, 42, 43, 44, 45, 46, 47, 48, 49, 50, 51, 52, 53, 54, 55, 56, 57, 58, 59, 60, 61, 62, 63, 64, 65, 66, 67, 68, 69, 70, 71, 72, 73, 74, 75, 76, 77, 78, 79, 80, 81, 82, 83, 84, 85, 86, 87, 88, 8, 89, 90, 91, 92, 93, 94, 95, 96, 97, 98, 99, 100, 101, 102, 103, 104, 105, 106, 107, 108, 109, 110, 111, 112, 113, 114, 115, 116, 117, 118, 119, 120, 121, 122, 123, 124, 125, 126, 127, 128, 129, 130, 131, 132, 133, 134, 135, 136, 137, 138, 139, 140, 141, 142, 143, 144, 145, 146, 147, 148, 149, 150, 151, 152, 153, 162, 163, 164, 165, 166, 167, 168, 169, 170, 171, 172, 173, 174, 175, 176, 177, 178, 179, 180, 181, 182, 183, 184] (by decide +kernel) (by decide +kernel)
set_option maxRecDepth 20000 in
theorem gX8_metres_X0_listen : GoodIn wsX8_metres (wsV RX8 207 RX0 yX0_listen wsX0_listen) := goodIn_app (goodIn_of _ (by decide +kernel)) ggX8_metres_X0_listen
theorem dX8_metres_0 : decode cX8_metres 0 = .ok (.iload_n 1, 1) := by decide +kernel
theorem dX8_metres_1 : decode cX8_metres 1 = .ok (.invokestatic 99, 3) := by decide +kernel
theorem dX8_metres_4 : decode cX8_metres 4 = .ok (.ifCond .ne 7, 3) := by decide +kernel
theorem dX8_metres_7 : decode cX8_metres 7 = .ok (.ldc2_w 308, 3) := by decide +kernel
theorem dX8_metres_10 : decode cX8_metres 10 = .ok (.lreturn, 1) := by decide +kernel
theorem dX8_metres_11 : decode cX8_metres 11 = .ok (.aload_n 0, 1) := by decide +kernel
theorem dX8_metres_12 : decode cX8_metres 12 = .ok (.getfield 43, 3) := by decide +kernel
theorem dX8_metres_15 : decode cX8_metres 15 = .ok (.iload_n 1, 1) := by decide +kernel
theorem dX8_metres_16 : decode cX8_metres 16 = .ok (.invokevirtual 207, 3) := by decide +kernel
theorem dX8_metres_19 : decode cX8_metres 19 = .ok (.aload_n 0, 1) := by decide +kernel
theorem dX8_metres_20 : decode cX8_metres 20 = .ok (.getfield 43, 3) := by decide +kernel
theorem dX8_metres_23 : decode cX8_metres 23 = .ok (.getfield 255, 3) := by decide +kernel
theorem dX8_metres_26 : decode cX8_metres 26 = .ok (.i2l, 1) := by decide +kernel
theorem dX8_metres_27 : decode cX8_metres 27 = .ok (.lstore 4, 2) := by decide +kernel
theorem dX8_metres_29 : decode cX8_metres 29 = .ok (.lload 4, 2) := by decide +kernel
theorem dX8_metres_31 : decode cX8_metres 31 = .ok (.ldc2_w 286, 3) := by decide +kernel
theorem dX8_metres_34 : decode cX8_metres 34 = .ok (.lcmp, 1) := by decide +kernel
theorem dX8_metres_35 : decode cX8_metres 35 = .ok (.ifCond .ne 7, 3) := by decide +kernel
theorem dX8_metres_38 : decode cX8_metres 38 = .ok (.ldc2_w 308, 3) := by decide +kernel
theorem dX8_metres_41 : decode cX8_metres 41 = .ok (.lreturn, 1) := by decide +kernel
theorem dX8_metres_42 : decode cX8_metres 42 = .ok (.lload 4, 2) := by decide +kernel
theorem dX8_metres_44 : decode cX8_metres 44 = .ok (.lconst 0, 1) := by decide +kernel
theorem dX8_metres_45 : decode cX8_metres 45 = .ok (.lcmp, 1) := by decide +kernel
theorem dX8_metres_46 : decode cX8_metres 46 = .ok (.ifCond .ne 5, 3) := by decide +kernel
theorem dX8_metres_49 : decode cX8_metres 49 = .ok (.lconst 0, 1) := by decide +kernel
theorem dX8_metres_50 : decode cX8_metres 50 = .ok (.lreturn, 1) := by decide +kernel
theorem dX8_metres_51 : decode cX8_metres 51 = .ok (.lload_n 2, 1) := by decide +kernel
theorem dX8_metres_52 : decode cX8_metres 52 = .ok (.ldc2_w 310, 3) := by decide +kernel
theorem dX8_metres_55 : decode cX8_metres 55 = .ok (.lload 4, 2) := by decide +kernel
theorem dX8_metres_57 : decode cX8_metres 57 = .ok (.ldiv, 1) := by decide +kernel
theorem dX8_metres_58 : decode cX8_metres 58 = .ok (.lcmp, 1) := by decide +kernel
theorem dX8_metres_59 : decode cX8_metres 59 = .ok (.ifCond .gt 14, 3) := by decide +kernel
theorem dX8_metres_62 : decode cX8_metres 62 = .ok (.lload_n 2, 1) := by decide +kernel
theorem dX8_metres_63 : decode cX8_metres 63 = .ok (.ldc2_w 308, 3) := by decide +kernel
theorem dX8_metres_66 : decode cX8_metres 66 = .ok (.lload 4, 2) := by decide +kernel
theorem dX8_metres_68 : decode cX8_metres 68 = .ok (.ldiv, 1) := by decide +kernel
theorem dX8_metres_69 : decode cX8_metres 69 = .ok (.lcmp, 1) := by decide +kernel
theorem dX8_metres_70 : decode cX8_metres 70 = .ok (.ifCond .ge 7, 3) := by decide +kernel
theorem dX8_metres_73 : decode cX8_metres 73 = .ok (.ldc2_w 308, 3) := by decide +kernel
theorem dX8_metres_76 : decode cX8_metres 76 = .ok (.lreturn, 1) := by decide +kernel
theorem dX8_metres_77 : decode cX8_metres 77 = .ok (.lload 4, 2) := by decide +kernel
theorem dX8_metres_79 : decode cX8_metres 79 = .ok (.lload_n 2, 1) := by decide +kernel
theorem dX8_metres_80 : decode cX8_metres 80 = .ok (.lmul, 1) := by decide +kernel
theorem dX8_metres_81 : decode cX8_metres 81 = .ok (.lreturn, 1) := by decide +kernel
set_option maxRecDepth 20000 in
theorem ggX8_longer_X8_isLeg : GoodIn wsX8_longer wsX8_isLeg := goodIn_r _ [8] (by decide +kernel) (by decide +kernel)
set_option maxRecDepth 20000 in
theorem gX8_longer_X8_isLeg : GoodIn wsX8_longer (va_wsS RX8 99 yX8_isLeg wsX8_isLeg) := goodIn_app (goodIn_of _ (by decide +kernel)) ggX8_longer_X8_isLeg
set_option maxRecDepth 20000 in
theorem ggX8_longer_X7_election : GoodIn wsX8_longer wsX7_election := goodIn_r _ [13, 14, 15, 16, 17, 12, 18, 19, 20, 21, 22, 23, 24, 25, 26, 27, 165, 166, 167, 168, 169, 170] (by decide +kernel) (by decide +kernel)
set_option maxRecDepth 20000 in
theorem gX8_longer_X7_election : GoodIn wsX8_longer (wsV RX8 169 RX7 yX7_election wsX7_election) := goodIn_app (goodIn_of _ (by decide +kernel)) ggX8_longer_X7_election
set_option maxRecDepth 20000 in
theorem ggX8_longer_X0_listenAs : GoodIn wsX8_longer wsX0_listenAs := goodIn_r _ [32, 33, 34, 35, 36, 37, 38, 39, 40, 31, 41, 42, 43, 44, 45, 46, 47, 48, 49, 50, 51, 52, 53, 54, 55, 56, 57, 58, 59, 60, 61, 62, 63, 64, 65, 66, 67, 68, 69, 70, 71, 72, 73, 74, 75, 76, 77, 78, 79, 12, 80, 19, 81, 82, 83, 7, 84, 85, 86, 87, 88, 89, 90, 91, 92, 93, 94, 95, 96, 97, 98, 99, 100, 101, 102, 103, 104, 105, 106, 107, 108, 109, 110, 111, 112, 113, 114, 115, 116, 117, 118, 119, 120, 121, 122, 123, 124, 125, 126, 127, 128, 21, 22, 23, 129, 130, 131, 132, 133, 134, 135, 136, 137, 138, 139, 140, 141, 142, 143, 144, 145, 146, 147, 148, 176, 177, 178, 179, 180, 181, 182, 183, 184, 185, 186, 187, 165, 166, 167, 168, 169, 170, 171, 172, 173, 174, 175] (by decide +kernel) (by decide +kernel)
set_option maxRecDepth 20000 in
theorem gX8_longer_X0_listenAs : GoodIn wsX8_longer (wsV RX8 312 RX0 yX0_listenAs wsX0_listenAs) := goodIn_app (goodIn_of _ (by decide +kernel)) ggX8_longer_X0_listenAs
set_option maxRecDepth 20000 in
theorem ggX8_longer_X0_finding : GoodIn wsX8_longer wsX0_finding := goodIn_r _ [152, 37, 120, 121, 122, 153, 154, 155, 31, 156, 34, 127, 176, 177, 178, 179, 180, 181, 182, 183, 184, 185, 186, 187, 165, 166, 167, 168, 169, 170] (by decide +kernel) (by decide +kernel)
set_option maxRecDepth 20000 in
theorem gX8_longer_X0_finding : GoodIn wsX8_longer (wsV RX8 249 RX0 yX0_finding wsX0_finding) := goodIn_app (goodIn_of _ (by decide +kernel)) ggX8_longer_X0_finding
theorem dX8_longer_0 : decode cX8_longer 0 = .ok (.iload_n 1, 1) := by decide +kernel
theorem dX8_longer_1 : decode cX8_longer 1 = .ok (.invokestatic 99, 3) := by decide +kernel
theorem dX8_longer_4 : decode cX8_longer 4 = .ok (.ifCond .eq 15, 3) := by decide +kernel
theorem dX8_longer_7 : decode cX8_longer 7 = .ok (.iload_n 2, 1) := by decide +kernel
theorem dX8_longer_8 : decode cX8_longer 8 = .ok (.iconst 1, 1) := by decide +kernel
theorem dX8_longer_9 : decode cX8_longer 9 = .ok (.if_icmp .lt 10, 3) := by decide +kernel
theorem dX8_longer_12 : decode cX8_longer 12 = .ok (.iload_n 2, 1) := by decide +kernel
theorem dX8_longer_13 : decode cX8_longer 13 = .ok (.sipush 200, 3) := by decide +kernel
theorem dX8_longer_16 : decode cX8_longer 16 = .ok (.if_icmp .le 5, 3) := by decide +kernel
theorem dX8_longer_19 : decode cX8_longer 19 = .ok (.iconst (-1), 1) := by decide +kernel
theorem dX8_longer_20 : decode cX8_longer 20 = .ok (.ireturn, 1) := by decide +kernel
theorem dX8_longer_21 : decode cX8_longer 21 = .ok (.aload_n 0, 1) := by decide +kernel
theorem dX8_longer_22 : decode cX8_longer 22 = .ok (.getfield 43, 3) := by decide +kernel
theorem dX8_longer_25 : decode cX8_longer 25 = .ok (.iload_n 1, 1) := by decide +kernel
theorem dX8_longer_26 : decode cX8_longer 26 = .ok (.aload_n 0, 1) := by decide +kernel
theorem dX8_longer_27 : decode cX8_longer 27 = .ok (.getfield 24, 3) := by decide +kernel
theorem dX8_longer_30 : decode cX8_longer 30 = .ok (.getfield 103, 3) := by decide +kernel
theorem dX8_longer_33 : decode cX8_longer 33 = .ok (.iload_n 1, 1) := by decide +kernel
theorem dX8_longer_34 : decode cX8_longer 34 = .ok (.aaload, 1) := by decide +kernel
theorem dX8_longer_35 : decode cX8_longer 35 = .ok (.getfield 107, 3) := by decide +kernel
theorem dX8_longer_38 : decode cX8_longer 38 = .ok (.iconst 2, 1) := by decide +kernel
theorem dX8_longer_39 : decode cX8_longer 39 = .ok (.iaload, 1) := by decide +kernel
theorem dX8_longer_40 : decode cX8_longer 40 = .ok (.iload_n 2, 1) := by decide +kernel
theorem dX8_longer_41 : decode cX8_longer 41 = .ok (.aload_n 0, 1) := by decide +kernel
theorem dX8_longer_42 : decode cX8_longer 42 = .ok (.getfield 24, 3) := by decide +kernel
theorem dX8_longer_45 : decode cX8_longer 45 = .ok (.iconst (-1), 1) := by decide +kernel
theorem dX8_longer_46 : decode cX8_longer 46 = .ok (.iconst 0, 1) := by decide +kernel
theorem dX8_longer_47 : decode cX8_longer 47 = .ok (.invokevirtual 169, 3) := by decide +kernel
theorem dX8_longer_50 : decode cX8_longer 50 = .ok (.invokevirtual 312, 3) := by decide +kernel
theorem dX8_longer_53 : decode cX8_longer 53 = .ok (.aload_n 0, 1) := by decide +kernel
theorem dX8_longer_54 : decode cX8_longer 54 = .ok (.getfield 43, 3) := by decide +kernel
theorem dX8_longer_57 : decode cX8_longer 57 = .ok (.iload_n 3, 1) := by decide +kernel
theorem dX8_longer_58 : decode cX8_longer 58 = .ok (.invokevirtual 249, 3) := by decide +kernel
theorem dX8_longer_61 : decode cX8_longer 61 = .ok (.ireturn, 1) := by decide +kernel
set_option maxRecDepth 20000 in
theorem ggX8_needs_X8_isLeg : GoodIn wsX8_needs wsX8_isLeg := goodIn_r _ [9] (by decide +kernel) (by decide +kernel)
set_option maxRecDepth 20000 in
theorem gX8_needs_X8_isLeg : GoodIn wsX8_needs (va_wsS RX8 99 yX8_isLeg wsX8_isLeg) := goodIn_app (goodIn_of _ (by decide +kernel)) ggX8_needs_X8_isLeg
set_option maxRecDepth 20000 in
theorem ggX8_needs_X7_election : GoodIn wsX8_needs wsX7_election := goodIn_r _ [14, 15, 16, 17, 18, 13, 19, 20, 21, 22, 23, 24, 25, 26, 27, 28, 169, 170, 171, 172, 173, 174] (by decide +kernel) (by decide +kernel)
set_option maxRecDepth 20000 in
theorem gX8_needs_X7_election : GoodIn wsX8_needs (wsV RX8 169 RX7 yX7_election wsX7_election) := goodIn_app (goodIn_of _ (by decide +kernel)) ggX8_needs_X7_election
set_option maxRecDepth 20000 in
theorem ggX8_needs_X0_listenAs : GoodIn wsX8_needs wsX0_listenAs := goodIn_r _ [33, 34, 35, 36, 37, 38, 39, 40, 41, 32, 42, 43, 44, 45, 46, 47, 48, 49, 50, 51, 52, 53, 54, 55, 56, 57, 58, 59, 60, 61, 62, 63, 64, 65, 66, 67, 68, 69, 70, 71, 72, 73, 74, 75, 76, 77, 78, 79, 80, 13, 81, 20, 82, 83, 84, 8, 85, 86, 87, 88, 89, 90, 91, 92, 93, 94, 95, 96, 97, 98, 99, 100, 101, 102, 103, 104, 105, 106, 107, 108, 109, 110, 111, 112, 113, 114, 115, 116, 117, 118, 119, 120, 121, 122, 123, 124, 125, 126, 127, 128, 129, 22, 23, 24, 130, 131, 132, 133, 134, 135, 136, 137, 138, 139, 140, 141, 142, 143, 144, 145, 146, 147, 148, 149, 180, 181, 182, 183, 184, 185, 186, 187, 188, 189, 190, 191, 169, 170, 171, 172, 173, 174, 175, 176, 177, 178, 179] (by decide +kernel) (by decide +kernel)
set_option maxRecDepth 20000 in
theorem gX8_needs_X0_listenAs : GoodIn wsX8_needs (wsV RX8 312 RX0 yX0_listenAs wsX0_listenAs) := goodIn_app (goodIn_of _ (by decide +kernel)) ggX8_needs_X0_listenAs
set_option maxRecDepth 20000 in
theorem ggX8_needs_X0_forgetMatches : GoodIn wsX8_needs wsX0_forgetMatches := goodIn_r _ [153, 35, 45, 92, 93, 94, 95, 96, 180, 181, 182, 183, 184, 185, 186, 187, 188, 189, 190, 191, 169, 170, 171, 172, 173, 174] (by decide +kernel) (by decide +kernel)
set_option maxRecDepth 20000 in
theorem gX8_needs_X0_forgetMatches : GoodIn wsX8_needs (wsV RX8 316 RX0 yX0_forgetMatches wsX0_forgetMatches) := goodIn_app (goodIn_of _ (by decide +kernel)) ggX8_needs_X0_forgetMatches
set_option maxRecDepth 20000 in
theorem ggX8_needs_X0_matchOne : GoodIn wsX8_needs wsX0_matchOne := goodIn_r _ [157, 35, 45, 92, 43, 97, 98, 99, 32, 100, 55, 101, 102, 103, 104, 90, 105, 106, 107, 13, 108, 82, 83, 84, 8, 85, 180, 181, 182, 183, 184, 185, 186, 187, 188, 189, 190, 191, 169, 170, 171, 172, 173, 174] (by decide +kernel) (by decide +kernel)
set_option maxRecDepth 20000 in
theorem gX8_needs_X0_matchOne : GoodIn wsX8_needs (wsV RX8 319 RX0 yX0_matchOne wsX0_matchOne) := goodIn_app (goodIn_of _ (by decide +kernel)) ggX8_needs_X0_matchOne
set_option maxRecDepth 20000 in
theorem ggX8_needs_X0_pickBests : GoodIn wsX8_needs wsX0_pickBests := goodIn_r _ [112, 35, 45, 113, 92, 90, 114, 115, 32, 116, 180, 181, 182, 183, 184, 185, 186, 187, 188, 189, 190, 191, 169, 170, 171, 172, 173, 174] (by decide +kernel) (by decide +kernel)
set_option maxRecDepth 20000 in
theorem gX8_needs_X0_pickBests : GoodIn wsX8_needs (wsV RX8 322 RX0 yX0_pickBests wsX0_pickBests) := goodIn_app (goodIn_of _ (by decide +kernel)) ggX8_needs_X0_pickBests
set_option maxRecDepth 20000 in
theorem ggX8_needs_X7_allParts : GoodIn wsX8_needs wsX7_allParts := goodIn_r _ [24, 20, 169, 170, 171, 172, 173, 174] (by decide +kernel) (by decide +kernel)
set_option maxRecDepth 20000 in
theorem gX8_needs_X7_allParts : GoodIn wsX8_needs (wsV RX8 149 RX7 yX7_allParts wsX7_allParts) := goodIn_app (goodIn_of _ (by decide +kernel)) ggX8_needs_X7_allParts
set_option maxRecDepth 20000 in
theorem ggX8_needs_X0_join : GoodIn wsX8_needs wsX0_join := goodIn_r _ [140, 35, 45, 90, 113, 84, 8, 85, 141, 142, 143, 144, 145, 180, 181, 182, 183, 184, 185, 186, 187, 188, 189, 190, 191, 169, 170, 171, 172, 173, 174] (by decide +kernel) (by decide +kernel)
set_option maxRecDepth 20000 in
theorem gX8_needs_X0_join : GoodIn wsX8_needs (wsV RX8 246 RX0 yX0_join wsX0_join) := goodIn_app (goodIn_of _ (by decide +kernel)) ggX8_needs_X0_join
theorem dX8_needs_0 : decode cX8_needs 0 = .ok (.iload_n 1, 1) := by decide +kernel
theorem dX8_needs_1 : decode cX8_needs 1 = .ok (.invokestatic 99, 3) := by decide +kernel
theorem dX8_needs_4 : decode cX8_needs 4 = .ok (.ifCond .eq 18, 3) := by decide +kernel
theorem dX8_needs_7 : decode cX8_needs 7 = .ok (.iload_n 2, 1) := by decide +kernel
theorem dX8_needs_8 : decode cX8_needs 8 = .ok (.ifCond .lt 14, 3) := by decide +kernel
theorem dX8_needs_11 : decode cX8_needs 11 = .ok (.iload_n 2, 1) := by decide +kernel
theorem dX8_needs_12 : decode cX8_needs 12 = .ok (.aload_n 0, 1) := by decide +kernel
theorem dX8_needs_13 : decode cX8_needs 13 = .ok (.getfield 24, 3) := by decide +kernel
theorem dX8_needs_16 : decode cX8_needs 16 = .ok (.getfield 125, 3) := by decide +kernel
theorem dX8_needs_19 : decode cX8_needs 19 = .ok (.if_icmp .lt 5, 3) := by decide +kernel
theorem dX8_needs_22 : decode cX8_needs 22 = .ok (.iconst (-1), 1) := by decide +kernel
theorem dX8_needs_23 : decode cX8_needs 23 = .ok (.ireturn, 1) := by decide +kernel
theorem dX8_needs_24 : decode cX8_needs 24 = .ok (.aload_n 0, 1) := by decide +kernel
theorem dX8_needs_25 : decode cX8_needs 25 = .ok (.getfield 43, 3) := by decide +kernel
theorem dX8_needs_28 : decode cX8_needs 28 = .ok (.iload_n 1, 1) := by decide +kernel
theorem dX8_needs_29 : decode cX8_needs 29 = .ok (.aload_n 0, 1) := by decide +kernel
theorem dX8_needs_30 : decode cX8_needs 30 = .ok (.getfield 24, 3) := by decide +kernel
theorem dX8_needs_33 : decode cX8_needs 33 = .ok (.getfield 103, 3) := by decide +kernel
theorem dX8_needs_36 : decode cX8_needs 36 = .ok (.iload_n 1, 1) := by decide +kernel
theorem dX8_needs_37 : decode cX8_needs 37 = .ok (.aaload, 1) := by decide +kernel
theorem dX8_needs_38 : decode cX8_needs 38 = .ok (.getfield 107, 3) := by decide +kernel
theorem dX8_needs_41 : decode cX8_needs 41 = .ok (.iconst 2, 1) := by decide +kernel
theorem dX8_needs_42 : decode cX8_needs 42 = .ok (.iaload, 1) := by decide +kernel
theorem dX8_needs_43 : decode cX8_needs 43 = .ok (.sipush 200, 3) := by decide +kernel
theorem dX8_needs_46 : decode cX8_needs 46 = .ok (.aload_n 0, 1) := by decide +kernel
theorem dX8_needs_47 : decode cX8_needs 47 = .ok (.getfield 24, 3) := by decide +kernel
theorem dX8_needs_50 : decode cX8_needs 50 = .ok (.iconst (-1), 1) := by decide +kernel
theorem dX8_needs_51 : decode cX8_needs 51 = .ok (.iconst 0, 1) := by decide +kernel
theorem dX8_needs_52 : decode cX8_needs 52 = .ok (.invokevirtual 169, 3) := by decide +kernel
theorem dX8_needs_55 : decode cX8_needs 55 = .ok (.invokevirtual 312, 3) := by decide +kernel
theorem dX8_needs_58 : decode cX8_needs 58 = .ok (.aload_n 0, 1) := by decide +kernel
theorem dX8_needs_59 : decode cX8_needs 59 = .ok (.getfield 43, 3) := by decide +kernel
theorem dX8_needs_62 : decode cX8_needs 62 = .ok (.invokevirtual 316, 3) := by decide +kernel
theorem dX8_needs_65 : decode cX8_needs 65 = .ok (.iconst 1, 1) := by decide +kernel
theorem dX8_needs_66 : decode cX8_needs 66 = .ok (.istore_n 3, 1) := by decide +kernel
theorem dX8_needs_67 : decode cX8_needs 67 = .ok (.iload_n 3, 1) := by decide +kernel
theorem dX8_needs_68 : decode cX8_needs 68 = .ok (.sipush 200, 3) := by decide +kernel
theorem dX8_needs_71 : decode cX8_needs 71 = .ok (.if_icmp .gt 46, 3) := by decide +kernel
theorem dX8_needs_74 : decode cX8_needs 74 = .ok (.aload_n 0, 1) := by decide +kernel
theorem dX8_needs_75 : decode cX8_needs 75 = .ok (.getfield 43, 3) := by decide +kernel
theorem dX8_needs_78 : decode cX8_needs 78 = .ok (.iload_n 3, 1) := by decide +kernel
theorem dX8_needs_79 : decode cX8_needs 79 = .ok (.iconst 1, 1) := by decide +kernel
theorem dX8_needs_80 : decode cX8_needs 80 = .ok (.isub, 1) := by decide +kernel
theorem dX8_needs_81 : decode cX8_needs 81 = .ok (.invokevirtual 319, 3) := by decide +kernel
theorem dX8_needs_84 : decode cX8_needs 84 = .ok (.aload_n 0, 1) := by decide +kernel
theorem dX8_needs_85 : decode cX8_needs 85 = .ok (.getfield 43, 3) := by decide +kernel
theorem dX8_needs_88 : decode cX8_needs 88 = .ok (.invokevirtual 322, 3) := by decide +kernel
theorem dX8_needs_91 : decode cX8_needs 91 = .ok (.aload_n 0, 1) := by decide +kernel
theorem dX8_needs_92 : decode cX8_needs 92 = .ok (.getfield 43, 3) := by decide +kernel
theorem dX8_needs_95 : decode cX8_needs 95 = .ok (.aload_n 0, 1) := by decide +kernel
theorem dX8_needs_96 : decode cX8_needs 96 = .ok (.getfield 24, 3) := by decide +kernel
theorem dX8_needs_99 : decode cX8_needs 99 = .ok (.invokevirtual 149, 3) := by decide +kernel
theorem dX8_needs_102 : decode cX8_needs 102 = .ok (.invokevirtual 246, 3) := by decide +kernel
theorem dX8_needs_105 : decode cX8_needs 105 = .ok (.iload_n 2, 1) := by decide +kernel
theorem dX8_needs_106 : decode cX8_needs 106 = .ok (.if_icmp .ne 5, 3) := by decide +kernel
theorem dX8_needs_109 : decode cX8_needs 109 = .ok (.iload_n 3, 1) := by decide +kernel
theorem dX8_needs_110 : decode cX8_needs 110 = .ok (.ireturn, 1) := by decide +kernel
theorem dX8_needs_111 : decode cX8_needs 111 = .ok (.iinc 3 1, 3) := by decide +kernel
theorem dX8_needs_114 : decode cX8_needs 114 = .ok (.goto (-47), 3) := by decide +kernel
theorem dX8_needs_117 : decode cX8_needs 117 = .ok (.iconst (-1), 1) := by decide +kernel
theorem dX8_needs_118 : decode cX8_needs 118 = .ok (.ireturn, 1) := by decide +kernel
set_option maxRecDepth 20000 in
theorem ggX8_track_X8_isLeg : GoodIn wsX8_track wsX8_isLeg := goodIn_r _ [9] (by decide +kernel) (by decide +kernel)
set_option maxRecDepth 20000 in
theorem gX8_track_X8_isLeg : GoodIn wsX8_track (va_wsS RX8 99 yX8_isLeg wsX8_isLeg) := goodIn_app (goodIn_of _ (by decide +kernel)) ggX8_track_X8_isLeg
set_option maxRecDepth 20000 in
theorem ggX8_track_X7_election : GoodIn wsX8_track wsX7_election := goodIn_r _ [14, 15, 16, 17, 18, 13, 19, 20, 21, 22, 23, 24, 25, 26, 27, 28, 158, 159, 160, 161, 162, 163] (by decide +kernel) (by decide +kernel)
set_option maxRecDepth 20000 in
theorem gX8_track_X7_election : GoodIn wsX8_track (wsV RX8 169 RX7 yX7_election wsX7_election) := goodIn_app (goodIn_of _ (by decide +kernel)) ggX8_track_X7_election
set_option maxRecDepth 20000 in
theorem ggX8_track_X0_listenAs : GoodIn wsX8_track wsX0_listenAs := goodIn_r _ [33, 34, 35, 36, 37, 38, 39, 40, 41, 32, 42, 43, 44, 45, 46, 47, 48, 49, 50, 51, 52, 53, 54, 55, 56, 57, 58, 59, 60, 61, 62, 63, 64, 65, 66, 67, 68, 69, 70, 71, 72, 73, 74, 75, 76, 77, 78, 79, 80, 13, 81, 20, 82, 83, 84, 8, 85, 86, 87, 88, 89, 90, 91, 92, 93, 94, 95, 96, 97, 98, 99, 100, 101, 102, 103, 104, 105, 106, 107, 108, 109, 110, 111, 112, 113, 114, 115, 116, 117, 118, 119, 120, 121, 122, 123, 124, 125, 126, 127, 128, 129, 22, 23, 24, 130, 131, 132, 133, 134, 135, 136, 137, 138, 139, 140, 141, 142, 143, 144, 145, 146, 147, 148, 149, 169, 170, 171, 172, 173, 174, 175, 176, 177, 178, 179, 180, 158, 159, 160, 161, 162, 163, 164, 165, 166, 167, 168] (by decide +kernel) (by decide +kernel)
set_option maxRecDepth 20000 in
theorem gX8_track_X0_listenAs : GoodIn wsX8_track (wsV RX8 312 RX0 yX0_listenAs wsX0_listenAs) := goodIn_app (goodIn_of _ (by decide +kernel)) ggX8_track_X0_listenAs
theorem dX8_track_0 : decode cX8_track 0 = .ok (.iload_n 1, 1) := by decide +kernel
theorem dX8_track_1 : decode cX8_track 1 = .ok (.invokestatic 99, 3) := by decide +kernel
theorem dX8_track_4 : decode cX8_track 4 = .ok (.ifCond .eq 25, 3) := by decide +kernel
theorem dX8_track_7 : decode cX8_track 7 = .ok (.iload_n 2, 1) := by decide +kernel
theorem dX8_track_8 : decode cX8_track 8 = .ok (.iconst 1, 1) := by decide +kernel
theorem dX8_track_9 : decode cX8_track 9 = .ok (.if_icmp .lt 20, 3) := by decide +kernel
theorem dX8_track_12 : decode cX8_track 12 = .ok (.iload_n 2, 1) := by decide +kernel
theorem dX8_track_13 : decode cX8_track 13 = .ok (.sipush 200, 3) := by decide +kernel
theorem dX8_track_16 : decode cX8_track 16 = .ok (.if_icmp .gt 13, 3) := by decide +kernel
theorem dX8_track_19 : decode cX8_track 19 = .ok (.iload_n 3, 1) := by decide +kernel
theorem dX8_track_20 : decode cX8_track 20 = .ok (.ifCond .lt 9, 3) := by decide +kernel
theorem dX8_track_23 : decode cX8_track 23 = .ok (.iload_n 3, 1) := by decide +kernel
theorem dX8_track_24 : decode cX8_track 24 = .ok (.bipush 20, 2) := by decide +kernel
theorem dX8_track_26 : decode cX8_track 26 = .ok (.if_icmp .le 6, 3) := by decide +kernel
theorem dX8_track_29 : decode cX8_track 29 = .ok (.bipush (-2), 2) := by decide +kernel
theorem dX8_track_31 : decode cX8_track 31 = .ok (.ireturn, 1) := by decide +kernel
theorem dX8_track_32 : decode cX8_track 32 = .ok (.aload_n 0, 1) := by decide +kernel
theorem dX8_track_33 : decode cX8_track 33 = .ok (.getfield 24, 3) := by decide +kernel
theorem dX8_track_36 : decode cX8_track 36 = .ok (.getfield 103, 3) := by decide +kernel
theorem dX8_track_39 : decode cX8_track 39 = .ok (.iload_n 1, 1) := by decide +kernel
theorem dX8_track_40 : decode cX8_track 40 = .ok (.aaload, 1) := by decide +kernel
theorem dX8_track_41 : decode cX8_track 41 = .ok (.getfield 107, 3) := by decide +kernel
theorem dX8_track_44 : decode cX8_track 44 = .ok (.astore 4, 2) := by decide +kernel
theorem dX8_track_46 : decode cX8_track 46 = .ok (.aload_n 0, 1) := by decide +kernel
theorem dX8_track_47 : decode cX8_track 47 = .ok (.getfield 43, 3) := by decide +kernel
theorem dX8_track_50 : decode cX8_track 50 = .ok (.iload_n 1, 1) := by decide +kernel
theorem dX8_track_51 : decode cX8_track 51 = .ok (.aload 4, 2) := by decide +kernel
theorem dX8_track_53 : decode cX8_track 53 = .ok (.iconst 2, 1) := by decide +kernel
theorem dX8_track_54 : decode cX8_track 54 = .ok (.iaload, 1) := by decide +kernel
theorem dX8_track_55 : decode cX8_track 55 = .ok (.iload_n 3, 1) := by decide +kernel
theorem dX8_track_56 : decode cX8_track 56 = .ok (.iload_n 2, 1) := by decide +kernel
theorem dX8_track_57 : decode cX8_track 57 = .ok (.imul, 1) := by decide +kernel
theorem dX8_track_58 : decode cX8_track 58 = .ok (.iadd, 1) := by decide +kernel
theorem dX8_track_59 : decode cX8_track 59 = .ok (.aload 4, 2) := by decide +kernel
theorem dX8_track_61 : decode cX8_track 61 = .ok (.iconst 3, 1) := by decide +kernel
theorem dX8_track_62 : decode cX8_track 62 = .ok (.iaload, 1) := by decide +kernel
theorem dX8_track_63 : decode cX8_track 63 = .ok (.aload_n 0, 1) := by decide +kernel
theorem dX8_track_64 : decode cX8_track 64 = .ok (.getfield 24, 3) := by decide +kernel
theorem dX8_track_67 : decode cX8_track 67 = .ok (.iconst (-1), 1) := by decide +kernel
theorem dX8_track_68 : decode cX8_track 68 = .ok (.iconst 0, 1) := by decide +kernel
theorem dX8_track_69 : decode cX8_track 69 = .ok (.invokevirtual 169, 3) := by decide +kernel
theorem dX8_track_72 : decode cX8_track 72 = .ok (.invokevirtual 312, 3) := by decide +kernel
theorem dX8_track_75 : decode cX8_track 75 = .ok (.aload_n 0, 1) := by decide +kernel
theorem dX8_track_76 : decode cX8_track 76 = .ok (.getfield 43, 3) := by decide +kernel
theorem dX8_track_79 : decode cX8_track 79 = .ok (.getfield 255, 3) := by decide +kernel
theorem dX8_track_82 : decode cX8_track 82 = .ok (.ireturn, 1) := by decide +kernel
set_option maxRecDepth 20000 in
theorem ggX8_silent_X8_isLeg : GoodIn wsX8_silent wsX8_isLeg := goodIn_r _ [8] (by decide +kernel) (by decide +kernel)
set_option maxRecDepth 20000 in
theorem gX8_silent_X8_isLeg : GoodIn wsX8_silent (va_wsS RX8 99 yX8_isLeg wsX8_isLeg) := goodIn_app (goodIn_of _ (by decide +kernel)) ggX8_silent_X8_isLeg
set_option maxRecDepth 20000 in
theorem ggX8_silent_X7_hasPart : GoodIn wsX8_silent wsX7_hasPart := goodIn_r _ [13, 14, 162, 163, 164, 165, 166, 167] (by decide +kernel) (by decide +kernel)
set_option maxRecDepth 20000 in
theorem gX8_silent_X7_hasPart : GoodIn wsX8_silent (wsV RX8 119 RX7 yX7_hasPart wsX7_hasPart) := goodIn_app (goodIn_of _ (by decide +kernel)) ggX8_silent_X7_hasPart
set_option maxRecDepth 20000 in
theorem ggX8_silent_X7_election : GoodIn wsX8_silent wsX7_election := goodIn_r _ [18, 19, 20, 10, 11, 12, 13, 14, 21, 22, 23, 24, 25, 26, 27, 28, 162, 163, 164, 165, 166, 167] (by decide +kernel) (by decide +kernel)
set_option maxRecDepth 20000 in
theorem gX8_silent_X7_election : GoodIn wsX8_silent (wsV RX8 169 RX7 yX7_election wsX7_election) := goodIn_app (goodIn_of _ (by decide +kernel)) ggX8_silent_X7_election
set_option maxRecDepth 20000 in
theorem ggX8_silent_X0_listenAs : GoodIn wsX8_silent wsX0_listenAs := goodIn_r _ [33, 34, 35, 36, 37, 38, 39, 40, 41, 32, 42, 43, 44, 45, 46, 47, 48, 49, 50, 51, 52, 53, 54, 55, 56, 57, 58, 59, 60, 61, 62, 63, 64, 65, 66, 67, 68, 69, 70, 71, 72, 73, 74, 75, 76, 77, 78, 79, 80, 12, 81, 14, 82, 83, 84, 7, 85, 86, 87, 88, 89, 90, 91, 92, 93, 94, 95, 96, 97, 98, 99, 100, 101, 102, 103, 104, 105, 106, 107, 108, 109, 110, 111, 112, 113, 114, 115, 116, 117, 118, 119, 120, 121, 122, 123, 124, 125, 126, 127, 128, 129, 22, 23, 24, 130, 131, 132, 133, 134, 135, 136, 137, 138, 139, 140, 141, 142, 143, 144, 145, 146, 147, 148, 149, 173, 174, 175, 176, 177, 178, 179, 180, 181, 182, 183, 184, 162, 163, 164, 165, 166, 167, 168, 169, 170, 171, 172] (by decide +kernel) (by decide +kernel)
set_option maxRecDepth 20000 in
theorem gX8_silent_X0_listenAs : GoodIn wsX8_silent (wsV RX8 312 RX0 yX0_listenAs wsX0_listenAs) := goodIn_app (goodIn_of _ (by decide +kernel)) ggX8_silent_X0_listenAs
set_option maxRecDepth 20000 in
theorem ggX8_silent_X0_bestMatch : GoodIn wsX8_silent wsX0_bestMatch := goodIn_r _ [153, 92, 113, 173, 174, 175, 176, 177, 178, 179, 180, 181, 182, 183, 184] (by decide +kernel) (by decide +kernel)
set_option maxRecDepth 20000 in
theorem gX8_silent_X0_bestMatch : GoodIn wsX8_silent (wsV RX8 228 RX0 yX0_bestMatch wsX0_bestMatch) := goodIn_app (goodIn_of _ (by decide +kernel)) ggX8_silent_X0_bestMatch
theorem dX8_silent_0 : decode cX8_silent 0 = .ok (.iload_n 1, 1) := by decide +kernel
theorem dX8_silent_1 : decode cX8_silent 1 = .ok (.invokestatic 99, 3) := by decide +kernel
theorem dX8_silent_4 : decode cX8_silent 4 = .ok (.ifCond .eq 14, 3) := by decide +kernel
theorem dX8_silent_7 : decode cX8_silent 7 = .ok (.aload_n 0, 1) := by decide +kernel
theorem dX8_silent_8 : decode cX8_silent 8 = .ok (.getfield 24, 3) := by decide +kernel
theorem dX8_silent_11 : decode cX8_silent 11 = .ok (.iload_n 2, 1) := by decide +kernel
theorem dX8_silent_12 : decode cX8_silent 12 = .ok (.invokevirtual 119, 3) := by decide +kernel
theorem dX8_silent_15 : decode cX8_silent 15 = .ok (.ifCond .ne 7, 3) := by decide +kernel
theorem dX8_silent_18 : decode cX8_silent 18 = .ok (.sipush (-1000), 3) := by decide +kernel
theorem dX8_silent_21 : decode cX8_silent 21 = .ok (.ireturn, 1) := by decide +kernel
theorem dX8_silent_22 : decode cX8_silent 22 = .ok (.aload_n 0, 1) := by decide +kernel
theorem dX8_silent_23 : decode cX8_silent 23 = .ok (.getfield 24, 3) := by decide +kernel
theorem dX8_silent_26 : decode cX8_silent 26 = .ok (.getfield 103, 3) := by decide +kernel
theorem dX8_silent_29 : decode cX8_silent 29 = .ok (.iload_n 1, 1) := by decide +kernel
theorem dX8_silent_30 : decode cX8_silent 30 = .ok (.aaload, 1) := by decide +kernel
theorem dX8_silent_31 : decode cX8_silent 31 = .ok (.getfield 107, 3) := by decide +kernel
theorem dX8_silent_34 : decode cX8_silent 34 = .ok (.astore_n 3, 1) := by decide +kernel
theorem dX8_silent_35 : decode cX8_silent 35 = .ok (.aload_n 0, 1) := by decide +kernel
theorem dX8_silent_36 : decode cX8_silent 36 = .ok (.getfield 43, 3) := by decide +kernel
theorem dX8_silent_39 : decode cX8_silent 39 = .ok (.iload_n 1, 1) := by decide +kernel
theorem dX8_silent_40 : decode cX8_silent 40 = .ok (.aload_n 3, 1) := by decide +kernel
theorem dX8_silent_41 : decode cX8_silent 41 = .ok (.iconst 2, 1) := by decide +kernel
theorem dX8_silent_42 : decode cX8_silent 42 = .ok (.iaload, 1) := by decide +kernel
theorem dX8_silent_43 : decode cX8_silent 43 = .ok (.aload_n 3, 1) := by decide +kernel
theorem dX8_silent_44 : decode cX8_silent 44 = .ok (.iconst 3, 1) := by decide +kernel
theorem dX8_silent_45 : decode cX8_silent 45 = .ok (.iaload, 1) := by decide +kernel
theorem dX8_silent_46 : decode cX8_silent 46 = .ok (.aload_n 0, 1) := by decide +kernel
theorem dX8_silent_47 : decode cX8_silent 47 = .ok (.getfield 24, 3) := by decide +kernel
theorem dX8_silent_50 : decode cX8_silent 50 = .ok (.iload_n 2, 1) := by decide +kernel
theorem dX8_silent_51 : decode cX8_silent 51 = .ok (.iconst 0, 1) := by decide +kernel
theorem dX8_silent_52 : decode cX8_silent 52 = .ok (.invokevirtual 169, 3) := by decide +kernel
theorem dX8_silent_55 : decode cX8_silent 55 = .ok (.invokevirtual 312, 3) := by decide +kernel
theorem dX8_silent_58 : decode cX8_silent 58 = .ok (.aload_n 0, 1) := by decide +kernel
theorem dX8_silent_59 : decode cX8_silent 59 = .ok (.getfield 43, 3) := by decide +kernel
theorem dX8_silent_62 : decode cX8_silent 62 = .ok (.iload_n 2, 1) := by decide +kernel
theorem dX8_silent_63 : decode cX8_silent 63 = .ok (.invokevirtual 228, 3) := by decide +kernel
theorem dX8_silent_66 : decode cX8_silent 66 = .ok (.ireturn, 1) := by decide +kernel
set_option maxRecDepth 20000 in
theorem ggX8_image_X2_init : GoodIn wsX8_image wsX2_init := goodIn_r _ [7, 8, 9, 10, 11, 12, 13, 14, 15, 16, 17, 18, 19, 20, 21, 22, 23, 24, 25, 26, 27, 28, 29, 30, 31, 32, 33, 34, 35, 36, 37, 38, 74, 75, 76, 77, 78, 79, 69, 70, 71, 72, 73, 80, 81, 82, 83, 84] (by decide +kernel) (by decide +kernel)
set_option maxRecDepth 20000 in
theorem gX8_image_X2_init_n9 : GoodIn wsX8_image (wsX2_init) := ggX8_image_X2_init
set_option maxRecDepth 20000 in
theorem ggX8_image_X2_copyFrom : GoodIn wsX8_image wsX2_copyFrom := goodIn_r _ [42, 14, 16, 43, 44, 45, 46, 47, 48, 17, 49, 50, 51, 13, 52, 23, 53, 24, 25, 27, 54, 28, 55, 56, 57, 30, 58, 35, 59, 36, 37, 38, 60, 69, 70, 71, 72, 73, 74, 75, 76, 77, 78, 79, 80, 81, 82, 83, 84] (by decide +kernel) (by decide +kernel)
set_option maxRecDepth 20000 in
theorem gX8_image_X2_copyFrom : GoodIn wsX8_image (wsV RX8 325 RX2 yX2_copyFrom wsX2_copyFrom) := goodIn_app (goodIn_of _ (by decide +kernel)) ggX8_image_X2_copyFrom
theorem dX8_image_0 : decode cX8_image 0 = .ok (.iload_n 1, 1) := by decide +kernel
theorem dX8_image_1 : decode cX8_image 1 = .ok (.ifCond .lt 8, 3) := by decide +kernel
theorem dX8_image_4 : decode cX8_image 4 = .ok (.iload_n 1, 1) := by decide +kernel
theorem dX8_image_5 : decode cX8_image 5 = .ok (.iconst 3, 1) := by decide +kernel
theorem dX8_image_6 : decode cX8_image 6 = .ok (.if_icmp .lt 5, 3) := by decide +kernel
theorem dX8_image_9 : decode cX8_image 9 = .ok (.iconst 0, 1) := by decide +kernel
theorem dX8_image_10 : decode cX8_image 10 = .ok (.ireturn, 1) := by decide +kernel
theorem dX8_image_11 : decode cX8_image 11 = .ok (.aload_n 0, 1) := by decide +kernel
theorem dX8_image_12 : decode cX8_image 12 = .ok (.getfield 16, 3) := by decide +kernel
theorem dX8_image_15 : decode cX8_image 15 = .ok (.iload_n 1, 1) := by decide +kernel
theorem dX8_image_16 : decode cX8_image 16 = .ok (.aaload, 1) := by decide +kernel
theorem dX8_image_17 : decode cX8_image 17 = .ok (.ifnonnull 16, 3) := by decide +kernel
theorem dX8_image_20 : decode cX8_image 20 = .ok (.aload_n 0, 1) := by decide +kernel
theorem dX8_image_21 : decode cX8_image 21 = .ok (.getfield 16, 3) := by decide +kernel
theorem dX8_image_24 : decode cX8_image 24 = .ok (.iload_n 1, 1) := by decide +kernel
theorem dX8_image_25 : decode cX8_image 25 = .ok (.new 7, 3) := by decide +kernel
theorem dX8_image_28 : decode cX8_image 28 = .ok (.dup, 1) := by decide +kernel
theorem dX8_image_29 : decode cX8_image 29 = .ok (.invokespecial 9, 3) := by decide +kernel
theorem dX8_image_32 : decode cX8_image 32 = .ok (.aastore, 1) := by decide +kernel
theorem dX8_image_33 : decode cX8_image 33 = .ok (.aload_n 0, 1) := by decide +kernel
theorem dX8_image_34 : decode cX8_image 34 = .ok (.getfield 16, 3) := by decide +kernel
theorem dX8_image_37 : decode cX8_image 37 = .ok (.iload_n 1, 1) := by decide +kernel
theorem dX8_image_38 : decode cX8_image 38 = .ok (.aaload, 1) := by decide +kernel
theorem dX8_image_39 : decode cX8_image 39 = .ok (.aload_n 0, 1) := by decide +kernel
theorem dX8_image_40 : decode cX8_image 40 = .ok (.getfield 10, 3) := by decide +kernel
theorem dX8_image_43 : decode cX8_image 43 = .ok (.invokevirtual 325, 3) := by decide +kernel
theorem dX8_image_46 : decode cX8_image 46 = .ok (.iconst 1, 1) := by decide +kernel
theorem dX8_image_47 : decode cX8_image 47 = .ok (.ireturn, 1) := by decide +kernel
set_option maxRecDepth 20000 in
theorem ggX8_again_X2_copyFrom : GoodIn wsX8_again wsX2_copyFrom := goodIn_r _ [7, 8, 9, 10, 11, 12, 13, 14, 15, 16, 17, 18, 19, 20, 21, 22, 23, 24, 25, 26, 27, 28, 29, 30, 31, 32, 33, 34, 35, 36, 37, 38, 39, 48, 49, 50, 51, 52, 53, 54, 55, 56, 57, 58, 59, 60, 61, 62, 63] (by decide +kernel) (by decide +kernel)
set_option maxRecDepth 20000 in
theorem gX8_again_X2_copyFrom : GoodIn wsX8_again (wsV RX8 325 RX2 yX2_copyFrom wsX2_copyFrom) := goodIn_app (goodIn_of _ (by decide +kernel)) ggX8_again_X2_copyFrom
theorem dX8_again_0 : decode cX8_again 0 = .ok (.iload_n 1, 1) := by decide +kernel
theorem dX8_again_1 : decode cX8_again 1 = .ok (.ifCond .lt 17, 3) := by decide +kernel
theorem dX8_again_4 : decode cX8_again 4 = .ok (.iload_n 1, 1) := by decide +kernel
theorem dX8_again_5 : decode cX8_again 5 = .ok (.iconst 3, 1) := by decide +kernel
theorem dX8_again_6 : decode cX8_again 6 = .ok (.if_icmp .ge 12, 3) := by decide +kernel
theorem dX8_again_9 : decode cX8_again 9 = .ok (.aload_n 0, 1) := by decide +kernel
theorem dX8_again_10 : decode cX8_again 10 = .ok (.getfield 16, 3) := by decide +kernel
theorem dX8_again_13 : decode cX8_again 13 = .ok (.iload_n 1, 1) := by decide +kernel
theorem dX8_again_14 : decode cX8_again 14 = .ok (.aaload, 1) := by decide +kernel
theorem dX8_again_15 : decode cX8_again 15 = .ok (.ifnonnull 5, 3) := by decide +kernel
theorem dX8_again_18 : decode cX8_again 18 = .ok (.iconst 0, 1) := by decide +kernel
theorem dX8_again_19 : decode cX8_again 19 = .ok (.ireturn, 1) := by decide +kernel
theorem dX8_again_20 : decode cX8_again 20 = .ok (.aload_n 0, 1) := by decide +kernel
theorem dX8_again_21 : decode cX8_again 21 = .ok (.getfield 10, 3) := by decide +kernel
theorem dX8_again_24 : decode cX8_again 24 = .ok (.aload_n 0, 1) := by decide +kernel
theorem dX8_again_25 : decode cX8_again 25 = .ok (.getfield 16, 3) := by decide +kernel
theorem dX8_again_28 : decode cX8_again 28 = .ok (.iload_n 1, 1) := by decide +kernel
theorem dX8_again_29 : decode cX8_again 29 = .ok (.aaload, 1) := by decide +kernel
theorem dX8_again_30 : decode cX8_again 30 = .ok (.invokevirtual 325, 3) := by decide +kernel
theorem dX8_again_33 : decode cX8_again 33 = .ok (.iconst 1, 1) := by decide +kernel
theorem dX8_again_34 : decode cX8_again 34 = .ok (.ireturn, 1) := by decide +kernel
theorem dX8_isLeg_0 : decode cX8_isLeg 0 = .ok (.iload_n 0, 1) := by decide +kernel
theorem dX8_isLeg_1 : decode cX8_isLeg 1 = .ok (.ifCond .lt 12, 3) := by decide +kernel
theorem dX8_isLeg_4 : decode cX8_isLeg 4 = .ok (.iload_n 0, 1) := by decide +kernel
theorem dX8_isLeg_5 : decode cX8_isLeg 5 = .ok (.iconst 2, 1) := by decide +kernel
theorem dX8_isLeg_6 : decode cX8_isLeg 6 = .ok (.if_icmp .ge 7, 3) := by decide +kernel
theorem dX8_isLeg_9 : decode cX8_isLeg 9 = .ok (.iconst 1, 1) := by decide +kernel
theorem dX8_isLeg_10 : decode cX8_isLeg 10 = .ok (.goto 4, 3) := by decide +kernel
theorem dX8_isLeg_13 : decode cX8_isLeg 13 = .ok (.iconst 0, 1) := by decide +kernel
theorem dX8_isLeg_14 : decode cX8_isLeg 14 = .ok (.ireturn, 1) := by decide +kernel
set_option maxRecDepth 20000 in
theorem ggX8_hasChip_X8_isLeg : GoodIn wsX8_hasChip wsX8_isLeg := goodIn_r _ [7] (by decide +kernel) (by decide +kernel)
set_option maxRecDepth 20000 in
theorem gX8_hasChip_X8_isLeg : GoodIn wsX8_hasChip (va_wsS RX8 99 yX8_isLeg wsX8_isLeg) := goodIn_app (goodIn_of _ (by decide +kernel)) ggX8_hasChip_X8_isLeg
theorem dX8_hasChip_0 : decode cX8_hasChip 0 = .ok (.iload_n 1, 1) := by decide +kernel
theorem dX8_hasChip_1 : decode cX8_hasChip 1 = .ok (.invokestatic 99, 3) := by decide +kernel
theorem dX8_hasChip_4 : decode cX8_hasChip 4 = .ok (.ifCond .eq 29, 3) := by decide +kernel
theorem dX8_hasChip_7 : decode cX8_hasChip 7 = .ok (.iload_n 2, 1) := by decide +kernel
theorem dX8_hasChip_8 : decode cX8_hasChip 8 = .ok (.ifCond .lt 25, 3) := by decide +kernel
theorem dX8_hasChip_11 : decode cX8_hasChip 11 = .ok (.iload_n 2, 1) := by decide +kernel
theorem dX8_hasChip_12 : decode cX8_hasChip 12 = .ok (.aload_n 0, 1) := by decide +kernel
theorem dX8_hasChip_13 : decode cX8_hasChip 13 = .ok (.getfield 24, 3) := by decide +kernel
theorem dX8_hasChip_16 : decode cX8_hasChip 16 = .ok (.getfield 103, 3) := by decide +kernel
theorem dX8_hasChip_19 : decode cX8_hasChip 19 = .ok (.iload_n 1, 1) := by decide +kernel
theorem dX8_hasChip_20 : decode cX8_hasChip 20 = .ok (.aaload, 1) := by decide +kernel
theorem dX8_hasChip_21 : decode cX8_hasChip 21 = .ok (.getfield 107, 3) := by decide +kernel
theorem dX8_hasChip_24 : decode cX8_hasChip 24 = .ok (.iconst 3, 1) := by decide +kernel
theorem dX8_hasChip_25 : decode cX8_hasChip 25 = .ok (.iaload, 1) := by decide +kernel
theorem dX8_hasChip_26 : decode cX8_hasChip 26 = .ok (.if_icmp .ge 7, 3) := by decide +kernel
theorem dX8_hasChip_29 : decode cX8_hasChip 29 = .ok (.iconst 1, 1) := by decide +kernel
theorem dX8_hasChip_30 : decode cX8_hasChip 30 = .ok (.goto 4, 3) := by decide +kernel
theorem dX8_hasChip_33 : decode cX8_hasChip 33 = .ok (.iconst 0, 1) := by decide +kernel
theorem dX8_hasChip_34 : decode cX8_hasChip 34 = .ok (.ireturn, 1) := by decide +kernel
set_option maxRecDepth 20000 in
theorem ggX8_lagOf_X1_lag : GoodIn wsX8_lagOf wsX1_lag := goodIn_r _ [8, 9, 10, 11, 12, 13, 14, 15, 16, 31, 32, 33, 34, 35] (by decide +kernel) (by decide +kernel)
set_option maxRecDepth 20000 in
theorem gX8_lagOf_X1_lag : GoodIn wsX8_lagOf (wsV RX8 328 RX1 yX1_lag wsX1_lag) := goodIn_app (goodIn_of _ (by decide +kernel)) ggX8_lagOf_X1_lag
theorem dX8_lagOf_0 : decode cX8_lagOf 0 = .ok (.aload_n 0, 1) := by decide +kernel
theorem dX8_lagOf_1 : decode cX8_lagOf 1 = .ok (.getfield 24, 3) := by decide +kernel
theorem dX8_lagOf_4 : decode cX8_lagOf 4 = .ok (.getfield 103, 3) := by decide +kernel
theorem dX8_lagOf_7 : decode cX8_lagOf 7 = .ok (.iload_n 1, 1) := by decide +kernel
theorem dX8_lagOf_8 : decode cX8_lagOf 8 = .ok (.aaload, 1) := by decide +kernel
theorem dX8_lagOf_9 : decode cX8_lagOf 9 = .ok (.astore_n 3, 1) := by decide +kernel
theorem dX8_lagOf_10 : decode cX8_lagOf 10 = .ok (.aload_n 3, 1) := by decide +kernel
theorem dX8_lagOf_11 : decode cX8_lagOf 11 = .ok (.iload_n 2, 1) := by decide +kernel
theorem dX8_lagOf_12 : decode cX8_lagOf 12 = .ok (.aload_n 3, 1) := by decide +kernel
theorem dX8_lagOf_13 : decode cX8_lagOf 13 = .ok (.getfield 107, 3) := by decide +kernel
theorem dX8_lagOf_16 : decode cX8_lagOf 16 = .ok (.iconst 2, 1) := by decide +kernel
theorem dX8_lagOf_17 : decode cX8_lagOf 17 = .ok (.iaload, 1) := by decide +kernel
theorem dX8_lagOf_18 : decode cX8_lagOf 18 = .ok (.iload_n 2, 1) := by decide +kernel
theorem dX8_lagOf_19 : decode cX8_lagOf 19 = .ok (.iadd, 1) := by decide +kernel
theorem dX8_lagOf_20 : decode cX8_lagOf 20 = .ok (.invokevirtual 328, 3) := by decide +kernel
theorem dX8_lagOf_23 : decode cX8_lagOf 23 = .ok (.ireturn, 1) := by decide +kernel
theorem dX8_byteOf_0 : decode cX8_byteOf 0 = .ok (.lload_n 0, 1) := by decide +kernel
theorem dX8_byteOf_1 : decode cX8_byteOf 1 = .ok (.bipush 56, 2) := by decide +kernel
theorem dX8_byteOf_3 : decode cX8_byteOf 3 = .ok (.bipush 8, 2) := by decide +kernel
theorem dX8_byteOf_5 : decode cX8_byteOf 5 = .ok (.iload_n 2, 1) := by decide +kernel
theorem dX8_byteOf_6 : decode cX8_byteOf 6 = .ok (.imul, 1) := by decide +kernel
theorem dX8_byteOf_7 : decode cX8_byteOf 7 = .ok (.isub, 1) := by decide +kernel
theorem dX8_byteOf_8 : decode cX8_byteOf 8 = .ok (.lushr, 1) := by decide +kernel
theorem dX8_byteOf_9 : decode cX8_byteOf 9 = .ok (.l2i, 1) := by decide +kernel
theorem dX8_byteOf_10 : decode cX8_byteOf 10 = .ok (.i2b, 1) := by decide +kernel
theorem dX8_byteOf_11 : decode cX8_byteOf 11 = .ok (.ireturn, 1) := by decide +kernel
theorem dX8_swapIn_0 : decode cX8_swapIn 0 = .ok (.aload_n 0, 1) := by decide +kernel
theorem dX8_swapIn_1 : decode cX8_swapIn 1 = .ok (.iload_n 1, 1) := by decide +kernel
theorem dX8_swapIn_2 : decode cX8_swapIn 2 = .ok (.iaload, 1) := by decide +kernel
theorem dX8_swapIn_3 : decode cX8_swapIn 3 = .ok (.istore_n 3, 1) := by decide +kernel
theorem dX8_swapIn_4 : decode cX8_swapIn 4 = .ok (.aload_n 0, 1) := by decide +kernel
theorem dX8_swapIn_5 : decode cX8_swapIn 5 = .ok (.iload_n 1, 1) := by decide +kernel
theorem dX8_swapIn_6 : decode cX8_swapIn 6 = .ok (.aload_n 0, 1) := by decide +kernel
theorem dX8_swapIn_7 : decode cX8_swapIn 7 = .ok (.iload_n 2, 1) := by decide +kernel
theorem dX8_swapIn_8 : decode cX8_swapIn 8 = .ok (.iaload, 1) := by decide +kernel
theorem dX8_swapIn_9 : decode cX8_swapIn 9 = .ok (.iastore, 1) := by decide +kernel
theorem dX8_swapIn_10 : decode cX8_swapIn 10 = .ok (.aload_n 0, 1) := by decide +kernel
theorem dX8_swapIn_11 : decode cX8_swapIn 11 = .ok (.iload_n 2, 1) := by decide +kernel
theorem dX8_swapIn_12 : decode cX8_swapIn 12 = .ok (.iload_n 3, 1) := by decide +kernel
theorem dX8_swapIn_13 : decode cX8_swapIn 13 = .ok (.iastore, 1) := by decide +kernel
theorem dX8_swapIn_14 : decode cX8_swapIn 14 = .ok (.return_, 1) := by decide +kernel
theorem dX8_turned_0 : decode cX8_turned 0 = .ok (.iconst 1, 1) := by decide +kernel
theorem dX8_turned_1 : decode cX8_turned 1 = .ok (.iload_n 1, 1) := by decide +kernel
theorem dX8_turned_2 : decode cX8_turned 2 = .ok (.ishl, 1) := by decide +kernel
theorem dX8_turned_3 : decode cX8_turned 3 = .ok (.iconst 1, 1) := by decide +kernel
theorem dX8_turned_4 : decode cX8_turned 4 = .ok (.isub, 1) := by decide +kernel
theorem dX8_turned_5 : decode cX8_turned 5 = .ok (.istore_n 3, 1) := by decide +kernel
theorem dX8_turned_6 : decode cX8_turned 6 = .ok (.iload_n 0, 1) := by decide +kernel
theorem dX8_turned_7 : decode cX8_turned 7 = .ok (.iload_n 2, 1) := by decide +kernel
theorem dX8_turned_8 : decode cX8_turned 8 = .ok (.ishl, 1) := by decide +kernel
theorem dX8_turned_9 : decode cX8_turned 9 = .ok (.iload_n 0, 1) := by decide +kernel
theorem dX8_turned_10 : decode cX8_turned 10 = .ok (.iload_n 1, 1) := by decide +kernel
theorem dX8_turned_11 : decode cX8_turned 11 = .ok (.iload_n 2, 1) := by decide +kernel
theorem dX8_turned_12 : decode cX8_turned 12 = .ok (.isub, 1) := by decide +kernel
theorem dX8_turned_13 : decode cX8_turned 13 = .ok (.iushr, 1) := by decide +kernel
theorem dX8_turned_14 : decode cX8_turned 14 = .ok (.ior, 1) := by decide +kernel
theorem dX8_turned_15 : decode cX8_turned 15 = .ok (.iload_n 3, 1) := by decide +kernel
theorem dX8_turned_16 : decode cX8_turned 16 = .ok (.iand, 1) := by decide +kernel
theorem dX8_turned_17 : decode cX8_turned 17 = .ok (.ireturn, 1) := by decide +kernel
theorem dX8_rest_0 : decode cX8_rest 0 = .ok (.iload_n 1, 1) := by decide +kernel
theorem dX8_rest_1 : decode cX8_rest 1 = .ok (.iconst 1, 1) := by decide +kernel
theorem dX8_rest_2 : decode cX8_rest 2 = .ok (.if_icmp .ge 5, 3) := by decide +kernel
theorem dX8_rest_5 : decode cX8_rest 5 = .ok (.iconst 0, 1) := by decide +kernel
theorem dX8_rest_6 : decode cX8_rest 6 = .ok (.ireturn, 1) := by decide +kernel
theorem dX8_rest_7 : decode cX8_rest 7 = .ok (.iload_n 0, 1) := by decide +kernel
theorem dX8_rest_8 : decode cX8_rest 8 = .ok (.iload_n 1, 1) := by decide +kernel
theorem dX8_rest_9 : decode cX8_rest 9 = .ok (.irem, 1) := by decide +kernel
theorem dX8_rest_10 : decode cX8_rest 10 = .ok (.istore_n 2, 1) := by decide +kernel
theorem dX8_rest_11 : decode cX8_rest 11 = .ok (.iload_n 2, 1) := by decide +kernel
theorem dX8_rest_12 : decode cX8_rest 12 = .ok (.ifCond .ge 9, 3) := by decide +kernel
theorem dX8_rest_15 : decode cX8_rest 15 = .ok (.iload_n 2, 1) := by decide +kernel
theorem dX8_rest_16 : decode cX8_rest 16 = .ok (.iload_n 1, 1) := by decide +kernel
theorem dX8_rest_17 : decode cX8_rest 17 = .ok (.iadd, 1) := by decide +kernel
theorem dX8_rest_18 : decode cX8_rest 18 = .ok (.goto 4, 3) := by decide +kernel
theorem dX8_rest_21 : decode cX8_rest 21 = .ok (.iload_n 2, 1) := by decide +kernel
theorem dX8_rest_22 : decode cX8_rest 22 = .ok (.ireturn, 1) := by decide +kernel
theorem dX8_commonDivisor_0 : decode cX8_commonDivisor 0 = .ok (.lload_n 0, 1) := by decide +kernel
theorem dX8_commonDivisor_1 : decode cX8_commonDivisor 1 = .ok (.lstore 4, 2) := by decide +kernel
theorem dX8_commonDivisor_3 : decode cX8_commonDivisor 3 = .ok (.lload_n 2, 1) := by decide +kernel
theorem dX8_commonDivisor_4 : decode cX8_commonDivisor 4 = .ok (.lstore 6, 2) := by decide +kernel
theorem dX8_commonDivisor_6 : decode cX8_commonDivisor 6 = .ok (.iconst 0, 1) := by decide +kernel
theorem dX8_commonDivisor_7 : decode cX8_commonDivisor 7 = .ok (.istore 8, 2) := by decide +kernel
theorem dX8_commonDivisor_9 : decode cX8_commonDivisor 9 = .ok (.iload 8, 2) := by decide +kernel
theorem dX8_commonDivisor_11 : decode cX8_commonDivisor 11 = .ok (.sipush 200, 3) := by decide +kernel
theorem dX8_commonDivisor_14 : decode cX8_commonDivisor 14 = .ok (.if_icmp .ge 31, 3) := by decide +kernel
theorem dX8_commonDivisor_17 : decode cX8_commonDivisor 17 = .ok (.lload 6, 2) := by decide +kernel
theorem dX8_commonDivisor_19 : decode cX8_commonDivisor 19 = .ok (.lconst 0, 1) := by decide +kernel
theorem dX8_commonDivisor_20 : decode cX8_commonDivisor 20 = .ok (.lcmp, 1) := by decide +kernel
theorem dX8_commonDivisor_21 : decode cX8_commonDivisor 21 = .ok (.ifCond .eq 24, 3) := by decide +kernel
theorem dX8_commonDivisor_24 : decode cX8_commonDivisor 24 = .ok (.lload 4, 2) := by decide +kernel
theorem dX8_commonDivisor_26 : decode cX8_commonDivisor 26 = .ok (.lload 6, 2) := by decide +kernel
theorem dX8_commonDivisor_28 : decode cX8_commonDivisor 28 = .ok (.lrem, 1) := by decide +kernel
theorem dX8_commonDivisor_29 : decode cX8_commonDivisor 29 = .ok (.lstore 9, 2) := by decide +kernel
theorem dX8_commonDivisor_31 : decode cX8_commonDivisor 31 = .ok (.lload 6, 2) := by decide +kernel
theorem dX8_commonDivisor_33 : decode cX8_commonDivisor 33 = .ok (.lstore 4, 2) := by decide +kernel
theorem dX8_commonDivisor_35 : decode cX8_commonDivisor 35 = .ok (.lload 9, 2) := by decide +kernel
theorem dX8_commonDivisor_37 : decode cX8_commonDivisor 37 = .ok (.lstore 6, 2) := by decide +kernel
theorem dX8_commonDivisor_39 : decode cX8_commonDivisor 39 = .ok (.iinc 8 1, 3) := by decide +kernel
theorem dX8_commonDivisor_42 : decode cX8_commonDivisor 42 = .ok (.goto (-33), 3) := by decide +kernel
theorem dX8_commonDivisor_45 : decode cX8_commonDivisor 45 = .ok (.lload 4, 2) := by decide +kernel
theorem dX8_commonDivisor_47 : decode cX8_commonDivisor 47 = .ok (.lreturn, 1) := by decide +kernel
set_option maxRecDepth 20000 in
theorem ggX8_commonMultiple_X8_commonDivisor : GoodIn wsX8_commonMultiple wsX8_commonDivisor := goodIn_r _ [4] (by decide +kernel) (by decide +kernel)
set_option maxRecDepth 20000 in
theorem gX8_commonMultiple_X8_commonDivisor : GoodIn wsX8_commonMultiple (va_wsS RX8 298 yX8_commonDivisor wsX8_commonDivisor) := goodIn_app (goodIn_of _ (by decide +kernel)) ggX8_commonMultiple_X8_commonDivisor
theorem dX8_commonMultiple_0 : decode cX8_commonMultiple 0 = .ok (.iload_n 0, 1) := by decide +kernel
theorem dX8_commonMultiple_1 : decode cX8_commonMultiple 1 = .ok (.i2l, 1) := by decide +kernel
theorem dX8_commonMultiple_2 : decode cX8_commonMultiple 2 = .ok (.iload_n 1, 1) := by decide +kernel
theorem dX8_commonMultiple_3 : decode cX8_commonMultiple 3 = .ok (.i2l, 1) := by decide +kernel
theorem dX8_commonMultiple_4 : decode cX8_commonMultiple 4 = .ok (.invokestatic 298, 3) := by decide +kernel
theorem dX8_commonMultiple_7 : decode cX8_commonMultiple 7 = .ok (.l2i, 1) := by decide +kernel
theorem dX8_commonMultiple_8 : decode cX8_commonMultiple 8 = .ok (.istore_n 2, 1) := by decide +kernel
theorem dX8_commonMultiple_9 : decode cX8_commonMultiple 9 = .ok (.iload_n 2, 1) := by decide +kernel
theorem dX8_commonMultiple_10 : decode cX8_commonMultiple 10 = .ok (.iconst 1, 1) := by decide +kernel
theorem dX8_commonMultiple_11 : decode cX8_commonMultiple 11 = .ok (.if_icmp .ge 7, 3) := by decide +kernel
theorem dX8_commonMultiple_14 : decode cX8_commonMultiple 14 = .ok (.iconst 1, 1) := by decide +kernel
theorem dX8_commonMultiple_15 : decode cX8_commonMultiple 15 = .ok (.goto 8, 3) := by decide +kernel
theorem dX8_commonMultiple_18 : decode cX8_commonMultiple 18 = .ok (.iload_n 0, 1) := by decide +kernel
theorem dX8_commonMultiple_19 : decode cX8_commonMultiple 19 = .ok (.iload_n 2, 1) := by decide +kernel
theorem dX8_commonMultiple_20 : decode cX8_commonMultiple 20 = .ok (.idiv, 1) := by decide +kernel
theorem dX8_commonMultiple_21 : decode cX8_commonMultiple 21 = .ok (.iload_n 1, 1) := by decide +kernel
theorem dX8_commonMultiple_22 : decode cX8_commonMultiple 22 = .ok (.imul, 1) := by decide +kernel
theorem dX8_commonMultiple_23 : decode cX8_commonMultiple 23 = .ok (.ireturn, 1) := by decide +kernel
theorem dX8_power_0 : decode cX8_power 0 = .ok (.lconst 1, 1) := by decide +kernel
theorem dX8_power_1 : decode cX8_power 1 = .ok (.lstore_n 3, 1) := by decide +kernel
theorem dX8_power_2 : decode cX8_power 2 = .ok (.iconst 0, 1) := by decide +kernel
theorem dX8_power_3 : decode cX8_power 3 = .ok (.istore 5, 2) := by decide +kernel
theorem dX8_power_5 : decode cX8_power 5 = .ok (.iload 5, 2) := by decide +kernel
theorem dX8_power_7 : decode cX8_power 7 = .ok (.iload_n 2, 1) := by decide +kernel
theorem dX8_power_8 : decode cX8_power 8 = .ok (.if_icmp .ge 13, 3) := by decide +kernel
theorem dX8_power_11 : decode cX8_power 11 = .ok (.lload_n 3, 1) := by decide +kernel
theorem dX8_power_12 : decode cX8_power 12 = .ok (.lload_n 0, 1) := by decide +kernel
theorem dX8_power_13 : decode cX8_power 13 = .ok (.lmul, 1) := by decide +kernel
theorem dX8_power_14 : decode cX8_power 14 = .ok (.lstore_n 3, 1) := by decide +kernel
theorem dX8_power_15 : decode cX8_power 15 = .ok (.iinc 5 1, 3) := by decide +kernel
theorem dX8_power_18 : decode cX8_power 18 = .ok (.goto (-13), 3) := by decide +kernel
theorem dX8_power_21 : decode cX8_power 21 = .ok (.lload_n 3, 1) := by decide +kernel
theorem dX8_power_22 : decode cX8_power 22 = .ok (.lreturn, 1) := by decide +kernel
theorem dX8_ways_0 : decode cX8_ways 0 = .ok (.lconst 1, 1) := by decide +kernel
theorem dX8_ways_1 : decode cX8_ways 1 = .ok (.lstore_n 2, 1) := by decide +kernel
theorem dX8_ways_2 : decode cX8_ways 2 = .ok (.iconst 1, 1) := by decide +kernel
theorem dX8_ways_3 : decode cX8_ways 3 = .ok (.istore 4, 2) := by decide +kernel
theorem dX8_ways_5 : decode cX8_ways 5 = .ok (.iload 4, 2) := by decide +kernel
theorem dX8_ways_7 : decode cX8_ways 7 = .ok (.iload_n 1, 1) := by decide +kernel
theorem dX8_ways_8 : decode cX8_ways 8 = .ok (.if_icmp .gt 23, 3) := by decide +kernel
