theorem dX9_fragile_147 : decode cX9_fragile 147 = .ok (.iload 8, 2) := by decide +kernel
theorem dX9_fragile_149 : decode cX9_fragile 149 = .ok (.iload 4, 2) := by decide +kernel
theorem dX9_fragile_151 : decode cX9_fragile 151 = .ok (.if_icmp .ge 8, 3) := by decide +kernel
theorem dX9_fragile_154 : decode cX9_fragile 154 = .ok (.iload 8, 2) := by decide +kernel
theorem dX9_fragile_156 : decode cX9_fragile 156 = .ok (.goto 5, 3) := by decide +kernel
theorem dX9_fragile_159 : decode cX9_fragile 159 = .ok (.iload 4, 2) := by decide +kernel
theorem dX9_fragile_161 : decode cX9_fragile 161 = .ok (.istore 4, 2) := by decide +kernel
theorem dX9_fragile_163 : decode cX9_fragile 163 = .ok (.iinc 5 1, 3) := by decide +kernel
theorem dX9_fragile_166 : decode cX9_fragile 166 = .ok (.goto (-125), 3) := by decide +kernel
theorem dX9_fragile_169 : decode cX9_fragile 169 = .ok (.iload 4, 2) := by decide +kernel
theorem dX9_fragile_171 : decode cX9_fragile 171 = .ok (.ireturn, 1) := by decide +kernel
set_option maxRecDepth 20000 in
theorem ggX9_right_X9_isLeg : GoodIn wsX9_right wsX9_isLeg := goodIn_r _ [7, 8, 9, 6, 10] (by decide +kernel) (by decide +kernel)
set_option maxRecDepth 20000 in
theorem gX9_right_X9_isLeg : GoodIn wsX9_right (va_wsS RX9 182 yX9_isLeg wsX9_isLeg) := goodIn_app (goodIn_of _ (by decide +kernel)) ggX9_right_X9_isLeg
set_option maxRecDepth 20000 in
theorem ggX9_right_X9_laysLeg : GoodIn wsX9_right wsX9_laysLeg := goodIn_r _ [14, 15, 2, 16, 17, 18, 6, 19, 20, 21, 22, 23, 24, 25, 26, 27, 28, 29, 30, 31, 32, 3, 33, 34, 35, 36, 37, 38, 39, 40, 41, 42, 43, 44, 45, 46, 47, 48, 49, 50, 51, 52, 53, 54, 55, 56, 57, 58, 59, 60, 61, 62, 63, 64, 65, 8, 9, 10, 66, 67, 68, 69, 70, 71, 72, 73, 74, 75, 76, 77, 78, 79, 80, 81, 82, 83, 84, 85, 86, 87, 88, 89, 90, 91, 92, 93, 94, 95, 96, 97, 98, 99, 100, 101, 102, 103, 104, 105, 106, 107, 108, 109, 110, 111, 112, 113, 114, 115, 116, 117, 118, 119, 120, 121, 122, 123, 124, 125, 126, 127, 128, 129, 130, 131, 132, 133, 134, 135, 136, 137, 138, 139] (by decide +kernel) (by decide +kernel)
set_option maxRecDepth 20000 in
theorem gX9_right_X9_laysLeg : GoodIn wsX9_right (wsV RX9 294 RX9 yX9_laysLeg wsX9_laysLeg) := goodIn_app (goodIn_of _ (by decide +kernel)) ggX9_right_X9_laysLeg
set_option maxRecDepth 20000 in
theorem ggX9_right_X9_behindAt : GoodIn wsX9_right wsX9_behindAt := goodIn_r _ [36, 29, 30, 31, 6, 32, 3, 37, 38, 39, 40, 41, 42, 111, 112, 113, 114, 115, 116, 117, 118, 119, 120, 121, 122, 123, 124, 125, 126, 127, 128, 129, 130, 131, 132, 133, 134, 135, 136, 137, 138, 139] (by decide +kernel) (by decide +kernel)
set_option maxRecDepth 20000 in
theorem gX9_right_X9_behindAt : GoodIn wsX9_right (wsV RX9 244 RX9 yX9_behindAt wsX9_behindAt) := goodIn_app (goodIn_of _ (by decide +kernel)) ggX9_right_X9_behindAt
set_option maxRecDepth 20000 in
theorem ggX9_right_X9_bestOf : GoodIn wsX9_right wsX9_bestOf := goodIn_r _ [100, 70, 55, 56, 57, 6, 58, 3, 111, 112, 113, 114, 115, 116, 117, 118, 119, 120, 121, 122, 123, 124, 125, 126, 127, 128, 129, 130, 131, 132, 133, 134, 135, 136, 137, 138, 139] (by decide +kernel) (by decide +kernel)
set_option maxRecDepth 20000 in
theorem gX9_right_X9_bestOf : GoodIn wsX9_right (wsV RX9 260 RX9 yX9_bestOf wsX9_bestOf) := goodIn_app (goodIn_of _ (by decide +kernel)) ggX9_right_X9_bestOf
set_option maxRecDepth 20000 in
theorem ggX9_right_X9_of : GoodIn wsX9_right wsX9_of := goodIn_r _ [58, 3, 111, 112, 113, 114, 115, 116, 117, 118, 119, 120, 121, 122, 123, 124, 125, 126, 127, 128, 129, 130, 131, 132, 133, 134, 135, 136, 137, 138, 139] (by decide +kernel) (by decide +kernel)
set_option maxRecDepth 20000 in
theorem gX9_right_X9_of : GoodIn wsX9_right (wsV RX9 195 RX9 yX9_of wsX9_of) := goodIn_app (goodIn_of _ (by decide +kernel)) ggX9_right_X9_of
set_option maxRecDepth 20000 in
theorem ggX9_right_X9_rest : GoodIn wsX9_right wsX9_rest := goodIn_r _ [42] (by decide +kernel) (by decide +kernel)
set_option maxRecDepth 20000 in
theorem gX9_right_X9_rest : GoodIn wsX9_right (va_wsS RX9 55 yX9_rest wsX9_rest) := goodIn_app (goodIn_of _ (by decide +kernel)) ggX9_right_X9_rest
theorem dX9_right_0 : decode cX9_right 0 = .ok (.aload_n 0, 1) := by decide +kernel
theorem dX9_right_1 : decode cX9_right 1 = .ok (.iconst 0, 1) := by decide +kernel
theorem dX9_right_2 : decode cX9_right 2 = .ok (.putfield 51, 3) := by decide +kernel
theorem dX9_right_5 : decode cX9_right 5 = .ok (.iload_n 1, 1) := by decide +kernel
theorem dX9_right_6 : decode cX9_right 6 = .ok (.invokestatic 182, 3) := by decide +kernel
theorem dX9_right_9 : decode cX9_right 9 = .ok (.ifCond .ne 5, 3) := by decide +kernel
theorem dX9_right_12 : decode cX9_right 12 = .ok (.iconst (-1), 1) := by decide +kernel
theorem dX9_right_13 : decode cX9_right 13 = .ok (.ireturn, 1) := by decide +kernel
theorem dX9_right_14 : decode cX9_right 14 = .ok (.aload_n 0, 1) := by decide +kernel
theorem dX9_right_15 : decode cX9_right 15 = .ok (.iload_n 1, 1) := by decide +kernel
theorem dX9_right_16 : decode cX9_right 16 = .ok (.invokevirtual 294, 3) := by decide +kernel
theorem dX9_right_19 : decode cX9_right 19 = .ok (.aload_n 0, 1) := by decide +kernel
theorem dX9_right_20 : decode cX9_right 20 = .ok (.iload_n 1, 1) := by decide +kernel
theorem dX9_right_21 : decode cX9_right 21 = .ok (.iconst 0, 1) := by decide +kernel
theorem dX9_right_22 : decode cX9_right 22 = .ok (.invokevirtual 244, 3) := by decide +kernel
theorem dX9_right_25 : decode cX9_right 25 = .ok (.iload_n 1, 1) := by decide +kernel
theorem dX9_right_26 : decode cX9_right 26 = .ok (.iconst 1, 1) := by decide +kernel
theorem dX9_right_27 : decode cX9_right 27 = .ok (.if_icmp .ne 18, 3) := by decide +kernel
theorem dX9_right_30 : decode cX9_right 30 = .ok (.aload_n 0, 1) := by decide +kernel
theorem dX9_right_31 : decode cX9_right 31 = .ok (.getfield 235, 3) := by decide +kernel
theorem dX9_right_34 : decode cX9_right 34 = .ok (.iconst (-1), 1) := by decide +kernel
theorem dX9_right_35 : decode cX9_right 35 = .ok (.if_icmp .eq 10, 3) := by decide +kernel
theorem dX9_right_38 : decode cX9_right 38 = .ok (.aload_n 0, 1) := by decide +kernel
theorem dX9_right_39 : decode cX9_right 39 = .ok (.getfield 235, 3) := by decide +kernel
theorem dX9_right_42 : decode cX9_right 42 = .ok (.goto 4, 3) := by decide +kernel
theorem dX9_right_45 : decode cX9_right 45 = .ok (.iconst 0, 1) := by decide +kernel
theorem dX9_right_46 : decode cX9_right 46 = .ok (.iadd, 1) := by decide +kernel
theorem dX9_right_47 : decode cX9_right 47 = .ok (.istore_n 2, 1) := by decide +kernel
theorem dX9_right_48 : decode cX9_right 48 = .ok (.iconst 0, 1) := by decide +kernel
theorem dX9_right_49 : decode cX9_right 49 = .ok (.istore_n 3, 1) := by decide +kernel
theorem dX9_right_50 : decode cX9_right 50 = .ok (.iconst 0, 1) := by decide +kernel
theorem dX9_right_51 : decode cX9_right 51 = .ok (.istore 4, 2) := by decide +kernel
theorem dX9_right_53 : decode cX9_right 53 = .ok (.iload 4, 2) := by decide +kernel
theorem dX9_right_55 : decode cX9_right 55 = .ok (.aload_n 0, 1) := by decide +kernel
theorem dX9_right_56 : decode cX9_right 56 = .ok (.getfield 7, 3) := by decide +kernel
theorem dX9_right_59 : decode cX9_right 59 = .ok (.iconst 0, 1) := by decide +kernel
theorem dX9_right_60 : decode cX9_right 60 = .ok (.iaload, 1) := by decide +kernel
theorem dX9_right_61 : decode cX9_right 61 = .ok (.if_icmp .ge 40, 3) := by decide +kernel
theorem dX9_right_64 : decode cX9_right 64 = .ok (.iload_n 3, 1) := by decide +kernel
theorem dX9_right_65 : decode cX9_right 65 = .ok (.aload_n 0, 1) := by decide +kernel
theorem dX9_right_66 : decode cX9_right 66 = .ok (.iload 4, 2) := by decide +kernel
theorem dX9_right_68 : decode cX9_right 68 = .ok (.invokevirtual 260, 3) := by decide +kernel
theorem dX9_right_71 : decode cX9_right 71 = .ok (.iload_n 2, 1) := by decide +kernel
theorem dX9_right_72 : decode cX9_right 72 = .ok (.aload_n 0, 1) := by decide +kernel
theorem dX9_right_73 : decode cX9_right 73 = .ok (.iload 4, 2) := by decide +kernel
theorem dX9_right_75 : decode cX9_right 75 = .ok (.iconst 0, 1) := by decide +kernel
theorem dX9_right_76 : decode cX9_right 76 = .ok (.invokevirtual 195, 3) := by decide +kernel
theorem dX9_right_79 : decode cX9_right 79 = .ok (.invokestatic 55, 3) := by decide +kernel
theorem dX9_right_82 : decode cX9_right 82 = .ok (.if_icmp .ne 10, 3) := by decide +kernel
theorem dX9_right_85 : decode cX9_right 85 = .ok (.iconst 1, 1) := by decide +kernel
theorem dX9_right_86 : decode cX9_right 86 = .ok (.iload 4, 2) := by decide +kernel
theorem dX9_right_88 : decode cX9_right 88 = .ok (.ishl, 1) := by decide +kernel
theorem dX9_right_89 : decode cX9_right 89 = .ok (.goto 4, 3) := by decide +kernel
theorem dX9_right_92 : decode cX9_right 92 = .ok (.iconst 0, 1) := by decide +kernel
theorem dX9_right_93 : decode cX9_right 93 = .ok (.ior, 1) := by decide +kernel
theorem dX9_right_94 : decode cX9_right 94 = .ok (.istore_n 3, 1) := by decide +kernel
theorem dX9_right_95 : decode cX9_right 95 = .ok (.iinc 4 1, 3) := by decide +kernel
theorem dX9_right_98 : decode cX9_right 98 = .ok (.goto (-45), 3) := by decide +kernel
theorem dX9_right_101 : decode cX9_right 101 = .ok (.iload_n 3, 1) := by decide +kernel
theorem dX9_right_102 : decode cX9_right 102 = .ok (.ireturn, 1) := by decide +kernel
set_option maxRecDepth 20000 in
theorem ggX9_joined_X9_isLeg : GoodIn wsX9_joined wsX9_isLeg := goodIn_r _ [5, 6, 7, 4, 8] (by decide +kernel) (by decide +kernel)
set_option maxRecDepth 20000 in
theorem gX9_joined_X9_isLeg : GoodIn wsX9_joined (va_wsS RX9 182 yX9_isLeg wsX9_isLeg) := goodIn_app (goodIn_of _ (by decide +kernel)) ggX9_joined_X9_isLeg
set_option maxRecDepth 20000 in
theorem ggX9_joined_X9_everyPart : GoodIn wsX9_joined wsX9_everyPart := goodIn_r _ [12, 13, 111, 112, 113, 114, 115, 116, 117, 118, 119, 120, 121, 122, 123, 124, 125, 126, 127, 128, 129, 130, 131, 132, 133, 134, 135, 136, 137, 138, 139] (by decide +kernel) (by decide +kernel)
set_option maxRecDepth 20000 in
theorem gX9_joined_X9_everyPart : GoodIn wsX9_joined (wsV RX9 210 RX9 yX9_everyPart wsX9_everyPart) := goodIn_app (goodIn_of _ (by decide +kernel)) ggX9_joined_X9_everyPart
set_option maxRecDepth 20000 in
theorem ggX9_joined_X9_in : GoodIn wsX9_joined wsX9_in := goodIn_r _ [8] (by decide +kernel) (by decide +kernel)
set_option maxRecDepth 20000 in
theorem gX9_joined_X9_in : GoodIn wsX9_joined (va_wsS RX9 63 yX9_in wsX9_in) := goodIn_app (goodIn_of _ (by decide +kernel)) ggX9_joined_X9_in
set_option maxRecDepth 20000 in
theorem ggX9_joined_X9_laysLeg : GoodIn wsX9_joined wsX9_laysLeg := goodIn_r _ [17, 18, 19, 20, 21, 22, 4, 23, 24, 25, 26, 27, 28, 29, 30, 31, 32, 33, 34, 35, 36, 13, 37, 38, 39, 40, 41, 42, 43, 44, 45, 46, 47, 48, 49, 50, 51, 52, 53, 54, 55, 56, 57, 58, 59, 60, 61, 62, 63, 64, 65, 66, 67, 68, 69, 6, 7, 8, 70, 71, 72, 73, 74, 75, 76, 77, 78, 79, 80, 81, 82, 83, 84, 85, 9, 10, 11, 12, 86, 87, 88, 89, 90, 91, 92, 93, 94, 95, 96, 97, 98, 99, 100, 101, 102, 103, 104, 105, 106, 107, 108, 109, 110, 111, 112, 113, 114, 115, 116, 117, 118, 119, 120, 121, 122, 123, 124, 125, 126, 127, 128, 129, 130, 131, 132, 133, 134, 135, 136, 137, 138, 139] (by decide +kernel) (by decide +kernel)
set_option maxRecDepth 20000 in
theorem gX9_joined_X9_laysLeg : GoodIn wsX9_joined (wsV RX9 294 RX9 yX9_laysLeg wsX9_laysLeg) := goodIn_app (goodIn_of _ (by decide +kernel)) ggX9_joined_X9_laysLeg
set_option maxRecDepth 20000 in
theorem ggX9_joined_X9_joinedBy : GoodIn wsX9_joined wsX9_joinedBy := goodIn_r _ [96, 13, 63, 64, 4, 65, 59, 60, 61, 62, 97, 98, 99, 100, 74, 101, 102, 103, 104, 105, 106, 111, 112, 113, 114, 115, 116, 117, 118, 119, 120, 121, 122, 123, 124, 125, 126, 127, 128, 129, 130, 131, 132, 133, 134, 135, 136, 137, 138, 139] (by decide +kernel) (by decide +kernel)
set_option maxRecDepth 20000 in
theorem gX9_joined_X9_joinedBy : GoodIn wsX9_joined (wsV RX9 263 RX9 yX9_joinedBy wsX9_joinedBy) := goodIn_app (goodIn_of _ (by decide +kernel)) ggX9_joined_X9_joinedBy
theorem dX9_joined_0 : decode cX9_joined 0 = .ok (.aload_n 0, 1) := by decide +kernel
theorem dX9_joined_1 : decode cX9_joined 1 = .ok (.iconst 0, 1) := by decide +kernel
theorem dX9_joined_2 : decode cX9_joined 2 = .ok (.putfield 51, 3) := by decide +kernel
theorem dX9_joined_5 : decode cX9_joined 5 = .ok (.iload_n 1, 1) := by decide +kernel
theorem dX9_joined_6 : decode cX9_joined 6 = .ok (.invokestatic 182, 3) := by decide +kernel
theorem dX9_joined_9 : decode cX9_joined 9 = .ok (.ifCond .eq 15, 3) := by decide +kernel
theorem dX9_joined_12 : decode cX9_joined 12 = .ok (.iload_n 2, 1) := by decide +kernel
theorem dX9_joined_13 : decode cX9_joined 13 = .ok (.iconst 0, 1) := by decide +kernel
theorem dX9_joined_14 : decode cX9_joined 14 = .ok (.aload_n 0, 1) := by decide +kernel
theorem dX9_joined_15 : decode cX9_joined 15 = .ok (.invokevirtual 210, 3) := by decide +kernel
theorem dX9_joined_18 : decode cX9_joined 18 = .ok (.invokestatic 63, 3) := by decide +kernel
theorem dX9_joined_21 : decode cX9_joined 21 = .ok (.ifCond .ne 6, 3) := by decide +kernel
theorem dX9_joined_24 : decode cX9_joined 24 = .ok (.bipush (-2), 2) := by decide +kernel
theorem dX9_joined_26 : decode cX9_joined 26 = .ok (.ireturn, 1) := by decide +kernel
theorem dX9_joined_27 : decode cX9_joined 27 = .ok (.aload_n 0, 1) := by decide +kernel
theorem dX9_joined_28 : decode cX9_joined 28 = .ok (.iload_n 1, 1) := by decide +kernel
theorem dX9_joined_29 : decode cX9_joined 29 = .ok (.invokevirtual 294, 3) := by decide +kernel
theorem dX9_joined_32 : decode cX9_joined 32 = .ok (.aload_n 0, 1) := by decide +kernel
theorem dX9_joined_33 : decode cX9_joined 33 = .ok (.iload_n 2, 1) := by decide +kernel
theorem dX9_joined_34 : decode cX9_joined 34 = .ok (.invokevirtual 263, 3) := by decide +kernel
theorem dX9_joined_37 : decode cX9_joined 37 = .ok (.ireturn, 1) := by decide +kernel
theorem dX9_guesses_0 : decode cX9_guesses 0 = .ok (.aload_n 0, 1) := by decide +kernel
theorem dX9_guesses_1 : decode cX9_guesses 1 = .ok (.getfield 266, 3) := by decide +kernel
theorem dX9_guesses_4 : decode cX9_guesses 4 = .ok (.iconst (-1), 1) := by decide +kernel
theorem dX9_guesses_5 : decode cX9_guesses 5 = .ok (.if_icmp .ne 7, 3) := by decide +kernel
theorem dX9_guesses_8 : decode cX9_guesses 8 = .ok (.iconst 0, 1) := by decide +kernel
theorem dX9_guesses_9 : decode cX9_guesses 9 = .ok (.goto 23, 3) := by decide +kernel
theorem dX9_guesses_12 : decode cX9_guesses 12 = .ok (.aload_n 0, 1) := by decide +kernel
theorem dX9_guesses_13 : decode cX9_guesses 13 = .ok (.getfield 7, 3) := by decide +kernel
theorem dX9_guesses_16 : decode cX9_guesses 16 = .ok (.iconst 1, 1) := by decide +kernel
theorem dX9_guesses_17 : decode cX9_guesses 17 = .ok (.iaload, 1) := by decide +kernel
theorem dX9_guesses_18 : decode cX9_guesses 18 = .ok (.iconst 1, 1) := by decide +kernel
theorem dX9_guesses_19 : decode cX9_guesses 19 = .ok (.isub, 1) := by decide +kernel
theorem dX9_guesses_20 : decode cX9_guesses 20 = .ok (.aload_n 0, 1) := by decide +kernel
theorem dX9_guesses_21 : decode cX9_guesses 21 = .ok (.getfield 266, 3) := by decide +kernel
theorem dX9_guesses_24 : decode cX9_guesses 24 = .ok (.isub, 1) := by decide +kernel
theorem dX9_guesses_25 : decode cX9_guesses 25 = .ok (.aload_n 0, 1) := by decide +kernel
theorem dX9_guesses_26 : decode cX9_guesses 26 = .ok (.getfield 272, 3) := by decide +kernel
theorem dX9_guesses_29 : decode cX9_guesses 29 = .ok (.idiv, 1) := by decide +kernel
theorem dX9_guesses_30 : decode cX9_guesses 30 = .ok (.iconst 1, 1) := by decide +kernel
theorem dX9_guesses_31 : decode cX9_guesses 31 = .ok (.iadd, 1) := by decide +kernel
theorem dX9_guesses_32 : decode cX9_guesses 32 = .ok (.ireturn, 1) := by decide +kernel
set_option maxRecDepth 20000 in
theorem ggX9_told_X9_guesses : GoodIn wsX9_told wsX9_guesses := goodIn_r _ [9, 3, 10, 4, 11, 12, 13, 14, 15, 16, 17, 18, 19, 20, 21, 22, 23, 24, 25, 26, 27, 28, 29, 30, 31, 32, 33, 34, 35, 36, 37, 38, 39] (by decide +kernel) (by decide +kernel)
set_option maxRecDepth 20000 in
theorem gX9_told_X9_guesses : GoodIn wsX9_told (wsV RX9 307 RX9 yX9_guesses wsX9_guesses) := goodIn_app (goodIn_of _ (by decide +kernel)) ggX9_told_X9_guesses
theorem dX9_told_0 : decode cX9_told 0 = .ok (.iload_n 1, 1) := by decide +kernel
theorem dX9_told_1 : decode cX9_told 1 = .ok (.iconst 2, 1) := by decide +kernel
theorem dX9_told_2 : decode cX9_told 2 = .ok (.if_icmp .le 47, 3) := by decide +kernel
theorem dX9_told_5 : decode cX9_told 5 = .ok (.iload_n 1, 1) := by decide +kernel
theorem dX9_told_6 : decode cX9_told 6 = .ok (.iconst 3, 1) := by decide +kernel
theorem dX9_told_7 : decode cX9_told 7 = .ok (.if_icmp .ne 10, 3) := by decide +kernel
theorem dX9_told_10 : decode cX9_told 10 = .ok (.aload_n 0, 1) := by decide +kernel
theorem dX9_told_11 : decode cX9_told 11 = .ok (.invokevirtual 307, 3) := by decide +kernel
theorem dX9_told_14 : decode cX9_told 14 = .ok (.goto 34, 3) := by decide +kernel
theorem dX9_told_17 : decode cX9_told 17 = .ok (.iload_n 1, 1) := by decide +kernel
theorem dX9_told_18 : decode cX9_told 18 = .ok (.iconst 4, 1) := by decide +kernel
theorem dX9_told_19 : decode cX9_told 19 = .ok (.if_icmp .ne 25, 3) := by decide +kernel
theorem dX9_told_22 : decode cX9_told 22 = .ok (.aload_n 0, 1) := by decide +kernel
theorem dX9_told_23 : decode cX9_told 23 = .ok (.getfield 275, 3) := by decide +kernel
theorem dX9_told_26 : decode cX9_told 26 = .ok (.ifCond .le 14, 3) := by decide +kernel
theorem dX9_told_29 : decode cX9_told 29 = .ok (.aload_n 0, 1) := by decide +kernel
theorem dX9_told_30 : decode cX9_told 30 = .ok (.getfield 269, 3) := by decide +kernel
theorem dX9_told_33 : decode cX9_told 33 = .ok (.ifCond .ne 7, 3) := by decide +kernel
theorem dX9_told_36 : decode cX9_told 36 = .ok (.iconst 1, 1) := by decide +kernel
theorem dX9_told_37 : decode cX9_told 37 = .ok (.goto 11, 3) := by decide +kernel
theorem dX9_told_40 : decode cX9_told 40 = .ok (.iconst 0, 1) := by decide +kernel
theorem dX9_told_41 : decode cX9_told 41 = .ok (.goto 7, 3) := by decide +kernel
theorem dX9_told_44 : decode cX9_told 44 = .ok (.aload_n 0, 1) := by decide +kernel
theorem dX9_told_45 : decode cX9_told 45 = .ok (.getfield 275, 3) := by decide +kernel
theorem dX9_told_48 : decode cX9_told 48 = .ok (.ireturn, 1) := by decide +kernel
theorem dX9_told_49 : decode cX9_told 49 = .ok (.aload_n 0, 1) := by decide +kernel
theorem dX9_told_50 : decode cX9_told 50 = .ok (.getfield 266, 3) := by decide +kernel
theorem dX9_told_53 : decode cX9_told 53 = .ok (.iconst (-1), 1) := by decide +kernel
theorem dX9_told_54 : decode cX9_told 54 = .ok (.if_icmp .ne 7, 3) := by decide +kernel
theorem dX9_told_57 : decode cX9_told 57 = .ok (.iconst (-1), 1) := by decide +kernel
theorem dX9_told_58 : decode cX9_told 58 = .ok (.goto 30, 3) := by decide +kernel
theorem dX9_told_61 : decode cX9_told 61 = .ok (.iload_n 1, 1) := by decide +kernel
theorem dX9_told_62 : decode cX9_told 62 = .ok (.ifCond .ne 10, 3) := by decide +kernel
theorem dX9_told_65 : decode cX9_told 65 = .ok (.aload_n 0, 1) := by decide +kernel
theorem dX9_told_66 : decode cX9_told 66 = .ok (.getfield 266, 3) := by decide +kernel
theorem dX9_told_69 : decode cX9_told 69 = .ok (.goto 19, 3) := by decide +kernel
theorem dX9_told_72 : decode cX9_told 72 = .ok (.iload_n 1, 1) := by decide +kernel
theorem dX9_told_73 : decode cX9_told 73 = .ok (.iconst 1, 1) := by decide +kernel
theorem dX9_told_74 : decode cX9_told 74 = .ok (.if_icmp .ne 10, 3) := by decide +kernel
theorem dX9_told_77 : decode cX9_told 77 = .ok (.aload_n 0, 1) := by decide +kernel
theorem dX9_told_78 : decode cX9_told 78 = .ok (.getfield 269, 3) := by decide +kernel
theorem dX9_told_81 : decode cX9_told 81 = .ok (.goto 7, 3) := by decide +kernel
theorem dX9_told_84 : decode cX9_told 84 = .ok (.aload_n 0, 1) := by decide +kernel
theorem dX9_told_85 : decode cX9_told 85 = .ok (.getfield 272, 3) := by decide +kernel
theorem dX9_told_88 : decode cX9_told 88 = .ok (.ireturn, 1) := by decide +kernel
set_option maxRecDepth 20000 in
theorem ggX9_found_X9_isLeg : GoodIn wsX9_found wsX9_isLeg := goodIn_r _ [5, 6, 7, 4, 8] (by decide +kernel) (by decide +kernel)
set_option maxRecDepth 20000 in
theorem gX9_found_X9_isLeg : GoodIn wsX9_found (va_wsS RX9 182 yX9_isLeg wsX9_isLeg) := goodIn_app (goodIn_of _ (by decide +kernel)) ggX9_found_X9_isLeg
set_option maxRecDepth 20000 in
theorem ggX9_found_X9_in : GoodIn wsX9_found wsX9_in := goodIn_r _ [8] (by decide +kernel) (by decide +kernel)
set_option maxRecDepth 20000 in
theorem gX9_found_X9_in : GoodIn wsX9_found (va_wsS RX9 63 yX9_in wsX9_in) := goodIn_app (goodIn_of _ (by decide +kernel)) ggX9_found_X9_in
set_option maxRecDepth 20000 in
theorem ggX9_found_X9_laysLeg : GoodIn wsX9_found wsX9_laysLeg := goodIn_r _ [12, 13, 14, 15, 16, 17, 4, 18, 19, 20, 21, 22, 23, 24, 25, 26, 27, 28, 29, 30, 31, 32, 33, 34, 35, 36, 37, 38, 39, 40, 41, 42, 43, 44, 45, 46, 47, 48, 49, 50, 51, 52, 53, 54, 55, 56, 57, 58, 59, 60, 61, 62, 63, 64, 65, 6, 7, 8, 66, 67, 68, 69, 70, 71, 72, 73, 74, 75, 76, 77, 78, 79, 80, 81, 82, 83, 84, 85, 86, 87, 88, 89, 90, 91, 92, 93, 94, 95, 96, 97, 98, 99, 100, 101, 102, 103, 104, 105, 106, 107, 108, 109, 110, 119, 120, 121, 122, 123, 124, 125, 126, 127, 128, 129, 130, 131, 132, 133, 134, 135, 136, 137, 138, 139, 140, 141, 142, 143, 144, 145, 146, 147] (by decide +kernel) (by decide +kernel)
set_option maxRecDepth 20000 in
theorem gX9_found_X9_laysLeg : GoodIn wsX9_found (wsV RX9 294 RX9 yX9_laysLeg wsX9_laysLeg) := goodIn_app (goodIn_of _ (by decide +kernel)) ggX9_found_X9_laysLeg
set_option maxRecDepth 20000 in
theorem ggX9_found_X9_told : GoodIn wsX9_found wsX9_told := goodIn_r _ [114, 81, 79, 13, 80, 115, 116, 117, 4, 118, 32, 119, 120, 121, 122, 123, 124, 125, 126, 127, 128, 129, 130, 131, 132, 133, 134, 135, 136, 137, 138, 139, 140, 141, 142, 143, 144, 145, 146, 147] (by decide +kernel) (by decide +kernel)
set_option maxRecDepth 20000 in
theorem gX9_found_X9_told : GoodIn wsX9_found (wsV RX9 310 RX9 yX9_told wsX9_told) := goodIn_app (goodIn_of _ (by decide +kernel)) ggX9_found_X9_told
theorem dX9_found_0 : decode cX9_found 0 = .ok (.aload_n 0, 1) := by decide +kernel
theorem dX9_found_1 : decode cX9_found 1 = .ok (.iconst 0, 1) := by decide +kernel
theorem dX9_found_2 : decode cX9_found 2 = .ok (.putfield 51, 3) := by decide +kernel
theorem dX9_found_5 : decode cX9_found 5 = .ok (.iload_n 1, 1) := by decide +kernel
theorem dX9_found_6 : decode cX9_found 6 = .ok (.invokestatic 182, 3) := by decide +kernel
theorem dX9_found_9 : decode cX9_found 9 = .ok (.ifCond .eq 12, 3) := by decide +kernel
theorem dX9_found_12 : decode cX9_found 12 = .ok (.iload_n 2, 1) := by decide +kernel
theorem dX9_found_13 : decode cX9_found 13 = .ok (.iconst 0, 1) := by decide +kernel
theorem dX9_found_14 : decode cX9_found 14 = .ok (.iconst 5, 1) := by decide +kernel
theorem dX9_found_15 : decode cX9_found 15 = .ok (.invokestatic 63, 3) := by decide +kernel
theorem dX9_found_18 : decode cX9_found 18 = .ok (.ifCond .ne 5, 3) := by decide +kernel
theorem dX9_found_21 : decode cX9_found 21 = .ok (.iconst (-1), 1) := by decide +kernel
theorem dX9_found_22 : decode cX9_found 22 = .ok (.ireturn, 1) := by decide +kernel
theorem dX9_found_23 : decode cX9_found 23 = .ok (.aload_n 0, 1) := by decide +kernel
theorem dX9_found_24 : decode cX9_found 24 = .ok (.iload_n 1, 1) := by decide +kernel
theorem dX9_found_25 : decode cX9_found 25 = .ok (.invokevirtual 294, 3) := by decide +kernel
theorem dX9_found_28 : decode cX9_found 28 = .ok (.aload_n 0, 1) := by decide +kernel
theorem dX9_found_29 : decode cX9_found 29 = .ok (.iload_n 2, 1) := by decide +kernel
theorem dX9_found_30 : decode cX9_found 30 = .ok (.invokevirtual 310, 3) := by decide +kernel
theorem dX9_found_33 : decode cX9_found 33 = .ok (.ireturn, 1) := by decide +kernel
set_option maxRecDepth 20000 in
theorem ggX9_guess_X9_isLeg : GoodIn wsX9_guess wsX9_isLeg := goodIn_r _ [7, 8, 9, 6, 10] (by decide +kernel) (by decide +kernel)
set_option maxRecDepth 20000 in
theorem gX9_guess_X9_isLeg : GoodIn wsX9_guess (va_wsS RX9 182 yX9_isLeg wsX9_isLeg) := goodIn_app (goodIn_of _ (by decide +kernel)) ggX9_guess_X9_isLeg
set_option maxRecDepth 20000 in
theorem ggX9_guess_X9_laysLeg : GoodIn wsX9_guess wsX9_laysLeg := goodIn_r _ [14, 2, 15, 16, 17, 18, 6, 19, 20, 21, 22, 23, 24, 25, 26, 27, 28, 29, 30, 31, 32, 33, 34, 35, 36, 37, 38, 39, 40, 41, 42, 43, 44, 45, 46, 47, 48, 49, 50, 51, 52, 53, 54, 55, 56, 57, 58, 59, 60, 61, 62, 63, 64, 65, 66, 8, 9, 10, 67, 68, 69, 70, 71, 72, 73, 74, 75, 76, 77, 78, 79, 80, 3, 81, 82, 83, 84, 85, 86, 87, 88, 89, 90, 91, 92, 93, 94, 95, 96, 97, 98, 99, 100, 101, 102, 103, 104, 105, 106, 107, 108, 109, 110, 115, 116, 117, 118, 119, 120, 121, 122, 123, 124, 125, 126, 127, 128, 129, 130, 131, 132, 133, 134, 135, 136, 137, 138, 139, 140, 141, 142, 143] (by decide +kernel) (by decide +kernel)
set_option maxRecDepth 20000 in
theorem gX9_guess_X9_laysLeg : GoodIn wsX9_guess (wsV RX9 294 RX9 yX9_laysLeg wsX9_laysLeg) := goodIn_app (goodIn_of _ (by decide +kernel)) ggX9_guess_X9_laysLeg
set_option maxRecDepth 20000 in
theorem ggX9_guess_X9_guesses : GoodIn wsX9_guess wsX9_guesses := goodIn_r _ [114, 2, 33, 3, 115, 116, 117, 118, 119, 120, 121, 122, 123, 124, 125, 126, 127, 128, 129, 130, 131, 132, 133, 134, 135, 136, 137, 138, 139, 140, 141, 142, 143] (by decide +kernel) (by decide +kernel)
set_option maxRecDepth 20000 in
theorem gX9_guess_X9_guesses : GoodIn wsX9_guess (wsV RX9 307 RX9 yX9_guesses wsX9_guesses) := goodIn_app (goodIn_of _ (by decide +kernel)) ggX9_guess_X9_guesses
set_option maxRecDepth 20000 in
theorem ggX9_guess_X9_in : GoodIn wsX9_guess wsX9_in := goodIn_r _ [10] (by decide +kernel) (by decide +kernel)
set_option maxRecDepth 20000 in
theorem gX9_guess_X9_in : GoodIn wsX9_guess (va_wsS RX9 63 yX9_in wsX9_in) := goodIn_app (goodIn_of _ (by decide +kernel)) ggX9_guess_X9_in
theorem dX9_guess_0 : decode cX9_guess 0 = .ok (.aload_n 0, 1) := by decide +kernel
theorem dX9_guess_1 : decode cX9_guess 1 = .ok (.iconst 0, 1) := by decide +kernel
theorem dX9_guess_2 : decode cX9_guess 2 = .ok (.putfield 51, 3) := by decide +kernel
theorem dX9_guess_5 : decode cX9_guess 5 = .ok (.iload_n 1, 1) := by decide +kernel
theorem dX9_guess_6 : decode cX9_guess 6 = .ok (.invokestatic 182, 3) := by decide +kernel
theorem dX9_guess_9 : decode cX9_guess 9 = .ok (.ifCond .ne 5, 3) := by decide +kernel
theorem dX9_guess_12 : decode cX9_guess 12 = .ok (.iconst (-1), 1) := by decide +kernel
theorem dX9_guess_13 : decode cX9_guess 13 = .ok (.ireturn, 1) := by decide +kernel
theorem dX9_guess_14 : decode cX9_guess 14 = .ok (.aload_n 0, 1) := by decide +kernel
theorem dX9_guess_15 : decode cX9_guess 15 = .ok (.iload_n 1, 1) := by decide +kernel
theorem dX9_guess_16 : decode cX9_guess 16 = .ok (.invokevirtual 294, 3) := by decide +kernel
theorem dX9_guess_19 : decode cX9_guess 19 = .ok (.iload_n 2, 1) := by decide +kernel
theorem dX9_guess_20 : decode cX9_guess 20 = .ok (.iconst 0, 1) := by decide +kernel
theorem dX9_guess_21 : decode cX9_guess 21 = .ok (.aload_n 0, 1) := by decide +kernel
theorem dX9_guess_22 : decode cX9_guess 22 = .ok (.invokevirtual 307, 3) := by decide +kernel
theorem dX9_guess_25 : decode cX9_guess 25 = .ok (.iconst 1, 1) := by decide +kernel
theorem dX9_guess_26 : decode cX9_guess 26 = .ok (.isub, 1) := by decide +kernel
theorem dX9_guess_27 : decode cX9_guess 27 = .ok (.invokestatic 63, 3) := by decide +kernel
theorem dX9_guess_30 : decode cX9_guess 30 = .ok (.ifCond .eq 17, 3) := by decide +kernel
theorem dX9_guess_33 : decode cX9_guess 33 = .ok (.aload_n 0, 1) := by decide +kernel
theorem dX9_guess_34 : decode cX9_guess 34 = .ok (.getfield 266, 3) := by decide +kernel
theorem dX9_guess_37 : decode cX9_guess 37 = .ok (.iload_n 2, 1) := by decide +kernel
theorem dX9_guess_38 : decode cX9_guess 38 = .ok (.aload_n 0, 1) := by decide +kernel
theorem dX9_guess_39 : decode cX9_guess 39 = .ok (.getfield 272, 3) := by decide +kernel
theorem dX9_guess_42 : decode cX9_guess 42 = .ok (.imul, 1) := by decide +kernel
theorem dX9_guess_43 : decode cX9_guess 43 = .ok (.iadd, 1) := by decide +kernel
theorem dX9_guess_44 : decode cX9_guess 44 = .ok (.goto 4, 3) := by decide +kernel
theorem dX9_guess_47 : decode cX9_guess 47 = .ok (.iconst (-1), 1) := by decide +kernel
theorem dX9_guess_48 : decode cX9_guess 48 = .ok (.ireturn, 1) := by decide +kernel
set_option maxRecDepth 20000 in
theorem ggX9_laysScores_X9_of : GoodIn wsX9_laysScores wsX9_of := goodIn_r _ [8, 1, 9, 10, 11, 12, 13, 14, 15, 16, 17, 18, 19, 20, 21, 22, 23, 24, 25, 26, 27, 28, 29, 30, 31, 32, 33, 34, 35, 36, 37] (by decide +kernel) (by decide +kernel)
set_option maxRecDepth 20000 in
theorem gX9_laysScores_X9_of : GoodIn wsX9_laysScores (wsV RX9 195 RX9 yX9_of wsX9_of) := goodIn_app (goodIn_of _ (by decide +kernel)) ggX9_laysScores_X9_of
theorem dX9_laysScores_0 : decode cX9_laysScores 0 = .ok (.iconst 0, 1) := by decide +kernel
theorem dX9_laysScores_1 : decode cX9_laysScores 1 = .ok (.istore_n 1, 1) := by decide +kernel
theorem dX9_laysScores_2 : decode cX9_laysScores 2 = .ok (.iload_n 1, 1) := by decide +kernel
theorem dX9_laysScores_3 : decode cX9_laysScores 3 = .ok (.aload_n 0, 1) := by decide +kernel
theorem dX9_laysScores_4 : decode cX9_laysScores 4 = .ok (.getfield 7, 3) := by decide +kernel
theorem dX9_laysScores_7 : decode cX9_laysScores 7 = .ok (.iconst 1, 1) := by decide +kernel
theorem dX9_laysScores_8 : decode cX9_laysScores 8 = .ok (.iaload, 1) := by decide +kernel
theorem dX9_laysScores_9 : decode cX9_laysScores 9 = .ok (.if_icmp .ge 64, 3) := by decide +kernel
theorem dX9_laysScores_12 : decode cX9_laysScores 12 = .ok (.iconst 0, 1) := by decide +kernel
theorem dX9_laysScores_13 : decode cX9_laysScores 13 = .ok (.istore_n 2, 1) := by decide +kernel
theorem dX9_laysScores_14 : decode cX9_laysScores 14 = .ok (.iconst 0, 1) := by decide +kernel
theorem dX9_laysScores_15 : decode cX9_laysScores 15 = .ok (.istore_n 3, 1) := by decide +kernel
theorem dX9_laysScores_16 : decode cX9_laysScores 16 = .ok (.iload_n 3, 1) := by decide +kernel
theorem dX9_laysScores_17 : decode cX9_laysScores 17 = .ok (.aload_n 0, 1) := by decide +kernel
theorem dX9_laysScores_18 : decode cX9_laysScores 18 = .ok (.getfield 7, 3) := by decide +kernel
theorem dX9_laysScores_21 : decode cX9_laysScores 21 = .ok (.iconst 0, 1) := by decide +kernel
theorem dX9_laysScores_22 : decode cX9_laysScores 22 = .ok (.iaload, 1) := by decide +kernel
theorem dX9_laysScores_23 : decode cX9_laysScores 23 = .ok (.if_icmp .ge 37, 3) := by decide +kernel
theorem dX9_laysScores_26 : decode cX9_laysScores 26 = .ok (.iload_n 2, 1) := by decide +kernel
theorem dX9_laysScores_27 : decode cX9_laysScores 27 = .ok (.aload_n 0, 1) := by decide +kernel
theorem dX9_laysScores_28 : decode cX9_laysScores 28 = .ok (.iload_n 3, 1) := by decide +kernel
theorem dX9_laysScores_29 : decode cX9_laysScores 29 = .ok (.iconst 1, 1) := by decide +kernel
theorem dX9_laysScores_30 : decode cX9_laysScores 30 = .ok (.invokevirtual 195, 3) := by decide +kernel
theorem dX9_laysScores_33 : decode cX9_laysScores 33 = .ok (.aload_n 0, 1) := by decide +kernel
theorem dX9_laysScores_34 : decode cX9_laysScores 34 = .ok (.getfield 33, 3) := by decide +kernel
theorem dX9_laysScores_37 : decode cX9_laysScores 37 = .ok (.bipush 13, 2) := by decide +kernel
theorem dX9_laysScores_39 : decode cX9_laysScores 39 = .ok (.iload_n 3, 1) := by decide +kernel
theorem dX9_laysScores_40 : decode cX9_laysScores 40 = .ok (.imul, 1) := by decide +kernel
theorem dX9_laysScores_41 : decode cX9_laysScores 41 = .ok (.iload_n 1, 1) := by decide +kernel
theorem dX9_laysScores_42 : decode cX9_laysScores 42 = .ok (.aload_n 0, 1) := by decide +kernel
theorem dX9_laysScores_43 : decode cX9_laysScores 43 = .ok (.iload_n 3, 1) := by decide +kernel
theorem dX9_laysScores_44 : decode cX9_laysScores 44 = .ok (.iconst 0, 1) := by decide +kernel
theorem dX9_laysScores_45 : decode cX9_laysScores 45 = .ok (.invokevirtual 195, 3) := by decide +kernel
theorem dX9_laysScores_48 : decode cX9_laysScores 48 = .ok (.irem, 1) := by decide +kernel
theorem dX9_laysScores_49 : decode cX9_laysScores 49 = .ok (.iadd, 1) := by decide +kernel
theorem dX9_laysScores_50 : decode cX9_laysScores 50 = .ok (.iaload, 1) := by decide +kernel
theorem dX9_laysScores_51 : decode cX9_laysScores 51 = .ok (.imul, 1) := by decide +kernel
theorem dX9_laysScores_52 : decode cX9_laysScores 52 = .ok (.iadd, 1) := by decide +kernel
theorem dX9_laysScores_53 : decode cX9_laysScores 53 = .ok (.istore_n 2, 1) := by decide +kernel
theorem dX9_laysScores_54 : decode cX9_laysScores 54 = .ok (.iinc 3 1, 3) := by decide +kernel
theorem dX9_laysScores_57 : decode cX9_laysScores 57 = .ok (.goto (-41), 3) := by decide +kernel
theorem dX9_laysScores_60 : decode cX9_laysScores 60 = .ok (.aload_n 0, 1) := by decide +kernel
theorem dX9_laysScores_61 : decode cX9_laysScores 61 = .ok (.getfield 36, 3) := by decide +kernel
theorem dX9_laysScores_64 : decode cX9_laysScores 64 = .ok (.iload_n 1, 1) := by decide +kernel
theorem dX9_laysScores_65 : decode cX9_laysScores 65 = .ok (.iload_n 2, 1) := by decide +kernel
theorem dX9_laysScores_66 : decode cX9_laysScores 66 = .ok (.iastore, 1) := by decide +kernel
theorem dX9_laysScores_67 : decode cX9_laysScores 67 = .ok (.iinc 1 1, 3) := by decide +kernel
theorem dX9_laysScores_70 : decode cX9_laysScores 70 = .ok (.goto (-68), 3) := by decide +kernel
theorem dX9_laysScores_73 : decode cX9_laysScores 73 = .ok (.return_, 1) := by decide +kernel
set_option maxRecDepth 20000 in
theorem ggX9_likely_X9_isLeg : GoodIn wsX9_likely wsX9_isLeg := goodIn_r _ [8, 9, 10, 7, 11] (by decide +kernel) (by decide +kernel)
set_option maxRecDepth 20000 in
theorem gX9_likely_X9_isLeg : GoodIn wsX9_likely (va_wsS RX9 182 yX9_isLeg wsX9_isLeg) := goodIn_app (goodIn_of _ (by decide +kernel)) ggX9_likely_X9_isLeg
set_option maxRecDepth 20000 in
theorem ggX9_likely_X9_lesser : GoodIn wsX9_likely wsX9_lesser := goodIn_r _ [14] (by decide +kernel) (by decide +kernel)
set_option maxRecDepth 20000 in
theorem gX9_likely_X9_lesser : GoodIn wsX9_likely (va_wsS RX9 219 yX9_lesser wsX9_lesser) := goodIn_app (goodIn_of _ (by decide +kernel)) ggX9_likely_X9_lesser
set_option maxRecDepth 20000 in
theorem ggX9_likely_X9_in : GoodIn wsX9_likely wsX9_in := goodIn_r _ [11] (by decide +kernel) (by decide +kernel)
set_option maxRecDepth 20000 in
theorem gX9_likely_X9_in : GoodIn wsX9_likely (va_wsS RX9 63 yX9_in wsX9_in) := goodIn_app (goodIn_of _ (by decide +kernel)) ggX9_likely_X9_in
set_option maxRecDepth 20000 in
theorem ggX9_likely_X9_laysLeg : GoodIn wsX9_likely wsX9_laysLeg := goodIn_r _ [18, 19, 20, 21, 22, 23, 7, 24, 25, 26, 27, 28, 29, 30, 31, 32, 33, 34, 35, 36, 37, 2, 38, 39, 40, 41, 42, 43, 44, 45, 46, 47, 48, 49, 50, 51, 52, 53, 54, 55, 56, 57, 58, 59, 60, 61, 62, 63, 64, 65, 66, 67, 68, 69, 70, 9, 10, 11, 71, 72, 73, 74, 75, 76, 77, 78, 79, 80, 81, 82, 83, 84, 85, 86, 87, 88, 89, 90, 91, 92, 93, 94, 95, 96, 97, 98, 99, 100, 101, 102, 103, 104, 105, 106, 107, 108, 109, 110, 111, 112, 113, 114, 115, 120, 121, 122, 123, 124, 125, 126, 127, 128, 129, 130, 131, 132, 133, 134, 135, 136, 137, 138, 139, 140, 141, 142, 143, 144, 145, 146, 147, 148] (by decide +kernel) (by decide +kernel)
set_option maxRecDepth 20000 in
theorem gX9_likely_X9_laysLeg : GoodIn wsX9_likely (wsV RX9 294 RX9 yX9_laysLeg wsX9_laysLeg) := goodIn_app (goodIn_of _ (by decide +kernel)) ggX9_likely_X9_laysLeg
set_option maxRecDepth 20000 in
theorem ggX9_likely_X9_laysScores : GoodIn wsX9_likely wsX9_laysScores := goodIn_r _ [119, 2, 75, 4, 60, 61, 62, 7, 63, 120, 121, 122, 123, 124, 125, 126, 127, 128, 129, 130, 131, 132, 133, 134, 135, 136, 137, 138, 139, 140, 141, 142, 143, 144, 145, 146, 147, 148] (by decide +kernel) (by decide +kernel)
set_option maxRecDepth 20000 in
theorem gX9_likely_X9_laysScores : GoodIn wsX9_likely (wsV RX9 312 RX9 yX9_laysScores wsX9_laysScores) := goodIn_app (goodIn_of _ (by decide +kernel)) ggX9_likely_X9_laysScores
theorem dX9_likely_0 : decode cX9_likely 0 = .ok (.aload_n 0, 1) := by decide +kernel
theorem dX9_likely_1 : decode cX9_likely 1 = .ok (.iconst 0, 1) := by decide +kernel
theorem dX9_likely_2 : decode cX9_likely 2 = .ok (.putfield 51, 3) := by decide +kernel
theorem dX9_likely_5 : decode cX9_likely 5 = .ok (.iload_n 1, 1) := by decide +kernel
theorem dX9_likely_6 : decode cX9_likely 6 = .ok (.invokestatic 182, 3) := by decide +kernel
theorem dX9_likely_9 : decode cX9_likely 9 = .ok (.ifCond .eq 24, 3) := by decide +kernel
theorem dX9_likely_12 : decode cX9_likely 12 = .ok (.iload_n 2, 1) := by decide +kernel
theorem dX9_likely_13 : decode cX9_likely 13 = .ok (.iconst 0, 1) := by decide +kernel
theorem dX9_likely_14 : decode cX9_likely 14 = .ok (.bipush 20, 2) := by decide +kernel
theorem dX9_likely_16 : decode cX9_likely 16 = .ok (.aload_n 0, 1) := by decide +kernel
theorem dX9_likely_17 : decode cX9_likely 17 = .ok (.getfield 7, 3) := by decide +kernel
theorem dX9_likely_20 : decode cX9_likely 20 = .ok (.iconst 1, 1) := by decide +kernel
theorem dX9_likely_21 : decode cX9_likely 21 = .ok (.iaload, 1) := by decide +kernel
theorem dX9_likely_22 : decode cX9_likely 22 = .ok (.invokestatic 219, 3) := by decide +kernel
theorem dX9_likely_25 : decode cX9_likely 25 = .ok (.iconst 1, 1) := by decide +kernel
theorem dX9_likely_26 : decode cX9_likely 26 = .ok (.isub, 1) := by decide +kernel
theorem dX9_likely_27 : decode cX9_likely 27 = .ok (.invokestatic 63, 3) := by decide +kernel
theorem dX9_likely_30 : decode cX9_likely 30 = .ok (.ifCond .ne 6, 3) := by decide +kernel
theorem dX9_likely_33 : decode cX9_likely 33 = .ok (.ldc 222, 2) := by decide +kernel
theorem dX9_likely_35 : decode cX9_likely 35 = .ok (.ireturn, 1) := by decide +kernel
theorem dX9_likely_36 : decode cX9_likely 36 = .ok (.aload_n 0, 1) := by decide +kernel
theorem dX9_likely_37 : decode cX9_likely 37 = .ok (.iload_n 1, 1) := by decide +kernel
theorem dX9_likely_38 : decode cX9_likely 38 = .ok (.invokevirtual 294, 3) := by decide +kernel
theorem dX9_likely_41 : decode cX9_likely 41 = .ok (.aload_n 0, 1) := by decide +kernel
theorem dX9_likely_42 : decode cX9_likely 42 = .ok (.invokevirtual 312, 3) := by decide +kernel
theorem dX9_likely_45 : decode cX9_likely 45 = .ok (.iconst (-1), 1) := by decide +kernel
theorem dX9_likely_46 : decode cX9_likely 46 = .ok (.istore 4, 2) := by decide +kernel
theorem dX9_likely_48 : decode cX9_likely 48 = .ok (.iconst 0, 1) := by decide +kernel
theorem dX9_likely_49 : decode cX9_likely 49 = .ok (.istore 5, 2) := by decide +kernel
theorem dX9_likely_51 : decode cX9_likely 51 = .ok (.iload 5, 2) := by decide +kernel
theorem dX9_likely_53 : decode cX9_likely 53 = .ok (.iload_n 2, 1) := by decide +kernel
theorem dX9_likely_54 : decode cX9_likely 54 = .ok (.if_icmp .gt 127, 3) := by decide +kernel
theorem dX9_likely_57 : decode cX9_likely 57 = .ok (.iconst (-1), 1) := by decide +kernel
theorem dX9_likely_58 : decode cX9_likely 58 = .ok (.istore 6, 2) := by decide +kernel
theorem dX9_likely_60 : decode cX9_likely 60 = .ok (.iconst 0, 1) := by decide +kernel
theorem dX9_likely_61 : decode cX9_likely 61 = .ok (.istore 7, 2) := by decide +kernel
theorem dX9_likely_63 : decode cX9_likely 63 = .ok (.iload 7, 2) := by decide +kernel
theorem dX9_likely_65 : decode cX9_likely 65 = .ok (.aload_n 0, 1) := by decide +kernel
theorem dX9_likely_66 : decode cX9_likely 66 = .ok (.getfield 7, 3) := by decide +kernel
theorem dX9_likely_69 : decode cX9_likely 69 = .ok (.iconst 1, 1) := by decide +kernel
theorem dX9_likely_70 : decode cX9_likely 70 = .ok (.iaload, 1) := by decide +kernel
theorem dX9_likely_71 : decode cX9_likely 71 = .ok (.if_icmp .ge 100, 3) := by decide +kernel
theorem dX9_likely_74 : decode cX9_likely 74 = .ok (.iload 4, 2) := by decide +kernel
theorem dX9_likely_76 : decode cX9_likely 76 = .ok (.iconst (-1), 1) := by decide +kernel
theorem dX9_likely_77 : decode cX9_likely 77 = .ok (.if_icmp .eq 44, 3) := by decide +kernel
theorem dX9_likely_80 : decode cX9_likely 80 = .ok (.aload_n 0, 1) := by decide +kernel
theorem dX9_likely_81 : decode cX9_likely 81 = .ok (.getfield 36, 3) := by decide +kernel
theorem dX9_likely_84 : decode cX9_likely 84 = .ok (.iload 7, 2) := by decide +kernel
theorem dX9_likely_86 : decode cX9_likely 86 = .ok (.iaload, 1) := by decide +kernel
theorem dX9_likely_87 : decode cX9_likely 87 = .ok (.aload_n 0, 1) := by decide +kernel
theorem dX9_likely_88 : decode cX9_likely 88 = .ok (.getfield 36, 3) := by decide +kernel
theorem dX9_likely_91 : decode cX9_likely 91 = .ok (.iload 4, 2) := by decide +kernel
theorem dX9_likely_93 : decode cX9_likely 93 = .ok (.iaload, 1) := by decide +kernel
theorem dX9_likely_94 : decode cX9_likely 94 = .ok (.if_icmp .lt 27, 3) := by decide +kernel
theorem dX9_likely_97 : decode cX9_likely 97 = .ok (.aload_n 0, 1) := by decide +kernel
theorem dX9_likely_98 : decode cX9_likely 98 = .ok (.getfield 36, 3) := by decide +kernel
theorem dX9_likely_101 : decode cX9_likely 101 = .ok (.iload 7, 2) := by decide +kernel
theorem dX9_likely_103 : decode cX9_likely 103 = .ok (.iaload, 1) := by decide +kernel
theorem dX9_likely_104 : decode cX9_likely 104 = .ok (.aload_n 0, 1) := by decide +kernel
theorem dX9_likely_105 : decode cX9_likely 105 = .ok (.getfield 36, 3) := by decide +kernel
theorem dX9_likely_108 : decode cX9_likely 108 = .ok (.iload 4, 2) := by decide +kernel
theorem dX9_likely_110 : decode cX9_likely 110 = .ok (.iaload, 1) := by decide +kernel
theorem dX9_likely_111 : decode cX9_likely 111 = .ok (.if_icmp .ne 14, 3) := by decide +kernel
theorem dX9_likely_114 : decode cX9_likely 114 = .ok (.iload 7, 2) := by decide +kernel
theorem dX9_likely_116 : decode cX9_likely 116 = .ok (.iload 4, 2) := by decide +kernel
theorem dX9_likely_118 : decode cX9_likely 118 = .ok (.if_icmp .le 7, 3) := by decide +kernel
theorem dX9_likely_121 : decode cX9_likely 121 = .ok (.iconst 1, 1) := by decide +kernel
theorem dX9_likely_122 : decode cX9_likely 122 = .ok (.goto 4, 3) := by decide +kernel
theorem dX9_likely_125 : decode cX9_likely 125 = .ok (.iconst 0, 1) := by decide +kernel
theorem dX9_likely_126 : decode cX9_likely 126 = .ok (.istore 8, 2) := by decide +kernel
theorem dX9_likely_128 : decode cX9_likely 128 = .ok (.iload 8, 2) := by decide +kernel
theorem dX9_likely_130 : decode cX9_likely 130 = .ok (.ifCond .eq 31, 3) := by decide +kernel
theorem dX9_likely_133 : decode cX9_likely 133 = .ok (.iload 6, 2) := by decide +kernel
theorem dX9_likely_135 : decode cX9_likely 135 = .ok (.iconst (-1), 1) := by decide +kernel
theorem dX9_likely_136 : decode cX9_likely 136 = .ok (.if_icmp .eq 20, 3) := by decide +kernel
theorem dX9_likely_139 : decode cX9_likely 139 = .ok (.aload_n 0, 1) := by decide +kernel
theorem dX9_likely_140 : decode cX9_likely 140 = .ok (.getfield 36, 3) := by decide +kernel
theorem dX9_likely_143 : decode cX9_likely 143 = .ok (.iload 7, 2) := by decide +kernel
theorem dX9_likely_145 : decode cX9_likely 145 = .ok (.iaload, 1) := by decide +kernel
theorem dX9_likely_146 : decode cX9_likely 146 = .ok (.aload_n 0, 1) := by decide +kernel
theorem dX9_likely_147 : decode cX9_likely 147 = .ok (.getfield 36, 3) := by decide +kernel
theorem dX9_likely_150 : decode cX9_likely 150 = .ok (.iload 6, 2) := by decide +kernel
theorem dX9_likely_152 : decode cX9_likely 152 = .ok (.iaload, 1) := by decide +kernel
theorem dX9_likely_153 : decode cX9_likely 153 = .ok (.if_icmp .le 8, 3) := by decide +kernel
theorem dX9_likely_156 : decode cX9_likely 156 = .ok (.iload 7, 2) := by decide +kernel
theorem dX9_likely_158 : decode cX9_likely 158 = .ok (.goto 5, 3) := by decide +kernel
theorem dX9_likely_161 : decode cX9_likely 161 = .ok (.iload 6, 2) := by decide +kernel
theorem dX9_likely_163 : decode cX9_likely 163 = .ok (.istore 6, 2) := by decide +kernel
theorem dX9_likely_165 : decode cX9_likely 165 = .ok (.iinc 7 1, 3) := by decide +kernel
theorem dX9_likely_168 : decode cX9_likely 168 = .ok (.goto (-105), 3) := by decide +kernel
theorem dX9_likely_171 : decode cX9_likely 171 = .ok (.iload 6, 2) := by decide +kernel
theorem dX9_likely_173 : decode cX9_likely 173 = .ok (.istore 4, 2) := by decide +kernel
theorem dX9_likely_175 : decode cX9_likely 175 = .ok (.iinc 5 1, 3) := by decide +kernel
theorem dX9_likely_178 : decode cX9_likely 178 = .ok (.goto (-127), 3) := by decide +kernel
theorem dX9_likely_181 : decode cX9_likely 181 = .ok (.iload_n 3, 1) := by decide +kernel
theorem dX9_likely_182 : decode cX9_likely 182 = .ok (.ifCond .eq 13, 3) := by decide +kernel
theorem dX9_likely_185 : decode cX9_likely 185 = .ok (.aload_n 0, 1) := by decide +kernel
theorem dX9_likely_186 : decode cX9_likely 186 = .ok (.getfield 36, 3) := by decide +kernel
theorem dX9_likely_189 : decode cX9_likely 189 = .ok (.iload 4, 2) := by decide +kernel
theorem dX9_likely_191 : decode cX9_likely 191 = .ok (.iaload, 1) := by decide +kernel
theorem dX9_likely_192 : decode cX9_likely 192 = .ok (.goto 5, 3) := by decide +kernel
theorem dX9_likely_195 : decode cX9_likely 195 = .ok (.iload 4, 2) := by decide +kernel
theorem dX9_likely_197 : decode cX9_likely 197 = .ok (.ireturn, 1) := by decide +kernel
set_option maxRecDepth 20000 in
theorem ggX9_rank_X9_isLeg : GoodIn wsX9_rank wsX9_isLeg := goodIn_r _ [7, 8, 9, 6, 10] (by decide +kernel) (by decide +kernel)
set_option maxRecDepth 20000 in
theorem gX9_rank_X9_isLeg : GoodIn wsX9_rank (va_wsS RX9 182 yX9_isLeg wsX9_isLeg) := goodIn_app (goodIn_of _ (by decide +kernel)) ggX9_rank_X9_isLeg
set_option maxRecDepth 20000 in
theorem ggX9_rank_X9_in : GoodIn wsX9_rank wsX9_in := goodIn_r _ [10] (by decide +kernel) (by decide +kernel)
set_option maxRecDepth 20000 in
theorem gX9_rank_X9_in : GoodIn wsX9_rank (va_wsS RX9 63 yX9_in wsX9_in) := goodIn_app (goodIn_of _ (by decide +kernel)) ggX9_rank_X9_in
set_option maxRecDepth 20000 in
theorem ggX9_rank_X9_laysLeg : GoodIn wsX9_rank wsX9_laysLeg := goodIn_r _ [14, 15, 16, 17, 18, 19, 6, 20, 21, 22, 23, 24, 25, 26, 27, 28, 29, 30, 31, 32, 33, 2, 34, 35, 36, 37, 38, 39, 40, 41, 42, 43, 44, 45, 46, 47, 48, 49, 50, 51, 52, 53, 54, 55, 56, 57, 58, 59, 60, 61, 62, 63, 64, 65, 66, 8, 9, 10, 67, 68, 69, 70, 71, 72, 73, 74, 75, 76, 77, 78, 79, 80, 81, 82, 83, 84, 85, 86, 87, 88, 89, 90, 91, 92, 93, 94, 95, 96, 97, 98, 99, 100, 101, 102, 103, 104, 105, 106, 107, 108, 109, 110, 111, 116, 117, 118, 119, 120, 121, 122, 123, 124, 125, 126, 127, 128, 129, 130, 131, 132, 133, 134, 135, 136, 137, 138, 139, 140, 141, 142, 143, 144] (by decide +kernel) (by decide +kernel)
set_option maxRecDepth 20000 in
theorem gX9_rank_X9_laysLeg : GoodIn wsX9_rank (wsV RX9 294 RX9 yX9_laysLeg wsX9_laysLeg) := goodIn_app (goodIn_of _ (by decide +kernel)) ggX9_rank_X9_laysLeg
set_option maxRecDepth 20000 in
theorem ggX9_rank_X9_laysScores : GoodIn wsX9_rank wsX9_laysScores := goodIn_r _ [115, 2, 71, 3, 56, 57, 58, 6, 59, 116, 117, 118, 119, 120, 121, 122, 123, 124, 125, 126, 127, 128, 129, 130, 131, 132, 133, 134, 135, 136, 137, 138, 139, 140, 141, 142, 143, 144] (by decide +kernel) (by decide +kernel)
set_option maxRecDepth 20000 in
theorem gX9_rank_X9_laysScores : GoodIn wsX9_rank (wsV RX9 312 RX9 yX9_laysScores wsX9_laysScores) := goodIn_app (goodIn_of _ (by decide +kernel)) ggX9_rank_X9_laysScores
theorem dX9_rank_0 : decode cX9_rank 0 = .ok (.aload_n 0, 1) := by decide +kernel
theorem dX9_rank_1 : decode cX9_rank 1 = .ok (.iconst 0, 1) := by decide +kernel
theorem dX9_rank_2 : decode cX9_rank 2 = .ok (.putfield 51, 3) := by decide +kernel
theorem dX9_rank_5 : decode cX9_rank 5 = .ok (.iload_n 1, 1) := by decide +kernel
theorem dX9_rank_6 : decode cX9_rank 6 = .ok (.invokestatic 182, 3) := by decide +kernel
theorem dX9_rank_9 : decode cX9_rank 9 = .ok (.ifCond .eq 19, 3) := by decide +kernel
theorem dX9_rank_12 : decode cX9_rank 12 = .ok (.iload_n 2, 1) := by decide +kernel
theorem dX9_rank_13 : decode cX9_rank 13 = .ok (.iconst 0, 1) := by decide +kernel
theorem dX9_rank_14 : decode cX9_rank 14 = .ok (.aload_n 0, 1) := by decide +kernel
theorem dX9_rank_15 : decode cX9_rank 15 = .ok (.getfield 7, 3) := by decide +kernel
theorem dX9_rank_18 : decode cX9_rank 18 = .ok (.iconst 1, 1) := by decide +kernel
theorem dX9_rank_19 : decode cX9_rank 19 = .ok (.iaload, 1) := by decide +kernel
theorem dX9_rank_20 : decode cX9_rank 20 = .ok (.iconst 1, 1) := by decide +kernel
theorem dX9_rank_21 : decode cX9_rank 21 = .ok (.isub, 1) := by decide +kernel
theorem dX9_rank_22 : decode cX9_rank 22 = .ok (.invokestatic 63, 3) := by decide +kernel
theorem dX9_rank_25 : decode cX9_rank 25 = .ok (.ifCond .ne 5, 3) := by decide +kernel
theorem dX9_rank_28 : decode cX9_rank 28 = .ok (.iconst (-1), 1) := by decide +kernel
theorem dX9_rank_29 : decode cX9_rank 29 = .ok (.ireturn, 1) := by decide +kernel
theorem dX9_rank_30 : decode cX9_rank 30 = .ok (.aload_n 0, 1) := by decide +kernel
theorem dX9_rank_31 : decode cX9_rank 31 = .ok (.iload_n 1, 1) := by decide +kernel
theorem dX9_rank_32 : decode cX9_rank 32 = .ok (.invokevirtual 294, 3) := by decide +kernel
theorem dX9_rank_35 : decode cX9_rank 35 = .ok (.aload_n 0, 1) := by decide +kernel
theorem dX9_rank_36 : decode cX9_rank 36 = .ok (.invokevirtual 312, 3) := by decide +kernel
theorem dX9_rank_39 : decode cX9_rank 39 = .ok (.iconst 0, 1) := by decide +kernel
theorem dX9_rank_40 : decode cX9_rank 40 = .ok (.istore_n 3, 1) := by decide +kernel
theorem dX9_rank_41 : decode cX9_rank 41 = .ok (.iconst 0, 1) := by decide +kernel
theorem dX9_rank_42 : decode cX9_rank 42 = .ok (.istore 4, 2) := by decide +kernel
theorem dX9_rank_44 : decode cX9_rank 44 = .ok (.iload 4, 2) := by decide +kernel
theorem dX9_rank_46 : decode cX9_rank 46 = .ok (.aload_n 0, 1) := by decide +kernel
theorem dX9_rank_47 : decode cX9_rank 47 = .ok (.getfield 7, 3) := by decide +kernel
theorem dX9_rank_50 : decode cX9_rank 50 = .ok (.iconst 1, 1) := by decide +kernel
theorem dX9_rank_51 : decode cX9_rank 51 = .ok (.iaload, 1) := by decide +kernel
theorem dX9_rank_52 : decode cX9_rank 52 = .ok (.if_icmp .ge 55, 3) := by decide +kernel
theorem dX9_rank_55 : decode cX9_rank 55 = .ok (.iload_n 3, 1) := by decide +kernel
theorem dX9_rank_56 : decode cX9_rank 56 = .ok (.aload_n 0, 1) := by decide +kernel
theorem dX9_rank_57 : decode cX9_rank 57 = .ok (.getfield 36, 3) := by decide +kernel
theorem dX9_rank_60 : decode cX9_rank 60 = .ok (.iload 4, 2) := by decide +kernel
theorem dX9_rank_62 : decode cX9_rank 62 = .ok (.iaload, 1) := by decide +kernel
theorem dX9_rank_63 : decode cX9_rank 63 = .ok (.aload_n 0, 1) := by decide +kernel
theorem dX9_rank_64 : decode cX9_rank 64 = .ok (.getfield 36, 3) := by decide +kernel
theorem dX9_rank_67 : decode cX9_rank 67 = .ok (.iload_n 2, 1) := by decide +kernel
theorem dX9_rank_68 : decode cX9_rank 68 = .ok (.iaload, 1) := by decide +kernel
theorem dX9_rank_69 : decode cX9_rank 69 = .ok (.if_icmp .gt 25, 3) := by decide +kernel
theorem dX9_rank_72 : decode cX9_rank 72 = .ok (.aload_n 0, 1) := by decide +kernel
theorem dX9_rank_73 : decode cX9_rank 73 = .ok (.getfield 36, 3) := by decide +kernel
theorem dX9_rank_76 : decode cX9_rank 76 = .ok (.iload 4, 2) := by decide +kernel
theorem dX9_rank_78 : decode cX9_rank 78 = .ok (.iaload, 1) := by decide +kernel
theorem dX9_rank_79 : decode cX9_rank 79 = .ok (.aload_n 0, 1) := by decide +kernel
theorem dX9_rank_80 : decode cX9_rank 80 = .ok (.getfield 36, 3) := by decide +kernel
theorem dX9_rank_83 : decode cX9_rank 83 = .ok (.iload_n 2, 1) := by decide +kernel
theorem dX9_rank_84 : decode cX9_rank 84 = .ok (.iaload, 1) := by decide +kernel
theorem dX9_rank_85 : decode cX9_rank 85 = .ok (.if_icmp .ne 13, 3) := by decide +kernel
theorem dX9_rank_88 : decode cX9_rank 88 = .ok (.iload 4, 2) := by decide +kernel
theorem dX9_rank_90 : decode cX9_rank 90 = .ok (.iload_n 2, 1) := by decide +kernel
theorem dX9_rank_91 : decode cX9_rank 91 = .ok (.if_icmp .ge 7, 3) := by decide +kernel
theorem dX9_rank_94 : decode cX9_rank 94 = .ok (.iconst 1, 1) := by decide +kernel
theorem dX9_rank_95 : decode cX9_rank 95 = .ok (.goto 4, 3) := by decide +kernel
theorem dX9_rank_98 : decode cX9_rank 98 = .ok (.iconst 0, 1) := by decide +kernel
theorem dX9_rank_99 : decode cX9_rank 99 = .ok (.iadd, 1) := by decide +kernel
theorem dX9_rank_100 : decode cX9_rank 100 = .ok (.istore_n 3, 1) := by decide +kernel
theorem dX9_rank_101 : decode cX9_rank 101 = .ok (.iinc 4 1, 3) := by decide +kernel
theorem dX9_rank_104 : decode cX9_rank 104 = .ok (.goto (-60), 3) := by decide +kernel
theorem dX9_rank_107 : decode cX9_rank 107 = .ok (.iload_n 3, 1) := by decide +kernel
theorem dX9_rank_108 : decode cX9_rank 108 = .ok (.ireturn, 1) := by decide +kernel
set_option maxRecDepth 20000 in
theorem ggX9_broken_X9_isLeg : GoodIn wsX9_broken wsX9_isLeg := goodIn_r _ [9, 10, 11, 8, 12] (by decide +kernel) (by decide +kernel)
set_option maxRecDepth 20000 in
theorem gX9_broken_X9_isLeg : GoodIn wsX9_broken (va_wsS RX9 182 yX9_isLeg wsX9_isLeg) := goodIn_app (goodIn_of _ (by decide +kernel)) ggX9_broken_X9_isLeg
set_option maxRecDepth 20000 in
theorem ggX9_broken_X9_isPart : GoodIn wsX9_broken wsX9_isPart := goodIn_r _ [16, 17, 10, 11, 8, 12, 122, 123, 124, 125, 126, 127, 128, 129, 130, 131, 132, 133, 134, 135, 136, 137, 138, 139, 140, 141, 142, 143, 144, 145, 146, 147, 148, 149, 150] (by decide +kernel) (by decide +kernel)
set_option maxRecDepth 20000 in
theorem gX9_broken_X9_isPart : GoodIn wsX9_broken (wsV RX9 192 RX9 yX9_isPart wsX9_isPart) := goodIn_app (goodIn_of _ (by decide +kernel)) ggX9_broken_X9_isPart
set_option maxRecDepth 20000 in
theorem ggX9_broken_X9_in : GoodIn wsX9_broken wsX9_in := goodIn_r _ [12] (by decide +kernel) (by decide +kernel)
set_option maxRecDepth 20000 in
theorem gX9_broken_X9_in : GoodIn wsX9_broken (va_wsS RX9 63 yX9_in wsX9_in) := goodIn_app (goodIn_of _ (by decide +kernel)) ggX9_broken_X9_in
set_option maxRecDepth 20000 in
theorem ggX9_broken_X9_ofLeg : GoodIn wsX9_broken wsX9_ofLeg := goodIn_r _ [21, 17, 122, 123, 124, 125, 126, 127, 128, 129, 130, 131, 132, 133, 134, 135, 136, 137, 138, 139, 140, 141, 142, 143, 144, 145, 146, 147, 148, 149, 150] (by decide +kernel) (by decide +kernel)
set_option maxRecDepth 20000 in
theorem gX9_broken_X9_ofLeg : GoodIn wsX9_broken (wsV RX9 185 RX9 yX9_ofLeg wsX9_ofLeg) := goodIn_app (goodIn_of _ (by decide +kernel)) ggX9_broken_X9_ofLeg
set_option maxRecDepth 20000 in
theorem ggX9_broken_X9_laysLeg : GoodIn wsX9_broken wsX9_laysLeg := goodIn_r _ [25, 26, 27, 28, 29, 30, 8, 31, 32, 33, 34, 35, 36, 37, 38, 39, 40, 18, 19, 20, 21, 17, 41, 42, 43, 44, 45, 46, 47, 48, 49, 50, 51, 52, 53, 54, 55, 56, 57, 58, 59, 60, 61, 62, 63, 64, 65, 66, 67, 68, 69, 70, 71, 72, 73, 10, 11, 12, 74, 75, 76, 77, 4, 78, 79, 80, 81, 82, 83, 84, 85, 86, 87, 88, 89, 90, 91, 92, 93, 94, 95, 96, 97, 98, 99, 100, 101, 102, 103, 104, 105, 106, 107, 108, 109, 110, 111, 112, 113, 114, 115, 116, 117, 122, 123, 124, 125, 126, 127, 128, 129, 130, 131, 132, 133, 134, 135, 136, 137, 138, 139, 140, 141, 142, 143, 144, 145, 146, 147, 148, 149, 150] (by decide +kernel) (by decide +kernel)
set_option maxRecDepth 20000 in
theorem gX9_broken_X9_laysLeg : GoodIn wsX9_broken (wsV RX9 294 RX9 yX9_laysLeg wsX9_laysLeg) := goodIn_app (goodIn_of _ (by decide +kernel)) ggX9_broken_X9_laysLeg
set_option maxRecDepth 20000 in
theorem ggX9_broken_X9_of : GoodIn wsX9_broken wsX9_of := goodIn_r _ [66, 17, 122, 123, 124, 125, 126, 127, 128, 129, 130, 131, 132, 133, 134, 135, 136, 137, 138, 139, 140, 141, 142, 143, 144, 145, 146, 147, 148, 149, 150] (by decide +kernel) (by decide +kernel)
set_option maxRecDepth 20000 in
theorem gX9_broken_X9_of : GoodIn wsX9_broken (wsV RX9 195 RX9 yX9_of wsX9_of) := goodIn_app (goodIn_of _ (by decide +kernel)) ggX9_broken_X9_of
set_option maxRecDepth 20000 in
theorem ggX9_broken_X9_alike : GoodIn wsX9_broken wsX9_alike := goodIn_r _ [81, 40, 18, 19, 20, 8, 21, 17, 59, 60, 61, 62, 63, 64, 65, 66, 48, 49, 50, 67, 68, 69, 122, 123, 124, 125, 126, 127, 128, 129, 130, 131, 132, 133, 134, 135, 136, 137, 138, 139, 140, 141, 142, 143, 144, 145, 146, 147, 148, 149, 150] (by decide +kernel) (by decide +kernel)
set_option maxRecDepth 20000 in
theorem gX9_broken_X9_alike : GoodIn wsX9_broken (wsV RX9 256 RX9 yX9_alike wsX9_alike) := goodIn_app (goodIn_of _ (by decide +kernel)) ggX9_broken_X9_alike
set_option maxRecDepth 20000 in
theorem ggX9_broken_X9_matchOf : GoodIn wsX9_broken wsX9_matchOf := goodIn_r _ [121, 4, 104, 105, 106, 8, 107, 63, 64, 65, 66, 17, 122, 123, 124, 125, 126, 127, 128, 129, 130, 131, 132, 133, 134, 135, 136, 137, 138, 139, 140, 141, 142, 143, 144, 145, 146, 147, 148, 149, 150] (by decide +kernel) (by decide +kernel)
set_option maxRecDepth 20000 in
theorem gX9_broken_X9_matchOf : GoodIn wsX9_broken (wsV RX9 301 RX9 yX9_matchOf wsX9_matchOf) := goodIn_app (goodIn_of _ (by decide +kernel)) ggX9_broken_X9_matchOf
theorem dX9_broken_0 : decode cX9_broken 0 = .ok (.aload_n 0, 1) := by decide +kernel
theorem dX9_broken_1 : decode cX9_broken 1 = .ok (.iconst 0, 1) := by decide +kernel
theorem dX9_broken_2 : decode cX9_broken 2 = .ok (.putfield 51, 3) := by decide +kernel
theorem dX9_broken_5 : decode cX9_broken 5 = .ok (.iload_n 1, 1) := by decide +kernel
theorem dX9_broken_6 : decode cX9_broken 6 = .ok (.invokestatic 182, 3) := by decide +kernel
theorem dX9_broken_9 : decode cX9_broken 9 = .ok (.ifCond .eq 30, 3) := by decide +kernel
theorem dX9_broken_12 : decode cX9_broken 12 = .ok (.aload_n 0, 1) := by decide +kernel
theorem dX9_broken_13 : decode cX9_broken 13 = .ok (.iload_n 2, 1) := by decide +kernel
theorem dX9_broken_14 : decode cX9_broken 14 = .ok (.invokevirtual 192, 3) := by decide +kernel
theorem dX9_broken_17 : decode cX9_broken 17 = .ok (.ifCond .eq 22, 3) := by decide +kernel
theorem dX9_broken_20 : decode cX9_broken 20 = .ok (.iload_n 3, 1) := by decide +kernel
theorem dX9_broken_21 : decode cX9_broken 21 = .ok (.iconst 0, 1) := by decide +kernel
theorem dX9_broken_22 : decode cX9_broken 22 = .ok (.iconst 4, 1) := by decide +kernel
theorem dX9_broken_23 : decode cX9_broken 23 = .ok (.invokestatic 63, 3) := by decide +kernel
theorem dX9_broken_26 : decode cX9_broken 26 = .ok (.ifCond .eq 13, 3) := by decide +kernel
theorem dX9_broken_29 : decode cX9_broken 29 = .ok (.aload_n 0, 1) := by decide +kernel
theorem dX9_broken_30 : decode cX9_broken 30 = .ok (.iload_n 1, 1) := by decide +kernel
theorem dX9_broken_31 : decode cX9_broken 31 = .ok (.iconst 3, 1) := by decide +kernel
theorem dX9_broken_32 : decode cX9_broken 32 = .ok (.invokevirtual 185, 3) := by decide +kernel
theorem dX9_broken_35 : decode cX9_broken 35 = .ok (.iconst 2, 1) := by decide +kernel
theorem dX9_broken_36 : decode cX9_broken 36 = .ok (.if_icmp .ge 7, 3) := by decide +kernel
theorem dX9_broken_39 : decode cX9_broken 39 = .ok (.sipush (-1000), 3) := by decide +kernel
theorem dX9_broken_42 : decode cX9_broken 42 = .ok (.ireturn, 1) := by decide +kernel
theorem dX9_broken_43 : decode cX9_broken 43 = .ok (.aload_n 0, 1) := by decide +kernel
theorem dX9_broken_44 : decode cX9_broken 44 = .ok (.iload_n 1, 1) := by decide +kernel
theorem dX9_broken_45 : decode cX9_broken 45 = .ok (.invokevirtual 294, 3) := by decide +kernel
theorem dX9_broken_48 : decode cX9_broken 48 = .ok (.aload_n 0, 1) := by decide +kernel
theorem dX9_broken_49 : decode cX9_broken 49 = .ok (.iload_n 2, 1) := by decide +kernel
theorem dX9_broken_50 : decode cX9_broken 50 = .ok (.iconst 0, 1) := by decide +kernel
theorem dX9_broken_51 : decode cX9_broken 51 = .ok (.invokevirtual 195, 3) := by decide +kernel
theorem dX9_broken_54 : decode cX9_broken 54 = .ok (.istore 4, 2) := by decide +kernel
theorem dX9_broken_56 : decode cX9_broken 56 = .ok (.iconst 0, 1) := by decide +kernel
theorem dX9_broken_57 : decode cX9_broken 57 = .ok (.istore 5, 2) := by decide +kernel
theorem dX9_broken_59 : decode cX9_broken 59 = .ok (.iload 5, 2) := by decide +kernel
theorem dX9_broken_61 : decode cX9_broken 61 = .ok (.iload 4, 2) := by decide +kernel
theorem dX9_broken_63 : decode cX9_broken 63 = .ok (.if_icmp .ge 36, 3) := by decide +kernel
theorem dX9_broken_66 : decode cX9_broken 66 = .ok (.aload_n 0, 1) := by decide +kernel
theorem dX9_broken_67 : decode cX9_broken 67 = .ok (.getfield 39, 3) := by decide +kernel
theorem dX9_broken_70 : decode cX9_broken 70 = .ok (.iload 5, 2) := by decide +kernel
theorem dX9_broken_72 : decode cX9_broken 72 = .ok (.iconst 0, 1) := by decide +kernel
theorem dX9_broken_73 : decode cX9_broken 73 = .ok (.iastore, 1) := by decide +kernel
theorem dX9_broken_74 : decode cX9_broken 74 = .ok (.aload_n 0, 1) := by decide +kernel
theorem dX9_broken_75 : decode cX9_broken 75 = .ok (.getfield 42, 3) := by decide +kernel
theorem dX9_broken_78 : decode cX9_broken 78 = .ok (.iload 5, 2) := by decide +kernel
theorem dX9_broken_80 : decode cX9_broken 80 = .ok (.aload_n 0, 1) := by decide +kernel
theorem dX9_broken_81 : decode cX9_broken 81 = .ok (.getfield 33, 3) := by decide +kernel
theorem dX9_broken_84 : decode cX9_broken 84 = .ok (.bipush 13, 2) := by decide +kernel
theorem dX9_broken_86 : decode cX9_broken 86 = .ok (.iload_n 2, 1) := by decide +kernel
theorem dX9_broken_87 : decode cX9_broken 87 = .ok (.imul, 1) := by decide +kernel
theorem dX9_broken_88 : decode cX9_broken 88 = .ok (.iload 5, 2) := by decide +kernel
theorem dX9_broken_90 : decode cX9_broken 90 = .ok (.iadd, 1) := by decide +kernel
theorem dX9_broken_91 : decode cX9_broken 91 = .ok (.iaload, 1) := by decide +kernel
theorem dX9_broken_92 : decode cX9_broken 92 = .ok (.iastore, 1) := by decide +kernel
theorem dX9_broken_93 : decode cX9_broken 93 = .ok (.iinc 5 1, 3) := by decide +kernel
theorem dX9_broken_96 : decode cX9_broken 96 = .ok (.goto (-37), 3) := by decide +kernel
theorem dX9_broken_99 : decode cX9_broken 99 = .ok (.iconst (-1), 1) := by decide +kernel
theorem dX9_broken_100 : decode cX9_broken 100 = .ok (.istore 5, 2) := by decide +kernel
theorem dX9_broken_102 : decode cX9_broken 102 = .ok (.iconst 0, 1) := by decide +kernel
theorem dX9_broken_103 : decode cX9_broken 103 = .ok (.istore 6, 2) := by decide +kernel
theorem dX9_broken_105 : decode cX9_broken 105 = .ok (.iconst 0, 1) := by decide +kernel
theorem dX9_broken_106 : decode cX9_broken 106 = .ok (.istore 7, 2) := by decide +kernel
theorem dX9_broken_108 : decode cX9_broken 108 = .ok (.ldc 222, 2) := by decide +kernel
theorem dX9_broken_110 : decode cX9_broken 110 = .ok (.istore 8, 2) := by decide +kernel
theorem dX9_broken_112 : decode cX9_broken 112 = .ok (.iconst 1, 1) := by decide +kernel
theorem dX9_broken_113 : decode cX9_broken 113 = .ok (.istore 9, 2) := by decide +kernel
theorem dX9_broken_115 : decode cX9_broken 115 = .ok (.iload 9, 2) := by decide +kernel
theorem dX9_broken_117 : decode cX9_broken 117 = .ok (.aload_n 0, 1) := by decide +kernel
theorem dX9_broken_118 : decode cX9_broken 118 = .ok (.iload_n 1, 1) := by decide +kernel
theorem dX9_broken_119 : decode cX9_broken 119 = .ok (.iconst 3, 1) := by decide +kernel
theorem dX9_broken_120 : decode cX9_broken 120 = .ok (.invokevirtual 185, 3) := by decide +kernel
theorem dX9_broken_123 : decode cX9_broken 123 = .ok (.if_icmp .ge 162, 3) := by decide +kernel
theorem dX9_broken_126 : decode cX9_broken 126 = .ok (.iconst 0, 1) := by decide +kernel
theorem dX9_broken_127 : decode cX9_broken 127 = .ok (.istore 10, 2) := by decide +kernel
theorem dX9_broken_129 : decode cX9_broken 129 = .ok (.iload 10, 2) := by decide +kernel
theorem dX9_broken_131 : decode cX9_broken 131 = .ok (.iload 4, 2) := by decide +kernel
theorem dX9_broken_133 : decode cX9_broken 133 = .ok (.if_icmp .ge 47, 3) := by decide +kernel
theorem dX9_broken_136 : decode cX9_broken 136 = .ok (.aload_n 0, 1) := by decide +kernel
theorem dX9_broken_137 : decode cX9_broken 137 = .ok (.iload_n 1, 1) := by decide +kernel
theorem dX9_broken_138 : decode cX9_broken 138 = .ok (.iload 9, 2) := by decide +kernel
theorem dX9_broken_140 : decode cX9_broken 140 = .ok (.iconst 1, 1) := by decide +kernel
theorem dX9_broken_141 : decode cX9_broken 141 = .ok (.isub, 1) := by decide +kernel
theorem dX9_broken_142 : decode cX9_broken 142 = .ok (.iload_n 2, 1) := by decide +kernel
theorem dX9_broken_143 : decode cX9_broken 143 = .ok (.iload 10, 2) := by decide +kernel
theorem dX9_broken_145 : decode cX9_broken 145 = .ok (.invokevirtual 256, 3) := by decide +kernel
theorem dX9_broken_148 : decode cX9_broken 148 = .ok (.istore 11, 2) := by decide +kernel
theorem dX9_broken_150 : decode cX9_broken 150 = .ok (.aload_n 0, 1) := by decide +kernel
theorem dX9_broken_151 : decode cX9_broken 151 = .ok (.getfield 39, 3) := by decide +kernel
theorem dX9_broken_154 : decode cX9_broken 154 = .ok (.iload 10, 2) := by decide +kernel
theorem dX9_broken_156 : decode cX9_broken 156 = .ok (.dup2, 1) := by decide +kernel
theorem dX9_broken_157 : decode cX9_broken 157 = .ok (.iaload, 1) := by decide +kernel
theorem dX9_broken_158 : decode cX9_broken 158 = .ok (.iload 11, 2) := by decide +kernel
theorem dX9_broken_160 : decode cX9_broken 160 = .ok (.iadd, 1) := by decide +kernel
theorem dX9_broken_161 : decode cX9_broken 161 = .ok (.iastore, 1) := by decide +kernel
theorem dX9_broken_162 : decode cX9_broken 162 = .ok (.aload_n 0, 1) := by decide +kernel
theorem dX9_broken_163 : decode cX9_broken 163 = .ok (.getfield 42, 3) := by decide +kernel
theorem dX9_broken_166 : decode cX9_broken 166 = .ok (.iload 10, 2) := by decide +kernel
theorem dX9_broken_168 : decode cX9_broken 168 = .ok (.dup2, 1) := by decide +kernel
theorem dX9_broken_169 : decode cX9_broken 169 = .ok (.iaload, 1) := by decide +kernel
theorem dX9_broken_170 : decode cX9_broken 170 = .ok (.iload 11, 2) := by decide +kernel
theorem dX9_broken_172 : decode cX9_broken 172 = .ok (.isub, 1) := by decide +kernel
theorem dX9_broken_173 : decode cX9_broken 173 = .ok (.iastore, 1) := by decide +kernel
theorem dX9_broken_174 : decode cX9_broken 174 = .ok (.iinc 10 1, 3) := by decide +kernel
theorem dX9_broken_177 : decode cX9_broken 177 = .ok (.goto (-48), 3) := by decide +kernel
theorem dX9_broken_180 : decode cX9_broken 180 = .ok (.iconst 0, 1) := by decide +kernel
theorem dX9_broken_181 : decode cX9_broken 181 = .ok (.istore 10, 2) := by decide +kernel
theorem dX9_broken_183 : decode cX9_broken 183 = .ok (.iload 10, 2) := by decide +kernel
theorem dX9_broken_185 : decode cX9_broken 185 = .ok (.iload 4, 2) := by decide +kernel
theorem dX9_broken_187 : decode cX9_broken 187 = .ok (.iload 4, 2) := by decide +kernel
theorem dX9_broken_189 : decode cX9_broken 189 = .ok (.imul, 1) := by decide +kernel
theorem dX9_broken_190 : decode cX9_broken 190 = .ok (.if_icmp .ge 89, 3) := by decide +kernel
theorem dX9_broken_193 : decode cX9_broken 193 = .ok (.iload 10, 2) := by decide +kernel
theorem dX9_broken_195 : decode cX9_broken 195 = .ok (.iload 4, 2) := by decide +kernel
theorem dX9_broken_197 : decode cX9_broken 197 = .ok (.idiv, 1) := by decide +kernel
theorem dX9_broken_198 : decode cX9_broken 198 = .ok (.iload 10, 2) := by decide +kernel
theorem dX9_broken_200 : decode cX9_broken 200 = .ok (.iload 4, 2) := by decide +kernel
theorem dX9_broken_202 : decode cX9_broken 202 = .ok (.irem, 1) := by decide +kernel
theorem dX9_broken_203 : decode cX9_broken 203 = .ok (.if_icmp .eq 70, 3) := by decide +kernel
theorem dX9_broken_206 : decode cX9_broken 206 = .ok (.aload_n 0, 1) := by decide +kernel
theorem dX9_broken_207 : decode cX9_broken 207 = .ok (.getfield 39, 3) := by decide +kernel
theorem dX9_broken_210 : decode cX9_broken 210 = .ok (.iload 10, 2) := by decide +kernel
theorem dX9_broken_212 : decode cX9_broken 212 = .ok (.iload 4, 2) := by decide +kernel
theorem dX9_broken_214 : decode cX9_broken 214 = .ok (.idiv, 1) := by decide +kernel
theorem dX9_broken_215 : decode cX9_broken 215 = .ok (.iaload, 1) := by decide +kernel
theorem dX9_broken_216 : decode cX9_broken 216 = .ok (.aload_n 0, 1) := by decide +kernel
theorem dX9_broken_217 : decode cX9_broken 217 = .ok (.getfield 42, 3) := by decide +kernel
theorem dX9_broken_220 : decode cX9_broken 220 = .ok (.iload 10, 2) := by decide +kernel
theorem dX9_broken_222 : decode cX9_broken 222 = .ok (.iload 4, 2) := by decide +kernel
theorem dX9_broken_224 : decode cX9_broken 224 = .ok (.irem, 1) := by decide +kernel
theorem dX9_broken_225 : decode cX9_broken 225 = .ok (.iaload, 1) := by decide +kernel
theorem dX9_broken_226 : decode cX9_broken 226 = .ok (.iadd, 1) := by decide +kernel
theorem dX9_broken_227 : decode cX9_broken 227 = .ok (.iload 8, 2) := by decide +kernel
theorem dX9_broken_229 : decode cX9_broken 229 = .ok (.if_icmp .le 44, 3) := by decide +kernel
theorem dX9_broken_232 : decode cX9_broken 232 = .ok (.aload_n 0, 1) := by decide +kernel
theorem dX9_broken_233 : decode cX9_broken 233 = .ok (.getfield 39, 3) := by decide +kernel
theorem dX9_broken_236 : decode cX9_broken 236 = .ok (.iload 10, 2) := by decide +kernel
theorem dX9_broken_238 : decode cX9_broken 238 = .ok (.iload 4, 2) := by decide +kernel
theorem dX9_broken_240 : decode cX9_broken 240 = .ok (.idiv, 1) := by decide +kernel
theorem dX9_broken_241 : decode cX9_broken 241 = .ok (.iaload, 1) := by decide +kernel
theorem dX9_broken_242 : decode cX9_broken 242 = .ok (.aload_n 0, 1) := by decide +kernel
theorem dX9_broken_243 : decode cX9_broken 243 = .ok (.getfield 42, 3) := by decide +kernel
theorem dX9_broken_246 : decode cX9_broken 246 = .ok (.iload 10, 2) := by decide +kernel
theorem dX9_broken_248 : decode cX9_broken 248 = .ok (.iload 4, 2) := by decide +kernel
theorem dX9_broken_250 : decode cX9_broken 250 = .ok (.irem, 1) := by decide +kernel
theorem dX9_broken_251 : decode cX9_broken 251 = .ok (.iaload, 1) := by decide +kernel
theorem dX9_broken_252 : decode cX9_broken 252 = .ok (.iadd, 1) := by decide +kernel
theorem dX9_broken_253 : decode cX9_broken 253 = .ok (.istore 8, 2) := by decide +kernel
theorem dX9_broken_255 : decode cX9_broken 255 = .ok (.iload 9, 2) := by decide +kernel
theorem dX9_broken_257 : decode cX9_broken 257 = .ok (.istore 5, 2) := by decide +kernel
theorem dX9_broken_259 : decode cX9_broken 259 = .ok (.iload 10, 2) := by decide +kernel
theorem dX9_broken_261 : decode cX9_broken 261 = .ok (.iload 4, 2) := by decide +kernel
theorem dX9_broken_263 : decode cX9_broken 263 = .ok (.idiv, 1) := by decide +kernel
theorem dX9_broken_264 : decode cX9_broken 264 = .ok (.istore 6, 2) := by decide +kernel
theorem dX9_broken_266 : decode cX9_broken 266 = .ok (.iload 10, 2) := by decide +kernel
theorem dX9_broken_268 : decode cX9_broken 268 = .ok (.iload 4, 2) := by decide +kernel
theorem dX9_broken_270 : decode cX9_broken 270 = .ok (.irem, 1) := by decide +kernel
theorem dX9_broken_271 : decode cX9_broken 271 = .ok (.istore 7, 2) := by decide +kernel
theorem dX9_broken_273 : decode cX9_broken 273 = .ok (.iinc 10 1, 3) := by decide +kernel
theorem dX9_broken_276 : decode cX9_broken 276 = .ok (.goto (-93), 3) := by decide +kernel
theorem dX9_broken_279 : decode cX9_broken 279 = .ok (.iinc 9 1, 3) := by decide +kernel
theorem dX9_broken_282 : decode cX9_broken 282 = .ok (.goto (-167), 3) := by decide +kernel
theorem dX9_broken_285 : decode cX9_broken 285 = .ok (.iload_n 3, 1) := by decide +kernel
theorem dX9_broken_286 : decode cX9_broken 286 = .ok (.ifCond .ne 8, 3) := by decide +kernel
theorem dX9_broken_289 : decode cX9_broken 289 = .ok (.iload 5, 2) := by decide +kernel
theorem dX9_broken_291 : decode cX9_broken 291 = .ok (.goto 41, 3) := by decide +kernel
theorem dX9_broken_294 : decode cX9_broken 294 = .ok (.iload_n 3, 1) := by decide +kernel
theorem dX9_broken_295 : decode cX9_broken 295 = .ok (.iconst 1, 1) := by decide +kernel
theorem dX9_broken_296 : decode cX9_broken 296 = .ok (.if_icmp .ne 8, 3) := by decide +kernel
theorem dX9_broken_299 : decode cX9_broken 299 = .ok (.iload 6, 2) := by decide +kernel
theorem dX9_broken_301 : decode cX9_broken 301 = .ok (.goto 31, 3) := by decide +kernel
theorem dX9_broken_304 : decode cX9_broken 304 = .ok (.iload_n 3, 1) := by decide +kernel
theorem dX9_broken_305 : decode cX9_broken 305 = .ok (.iconst 2, 1) := by decide +kernel
theorem dX9_broken_306 : decode cX9_broken 306 = .ok (.if_icmp .ne 8, 3) := by decide +kernel
theorem dX9_broken_309 : decode cX9_broken 309 = .ok (.iload 7, 2) := by decide +kernel
theorem dX9_broken_311 : decode cX9_broken 311 = .ok (.goto 21, 3) := by decide +kernel
theorem dX9_broken_314 : decode cX9_broken 314 = .ok (.iload_n 3, 1) := by decide +kernel
theorem dX9_broken_315 : decode cX9_broken 315 = .ok (.iconst 3, 1) := by decide +kernel
theorem dX9_broken_316 : decode cX9_broken 316 = .ok (.if_icmp .ne 8, 3) := by decide +kernel
theorem dX9_broken_319 : decode cX9_broken 319 = .ok (.iload 8, 2) := by decide +kernel
theorem dX9_broken_321 : decode cX9_broken 321 = .ok (.goto 11, 3) := by decide +kernel
theorem dX9_broken_324 : decode cX9_broken 324 = .ok (.iload 8, 2) := by decide +kernel
theorem dX9_broken_326 : decode cX9_broken 326 = .ok (.aload_n 0, 1) := by decide +kernel
theorem dX9_broken_327 : decode cX9_broken 327 = .ok (.iload_n 2, 1) := by decide +kernel
theorem dX9_broken_328 : decode cX9_broken 328 = .ok (.invokevirtual 301, 3) := by decide +kernel
theorem dX9_broken_331 : decode cX9_broken 331 = .ok (.isub, 1) := by decide +kernel
theorem dX9_broken_332 : decode cX9_broken 332 = .ok (.ireturn, 1) := by decide +kernel
set_option maxRecDepth 20000 in
theorem ggX9_both_X9_behindAt : GoodIn wsX9_both wsX9_behindAt := goodIn_r _ [9, 10, 11, 12, 8, 13, 14, 15, 16, 17, 18, 19, 20, 109, 110, 111, 112, 113, 114, 115, 116, 117, 118, 119, 120, 121, 122, 123, 124, 125, 126, 127, 128, 129, 130, 131, 132, 133, 134, 135, 136, 137] (by decide +kernel) (by decide +kernel)
set_option maxRecDepth 20000 in
theorem gX9_both_X9_behindAt : GoodIn wsX9_both (wsV RX9 244 RX9 yX9_behindAt wsX9_behindAt) := goodIn_app (goodIn_of _ (by decide +kernel)) ggX9_both_X9_behindAt
set_option maxRecDepth 20000 in
theorem ggX9_both_X9_laysLeg : GoodIn wsX9_both wsX9_laysLeg := goodIn_r _ [24, 2, 3, 25, 26, 27, 8, 28, 29, 30, 31, 32, 33, 34, 35, 36, 37, 10, 11, 12, 13, 14, 5, 6, 7, 9, 15, 16, 17, 18, 19, 20, 38, 39, 40, 41, 42, 43, 44, 45, 46, 47, 48, 49, 50, 51, 52, 53, 54, 55, 56, 57, 58, 59, 60, 61, 62, 63, 64, 65, 66, 67, 68, 69, 70, 71, 72, 73, 74, 75, 76, 77, 78, 79, 80, 81, 82, 83, 84, 85, 86, 87, 88, 89, 90, 91, 92, 93, 94, 95, 96, 97, 98, 99, 100, 101, 102, 103, 104, 105, 106, 107, 108, 109, 110, 111, 112, 113, 114, 115, 116, 117, 118, 119, 120, 121, 122, 123, 124, 125, 126, 127, 128, 129, 130, 131, 132, 133, 134, 135, 136, 137] (by decide +kernel) (by decide +kernel)
set_option maxRecDepth 20000 in
theorem gX9_both_X9_laysLeg : GoodIn wsX9_both (wsV RX9 294 RX9 yX9_laysLeg wsX9_laysLeg) := goodIn_app (goodIn_of _ (by decide +kernel)) ggX9_both_X9_laysLeg
theorem dX9_both_0 : decode cX9_both 0 = .ok (.aload_n 0, 1) := by decide +kernel
theorem dX9_both_1 : decode cX9_both 1 = .ok (.iconst 0, 1) := by decide +kernel
theorem dX9_both_2 : decode cX9_both 2 = .ok (.putfield 51, 3) := by decide +kernel
theorem dX9_both_5 : decode cX9_both 5 = .ok (.aload_n 0, 1) := by decide +kernel
theorem dX9_both_6 : decode cX9_both 6 = .ok (.iconst 0, 1) := by decide +kernel
theorem dX9_both_7 : decode cX9_both 7 = .ok (.iconst 0, 1) := by decide +kernel
theorem dX9_both_8 : decode cX9_both 8 = .ok (.invokevirtual 244, 3) := by decide +kernel
theorem dX9_both_11 : decode cX9_both 11 = .ok (.aload_n 0, 1) := by decide +kernel
theorem dX9_both_12 : decode cX9_both 12 = .ok (.iconst 1, 1) := by decide +kernel
theorem dX9_both_13 : decode cX9_both 13 = .ok (.iconst 0, 1) := by decide +kernel
theorem dX9_both_14 : decode cX9_both 14 = .ok (.invokevirtual 244, 3) := by decide +kernel
theorem dX9_both_17 : decode cX9_both 17 = .ok (.iadd, 1) := by decide +kernel
theorem dX9_both_18 : decode cX9_both 18 = .ok (.istore_n 2, 1) := by decide +kernel
theorem dX9_both_19 : decode cX9_both 19 = .ok (.iload_n 1, 1) := by decide +kernel
theorem dX9_both_20 : decode cX9_both 20 = .ok (.iconst 1, 1) := by decide +kernel
theorem dX9_both_21 : decode cX9_both 21 = .ok (.if_icmp .ne 5, 3) := by decide +kernel
theorem dX9_both_24 : decode cX9_both 24 = .ok (.iload_n 2, 1) := by decide +kernel
theorem dX9_both_25 : decode cX9_both 25 = .ok (.ireturn, 1) := by decide +kernel
theorem dX9_both_26 : decode cX9_both 26 = .ok (.aload_n 0, 1) := by decide +kernel
theorem dX9_both_27 : decode cX9_both 27 = .ok (.iconst 1, 1) := by decide +kernel
theorem dX9_both_28 : decode cX9_both 28 = .ok (.invokevirtual 294, 3) := by decide +kernel
theorem dX9_both_31 : decode cX9_both 31 = .ok (.iload_n 1, 1) := by decide +kernel
theorem dX9_both_32 : decode cX9_both 32 = .ok (.ifCond .eq 8, 3) := by decide +kernel
theorem dX9_both_35 : decode cX9_both 35 = .ok (.iload_n 1, 1) := by decide +kernel
theorem dX9_both_36 : decode cX9_both 36 = .ok (.iconst 2, 1) := by decide +kernel
theorem dX9_both_37 : decode cX9_both 37 = .ok (.if_icmp .ne 19, 3) := by decide +kernel
theorem dX9_both_40 : decode cX9_both 40 = .ok (.aload_n 0, 1) := by decide +kernel
theorem dX9_both_41 : decode cX9_both 41 = .ok (.getfield 266, 3) := by decide +kernel
theorem dX9_both_44 : decode cX9_both 44 = .ok (.iconst (-1), 1) := by decide +kernel
theorem dX9_both_45 : decode cX9_both 45 = .ok (.if_icmp .eq 11, 3) := by decide +kernel
theorem dX9_both_48 : decode cX9_both 48 = .ok (.aload_n 0, 1) := by decide +kernel
theorem dX9_both_49 : decode cX9_both 49 = .ok (.getfield 235, 3) := by decide +kernel
theorem dX9_both_52 : decode cX9_both 52 = .ok (.iconst (-1), 1) := by decide +kernel
theorem dX9_both_53 : decode cX9_both 53 = .ok (.if_icmp .ne 6, 3) := by decide +kernel
theorem dX9_both_56 : decode cX9_both 56 = .ok (.ldc 222, 2) := by decide +kernel
theorem dX9_both_58 : decode cX9_both 58 = .ok (.ireturn, 1) := by decide +kernel
theorem dX9_both_59 : decode cX9_both 59 = .ok (.iload_n 1, 1) := by decide +kernel
theorem dX9_both_60 : decode cX9_both 60 = .ok (.ifCond .ne 15, 3) := by decide +kernel
theorem dX9_both_63 : decode cX9_both 63 = .ok (.aload_n 0, 1) := by decide +kernel
theorem dX9_both_64 : decode cX9_both 64 = .ok (.getfield 266, 3) := by decide +kernel
theorem dX9_both_67 : decode cX9_both 67 = .ok (.aload_n 0, 1) := by decide +kernel
theorem dX9_both_68 : decode cX9_both 68 = .ok (.getfield 235, 3) := by decide +kernel
theorem dX9_both_71 : decode cX9_both 71 = .ok (.isub, 1) := by decide +kernel
theorem dX9_both_72 : decode cX9_both 72 = .ok (.goto 9, 3) := by decide +kernel
theorem dX9_both_75 : decode cX9_both 75 = .ok (.aload_n 0, 1) := by decide +kernel
theorem dX9_both_76 : decode cX9_both 76 = .ok (.getfield 266, 3) := by decide +kernel
theorem dX9_both_79 : decode cX9_both 79 = .ok (.iload_n 2, 1) := by decide +kernel
theorem dX9_both_80 : decode cX9_both 80 = .ok (.isub, 1) := by decide +kernel
theorem dX9_both_81 : decode cX9_both 81 = .ok (.ireturn, 1) := by decide +kernel
theorem dX9_upper_0 : decode cX9_upper 0 = .ok (.lconst 0, 1) := by decide +kernel
theorem dX9_upper_1 : decode cX9_upper 1 = .ok (.lstore 4, 2) := by decide +kernel
theorem dX9_upper_3 : decode cX9_upper 3 = .ok (.aload_n 0, 1) := by decide +kernel
theorem dX9_upper_4 : decode cX9_upper 4 = .ok (.lconst 1, 1) := by decide +kernel
theorem dX9_upper_5 : decode cX9_upper 5 = .ok (.putfield 315, 3) := by decide +kernel
theorem dX9_upper_8 : decode cX9_upper 8 = .ok (.iconst 0, 1) := by decide +kernel
theorem dX9_upper_9 : decode cX9_upper 9 = .ok (.istore 6, 2) := by decide +kernel
theorem dX9_upper_11 : decode cX9_upper 11 = .ok (.iload 6, 2) := by decide +kernel
theorem dX9_upper_13 : decode cX9_upper 13 = .ok (.iload_n 1, 1) := by decide +kernel
theorem dX9_upper_14 : decode cX9_upper 14 = .ok (.if_icmp .ge 21, 3) := by decide +kernel
theorem dX9_upper_17 : decode cX9_upper 17 = .ok (.aload_n 0, 1) := by decide +kernel
theorem dX9_upper_18 : decode cX9_upper 18 = .ok (.dup, 1) := by decide +kernel
theorem dX9_upper_19 : decode cX9_upper 19 = .ok (.getfield 315, 3) := by decide +kernel
theorem dX9_upper_22 : decode cX9_upper 22 = .ok (.ldc2_w 318, 3) := by decide +kernel
theorem dX9_upper_25 : decode cX9_upper 25 = .ok (.lmul, 1) := by decide +kernel
theorem dX9_upper_26 : decode cX9_upper 26 = .ok (.putfield 315, 3) := by decide +kernel
theorem dX9_upper_29 : decode cX9_upper 29 = .ok (.iinc 6 1, 3) := by decide +kernel
theorem dX9_upper_32 : decode cX9_upper 32 = .ok (.goto (-21), 3) := by decide +kernel
theorem dX9_upper_35 : decode cX9_upper 35 = .ok (.lconst 1, 1) := by decide +kernel
theorem dX9_upper_36 : decode cX9_upper 36 = .ok (.lstore 6, 2) := by decide +kernel
theorem dX9_upper_38 : decode cX9_upper 38 = .ok (.iconst 0, 1) := by decide +kernel
theorem dX9_upper_39 : decode cX9_upper 39 = .ok (.istore 8, 2) := by decide +kernel
theorem dX9_upper_41 : decode cX9_upper 41 = .ok (.iload 8, 2) := by decide +kernel
theorem dX9_upper_43 : decode cX9_upper 43 = .ok (.iload_n 1, 1) := by decide +kernel
theorem dX9_upper_44 : decode cX9_upper 44 = .ok (.if_icmp .gt 83, 3) := by decide +kernel
theorem dX9_upper_47 : decode cX9_upper 47 = .ok (.lload 6, 2) := by decide +kernel
theorem dX9_upper_49 : decode cX9_upper 49 = .ok (.lstore 9, 2) := by decide +kernel
theorem dX9_upper_51 : decode cX9_upper 51 = .ok (.iconst 0, 1) := by decide +kernel
theorem dX9_upper_52 : decode cX9_upper 52 = .ok (.istore 11, 2) := by decide +kernel
theorem dX9_upper_54 : decode cX9_upper 54 = .ok (.iload 11, 2) := by decide +kernel
theorem dX9_upper_56 : decode cX9_upper 56 = .ok (.iload_n 1, 1) := by decide +kernel
theorem dX9_upper_57 : decode cX9_upper 57 = .ok (.if_icmp .ge 31, 3) := by decide +kernel
theorem dX9_upper_60 : decode cX9_upper 60 = .ok (.lload 9, 2) := by decide +kernel
theorem dX9_upper_62 : decode cX9_upper 62 = .ok (.iload 11, 2) := by decide +kernel
theorem dX9_upper_64 : decode cX9_upper 64 = .ok (.iload 8, 2) := by decide +kernel
theorem dX9_upper_66 : decode cX9_upper 66 = .ok (.if_icmp .ge 8, 3) := by decide +kernel
theorem dX9_upper_69 : decode cX9_upper 69 = .ok (.iload_n 2, 1) := by decide +kernel
theorem dX9_upper_70 : decode cX9_upper 70 = .ok (.i2l, 1) := by decide +kernel
theorem dX9_upper_71 : decode cX9_upper 71 = .ok (.goto 8, 3) := by decide +kernel
theorem dX9_upper_74 : decode cX9_upper 74 = .ok (.bipush 10, 2) := by decide +kernel
theorem dX9_upper_76 : decode cX9_upper 76 = .ok (.iload_n 2, 1) := by decide +kernel
theorem dX9_upper_77 : decode cX9_upper 77 = .ok (.isub, 1) := by decide +kernel
theorem dX9_upper_78 : decode cX9_upper 78 = .ok (.i2l, 1) := by decide +kernel
theorem dX9_upper_79 : decode cX9_upper 79 = .ok (.lmul, 1) := by decide +kernel
theorem dX9_upper_80 : decode cX9_upper 80 = .ok (.lstore 9, 2) := by decide +kernel
theorem dX9_upper_82 : decode cX9_upper 82 = .ok (.iinc 11 1, 3) := by decide +kernel
theorem dX9_upper_85 : decode cX9_upper 85 = .ok (.goto (-31), 3) := by decide +kernel
theorem dX9_upper_88 : decode cX9_upper 88 = .ok (.lload 4, 2) := by decide +kernel
theorem dX9_upper_90 : decode cX9_upper 90 = .ok (.iload 8, 2) := by decide +kernel
theorem dX9_upper_92 : decode cX9_upper 92 = .ok (.iload_n 3, 1) := by decide +kernel
theorem dX9_upper_93 : decode cX9_upper 93 = .ok (.if_icmp .lt 8, 3) := by decide +kernel
theorem dX9_upper_96 : decode cX9_upper 96 = .ok (.lload 9, 2) := by decide +kernel
theorem dX9_upper_98 : decode cX9_upper 98 = .ok (.goto 4, 3) := by decide +kernel
theorem dX9_upper_101 : decode cX9_upper 101 = .ok (.lconst 0, 1) := by decide +kernel
theorem dX9_upper_102 : decode cX9_upper 102 = .ok (.ladd, 1) := by decide +kernel
theorem dX9_upper_103 : decode cX9_upper 103 = .ok (.lstore 4, 2) := by decide +kernel
theorem dX9_upper_105 : decode cX9_upper 105 = .ok (.lload 6, 2) := by decide +kernel
theorem dX9_upper_107 : decode cX9_upper 107 = .ok (.iload_n 1, 1) := by decide +kernel
theorem dX9_upper_108 : decode cX9_upper 108 = .ok (.iload 8, 2) := by decide +kernel
theorem dX9_upper_110 : decode cX9_upper 110 = .ok (.isub, 1) := by decide +kernel
theorem dX9_upper_111 : decode cX9_upper 111 = .ok (.i2l, 1) := by decide +kernel
theorem dX9_upper_112 : decode cX9_upper 112 = .ok (.lmul, 1) := by decide +kernel
theorem dX9_upper_113 : decode cX9_upper 113 = .ok (.iload 8, 2) := by decide +kernel
theorem dX9_upper_115 : decode cX9_upper 115 = .ok (.iconst 1, 1) := by decide +kernel
theorem dX9_upper_116 : decode cX9_upper 116 = .ok (.iadd, 1) := by decide +kernel
theorem dX9_upper_117 : decode cX9_upper 117 = .ok (.i2l, 1) := by decide +kernel
theorem dX9_upper_118 : decode cX9_upper 118 = .ok (.ldiv, 1) := by decide +kernel
theorem dX9_upper_119 : decode cX9_upper 119 = .ok (.lstore 6, 2) := by decide +kernel
theorem dX9_upper_121 : decode cX9_upper 121 = .ok (.iinc 8 1, 3) := by decide +kernel
theorem dX9_upper_124 : decode cX9_upper 124 = .ok (.goto (-83), 3) := by decide +kernel
theorem dX9_upper_127 : decode cX9_upper 127 = .ok (.lload 4, 2) := by decide +kernel
theorem dX9_upper_129 : decode cX9_upper 129 = .ok (.lreturn, 1) := by decide +kernel
set_option maxRecDepth 20000 in
theorem ggX9_chance_X9_in : GoodIn wsX9_chance wsX9_in := goodIn_r _ [7] (by decide +kernel) (by decide +kernel)
set_option maxRecDepth 20000 in
theorem gX9_chance_X9_in : GoodIn wsX9_chance (va_wsS RX9 63 yX9_in wsX9_in) := goodIn_app (goodIn_of _ (by decide +kernel)) ggX9_chance_X9_in
set_option maxRecDepth 20000 in
theorem ggX9_chance_X9_upper : GoodIn wsX9_chance wsX9_upper := goodIn_r _ [11, 3, 12, 16, 17, 18, 19, 20, 21, 22, 23, 24, 25, 26, 27, 28, 29, 30, 31, 32, 33, 34, 35, 36, 37, 38, 39, 40, 41, 42, 43, 44] (by decide +kernel) (by decide +kernel)
set_option maxRecDepth 20000 in
theorem gX9_chance_X9_upper : GoodIn wsX9_chance (wsV RX9 322 RX9 yX9_upper wsX9_upper) := goodIn_app (goodIn_of _ (by decide +kernel)) ggX9_chance_X9_upper
set_option maxRecDepth 20000 in
theorem ggX9_chance_X9_measure : GoodIn wsX9_chance wsX9_measure := goodIn_r _ [15] (by decide +kernel) (by decide +kernel)
set_option maxRecDepth 20000 in
theorem gX9_chance_X9_measure : GoodIn wsX9_chance (va_wsS RX9 59 yX9_measure wsX9_measure) := goodIn_app (goodIn_of _ (by decide +kernel)) ggX9_chance_X9_measure
theorem dX9_chance_0 : decode cX9_chance 0 = .ok (.aload_n 0, 1) := by decide +kernel
theorem dX9_chance_1 : decode cX9_chance 1 = .ok (.iconst 0, 1) := by decide +kernel
theorem dX9_chance_2 : decode cX9_chance 2 = .ok (.putfield 51, 3) := by decide +kernel
theorem dX9_chance_5 : decode cX9_chance 5 = .ok (.iload_n 1, 1) := by decide +kernel
theorem dX9_chance_6 : decode cX9_chance 6 = .ok (.iconst 0, 1) := by decide +kernel
theorem dX9_chance_7 : decode cX9_chance 7 = .ok (.bipush 18, 2) := by decide +kernel
theorem dX9_chance_9 : decode cX9_chance 9 = .ok (.invokestatic 63, 3) := by decide +kernel
theorem dX9_chance_12 : decode cX9_chance 12 = .ok (.ifCond .eq 23, 3) := by decide +kernel
theorem dX9_chance_15 : decode cX9_chance 15 = .ok (.iload_n 2, 1) := by decide +kernel
theorem dX9_chance_16 : decode cX9_chance 16 = .ok (.iconst 0, 1) := by decide +kernel
theorem dX9_chance_17 : decode cX9_chance 17 = .ok (.bipush 10, 2) := by decide +kernel
theorem dX9_chance_19 : decode cX9_chance 19 = .ok (.invokestatic 63, 3) := by decide +kernel
theorem dX9_chance_22 : decode cX9_chance 22 = .ok (.ifCond .eq 13, 3) := by decide +kernel
theorem dX9_chance_25 : decode cX9_chance 25 = .ok (.iload_n 3, 1) := by decide +kernel
theorem dX9_chance_26 : decode cX9_chance 26 = .ok (.iconst 0, 1) := by decide +kernel
theorem dX9_chance_27 : decode cX9_chance 27 = .ok (.bipush 18, 2) := by decide +kernel
theorem dX9_chance_29 : decode cX9_chance 29 = .ok (.invokestatic 63, 3) := by decide +kernel
theorem dX9_chance_32 : decode cX9_chance 32 = .ok (.ifCond .ne 7, 3) := by decide +kernel
theorem dX9_chance_35 : decode cX9_chance 35 = .ok (.ldc2_w 320, 3) := by decide +kernel
theorem dX9_chance_38 : decode cX9_chance 38 = .ok (.lreturn, 1) := by decide +kernel
theorem dX9_chance_39 : decode cX9_chance 39 = .ok (.aload_n 0, 1) := by decide +kernel
theorem dX9_chance_40 : decode cX9_chance 40 = .ok (.iload_n 1, 1) := by decide +kernel
theorem dX9_chance_41 : decode cX9_chance 41 = .ok (.iload_n 2, 1) := by decide +kernel
theorem dX9_chance_42 : decode cX9_chance 42 = .ok (.iload_n 3, 1) := by decide +kernel
theorem dX9_chance_43 : decode cX9_chance 43 = .ok (.invokevirtual 322, 3) := by decide +kernel
theorem dX9_chance_46 : decode cX9_chance 46 = .ok (.lstore 5, 2) := by decide +kernel
theorem dX9_chance_48 : decode cX9_chance 48 = .ok (.lload 5, 2) := by decide +kernel
theorem dX9_chance_50 : decode cX9_chance 50 = .ok (.aload_n 0, 1) := by decide +kernel
theorem dX9_chance_51 : decode cX9_chance 51 = .ok (.getfield 315, 3) := by decide +kernel
theorem dX9_chance_54 : decode cX9_chance 54 = .ok (.invokestatic 59, 3) := by decide +kernel
theorem dX9_chance_57 : decode cX9_chance 57 = .ok (.lstore 7, 2) := by decide +kernel
theorem dX9_chance_59 : decode cX9_chance 59 = .ok (.iload 4, 2) := by decide +kernel
theorem dX9_chance_61 : decode cX9_chance 61 = .ok (.ifCond .eq 10, 3) := by decide +kernel
theorem dX9_chance_64 : decode cX9_chance 64 = .ok (.aload_n 0, 1) := by decide +kernel
theorem dX9_chance_65 : decode cX9_chance 65 = .ok (.getfield 315, 3) := by decide +kernel
theorem dX9_chance_68 : decode cX9_chance 68 = .ok (.goto 5, 3) := by decide +kernel
theorem dX9_chance_71 : decode cX9_chance 71 = .ok (.lload 5, 2) := by decide +kernel
theorem dX9_chance_73 : decode cX9_chance 73 = .ok (.lload 7, 2) := by decide +kernel
theorem dX9_chance_75 : decode cX9_chance 75 = .ok (.ldiv, 1) := by decide +kernel
theorem dX9_chance_76 : decode cX9_chance 76 = .ok (.lreturn, 1) := by decide +kernel
set_option maxRecDepth 20000 in
theorem ggX9_bar_X9_in : GoodIn wsX9_bar wsX9_in := goodIn_r _ [7] (by decide +kernel) (by decide +kernel)
set_option maxRecDepth 20000 in
theorem gX9_bar_X9_in : GoodIn wsX9_bar (va_wsS RX9 63 yX9_in wsX9_in) := goodIn_app (goodIn_of _ (by decide +kernel)) ggX9_bar_X9_in
set_option maxRecDepth 20000 in
theorem ggX9_bar_X9_upper : GoodIn wsX9_bar wsX9_upper := goodIn_r _ [11, 2, 12, 16, 17, 18, 19, 20, 21, 22, 23, 24, 25, 26, 27, 28, 29, 30, 31, 32, 33, 34, 35, 36, 37, 38, 39, 40, 41, 42, 43, 44] (by decide +kernel) (by decide +kernel)
set_option maxRecDepth 20000 in
theorem gX9_bar_X9_upper : GoodIn wsX9_bar (wsV RX9 322 RX9 yX9_upper wsX9_upper) := goodIn_app (goodIn_of _ (by decide +kernel)) ggX9_bar_X9_upper
set_option maxRecDepth 20000 in
theorem ggX9_bar_X9_measure : GoodIn wsX9_bar wsX9_measure := goodIn_r _ [15] (by decide +kernel) (by decide +kernel)
set_option maxRecDepth 20000 in
theorem gX9_bar_X9_measure : GoodIn wsX9_bar (va_wsS RX9 59 yX9_measure wsX9_measure) := goodIn_app (goodIn_of _ (by decide +kernel)) ggX9_bar_X9_measure
theorem dX9_bar_0 : decode cX9_bar 0 = .ok (.aload_n 0, 1) := by decide +kernel
theorem dX9_bar_1 : decode cX9_bar 1 = .ok (.iconst 0, 1) := by decide +kernel
theorem dX9_bar_2 : decode cX9_bar 2 = .ok (.putfield 51, 3) := by decide +kernel
theorem dX9_bar_5 : decode cX9_bar 5 = .ok (.iload_n 1, 1) := by decide +kernel
theorem dX9_bar_6 : decode cX9_bar 6 = .ok (.iconst 1, 1) := by decide +kernel
theorem dX9_bar_7 : decode cX9_bar 7 = .ok (.bipush 18, 2) := by decide +kernel
theorem dX9_bar_9 : decode cX9_bar 9 = .ok (.invokestatic 63, 3) := by decide +kernel
theorem dX9_bar_12 : decode cX9_bar 12 = .ok (.ifCond .eq 14, 3) := by decide +kernel
theorem dX9_bar_15 : decode cX9_bar 15 = .ok (.iload_n 2, 1) := by decide +kernel
theorem dX9_bar_16 : decode cX9_bar 16 = .ok (.iconst 0, 1) := by decide +kernel
theorem dX9_bar_17 : decode cX9_bar 17 = .ok (.sipush 1000, 3) := by decide +kernel
theorem dX9_bar_20 : decode cX9_bar 20 = .ok (.invokestatic 63, 3) := by decide +kernel
theorem dX9_bar_23 : decode cX9_bar 23 = .ok (.ifCond .ne 5, 3) := by decide +kernel
theorem dX9_bar_26 : decode cX9_bar 26 = .ok (.iconst (-1), 1) := by decide +kernel
theorem dX9_bar_27 : decode cX9_bar 27 = .ok (.ireturn, 1) := by decide +kernel
theorem dX9_bar_28 : decode cX9_bar 28 = .ok (.iconst 0, 1) := by decide +kernel
theorem dX9_bar_29 : decode cX9_bar 29 = .ok (.istore_n 3, 1) := by decide +kernel
theorem dX9_bar_30 : decode cX9_bar 30 = .ok (.iload_n 3, 1) := by decide +kernel
theorem dX9_bar_31 : decode cX9_bar 31 = .ok (.iload_n 1, 1) := by decide +kernel
theorem dX9_bar_32 : decode cX9_bar 32 = .ok (.if_icmp .gt 54, 3) := by decide +kernel
theorem dX9_bar_35 : decode cX9_bar 35 = .ok (.aload_n 0, 1) := by decide +kernel
theorem dX9_bar_36 : decode cX9_bar 36 = .ok (.iload_n 1, 1) := by decide +kernel
theorem dX9_bar_37 : decode cX9_bar 37 = .ok (.iconst 5, 1) := by decide +kernel
theorem dX9_bar_38 : decode cX9_bar 38 = .ok (.iload_n 3, 1) := by decide +kernel
theorem dX9_bar_39 : decode cX9_bar 39 = .ok (.invokevirtual 322, 3) := by decide +kernel
theorem dX9_bar_42 : decode cX9_bar 42 = .ok (.lstore 4, 2) := by decide +kernel
theorem dX9_bar_44 : decode cX9_bar 44 = .ok (.lload 4, 2) := by decide +kernel
theorem dX9_bar_46 : decode cX9_bar 46 = .ok (.aload_n 0, 1) := by decide +kernel
theorem dX9_bar_47 : decode cX9_bar 47 = .ok (.getfield 315, 3) := by decide +kernel
theorem dX9_bar_50 : decode cX9_bar 50 = .ok (.invokestatic 59, 3) := by decide +kernel
theorem dX9_bar_53 : decode cX9_bar 53 = .ok (.lstore 6, 2) := by decide +kernel
theorem dX9_bar_55 : decode cX9_bar 55 = .ok (.lload 4, 2) := by decide +kernel
theorem dX9_bar_57 : decode cX9_bar 57 = .ok (.lload 6, 2) := by decide +kernel
theorem dX9_bar_59 : decode cX9_bar 59 = .ok (.ldiv, 1) := by decide +kernel
theorem dX9_bar_60 : decode cX9_bar 60 = .ok (.ldc2_w 326, 3) := by decide +kernel
theorem dX9_bar_63 : decode cX9_bar 63 = .ok (.lmul, 1) := by decide +kernel
theorem dX9_bar_64 : decode cX9_bar 64 = .ok (.iload_n 2, 1) := by decide +kernel
theorem dX9_bar_65 : decode cX9_bar 65 = .ok (.i2l, 1) := by decide +kernel
theorem dX9_bar_66 : decode cX9_bar 66 = .ok (.aload_n 0, 1) := by decide +kernel
theorem dX9_bar_67 : decode cX9_bar 67 = .ok (.getfield 315, 3) := by decide +kernel
theorem dX9_bar_70 : decode cX9_bar 70 = .ok (.lload 6, 2) := by decide +kernel
theorem dX9_bar_72 : decode cX9_bar 72 = .ok (.ldiv, 1) := by decide +kernel
theorem dX9_bar_73 : decode cX9_bar 73 = .ok (.lmul, 1) := by decide +kernel
theorem dX9_bar_74 : decode cX9_bar 74 = .ok (.lcmp, 1) := by decide +kernel
theorem dX9_bar_75 : decode cX9_bar 75 = .ok (.ifCond .gt 5, 3) := by decide +kernel
theorem dX9_bar_78 : decode cX9_bar 78 = .ok (.iload_n 3, 1) := by decide +kernel
theorem dX9_bar_79 : decode cX9_bar 79 = .ok (.ireturn, 1) := by decide +kernel
theorem dX9_bar_80 : decode cX9_bar 80 = .ok (.iinc 3 1, 3) := by decide +kernel
theorem dX9_bar_83 : decode cX9_bar 83 = .ok (.goto (-53), 3) := by decide +kernel
theorem dX9_bar_86 : decode cX9_bar 86 = .ok (.iload_n 1, 1) := by decide +kernel
theorem dX9_bar_87 : decode cX9_bar 87 = .ok (.iconst 1, 1) := by decide +kernel
theorem dX9_bar_88 : decode cX9_bar 88 = .ok (.iadd, 1) := by decide +kernel
theorem dX9_bar_89 : decode cX9_bar 89 = .ok (.ireturn, 1) := by decide +kernel
set_option maxRecDepth 20000 in
theorem ggX9_metres_X9_isLeg : GoodIn wsX9_metres wsX9_isLeg := goodIn_r _ [7, 8, 9, 6, 10] (by decide +kernel) (by decide +kernel)
set_option maxRecDepth 20000 in
theorem gX9_metres_X9_isLeg : GoodIn wsX9_metres (va_wsS RX9 182 yX9_isLeg wsX9_isLeg) := goodIn_app (goodIn_of _ (by decide +kernel)) ggX9_metres_X9_isLeg
set_option maxRecDepth 20000 in
theorem ggX9_metres_X9_laysLeg : GoodIn wsX9_metres wsX9_laysLeg := goodIn_r _ [14, 2, 15, 16, 17, 18, 6, 19, 20, 21, 22, 23, 24, 25, 26, 27, 28, 29, 30, 31, 32, 33, 34, 35, 36, 37, 38, 39, 40, 41, 42, 43, 44, 45, 46, 47, 48, 49, 50, 51, 52, 53, 54, 55, 56, 57, 58, 59, 60, 61, 62, 63, 64, 65, 66, 8, 9, 10, 67, 68, 69, 70, 71, 72, 73, 74, 75, 76, 77, 78, 79, 80, 81, 82, 83, 84, 85, 86, 87, 88, 89, 90, 91, 92, 93, 94, 95, 96, 97, 98, 99, 100, 101, 102, 103, 104, 105, 106, 107, 108, 109, 110, 111, 112, 113, 114, 115, 116, 117, 118, 119, 120, 121, 122, 123, 124, 125, 126, 127, 128, 129, 130, 131, 132, 133, 134, 135, 136, 137, 138, 139, 140] (by decide +kernel) (by decide +kernel)
set_option maxRecDepth 20000 in
theorem gX9_metres_X9_laysLeg : GoodIn wsX9_metres (wsV RX9 294 RX9 yX9_laysLeg wsX9_laysLeg) := goodIn_app (goodIn_of _ (by decide +kernel)) ggX9_metres_X9_laysLeg
theorem dX9_metres_0 : decode cX9_metres 0 = .ok (.aload_n 0, 1) := by decide +kernel
theorem dX9_metres_1 : decode cX9_metres 1 = .ok (.iconst 0, 1) := by decide +kernel
theorem dX9_metres_2 : decode cX9_metres 2 = .ok (.putfield 51, 3) := by decide +kernel
theorem dX9_metres_5 : decode cX9_metres 5 = .ok (.iload_n 1, 1) := by decide +kernel
theorem dX9_metres_6 : decode cX9_metres 6 = .ok (.invokestatic 182, 3) := by decide +kernel
theorem dX9_metres_9 : decode cX9_metres 9 = .ok (.ifCond .eq 8, 3) := by decide +kernel
theorem dX9_metres_12 : decode cX9_metres 12 = .ok (.aload_n 0, 1) := by decide +kernel
theorem dX9_metres_13 : decode cX9_metres 13 = .ok (.iload_n 1, 1) := by decide +kernel
theorem dX9_metres_14 : decode cX9_metres 14 = .ok (.invokevirtual 294, 3) := by decide +kernel
theorem dX9_metres_17 : decode cX9_metres 17 = .ok (.iload_n 1, 1) := by decide +kernel
theorem dX9_metres_18 : decode cX9_metres 18 = .ok (.invokestatic 182, 3) := by decide +kernel
theorem dX9_metres_21 : decode cX9_metres 21 = .ok (.ifCond .eq 11, 3) := by decide +kernel
theorem dX9_metres_24 : decode cX9_metres 24 = .ok (.aload_n 0, 1) := by decide +kernel
theorem dX9_metres_25 : decode cX9_metres 25 = .ok (.getfield 266, 3) := by decide +kernel
theorem dX9_metres_28 : decode cX9_metres 28 = .ok (.iconst (-1), 1) := by decide +kernel
theorem dX9_metres_29 : decode cX9_metres 29 = .ok (.if_icmp .ne 7, 3) := by decide +kernel
theorem dX9_metres_32 : decode cX9_metres 32 = .ok (.ldc2_w 328, 3) := by decide +kernel
theorem dX9_metres_35 : decode cX9_metres 35 = .ok (.lreturn, 1) := by decide +kernel
theorem dX9_metres_36 : decode cX9_metres 36 = .ok (.aload_n 0, 1) := by decide +kernel
theorem dX9_metres_37 : decode cX9_metres 37 = .ok (.getfield 266, 3) := by decide +kernel
theorem dX9_metres_40 : decode cX9_metres 40 = .ok (.i2l, 1) := by decide +kernel
theorem dX9_metres_41 : decode cX9_metres 41 = .ok (.lload_n 2, 1) := by decide +kernel
theorem dX9_metres_42 : decode cX9_metres 42 = .ok (.lmul, 1) := by decide +kernel
theorem dX9_metres_43 : decode cX9_metres 43 = .ok (.lstore 4, 2) := by decide +kernel
theorem dX9_metres_45 : decode cX9_metres 45 = .ok (.aload_n 0, 1) := by decide +kernel
theorem dX9_metres_46 : decode cX9_metres 46 = .ok (.getfield 266, 3) := by decide +kernel
theorem dX9_metres_49 : decode cX9_metres 49 = .ok (.ifCond .eq 16, 3) := by decide +kernel
theorem dX9_metres_52 : decode cX9_metres 52 = .ok (.lload 4, 2) := by decide +kernel
theorem dX9_metres_54 : decode cX9_metres 54 = .ok (.aload_n 0, 1) := by decide +kernel
theorem dX9_metres_55 : decode cX9_metres 55 = .ok (.getfield 266, 3) := by decide +kernel
theorem dX9_metres_58 : decode cX9_metres 58 = .ok (.i2l, 1) := by decide +kernel
theorem dX9_metres_59 : decode cX9_metres 59 = .ok (.ldiv, 1) := by decide +kernel
theorem dX9_metres_60 : decode cX9_metres 60 = .ok (.lload_n 2, 1) := by decide +kernel
theorem dX9_metres_61 : decode cX9_metres 61 = .ok (.lcmp, 1) := by decide +kernel
theorem dX9_metres_62 : decode cX9_metres 62 = .ok (.ifCond .ne 7, 3) := by decide +kernel
theorem dX9_metres_65 : decode cX9_metres 65 = .ok (.iconst 1, 1) := by decide +kernel
theorem dX9_metres_66 : decode cX9_metres 66 = .ok (.goto 4, 3) := by decide +kernel
theorem dX9_metres_69 : decode cX9_metres 69 = .ok (.iconst 0, 1) := by decide +kernel
theorem dX9_metres_70 : decode cX9_metres 70 = .ok (.istore 6, 2) := by decide +kernel
theorem dX9_metres_72 : decode cX9_metres 72 = .ok (.iload 6, 2) := by decide +kernel
theorem dX9_metres_74 : decode cX9_metres 74 = .ok (.ifCond .eq 8, 3) := by decide +kernel
theorem dX9_metres_77 : decode cX9_metres 77 = .ok (.lload 4, 2) := by decide +kernel
theorem dX9_metres_79 : decode cX9_metres 79 = .ok (.goto 6, 3) := by decide +kernel
theorem dX9_metres_82 : decode cX9_metres 82 = .ok (.ldc2_w 328, 3) := by decide +kernel
theorem dX9_metres_85 : decode cX9_metres 85 = .ok (.lreturn, 1) := by decide +kernel
set_option maxRecDepth 20000 in
theorem ggX9_longer_X9_isLeg : GoodIn wsX9_longer wsX9_isLeg := goodIn_r _ [5, 6, 7, 4, 8] (by decide +kernel) (by decide +kernel)
set_option maxRecDepth 20000 in
theorem gX9_longer_X9_isLeg : GoodIn wsX9_longer (va_wsS RX9 182 yX9_isLeg wsX9_isLeg) := goodIn_app (goodIn_of _ (by decide +kernel)) ggX9_longer_X9_isLeg
set_option maxRecDepth 20000 in
theorem ggX9_longer_X9_in : GoodIn wsX9_longer wsX9_in := goodIn_r _ [8] (by decide +kernel) (by decide +kernel)
set_option maxRecDepth 20000 in
theorem gX9_longer_X9_in : GoodIn wsX9_longer (va_wsS RX9 63 yX9_in wsX9_in) := goodIn_app (goodIn_of _ (by decide +kernel)) ggX9_longer_X9_in
set_option maxRecDepth 20000 in
theorem ggX9_longer_X9_ofLeg : GoodIn wsX9_longer wsX9_ofLeg := goodIn_r _ [12, 13, 123, 124, 125, 126, 127, 128, 129, 130, 131, 132, 133, 134, 135, 136, 137, 138, 139, 140, 141, 142, 143, 144, 145, 146, 147, 148, 149, 150, 151] (by decide +kernel) (by decide +kernel)
set_option maxRecDepth 20000 in
theorem gX9_longer_X9_ofLeg : GoodIn wsX9_longer (wsV RX9 185 RX9 yX9_ofLeg wsX9_ofLeg) := goodIn_app (goodIn_of _ (by decide +kernel)) ggX9_longer_X9_ofLeg
set_option maxRecDepth 20000 in
theorem ggX9_longer_X9_layLeg : GoodIn wsX9_longer wsX9_layLeg := goodIn_r _ [17, 13, 123, 124, 125, 126, 127, 128, 129, 130, 131, 132, 133, 134, 135, 136, 137, 138, 139, 140, 141, 142, 143, 144, 145, 146, 147, 148, 149, 150, 151] (by decide +kernel) (by decide +kernel)
set_option maxRecDepth 20000 in
theorem gX9_longer_X9_layLeg : GoodIn wsX9_longer (wsV RX9 188 RX9 yX9_layLeg wsX9_layLeg) := goodIn_app (goodIn_of _ (by decide +kernel)) ggX9_longer_X9_layLeg
set_option maxRecDepth 20000 in
theorem ggX9_longer_X9_laysLeg : GoodIn wsX9_longer wsX9_laysLeg := goodIn_r _ [21, 22, 23, 24, 25, 26, 4, 27, 28, 29, 30, 31, 32, 33, 34, 35, 36, 9, 10, 11, 12, 13, 37, 38, 39, 40, 41, 42, 43, 44, 45, 46, 47, 48, 49, 50, 51, 52, 53, 54, 55, 56, 57, 58, 59, 60, 61, 62, 63, 64, 65, 66, 67, 68, 69, 6, 7, 8, 70, 71, 72, 73, 74, 75, 76, 77, 78, 79, 80, 81, 82, 83, 84, 85, 86, 87, 88, 89, 90, 91, 92, 93, 94, 95, 96, 97, 98, 99, 100, 101, 102, 103, 104, 105, 106, 107, 108, 109, 110, 111, 112, 113, 114, 123, 124, 125, 126, 127, 128, 129, 130, 131, 132, 133, 134, 135, 136, 137, 138, 139, 140, 141, 142, 143, 144, 145, 146, 147, 148, 149, 150, 151] (by decide +kernel) (by decide +kernel)
set_option maxRecDepth 20000 in
theorem gX9_longer_X9_laysLeg : GoodIn wsX9_longer (wsV RX9 294 RX9 yX9_laysLeg wsX9_laysLeg) := goodIn_app (goodIn_of _ (by decide +kernel)) ggX9_longer_X9_laysLeg
set_option maxRecDepth 20000 in
theorem ggX9_longer_X9_told : GoodIn wsX9_longer wsX9_told := goodIn_r _ [118, 85, 83, 22, 84, 119, 120, 121, 4, 122, 13, 123, 124, 125, 126, 127, 128, 129, 130, 131, 132, 133, 134, 135, 136, 137, 138, 139, 140, 141, 142, 143, 144, 145, 146, 147, 148, 149, 150, 151] (by decide +kernel) (by decide +kernel)
set_option maxRecDepth 20000 in
theorem gX9_longer_X9_told : GoodIn wsX9_longer (wsV RX9 310 RX9 yX9_told wsX9_told) := goodIn_app (goodIn_of _ (by decide +kernel)) ggX9_longer_X9_told
theorem dX9_longer_0 : decode cX9_longer 0 = .ok (.aload_n 0, 1) := by decide +kernel
theorem dX9_longer_1 : decode cX9_longer 1 = .ok (.iconst 0, 1) := by decide +kernel
theorem dX9_longer_2 : decode cX9_longer 2 = .ok (.putfield 51, 3) := by decide +kernel
theorem dX9_longer_5 : decode cX9_longer 5 = .ok (.iload_n 1, 1) := by decide +kernel
theorem dX9_longer_6 : decode cX9_longer 6 = .ok (.invokestatic 182, 3) := by decide +kernel
theorem dX9_longer_9 : decode cX9_longer 9 = .ok (.ifCond .eq 23, 3) := by decide +kernel
theorem dX9_longer_12 : decode cX9_longer 12 = .ok (.iload_n 2, 1) := by decide +kernel
theorem dX9_longer_13 : decode cX9_longer 13 = .ok (.iconst 1, 1) := by decide +kernel
theorem dX9_longer_14 : decode cX9_longer 14 = .ok (.sipush 200, 3) := by decide +kernel
theorem dX9_longer_17 : decode cX9_longer 17 = .ok (.invokestatic 63, 3) := by decide +kernel
theorem dX9_longer_20 : decode cX9_longer 20 = .ok (.ifCond .eq 12, 3) := by decide +kernel
theorem dX9_longer_23 : decode cX9_longer 23 = .ok (.iload_n 3, 1) := by decide +kernel
theorem dX9_longer_24 : decode cX9_longer 24 = .ok (.iconst 0, 1) := by decide +kernel
theorem dX9_longer_25 : decode cX9_longer 25 = .ok (.iconst 5, 1) := by decide +kernel
theorem dX9_longer_26 : decode cX9_longer 26 = .ok (.invokestatic 63, 3) := by decide +kernel
theorem dX9_longer_29 : decode cX9_longer 29 = .ok (.ifCond .ne 5, 3) := by decide +kernel
theorem dX9_longer_32 : decode cX9_longer 32 = .ok (.iconst (-1), 1) := by decide +kernel
theorem dX9_longer_33 : decode cX9_longer 33 = .ok (.ireturn, 1) := by decide +kernel
theorem dX9_longer_34 : decode cX9_longer 34 = .ok (.aload_n 0, 1) := by decide +kernel
theorem dX9_longer_35 : decode cX9_longer 35 = .ok (.iload_n 1, 1) := by decide +kernel
theorem dX9_longer_36 : decode cX9_longer 36 = .ok (.iconst 3, 1) := by decide +kernel
theorem dX9_longer_37 : decode cX9_longer 37 = .ok (.invokevirtual 185, 3) := by decide +kernel
theorem dX9_longer_40 : decode cX9_longer 40 = .ok (.istore 4, 2) := by decide +kernel
theorem dX9_longer_42 : decode cX9_longer 42 = .ok (.aload_n 0, 1) := by decide +kernel
theorem dX9_longer_43 : decode cX9_longer 43 = .ok (.iload_n 1, 1) := by decide +kernel
theorem dX9_longer_44 : decode cX9_longer 44 = .ok (.iconst 3, 1) := by decide +kernel
theorem dX9_longer_45 : decode cX9_longer 45 = .ok (.iload_n 2, 1) := by decide +kernel
theorem dX9_longer_46 : decode cX9_longer 46 = .ok (.invokevirtual 188, 3) := by decide +kernel
theorem dX9_longer_49 : decode cX9_longer 49 = .ok (.aload_n 0, 1) := by decide +kernel
theorem dX9_longer_50 : decode cX9_longer 50 = .ok (.iload_n 1, 1) := by decide +kernel
theorem dX9_longer_51 : decode cX9_longer 51 = .ok (.invokevirtual 294, 3) := by decide +kernel
theorem dX9_longer_54 : decode cX9_longer 54 = .ok (.aload_n 0, 1) := by decide +kernel
theorem dX9_longer_55 : decode cX9_longer 55 = .ok (.iload_n 1, 1) := by decide +kernel
theorem dX9_longer_56 : decode cX9_longer 56 = .ok (.iconst 3, 1) := by decide +kernel
theorem dX9_longer_57 : decode cX9_longer 57 = .ok (.iload 4, 2) := by decide +kernel
theorem dX9_longer_59 : decode cX9_longer 59 = .ok (.invokevirtual 188, 3) := by decide +kernel
theorem dX9_longer_62 : decode cX9_longer 62 = .ok (.aload_n 0, 1) := by decide +kernel
theorem dX9_longer_63 : decode cX9_longer 63 = .ok (.iload_n 3, 1) := by decide +kernel
theorem dX9_longer_64 : decode cX9_longer 64 = .ok (.invokevirtual 310, 3) := by decide +kernel
theorem dX9_longer_67 : decode cX9_longer 67 = .ok (.ireturn, 1) := by decide +kernel
set_option maxRecDepth 20000 in
theorem ggX9_needs_X9_isLeg : GoodIn wsX9_needs wsX9_isLeg := goodIn_r _ [7, 8, 9, 6, 10] (by decide +kernel) (by decide +kernel)
set_option maxRecDepth 20000 in
theorem gX9_needs_X9_isLeg : GoodIn wsX9_needs (va_wsS RX9 182 yX9_isLeg wsX9_isLeg) := goodIn_app (goodIn_of _ (by decide +kernel)) ggX9_needs_X9_isLeg
set_option maxRecDepth 20000 in
theorem ggX9_needs_X9_in : GoodIn wsX9_needs wsX9_in := goodIn_r _ [10] (by decide +kernel) (by decide +kernel)
set_option maxRecDepth 20000 in
theorem gX9_needs_X9_in : GoodIn wsX9_needs (va_wsS RX9 63 yX9_in wsX9_in) := goodIn_app (goodIn_of _ (by decide +kernel)) ggX9_needs_X9_in
set_option maxRecDepth 20000 in
theorem ggX9_needs_X9_ofLeg : GoodIn wsX9_needs wsX9_ofLeg := goodIn_r _ [14, 15, 115, 116, 117, 118, 119, 120, 121, 122, 123, 124, 125, 126, 127, 128, 129, 130, 131, 132, 133, 134, 135, 136, 137, 138, 139, 140, 141, 142, 143] (by decide +kernel) (by decide +kernel)
set_option maxRecDepth 20000 in
theorem gX9_needs_X9_ofLeg : GoodIn wsX9_needs (wsV RX9 185 RX9 yX9_ofLeg wsX9_ofLeg) := goodIn_app (goodIn_of _ (by decide +kernel)) ggX9_needs_X9_ofLeg
set_option maxRecDepth 20000 in
theorem ggX9_needs_X9_layLeg : GoodIn wsX9_needs wsX9_layLeg := goodIn_r _ [19, 15, 115, 116, 117, 118, 119, 120, 121, 122, 123, 124, 125, 126, 127, 128, 129, 130, 131, 132, 133, 134, 135, 136, 137, 138, 139, 140, 141, 142, 143] (by decide +kernel) (by decide +kernel)
set_option maxRecDepth 20000 in
theorem gX9_needs_X9_layLeg : GoodIn wsX9_needs (wsV RX9 188 RX9 yX9_layLeg wsX9_layLeg) := goodIn_app (goodIn_of _ (by decide +kernel)) ggX9_needs_X9_layLeg
set_option maxRecDepth 20000 in
theorem ggX9_needs_X9_laysLeg : GoodIn wsX9_needs wsX9_laysLeg := goodIn_r _ [23, 2, 24, 25, 26, 27, 6, 28, 29, 30, 31, 32, 33, 34, 35, 36, 37, 11, 12, 13, 14, 15, 38, 39, 40, 41, 42, 43, 44, 45, 46, 47, 48, 49, 50, 51, 52, 53, 54, 55, 56, 57, 58, 59, 60, 61, 62, 63, 64, 65, 66, 67, 68, 69, 70, 8, 9, 10, 71, 72, 73, 74, 75, 76, 77, 78, 79, 80, 81, 82, 83, 3, 84, 85, 86, 87, 88, 89, 90, 91, 92, 93, 94, 95, 96, 97, 98, 99, 100, 101, 102, 103, 104, 105, 106, 107, 108, 109, 110, 111, 112, 113, 114, 115, 116, 117, 118, 119, 120, 121, 122, 123, 124, 125, 126, 127, 128, 129, 130, 131, 132, 133, 134, 135, 136, 137, 138, 139, 140, 141, 142, 143] (by decide +kernel) (by decide +kernel)
set_option maxRecDepth 20000 in
theorem gX9_needs_X9_laysLeg : GoodIn wsX9_needs (wsV RX9 294 RX9 yX9_laysLeg wsX9_laysLeg) := goodIn_app (goodIn_of _ (by decide +kernel)) ggX9_needs_X9_laysLeg
theorem dX9_needs_0 : decode cX9_needs 0 = .ok (.aload_n 0, 1) := by decide +kernel
theorem dX9_needs_1 : decode cX9_needs 1 = .ok (.iconst 0, 1) := by decide +kernel
theorem dX9_needs_2 : decode cX9_needs 2 = .ok (.putfield 51, 3) := by decide +kernel
theorem dX9_needs_5 : decode cX9_needs 5 = .ok (.iload_n 1, 1) := by decide +kernel
theorem dX9_needs_6 : decode cX9_needs 6 = .ok (.invokestatic 182, 3) := by decide +kernel
theorem dX9_needs_9 : decode cX9_needs 9 = .ok (.ifCond .eq 14, 3) := by decide +kernel
theorem dX9_needs_12 : decode cX9_needs 12 = .ok (.iload_n 2, 1) := by decide +kernel
theorem dX9_needs_13 : decode cX9_needs 13 = .ok (.iconst 0, 1) := by decide +kernel
theorem dX9_needs_14 : decode cX9_needs 14 = .ok (.sipush 9999, 3) := by decide +kernel
theorem dX9_needs_17 : decode cX9_needs 17 = .ok (.invokestatic 63, 3) := by decide +kernel
theorem dX9_needs_20 : decode cX9_needs 20 = .ok (.ifCond .ne 5, 3) := by decide +kernel
theorem dX9_needs_23 : decode cX9_needs 23 = .ok (.iconst (-1), 1) := by decide +kernel
theorem dX9_needs_24 : decode cX9_needs 24 = .ok (.ireturn, 1) := by decide +kernel
theorem dX9_needs_25 : decode cX9_needs 25 = .ok (.aload_n 0, 1) := by decide +kernel
theorem dX9_needs_26 : decode cX9_needs 26 = .ok (.iload_n 1, 1) := by decide +kernel
theorem dX9_needs_27 : decode cX9_needs 27 = .ok (.iconst 3, 1) := by decide +kernel
theorem dX9_needs_28 : decode cX9_needs 28 = .ok (.invokevirtual 185, 3) := by decide +kernel
theorem dX9_needs_31 : decode cX9_needs 31 = .ok (.istore_n 3, 1) := by decide +kernel
theorem dX9_needs_32 : decode cX9_needs 32 = .ok (.iconst (-1), 1) := by decide +kernel
theorem dX9_needs_33 : decode cX9_needs 33 = .ok (.istore 4, 2) := by decide +kernel
theorem dX9_needs_35 : decode cX9_needs 35 = .ok (.iconst 1, 1) := by decide +kernel
theorem dX9_needs_36 : decode cX9_needs 36 = .ok (.istore 5, 2) := by decide +kernel
theorem dX9_needs_38 : decode cX9_needs 38 = .ok (.iload 5, 2) := by decide +kernel
theorem dX9_needs_40 : decode cX9_needs 40 = .ok (.sipush 200, 3) := by decide +kernel
theorem dX9_needs_43 : decode cX9_needs 43 = .ok (.if_icmp .gt 51, 3) := by decide +kernel
theorem dX9_needs_46 : decode cX9_needs 46 = .ok (.iload 4, 2) := by decide +kernel
theorem dX9_needs_48 : decode cX9_needs 48 = .ok (.iconst (-1), 1) := by decide +kernel
theorem dX9_needs_49 : decode cX9_needs 49 = .ok (.if_icmp .ne 45, 3) := by decide +kernel
theorem dX9_needs_52 : decode cX9_needs 52 = .ok (.aload_n 0, 1) := by decide +kernel
theorem dX9_needs_53 : decode cX9_needs 53 = .ok (.iload_n 1, 1) := by decide +kernel
theorem dX9_needs_54 : decode cX9_needs 54 = .ok (.iconst 3, 1) := by decide +kernel
theorem dX9_needs_55 : decode cX9_needs 55 = .ok (.iload 5, 2) := by decide +kernel
theorem dX9_needs_57 : decode cX9_needs 57 = .ok (.invokevirtual 188, 3) := by decide +kernel
theorem dX9_needs_60 : decode cX9_needs 60 = .ok (.aload_n 0, 1) := by decide +kernel
theorem dX9_needs_61 : decode cX9_needs 61 = .ok (.iload_n 1, 1) := by decide +kernel
theorem dX9_needs_62 : decode cX9_needs 62 = .ok (.invokevirtual 294, 3) := by decide +kernel
theorem dX9_needs_65 : decode cX9_needs 65 = .ok (.aload_n 0, 1) := by decide +kernel
theorem dX9_needs_66 : decode cX9_needs 66 = .ok (.getfield 266, 3) := by decide +kernel
theorem dX9_needs_69 : decode cX9_needs 69 = .ok (.iload_n 2, 1) := by decide +kernel
theorem dX9_needs_70 : decode cX9_needs 70 = .ok (.if_icmp .ne 15, 3) := by decide +kernel
theorem dX9_needs_73 : decode cX9_needs 73 = .ok (.aload_n 0, 1) := by decide +kernel
theorem dX9_needs_74 : decode cX9_needs 74 = .ok (.getfield 269, 3) := by decide +kernel
theorem dX9_needs_77 : decode cX9_needs 77 = .ok (.ifCond .ne 8, 3) := by decide +kernel
theorem dX9_needs_80 : decode cX9_needs 80 = .ok (.iload 5, 2) := by decide +kernel
theorem dX9_needs_82 : decode cX9_needs 82 = .ok (.goto 4, 3) := by decide +kernel
theorem dX9_needs_85 : decode cX9_needs 85 = .ok (.iconst (-1), 1) := by decide +kernel
theorem dX9_needs_86 : decode cX9_needs 86 = .ok (.istore 4, 2) := by decide +kernel
theorem dX9_needs_88 : decode cX9_needs 88 = .ok (.iinc 5 1, 3) := by decide +kernel
theorem dX9_needs_91 : decode cX9_needs 91 = .ok (.goto (-53), 3) := by decide +kernel
theorem dX9_needs_94 : decode cX9_needs 94 = .ok (.aload_n 0, 1) := by decide +kernel
theorem dX9_needs_95 : decode cX9_needs 95 = .ok (.iload_n 1, 1) := by decide +kernel
theorem dX9_needs_96 : decode cX9_needs 96 = .ok (.iconst 3, 1) := by decide +kernel
theorem dX9_needs_97 : decode cX9_needs 97 = .ok (.iload_n 3, 1) := by decide +kernel
theorem dX9_needs_98 : decode cX9_needs 98 = .ok (.invokevirtual 188, 3) := by decide +kernel
theorem dX9_needs_101 : decode cX9_needs 101 = .ok (.iload 4, 2) := by decide +kernel
theorem dX9_needs_103 : decode cX9_needs 103 = .ok (.ireturn, 1) := by decide +kernel
set_option maxRecDepth 20000 in
theorem ggX9_track_X9_isLeg : GoodIn wsX9_track wsX9_isLeg := goodIn_r _ [6, 7, 8, 5, 9] (by decide +kernel) (by decide +kernel)
set_option maxRecDepth 20000 in
theorem gX9_track_X9_isLeg : GoodIn wsX9_track (va_wsS RX9 182 yX9_isLeg wsX9_isLeg) := goodIn_app (goodIn_of _ (by decide +kernel)) ggX9_track_X9_isLeg
set_option maxRecDepth 20000 in
theorem ggX9_track_X9_in : GoodIn wsX9_track wsX9_in := goodIn_r _ [9] (by decide +kernel) (by decide +kernel)
set_option maxRecDepth 20000 in
theorem gX9_track_X9_in : GoodIn wsX9_track (va_wsS RX9 63 yX9_in wsX9_in) := goodIn_app (goodIn_of _ (by decide +kernel)) ggX9_track_X9_in
set_option maxRecDepth 20000 in
theorem ggX9_track_X9_ofLeg : GoodIn wsX9_track wsX9_ofLeg := goodIn_r _ [13, 14, 115, 116, 117, 118, 119, 120, 121, 122, 123, 124, 125, 126, 127, 128, 129, 130, 131, 132, 133, 134, 135, 136, 137, 138, 139, 140, 141, 142, 143] (by decide +kernel) (by decide +kernel)
set_option maxRecDepth 20000 in
theorem gX9_track_X9_ofLeg : GoodIn wsX9_track (wsV RX9 185 RX9 yX9_ofLeg wsX9_ofLeg) := goodIn_app (goodIn_of _ (by decide +kernel)) ggX9_track_X9_ofLeg
set_option maxRecDepth 20000 in
theorem ggX9_track_X9_layLeg : GoodIn wsX9_track wsX9_layLeg := goodIn_r _ [18, 14, 115, 116, 117, 118, 119, 120, 121, 122, 123, 124, 125, 126, 127, 128, 129, 130, 131, 132, 133, 134, 135, 136, 137, 138, 139, 140, 141, 142, 143] (by decide +kernel) (by decide +kernel)
set_option maxRecDepth 20000 in
theorem gX9_track_X9_layLeg : GoodIn wsX9_track (wsV RX9 188 RX9 yX9_layLeg wsX9_layLeg) := goodIn_app (goodIn_of _ (by decide +kernel)) ggX9_track_X9_layLeg
set_option maxRecDepth 20000 in
theorem ggX9_track_X9_laysLeg : GoodIn wsX9_track wsX9_laysLeg := goodIn_r _ [22, 2, 23, 24, 25, 26, 5, 27, 28, 29, 30, 31, 32, 33, 34, 35, 36, 10, 11, 12, 13, 14, 37, 38, 39, 40, 41, 42, 43, 44, 45, 46, 47, 48, 49, 50, 51, 52, 53, 54, 55, 56, 57, 58, 59, 60, 61, 62, 63, 64, 65, 66, 67, 68, 69, 7, 8, 9, 70, 71, 72, 73, 74, 75, 76, 77, 78, 79, 80, 81, 82, 83, 84, 85, 86, 87, 88, 89, 90, 91, 92, 93, 94, 95, 96, 97, 98, 99, 100, 101, 102, 103, 104, 105, 106, 107, 108, 109, 110, 111, 112, 113, 114, 115, 116, 117, 118, 119, 120, 121, 122, 123, 124, 125, 126, 127, 128, 129, 130, 131, 132, 133, 134, 135, 136, 137, 138, 139, 140, 141, 142, 143] (by decide +kernel) (by decide +kernel)
set_option maxRecDepth 20000 in
theorem gX9_track_X9_laysLeg : GoodIn wsX9_track (wsV RX9 294 RX9 yX9_laysLeg wsX9_laysLeg) := goodIn_app (goodIn_of _ (by decide +kernel)) ggX9_track_X9_laysLeg
theorem dX9_track_0 : decode cX9_track 0 = .ok (.aload_n 0, 1) := by decide +kernel
theorem dX9_track_1 : decode cX9_track 1 = .ok (.iconst 0, 1) := by decide +kernel
theorem dX9_track_2 : decode cX9_track 2 = .ok (.putfield 51, 3) := by decide +kernel
theorem dX9_track_5 : decode cX9_track 5 = .ok (.iload_n 1, 1) := by decide +kernel
theorem dX9_track_6 : decode cX9_track 6 = .ok (.invokestatic 182, 3) := by decide +kernel
theorem dX9_track_9 : decode cX9_track 9 = .ok (.ifCond .eq 24, 3) := by decide +kernel
theorem dX9_track_12 : decode cX9_track 12 = .ok (.iload_n 2, 1) := by decide +kernel
theorem dX9_track_13 : decode cX9_track 13 = .ok (.iconst 1, 1) := by decide +kernel
theorem dX9_track_14 : decode cX9_track 14 = .ok (.sipush 200, 3) := by decide +kernel
theorem dX9_track_17 : decode cX9_track 17 = .ok (.invokestatic 63, 3) := by decide +kernel
theorem dX9_track_20 : decode cX9_track 20 = .ok (.ifCond .eq 13, 3) := by decide +kernel
theorem dX9_track_23 : decode cX9_track 23 = .ok (.iload_n 3, 1) := by decide +kernel
theorem dX9_track_24 : decode cX9_track 24 = .ok (.iconst 0, 1) := by decide +kernel
theorem dX9_track_25 : decode cX9_track 25 = .ok (.bipush 20, 2) := by decide +kernel
theorem dX9_track_27 : decode cX9_track 27 = .ok (.invokestatic 63, 3) := by decide +kernel
theorem dX9_track_30 : decode cX9_track 30 = .ok (.ifCond .ne 6, 3) := by decide +kernel
theorem dX9_track_33 : decode cX9_track 33 = .ok (.bipush (-2), 2) := by decide +kernel
theorem dX9_track_35 : decode cX9_track 35 = .ok (.ireturn, 1) := by decide +kernel
theorem dX9_track_36 : decode cX9_track 36 = .ok (.aload_n 0, 1) := by decide +kernel
theorem dX9_track_37 : decode cX9_track 37 = .ok (.iload_n 1, 1) := by decide +kernel
theorem dX9_track_38 : decode cX9_track 38 = .ok (.iconst 2, 1) := by decide +kernel
theorem dX9_track_39 : decode cX9_track 39 = .ok (.invokevirtual 185, 3) := by decide +kernel
theorem dX9_track_42 : decode cX9_track 42 = .ok (.istore 4, 2) := by decide +kernel
theorem dX9_track_44 : decode cX9_track 44 = .ok (.aload_n 0, 1) := by decide +kernel
theorem dX9_track_45 : decode cX9_track 45 = .ok (.iload_n 1, 1) := by decide +kernel
theorem dX9_track_46 : decode cX9_track 46 = .ok (.iconst 2, 1) := by decide +kernel
theorem dX9_track_47 : decode cX9_track 47 = .ok (.iload 4, 2) := by decide +kernel
theorem dX9_track_49 : decode cX9_track 49 = .ok (.iload_n 3, 1) := by decide +kernel
theorem dX9_track_50 : decode cX9_track 50 = .ok (.iload_n 2, 1) := by decide +kernel
theorem dX9_track_51 : decode cX9_track 51 = .ok (.imul, 1) := by decide +kernel
theorem dX9_track_52 : decode cX9_track 52 = .ok (.iadd, 1) := by decide +kernel
theorem dX9_track_53 : decode cX9_track 53 = .ok (.invokevirtual 188, 3) := by decide +kernel
theorem dX9_track_56 : decode cX9_track 56 = .ok (.aload_n 0, 1) := by decide +kernel
theorem dX9_track_57 : decode cX9_track 57 = .ok (.iload_n 1, 1) := by decide +kernel
theorem dX9_track_58 : decode cX9_track 58 = .ok (.invokevirtual 294, 3) := by decide +kernel
theorem dX9_track_61 : decode cX9_track 61 = .ok (.aload_n 0, 1) := by decide +kernel
theorem dX9_track_62 : decode cX9_track 62 = .ok (.iload_n 1, 1) := by decide +kernel
theorem dX9_track_63 : decode cX9_track 63 = .ok (.iconst 2, 1) := by decide +kernel
theorem dX9_track_64 : decode cX9_track 64 = .ok (.iload 4, 2) := by decide +kernel
theorem dX9_track_66 : decode cX9_track 66 = .ok (.invokevirtual 188, 3) := by decide +kernel
theorem dX9_track_69 : decode cX9_track 69 = .ok (.aload_n 0, 1) := by decide +kernel
theorem dX9_track_70 : decode cX9_track 70 = .ok (.getfield 266, 3) := by decide +kernel
theorem dX9_track_73 : decode cX9_track 73 = .ok (.ireturn, 1) := by decide +kernel
set_option maxRecDepth 20000 in
theorem ggX9_silent_X9_isLeg : GoodIn wsX9_silent wsX9_isLeg := goodIn_r _ [5, 6, 7, 4, 8] (by decide +kernel) (by decide +kernel)
set_option maxRecDepth 20000 in
theorem gX9_silent_X9_isLeg : GoodIn wsX9_silent (va_wsS RX9 182 yX9_isLeg wsX9_isLeg) := goodIn_app (goodIn_of _ (by decide +kernel)) ggX9_silent_X9_isLeg
set_option maxRecDepth 20000 in
theorem ggX9_silent_X9_isPart : GoodIn wsX9_silent wsX9_isPart := goodIn_r _ [12, 13, 6, 7, 4, 8, 123, 124, 125, 126, 127, 128, 129, 130, 131, 132, 133, 134, 135, 136, 137, 138, 139, 140, 141, 142, 143, 144, 145, 146, 147, 148, 149, 150, 151] (by decide +kernel) (by decide +kernel)
set_option maxRecDepth 20000 in
theorem gX9_silent_X9_isPart : GoodIn wsX9_silent (wsV RX9 192 RX9 yX9_isPart wsX9_isPart) := goodIn_app (goodIn_of _ (by decide +kernel)) ggX9_silent_X9_isPart
set_option maxRecDepth 20000 in
theorem ggX9_silent_X9_of : GoodIn wsX9_silent wsX9_of := goodIn_r _ [17, 13, 123, 124, 125, 126, 127, 128, 129, 130, 131, 132, 133, 134, 135, 136, 137, 138, 139, 140, 141, 142, 143, 144, 145, 146, 147, 148, 149, 150, 151] (by decide +kernel) (by decide +kernel)
set_option maxRecDepth 20000 in
theorem gX9_silent_X9_of : GoodIn wsX9_silent (wsV RX9 195 RX9 yX9_of wsX9_of) := goodIn_app (goodIn_of _ (by decide +kernel)) ggX9_silent_X9_of
set_option maxRecDepth 20000 in
theorem ggX9_silent_X9_lays : GoodIn wsX9_silent wsX9_lays := goodIn_r _ [21, 13, 123, 124, 125, 126, 127, 128, 129, 130, 131, 132, 133, 134, 135, 136, 137, 138, 139, 140, 141, 142, 143, 144, 145, 146, 147, 148, 149, 150, 151] (by decide +kernel) (by decide +kernel)
set_option maxRecDepth 20000 in
theorem gX9_silent_X9_lays : GoodIn wsX9_silent (wsV RX9 198 RX9 yX9_lays wsX9_lays) := goodIn_app (goodIn_of _ (by decide +kernel)) ggX9_silent_X9_lays
set_option maxRecDepth 20000 in
theorem ggX9_silent_X9_laysLeg : GoodIn wsX9_silent wsX9_laysLeg := goodIn_r _ [25, 26, 27, 28, 29, 30, 4, 31, 32, 33, 34, 35, 36, 37, 38, 39, 40, 41, 42, 43, 44, 13, 45, 46, 47, 48, 49, 50, 51, 52, 53, 54, 55, 56, 57, 58, 59, 60, 61, 62, 63, 64, 65, 66, 14, 15, 16, 17, 67, 68, 69, 70, 71, 72, 73, 6, 7, 8, 74, 75, 76, 77, 78, 79, 80, 81, 82, 83, 84, 85, 86, 87, 88, 89, 90, 91, 92, 93, 94, 95, 96, 97, 98, 99, 100, 101, 102, 103, 104, 105, 106, 107, 108, 109, 110, 111, 112, 113, 114, 115, 116, 117, 118, 123, 124, 125, 126, 127, 128, 129, 130, 131, 132, 133, 134, 135, 136, 137, 138, 139, 140, 141, 142, 143, 144, 145, 146, 147, 148, 149, 150, 151] (by decide +kernel) (by decide +kernel)
set_option maxRecDepth 20000 in
theorem gX9_silent_X9_laysLeg : GoodIn wsX9_silent (wsV RX9 294 RX9 yX9_laysLeg wsX9_laysLeg) := goodIn_app (goodIn_of _ (by decide +kernel)) ggX9_silent_X9_laysLeg
set_option maxRecDepth 20000 in
theorem ggX9_silent_X9_matchOf : GoodIn wsX9_silent wsX9_matchOf := goodIn_r _ [122, 78, 105, 106, 107, 4, 108, 14, 15, 16, 17, 13, 123, 124, 125, 126, 127, 128, 129, 130, 131, 132, 133, 134, 135, 136, 137, 138, 139, 140, 141, 142, 143, 144, 145, 146, 147, 148, 149, 150, 151] (by decide +kernel) (by decide +kernel)
set_option maxRecDepth 20000 in
theorem gX9_silent_X9_matchOf : GoodIn wsX9_silent (wsV RX9 301 RX9 yX9_matchOf wsX9_matchOf) := goodIn_app (goodIn_of _ (by decide +kernel)) ggX9_silent_X9_matchOf
theorem dX9_silent_0 : decode cX9_silent 0 = .ok (.aload_n 0, 1) := by decide +kernel
theorem dX9_silent_1 : decode cX9_silent 1 = .ok (.iconst 0, 1) := by decide +kernel
theorem dX9_silent_2 : decode cX9_silent 2 = .ok (.putfield 51, 3) := by decide +kernel
theorem dX9_silent_5 : decode cX9_silent 5 = .ok (.iload_n 1, 1) := by decide +kernel
theorem dX9_silent_6 : decode cX9_silent 6 = .ok (.invokestatic 182, 3) := by decide +kernel
theorem dX9_silent_9 : decode cX9_silent 9 = .ok (.ifCond .eq 11, 3) := by decide +kernel
theorem dX9_silent_12 : decode cX9_silent 12 = .ok (.aload_n 0, 1) := by decide +kernel
theorem dX9_silent_13 : decode cX9_silent 13 = .ok (.iload_n 2, 1) := by decide +kernel
theorem dX9_silent_14 : decode cX9_silent 14 = .ok (.invokevirtual 192, 3) := by decide +kernel
theorem dX9_silent_17 : decode cX9_silent 17 = .ok (.ifCond .ne 7, 3) := by decide +kernel
theorem dX9_silent_20 : decode cX9_silent 20 = .ok (.sipush (-1000), 3) := by decide +kernel
theorem dX9_silent_23 : decode cX9_silent 23 = .ok (.ireturn, 1) := by decide +kernel
theorem dX9_silent_24 : decode cX9_silent 24 = .ok (.aload_n 0, 1) := by decide +kernel
theorem dX9_silent_25 : decode cX9_silent 25 = .ok (.iload_n 2, 1) := by decide +kernel
theorem dX9_silent_26 : decode cX9_silent 26 = .ok (.iconst 1, 1) := by decide +kernel
theorem dX9_silent_27 : decode cX9_silent 27 = .ok (.invokevirtual 195, 3) := by decide +kernel
theorem dX9_silent_30 : decode cX9_silent 30 = .ok (.istore_n 3, 1) := by decide +kernel
theorem dX9_silent_31 : decode cX9_silent 31 = .ok (.aload_n 0, 1) := by decide +kernel
theorem dX9_silent_32 : decode cX9_silent 32 = .ok (.iload_n 2, 1) := by decide +kernel
theorem dX9_silent_33 : decode cX9_silent 33 = .ok (.iconst 1, 1) := by decide +kernel
theorem dX9_silent_34 : decode cX9_silent 34 = .ok (.iconst 0, 1) := by decide +kernel
theorem dX9_silent_35 : decode cX9_silent 35 = .ok (.invokevirtual 198, 3) := by decide +kernel
theorem dX9_silent_38 : decode cX9_silent 38 = .ok (.aload_n 0, 1) := by decide +kernel
theorem dX9_silent_39 : decode cX9_silent 39 = .ok (.iload_n 1, 1) := by decide +kernel
theorem dX9_silent_40 : decode cX9_silent 40 = .ok (.invokevirtual 294, 3) := by decide +kernel
theorem dX9_silent_43 : decode cX9_silent 43 = .ok (.aload_n 0, 1) := by decide +kernel
theorem dX9_silent_44 : decode cX9_silent 44 = .ok (.iload_n 2, 1) := by decide +kernel
theorem dX9_silent_45 : decode cX9_silent 45 = .ok (.iconst 1, 1) := by decide +kernel
theorem dX9_silent_46 : decode cX9_silent 46 = .ok (.iload_n 3, 1) := by decide +kernel
theorem dX9_silent_47 : decode cX9_silent 47 = .ok (.invokevirtual 198, 3) := by decide +kernel
theorem dX9_silent_50 : decode cX9_silent 50 = .ok (.aload_n 0, 1) := by decide +kernel
theorem dX9_silent_51 : decode cX9_silent 51 = .ok (.iload_n 2, 1) := by decide +kernel
theorem dX9_silent_52 : decode cX9_silent 52 = .ok (.invokevirtual 301, 3) := by decide +kernel
theorem dX9_silent_55 : decode cX9_silent 55 = .ok (.ireturn, 1) := by decide +kernel
theorem dX9_copies_0 : decode cX9_copies 0 = .ok (.iconst 0, 1) := by decide +kernel
theorem dX9_copies_1 : decode cX9_copies 1 = .ok (.istore_n 3, 1) := by decide +kernel
theorem dX9_copies_2 : decode cX9_copies 2 = .ok (.iload_n 3, 1) := by decide +kernel
theorem dX9_copies_3 : decode cX9_copies 3 = .ok (.bipush 94, 2) := by decide +kernel
theorem dX9_copies_5 : decode cX9_copies 5 = .ok (.if_icmp .ge 31, 3) := by decide +kernel
theorem dX9_copies_8 : decode cX9_copies 8 = .ok (.aload_n 0, 1) := by decide +kernel
theorem dX9_copies_9 : decode cX9_copies 9 = .ok (.getfield 7, 3) := by decide +kernel
theorem dX9_copies_12 : decode cX9_copies 12 = .ok (.bipush 94, 2) := by decide +kernel
theorem dX9_copies_14 : decode cX9_copies 14 = .ok (.iload_n 2, 1) := by decide +kernel
theorem dX9_copies_15 : decode cX9_copies 15 = .ok (.imul, 1) := by decide +kernel
theorem dX9_copies_16 : decode cX9_copies 16 = .ok (.iload_n 3, 1) := by decide +kernel
theorem dX9_copies_17 : decode cX9_copies 17 = .ok (.iadd, 1) := by decide +kernel
theorem dX9_copies_18 : decode cX9_copies 18 = .ok (.aload_n 0, 1) := by decide +kernel
theorem dX9_copies_19 : decode cX9_copies 19 = .ok (.getfield 7, 3) := by decide +kernel
theorem dX9_copies_22 : decode cX9_copies 22 = .ok (.bipush 94, 2) := by decide +kernel
theorem dX9_copies_24 : decode cX9_copies 24 = .ok (.iload_n 1, 1) := by decide +kernel
theorem dX9_copies_25 : decode cX9_copies 25 = .ok (.imul, 1) := by decide +kernel
theorem dX9_copies_26 : decode cX9_copies 26 = .ok (.iload_n 3, 1) := by decide +kernel
theorem dX9_copies_27 : decode cX9_copies 27 = .ok (.iadd, 1) := by decide +kernel
theorem dX9_copies_28 : decode cX9_copies 28 = .ok (.iaload, 1) := by decide +kernel
theorem dX9_copies_29 : decode cX9_copies 29 = .ok (.iastore, 1) := by decide +kernel
theorem dX9_copies_30 : decode cX9_copies 30 = .ok (.iinc 3 1, 3) := by decide +kernel
theorem dX9_copies_33 : decode cX9_copies 33 = .ok (.goto (-31), 3) := by decide +kernel
theorem dX9_copies_36 : decode cX9_copies 36 = .ok (.iconst 0, 1) := by decide +kernel
theorem dX9_copies_37 : decode cX9_copies 37 = .ok (.istore_n 3, 1) := by decide +kernel
theorem dX9_copies_38 : decode cX9_copies 38 = .ok (.iload_n 3, 1) := by decide +kernel
theorem dX9_copies_39 : decode cX9_copies 39 = .ok (.sipush 500, 3) := by decide +kernel
theorem dX9_copies_42 : decode cX9_copies 42 = .ok (.if_icmp .ge 33, 3) := by decide +kernel
theorem dX9_copies_45 : decode cX9_copies 45 = .ok (.aload_n 0, 1) := by decide +kernel
theorem dX9_copies_46 : decode cX9_copies 46 = .ok (.getfield 13, 3) := by decide +kernel
theorem dX9_copies_49 : decode cX9_copies 49 = .ok (.sipush 500, 3) := by decide +kernel
theorem dX9_copies_52 : decode cX9_copies 52 = .ok (.iload_n 2, 1) := by decide +kernel
theorem dX9_copies_53 : decode cX9_copies 53 = .ok (.imul, 1) := by decide +kernel
theorem dX9_copies_54 : decode cX9_copies 54 = .ok (.iload_n 3, 1) := by decide +kernel
theorem dX9_copies_55 : decode cX9_copies 55 = .ok (.iadd, 1) := by decide +kernel
theorem dX9_copies_56 : decode cX9_copies 56 = .ok (.aload_n 0, 1) := by decide +kernel
theorem dX9_copies_57 : decode cX9_copies 57 = .ok (.getfield 13, 3) := by decide +kernel
theorem dX9_copies_60 : decode cX9_copies 60 = .ok (.sipush 500, 3) := by decide +kernel
theorem dX9_copies_63 : decode cX9_copies 63 = .ok (.iload_n 1, 1) := by decide +kernel
theorem dX9_copies_64 : decode cX9_copies 64 = .ok (.imul, 1) := by decide +kernel
theorem dX9_copies_65 : decode cX9_copies 65 = .ok (.iload_n 3, 1) := by decide +kernel
theorem dX9_copies_66 : decode cX9_copies 66 = .ok (.iadd, 1) := by decide +kernel
theorem dX9_copies_67 : decode cX9_copies 67 = .ok (.baload, 1) := by decide +kernel
theorem dX9_copies_68 : decode cX9_copies 68 = .ok (.bastore, 1) := by decide +kernel
theorem dX9_copies_69 : decode cX9_copies 69 = .ok (.iinc 3 1, 3) := by decide +kernel
theorem dX9_copies_72 : decode cX9_copies 72 = .ok (.goto (-34), 3) := by decide +kernel
theorem dX9_copies_75 : decode cX9_copies 75 = .ok (.return_, 1) := by decide +kernel
set_option maxRecDepth 20000 in
theorem ggX9_image_X9_in : GoodIn wsX9_image wsX9_in := goodIn_r _ [6] (by decide +kernel) (by decide +kernel)
set_option maxRecDepth 20000 in
theorem gX9_image_X9_in : GoodIn wsX9_image (va_wsS RX9 63 yX9_in wsX9_in) := goodIn_app (goodIn_of _ (by decide +kernel)) ggX9_image_X9_in
set_option maxRecDepth 20000 in
theorem ggX9_image_X9_copies : GoodIn wsX9_image wsX9_copies := goodIn_r _ [10, 11, 12, 13, 14, 15, 16, 17, 18, 19, 20, 21, 22, 23, 24, 25, 26, 27, 28, 29, 30, 31, 32, 33, 34, 35, 36, 37, 38, 39, 40, 41] (by decide +kernel) (by decide +kernel)
set_option maxRecDepth 20000 in
theorem gX9_image_X9_copies : GoodIn wsX9_image (wsV RX9 330 RX9 yX9_copies wsX9_copies) := goodIn_app (goodIn_of _ (by decide +kernel)) ggX9_image_X9_copies
theorem dX9_image_0 : decode cX9_image 0 = .ok (.aload_n 0, 1) := by decide +kernel
theorem dX9_image_1 : decode cX9_image 1 = .ok (.iconst 0, 1) := by decide +kernel
theorem dX9_image_2 : decode cX9_image 2 = .ok (.putfield 51, 3) := by decide +kernel
theorem dX9_image_5 : decode cX9_image 5 = .ok (.iload_n 1, 1) := by decide +kernel
theorem dX9_image_6 : decode cX9_image 6 = .ok (.iconst 0, 1) := by decide +kernel
theorem dX9_image_7 : decode cX9_image 7 = .ok (.iconst 2, 1) := by decide +kernel
theorem dX9_image_8 : decode cX9_image 8 = .ok (.invokestatic 63, 3) := by decide +kernel
theorem dX9_image_11 : decode cX9_image 11 = .ok (.ifCond .ne 5, 3) := by decide +kernel
theorem dX9_image_14 : decode cX9_image 14 = .ok (.iconst 0, 1) := by decide +kernel
theorem dX9_image_15 : decode cX9_image 15 = .ok (.ireturn, 1) := by decide +kernel
theorem dX9_image_16 : decode cX9_image 16 = .ok (.aload_n 0, 1) := by decide +kernel
theorem dX9_image_17 : decode cX9_image 17 = .ok (.iconst 0, 1) := by decide +kernel
theorem dX9_image_18 : decode cX9_image 18 = .ok (.iload_n 1, 1) := by decide +kernel
theorem dX9_image_19 : decode cX9_image 19 = .ok (.iconst 1, 1) := by decide +kernel
theorem dX9_image_20 : decode cX9_image 20 = .ok (.iadd, 1) := by decide +kernel
theorem dX9_image_21 : decode cX9_image 21 = .ok (.invokevirtual 330, 3) := by decide +kernel
theorem dX9_image_24 : decode cX9_image 24 = .ok (.aload_n 0, 1) := by decide +kernel
theorem dX9_image_25 : decode cX9_image 25 = .ok (.getfield 17, 3) := by decide +kernel
theorem dX9_image_28 : decode cX9_image 28 = .ok (.iload_n 1, 1) := by decide +kernel
theorem dX9_image_29 : decode cX9_image 29 = .ok (.iconst 1, 1) := by decide +kernel
theorem dX9_image_30 : decode cX9_image 30 = .ok (.bastore, 1) := by decide +kernel
theorem dX9_image_31 : decode cX9_image 31 = .ok (.iconst 1, 1) := by decide +kernel
theorem dX9_image_32 : decode cX9_image 32 = .ok (.ireturn, 1) := by decide +kernel
set_option maxRecDepth 20000 in
theorem ggX9_again_X9_in : GoodIn wsX9_again wsX9_in := goodIn_r _ [6] (by decide +kernel) (by decide +kernel)
set_option maxRecDepth 20000 in
theorem gX9_again_X9_in : GoodIn wsX9_again (va_wsS RX9 63 yX9_in wsX9_in) := goodIn_app (goodIn_of _ (by decide +kernel)) ggX9_again_X9_in
set_option maxRecDepth 20000 in
theorem ggX9_again_X9_copies : GoodIn wsX9_again wsX9_copies := goodIn_r _ [10, 11, 12, 13, 14, 15, 16, 17, 18, 19, 20, 21, 22, 23, 24, 25, 26, 27, 28, 29, 30, 31, 32, 33, 34, 35, 36, 37, 38, 39, 40, 41] (by decide +kernel) (by decide +kernel)
set_option maxRecDepth 20000 in
theorem gX9_again_X9_copies : GoodIn wsX9_again (wsV RX9 330 RX9 yX9_copies wsX9_copies) := goodIn_app (goodIn_of _ (by decide +kernel)) ggX9_again_X9_copies
theorem dX9_again_0 : decode cX9_again 0 = .ok (.aload_n 0, 1) := by decide +kernel
theorem dX9_again_1 : decode cX9_again 1 = .ok (.iconst 0, 1) := by decide +kernel
theorem dX9_again_2 : decode cX9_again 2 = .ok (.putfield 51, 3) := by decide +kernel
theorem dX9_again_5 : decode cX9_again 5 = .ok (.iload_n 1, 1) := by decide +kernel
theorem dX9_again_6 : decode cX9_again 6 = .ok (.iconst 0, 1) := by decide +kernel
theorem dX9_again_7 : decode cX9_again 7 = .ok (.iconst 2, 1) := by decide +kernel
theorem dX9_again_8 : decode cX9_again 8 = .ok (.invokestatic 63, 3) := by decide +kernel
theorem dX9_again_11 : decode cX9_again 11 = .ok (.ifCond .eq 12, 3) := by decide +kernel
theorem dX9_again_14 : decode cX9_again 14 = .ok (.aload_n 0, 1) := by decide +kernel
theorem dX9_again_15 : decode cX9_again 15 = .ok (.getfield 17, 3) := by decide +kernel
theorem dX9_again_18 : decode cX9_again 18 = .ok (.iload_n 1, 1) := by decide +kernel
theorem dX9_again_19 : decode cX9_again 19 = .ok (.baload, 1) := by decide +kernel
theorem dX9_again_20 : decode cX9_again 20 = .ok (.ifCond .ne 5, 3) := by decide +kernel
theorem dX9_again_23 : decode cX9_again 23 = .ok (.iconst 0, 1) := by decide +kernel
theorem dX9_again_24 : decode cX9_again 24 = .ok (.ireturn, 1) := by decide +kernel
theorem dX9_again_25 : decode cX9_again 25 = .ok (.aload_n 0, 1) := by decide +kernel
theorem dX9_again_26 : decode cX9_again 26 = .ok (.iload_n 1, 1) := by decide +kernel
theorem dX9_again_27 : decode cX9_again 27 = .ok (.iconst 1, 1) := by decide +kernel
theorem dX9_again_28 : decode cX9_again 28 = .ok (.iadd, 1) := by decide +kernel
theorem dX9_again_29 : decode cX9_again 29 = .ok (.iconst 0, 1) := by decide +kernel
theorem dX9_again_30 : decode cX9_again 30 = .ok (.invokevirtual 330, 3) := by decide +kernel
theorem dX9_again_33 : decode cX9_again 33 = .ok (.iconst 1, 1) := by decide +kernel
theorem dX9_again_34 : decode cX9_again 34 = .ok (.ireturn, 1) := by decide +kernel
theorem dJ6_bitCount_0f7a4_0 : decode cJ6_bitCount_0f7a4 0 = .ok (.iload_n 0, 1) := by decide +kernel
theorem dJ6_bitCount_0f7a4_1 : decode cJ6_bitCount_0f7a4 1 = .ok (.iload_n 0, 1) := by decide +kernel
theorem dJ6_bitCount_0f7a4_2 : decode cJ6_bitCount_0f7a4 2 = .ok (.iconst 1, 1) := by decide +kernel
theorem dJ6_bitCount_0f7a4_3 : decode cJ6_bitCount_0f7a4 3 = .ok (.iushr, 1) := by decide +kernel
theorem dJ6_bitCount_0f7a4_4 : decode cJ6_bitCount_0f7a4 4 = .ok (.ldc_w 265, 3) := by decide +kernel
theorem dJ6_bitCount_0f7a4_7 : decode cJ6_bitCount_0f7a4 7 = .ok (.iand, 1) := by decide +kernel
theorem dJ6_bitCount_0f7a4_8 : decode cJ6_bitCount_0f7a4 8 = .ok (.isub, 1) := by decide +kernel
theorem dJ6_bitCount_0f7a4_9 : decode cJ6_bitCount_0f7a4 9 = .ok (.istore_n 0, 1) := by decide +kernel
theorem dJ6_bitCount_0f7a4_10 : decode cJ6_bitCount_0f7a4 10 = .ok (.iload_n 0, 1) := by decide +kernel
theorem dJ6_bitCount_0f7a4_11 : decode cJ6_bitCount_0f7a4 11 = .ok (.ldc_w 266, 3) := by decide +kernel
theorem dJ6_bitCount_0f7a4_14 : decode cJ6_bitCount_0f7a4 14 = .ok (.iand, 1) := by decide +kernel
theorem dJ6_bitCount_0f7a4_15 : decode cJ6_bitCount_0f7a4 15 = .ok (.iload_n 0, 1) := by decide +kernel
theorem dJ6_bitCount_0f7a4_16 : decode cJ6_bitCount_0f7a4 16 = .ok (.iconst 2, 1) := by decide +kernel
theorem dJ6_bitCount_0f7a4_17 : decode cJ6_bitCount_0f7a4 17 = .ok (.iushr, 1) := by decide +kernel
theorem dJ6_bitCount_0f7a4_18 : decode cJ6_bitCount_0f7a4 18 = .ok (.ldc_w 266, 3) := by decide +kernel
theorem dJ6_bitCount_0f7a4_21 : decode cJ6_bitCount_0f7a4 21 = .ok (.iand, 1) := by decide +kernel
theorem dJ6_bitCount_0f7a4_22 : decode cJ6_bitCount_0f7a4 22 = .ok (.iadd, 1) := by decide +kernel
theorem dJ6_bitCount_0f7a4_23 : decode cJ6_bitCount_0f7a4 23 = .ok (.istore_n 0, 1) := by decide +kernel
theorem dJ6_bitCount_0f7a4_24 : decode cJ6_bitCount_0f7a4 24 = .ok (.iload_n 0, 1) := by decide +kernel
theorem dJ6_bitCount_0f7a4_25 : decode cJ6_bitCount_0f7a4 25 = .ok (.iload_n 0, 1) := by decide +kernel
theorem dJ6_bitCount_0f7a4_26 : decode cJ6_bitCount_0f7a4 26 = .ok (.iconst 4, 1) := by decide +kernel
theorem dJ6_bitCount_0f7a4_27 : decode cJ6_bitCount_0f7a4 27 = .ok (.iushr, 1) := by decide +kernel
theorem dJ6_bitCount_0f7a4_28 : decode cJ6_bitCount_0f7a4 28 = .ok (.iadd, 1) := by decide +kernel
theorem dJ6_bitCount_0f7a4_29 : decode cJ6_bitCount_0f7a4 29 = .ok (.ldc_w 267, 3) := by decide +kernel
theorem dJ6_bitCount_0f7a4_32 : decode cJ6_bitCount_0f7a4 32 = .ok (.iand, 1) := by decide +kernel
theorem dJ6_bitCount_0f7a4_33 : decode cJ6_bitCount_0f7a4 33 = .ok (.istore_n 0, 1) := by decide +kernel
theorem dJ6_bitCount_0f7a4_34 : decode cJ6_bitCount_0f7a4 34 = .ok (.iload_n 0, 1) := by decide +kernel
theorem dJ6_bitCount_0f7a4_35 : decode cJ6_bitCount_0f7a4 35 = .ok (.iload_n 0, 1) := by decide +kernel
theorem dJ6_bitCount_0f7a4_36 : decode cJ6_bitCount_0f7a4 36 = .ok (.bipush 8, 2) := by decide +kernel
theorem dJ6_bitCount_0f7a4_38 : decode cJ6_bitCount_0f7a4 38 = .ok (.iushr, 1) := by decide +kernel
theorem dJ6_bitCount_0f7a4_39 : decode cJ6_bitCount_0f7a4 39 = .ok (.iadd, 1) := by decide +kernel
theorem dJ6_bitCount_0f7a4_40 : decode cJ6_bitCount_0f7a4 40 = .ok (.istore_n 0, 1) := by decide +kernel
theorem dJ6_bitCount_0f7a4_41 : decode cJ6_bitCount_0f7a4 41 = .ok (.iload_n 0, 1) := by decide +kernel
theorem dJ6_bitCount_0f7a4_42 : decode cJ6_bitCount_0f7a4 42 = .ok (.iload_n 0, 1) := by decide +kernel
theorem dJ6_bitCount_0f7a4_43 : decode cJ6_bitCount_0f7a4 43 = .ok (.bipush 16, 2) := by decide +kernel
theorem dJ6_bitCount_0f7a4_45 : decode cJ6_bitCount_0f7a4 45 = .ok (.iushr, 1) := by decide +kernel
theorem dJ6_bitCount_0f7a4_46 : decode cJ6_bitCount_0f7a4 46 = .ok (.iadd, 1) := by decide +kernel
theorem dJ6_bitCount_0f7a4_47 : decode cJ6_bitCount_0f7a4 47 = .ok (.istore_n 0, 1) := by decide +kernel
theorem dJ6_bitCount_0f7a4_48 : decode cJ6_bitCount_0f7a4 48 = .ok (.iload_n 0, 1) := by decide +kernel
theorem dJ6_bitCount_0f7a4_49 : decode cJ6_bitCount_0f7a4 49 = .ok (.bipush 63, 2) := by decide +kernel
theorem dJ6_bitCount_0f7a4_51 : decode cJ6_bitCount_0f7a4 51 = .ok (.iand, 1) := by decide +kernel
theorem dJ6_bitCount_0f7a4_52 : decode cJ6_bitCount_0f7a4 52 = .ok (.ireturn, 1) := by decide +kernel
theorem dJ9_floorDiv_7cf53_0 : decode cJ9_floorDiv_7cf53 0 = .ok (.iload_n 0, 1) := by decide +kernel
theorem dJ9_floorDiv_7cf53_1 : decode cJ9_floorDiv_7cf53 1 = .ok (.iload_n 1, 1) := by decide +kernel
theorem dJ9_floorDiv_7cf53_2 : decode cJ9_floorDiv_7cf53 2 = .ok (.idiv, 1) := by decide +kernel
theorem dJ9_floorDiv_7cf53_3 : decode cJ9_floorDiv_7cf53 3 = .ok (.istore_n 2, 1) := by decide +kernel
theorem dJ9_floorDiv_7cf53_4 : decode cJ9_floorDiv_7cf53 4 = .ok (.iload_n 0, 1) := by decide +kernel
theorem dJ9_floorDiv_7cf53_5 : decode cJ9_floorDiv_7cf53 5 = .ok (.iload_n 1, 1) := by decide +kernel
theorem dJ9_floorDiv_7cf53_6 : decode cJ9_floorDiv_7cf53 6 = .ok (.ixor, 1) := by decide +kernel
theorem dJ9_floorDiv_7cf53_7 : decode cJ9_floorDiv_7cf53 7 = .ok (.ifCond .ge 14, 3) := by decide +kernel
theorem dJ9_floorDiv_7cf53_10 : decode cJ9_floorDiv_7cf53 10 = .ok (.iload_n 2, 1) := by decide +kernel
theorem dJ9_floorDiv_7cf53_11 : decode cJ9_floorDiv_7cf53 11 = .ok (.iload_n 1, 1) := by decide +kernel
theorem dJ9_floorDiv_7cf53_12 : decode cJ9_floorDiv_7cf53 12 = .ok (.imul, 1) := by decide +kernel
theorem dJ9_floorDiv_7cf53_13 : decode cJ9_floorDiv_7cf53 13 = .ok (.iload_n 0, 1) := by decide +kernel
theorem dJ9_floorDiv_7cf53_14 : decode cJ9_floorDiv_7cf53 14 = .ok (.if_icmp .eq 7, 3) := by decide +kernel
theorem dJ9_floorDiv_7cf53_17 : decode cJ9_floorDiv_7cf53 17 = .ok (.iload_n 2, 1) := by decide +kernel
theorem dJ9_floorDiv_7cf53_18 : decode cJ9_floorDiv_7cf53 18 = .ok (.iconst 1, 1) := by decide +kernel
theorem dJ9_floorDiv_7cf53_19 : decode cJ9_floorDiv_7cf53 19 = .ok (.isub, 1) := by decide +kernel
theorem dJ9_floorDiv_7cf53_20 : decode cJ9_floorDiv_7cf53 20 = .ok (.ireturn, 1) := by decide +kernel
theorem dJ9_floorDiv_7cf53_21 : decode cJ9_floorDiv_7cf53 21 = .ok (.iload_n 2, 1) := by decide +kernel
theorem dJ9_floorDiv_7cf53_22 : decode cJ9_floorDiv_7cf53 22 = .ok (.ireturn, 1) := by decide +kernel
theorem dJ9_max_7cf53_0 : decode cJ9_max_7cf53 0 = .ok (.iload_n 0, 1) := by decide +kernel
theorem dJ9_max_7cf53_1 : decode cJ9_max_7cf53 1 = .ok (.iload_n 1, 1) := by decide +kernel
theorem dJ9_max_7cf53_2 : decode cJ9_max_7cf53 2 = .ok (.if_icmp .lt 7, 3) := by decide +kernel
theorem dJ9_max_7cf53_5 : decode cJ9_max_7cf53 5 = .ok (.iload_n 0, 1) := by decide +kernel
theorem dJ9_max_7cf53_6 : decode cJ9_max_7cf53 6 = .ok (.goto 4, 3) := by decide +kernel
theorem dJ9_max_7cf53_9 : decode cJ9_max_7cf53 9 = .ok (.iload_n 1, 1) := by decide +kernel
theorem dJ9_max_7cf53_10 : decode cJ9_max_7cf53 10 = .ok (.ireturn, 1) := by decide +kernel
theorem dJ9_min_7cf53_0 : decode cJ9_min_7cf53 0 = .ok (.iload_n 0, 1) := by decide +kernel
theorem dJ9_min_7cf53_1 : decode cJ9_min_7cf53 1 = .ok (.iload_n 1, 1) := by decide +kernel
theorem dJ9_min_7cf53_2 : decode cJ9_min_7cf53 2 = .ok (.if_icmp .gt 7, 3) := by decide +kernel
theorem dJ9_min_7cf53_5 : decode cJ9_min_7cf53 5 = .ok (.iload_n 0, 1) := by decide +kernel
theorem dJ9_min_7cf53_6 : decode cJ9_min_7cf53 6 = .ok (.goto 4, 3) := by decide +kernel
theorem dJ9_min_7cf53_9 : decode cJ9_min_7cf53 9 = .ok (.iload_n 1, 1) := by decide +kernel
theorem dJ9_min_7cf53_10 : decode cJ9_min_7cf53 10 = .ok (.ireturn, 1) := by decide +kernel
set_option maxRecDepth 20000 in
theorem ggJ0_length_8abf5_J0_coder_7d493 : GoodIn wsJ0_length_8abf5 wsJ0_coder_7d493 := goodIn_r _ [6, 7, 8] (by decide +kernel) (by decide +kernel)
set_option maxRecDepth 20000 in
theorem gJ0_length_8abf5_J0_coder_7d493 : GoodIn wsJ0_length_8abf5 (wsV RJ0 335 RJ0 yJ0_coder_7d493 wsJ0_coder_7d493) := goodIn_app (goodIn_of _ (by decide +kernel)) ggJ0_length_8abf5_J0_coder_7d493
theorem dJ0_length_8abf5_0 : decode cJ0_length_8abf5 0 = .ok (.aload_n 0, 1) := by decide +kernel
theorem dJ0_length_8abf5_1 : decode cJ0_length_8abf5 1 = .ok (.getfield 9, 3) := by decide +kernel
theorem dJ0_length_8abf5_4 : decode cJ0_length_8abf5 4 = .ok (.arraylength, 1) := by decide +kernel
theorem dJ0_length_8abf5_5 : decode cJ0_length_8abf5 5 = .ok (.aload_n 0, 1) := by decide +kernel
theorem dJ0_length_8abf5_6 : decode cJ0_length_8abf5 6 = .ok (.invokevirtual 335, 3) := by decide +kernel
theorem dJ0_length_8abf5_9 : decode cJ0_length_8abf5 9 = .ok (.ishr, 1) := by decide +kernel
theorem dJ0_length_8abf5_10 : decode cJ0_length_8abf5 10 = .ok (.ireturn, 1) := by decide +kernel
set_option maxRecDepth 20000 in
theorem ggJ0_charAt_5068e_J0_isLatin1_aae02 : GoodIn wsJ0_charAt_5068e wsJ0_isLatin1_aae02 := goodIn_r _ [6, 7, 8] (by decide +kernel) (by decide +kernel)
set_option maxRecDepth 20000 in
theorem gJ0_charAt_5068e_J0_isLatin1_aae02 : GoodIn wsJ0_charAt_5068e (wsV RJ0 492 RJ0 yJ0_isLatin1_aae02 wsJ0_isLatin1_aae02) := goodIn_app (goodIn_of _ (by decide +kernel)) ggJ0_charAt_5068e_J0_isLatin1_aae02
set_option maxRecDepth 20000 in
theorem ggJ0_charAt_5068e_J1_charAt_3b067 : GoodIn wsJ0_charAt_5068e wsJ1_charAt_3b067 := goodIn_r _ [12, 13, 14, 5, 15, 16, 17, 18, 19, 20] (by decide +kernel) (by decide +kernel)
set_option maxRecDepth 20000 in
theorem gJ0_charAt_5068e_J1_charAt_3b067 : GoodIn wsJ0_charAt_5068e (va_wsS RJ0 495 yJ1_charAt_3b067 wsJ1_charAt_3b067) := goodIn_app (goodIn_of _ (by decide +kernel)) ggJ0_charAt_5068e_J1_charAt_3b067
set_option maxRecDepth 20000 in
theorem ggJ0_charAt_5068e_J2_charAt_3b067 : GoodIn wsJ0_charAt_5068e wsJ2_charAt_3b067 := goodIn_r _ [24, 25, 26, 23, 27, 28, 29, 30, 31, 14, 5, 15, 16, 17, 18, 19, 20, 32, 33, 34, 35, 36, 37] (by decide +kernel) (by decide +kernel)
set_option maxRecDepth 20000 in
theorem gJ0_charAt_5068e_J2_charAt_3b067 : GoodIn wsJ0_charAt_5068e (va_wsS RJ0 498 yJ2_charAt_3b067 wsJ2_charAt_3b067) := goodIn_app (goodIn_of _ (by decide +kernel)) ggJ0_charAt_5068e_J2_charAt_3b067
theorem dJ0_charAt_5068e_0 : decode cJ0_charAt_5068e 0 = .ok (.aload_n 0, 1) := by decide +kernel
theorem dJ0_charAt_5068e_1 : decode cJ0_charAt_5068e 1 = .ok (.invokevirtual 492, 3) := by decide +kernel
theorem dJ0_charAt_5068e_4 : decode cJ0_charAt_5068e 4 = .ok (.ifCond .eq 12, 3) := by decide +kernel
theorem dJ0_charAt_5068e_7 : decode cJ0_charAt_5068e 7 = .ok (.aload_n 0, 1) := by decide +kernel
theorem dJ0_charAt_5068e_8 : decode cJ0_charAt_5068e 8 = .ok (.getfield 9, 3) := by decide +kernel
theorem dJ0_charAt_5068e_11 : decode cJ0_charAt_5068e 11 = .ok (.iload_n 1, 1) := by decide +kernel
theorem dJ0_charAt_5068e_12 : decode cJ0_charAt_5068e 12 = .ok (.invokestatic 495, 3) := by decide +kernel
theorem dJ0_charAt_5068e_15 : decode cJ0_charAt_5068e 15 = .ok (.ireturn, 1) := by decide +kernel
theorem dJ0_charAt_5068e_16 : decode cJ0_charAt_5068e 16 = .ok (.aload_n 0, 1) := by decide +kernel
theorem dJ0_charAt_5068e_17 : decode cJ0_charAt_5068e 17 = .ok (.getfield 9, 3) := by decide +kernel
theorem dJ0_charAt_5068e_20 : decode cJ0_charAt_5068e 20 = .ok (.iload_n 1, 1) := by decide +kernel
theorem dJ0_charAt_5068e_21 : decode cJ0_charAt_5068e 21 = .ok (.invokestatic 498, 3) := by decide +kernel
theorem dJ0_charAt_5068e_24 : decode cJ0_charAt_5068e 24 = .ok (.ireturn, 1) := by decide +kernel
theorem dJ0_coder_7d493_0 : decode cJ0_coder_7d493 0 = .ok (.getstatic 38, 3) := by decide +kernel
theorem dJ0_coder_7d493_3 : decode cJ0_coder_7d493 3 = .ok (.ifCond .eq 10, 3) := by decide +kernel
theorem dJ0_coder_7d493_6 : decode cJ0_coder_7d493 6 = .ok (.aload_n 0, 1) := by decide +kernel
theorem dJ0_coder_7d493_7 : decode cJ0_coder_7d493 7 = .ok (.getfield 15, 3) := by decide +kernel
theorem dJ0_coder_7d493_10 : decode cJ0_coder_7d493 10 = .ok (.goto 4, 3) := by decide +kernel
theorem dJ0_coder_7d493_13 : decode cJ0_coder_7d493 13 = .ok (.iconst 1, 1) := by decide +kernel
theorem dJ0_coder_7d493_14 : decode cJ0_coder_7d493 14 = .ok (.ireturn, 1) := by decide +kernel
theorem dJ0_isLatin1_aae02_0 : decode cJ0_isLatin1_aae02 0 = .ok (.getstatic 38, 3) := by decide +kernel
theorem dJ0_isLatin1_aae02_3 : decode cJ0_isLatin1_aae02 3 = .ok (.ifCond .eq 14, 3) := by decide +kernel
theorem dJ0_isLatin1_aae02_6 : decode cJ0_isLatin1_aae02 6 = .ok (.aload_n 0, 1) := by decide +kernel
theorem dJ0_isLatin1_aae02_7 : decode cJ0_isLatin1_aae02 7 = .ok (.getfield 15, 3) := by decide +kernel
theorem dJ0_isLatin1_aae02_10 : decode cJ0_isLatin1_aae02 10 = .ok (.ifCond .ne 7, 3) := by decide +kernel
theorem dJ0_isLatin1_aae02_13 : decode cJ0_isLatin1_aae02 13 = .ok (.iconst 1, 1) := by decide +kernel
theorem dJ0_isLatin1_aae02_14 : decode cJ0_isLatin1_aae02 14 = .ok (.goto 4, 3) := by decide +kernel
theorem dJ0_isLatin1_aae02_17 : decode cJ0_isLatin1_aae02 17 = .ok (.iconst 0, 1) := by decide +kernel
theorem dJ0_isLatin1_aae02_18 : decode cJ0_isLatin1_aae02 18 = .ok (.ireturn, 1) := by decide +kernel
set_option maxRecDepth 20000 in
theorem ggJ0_checkIndex_df160_J3_checkIndex_8e157 : GoodIn wsJ0_checkIndex_df160 wsJ3_checkIndex_8e157 := goodIn_r _ [5] (by decide +kernel) (by decide +kernel)
set_option maxRecDepth 20000 in
theorem gJ0_checkIndex_df160_J3_checkIndex_8e157 : GoodIn wsJ0_checkIndex_df160 (va_wsS RJ0 1059 yJ3_checkIndex_8e157 wsJ3_checkIndex_8e157) := goodIn_app (goodIn_of _ (by decide +kernel)) ggJ0_checkIndex_df160_J3_checkIndex_8e157
theorem dJ0_checkIndex_df160_0 : decode cJ0_checkIndex_df160 0 = .ok (.iload_n 0, 1) := by decide +kernel
theorem dJ0_checkIndex_df160_1 : decode cJ0_checkIndex_df160 1 = .ok (.iload_n 1, 1) := by decide +kernel
theorem dJ0_checkIndex_df160_2 : decode cJ0_checkIndex_df160 2 = .ok (.getstatic 1053, 3) := by decide +kernel
theorem dJ0_checkIndex_df160_5 : decode cJ0_checkIndex_df160 5 = .ok (.invokestatic 1059, 3) := by decide +kernel
theorem dJ0_checkIndex_df160_8 : decode cJ0_checkIndex_df160 8 = .ok (.pop, 1) := by decide +kernel
theorem dJ0_checkIndex_df160_9 : decode cJ0_checkIndex_df160 9 = .ok (.return_, 1) := by decide +kernel
set_option maxRecDepth 20000 in
theorem ggJ1_charAt_3b067_J0_checkIndex_df160 : GoodIn wsJ1_charAt_3b067 wsJ0_checkIndex_df160 := goodIn_r _ [4, 5, 6, 7, 8, 9] (by decide +kernel) (by decide +kernel)
set_option maxRecDepth 20000 in
theorem gJ1_charAt_3b067_J0_checkIndex_df160 : GoodIn wsJ1_charAt_3b067 (va_wsS RJ1 9 yJ0_checkIndex_df160 wsJ0_checkIndex_df160) := goodIn_app (goodIn_of _ (by decide +kernel)) ggJ1_charAt_3b067_J0_checkIndex_df160
theorem dJ1_charAt_3b067_0 : decode cJ1_charAt_3b067 0 = .ok (.iload_n 1, 1) := by decide +kernel
theorem dJ1_charAt_3b067_1 : decode cJ1_charAt_3b067 1 = .ok (.aload_n 0, 1) := by decide +kernel
theorem dJ1_charAt_3b067_2 : decode cJ1_charAt_3b067 2 = .ok (.arraylength, 1) := by decide +kernel
theorem dJ1_charAt_3b067_3 : decode cJ1_charAt_3b067 3 = .ok (.invokestatic 9, 3) := by decide +kernel
theorem dJ1_charAt_3b067_6 : decode cJ1_charAt_3b067 6 = .ok (.aload_n 0, 1) := by decide +kernel
theorem dJ1_charAt_3b067_7 : decode cJ1_charAt_3b067 7 = .ok (.iload_n 1, 1) := by decide +kernel
theorem dJ1_charAt_3b067_8 : decode cJ1_charAt_3b067 8 = .ok (.baload, 1) := by decide +kernel
theorem dJ1_charAt_3b067_9 : decode cJ1_charAt_3b067 9 = .ok (.sipush 255, 3) := by decide +kernel
theorem dJ1_charAt_3b067_12 : decode cJ1_charAt_3b067 12 = .ok (.iand, 1) := by decide +kernel
theorem dJ1_charAt_3b067_13 : decode cJ1_charAt_3b067 13 = .ok (.i2c, 1) := by decide +kernel
theorem dJ1_charAt_3b067_14 : decode cJ1_charAt_3b067 14 = .ok (.ireturn, 1) := by decide +kernel
set_option maxRecDepth 20000 in
theorem ggJ2_getChar_3b067_J2_length_9d52b : GoodIn wsJ2_getChar_3b067 wsJ2_length_9d52b := goodIn_r _ [7] (by decide +kernel) (by decide +kernel)
set_option maxRecDepth 20000 in
theorem gJ2_getChar_3b067_J2_length_9d52b : GoodIn wsJ2_getChar_3b067 (va_wsS RJ2 48 yJ2_length_9d52b wsJ2_length_9d52b) := goodIn_app (goodIn_of _ (by decide +kernel)) ggJ2_getChar_3b067_J2_length_9d52b
theorem dJ2_getChar_3b067_0 : decode cJ2_getChar_3b067 0 = .ok (.getstatic 44, 3) := by decide +kernel
theorem dJ2_getChar_3b067_3 : decode cJ2_getChar_3b067 3 = .ok (.ifCond .ne 25, 3) := by decide +kernel
theorem dJ2_getChar_3b067_6 : decode cJ2_getChar_3b067 6 = .ok (.iload_n 1, 1) := by decide +kernel
theorem dJ2_getChar_3b067_7 : decode cJ2_getChar_3b067 7 = .ok (.ifCond .lt 11, 3) := by decide +kernel
theorem dJ2_getChar_3b067_10 : decode cJ2_getChar_3b067 10 = .ok (.iload_n 1, 1) := by decide +kernel
theorem dJ2_getChar_3b067_11 : decode cJ2_getChar_3b067 11 = .ok (.aload_n 0, 1) := by decide +kernel
theorem dJ2_getChar_3b067_12 : decode cJ2_getChar_3b067 12 = .ok (.invokestatic 48, 3) := by decide +kernel
theorem dJ2_getChar_3b067_15 : decode cJ2_getChar_3b067 15 = .ok (.if_icmp .lt 13, 3) := by decide +kernel
theorem dJ2_getChar_3b067_18 : decode cJ2_getChar_3b067 18 = .ok (.new 52, 3) := by decide +kernel
theorem dJ2_getChar_3b067_21 : decode cJ2_getChar_3b067 21 = .ok (.dup, 1) := by decide +kernel
theorem dJ2_getChar_3b067_22 : decode cJ2_getChar_3b067 22 = .ok (.ldc 54, 2) := by decide +kernel
theorem dJ2_getChar_3b067_24 : decode cJ2_getChar_3b067 24 = .ok (.invokespecial 56, 3) := by decide +kernel
theorem dJ2_getChar_3b067_27 : decode cJ2_getChar_3b067 27 = .ok (.athrow, 1) := by decide +kernel
theorem dJ2_getChar_3b067_28 : decode cJ2_getChar_3b067 28 = .ok (.iload_n 1, 1) := by decide +kernel
theorem dJ2_getChar_3b067_29 : decode cJ2_getChar_3b067 29 = .ok (.iconst 1, 1) := by decide +kernel
theorem dJ2_getChar_3b067_30 : decode cJ2_getChar_3b067 30 = .ok (.ishl, 1) := by decide +kernel
theorem dJ2_getChar_3b067_31 : decode cJ2_getChar_3b067 31 = .ok (.istore_n 1, 1) := by decide +kernel
theorem dJ2_getChar_3b067_32 : decode cJ2_getChar_3b067 32 = .ok (.aload_n 0, 1) := by decide +kernel
theorem dJ2_getChar_3b067_33 : decode cJ2_getChar_3b067 33 = .ok (.iload_n 1, 1) := by decide +kernel
theorem dJ2_getChar_3b067_34 : decode cJ2_getChar_3b067 34 = .ok (.iinc 1 1, 3) := by decide +kernel
theorem dJ2_getChar_3b067_37 : decode cJ2_getChar_3b067 37 = .ok (.baload, 1) := by decide +kernel
theorem dJ2_getChar_3b067_38 : decode cJ2_getChar_3b067 38 = .ok (.sipush 255, 3) := by decide +kernel
theorem dJ2_getChar_3b067_41 : decode cJ2_getChar_3b067 41 = .ok (.iand, 1) := by decide +kernel
theorem dJ2_getChar_3b067_42 : decode cJ2_getChar_3b067 42 = .ok (.getstatic 59, 3) := by decide +kernel
theorem dJ2_getChar_3b067_45 : decode cJ2_getChar_3b067 45 = .ok (.ishl, 1) := by decide +kernel
theorem dJ2_getChar_3b067_46 : decode cJ2_getChar_3b067 46 = .ok (.aload_n 0, 1) := by decide +kernel
theorem dJ2_getChar_3b067_47 : decode cJ2_getChar_3b067 47 = .ok (.iload_n 1, 1) := by decide +kernel
theorem dJ2_getChar_3b067_48 : decode cJ2_getChar_3b067 48 = .ok (.baload, 1) := by decide +kernel
theorem dJ2_getChar_3b067_49 : decode cJ2_getChar_3b067 49 = .ok (.sipush 255, 3) := by decide +kernel
theorem dJ2_getChar_3b067_52 : decode cJ2_getChar_3b067 52 = .ok (.iand, 1) := by decide +kernel
theorem dJ2_getChar_3b067_53 : decode cJ2_getChar_3b067 53 = .ok (.getstatic 63, 3) := by decide +kernel
theorem dJ2_getChar_3b067_56 : decode cJ2_getChar_3b067 56 = .ok (.ishl, 1) := by decide +kernel
theorem dJ2_getChar_3b067_57 : decode cJ2_getChar_3b067 57 = .ok (.ior, 1) := by decide +kernel
theorem dJ2_getChar_3b067_58 : decode cJ2_getChar_3b067 58 = .ok (.i2c, 1) := by decide +kernel
theorem dJ2_getChar_3b067_59 : decode cJ2_getChar_3b067 59 = .ok (.ireturn, 1) := by decide +kernel
theorem dJ2_length_9d52b_0 : decode cJ2_length_9d52b 0 = .ok (.aload_n 0, 1) := by decide +kernel
theorem dJ2_length_9d52b_1 : decode cJ2_length_9d52b 1 = .ok (.arraylength, 1) := by decide +kernel
theorem dJ2_length_9d52b_2 : decode cJ2_length_9d52b 2 = .ok (.iconst 1, 1) := by decide +kernel
theorem dJ2_length_9d52b_3 : decode cJ2_length_9d52b 3 = .ok (.ishr, 1) := by decide +kernel
theorem dJ2_length_9d52b_4 : decode cJ2_length_9d52b 4 = .ok (.ireturn, 1) := by decide +kernel
set_option maxRecDepth 20000 in
theorem ggJ2_charAt_3b067_J2_checkIndex_2214a : GoodIn wsJ2_charAt_3b067 wsJ2_checkIndex_2214a := goodIn_r _ [4, 5, 6, 3, 7, 8, 9, 10, 11, 12, 13, 14, 15, 16] (by decide +kernel) (by decide +kernel)
set_option maxRecDepth 20000 in
theorem gJ2_charAt_3b067_J2_checkIndex_2214a : GoodIn wsJ2_charAt_3b067 (va_wsS RJ2 67 yJ2_checkIndex_2214a wsJ2_checkIndex_2214a) := goodIn_app (goodIn_of _ (by decide +kernel)) ggJ2_charAt_3b067_J2_checkIndex_2214a
set_option maxRecDepth 20000 in
theorem ggJ2_charAt_3b067_J2_getChar_3b067 : GoodIn wsJ2_charAt_3b067 wsJ2_getChar_3b067 := goodIn_r _ [19, 20, 21, 22, 5, 6, 3, 7] (by decide +kernel) (by decide +kernel)
set_option maxRecDepth 20000 in
theorem gJ2_charAt_3b067_J2_getChar_3b067 : GoodIn wsJ2_charAt_3b067 (va_wsS RJ2 71 yJ2_getChar_3b067 wsJ2_getChar_3b067) := goodIn_app (goodIn_of _ (by decide +kernel)) ggJ2_charAt_3b067_J2_getChar_3b067
theorem dJ2_charAt_3b067_0 : decode cJ2_charAt_3b067 0 = .ok (.iload_n 1, 1) := by decide +kernel
theorem dJ2_charAt_3b067_1 : decode cJ2_charAt_3b067 1 = .ok (.aload_n 0, 1) := by decide +kernel
theorem dJ2_charAt_3b067_2 : decode cJ2_charAt_3b067 2 = .ok (.invokestatic 67, 3) := by decide +kernel
theorem dJ2_charAt_3b067_5 : decode cJ2_charAt_3b067 5 = .ok (.aload_n 0, 1) := by decide +kernel
theorem dJ2_charAt_3b067_6 : decode cJ2_charAt_3b067 6 = .ok (.iload_n 1, 1) := by decide +kernel
theorem dJ2_charAt_3b067_7 : decode cJ2_charAt_3b067 7 = .ok (.invokestatic 71, 3) := by decide +kernel
theorem dJ2_charAt_3b067_10 : decode cJ2_charAt_3b067 10 = .ok (.ireturn, 1) := by decide +kernel
set_option maxRecDepth 20000 in
theorem ggJ2_checkIndex_2214a_J2_length_9d52b : GoodIn wsJ2_checkIndex_2214a wsJ2_length_9d52b := goodIn_r _ [4] (by decide +kernel) (by decide +kernel)
set_option maxRecDepth 20000 in
theorem gJ2_checkIndex_2214a_J2_length_9d52b : GoodIn wsJ2_checkIndex_2214a (va_wsS RJ2 48 yJ2_length_9d52b wsJ2_length_9d52b) := goodIn_app (goodIn_of _ (by decide +kernel)) ggJ2_checkIndex_2214a_J2_length_9d52b
set_option maxRecDepth 20000 in
theorem ggJ2_checkIndex_2214a_J0_checkIndex_df160 : GoodIn wsJ2_checkIndex_2214a wsJ0_checkIndex_df160 := goodIn_r _ [8, 9, 10, 11, 12, 13] (by decide +kernel) (by decide +kernel)
set_option maxRecDepth 20000 in
theorem gJ2_checkIndex_2214a_J0_checkIndex_df160 : GoodIn wsJ2_checkIndex_2214a (va_wsS RJ2 414 yJ0_checkIndex_df160 wsJ0_checkIndex_df160) := goodIn_app (goodIn_of _ (by decide +kernel)) ggJ2_checkIndex_2214a_J0_checkIndex_df160
theorem dJ2_checkIndex_2214a_0 : decode cJ2_checkIndex_2214a 0 = .ok (.iload_n 0, 1) := by decide +kernel
theorem dJ2_checkIndex_2214a_1 : decode cJ2_checkIndex_2214a 1 = .ok (.aload_n 1, 1) := by decide +kernel
theorem dJ2_checkIndex_2214a_2 : decode cJ2_checkIndex_2214a 2 = .ok (.invokestatic 48, 3) := by decide +kernel
theorem dJ2_checkIndex_2214a_5 : decode cJ2_checkIndex_2214a 5 = .ok (.invokestatic 414, 3) := by decide +kernel
theorem dJ2_checkIndex_2214a_8 : decode cJ2_checkIndex_2214a 8 = .ok (.return_, 1) := by decide +kernel
theorem dJ7_fill_53178_0 : decode cJ7_fill_53178 0 = .ok (.iconst 0, 1) := by decide +kernel
theorem dJ7_fill_53178_1 : decode cJ7_fill_53178 1 = .ok (.istore_n 2, 1) := by decide +kernel
theorem dJ7_fill_53178_2 : decode cJ7_fill_53178 2 = .ok (.aload_n 0, 1) := by decide +kernel
theorem dJ7_fill_53178_3 : decode cJ7_fill_53178 3 = .ok (.arraylength, 1) := by decide +kernel
theorem dJ7_fill_53178_4 : decode cJ7_fill_53178 4 = .ok (.istore_n 3, 1) := by decide +kernel
theorem dJ7_fill_53178_5 : decode cJ7_fill_53178 5 = .ok (.iload_n 2, 1) := by decide +kernel
theorem dJ7_fill_53178_6 : decode cJ7_fill_53178 6 = .ok (.iload_n 3, 1) := by decide +kernel
theorem dJ7_fill_53178_7 : decode cJ7_fill_53178 7 = .ok (.if_icmp .ge 13, 3) := by decide +kernel
theorem dJ7_fill_53178_10 : decode cJ7_fill_53178 10 = .ok (.aload_n 0, 1) := by decide +kernel
theorem dJ7_fill_53178_11 : decode cJ7_fill_53178 11 = .ok (.iload_n 2, 1) := by decide +kernel
theorem dJ7_fill_53178_12 : decode cJ7_fill_53178 12 = .ok (.iload_n 1, 1) := by decide +kernel
theorem dJ7_fill_53178_13 : decode cJ7_fill_53178 13 = .ok (.iastore, 1) := by decide +kernel
theorem dJ7_fill_53178_14 : decode cJ7_fill_53178 14 = .ok (.iinc 2 1, 3) := by decide +kernel
theorem dJ7_fill_53178_17 : decode cJ7_fill_53178 17 = .ok (.goto (-12), 3) := by decide +kernel
theorem dJ7_fill_53178_20 : decode cJ7_fill_53178 20 = .ok (.return_, 1) := by decide +kernel
theorem dJ3_checkIndex_8e157_0 : decode cJ3_checkIndex_8e157 0 = .ok (.iload_n 0, 1) := by decide +kernel
theorem dJ3_checkIndex_8e157_1 : decode cJ3_checkIndex_8e157 1 = .ok (.ifCond .lt 8, 3) := by decide +kernel
theorem dJ3_checkIndex_8e157_4 : decode cJ3_checkIndex_8e157 4 = .ok (.iload_n 0, 1) := by decide +kernel
theorem dJ3_checkIndex_8e157_5 : decode cJ3_checkIndex_8e157 5 = .ok (.iload_n 1, 1) := by decide +kernel
theorem dJ3_checkIndex_8e157_6 : decode cJ3_checkIndex_8e157 6 = .ok (.if_icmp .lt 10, 3) := by decide +kernel
theorem dJ3_checkIndex_8e157_9 : decode cJ3_checkIndex_8e157 9 = .ok (.aload_n 2, 1) := by decide +kernel
theorem dJ3_checkIndex_8e157_10 : decode cJ3_checkIndex_8e157 10 = .ok (.iload_n 0, 1) := by decide +kernel
theorem dJ3_checkIndex_8e157_11 : decode cJ3_checkIndex_8e157 11 = .ok (.iload_n 1, 1) := by decide +kernel
theorem dJ3_checkIndex_8e157_12 : decode cJ3_checkIndex_8e157 12 = .ok (.invokestatic 95, 3) := by decide +kernel
theorem dJ3_checkIndex_8e157_15 : decode cJ3_checkIndex_8e157 15 = .ok (.athrow, 1) := by decide +kernel
theorem dJ3_checkIndex_8e157_16 : decode cJ3_checkIndex_8e157 16 = .ok (.iload_n 0, 1) := by decide +kernel
theorem dJ3_checkIndex_8e157_17 : decode cJ3_checkIndex_8e157 17 = .ok (.ireturn, 1) := by decide +kernel
