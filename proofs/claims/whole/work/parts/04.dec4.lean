theorem dX9_chipAt_86 : decode cX9_chipAt 86 = .ok (.iconst 0, 1) := by decide +kernel
theorem dX9_chipAt_87 : decode cX9_chipAt 87 = .ok (.ireturn, 1) := by decide +kernel
set_option maxRecDepth 20000 in
theorem ggX9_enough_X9_everyPart : GoodIn wsX9_enough wsX9_everyPart := goodIn_r _ [7, 2, 31, 32, 33, 34, 35, 36, 37, 38, 39, 40, 41, 42, 43, 44, 45, 46, 47, 48, 49, 50, 51, 52, 53, 54, 55, 56, 57, 58, 59] (by decide +kernel) (by decide +kernel)
set_option maxRecDepth 20000 in
theorem gX9_enough_X9_everyPart : GoodIn wsX9_enough (wsV RX9 210 RX9 yX9_everyPart wsX9_everyPart) := goodIn_app (goodIn_of _ (by decide +kernel)) ggX9_enough_X9_everyPart
set_option maxRecDepth 20000 in
theorem ggX9_enough_X9_commonOf : GoodIn wsX9_enough wsX9_commonOf := goodIn_r _ [11, 2, 12, 13, 6, 14, 15, 16, 17, 18, 19, 20, 21, 22, 23, 24, 31, 32, 33, 34, 35, 36, 37, 38, 39, 40, 41, 42, 43, 44, 45, 46, 47, 48, 49, 50, 51, 52, 53, 54, 55, 56, 57, 58, 59] (by decide +kernel) (by decide +kernel)
set_option maxRecDepth 20000 in
theorem gX9_enough_X9_commonOf : GoodIn wsX9_enough (wsV RX9 213 RX9 yX9_commonOf wsX9_commonOf) := goodIn_app (goodIn_of _ (by decide +kernel)) ggX9_enough_X9_commonOf
set_option maxRecDepth 20000 in
theorem ggX9_enough_X9_ones : GoodIn wsX9_enough wsX9_ones := goodIn_r _ [27] (by decide +kernel) (by decide +kernel)
set_option maxRecDepth 20000 in
theorem gX9_enough_X9_ones : GoodIn wsX9_enough (va_wsS RX9 216 yX9_ones wsX9_ones) := goodIn_app (goodIn_of _ (by decide +kernel)) ggX9_enough_X9_ones
set_option maxRecDepth 20000 in
theorem ggX9_enough_X9_in : GoodIn wsX9_enough wsX9_in := goodIn_r _ [30] (by decide +kernel) (by decide +kernel)
set_option maxRecDepth 20000 in
theorem gX9_enough_X9_in : GoodIn wsX9_enough (va_wsS RX9 63 yX9_in wsX9_in) := goodIn_app (goodIn_of _ (by decide +kernel)) ggX9_enough_X9_in
theorem dX9_enough_0 : decode cX9_enough 0 = .ok (.aload_n 0, 1) := by decide +kernel
theorem dX9_enough_1 : decode cX9_enough 1 = .ok (.iconst 0, 1) := by decide +kernel
theorem dX9_enough_2 : decode cX9_enough 2 = .ok (.putfield 51, 3) := by decide +kernel
theorem dX9_enough_5 : decode cX9_enough 5 = .ok (.iconst (-1), 1) := by decide +kernel
theorem dX9_enough_6 : decode cX9_enough 6 = .ok (.istore_n 2, 1) := by decide +kernel
theorem dX9_enough_7 : decode cX9_enough 7 = .ok (.iconst 0, 1) := by decide +kernel
theorem dX9_enough_8 : decode cX9_enough 8 = .ok (.istore_n 3, 1) := by decide +kernel
theorem dX9_enough_9 : decode cX9_enough 9 = .ok (.iload_n 3, 1) := by decide +kernel
theorem dX9_enough_10 : decode cX9_enough 10 = .ok (.aload_n 0, 1) := by decide +kernel
theorem dX9_enough_11 : decode cX9_enough 11 = .ok (.invokevirtual 210, 3) := by decide +kernel
theorem dX9_enough_14 : decode cX9_enough 14 = .ok (.if_icmp .gt 41, 3) := by decide +kernel
theorem dX9_enough_17 : decode cX9_enough 17 = .ok (.aload_n 0, 1) := by decide +kernel
theorem dX9_enough_18 : decode cX9_enough 18 = .ok (.iload_n 3, 1) := by decide +kernel
theorem dX9_enough_19 : decode cX9_enough 19 = .ok (.invokevirtual 213, 3) := by decide +kernel
theorem dX9_enough_22 : decode cX9_enough 22 = .ok (.aload_n 0, 1) := by decide +kernel
theorem dX9_enough_23 : decode cX9_enough 23 = .ok (.getfield 7, 3) := by decide +kernel
theorem dX9_enough_26 : decode cX9_enough 26 = .ok (.iconst 1, 1) := by decide +kernel
theorem dX9_enough_27 : decode cX9_enough 27 = .ok (.iaload, 1) := by decide +kernel
theorem dX9_enough_28 : decode cX9_enough 28 = .ok (.if_icmp .lt 21, 3) := by decide +kernel
theorem dX9_enough_31 : decode cX9_enough 31 = .ok (.iload_n 2, 1) := by decide +kernel
theorem dX9_enough_32 : decode cX9_enough 32 = .ok (.iconst (-1), 1) := by decide +kernel
theorem dX9_enough_33 : decode cX9_enough 33 = .ok (.if_icmp .eq 14, 3) := by decide +kernel
theorem dX9_enough_36 : decode cX9_enough 36 = .ok (.iload_n 3, 1) := by decide +kernel
theorem dX9_enough_37 : decode cX9_enough 37 = .ok (.invokestatic 216, 3) := by decide +kernel
theorem dX9_enough_40 : decode cX9_enough 40 = .ok (.iload_n 2, 1) := by decide +kernel
theorem dX9_enough_41 : decode cX9_enough 41 = .ok (.invokestatic 216, 3) := by decide +kernel
theorem dX9_enough_44 : decode cX9_enough 44 = .ok (.if_icmp .ge 5, 3) := by decide +kernel
theorem dX9_enough_47 : decode cX9_enough 47 = .ok (.iload_n 3, 1) := by decide +kernel
theorem dX9_enough_48 : decode cX9_enough 48 = .ok (.istore_n 2, 1) := by decide +kernel
theorem dX9_enough_49 : decode cX9_enough 49 = .ok (.iinc 3 1, 3) := by decide +kernel
theorem dX9_enough_52 : decode cX9_enough 52 = .ok (.goto (-43), 3) := by decide +kernel
theorem dX9_enough_55 : decode cX9_enough 55 = .ok (.iload_n 2, 1) := by decide +kernel
theorem dX9_enough_56 : decode cX9_enough 56 = .ok (.iconst (-1), 1) := by decide +kernel
theorem dX9_enough_57 : decode cX9_enough 57 = .ok (.if_icmp .eq 12, 3) := by decide +kernel
theorem dX9_enough_60 : decode cX9_enough 60 = .ok (.iload_n 1, 1) := by decide +kernel
theorem dX9_enough_61 : decode cX9_enough 61 = .ok (.iconst 0, 1) := by decide +kernel
theorem dX9_enough_62 : decode cX9_enough 62 = .ok (.iconst 1, 1) := by decide +kernel
theorem dX9_enough_63 : decode cX9_enough 63 = .ok (.invokestatic 63, 3) := by decide +kernel
theorem dX9_enough_66 : decode cX9_enough 66 = .ok (.ifCond .ne 7, 3) := by decide +kernel
theorem dX9_enough_69 : decode cX9_enough 69 = .ok (.iconst (-1), 1) := by decide +kernel
theorem dX9_enough_70 : decode cX9_enough 70 = .ok (.goto 22, 3) := by decide +kernel
theorem dX9_enough_73 : decode cX9_enough 73 = .ok (.iload_n 1, 1) := by decide +kernel
theorem dX9_enough_74 : decode cX9_enough 74 = .ok (.ifCond .ne 7, 3) := by decide +kernel
theorem dX9_enough_77 : decode cX9_enough 77 = .ok (.iload_n 2, 1) := by decide +kernel
theorem dX9_enough_78 : decode cX9_enough 78 = .ok (.goto 14, 3) := by decide +kernel
theorem dX9_enough_81 : decode cX9_enough 81 = .ok (.aload_n 0, 1) := by decide +kernel
theorem dX9_enough_82 : decode cX9_enough 82 = .ok (.getfield 7, 3) := by decide +kernel
theorem dX9_enough_85 : decode cX9_enough 85 = .ok (.iconst 0, 1) := by decide +kernel
theorem dX9_enough_86 : decode cX9_enough 86 = .ok (.iaload, 1) := by decide +kernel
theorem dX9_enough_87 : decode cX9_enough 87 = .ok (.iload_n 2, 1) := by decide +kernel
theorem dX9_enough_88 : decode cX9_enough 88 = .ok (.invokestatic 216, 3) := by decide +kernel
theorem dX9_enough_91 : decode cX9_enough 91 = .ok (.isub, 1) := by decide +kernel
theorem dX9_enough_92 : decode cX9_enough 92 = .ok (.ireturn, 1) := by decide +kernel
set_option maxRecDepth 20000 in
theorem ggX9_laysFulls_X9_everyPart : GoodIn wsX9_laysFulls wsX9_everyPart := goodIn_r _ [8, 1, 29, 30, 31, 32, 33, 34, 35, 36, 37, 38, 39, 40, 41, 42, 43, 44, 45, 46, 47, 48, 49, 50, 51, 52, 53, 54, 55, 56, 57] (by decide +kernel) (by decide +kernel)
set_option maxRecDepth 20000 in
theorem gX9_laysFulls_X9_everyPart : GoodIn wsX9_laysFulls (wsV RX9 210 RX9 yX9_everyPart wsX9_everyPart) := goodIn_app (goodIn_of _ (by decide +kernel)) ggX9_laysFulls_X9_everyPart
set_option maxRecDepth 20000 in
theorem ggX9_laysFulls_X9_commonOf : GoodIn wsX9_laysFulls wsX9_commonOf := goodIn_r _ [12, 1, 13, 14, 7, 15, 16, 17, 18, 19, 20, 21, 22, 23, 24, 25, 29, 30, 31, 32, 33, 34, 35, 36, 37, 38, 39, 40, 41, 42, 43, 44, 45, 46, 47, 48, 49, 50, 51, 52, 53, 54, 55, 56, 57] (by decide +kernel) (by decide +kernel)
set_option maxRecDepth 20000 in
theorem gX9_laysFulls_X9_commonOf : GoodIn wsX9_laysFulls (wsV RX9 213 RX9 yX9_commonOf wsX9_commonOf) := goodIn_app (goodIn_of _ (by decide +kernel)) ggX9_laysFulls_X9_commonOf
set_option maxRecDepth 20000 in
theorem ggX9_laysFulls_X9_of : GoodIn wsX9_laysFulls wsX9_of := goodIn_r _ [19, 1, 29, 30, 31, 32, 33, 34, 35, 36, 37, 38, 39, 40, 41, 42, 43, 44, 45, 46, 47, 48, 49, 50, 51, 52, 53, 54, 55, 56, 57] (by decide +kernel) (by decide +kernel)
set_option maxRecDepth 20000 in
theorem gX9_laysFulls_X9_of : GoodIn wsX9_laysFulls (wsV RX9 195 RX9 yX9_of wsX9_of) := goodIn_app (goodIn_of _ (by decide +kernel)) ggX9_laysFulls_X9_of
set_option maxRecDepth 20000 in
theorem ggX9_laysFulls_X9_rest : GoodIn wsX9_laysFulls wsX9_rest := goodIn_r _ [28] (by decide +kernel) (by decide +kernel)
set_option maxRecDepth 20000 in
theorem gX9_laysFulls_X9_rest : GoodIn wsX9_laysFulls (va_wsS RX9 55 yX9_rest wsX9_rest) := goodIn_app (goodIn_of _ (by decide +kernel)) ggX9_laysFulls_X9_rest
set_option maxRecDepth 20000 in
theorem ggX9_laysFulls_X9_has : GoodIn wsX9_laysFulls wsX9_has := goodIn_r _ [15] (by decide +kernel) (by decide +kernel)
set_option maxRecDepth 20000 in
theorem gX9_laysFulls_X9_has : GoodIn wsX9_laysFulls (va_wsS RX9 201 yX9_has wsX9_has) := goodIn_app (goodIn_of _ (by decide +kernel)) ggX9_laysFulls_X9_has
theorem dX9_laysFulls_0 : decode cX9_laysFulls 0 = .ok (.aload_n 0, 1) := by decide +kernel
theorem dX9_laysFulls_1 : decode cX9_laysFulls 1 = .ok (.aload_n 0, 1) := by decide +kernel
theorem dX9_laysFulls_2 : decode cX9_laysFulls 2 = .ok (.invokevirtual 210, 3) := by decide +kernel
theorem dX9_laysFulls_5 : decode cX9_laysFulls 5 = .ok (.invokevirtual 213, 3) := by decide +kernel
theorem dX9_laysFulls_8 : decode cX9_laysFulls 8 = .ok (.istore_n 3, 1) := by decide +kernel
theorem dX9_laysFulls_9 : decode cX9_laysFulls 9 = .ok (.iconst 0, 1) := by decide +kernel
theorem dX9_laysFulls_10 : decode cX9_laysFulls 10 = .ok (.istore 4, 2) := by decide +kernel
theorem dX9_laysFulls_12 : decode cX9_laysFulls 12 = .ok (.iload 4, 2) := by decide +kernel
theorem dX9_laysFulls_14 : decode cX9_laysFulls 14 = .ok (.aload_n 0, 1) := by decide +kernel
theorem dX9_laysFulls_15 : decode cX9_laysFulls 15 = .ok (.getfield 7, 3) := by decide +kernel
theorem dX9_laysFulls_18 : decode cX9_laysFulls 18 = .ok (.iconst 0, 1) := by decide +kernel
theorem dX9_laysFulls_19 : decode cX9_laysFulls 19 = .ok (.iaload, 1) := by decide +kernel
theorem dX9_laysFulls_20 : decode cX9_laysFulls 20 = .ok (.if_icmp .ge 25, 3) := by decide +kernel
theorem dX9_laysFulls_23 : decode cX9_laysFulls 23 = .ok (.aload_n 0, 1) := by decide +kernel
theorem dX9_laysFulls_24 : decode cX9_laysFulls 24 = .ok (.getfield 24, 3) := by decide +kernel
theorem dX9_laysFulls_27 : decode cX9_laysFulls 27 = .ok (.iload 4, 2) := by decide +kernel
theorem dX9_laysFulls_29 : decode cX9_laysFulls 29 = .ok (.iconst 0, 1) := by decide +kernel
theorem dX9_laysFulls_30 : decode cX9_laysFulls 30 = .ok (.iastore, 1) := by decide +kernel
theorem dX9_laysFulls_31 : decode cX9_laysFulls 31 = .ok (.aload_n 0, 1) := by decide +kernel
theorem dX9_laysFulls_32 : decode cX9_laysFulls 32 = .ok (.getfield 27, 3) := by decide +kernel
theorem dX9_laysFulls_35 : decode cX9_laysFulls 35 = .ok (.iload 4, 2) := by decide +kernel
theorem dX9_laysFulls_37 : decode cX9_laysFulls 37 = .ok (.iconst 0, 1) := by decide +kernel
theorem dX9_laysFulls_38 : decode cX9_laysFulls 38 = .ok (.iastore, 1) := by decide +kernel
theorem dX9_laysFulls_39 : decode cX9_laysFulls 39 = .ok (.iinc 4 1, 3) := by decide +kernel
theorem dX9_laysFulls_42 : decode cX9_laysFulls 42 = .ok (.goto (-30), 3) := by decide +kernel
theorem dX9_laysFulls_45 : decode cX9_laysFulls 45 = .ok (.iload_n 1, 1) := by decide +kernel
theorem dX9_laysFulls_46 : decode cX9_laysFulls 46 = .ok (.iconst (-1), 1) := by decide +kernel
theorem dX9_laysFulls_47 : decode cX9_laysFulls 47 = .ok (.if_icmp .ne 7, 3) := by decide +kernel
theorem dX9_laysFulls_50 : decode cX9_laysFulls 50 = .ok (.iconst 0, 1) := by decide +kernel
theorem dX9_laysFulls_51 : decode cX9_laysFulls 51 = .ok (.goto 14, 3) := by decide +kernel
theorem dX9_laysFulls_54 : decode cX9_laysFulls 54 = .ok (.iload_n 2, 1) := by decide +kernel
theorem dX9_laysFulls_55 : decode cX9_laysFulls 55 = .ok (.ineg, 1) := by decide +kernel
theorem dX9_laysFulls_56 : decode cX9_laysFulls 56 = .ok (.aload_n 0, 1) := by decide +kernel
theorem dX9_laysFulls_57 : decode cX9_laysFulls 57 = .ok (.iload_n 1, 1) := by decide +kernel
theorem dX9_laysFulls_58 : decode cX9_laysFulls 58 = .ok (.iconst 0, 1) := by decide +kernel
theorem dX9_laysFulls_59 : decode cX9_laysFulls 59 = .ok (.invokevirtual 195, 3) := by decide +kernel
theorem dX9_laysFulls_62 : decode cX9_laysFulls 62 = .ok (.invokestatic 55, 3) := by decide +kernel
theorem dX9_laysFulls_65 : decode cX9_laysFulls 65 = .ok (.istore 4, 2) := by decide +kernel
theorem dX9_laysFulls_67 : decode cX9_laysFulls 67 = .ok (.iconst 0, 1) := by decide +kernel
theorem dX9_laysFulls_68 : decode cX9_laysFulls 68 = .ok (.istore 5, 2) := by decide +kernel
theorem dX9_laysFulls_70 : decode cX9_laysFulls 70 = .ok (.iload 5, 2) := by decide +kernel
theorem dX9_laysFulls_72 : decode cX9_laysFulls 72 = .ok (.iload_n 3, 1) := by decide +kernel
theorem dX9_laysFulls_73 : decode cX9_laysFulls 73 = .ok (.if_icmp .ge 265, 3) := by decide +kernel
theorem dX9_laysFulls_76 : decode cX9_laysFulls 76 = .ok (.iconst 0, 1) := by decide +kernel
theorem dX9_laysFulls_77 : decode cX9_laysFulls 77 = .ok (.istore 6, 2) := by decide +kernel
theorem dX9_laysFulls_79 : decode cX9_laysFulls 79 = .ok (.iconst 0, 1) := by decide +kernel
theorem dX9_laysFulls_80 : decode cX9_laysFulls 80 = .ok (.istore 7, 2) := by decide +kernel
theorem dX9_laysFulls_82 : decode cX9_laysFulls 82 = .ok (.iload 7, 2) := by decide +kernel
theorem dX9_laysFulls_84 : decode cX9_laysFulls 84 = .ok (.aload_n 0, 1) := by decide +kernel
theorem dX9_laysFulls_85 : decode cX9_laysFulls 85 = .ok (.getfield 7, 3) := by decide +kernel
theorem dX9_laysFulls_88 : decode cX9_laysFulls 88 = .ok (.iconst 0, 1) := by decide +kernel
theorem dX9_laysFulls_89 : decode cX9_laysFulls 89 = .ok (.iaload, 1) := by decide +kernel
theorem dX9_laysFulls_90 : decode cX9_laysFulls 90 = .ok (.if_icmp .ge 52, 3) := by decide +kernel
theorem dX9_laysFulls_93 : decode cX9_laysFulls 93 = .ok (.iload 6, 2) := by decide +kernel
theorem dX9_laysFulls_95 : decode cX9_laysFulls 95 = .ok (.aload_n 0, 1) := by decide +kernel
theorem dX9_laysFulls_96 : decode cX9_laysFulls 96 = .ok (.iload 7, 2) := by decide +kernel
theorem dX9_laysFulls_98 : decode cX9_laysFulls 98 = .ok (.iconst 2, 1) := by decide +kernel
theorem dX9_laysFulls_99 : decode cX9_laysFulls 99 = .ok (.invokevirtual 195, 3) := by decide +kernel
theorem dX9_laysFulls_102 : decode cX9_laysFulls 102 = .ok (.aload_n 0, 1) := by decide +kernel
theorem dX9_laysFulls_103 : decode cX9_laysFulls 103 = .ok (.getfield 27, 3) := by decide +kernel
theorem dX9_laysFulls_106 : decode cX9_laysFulls 106 = .ok (.iload 7, 2) := by decide +kernel
theorem dX9_laysFulls_108 : decode cX9_laysFulls 108 = .ok (.iaload, 1) := by decide +kernel
theorem dX9_laysFulls_109 : decode cX9_laysFulls 109 = .ok (.invokestatic 201, 3) := by decide +kernel
theorem dX9_laysFulls_112 : decode cX9_laysFulls 112 = .ok (.ifCond .eq 13, 3) := by decide +kernel
theorem dX9_laysFulls_115 : decode cX9_laysFulls 115 = .ok (.aload_n 0, 1) := by decide +kernel
theorem dX9_laysFulls_116 : decode cX9_laysFulls 116 = .ok (.iload 7, 2) := by decide +kernel
theorem dX9_laysFulls_118 : decode cX9_laysFulls 118 = .ok (.iconst 1, 1) := by decide +kernel
theorem dX9_laysFulls_119 : decode cX9_laysFulls 119 = .ok (.invokevirtual 195, 3) := by decide +kernel
theorem dX9_laysFulls_122 : decode cX9_laysFulls 122 = .ok (.goto 11, 3) := by decide +kernel
theorem dX9_laysFulls_125 : decode cX9_laysFulls 125 = .ok (.aload_n 0, 1) := by decide +kernel
theorem dX9_laysFulls_126 : decode cX9_laysFulls 126 = .ok (.iload 7, 2) := by decide +kernel
theorem dX9_laysFulls_128 : decode cX9_laysFulls 128 = .ok (.iconst 1, 1) := by decide +kernel
theorem dX9_laysFulls_129 : decode cX9_laysFulls 129 = .ok (.invokevirtual 195, 3) := by decide +kernel
theorem dX9_laysFulls_132 : decode cX9_laysFulls 132 = .ok (.ineg, 1) := by decide +kernel
theorem dX9_laysFulls_133 : decode cX9_laysFulls 133 = .ok (.iadd, 1) := by decide +kernel
theorem dX9_laysFulls_134 : decode cX9_laysFulls 134 = .ok (.istore 6, 2) := by decide +kernel
theorem dX9_laysFulls_136 : decode cX9_laysFulls 136 = .ok (.iinc 7 1, 3) := by decide +kernel
theorem dX9_laysFulls_139 : decode cX9_laysFulls 139 = .ok (.goto (-57), 3) := by decide +kernel
theorem dX9_laysFulls_142 : decode cX9_laysFulls 142 = .ok (.iload 6, 2) := by decide +kernel
theorem dX9_laysFulls_144 : decode cX9_laysFulls 144 = .ok (.ifCond .eq 16, 3) := by decide +kernel
theorem dX9_laysFulls_147 : decode cX9_laysFulls 147 = .ok (.iload 6, 2) := by decide +kernel
theorem dX9_laysFulls_149 : decode cX9_laysFulls 149 = .ok (.ifCond .le 7, 3) := by decide +kernel
theorem dX9_laysFulls_152 : decode cX9_laysFulls 152 = .ok (.iconst 1, 1) := by decide +kernel
theorem dX9_laysFulls_153 : decode cX9_laysFulls 153 = .ok (.goto 22, 3) := by decide +kernel
theorem dX9_laysFulls_156 : decode cX9_laysFulls 156 = .ok (.iconst 0, 1) := by decide +kernel
theorem dX9_laysFulls_157 : decode cX9_laysFulls 157 = .ok (.goto 18, 3) := by decide +kernel
theorem dX9_laysFulls_160 : decode cX9_laysFulls 160 = .ok (.aload_n 0, 1) := by decide +kernel
theorem dX9_laysFulls_161 : decode cX9_laysFulls 161 = .ok (.iconst 0, 1) := by decide +kernel
theorem dX9_laysFulls_162 : decode cX9_laysFulls 162 = .ok (.iconst 2, 1) := by decide +kernel
theorem dX9_laysFulls_163 : decode cX9_laysFulls 163 = .ok (.invokevirtual 195, 3) := by decide +kernel
theorem dX9_laysFulls_166 : decode cX9_laysFulls 166 = .ok (.aload_n 0, 1) := by decide +kernel
theorem dX9_laysFulls_167 : decode cX9_laysFulls 167 = .ok (.getfield 27, 3) := by decide +kernel
theorem dX9_laysFulls_170 : decode cX9_laysFulls 170 = .ok (.iconst 0, 1) := by decide +kernel
theorem dX9_laysFulls_171 : decode cX9_laysFulls 171 = .ok (.iaload, 1) := by decide +kernel
theorem dX9_laysFulls_172 : decode cX9_laysFulls 172 = .ok (.invokestatic 201, 3) := by decide +kernel
theorem dX9_laysFulls_175 : decode cX9_laysFulls 175 = .ok (.istore 7, 2) := by decide +kernel
theorem dX9_laysFulls_177 : decode cX9_laysFulls 177 = .ok (.iconst 0, 1) := by decide +kernel
theorem dX9_laysFulls_178 : decode cX9_laysFulls 178 = .ok (.istore 8, 2) := by decide +kernel
theorem dX9_laysFulls_180 : decode cX9_laysFulls 180 = .ok (.iload 8, 2) := by decide +kernel
theorem dX9_laysFulls_182 : decode cX9_laysFulls 182 = .ok (.aload_n 0, 1) := by decide +kernel
theorem dX9_laysFulls_183 : decode cX9_laysFulls 183 = .ok (.getfield 7, 3) := by decide +kernel
theorem dX9_laysFulls_186 : decode cX9_laysFulls 186 = .ok (.iconst 0, 1) := by decide +kernel
theorem dX9_laysFulls_187 : decode cX9_laysFulls 187 = .ok (.iaload, 1) := by decide +kernel
theorem dX9_laysFulls_188 : decode cX9_laysFulls 188 = .ok (.if_icmp .ge 57, 3) := by decide +kernel
theorem dX9_laysFulls_191 : decode cX9_laysFulls 191 = .ok (.aload_n 0, 1) := by decide +kernel
theorem dX9_laysFulls_192 : decode cX9_laysFulls 192 = .ok (.getfield 24, 3) := by decide +kernel
theorem dX9_laysFulls_195 : decode cX9_laysFulls 195 = .ok (.iload 8, 2) := by decide +kernel
theorem dX9_laysFulls_197 : decode cX9_laysFulls 197 = .ok (.dup2, 1) := by decide +kernel
theorem dX9_laysFulls_198 : decode cX9_laysFulls 198 = .ok (.iaload, 1) := by decide +kernel
theorem dX9_laysFulls_199 : decode cX9_laysFulls 199 = .ok (.aload_n 0, 1) := by decide +kernel
theorem dX9_laysFulls_200 : decode cX9_laysFulls 200 = .ok (.iload 8, 2) := by decide +kernel
theorem dX9_laysFulls_202 : decode cX9_laysFulls 202 = .ok (.iconst 2, 1) := by decide +kernel
theorem dX9_laysFulls_203 : decode cX9_laysFulls 203 = .ok (.invokevirtual 195, 3) := by decide +kernel
theorem dX9_laysFulls_206 : decode cX9_laysFulls 206 = .ok (.iload 8, 2) := by decide +kernel
theorem dX9_laysFulls_208 : decode cX9_laysFulls 208 = .ok (.iload_n 1, 1) := by decide +kernel
theorem dX9_laysFulls_209 : decode cX9_laysFulls 209 = .ok (.if_icmp .ne 8, 3) := by decide +kernel
theorem dX9_laysFulls_212 : decode cX9_laysFulls 212 = .ok (.iload 4, 2) := by decide +kernel
theorem dX9_laysFulls_214 : decode cX9_laysFulls 214 = .ok (.goto 10, 3) := by decide +kernel
theorem dX9_laysFulls_217 : decode cX9_laysFulls 217 = .ok (.aload_n 0, 1) := by decide +kernel
theorem dX9_laysFulls_218 : decode cX9_laysFulls 218 = .ok (.getfield 27, 3) := by decide +kernel
theorem dX9_laysFulls_221 : decode cX9_laysFulls 221 = .ok (.iload 8, 2) := by decide +kernel
theorem dX9_laysFulls_223 : decode cX9_laysFulls 223 = .ok (.iaload, 1) := by decide +kernel
theorem dX9_laysFulls_224 : decode cX9_laysFulls 224 = .ok (.invokestatic 201, 3) := by decide +kernel
theorem dX9_laysFulls_227 : decode cX9_laysFulls 227 = .ok (.iload 7, 2) := by decide +kernel
theorem dX9_laysFulls_229 : decode cX9_laysFulls 229 = .ok (.if_icmp .ne 7, 3) := by decide +kernel
theorem dX9_laysFulls_232 : decode cX9_laysFulls 232 = .ok (.iconst 1, 1) := by decide +kernel
theorem dX9_laysFulls_233 : decode cX9_laysFulls 233 = .ok (.goto 4, 3) := by decide +kernel
theorem dX9_laysFulls_236 : decode cX9_laysFulls 236 = .ok (.iconst (-1), 1) := by decide +kernel
theorem dX9_laysFulls_237 : decode cX9_laysFulls 237 = .ok (.iadd, 1) := by decide +kernel
theorem dX9_laysFulls_238 : decode cX9_laysFulls 238 = .ok (.iastore, 1) := by decide +kernel
theorem dX9_laysFulls_239 : decode cX9_laysFulls 239 = .ok (.iinc 8 1, 3) := by decide +kernel
theorem dX9_laysFulls_242 : decode cX9_laysFulls 242 = .ok (.goto (-62), 3) := by decide +kernel
theorem dX9_laysFulls_245 : decode cX9_laysFulls 245 = .ok (.iconst 0, 1) := by decide +kernel
theorem dX9_laysFulls_246 : decode cX9_laysFulls 246 = .ok (.istore 8, 2) := by decide +kernel
theorem dX9_laysFulls_248 : decode cX9_laysFulls 248 = .ok (.iload 8, 2) := by decide +kernel
theorem dX9_laysFulls_250 : decode cX9_laysFulls 250 = .ok (.aload_n 0, 1) := by decide +kernel
theorem dX9_laysFulls_251 : decode cX9_laysFulls 251 = .ok (.getfield 7, 3) := by decide +kernel
theorem dX9_laysFulls_254 : decode cX9_laysFulls 254 = .ok (.iconst 0, 1) := by decide +kernel
theorem dX9_laysFulls_255 : decode cX9_laysFulls 255 = .ok (.iaload, 1) := by decide +kernel
theorem dX9_laysFulls_256 : decode cX9_laysFulls 256 = .ok (.if_icmp .ge 48, 3) := by decide +kernel
theorem dX9_laysFulls_259 : decode cX9_laysFulls 259 = .ok (.aload_n 0, 1) := by decide +kernel
theorem dX9_laysFulls_260 : decode cX9_laysFulls 260 = .ok (.getfield 27, 3) := by decide +kernel
theorem dX9_laysFulls_263 : decode cX9_laysFulls 263 = .ok (.iload 8, 2) := by decide +kernel
theorem dX9_laysFulls_265 : decode cX9_laysFulls 265 = .ok (.aload_n 0, 1) := by decide +kernel
theorem dX9_laysFulls_266 : decode cX9_laysFulls 266 = .ok (.getfield 27, 3) := by decide +kernel
theorem dX9_laysFulls_269 : decode cX9_laysFulls 269 = .ok (.iload 8, 2) := by decide +kernel
theorem dX9_laysFulls_271 : decode cX9_laysFulls 271 = .ok (.iaload, 1) := by decide +kernel
theorem dX9_laysFulls_272 : decode cX9_laysFulls 272 = .ok (.iconst 1, 1) := by decide +kernel
theorem dX9_laysFulls_273 : decode cX9_laysFulls 273 = .ok (.iadd, 1) := by decide +kernel
theorem dX9_laysFulls_274 : decode cX9_laysFulls 274 = .ok (.aload_n 0, 1) := by decide +kernel
theorem dX9_laysFulls_275 : decode cX9_laysFulls 275 = .ok (.iload 8, 2) := by decide +kernel
theorem dX9_laysFulls_277 : decode cX9_laysFulls 277 = .ok (.iconst 0, 1) := by decide +kernel
theorem dX9_laysFulls_278 : decode cX9_laysFulls 278 = .ok (.invokevirtual 195, 3) := by decide +kernel
theorem dX9_laysFulls_281 : decode cX9_laysFulls 281 = .ok (.if_icmp .ne 7, 3) := by decide +kernel
theorem dX9_laysFulls_284 : decode cX9_laysFulls 284 = .ok (.iconst 0, 1) := by decide +kernel
theorem dX9_laysFulls_285 : decode cX9_laysFulls 285 = .ok (.goto 12, 3) := by decide +kernel
theorem dX9_laysFulls_288 : decode cX9_laysFulls 288 = .ok (.aload_n 0, 1) := by decide +kernel
theorem dX9_laysFulls_289 : decode cX9_laysFulls 289 = .ok (.getfield 27, 3) := by decide +kernel
theorem dX9_laysFulls_292 : decode cX9_laysFulls 292 = .ok (.iload 8, 2) := by decide +kernel
theorem dX9_laysFulls_294 : decode cX9_laysFulls 294 = .ok (.iaload, 1) := by decide +kernel
theorem dX9_laysFulls_295 : decode cX9_laysFulls 295 = .ok (.iconst 1, 1) := by decide +kernel
theorem dX9_laysFulls_296 : decode cX9_laysFulls 296 = .ok (.iadd, 1) := by decide +kernel
theorem dX9_laysFulls_297 : decode cX9_laysFulls 297 = .ok (.iastore, 1) := by decide +kernel
theorem dX9_laysFulls_298 : decode cX9_laysFulls 298 = .ok (.iinc 8 1, 3) := by decide +kernel
theorem dX9_laysFulls_301 : decode cX9_laysFulls 301 = .ok (.goto (-53), 3) := by decide +kernel
theorem dX9_laysFulls_304 : decode cX9_laysFulls 304 = .ok (.iload_n 1, 1) := by decide +kernel
theorem dX9_laysFulls_305 : decode cX9_laysFulls 305 = .ok (.iconst (-1), 1) := by decide +kernel
theorem dX9_laysFulls_306 : decode cX9_laysFulls 306 = .ok (.if_icmp .eq 20, 3) := by decide +kernel
theorem dX9_laysFulls_309 : decode cX9_laysFulls 309 = .ok (.iload 4, 2) := by decide +kernel
theorem dX9_laysFulls_311 : decode cX9_laysFulls 311 = .ok (.iconst 1, 1) := by decide +kernel
theorem dX9_laysFulls_312 : decode cX9_laysFulls 312 = .ok (.iadd, 1) := by decide +kernel
theorem dX9_laysFulls_313 : decode cX9_laysFulls 313 = .ok (.aload_n 0, 1) := by decide +kernel
theorem dX9_laysFulls_314 : decode cX9_laysFulls 314 = .ok (.iload_n 1, 1) := by decide +kernel
theorem dX9_laysFulls_315 : decode cX9_laysFulls 315 = .ok (.iconst 0, 1) := by decide +kernel
theorem dX9_laysFulls_316 : decode cX9_laysFulls 316 = .ok (.invokevirtual 195, 3) := by decide +kernel
theorem dX9_laysFulls_319 : decode cX9_laysFulls 319 = .ok (.if_icmp .ne 7, 3) := by decide +kernel
theorem dX9_laysFulls_322 : decode cX9_laysFulls 322 = .ok (.iconst 0, 1) := by decide +kernel
theorem dX9_laysFulls_323 : decode cX9_laysFulls 323 = .ok (.goto 7, 3) := by decide +kernel
theorem dX9_laysFulls_326 : decode cX9_laysFulls 326 = .ok (.iload 4, 2) := by decide +kernel
theorem dX9_laysFulls_328 : decode cX9_laysFulls 328 = .ok (.iconst 1, 1) := by decide +kernel
theorem dX9_laysFulls_329 : decode cX9_laysFulls 329 = .ok (.iadd, 1) := by decide +kernel
theorem dX9_laysFulls_330 : decode cX9_laysFulls 330 = .ok (.istore 4, 2) := by decide +kernel
theorem dX9_laysFulls_332 : decode cX9_laysFulls 332 = .ok (.iinc 5 1, 3) := by decide +kernel
theorem dX9_laysFulls_335 : decode cX9_laysFulls 335 = .ok (.goto (-265), 3) := by decide +kernel
theorem dX9_laysFulls_338 : decode cX9_laysFulls 338 = .ok (.return_, 1) := by decide +kernel
set_option maxRecDepth 20000 in
theorem ggX9_leastFull_X9_lesser : GoodIn wsX9_leastFull wsX9_lesser := goodIn_r _ [6] (by decide +kernel) (by decide +kernel)
set_option maxRecDepth 20000 in
theorem gX9_leastFull_X9_lesser : GoodIn wsX9_leastFull (va_wsS RX9 219 yX9_lesser wsX9_lesser) := goodIn_app (goodIn_of _ (by decide +kernel)) ggX9_leastFull_X9_lesser
theorem dX9_leastFull_0 : decode cX9_leastFull 0 = .ok (.aload_n 0, 1) := by decide +kernel
theorem dX9_leastFull_1 : decode cX9_leastFull 1 = .ok (.getfield 24, 3) := by decide +kernel
theorem dX9_leastFull_4 : decode cX9_leastFull 4 = .ok (.iconst 0, 1) := by decide +kernel
theorem dX9_leastFull_5 : decode cX9_leastFull 5 = .ok (.iaload, 1) := by decide +kernel
theorem dX9_leastFull_6 : decode cX9_leastFull 6 = .ok (.istore_n 1, 1) := by decide +kernel
theorem dX9_leastFull_7 : decode cX9_leastFull 7 = .ok (.iconst 1, 1) := by decide +kernel
theorem dX9_leastFull_8 : decode cX9_leastFull 8 = .ok (.istore_n 2, 1) := by decide +kernel
theorem dX9_leastFull_9 : decode cX9_leastFull 9 = .ok (.iload_n 2, 1) := by decide +kernel
theorem dX9_leastFull_10 : decode cX9_leastFull 10 = .ok (.aload_n 0, 1) := by decide +kernel
theorem dX9_leastFull_11 : decode cX9_leastFull 11 = .ok (.getfield 7, 3) := by decide +kernel
theorem dX9_leastFull_14 : decode cX9_leastFull 14 = .ok (.iconst 0, 1) := by decide +kernel
theorem dX9_leastFull_15 : decode cX9_leastFull 15 = .ok (.iaload, 1) := by decide +kernel
theorem dX9_leastFull_16 : decode cX9_leastFull 16 = .ok (.if_icmp .ge 20, 3) := by decide +kernel
theorem dX9_leastFull_19 : decode cX9_leastFull 19 = .ok (.iload_n 1, 1) := by decide +kernel
theorem dX9_leastFull_20 : decode cX9_leastFull 20 = .ok (.aload_n 0, 1) := by decide +kernel
theorem dX9_leastFull_21 : decode cX9_leastFull 21 = .ok (.getfield 24, 3) := by decide +kernel
theorem dX9_leastFull_24 : decode cX9_leastFull 24 = .ok (.iload_n 2, 1) := by decide +kernel
theorem dX9_leastFull_25 : decode cX9_leastFull 25 = .ok (.iaload, 1) := by decide +kernel
theorem dX9_leastFull_26 : decode cX9_leastFull 26 = .ok (.invokestatic 219, 3) := by decide +kernel
theorem dX9_leastFull_29 : decode cX9_leastFull 29 = .ok (.istore_n 1, 1) := by decide +kernel
theorem dX9_leastFull_30 : decode cX9_leastFull 30 = .ok (.iinc 2 1, 3) := by decide +kernel
theorem dX9_leastFull_33 : decode cX9_leastFull 33 = .ok (.goto (-24), 3) := by decide +kernel
theorem dX9_leastFull_36 : decode cX9_leastFull 36 = .ok (.iload_n 1, 1) := by decide +kernel
theorem dX9_leastFull_37 : decode cX9_leastFull 37 = .ok (.ireturn, 1) := by decide +kernel
set_option maxRecDepth 20000 in
theorem ggX9_better_X9_isPart : GoodIn wsX9_better wsX9_isPart := goodIn_r _ [7, 8, 9, 10, 6, 11, 53, 54, 55, 56, 57, 58, 59, 60, 61, 62, 63, 64, 65, 66, 67, 68, 69, 70, 71, 72, 73, 74, 75, 76, 77, 78, 79, 80, 81] (by decide +kernel) (by decide +kernel)
set_option maxRecDepth 20000 in
theorem gX9_better_X9_isPart : GoodIn wsX9_better (wsV RX9 192 RX9 yX9_isPart wsX9_isPart) := goodIn_app (goodIn_of _ (by decide +kernel)) ggX9_better_X9_isPart
set_option maxRecDepth 20000 in
theorem ggX9_better_X9_of : GoodIn wsX9_better wsX9_of := goodIn_r _ [15, 8, 53, 54, 55, 56, 57, 58, 59, 60, 61, 62, 63, 64, 65, 66, 67, 68, 69, 70, 71, 72, 73, 74, 75, 76, 77, 78, 79, 80, 81] (by decide +kernel) (by decide +kernel)
set_option maxRecDepth 20000 in
theorem gX9_better_X9_of : GoodIn wsX9_better (wsV RX9 195 RX9 yX9_of wsX9_of) := goodIn_app (goodIn_of _ (by decide +kernel)) ggX9_better_X9_of
set_option maxRecDepth 20000 in
theorem ggX9_better_X9_lays : GoodIn wsX9_better wsX9_lays := goodIn_r _ [19, 8, 53, 54, 55, 56, 57, 58, 59, 60, 61, 62, 63, 64, 65, 66, 67, 68, 69, 70, 71, 72, 73, 74, 75, 76, 77, 78, 79, 80, 81] (by decide +kernel) (by decide +kernel)
set_option maxRecDepth 20000 in
theorem gX9_better_X9_lays : GoodIn wsX9_better (wsV RX9 198 RX9 yX9_lays wsX9_lays) := goodIn_app (goodIn_of _ (by decide +kernel)) ggX9_better_X9_lays
set_option maxRecDepth 20000 in
theorem ggX9_better_X9_laysFulls : GoodIn wsX9_better wsX9_laysFulls := goodIn_r _ [23, 8, 24, 25, 26, 27, 28, 6, 29, 30, 31, 32, 33, 34, 35, 36, 12, 13, 14, 15, 37, 38, 39, 40, 41, 42, 43, 44, 45, 53, 54, 55, 56, 57, 58, 59, 60, 61, 62, 63, 64, 65, 66, 67, 68, 69, 70, 71, 72, 73, 74, 75, 76, 77, 78, 79, 80, 81] (by decide +kernel) (by decide +kernel)
set_option maxRecDepth 20000 in
theorem gX9_better_X9_laysFulls : GoodIn wsX9_better (wsV RX9 223 RX9 yX9_laysFulls wsX9_laysFulls) := goodIn_app (goodIn_of _ (by decide +kernel)) ggX9_better_X9_laysFulls
set_option maxRecDepth 20000 in
theorem ggX9_better_X9_leastFull : GoodIn wsX9_better wsX9_leastFull := goodIn_r _ [49, 24, 8, 50, 51, 6, 52, 53, 54, 55, 56, 57, 58, 59, 60, 61, 62, 63, 64, 65, 66, 67, 68, 69, 70, 71, 72, 73, 74, 75, 76, 77, 78, 79, 80, 81] (by decide +kernel) (by decide +kernel)
set_option maxRecDepth 20000 in
theorem gX9_better_X9_leastFull : GoodIn wsX9_better (wsV RX9 226 RX9 yX9_leastFull wsX9_leastFull) := goodIn_app (goodIn_of _ (by decide +kernel)) ggX9_better_X9_leastFull
theorem dX9_better_0 : decode cX9_better 0 = .ok (.aload_n 0, 1) := by decide +kernel
theorem dX9_better_1 : decode cX9_better 1 = .ok (.iconst 0, 1) := by decide +kernel
theorem dX9_better_2 : decode cX9_better 2 = .ok (.putfield 51, 3) := by decide +kernel
theorem dX9_better_5 : decode cX9_better 5 = .ok (.aload_n 0, 1) := by decide +kernel
theorem dX9_better_6 : decode cX9_better 6 = .ok (.iload_n 1, 1) := by decide +kernel
theorem dX9_better_7 : decode cX9_better 7 = .ok (.invokevirtual 192, 3) := by decide +kernel
theorem dX9_better_10 : decode cX9_better 10 = .ok (.ifCond .ne 6, 3) := by decide +kernel
theorem dX9_better_13 : decode cX9_better 13 = .ok (.ldc 222, 2) := by decide +kernel
theorem dX9_better_15 : decode cX9_better 15 = .ok (.ireturn, 1) := by decide +kernel
theorem dX9_better_16 : decode cX9_better 16 = .ok (.aload_n 0, 1) := by decide +kernel
theorem dX9_better_17 : decode cX9_better 17 = .ok (.iload_n 1, 1) := by decide +kernel
theorem dX9_better_18 : decode cX9_better 18 = .ok (.iconst 1, 1) := by decide +kernel
theorem dX9_better_19 : decode cX9_better 19 = .ok (.invokevirtual 195, 3) := by decide +kernel
theorem dX9_better_22 : decode cX9_better 22 = .ok (.istore_n 3, 1) := by decide +kernel
theorem dX9_better_23 : decode cX9_better 23 = .ok (.iconst 0, 1) := by decide +kernel
theorem dX9_better_24 : decode cX9_better 24 = .ok (.istore 4, 2) := by decide +kernel
theorem dX9_better_26 : decode cX9_better 26 = .ok (.ldc 222, 2) := by decide +kernel
theorem dX9_better_28 : decode cX9_better 28 = .ok (.istore 5, 2) := by decide +kernel
theorem dX9_better_30 : decode cX9_better 30 = .ok (.iconst 1, 1) := by decide +kernel
theorem dX9_better_31 : decode cX9_better 31 = .ok (.istore 6, 2) := by decide +kernel
theorem dX9_better_33 : decode cX9_better 33 = .ok (.iload 6, 2) := by decide +kernel
theorem dX9_better_35 : decode cX9_better 35 = .ok (.bipush 9, 2) := by decide +kernel
theorem dX9_better_37 : decode cX9_better 37 = .ok (.if_icmp .gt 42, 3) := by decide +kernel
theorem dX9_better_40 : decode cX9_better 40 = .ok (.aload_n 0, 1) := by decide +kernel
theorem dX9_better_41 : decode cX9_better 41 = .ok (.iload_n 1, 1) := by decide +kernel
theorem dX9_better_42 : decode cX9_better 42 = .ok (.iconst 1, 1) := by decide +kernel
theorem dX9_better_43 : decode cX9_better 43 = .ok (.iload 6, 2) := by decide +kernel
theorem dX9_better_45 : decode cX9_better 45 = .ok (.invokevirtual 198, 3) := by decide +kernel
theorem dX9_better_48 : decode cX9_better 48 = .ok (.aload_n 0, 1) := by decide +kernel
theorem dX9_better_49 : decode cX9_better 49 = .ok (.iconst (-1), 1) := by decide +kernel
theorem dX9_better_50 : decode cX9_better 50 = .ok (.iconst 0, 1) := by decide +kernel
theorem dX9_better_51 : decode cX9_better 51 = .ok (.invokevirtual 223, 3) := by decide +kernel
theorem dX9_better_54 : decode cX9_better 54 = .ok (.aload_n 0, 1) := by decide +kernel
theorem dX9_better_55 : decode cX9_better 55 = .ok (.invokevirtual 226, 3) := by decide +kernel
theorem dX9_better_58 : decode cX9_better 58 = .ok (.iload 5, 2) := by decide +kernel
theorem dX9_better_60 : decode cX9_better 60 = .ok (.if_icmp .le 13, 3) := by decide +kernel
theorem dX9_better_63 : decode cX9_better 63 = .ok (.aload_n 0, 1) := by decide +kernel
theorem dX9_better_64 : decode cX9_better 64 = .ok (.invokevirtual 226, 3) := by decide +kernel
theorem dX9_better_67 : decode cX9_better 67 = .ok (.istore 5, 2) := by decide +kernel
theorem dX9_better_69 : decode cX9_better 69 = .ok (.iload 6, 2) := by decide +kernel
theorem dX9_better_71 : decode cX9_better 71 = .ok (.istore 4, 2) := by decide +kernel
theorem dX9_better_73 : decode cX9_better 73 = .ok (.iinc 6 1, 3) := by decide +kernel
theorem dX9_better_76 : decode cX9_better 76 = .ok (.goto (-43), 3) := by decide +kernel
theorem dX9_better_79 : decode cX9_better 79 = .ok (.aload_n 0, 1) := by decide +kernel
theorem dX9_better_80 : decode cX9_better 80 = .ok (.iload_n 1, 1) := by decide +kernel
theorem dX9_better_81 : decode cX9_better 81 = .ok (.iconst 1, 1) := by decide +kernel
theorem dX9_better_82 : decode cX9_better 82 = .ok (.iload_n 3, 1) := by decide +kernel
theorem dX9_better_83 : decode cX9_better 83 = .ok (.invokevirtual 198, 3) := by decide +kernel
theorem dX9_better_86 : decode cX9_better 86 = .ok (.iload_n 2, 1) := by decide +kernel
theorem dX9_better_87 : decode cX9_better 87 = .ok (.ifCond .eq 8, 3) := by decide +kernel
theorem dX9_better_90 : decode cX9_better 90 = .ok (.iload 5, 2) := by decide +kernel
theorem dX9_better_92 : decode cX9_better 92 = .ok (.goto 5, 3) := by decide +kernel
theorem dX9_better_95 : decode cX9_better 95 = .ok (.iload 4, 2) := by decide +kernel
theorem dX9_better_97 : decode cX9_better 97 = .ok (.ireturn, 1) := by decide +kernel
set_option maxRecDepth 20000 in
theorem ggX9_code_X9_of : GoodIn wsX9_code wsX9_of := goodIn_r _ [7, 2, 25, 26, 27, 28, 29, 30, 31, 32, 33, 34, 35, 36, 37, 38, 39, 40, 41, 42, 43, 44, 45, 46, 47, 48, 49, 50, 51, 52, 53] (by decide +kernel) (by decide +kernel)
set_option maxRecDepth 20000 in
theorem gX9_code_X9_of : GoodIn wsX9_code (wsV RX9 195 RX9 yX9_of wsX9_of) := goodIn_app (goodIn_of _ (by decide +kernel)) ggX9_code_X9_of
set_option maxRecDepth 20000 in
theorem ggX9_code_X9_everyPart : GoodIn wsX9_code wsX9_everyPart := goodIn_r _ [11, 2, 25, 26, 27, 28, 29, 30, 31, 32, 33, 34, 35, 36, 37, 38, 39, 40, 41, 42, 43, 44, 45, 46, 47, 48, 49, 50, 51, 52, 53] (by decide +kernel) (by decide +kernel)
set_option maxRecDepth 20000 in
theorem gX9_code_X9_everyPart : GoodIn wsX9_code (wsV RX9 210 RX9 yX9_everyPart wsX9_everyPart) := goodIn_app (goodIn_of _ (by decide +kernel)) ggX9_code_X9_everyPart
set_option maxRecDepth 20000 in
theorem ggX9_code_X9_commonOf : GoodIn wsX9_code wsX9_commonOf := goodIn_r _ [15, 2, 16, 17, 6, 18, 3, 4, 5, 7, 19, 20, 21, 22, 23, 24, 25, 26, 27, 28, 29, 30, 31, 32, 33, 34, 35, 36, 37, 38, 39, 40, 41, 42, 43, 44, 45, 46, 47, 48, 49, 50, 51, 52, 53] (by decide +kernel) (by decide +kernel)
set_option maxRecDepth 20000 in
theorem gX9_code_X9_commonOf : GoodIn wsX9_code (wsV RX9 213 RX9 yX9_commonOf wsX9_commonOf) := goodIn_app (goodIn_of _ (by decide +kernel)) ggX9_code_X9_commonOf
theorem dX9_code_0 : decode cX9_code 0 = .ok (.aload_n 0, 1) := by decide +kernel
theorem dX9_code_1 : decode cX9_code 1 = .ok (.iconst 0, 1) := by decide +kernel
theorem dX9_code_2 : decode cX9_code 2 = .ok (.putfield 51, 3) := by decide +kernel
theorem dX9_code_5 : decode cX9_code 5 = .ok (.iconst 0, 1) := by decide +kernel
theorem dX9_code_6 : decode cX9_code 6 = .ok (.istore_n 2, 1) := by decide +kernel
theorem dX9_code_7 : decode cX9_code 7 = .ok (.iconst 0, 1) := by decide +kernel
theorem dX9_code_8 : decode cX9_code 8 = .ok (.istore_n 3, 1) := by decide +kernel
theorem dX9_code_9 : decode cX9_code 9 = .ok (.iload_n 3, 1) := by decide +kernel
theorem dX9_code_10 : decode cX9_code 10 = .ok (.aload_n 0, 1) := by decide +kernel
theorem dX9_code_11 : decode cX9_code 11 = .ok (.getfield 7, 3) := by decide +kernel
theorem dX9_code_14 : decode cX9_code 14 = .ok (.iconst 0, 1) := by decide +kernel
theorem dX9_code_15 : decode cX9_code 15 = .ok (.iaload, 1) := by decide +kernel
theorem dX9_code_16 : decode cX9_code 16 = .ok (.if_icmp .ge 18, 3) := by decide +kernel
theorem dX9_code_19 : decode cX9_code 19 = .ok (.iload_n 2, 1) := by decide +kernel
theorem dX9_code_20 : decode cX9_code 20 = .ok (.aload_n 0, 1) := by decide +kernel
theorem dX9_code_21 : decode cX9_code 21 = .ok (.iload_n 3, 1) := by decide +kernel
theorem dX9_code_22 : decode cX9_code 22 = .ok (.iconst 1, 1) := by decide +kernel
theorem dX9_code_23 : decode cX9_code 23 = .ok (.invokevirtual 195, 3) := by decide +kernel
theorem dX9_code_26 : decode cX9_code 26 = .ok (.iadd, 1) := by decide +kernel
theorem dX9_code_27 : decode cX9_code 27 = .ok (.istore_n 2, 1) := by decide +kernel
theorem dX9_code_28 : decode cX9_code 28 = .ok (.iinc 3 1, 3) := by decide +kernel
theorem dX9_code_31 : decode cX9_code 31 = .ok (.goto (-22), 3) := by decide +kernel
theorem dX9_code_34 : decode cX9_code 34 = .ok (.iload_n 1, 1) := by decide +kernel
theorem dX9_code_35 : decode cX9_code 35 = .ok (.tableswitch 65 0 4 #[33, 40, 49, 56, 58], 33) := by decide +kernel
theorem dX9_code_68 : decode cX9_code 68 = .ok (.aload_n 0, 1) := by decide +kernel
theorem dX9_code_69 : decode cX9_code 69 = .ok (.getfield 7, 3) := by decide +kernel
theorem dX9_code_72 : decode cX9_code 72 = .ok (.iconst 0, 1) := by decide +kernel
theorem dX9_code_73 : decode cX9_code 73 = .ok (.iaload, 1) := by decide +kernel
theorem dX9_code_74 : decode cX9_code 74 = .ok (.ireturn, 1) := by decide +kernel
theorem dX9_code_75 : decode cX9_code 75 = .ok (.aload_n 0, 1) := by decide +kernel
theorem dX9_code_76 : decode cX9_code 76 = .ok (.aload_n 0, 1) := by decide +kernel
theorem dX9_code_77 : decode cX9_code 77 = .ok (.invokevirtual 210, 3) := by decide +kernel
theorem dX9_code_80 : decode cX9_code 80 = .ok (.invokevirtual 213, 3) := by decide +kernel
theorem dX9_code_83 : decode cX9_code 83 = .ok (.ireturn, 1) := by decide +kernel
theorem dX9_code_84 : decode cX9_code 84 = .ok (.aload_n 0, 1) := by decide +kernel
theorem dX9_code_85 : decode cX9_code 85 = .ok (.getfield 7, 3) := by decide +kernel
theorem dX9_code_88 : decode cX9_code 88 = .ok (.iconst 1, 1) := by decide +kernel
theorem dX9_code_89 : decode cX9_code 89 = .ok (.iaload, 1) := by decide +kernel
theorem dX9_code_90 : decode cX9_code 90 = .ok (.ireturn, 1) := by decide +kernel
theorem dX9_code_91 : decode cX9_code 91 = .ok (.iload_n 2, 1) := by decide +kernel
theorem dX9_code_92 : decode cX9_code 92 = .ok (.ireturn, 1) := by decide +kernel
theorem dX9_code_93 : decode cX9_code 93 = .ok (.aload_n 0, 1) := by decide +kernel
theorem dX9_code_94 : decode cX9_code 94 = .ok (.getfield 7, 3) := by decide +kernel
theorem dX9_code_97 : decode cX9_code 97 = .ok (.iconst 2, 1) := by decide +kernel
theorem dX9_code_98 : decode cX9_code 98 = .ok (.iaload, 1) := by decide +kernel
theorem dX9_code_99 : decode cX9_code 99 = .ok (.ireturn, 1) := by decide +kernel
theorem dX9_code_100 : decode cX9_code 100 = .ok (.iconst (-1), 1) := by decide +kernel
theorem dX9_code_101 : decode cX9_code 101 = .ok (.ireturn, 1) := by decide +kernel
set_option maxRecDepth 20000 in
theorem ggX9_part_X9_isPart : GoodIn wsX9_part wsX9_isPart := goodIn_r _ [6, 7, 8, 9, 5, 10, 21, 22, 23, 24, 25, 26, 27, 28, 29, 30, 31, 32, 33, 34, 35, 36, 37, 38, 39, 40, 41, 42, 43, 44, 45, 46, 47, 48, 49] (by decide +kernel) (by decide +kernel)
set_option maxRecDepth 20000 in
theorem gX9_part_X9_isPart : GoodIn wsX9_part (wsV RX9 192 RX9 yX9_isPart wsX9_isPart) := goodIn_app (goodIn_of _ (by decide +kernel)) ggX9_part_X9_isPart
set_option maxRecDepth 20000 in
theorem ggX9_part_X9_in : GoodIn wsX9_part wsX9_in := goodIn_r _ [10] (by decide +kernel) (by decide +kernel)
set_option maxRecDepth 20000 in
theorem gX9_part_X9_in : GoodIn wsX9_part (va_wsS RX9 63 yX9_in wsX9_in) := goodIn_app (goodIn_of _ (by decide +kernel)) ggX9_part_X9_in
set_option maxRecDepth 20000 in
theorem ggX9_part_X9_of : GoodIn wsX9_part wsX9_of := goodIn_r _ [14, 7, 21, 22, 23, 24, 25, 26, 27, 28, 29, 30, 31, 32, 33, 34, 35, 36, 37, 38, 39, 40, 41, 42, 43, 44, 45, 46, 47, 48, 49] (by decide +kernel) (by decide +kernel)
set_option maxRecDepth 20000 in
theorem gX9_part_X9_of : GoodIn wsX9_part (wsV RX9 195 RX9 yX9_of wsX9_of) := goodIn_app (goodIn_of _ (by decide +kernel)) ggX9_part_X9_of
set_option maxRecDepth 20000 in
theorem ggX9_part_X9_ones : GoodIn wsX9_part wsX9_ones := goodIn_r _ [17] (by decide +kernel) (by decide +kernel)
set_option maxRecDepth 20000 in
theorem gX9_part_X9_ones : GoodIn wsX9_part (va_wsS RX9 216 yX9_ones wsX9_ones) := goodIn_app (goodIn_of _ (by decide +kernel)) ggX9_part_X9_ones
set_option maxRecDepth 20000 in
theorem ggX9_part_X9_has : GoodIn wsX9_part wsX9_has := goodIn_r _ [20] (by decide +kernel) (by decide +kernel)
set_option maxRecDepth 20000 in
theorem gX9_part_X9_has : GoodIn wsX9_part (va_wsS RX9 201 yX9_has wsX9_has) := goodIn_app (goodIn_of _ (by decide +kernel)) ggX9_part_X9_has
theorem dX9_part_0 : decode cX9_part 0 = .ok (.aload_n 0, 1) := by decide +kernel
theorem dX9_part_1 : decode cX9_part 1 = .ok (.aload_n 0, 1) := by decide +kernel
theorem dX9_part_2 : decode cX9_part 2 = .ok (.iload_n 1, 1) := by decide +kernel
theorem dX9_part_3 : decode cX9_part 3 = .ok (.invokevirtual 192, 3) := by decide +kernel
theorem dX9_part_6 : decode cX9_part 6 = .ok (.ifCond .eq 35, 3) := by decide +kernel
theorem dX9_part_9 : decode cX9_part 9 = .ok (.iload_n 2, 1) := by decide +kernel
theorem dX9_part_10 : decode cX9_part 10 = .ok (.iconst 0, 1) := by decide +kernel
theorem dX9_part_11 : decode cX9_part 11 = .ok (.iconst 2, 1) := by decide +kernel
theorem dX9_part_12 : decode cX9_part 12 = .ok (.invokestatic 63, 3) := by decide +kernel
theorem dX9_part_15 : decode cX9_part 15 = .ok (.ifCond .ne 22, 3) := by decide +kernel
theorem dX9_part_18 : decode cX9_part 18 = .ok (.iload_n 2, 1) := by decide +kernel
theorem dX9_part_19 : decode cX9_part 19 = .ok (.bipush 10, 2) := by decide +kernel
theorem dX9_part_21 : decode cX9_part 21 = .ok (.isub, 1) := by decide +kernel
theorem dX9_part_22 : decode cX9_part 22 = .ok (.iconst 0, 1) := by decide +kernel
theorem dX9_part_23 : decode cX9_part 23 = .ok (.aload_n 0, 1) := by decide +kernel
theorem dX9_part_24 : decode cX9_part 24 = .ok (.iload_n 1, 1) := by decide +kernel
theorem dX9_part_25 : decode cX9_part 25 = .ok (.iconst 0, 1) := by decide +kernel
theorem dX9_part_26 : decode cX9_part 26 = .ok (.invokevirtual 195, 3) := by decide +kernel
theorem dX9_part_29 : decode cX9_part 29 = .ok (.iconst 1, 1) := by decide +kernel
theorem dX9_part_30 : decode cX9_part 30 = .ok (.isub, 1) := by decide +kernel
theorem dX9_part_31 : decode cX9_part 31 = .ok (.invokestatic 63, 3) := by decide +kernel
theorem dX9_part_34 : decode cX9_part 34 = .ok (.ifCond .eq 7, 3) := by decide +kernel
theorem dX9_part_37 : decode cX9_part 37 = .ok (.iconst 0, 1) := by decide +kernel
theorem dX9_part_38 : decode cX9_part 38 = .ok (.goto 4, 3) := by decide +kernel
theorem dX9_part_41 : decode cX9_part 41 = .ok (.iconst 1, 1) := by decide +kernel
theorem dX9_part_42 : decode cX9_part 42 = .ok (.putfield 51, 3) := by decide +kernel
theorem dX9_part_45 : decode cX9_part 45 = .ok (.aload_n 0, 1) := by decide +kernel
theorem dX9_part_46 : decode cX9_part 46 = .ok (.getfield 51, 3) := by decide +kernel
theorem dX9_part_49 : decode cX9_part 49 = .ok (.ifCond .le 5, 3) := by decide +kernel
theorem dX9_part_52 : decode cX9_part 52 = .ok (.iconst 0, 1) := by decide +kernel
theorem dX9_part_53 : decode cX9_part 53 = .ok (.ireturn, 1) := by decide +kernel
theorem dX9_part_54 : decode cX9_part 54 = .ok (.iload_n 2, 1) := by decide +kernel
theorem dX9_part_55 : decode cX9_part 55 = .ok (.iconst 2, 1) := by decide +kernel
theorem dX9_part_56 : decode cX9_part 56 = .ok (.if_icmp .ne 15, 3) := by decide +kernel
theorem dX9_part_59 : decode cX9_part 59 = .ok (.aload_n 0, 1) := by decide +kernel
theorem dX9_part_60 : decode cX9_part 60 = .ok (.iload_n 1, 1) := by decide +kernel
theorem dX9_part_61 : decode cX9_part 61 = .ok (.iconst 2, 1) := by decide +kernel
theorem dX9_part_62 : decode cX9_part 62 = .ok (.invokevirtual 195, 3) := by decide +kernel
theorem dX9_part_65 : decode cX9_part 65 = .ok (.invokestatic 216, 3) := by decide +kernel
theorem dX9_part_68 : decode cX9_part 68 = .ok (.goto 38, 3) := by decide +kernel
theorem dX9_part_71 : decode cX9_part 71 = .ok (.iload_n 2, 1) := by decide +kernel
theorem dX9_part_72 : decode cX9_part 72 = .ok (.iconst 2, 1) := by decide +kernel
theorem dX9_part_73 : decode cX9_part 73 = .ok (.if_icmp .ge 12, 3) := by decide +kernel
theorem dX9_part_76 : decode cX9_part 76 = .ok (.aload_n 0, 1) := by decide +kernel
theorem dX9_part_77 : decode cX9_part 77 = .ok (.iload_n 1, 1) := by decide +kernel
theorem dX9_part_78 : decode cX9_part 78 = .ok (.iload_n 2, 1) := by decide +kernel
theorem dX9_part_79 : decode cX9_part 79 = .ok (.invokevirtual 195, 3) := by decide +kernel
theorem dX9_part_82 : decode cX9_part 82 = .ok (.goto 24, 3) := by decide +kernel
theorem dX9_part_85 : decode cX9_part 85 = .ok (.aload_n 0, 1) := by decide +kernel
theorem dX9_part_86 : decode cX9_part 86 = .ok (.iload_n 1, 1) := by decide +kernel
theorem dX9_part_87 : decode cX9_part 87 = .ok (.iconst 2, 1) := by decide +kernel
theorem dX9_part_88 : decode cX9_part 88 = .ok (.invokevirtual 195, 3) := by decide +kernel
theorem dX9_part_91 : decode cX9_part 91 = .ok (.iload_n 2, 1) := by decide +kernel
theorem dX9_part_92 : decode cX9_part 92 = .ok (.bipush 10, 2) := by decide +kernel
theorem dX9_part_94 : decode cX9_part 94 = .ok (.isub, 1) := by decide +kernel
theorem dX9_part_95 : decode cX9_part 95 = .ok (.invokestatic 201, 3) := by decide +kernel
theorem dX9_part_98 : decode cX9_part 98 = .ok (.ifCond .eq 7, 3) := by decide +kernel
theorem dX9_part_101 : decode cX9_part 101 = .ok (.iconst 1, 1) := by decide +kernel
theorem dX9_part_102 : decode cX9_part 102 = .ok (.goto 4, 3) := by decide +kernel
theorem dX9_part_105 : decode cX9_part 105 = .ok (.iconst 0, 1) := by decide +kernel
theorem dX9_part_106 : decode cX9_part 106 = .ok (.ireturn, 1) := by decide +kernel
set_option maxRecDepth 20000 in
theorem ggX9_chip_X9_chipAt : GoodIn wsX9_chip wsX9_chipAt := goodIn_r _ [6, 7, 8, 9, 10, 5, 11, 12, 13, 14, 15, 16, 17, 18, 19, 20, 21, 22, 23, 24, 25, 26, 27, 28, 29, 30, 31, 32, 33, 34, 35, 36, 37, 38, 39, 40, 41, 42, 43, 44, 45, 46, 47, 48, 49, 50] (by decide +kernel) (by decide +kernel)
set_option maxRecDepth 20000 in
theorem gX9_chip_X9_chipAt : GoodIn wsX9_chip (wsV RX9 229 RX9 yX9_chipAt wsX9_chipAt) := goodIn_app (goodIn_of _ (by decide +kernel)) ggX9_chip_X9_chipAt
theorem dX9_chip_0 : decode cX9_chip 0 = .ok (.aload_n 0, 1) := by decide +kernel
theorem dX9_chip_1 : decode cX9_chip 1 = .ok (.iconst 0, 1) := by decide +kernel
theorem dX9_chip_2 : decode cX9_chip 2 = .ok (.putfield 51, 3) := by decide +kernel
theorem dX9_chip_5 : decode cX9_chip 5 = .ok (.aload_n 0, 1) := by decide +kernel
theorem dX9_chip_6 : decode cX9_chip 6 = .ok (.iload_n 1, 1) := by decide +kernel
theorem dX9_chip_7 : decode cX9_chip 7 = .ok (.invokevirtual 229, 3) := by decide +kernel
theorem dX9_chip_10 : decode cX9_chip 10 = .ok (.ifCond .eq 7, 3) := by decide +kernel
theorem dX9_chip_13 : decode cX9_chip 13 = .ok (.iconst 1, 1) := by decide +kernel
theorem dX9_chip_14 : decode cX9_chip 14 = .ok (.goto 4, 3) := by decide +kernel
theorem dX9_chip_17 : decode cX9_chip 17 = .ok (.iconst 0, 1) := by decide +kernel
theorem dX9_chip_18 : decode cX9_chip 18 = .ok (.ireturn, 1) := by decide +kernel
set_option maxRecDepth 20000 in
theorem ggX9_full_X9_isPart : GoodIn wsX9_full wsX9_isPart := goodIn_r _ [8, 9, 10, 11, 7, 12, 42, 43, 44, 45, 46, 47, 48, 49, 50, 51, 52, 53, 54, 55, 56, 57, 58, 59, 60, 61, 62, 63, 64, 65, 66, 67, 68, 69, 70] (by decide +kernel) (by decide +kernel)
set_option maxRecDepth 20000 in
theorem gX9_full_X9_isPart : GoodIn wsX9_full (wsV RX9 192 RX9 yX9_isPart wsX9_isPart) := goodIn_app (goodIn_of _ (by decide +kernel)) ggX9_full_X9_isPart
set_option maxRecDepth 20000 in
theorem ggX9_full_X9_of : GoodIn wsX9_full wsX9_of := goodIn_r _ [16, 9, 42, 43, 44, 45, 46, 47, 48, 49, 50, 51, 52, 53, 54, 55, 56, 57, 58, 59, 60, 61, 62, 63, 64, 65, 66, 67, 68, 69, 70] (by decide +kernel) (by decide +kernel)
set_option maxRecDepth 20000 in
theorem gX9_full_X9_of : GoodIn wsX9_full (wsV RX9 195 RX9 yX9_of wsX9_of) := goodIn_app (goodIn_of _ (by decide +kernel)) ggX9_full_X9_of
set_option maxRecDepth 20000 in
theorem ggX9_full_X9_in : GoodIn wsX9_full wsX9_in := goodIn_r _ [12] (by decide +kernel) (by decide +kernel)
set_option maxRecDepth 20000 in
theorem gX9_full_X9_in : GoodIn wsX9_full (va_wsS RX9 63 yX9_in wsX9_in) := goodIn_app (goodIn_of _ (by decide +kernel)) ggX9_full_X9_in
set_option maxRecDepth 20000 in
theorem ggX9_full_X9_laysFulls : GoodIn wsX9_full wsX9_laysFulls := goodIn_r _ [20, 9, 3, 21, 22, 23, 24, 7, 25, 26, 27, 28, 29, 30, 31, 32, 13, 14, 15, 16, 33, 34, 35, 36, 37, 38, 39, 40, 41, 42, 43, 44, 45, 46, 47, 48, 49, 50, 51, 52, 53, 54, 55, 56, 57, 58, 59, 60, 61, 62, 63, 64, 65, 66, 67, 68, 69, 70] (by decide +kernel) (by decide +kernel)
set_option maxRecDepth 20000 in
theorem gX9_full_X9_laysFulls : GoodIn wsX9_full (wsV RX9 223 RX9 yX9_laysFulls wsX9_laysFulls) := goodIn_app (goodIn_of _ (by decide +kernel)) ggX9_full_X9_laysFulls
theorem dX9_full_0 : decode cX9_full 0 = .ok (.aload_n 0, 1) := by decide +kernel
theorem dX9_full_1 : decode cX9_full 1 = .ok (.iconst 0, 1) := by decide +kernel
theorem dX9_full_2 : decode cX9_full 2 = .ok (.putfield 51, 3) := by decide +kernel
theorem dX9_full_5 : decode cX9_full 5 = .ok (.aload_n 0, 1) := by decide +kernel
theorem dX9_full_6 : decode cX9_full 6 = .ok (.iload_n 1, 1) := by decide +kernel
theorem dX9_full_7 : decode cX9_full 7 = .ok (.invokevirtual 192, 3) := by decide +kernel
theorem dX9_full_10 : decode cX9_full 10 = .ok (.ifCond .eq 19, 3) := by decide +kernel
theorem dX9_full_13 : decode cX9_full 13 = .ok (.iload_n 2, 1) := by decide +kernel
theorem dX9_full_14 : decode cX9_full 14 = .ok (.iconst 0, 1) := by decide +kernel
theorem dX9_full_15 : decode cX9_full 15 = .ok (.aload_n 0, 1) := by decide +kernel
theorem dX9_full_16 : decode cX9_full 16 = .ok (.iload_n 1, 1) := by decide +kernel
theorem dX9_full_17 : decode cX9_full 17 = .ok (.iconst 0, 1) := by decide +kernel
theorem dX9_full_18 : decode cX9_full 18 = .ok (.invokevirtual 195, 3) := by decide +kernel
theorem dX9_full_21 : decode cX9_full 21 = .ok (.iconst 1, 1) := by decide +kernel
theorem dX9_full_22 : decode cX9_full 22 = .ok (.isub, 1) := by decide +kernel
theorem dX9_full_23 : decode cX9_full 23 = .ok (.invokestatic 63, 3) := by decide +kernel
theorem dX9_full_26 : decode cX9_full 26 = .ok (.ifCond .ne 6, 3) := by decide +kernel
theorem dX9_full_29 : decode cX9_full 29 = .ok (.ldc 222, 2) := by decide +kernel
theorem dX9_full_31 : decode cX9_full 31 = .ok (.ireturn, 1) := by decide +kernel
theorem dX9_full_32 : decode cX9_full 32 = .ok (.aload_n 0, 1) := by decide +kernel
theorem dX9_full_33 : decode cX9_full 33 = .ok (.iload_n 1, 1) := by decide +kernel
theorem dX9_full_34 : decode cX9_full 34 = .ok (.iload_n 2, 1) := by decide +kernel
theorem dX9_full_35 : decode cX9_full 35 = .ok (.invokevirtual 223, 3) := by decide +kernel
theorem dX9_full_38 : decode cX9_full 38 = .ok (.aload_n 0, 1) := by decide +kernel
theorem dX9_full_39 : decode cX9_full 39 = .ok (.getfield 24, 3) := by decide +kernel
theorem dX9_full_42 : decode cX9_full 42 = .ok (.iload_n 1, 1) := by decide +kernel
theorem dX9_full_43 : decode cX9_full 43 = .ok (.iaload, 1) := by decide +kernel
theorem dX9_full_44 : decode cX9_full 44 = .ok (.ireturn, 1) := by decide +kernel
set_option maxRecDepth 20000 in
theorem ggX9_behindAt_X9_ofLeg : GoodIn wsX9_behindAt wsX9_ofLeg := goodIn_r _ [5, 6, 13, 14, 15, 16, 17, 18, 19, 20, 21, 22, 23, 24, 25, 26, 27, 28, 29, 30, 31, 32, 33, 34, 35, 36, 37, 38, 39, 40, 41] (by decide +kernel) (by decide +kernel)
set_option maxRecDepth 20000 in
theorem gX9_behindAt_X9_ofLeg : GoodIn wsX9_behindAt (wsV RX9 185 RX9 yX9_ofLeg wsX9_ofLeg) := goodIn_app (goodIn_of _ (by decide +kernel)) ggX9_behindAt_X9_ofLeg
set_option maxRecDepth 20000 in
theorem ggX9_behindAt_X9_floor : GoodIn wsX9_behindAt wsX9_floor := goodIn_r _ [9, 10, 11, 4, 12] (by decide +kernel) (by decide +kernel)
set_option maxRecDepth 20000 in
theorem gX9_behindAt_X9_floor : GoodIn wsX9_behindAt (va_wsS RX9 232 yX9_floor wsX9_floor) := goodIn_app (goodIn_of _ (by decide +kernel)) ggX9_behindAt_X9_floor
theorem dX9_behindAt_0 : decode cX9_behindAt 0 = .ok (.aload_n 0, 1) := by decide +kernel
theorem dX9_behindAt_1 : decode cX9_behindAt 1 = .ok (.iload_n 1, 1) := by decide +kernel
theorem dX9_behindAt_2 : decode cX9_behindAt 2 = .ok (.iconst 2, 1) := by decide +kernel
theorem dX9_behindAt_3 : decode cX9_behindAt 3 = .ok (.invokevirtual 185, 3) := by decide +kernel
theorem dX9_behindAt_6 : decode cX9_behindAt 6 = .ok (.iload_n 2, 1) := by decide +kernel
theorem dX9_behindAt_7 : decode cX9_behindAt 7 = .ok (.iadd, 1) := by decide +kernel
theorem dX9_behindAt_8 : decode cX9_behindAt 8 = .ok (.istore_n 3, 1) := by decide +kernel
theorem dX9_behindAt_9 : decode cX9_behindAt 9 = .ok (.aload_n 0, 1) := by decide +kernel
theorem dX9_behindAt_10 : decode cX9_behindAt 10 = .ok (.iload_n 1, 1) := by decide +kernel
theorem dX9_behindAt_11 : decode cX9_behindAt 11 = .ok (.iconst 0, 1) := by decide +kernel
theorem dX9_behindAt_12 : decode cX9_behindAt 12 = .ok (.invokevirtual 185, 3) := by decide +kernel
theorem dX9_behindAt_15 : decode cX9_behindAt 15 = .ok (.aload_n 0, 1) := by decide +kernel
theorem dX9_behindAt_16 : decode cX9_behindAt 16 = .ok (.iload_n 1, 1) := by decide +kernel
theorem dX9_behindAt_17 : decode cX9_behindAt 17 = .ok (.iconst 1, 1) := by decide +kernel
theorem dX9_behindAt_18 : decode cX9_behindAt 18 = .ok (.invokevirtual 185, 3) := by decide +kernel
theorem dX9_behindAt_21 : decode cX9_behindAt 21 = .ok (.iload_n 3, 1) := by decide +kernel
theorem dX9_behindAt_22 : decode cX9_behindAt 22 = .ok (.imul, 1) := by decide +kernel
theorem dX9_behindAt_23 : decode cX9_behindAt 23 = .ok (.sipush 256, 3) := by decide +kernel
theorem dX9_behindAt_26 : decode cX9_behindAt 26 = .ok (.invokestatic 232, 3) := by decide +kernel
theorem dX9_behindAt_29 : decode cX9_behindAt 29 = .ok (.iadd, 1) := by decide +kernel
theorem dX9_behindAt_30 : decode cX9_behindAt 30 = .ok (.istore 4, 2) := by decide +kernel
theorem dX9_behindAt_32 : decode cX9_behindAt 32 = .ok (.iconst 0, 1) := by decide +kernel
theorem dX9_behindAt_33 : decode cX9_behindAt 33 = .ok (.istore 5, 2) := by decide +kernel
theorem dX9_behindAt_35 : decode cX9_behindAt 35 = .ok (.iload 5, 2) := by decide +kernel
theorem dX9_behindAt_37 : decode cX9_behindAt 37 = .ok (.aload_n 0, 1) := by decide +kernel
theorem dX9_behindAt_38 : decode cX9_behindAt 38 = .ok (.iload_n 1, 1) := by decide +kernel
theorem dX9_behindAt_39 : decode cX9_behindAt 39 = .ok (.bipush 6, 2) := by decide +kernel
theorem dX9_behindAt_41 : decode cX9_behindAt 41 = .ok (.invokevirtual 185, 3) := by decide +kernel
theorem dX9_behindAt_44 : decode cX9_behindAt 44 = .ok (.if_icmp .ge 85, 3) := by decide +kernel
theorem dX9_behindAt_47 : decode cX9_behindAt 47 = .ok (.aload_n 0, 1) := by decide +kernel
theorem dX9_behindAt_48 : decode cX9_behindAt 48 = .ok (.iload_n 1, 1) := by decide +kernel
theorem dX9_behindAt_49 : decode cX9_behindAt 49 = .ok (.bipush 7, 2) := by decide +kernel
theorem dX9_behindAt_51 : decode cX9_behindAt 51 = .ok (.iconst 3, 1) := by decide +kernel
theorem dX9_behindAt_52 : decode cX9_behindAt 52 = .ok (.iload 5, 2) := by decide +kernel
theorem dX9_behindAt_54 : decode cX9_behindAt 54 = .ok (.imul, 1) := by decide +kernel
theorem dX9_behindAt_55 : decode cX9_behindAt 55 = .ok (.iadd, 1) := by decide +kernel
theorem dX9_behindAt_56 : decode cX9_behindAt 56 = .ok (.invokevirtual 185, 3) := by decide +kernel
theorem dX9_behindAt_59 : decode cX9_behindAt 59 = .ok (.istore 6, 2) := by decide +kernel
theorem dX9_behindAt_61 : decode cX9_behindAt 61 = .ok (.iload 6, 2) := by decide +kernel
theorem dX9_behindAt_63 : decode cX9_behindAt 63 = .ok (.iconst 1, 1) := by decide +kernel
theorem dX9_behindAt_64 : decode cX9_behindAt 64 = .ok (.if_icmp .eq 9, 3) := by decide +kernel
theorem dX9_behindAt_67 : decode cX9_behindAt 67 = .ok (.iload 6, 2) := by decide +kernel
theorem dX9_behindAt_69 : decode cX9_behindAt 69 = .ok (.iconst 2, 1) := by decide +kernel
theorem dX9_behindAt_70 : decode cX9_behindAt 70 = .ok (.if_icmp .ne 25, 3) := by decide +kernel
theorem dX9_behindAt_73 : decode cX9_behindAt 73 = .ok (.aload_n 0, 1) := by decide +kernel
theorem dX9_behindAt_74 : decode cX9_behindAt 74 = .ok (.iload_n 1, 1) := by decide +kernel
theorem dX9_behindAt_75 : decode cX9_behindAt 75 = .ok (.bipush 7, 2) := by decide +kernel
theorem dX9_behindAt_77 : decode cX9_behindAt 77 = .ok (.iconst 3, 1) := by decide +kernel
theorem dX9_behindAt_78 : decode cX9_behindAt 78 = .ok (.iload 5, 2) := by decide +kernel
theorem dX9_behindAt_80 : decode cX9_behindAt 80 = .ok (.imul, 1) := by decide +kernel
theorem dX9_behindAt_81 : decode cX9_behindAt 81 = .ok (.iadd, 1) := by decide +kernel
theorem dX9_behindAt_82 : decode cX9_behindAt 82 = .ok (.iconst 1, 1) := by decide +kernel
theorem dX9_behindAt_83 : decode cX9_behindAt 83 = .ok (.iadd, 1) := by decide +kernel
theorem dX9_behindAt_84 : decode cX9_behindAt 84 = .ok (.invokevirtual 185, 3) := by decide +kernel
theorem dX9_behindAt_87 : decode cX9_behindAt 87 = .ok (.iload_n 2, 1) := by decide +kernel
theorem dX9_behindAt_88 : decode cX9_behindAt 88 = .ok (.if_icmp .gt 7, 3) := by decide +kernel
theorem dX9_behindAt_91 : decode cX9_behindAt 91 = .ok (.iconst 1, 1) := by decide +kernel
theorem dX9_behindAt_92 : decode cX9_behindAt 92 = .ok (.goto 4, 3) := by decide +kernel
theorem dX9_behindAt_95 : decode cX9_behindAt 95 = .ok (.iconst 0, 1) := by decide +kernel
theorem dX9_behindAt_96 : decode cX9_behindAt 96 = .ok (.istore 7, 2) := by decide +kernel
theorem dX9_behindAt_98 : decode cX9_behindAt 98 = .ok (.iload 4, 2) := by decide +kernel
theorem dX9_behindAt_100 : decode cX9_behindAt 100 = .ok (.iload 7, 2) := by decide +kernel
theorem dX9_behindAt_102 : decode cX9_behindAt 102 = .ok (.ifCond .eq 17, 3) := by decide +kernel
theorem dX9_behindAt_105 : decode cX9_behindAt 105 = .ok (.iload 6, 2) := by decide +kernel
theorem dX9_behindAt_107 : decode cX9_behindAt 107 = .ok (.iconst 1, 1) := by decide +kernel
theorem dX9_behindAt_108 : decode cX9_behindAt 108 = .ok (.if_icmp .ne 7, 3) := by decide +kernel
theorem dX9_behindAt_111 : decode cX9_behindAt 111 = .ok (.iconst 1, 1) := by decide +kernel
theorem dX9_behindAt_112 : decode cX9_behindAt 112 = .ok (.goto 8, 3) := by decide +kernel
theorem dX9_behindAt_115 : decode cX9_behindAt 115 = .ok (.iconst (-1), 1) := by decide +kernel
theorem dX9_behindAt_116 : decode cX9_behindAt 116 = .ok (.goto 4, 3) := by decide +kernel
theorem dX9_behindAt_119 : decode cX9_behindAt 119 = .ok (.iconst 0, 1) := by decide +kernel
theorem dX9_behindAt_120 : decode cX9_behindAt 120 = .ok (.iadd, 1) := by decide +kernel
theorem dX9_behindAt_121 : decode cX9_behindAt 121 = .ok (.istore 4, 2) := by decide +kernel
theorem dX9_behindAt_123 : decode cX9_behindAt 123 = .ok (.iinc 5 1, 3) := by decide +kernel
theorem dX9_behindAt_126 : decode cX9_behindAt 126 = .ok (.goto (-91), 3) := by decide +kernel
theorem dX9_behindAt_129 : decode cX9_behindAt 129 = .ok (.iload 4, 2) := by decide +kernel
theorem dX9_behindAt_131 : decode cX9_behindAt 131 = .ok (.ireturn, 1) := by decide +kernel
set_option maxRecDepth 20000 in
theorem ggX9_sentAt_X9_chipAt : GoodIn wsX9_sentAt wsX9_chipAt := goodIn_r _ [6, 7, 8, 9, 10, 5, 11, 12, 13, 14, 15, 16, 17, 18, 19, 20, 21, 22, 23, 24, 25, 26, 27, 28, 29, 30, 31, 32, 33, 34, 35, 36, 37, 38, 39, 40, 41, 42, 43, 44, 45, 46, 47, 48, 49, 50] (by decide +kernel) (by decide +kernel)
set_option maxRecDepth 20000 in
theorem gX9_sentAt_X9_chipAt : GoodIn wsX9_sentAt (wsV RX9 229 RX9 yX9_chipAt wsX9_chipAt) := goodIn_app (goodIn_of _ (by decide +kernel)) ggX9_sentAt_X9_chipAt
theorem dX9_sentAt_0 : decode cX9_sentAt 0 = .ok (.iload_n 1, 1) := by decide +kernel
theorem dX9_sentAt_1 : decode cX9_sentAt 1 = .ok (.ifCond .ne 11, 3) := by decide +kernel
theorem dX9_sentAt_4 : decode cX9_sentAt 4 = .ok (.aload_n 0, 1) := by decide +kernel
theorem dX9_sentAt_5 : decode cX9_sentAt 5 = .ok (.iload_n 2, 1) := by decide +kernel
theorem dX9_sentAt_6 : decode cX9_sentAt 6 = .ok (.invokevirtual 229, 3) := by decide +kernel
theorem dX9_sentAt_9 : decode cX9_sentAt 9 = .ok (.goto 29, 3) := by decide +kernel
theorem dX9_sentAt_12 : decode cX9_sentAt 12 = .ok (.aload_n 0, 1) := by decide +kernel
theorem dX9_sentAt_13 : decode cX9_sentAt 13 = .ok (.getfield 235, 3) := by decide +kernel
theorem dX9_sentAt_16 : decode cX9_sentAt 16 = .ok (.iconst (-1), 1) := by decide +kernel
theorem dX9_sentAt_17 : decode cX9_sentAt 17 = .ok (.if_icmp .ne 11, 3) := by decide +kernel
theorem dX9_sentAt_20 : decode cX9_sentAt 20 = .ok (.aload_n 0, 1) := by decide +kernel
theorem dX9_sentAt_21 : decode cX9_sentAt 21 = .ok (.iconst 0, 1) := by decide +kernel
theorem dX9_sentAt_22 : decode cX9_sentAt 22 = .ok (.invokevirtual 229, 3) := by decide +kernel
theorem dX9_sentAt_25 : decode cX9_sentAt 25 = .ok (.goto 13, 3) := by decide +kernel
theorem dX9_sentAt_28 : decode cX9_sentAt 28 = .ok (.aload_n 0, 1) := by decide +kernel
theorem dX9_sentAt_29 : decode cX9_sentAt 29 = .ok (.iload_n 2, 1) := by decide +kernel
theorem dX9_sentAt_30 : decode cX9_sentAt 30 = .ok (.aload_n 0, 1) := by decide +kernel
theorem dX9_sentAt_31 : decode cX9_sentAt 31 = .ok (.getfield 235, 3) := by decide +kernel
theorem dX9_sentAt_34 : decode cX9_sentAt 34 = .ok (.isub, 1) := by decide +kernel
theorem dX9_sentAt_35 : decode cX9_sentAt 35 = .ok (.invokevirtual 229, 3) := by decide +kernel
theorem dX9_sentAt_38 : decode cX9_sentAt 38 = .ok (.ireturn, 1) := by decide +kernel
set_option maxRecDepth 20000 in
theorem ggX9_marksAt_X9_ofLeg : GoodIn wsX9_marksAt wsX9_ofLeg := goodIn_r _ [5, 6, 10, 11, 12, 13, 14, 15, 16, 17, 18, 19, 20, 21, 22, 23, 24, 25, 26, 27, 28, 29, 30, 31, 32, 33, 34, 35, 36, 37, 38] (by decide +kernel) (by decide +kernel)
set_option maxRecDepth 20000 in
theorem gX9_marksAt_X9_ofLeg : GoodIn wsX9_marksAt (wsV RX9 185 RX9 yX9_ofLeg wsX9_ofLeg) := goodIn_app (goodIn_of _ (by decide +kernel)) ggX9_marksAt_X9_ofLeg
set_option maxRecDepth 20000 in
theorem ggX9_marksAt_X9_in : GoodIn wsX9_marksAt wsX9_in := goodIn_r _ [9] (by decide +kernel) (by decide +kernel)
set_option maxRecDepth 20000 in
theorem gX9_marksAt_X9_in : GoodIn wsX9_marksAt (va_wsS RX9 63 yX9_in wsX9_in) := goodIn_app (goodIn_of _ (by decide +kernel)) ggX9_marksAt_X9_in
theorem dX9_marksAt_0 : decode cX9_marksAt 0 = .ok (.iconst 0, 1) := by decide +kernel
theorem dX9_marksAt_1 : decode cX9_marksAt 1 = .ok (.istore 4, 2) := by decide +kernel
theorem dX9_marksAt_3 : decode cX9_marksAt 3 = .ok (.iconst 0, 1) := by decide +kernel
theorem dX9_marksAt_4 : decode cX9_marksAt 4 = .ok (.istore 5, 2) := by decide +kernel
theorem dX9_marksAt_6 : decode cX9_marksAt 6 = .ok (.iload 5, 2) := by decide +kernel
theorem dX9_marksAt_8 : decode cX9_marksAt 8 = .ok (.aload_n 0, 1) := by decide +kernel
theorem dX9_marksAt_9 : decode cX9_marksAt 9 = .ok (.iload_n 1, 1) := by decide +kernel
theorem dX9_marksAt_10 : decode cX9_marksAt 10 = .ok (.bipush 6, 2) := by decide +kernel
theorem dX9_marksAt_12 : decode cX9_marksAt 12 = .ok (.invokevirtual 185, 3) := by decide +kernel
theorem dX9_marksAt_15 : decode cX9_marksAt 15 = .ok (.if_icmp .ge 64, 3) := by decide +kernel
theorem dX9_marksAt_18 : decode cX9_marksAt 18 = .ok (.bipush 7, 2) := by decide +kernel
theorem dX9_marksAt_20 : decode cX9_marksAt 20 = .ok (.iconst 3, 1) := by decide +kernel
theorem dX9_marksAt_21 : decode cX9_marksAt 21 = .ok (.iload 5, 2) := by decide +kernel
theorem dX9_marksAt_23 : decode cX9_marksAt 23 = .ok (.imul, 1) := by decide +kernel
theorem dX9_marksAt_24 : decode cX9_marksAt 24 = .ok (.iadd, 1) := by decide +kernel
theorem dX9_marksAt_25 : decode cX9_marksAt 25 = .ok (.istore 6, 2) := by decide +kernel
theorem dX9_marksAt_27 : decode cX9_marksAt 27 = .ok (.iload 4, 2) := by decide +kernel
theorem dX9_marksAt_29 : decode cX9_marksAt 29 = .ok (.aload_n 0, 1) := by decide +kernel
theorem dX9_marksAt_30 : decode cX9_marksAt 30 = .ok (.iload_n 1, 1) := by decide +kernel
theorem dX9_marksAt_31 : decode cX9_marksAt 31 = .ok (.iload 6, 2) := by decide +kernel
theorem dX9_marksAt_33 : decode cX9_marksAt 33 = .ok (.invokevirtual 185, 3) := by decide +kernel
theorem dX9_marksAt_36 : decode cX9_marksAt 36 = .ok (.iload_n 3, 1) := by decide +kernel
theorem dX9_marksAt_37 : decode cX9_marksAt 37 = .ok (.if_icmp .ne 32, 3) := by decide +kernel
theorem dX9_marksAt_40 : decode cX9_marksAt 40 = .ok (.iload_n 2, 1) := by decide +kernel
theorem dX9_marksAt_41 : decode cX9_marksAt 41 = .ok (.aload_n 0, 1) := by decide +kernel
theorem dX9_marksAt_42 : decode cX9_marksAt 42 = .ok (.iload_n 1, 1) := by decide +kernel
theorem dX9_marksAt_43 : decode cX9_marksAt 43 = .ok (.iload 6, 2) := by decide +kernel
theorem dX9_marksAt_45 : decode cX9_marksAt 45 = .ok (.iconst 1, 1) := by decide +kernel
theorem dX9_marksAt_46 : decode cX9_marksAt 46 = .ok (.iadd, 1) := by decide +kernel
theorem dX9_marksAt_47 : decode cX9_marksAt 47 = .ok (.invokevirtual 185, 3) := by decide +kernel
theorem dX9_marksAt_50 : decode cX9_marksAt 50 = .ok (.aload_n 0, 1) := by decide +kernel
theorem dX9_marksAt_51 : decode cX9_marksAt 51 = .ok (.iload_n 1, 1) := by decide +kernel
theorem dX9_marksAt_52 : decode cX9_marksAt 52 = .ok (.iload 6, 2) := by decide +kernel
theorem dX9_marksAt_54 : decode cX9_marksAt 54 = .ok (.iconst 2, 1) := by decide +kernel
theorem dX9_marksAt_55 : decode cX9_marksAt 55 = .ok (.iadd, 1) := by decide +kernel
theorem dX9_marksAt_56 : decode cX9_marksAt 56 = .ok (.invokevirtual 185, 3) := by decide +kernel
theorem dX9_marksAt_59 : decode cX9_marksAt 59 = .ok (.invokestatic 63, 3) := by decide +kernel
theorem dX9_marksAt_62 : decode cX9_marksAt 62 = .ok (.ifCond .eq 7, 3) := by decide +kernel
theorem dX9_marksAt_65 : decode cX9_marksAt 65 = .ok (.iconst 1, 1) := by decide +kernel
theorem dX9_marksAt_66 : decode cX9_marksAt 66 = .ok (.goto 4, 3) := by decide +kernel
theorem dX9_marksAt_69 : decode cX9_marksAt 69 = .ok (.iconst 0, 1) := by decide +kernel
theorem dX9_marksAt_70 : decode cX9_marksAt 70 = .ok (.iadd, 1) := by decide +kernel
theorem dX9_marksAt_71 : decode cX9_marksAt 71 = .ok (.istore 4, 2) := by decide +kernel
theorem dX9_marksAt_73 : decode cX9_marksAt 73 = .ok (.iinc 5 1, 3) := by decide +kernel
theorem dX9_marksAt_76 : decode cX9_marksAt 76 = .ok (.goto (-70), 3) := by decide +kernel
theorem dX9_marksAt_79 : decode cX9_marksAt 79 = .ok (.iload 4, 2) := by decide +kernel
theorem dX9_marksAt_81 : decode cX9_marksAt 81 = .ok (.ireturn, 1) := by decide +kernel
set_option maxRecDepth 20000 in
theorem ggX9_laysHeard_X9_ofLeg : GoodIn wsX9_laysHeard wsX9_ofLeg := goodIn_r _ [10, 11, 49, 50, 51, 52, 53, 54, 55, 56, 57, 58, 59, 60, 61, 62, 63, 64, 65, 66, 67, 68, 69, 70, 71, 72, 73, 74, 75, 76, 77] (by decide +kernel) (by decide +kernel)
set_option maxRecDepth 20000 in
theorem gX9_laysHeard_X9_ofLeg : GoodIn wsX9_laysHeard (wsV RX9 185 RX9 yX9_ofLeg wsX9_ofLeg) := goodIn_app (goodIn_of _ (by decide +kernel)) ggX9_laysHeard_X9_ofLeg
set_option maxRecDepth 20000 in
theorem ggX9_laysHeard_X9_behindAt : GoodIn wsX9_laysHeard wsX9_behindAt := goodIn_r _ [15, 6, 7, 8, 9, 10, 11, 16, 17, 18, 19, 20, 21, 49, 50, 51, 52, 53, 54, 55, 56, 57, 58, 59, 60, 61, 62, 63, 64, 65, 66, 67, 68, 69, 70, 71, 72, 73, 74, 75, 76, 77] (by decide +kernel) (by decide +kernel)
set_option maxRecDepth 20000 in
theorem gX9_laysHeard_X9_behindAt : GoodIn wsX9_laysHeard (wsV RX9 244 RX9 yX9_behindAt wsX9_behindAt) := goodIn_app (goodIn_of _ (by decide +kernel)) ggX9_laysHeard_X9_behindAt
set_option maxRecDepth 20000 in
theorem ggX9_laysHeard_X9_sentAt : GoodIn wsX9_laysHeard wsX9_sentAt := goodIn_r _ [25, 26, 27, 28, 29, 9, 30, 11, 31, 32, 33, 34, 35, 36, 37, 38, 19, 20, 21, 39, 40, 41, 49, 50, 51, 52, 53, 54, 55, 56, 57, 58, 59, 60, 61, 62, 63, 64, 65, 66, 67, 68, 69, 70, 71, 72, 73, 74, 75, 76, 77] (by decide +kernel) (by decide +kernel)
set_option maxRecDepth 20000 in
theorem gX9_laysHeard_X9_sentAt : GoodIn wsX9_laysHeard (wsV RX9 247 RX9 yX9_sentAt wsX9_sentAt) := goodIn_app (goodIn_of _ (by decide +kernel)) ggX9_laysHeard_X9_sentAt
set_option maxRecDepth 20000 in
theorem ggX9_laysHeard_X9_marksAt : GoodIn wsX9_laysHeard wsX9_marksAt := goodIn_r _ [45, 6, 7, 8, 9, 10, 11, 46, 47, 48, 49, 50, 51, 52, 53, 54, 55, 56, 57, 58, 59, 60, 61, 62, 63, 64, 65, 66, 67, 68, 69, 70, 71, 72, 73, 74, 75, 76, 77] (by decide +kernel) (by decide +kernel)
set_option maxRecDepth 20000 in
theorem gX9_laysHeard_X9_marksAt : GoodIn wsX9_laysHeard (wsV RX9 250 RX9 yX9_marksAt wsX9_marksAt) := goodIn_app (goodIn_of _ (by decide +kernel)) ggX9_laysHeard_X9_marksAt
theorem dX9_laysHeard_0 : decode cX9_laysHeard 0 = .ok (.aload_n 0, 1) := by decide +kernel
theorem dX9_laysHeard_1 : decode cX9_laysHeard 1 = .ok (.iload_n 1, 1) := by decide +kernel
theorem dX9_laysHeard_2 : decode cX9_laysHeard 2 = .ok (.iconst 5, 1) := by decide +kernel
theorem dX9_laysHeard_3 : decode cX9_laysHeard 3 = .ok (.invokevirtual 185, 3) := by decide +kernel
theorem dX9_laysHeard_6 : decode cX9_laysHeard 6 = .ok (.i2l, 1) := by decide +kernel
theorem dX9_laysHeard_7 : decode cX9_laysHeard 7 = .ok (.lstore_n 2, 1) := by decide +kernel
theorem dX9_laysHeard_8 : decode cX9_laysHeard 8 = .ok (.iconst 0, 1) := by decide +kernel
theorem dX9_laysHeard_9 : decode cX9_laysHeard 9 = .ok (.istore 4, 2) := by decide +kernel
theorem dX9_laysHeard_11 : decode cX9_laysHeard 11 = .ok (.iload 4, 2) := by decide +kernel
theorem dX9_laysHeard_13 : decode cX9_laysHeard 13 = .ok (.aload_n 0, 1) := by decide +kernel
theorem dX9_laysHeard_14 : decode cX9_laysHeard 14 = .ok (.iload_n 1, 1) := by decide +kernel
theorem dX9_laysHeard_15 : decode cX9_laysHeard 15 = .ok (.iconst 3, 1) := by decide +kernel
theorem dX9_laysHeard_16 : decode cX9_laysHeard 16 = .ok (.invokevirtual 185, 3) := by decide +kernel
theorem dX9_laysHeard_19 : decode cX9_laysHeard 19 = .ok (.if_icmp .ge 138, 3) := by decide +kernel
theorem dX9_laysHeard_22 : decode cX9_laysHeard 22 = .ok (.lload_n 2, 1) := by decide +kernel
theorem dX9_laysHeard_23 : decode cX9_laysHeard 23 = .ok (.ldc2_w 238, 3) := by decide +kernel
theorem dX9_laysHeard_26 : decode cX9_laysHeard 26 = .ok (.lmul, 1) := by decide +kernel
theorem dX9_laysHeard_27 : decode cX9_laysHeard 27 = .ok (.ldc2_w 240, 3) := by decide +kernel
theorem dX9_laysHeard_30 : decode cX9_laysHeard 30 = .ok (.ladd, 1) := by decide +kernel
theorem dX9_laysHeard_31 : decode cX9_laysHeard 31 = .ok (.ldc2_w 242, 3) := by decide +kernel
theorem dX9_laysHeard_34 : decode cX9_laysHeard 34 = .ok (.lrem, 1) := by decide +kernel
theorem dX9_laysHeard_35 : decode cX9_laysHeard 35 = .ok (.lstore_n 2, 1) := by decide +kernel
theorem dX9_laysHeard_36 : decode cX9_laysHeard 36 = .ok (.aload_n 0, 1) := by decide +kernel
theorem dX9_laysHeard_37 : decode cX9_laysHeard 37 = .ok (.iload_n 1, 1) := by decide +kernel
theorem dX9_laysHeard_38 : decode cX9_laysHeard 38 = .ok (.aload_n 0, 1) := by decide +kernel
theorem dX9_laysHeard_39 : decode cX9_laysHeard 39 = .ok (.iload_n 1, 1) := by decide +kernel
theorem dX9_laysHeard_40 : decode cX9_laysHeard 40 = .ok (.iconst 2, 1) := by decide +kernel
theorem dX9_laysHeard_41 : decode cX9_laysHeard 41 = .ok (.invokevirtual 185, 3) := by decide +kernel
theorem dX9_laysHeard_44 : decode cX9_laysHeard 44 = .ok (.iload 4, 2) := by decide +kernel
theorem dX9_laysHeard_46 : decode cX9_laysHeard 46 = .ok (.iadd, 1) := by decide +kernel
theorem dX9_laysHeard_47 : decode cX9_laysHeard 47 = .ok (.aload_n 0, 1) := by decide +kernel
theorem dX9_laysHeard_48 : decode cX9_laysHeard 48 = .ok (.iload_n 1, 1) := by decide +kernel
theorem dX9_laysHeard_49 : decode cX9_laysHeard 49 = .ok (.iload 4, 2) := by decide +kernel
theorem dX9_laysHeard_51 : decode cX9_laysHeard 51 = .ok (.invokevirtual 244, 3) := by decide +kernel
theorem dX9_laysHeard_54 : decode cX9_laysHeard 54 = .ok (.isub, 1) := by decide +kernel
theorem dX9_laysHeard_55 : decode cX9_laysHeard 55 = .ok (.invokevirtual 247, 3) := by decide +kernel
theorem dX9_laysHeard_58 : decode cX9_laysHeard 58 = .ok (.istore 5, 2) := by decide +kernel
theorem dX9_laysHeard_60 : decode cX9_laysHeard 60 = .ok (.aload_n 0, 1) := by decide +kernel
theorem dX9_laysHeard_61 : decode cX9_laysHeard 61 = .ok (.iload_n 1, 1) := by decide +kernel
theorem dX9_laysHeard_62 : decode cX9_laysHeard 62 = .ok (.iload 4, 2) := by decide +kernel
theorem dX9_laysHeard_64 : decode cX9_laysHeard 64 = .ok (.iconst 0, 1) := by decide +kernel
theorem dX9_laysHeard_65 : decode cX9_laysHeard 65 = .ok (.invokevirtual 250, 3) := by decide +kernel
theorem dX9_laysHeard_68 : decode cX9_laysHeard 68 = .ok (.lload_n 2, 1) := by decide +kernel
theorem dX9_laysHeard_69 : decode cX9_laysHeard 69 = .ok (.ldc2_w 254, 3) := by decide +kernel
theorem dX9_laysHeard_72 : decode cX9_laysHeard 72 = .ok (.ldiv, 1) := by decide +kernel
theorem dX9_laysHeard_73 : decode cX9_laysHeard 73 = .ok (.l2i, 1) := by decide +kernel
theorem dX9_laysHeard_74 : decode cX9_laysHeard 74 = .ok (.bipush 100, 2) := by decide +kernel
theorem dX9_laysHeard_76 : decode cX9_laysHeard 76 = .ok (.irem, 1) := by decide +kernel
theorem dX9_laysHeard_77 : decode cX9_laysHeard 77 = .ok (.aload_n 0, 1) := by decide +kernel
theorem dX9_laysHeard_78 : decode cX9_laysHeard 78 = .ok (.iload_n 1, 1) := by decide +kernel
theorem dX9_laysHeard_79 : decode cX9_laysHeard 79 = .ok (.iconst 4, 1) := by decide +kernel
theorem dX9_laysHeard_80 : decode cX9_laysHeard 80 = .ok (.invokevirtual 185, 3) := by decide +kernel
theorem dX9_laysHeard_83 : decode cX9_laysHeard 83 = .ok (.if_icmp .ge 7, 3) := by decide +kernel
theorem dX9_laysHeard_86 : decode cX9_laysHeard 86 = .ok (.iconst 1, 1) := by decide +kernel
theorem dX9_laysHeard_87 : decode cX9_laysHeard 87 = .ok (.goto 4, 3) := by decide +kernel
theorem dX9_laysHeard_90 : decode cX9_laysHeard 90 = .ok (.iconst 0, 1) := by decide +kernel
theorem dX9_laysHeard_91 : decode cX9_laysHeard 91 = .ok (.iadd, 1) := by decide +kernel
theorem dX9_laysHeard_92 : decode cX9_laysHeard 92 = .ok (.istore 6, 2) := by decide +kernel
theorem dX9_laysHeard_94 : decode cX9_laysHeard 94 = .ok (.iload 6, 2) := by decide +kernel
theorem dX9_laysHeard_96 : decode cX9_laysHeard 96 = .ok (.iconst 2, 1) := by decide +kernel
theorem dX9_laysHeard_97 : decode cX9_laysHeard 97 = .ok (.irem, 1) := by decide +kernel
theorem dX9_laysHeard_98 : decode cX9_laysHeard 98 = .ok (.iconst 1, 1) := by decide +kernel
theorem dX9_laysHeard_99 : decode cX9_laysHeard 99 = .ok (.if_icmp .ne 16, 3) := by decide +kernel
theorem dX9_laysHeard_102 : decode cX9_laysHeard 102 = .ok (.iload 5, 2) := by decide +kernel
theorem dX9_laysHeard_104 : decode cX9_laysHeard 104 = .ok (.ifCond .ne 7, 3) := by decide +kernel
theorem dX9_laysHeard_107 : decode cX9_laysHeard 107 = .ok (.iconst 1, 1) := by decide +kernel
theorem dX9_laysHeard_108 : decode cX9_laysHeard 108 = .ok (.goto 9, 3) := by decide +kernel
theorem dX9_laysHeard_111 : decode cX9_laysHeard 111 = .ok (.iconst 0, 1) := by decide +kernel
theorem dX9_laysHeard_112 : decode cX9_laysHeard 112 = .ok (.goto 5, 3) := by decide +kernel
theorem dX9_laysHeard_115 : decode cX9_laysHeard 115 = .ok (.iload 5, 2) := by decide +kernel
theorem dX9_laysHeard_117 : decode cX9_laysHeard 117 = .ok (.istore 5, 2) := by decide +kernel
theorem dX9_laysHeard_119 : decode cX9_laysHeard 119 = .ok (.aload_n 0, 1) := by decide +kernel
theorem dX9_laysHeard_120 : decode cX9_laysHeard 120 = .ok (.getfield 30, 3) := by decide +kernel
theorem dX9_laysHeard_123 : decode cX9_laysHeard 123 = .ok (.iload 4, 2) := by decide +kernel
theorem dX9_laysHeard_125 : decode cX9_laysHeard 125 = .ok (.aload_n 0, 1) := by decide +kernel
theorem dX9_laysHeard_126 : decode cX9_laysHeard 126 = .ok (.iload_n 1, 1) := by decide +kernel
theorem dX9_laysHeard_127 : decode cX9_laysHeard 127 = .ok (.iload 4, 2) := by decide +kernel
theorem dX9_laysHeard_129 : decode cX9_laysHeard 129 = .ok (.iconst 3, 1) := by decide +kernel
theorem dX9_laysHeard_130 : decode cX9_laysHeard 130 = .ok (.invokevirtual 250, 3) := by decide +kernel
theorem dX9_laysHeard_133 : decode cX9_laysHeard 133 = .ok (.ifCond .le 7, 3) := by decide +kernel
theorem dX9_laysHeard_136 : decode cX9_laysHeard 136 = .ok (.iconst 2, 1) := by decide +kernel
theorem dX9_laysHeard_137 : decode cX9_laysHeard 137 = .ok (.goto 13, 3) := by decide +kernel
theorem dX9_laysHeard_140 : decode cX9_laysHeard 140 = .ok (.iload 5, 2) := by decide +kernel
theorem dX9_laysHeard_142 : decode cX9_laysHeard 142 = .ok (.ifCond .eq 7, 3) := by decide +kernel
theorem dX9_laysHeard_145 : decode cX9_laysHeard 145 = .ok (.iconst 1, 1) := by decide +kernel
theorem dX9_laysHeard_146 : decode cX9_laysHeard 146 = .ok (.goto 4, 3) := by decide +kernel
theorem dX9_laysHeard_149 : decode cX9_laysHeard 149 = .ok (.iconst 0, 1) := by decide +kernel
theorem dX9_laysHeard_150 : decode cX9_laysHeard 150 = .ok (.iastore, 1) := by decide +kernel
theorem dX9_laysHeard_151 : decode cX9_laysHeard 151 = .ok (.iinc 4 1, 3) := by decide +kernel
theorem dX9_laysHeard_154 : decode cX9_laysHeard 154 = .ok (.goto (-143), 3) := by decide +kernel
theorem dX9_laysHeard_157 : decode cX9_laysHeard 157 = .ok (.return_, 1) := by decide +kernel
set_option maxRecDepth 20000 in
theorem ggX9_alike_X9_ofLeg : GoodIn wsX9_alike wsX9_ofLeg := goodIn_r _ [6, 7, 22, 23, 24, 25, 26, 27, 28, 29, 30, 31, 32, 33, 34, 35, 36, 37, 38, 39, 40, 41, 42, 43, 44, 45, 46, 47, 48, 49, 50] (by decide +kernel) (by decide +kernel)
set_option maxRecDepth 20000 in
theorem gX9_alike_X9_ofLeg : GoodIn wsX9_alike (wsV RX9 185 RX9 yX9_ofLeg wsX9_ofLeg) := goodIn_app (goodIn_of _ (by decide +kernel)) ggX9_alike_X9_ofLeg
set_option maxRecDepth 20000 in
theorem ggX9_alike_X9_chipOf : GoodIn wsX9_alike wsX9_chipOf := goodIn_r _ [11, 12, 13, 14, 5, 15, 7, 16, 17, 18, 19, 20, 21, 22, 23, 24, 25, 26, 27, 28, 29, 30, 31, 32, 33, 34, 35, 36, 37, 38, 39, 40, 41, 42, 43, 44, 45, 46, 47, 48, 49, 50] (by decide +kernel) (by decide +kernel)
set_option maxRecDepth 20000 in
theorem gX9_alike_X9_chipOf : GoodIn wsX9_alike (wsV RX9 207 RX9 yX9_chipOf wsX9_chipOf) := goodIn_app (goodIn_of _ (by decide +kernel)) ggX9_alike_X9_chipOf
theorem dX9_alike_0 : decode cX9_alike 0 = .ok (.aload_n 0, 1) := by decide +kernel
theorem dX9_alike_1 : decode cX9_alike 1 = .ok (.getfield 30, 3) := by decide +kernel
theorem dX9_alike_4 : decode cX9_alike 4 = .ok (.iload_n 2, 1) := by decide +kernel
theorem dX9_alike_5 : decode cX9_alike 5 = .ok (.iaload, 1) := by decide +kernel
theorem dX9_alike_6 : decode cX9_alike 6 = .ok (.iconst 2, 1) := by decide +kernel
theorem dX9_alike_7 : decode cX9_alike 7 = .ok (.if_icmp .ne 7, 3) := by decide +kernel
theorem dX9_alike_10 : decode cX9_alike 10 = .ok (.iconst 0, 1) := by decide +kernel
theorem dX9_alike_11 : decode cX9_alike 11 = .ok (.goto 42, 3) := by decide +kernel
theorem dX9_alike_14 : decode cX9_alike 14 = .ok (.aload_n 0, 1) := by decide +kernel
theorem dX9_alike_15 : decode cX9_alike 15 = .ok (.getfield 30, 3) := by decide +kernel
theorem dX9_alike_18 : decode cX9_alike 18 = .ok (.iload_n 2, 1) := by decide +kernel
theorem dX9_alike_19 : decode cX9_alike 19 = .ok (.iaload, 1) := by decide +kernel
theorem dX9_alike_20 : decode cX9_alike 20 = .ok (.iconst 1, 1) := by decide +kernel
theorem dX9_alike_21 : decode cX9_alike 21 = .ok (.if_icmp .ne 7, 3) := by decide +kernel
theorem dX9_alike_24 : decode cX9_alike 24 = .ok (.iconst 1, 1) := by decide +kernel
theorem dX9_alike_25 : decode cX9_alike 25 = .ok (.goto 4, 3) := by decide +kernel
theorem dX9_alike_28 : decode cX9_alike 28 = .ok (.iconst 0, 1) := by decide +kernel
theorem dX9_alike_29 : decode cX9_alike 29 = .ok (.aload_n 0, 1) := by decide +kernel
theorem dX9_alike_30 : decode cX9_alike 30 = .ok (.iload_n 3, 1) := by decide +kernel
theorem dX9_alike_31 : decode cX9_alike 31 = .ok (.aload_n 0, 1) := by decide +kernel
theorem dX9_alike_32 : decode cX9_alike 32 = .ok (.iload_n 1, 1) := by decide +kernel
theorem dX9_alike_33 : decode cX9_alike 33 = .ok (.iconst 2, 1) := by decide +kernel
theorem dX9_alike_34 : decode cX9_alike 34 = .ok (.invokevirtual 185, 3) := by decide +kernel
theorem dX9_alike_37 : decode cX9_alike 37 = .ok (.iload_n 2, 1) := by decide +kernel
theorem dX9_alike_38 : decode cX9_alike 38 = .ok (.iadd, 1) := by decide +kernel
theorem dX9_alike_39 : decode cX9_alike 39 = .ok (.iload 4, 2) := by decide +kernel
theorem dX9_alike_41 : decode cX9_alike 41 = .ok (.isub, 1) := by decide +kernel
theorem dX9_alike_42 : decode cX9_alike 42 = .ok (.invokevirtual 207, 3) := by decide +kernel
theorem dX9_alike_45 : decode cX9_alike 45 = .ok (.if_icmp .ne 7, 3) := by decide +kernel
theorem dX9_alike_48 : decode cX9_alike 48 = .ok (.iconst 1, 1) := by decide +kernel
theorem dX9_alike_49 : decode cX9_alike 49 = .ok (.goto 4, 3) := by decide +kernel
theorem dX9_alike_52 : decode cX9_alike 52 = .ok (.iconst (-1), 1) := by decide +kernel
theorem dX9_alike_53 : decode cX9_alike 53 = .ok (.ireturn, 1) := by decide +kernel
set_option maxRecDepth 20000 in
theorem ggX9_laysMatches_X9_of : GoodIn wsX9_laysMatches wsX9_of := goodIn_r _ [7, 1, 27, 28, 29, 30, 31, 32, 33, 34, 35, 36, 37, 38, 39, 40, 41, 42, 43, 44, 45, 46, 47, 48, 49, 50, 51, 52, 53, 54, 55] (by decide +kernel) (by decide +kernel)
set_option maxRecDepth 20000 in
theorem gX9_laysMatches_X9_of : GoodIn wsX9_laysMatches (wsV RX9 195 RX9 yX9_of wsX9_of) := goodIn_app (goodIn_of _ (by decide +kernel)) ggX9_laysMatches_X9_of
set_option maxRecDepth 20000 in
theorem ggX9_laysMatches_X9_ofLeg : GoodIn wsX9_laysMatches wsX9_ofLeg := goodIn_r _ [11, 1, 27, 28, 29, 30, 31, 32, 33, 34, 35, 36, 37, 38, 39, 40, 41, 42, 43, 44, 45, 46, 47, 48, 49, 50, 51, 52, 53, 54, 55] (by decide +kernel) (by decide +kernel)
set_option maxRecDepth 20000 in
theorem gX9_laysMatches_X9_ofLeg : GoodIn wsX9_laysMatches (wsV RX9 185 RX9 yX9_ofLeg wsX9_ofLeg) := goodIn_app (goodIn_of _ (by decide +kernel)) ggX9_laysMatches_X9_ofLeg
set_option maxRecDepth 20000 in
theorem ggX9_laysMatches_X9_alike : GoodIn wsX9_laysMatches wsX9_alike := goodIn_r _ [15, 16, 8, 9, 10, 6, 11, 1, 17, 18, 19, 20, 3, 4, 5, 7, 21, 22, 23, 24, 25, 26, 27, 28, 29, 30, 31, 32, 33, 34, 35, 36, 37, 38, 39, 40, 41, 42, 43, 44, 45, 46, 47, 48, 49, 50, 51, 52, 53, 54, 55] (by decide +kernel) (by decide +kernel)
set_option maxRecDepth 20000 in
theorem gX9_laysMatches_X9_alike : GoodIn wsX9_laysMatches (wsV RX9 256 RX9 yX9_alike wsX9_alike) := goodIn_app (goodIn_of _ (by decide +kernel)) ggX9_laysMatches_X9_alike
theorem dX9_laysMatches_0 : decode cX9_laysMatches 0 = .ok (.iconst 0, 1) := by decide +kernel
theorem dX9_laysMatches_1 : decode cX9_laysMatches 1 = .ok (.istore_n 2, 1) := by decide +kernel
theorem dX9_laysMatches_2 : decode cX9_laysMatches 2 = .ok (.iload_n 2, 1) := by decide +kernel
theorem dX9_laysMatches_3 : decode cX9_laysMatches 3 = .ok (.aload_n 0, 1) := by decide +kernel
theorem dX9_laysMatches_4 : decode cX9_laysMatches 4 = .ok (.getfield 7, 3) := by decide +kernel
theorem dX9_laysMatches_7 : decode cX9_laysMatches 7 = .ok (.iconst 0, 1) := by decide +kernel
theorem dX9_laysMatches_8 : decode cX9_laysMatches 8 = .ok (.iaload, 1) := by decide +kernel
theorem dX9_laysMatches_9 : decode cX9_laysMatches 9 = .ok (.if_icmp .ge 77, 3) := by decide +kernel
theorem dX9_laysMatches_12 : decode cX9_laysMatches 12 = .ok (.iconst 0, 1) := by decide +kernel
theorem dX9_laysMatches_13 : decode cX9_laysMatches 13 = .ok (.istore_n 3, 1) := by decide +kernel
theorem dX9_laysMatches_14 : decode cX9_laysMatches 14 = .ok (.iload_n 3, 1) := by decide +kernel
theorem dX9_laysMatches_15 : decode cX9_laysMatches 15 = .ok (.aload_n 0, 1) := by decide +kernel
theorem dX9_laysMatches_16 : decode cX9_laysMatches 16 = .ok (.iload_n 2, 1) := by decide +kernel
theorem dX9_laysMatches_17 : decode cX9_laysMatches 17 = .ok (.iconst 0, 1) := by decide +kernel
theorem dX9_laysMatches_18 : decode cX9_laysMatches 18 = .ok (.invokevirtual 195, 3) := by decide +kernel
theorem dX9_laysMatches_21 : decode cX9_laysMatches 21 = .ok (.if_icmp .ge 59, 3) := by decide +kernel
theorem dX9_laysMatches_24 : decode cX9_laysMatches 24 = .ok (.iconst 0, 1) := by decide +kernel
theorem dX9_laysMatches_25 : decode cX9_laysMatches 25 = .ok (.istore 4, 2) := by decide +kernel
theorem dX9_laysMatches_27 : decode cX9_laysMatches 27 = .ok (.iconst 0, 1) := by decide +kernel
theorem dX9_laysMatches_28 : decode cX9_laysMatches 28 = .ok (.istore 5, 2) := by decide +kernel
theorem dX9_laysMatches_30 : decode cX9_laysMatches 30 = .ok (.iload 5, 2) := by decide +kernel
theorem dX9_laysMatches_32 : decode cX9_laysMatches 32 = .ok (.aload_n 0, 1) := by decide +kernel
theorem dX9_laysMatches_33 : decode cX9_laysMatches 33 = .ok (.iload_n 1, 1) := by decide +kernel
theorem dX9_laysMatches_34 : decode cX9_laysMatches 34 = .ok (.iconst 3, 1) := by decide +kernel
theorem dX9_laysMatches_35 : decode cX9_laysMatches 35 = .ok (.invokevirtual 185, 3) := by decide +kernel
theorem dX9_laysMatches_38 : decode cX9_laysMatches 38 = .ok (.if_icmp .ge 23, 3) := by decide +kernel
theorem dX9_laysMatches_41 : decode cX9_laysMatches 41 = .ok (.iload 4, 2) := by decide +kernel
theorem dX9_laysMatches_43 : decode cX9_laysMatches 43 = .ok (.aload_n 0, 1) := by decide +kernel
theorem dX9_laysMatches_44 : decode cX9_laysMatches 44 = .ok (.iload_n 1, 1) := by decide +kernel
theorem dX9_laysMatches_45 : decode cX9_laysMatches 45 = .ok (.iload 5, 2) := by decide +kernel
theorem dX9_laysMatches_47 : decode cX9_laysMatches 47 = .ok (.iload_n 2, 1) := by decide +kernel
theorem dX9_laysMatches_48 : decode cX9_laysMatches 48 = .ok (.iload_n 3, 1) := by decide +kernel
theorem dX9_laysMatches_49 : decode cX9_laysMatches 49 = .ok (.invokevirtual 256, 3) := by decide +kernel
theorem dX9_laysMatches_52 : decode cX9_laysMatches 52 = .ok (.iadd, 1) := by decide +kernel
theorem dX9_laysMatches_53 : decode cX9_laysMatches 53 = .ok (.istore 4, 2) := by decide +kernel
theorem dX9_laysMatches_55 : decode cX9_laysMatches 55 = .ok (.iinc 5 1, 3) := by decide +kernel
theorem dX9_laysMatches_58 : decode cX9_laysMatches 58 = .ok (.goto (-28), 3) := by decide +kernel
theorem dX9_laysMatches_61 : decode cX9_laysMatches 61 = .ok (.aload_n 0, 1) := by decide +kernel
theorem dX9_laysMatches_62 : decode cX9_laysMatches 62 = .ok (.getfield 33, 3) := by decide +kernel
theorem dX9_laysMatches_65 : decode cX9_laysMatches 65 = .ok (.bipush 13, 2) := by decide +kernel
theorem dX9_laysMatches_67 : decode cX9_laysMatches 67 = .ok (.iload_n 2, 1) := by decide +kernel
theorem dX9_laysMatches_68 : decode cX9_laysMatches 68 = .ok (.imul, 1) := by decide +kernel
theorem dX9_laysMatches_69 : decode cX9_laysMatches 69 = .ok (.iload_n 3, 1) := by decide +kernel
theorem dX9_laysMatches_70 : decode cX9_laysMatches 70 = .ok (.iadd, 1) := by decide +kernel
theorem dX9_laysMatches_71 : decode cX9_laysMatches 71 = .ok (.iload 4, 2) := by decide +kernel
theorem dX9_laysMatches_73 : decode cX9_laysMatches 73 = .ok (.iastore, 1) := by decide +kernel
theorem dX9_laysMatches_74 : decode cX9_laysMatches 74 = .ok (.iinc 3 1, 3) := by decide +kernel
theorem dX9_laysMatches_77 : decode cX9_laysMatches 77 = .ok (.goto (-63), 3) := by decide +kernel
theorem dX9_laysMatches_80 : decode cX9_laysMatches 80 = .ok (.iinc 2 1, 3) := by decide +kernel
theorem dX9_laysMatches_83 : decode cX9_laysMatches 83 = .ok (.goto (-81), 3) := by decide +kernel
theorem dX9_laysMatches_86 : decode cX9_laysMatches 86 = .ok (.return_, 1) := by decide +kernel
set_option maxRecDepth 20000 in
theorem ggX9_bestOf_X9_of : GoodIn wsX9_bestOf wsX9_of := goodIn_r _ [6, 7, 8, 9, 10, 11, 12, 13, 14, 15, 16, 17, 18, 19, 20, 21, 22, 23, 24, 25, 26, 27, 28, 29, 30, 31, 32, 33, 34, 35, 36] (by decide +kernel) (by decide +kernel)
set_option maxRecDepth 20000 in
theorem gX9_bestOf_X9_of : GoodIn wsX9_bestOf (wsV RX9 195 RX9 yX9_of wsX9_of) := goodIn_app (goodIn_of _ (by decide +kernel)) ggX9_bestOf_X9_of
theorem dX9_bestOf_0 : decode cX9_bestOf 0 = .ok (.iconst 0, 1) := by decide +kernel
theorem dX9_bestOf_1 : decode cX9_bestOf 1 = .ok (.istore_n 2, 1) := by decide +kernel
theorem dX9_bestOf_2 : decode cX9_bestOf 2 = .ok (.iconst 1, 1) := by decide +kernel
theorem dX9_bestOf_3 : decode cX9_bestOf 3 = .ok (.istore_n 3, 1) := by decide +kernel
theorem dX9_bestOf_4 : decode cX9_bestOf 4 = .ok (.iload_n 3, 1) := by decide +kernel
theorem dX9_bestOf_5 : decode cX9_bestOf 5 = .ok (.aload_n 0, 1) := by decide +kernel
theorem dX9_bestOf_6 : decode cX9_bestOf 6 = .ok (.iload_n 1, 1) := by decide +kernel
theorem dX9_bestOf_7 : decode cX9_bestOf 7 = .ok (.iconst 0, 1) := by decide +kernel
theorem dX9_bestOf_8 : decode cX9_bestOf 8 = .ok (.invokevirtual 195, 3) := by decide +kernel
theorem dX9_bestOf_11 : decode cX9_bestOf 11 = .ok (.if_icmp .ge 40, 3) := by decide +kernel
theorem dX9_bestOf_14 : decode cX9_bestOf 14 = .ok (.aload_n 0, 1) := by decide +kernel
theorem dX9_bestOf_15 : decode cX9_bestOf 15 = .ok (.getfield 33, 3) := by decide +kernel
theorem dX9_bestOf_18 : decode cX9_bestOf 18 = .ok (.bipush 13, 2) := by decide +kernel
theorem dX9_bestOf_20 : decode cX9_bestOf 20 = .ok (.iload_n 1, 1) := by decide +kernel
theorem dX9_bestOf_21 : decode cX9_bestOf 21 = .ok (.imul, 1) := by decide +kernel
theorem dX9_bestOf_22 : decode cX9_bestOf 22 = .ok (.iload_n 3, 1) := by decide +kernel
theorem dX9_bestOf_23 : decode cX9_bestOf 23 = .ok (.iadd, 1) := by decide +kernel
theorem dX9_bestOf_24 : decode cX9_bestOf 24 = .ok (.iaload, 1) := by decide +kernel
theorem dX9_bestOf_25 : decode cX9_bestOf 25 = .ok (.aload_n 0, 1) := by decide +kernel
theorem dX9_bestOf_26 : decode cX9_bestOf 26 = .ok (.getfield 33, 3) := by decide +kernel
theorem dX9_bestOf_29 : decode cX9_bestOf 29 = .ok (.bipush 13, 2) := by decide +kernel
theorem dX9_bestOf_31 : decode cX9_bestOf 31 = .ok (.iload_n 1, 1) := by decide +kernel
theorem dX9_bestOf_32 : decode cX9_bestOf 32 = .ok (.imul, 1) := by decide +kernel
theorem dX9_bestOf_33 : decode cX9_bestOf 33 = .ok (.iload_n 2, 1) := by decide +kernel
theorem dX9_bestOf_34 : decode cX9_bestOf 34 = .ok (.iadd, 1) := by decide +kernel
theorem dX9_bestOf_35 : decode cX9_bestOf 35 = .ok (.iaload, 1) := by decide +kernel
theorem dX9_bestOf_36 : decode cX9_bestOf 36 = .ok (.if_icmp .le 7, 3) := by decide +kernel
theorem dX9_bestOf_39 : decode cX9_bestOf 39 = .ok (.iload_n 3, 1) := by decide +kernel
theorem dX9_bestOf_40 : decode cX9_bestOf 40 = .ok (.goto 4, 3) := by decide +kernel
theorem dX9_bestOf_43 : decode cX9_bestOf 43 = .ok (.iload_n 2, 1) := by decide +kernel
theorem dX9_bestOf_44 : decode cX9_bestOf 44 = .ok (.istore_n 2, 1) := by decide +kernel
theorem dX9_bestOf_45 : decode cX9_bestOf 45 = .ok (.iinc 3 1, 3) := by decide +kernel
theorem dX9_bestOf_48 : decode cX9_bestOf 48 = .ok (.goto (-44), 3) := by decide +kernel
theorem dX9_bestOf_51 : decode cX9_bestOf 51 = .ok (.iload_n 2, 1) := by decide +kernel
theorem dX9_bestOf_52 : decode cX9_bestOf 52 = .ok (.ireturn, 1) := by decide +kernel
set_option maxRecDepth 20000 in
theorem ggX9_matchOf_X9_bestOf : GoodIn wsX9_matchOf wsX9_bestOf := goodIn_r _ [6, 1, 7, 8, 9, 5, 10, 11, 12, 13, 14, 15, 16, 17, 18, 19, 20, 21, 22, 23, 24, 25, 26, 27, 28, 29, 30, 31, 32, 33, 34, 35, 36, 37, 38, 39, 40] (by decide +kernel) (by decide +kernel)
set_option maxRecDepth 20000 in
theorem gX9_matchOf_X9_bestOf : GoodIn wsX9_matchOf (wsV RX9 260 RX9 yX9_bestOf wsX9_bestOf) := goodIn_app (goodIn_of _ (by decide +kernel)) ggX9_matchOf_X9_bestOf
theorem dX9_matchOf_0 : decode cX9_matchOf 0 = .ok (.aload_n 0, 1) := by decide +kernel
theorem dX9_matchOf_1 : decode cX9_matchOf 1 = .ok (.getfield 33, 3) := by decide +kernel
theorem dX9_matchOf_4 : decode cX9_matchOf 4 = .ok (.bipush 13, 2) := by decide +kernel
theorem dX9_matchOf_6 : decode cX9_matchOf 6 = .ok (.iload_n 1, 1) := by decide +kernel
theorem dX9_matchOf_7 : decode cX9_matchOf 7 = .ok (.imul, 1) := by decide +kernel
theorem dX9_matchOf_8 : decode cX9_matchOf 8 = .ok (.aload_n 0, 1) := by decide +kernel
theorem dX9_matchOf_9 : decode cX9_matchOf 9 = .ok (.iload_n 1, 1) := by decide +kernel
theorem dX9_matchOf_10 : decode cX9_matchOf 10 = .ok (.invokevirtual 260, 3) := by decide +kernel
theorem dX9_matchOf_13 : decode cX9_matchOf 13 = .ok (.iadd, 1) := by decide +kernel
theorem dX9_matchOf_14 : decode cX9_matchOf 14 = .ok (.iaload, 1) := by decide +kernel
theorem dX9_matchOf_15 : decode cX9_matchOf 15 = .ok (.ireturn, 1) := by decide +kernel
set_option maxRecDepth 20000 in
theorem ggX9_joinedBy_X9_has : GoodIn wsX9_joinedBy wsX9_has := goodIn_r _ [5] (by decide +kernel) (by decide +kernel)
set_option maxRecDepth 20000 in
theorem gX9_joinedBy_X9_has : GoodIn wsX9_joinedBy (va_wsS RX9 201 yX9_has wsX9_has) := goodIn_app (goodIn_of _ (by decide +kernel)) ggX9_joinedBy_X9_has
set_option maxRecDepth 20000 in
theorem ggX9_joinedBy_X9_of : GoodIn wsX9_joinedBy wsX9_of := goodIn_r _ [9, 1, 21, 22, 23, 24, 25, 26, 27, 28, 29, 30, 31, 32, 33, 34, 35, 36, 37, 38, 39, 40, 41, 42, 43, 44, 45, 46, 47, 48, 49] (by decide +kernel) (by decide +kernel)
set_option maxRecDepth 20000 in
theorem gX9_joinedBy_X9_of : GoodIn wsX9_joinedBy (wsV RX9 195 RX9 yX9_of wsX9_of) := goodIn_app (goodIn_of _ (by decide +kernel)) ggX9_joinedBy_X9_of
set_option maxRecDepth 20000 in
theorem ggX9_joinedBy_X9_bestOf : GoodIn wsX9_joinedBy wsX9_bestOf := goodIn_r _ [13, 14, 6, 7, 8, 4, 9, 1, 21, 22, 23, 24, 25, 26, 27, 28, 29, 30, 31, 32, 33, 34, 35, 36, 37, 38, 39, 40, 41, 42, 43, 44, 45, 46, 47, 48, 49] (by decide +kernel) (by decide +kernel)
set_option maxRecDepth 20000 in
theorem gX9_joinedBy_X9_bestOf : GoodIn wsX9_joinedBy (wsV RX9 260 RX9 yX9_bestOf wsX9_bestOf) := goodIn_app (goodIn_of _ (by decide +kernel)) ggX9_joinedBy_X9_bestOf
set_option maxRecDepth 20000 in
theorem ggX9_joinedBy_X9_common : GoodIn wsX9_joinedBy wsX9_common := goodIn_r _ [17, 18, 19, 4, 20] (by decide +kernel) (by decide +kernel)
set_option maxRecDepth 20000 in
theorem gX9_joinedBy_X9_common : GoodIn wsX9_joinedBy (va_wsS RX9 204 yX9_common wsX9_common) := goodIn_app (goodIn_of _ (by decide +kernel)) ggX9_joinedBy_X9_common
theorem dX9_joinedBy_0 : decode cX9_joinedBy 0 = .ok (.iconst 0, 1) := by decide +kernel
theorem dX9_joinedBy_1 : decode cX9_joinedBy 1 = .ok (.istore_n 2, 1) := by decide +kernel
theorem dX9_joinedBy_2 : decode cX9_joinedBy 2 = .ok (.iconst 1, 1) := by decide +kernel
theorem dX9_joinedBy_3 : decode cX9_joinedBy 3 = .ok (.istore_n 3, 1) := by decide +kernel
theorem dX9_joinedBy_4 : decode cX9_joinedBy 4 = .ok (.iconst 0, 1) := by decide +kernel
theorem dX9_joinedBy_5 : decode cX9_joinedBy 5 = .ok (.istore 4, 2) := by decide +kernel
theorem dX9_joinedBy_7 : decode cX9_joinedBy 7 = .ok (.iload 4, 2) := by decide +kernel
theorem dX9_joinedBy_9 : decode cX9_joinedBy 9 = .ok (.aload_n 0, 1) := by decide +kernel
theorem dX9_joinedBy_10 : decode cX9_joinedBy 10 = .ok (.getfield 7, 3) := by decide +kernel
theorem dX9_joinedBy_13 : decode cX9_joinedBy 13 = .ok (.iconst 0, 1) := by decide +kernel
theorem dX9_joinedBy_14 : decode cX9_joinedBy 14 = .ok (.iaload, 1) := by decide +kernel
theorem dX9_joinedBy_15 : decode cX9_joinedBy 15 = .ok (.if_icmp .ge 100, 3) := by decide +kernel
theorem dX9_joinedBy_18 : decode cX9_joinedBy 18 = .ok (.iload_n 1, 1) := by decide +kernel
theorem dX9_joinedBy_19 : decode cX9_joinedBy 19 = .ok (.iload 4, 2) := by decide +kernel
theorem dX9_joinedBy_21 : decode cX9_joinedBy 21 = .ok (.invokestatic 201, 3) := by decide +kernel
theorem dX9_joinedBy_24 : decode cX9_joinedBy 24 = .ok (.ifCond .ne 6, 3) := by decide +kernel
theorem dX9_joinedBy_27 : decode cX9_joinedBy 27 = .ok (.goto 82, 3) := by decide +kernel
theorem dX9_joinedBy_30 : decode cX9_joinedBy 30 = .ok (.iconst 0, 1) := by decide +kernel
theorem dX9_joinedBy_31 : decode cX9_joinedBy 31 = .ok (.istore 5, 2) := by decide +kernel
theorem dX9_joinedBy_33 : decode cX9_joinedBy 33 = .ok (.iload 5, 2) := by decide +kernel
theorem dX9_joinedBy_35 : decode cX9_joinedBy 35 = .ok (.aload_n 0, 1) := by decide +kernel
theorem dX9_joinedBy_36 : decode cX9_joinedBy 36 = .ok (.iload 4, 2) := by decide +kernel
theorem dX9_joinedBy_38 : decode cX9_joinedBy 38 = .ok (.iconst 0, 1) := by decide +kernel
theorem dX9_joinedBy_39 : decode cX9_joinedBy 39 = .ok (.invokevirtual 195, 3) := by decide +kernel
theorem dX9_joinedBy_42 : decode cX9_joinedBy 42 = .ok (.if_icmp .ge 31, 3) := by decide +kernel
theorem dX9_joinedBy_45 : decode cX9_joinedBy 45 = .ok (.iload_n 2, 1) := by decide +kernel
theorem dX9_joinedBy_46 : decode cX9_joinedBy 46 = .ok (.aload_n 0, 1) := by decide +kernel
theorem dX9_joinedBy_47 : decode cX9_joinedBy 47 = .ok (.iload 4, 2) := by decide +kernel
theorem dX9_joinedBy_49 : decode cX9_joinedBy 49 = .ok (.iconst 0, 1) := by decide +kernel
theorem dX9_joinedBy_50 : decode cX9_joinedBy 50 = .ok (.invokevirtual 195, 3) := by decide +kernel
theorem dX9_joinedBy_53 : decode cX9_joinedBy 53 = .ok (.irem, 1) := by decide +kernel
theorem dX9_joinedBy_54 : decode cX9_joinedBy 54 = .ok (.aload_n 0, 1) := by decide +kernel
theorem dX9_joinedBy_55 : decode cX9_joinedBy 55 = .ok (.iload 4, 2) := by decide +kernel
theorem dX9_joinedBy_57 : decode cX9_joinedBy 57 = .ok (.invokevirtual 260, 3) := by decide +kernel
theorem dX9_joinedBy_60 : decode cX9_joinedBy 60 = .ok (.if_icmp .eq 13, 3) := by decide +kernel
theorem dX9_joinedBy_63 : decode cX9_joinedBy 63 = .ok (.iload_n 2, 1) := by decide +kernel
theorem dX9_joinedBy_64 : decode cX9_joinedBy 64 = .ok (.iload_n 3, 1) := by decide +kernel
theorem dX9_joinedBy_65 : decode cX9_joinedBy 65 = .ok (.iadd, 1) := by decide +kernel
theorem dX9_joinedBy_66 : decode cX9_joinedBy 66 = .ok (.istore_n 2, 1) := by decide +kernel
theorem dX9_joinedBy_67 : decode cX9_joinedBy 67 = .ok (.iinc 5 1, 3) := by decide +kernel
theorem dX9_joinedBy_70 : decode cX9_joinedBy 70 = .ok (.goto (-37), 3) := by decide +kernel
theorem dX9_joinedBy_73 : decode cX9_joinedBy 73 = .ok (.iload_n 2, 1) := by decide +kernel
theorem dX9_joinedBy_74 : decode cX9_joinedBy 74 = .ok (.aload_n 0, 1) := by decide +kernel
theorem dX9_joinedBy_75 : decode cX9_joinedBy 75 = .ok (.iload 4, 2) := by decide +kernel
theorem dX9_joinedBy_77 : decode cX9_joinedBy 77 = .ok (.iconst 0, 1) := by decide +kernel
theorem dX9_joinedBy_78 : decode cX9_joinedBy 78 = .ok (.invokevirtual 195, 3) := by decide +kernel
theorem dX9_joinedBy_81 : decode cX9_joinedBy 81 = .ok (.irem, 1) := by decide +kernel
theorem dX9_joinedBy_82 : decode cX9_joinedBy 82 = .ok (.aload_n 0, 1) := by decide +kernel
theorem dX9_joinedBy_83 : decode cX9_joinedBy 83 = .ok (.iload 4, 2) := by decide +kernel
theorem dX9_joinedBy_85 : decode cX9_joinedBy 85 = .ok (.invokevirtual 260, 3) := by decide +kernel
theorem dX9_joinedBy_88 : decode cX9_joinedBy 88 = .ok (.if_icmp .eq 5, 3) := by decide +kernel
theorem dX9_joinedBy_91 : decode cX9_joinedBy 91 = .ok (.iconst (-1), 1) := by decide +kernel
theorem dX9_joinedBy_92 : decode cX9_joinedBy 92 = .ok (.ireturn, 1) := by decide +kernel
theorem dX9_joinedBy_93 : decode cX9_joinedBy 93 = .ok (.iload_n 3, 1) := by decide +kernel
theorem dX9_joinedBy_94 : decode cX9_joinedBy 94 = .ok (.aload_n 0, 1) := by decide +kernel
theorem dX9_joinedBy_95 : decode cX9_joinedBy 95 = .ok (.iload 4, 2) := by decide +kernel
theorem dX9_joinedBy_97 : decode cX9_joinedBy 97 = .ok (.iconst 0, 1) := by decide +kernel
theorem dX9_joinedBy_98 : decode cX9_joinedBy 98 = .ok (.invokevirtual 195, 3) := by decide +kernel
theorem dX9_joinedBy_101 : decode cX9_joinedBy 101 = .ok (.invokestatic 204, 3) := by decide +kernel
theorem dX9_joinedBy_104 : decode cX9_joinedBy 104 = .ok (.istore_n 3, 1) := by decide +kernel
theorem dX9_joinedBy_105 : decode cX9_joinedBy 105 = .ok (.iload_n 2, 1) := by decide +kernel
theorem dX9_joinedBy_106 : decode cX9_joinedBy 106 = .ok (.iload_n 3, 1) := by decide +kernel
theorem dX9_joinedBy_107 : decode cX9_joinedBy 107 = .ok (.irem, 1) := by decide +kernel
theorem dX9_joinedBy_108 : decode cX9_joinedBy 108 = .ok (.istore_n 2, 1) := by decide +kernel
theorem dX9_joinedBy_109 : decode cX9_joinedBy 109 = .ok (.iinc 4 1, 3) := by decide +kernel
theorem dX9_joinedBy_112 : decode cX9_joinedBy 112 = .ok (.goto (-105), 3) := by decide +kernel
theorem dX9_joinedBy_115 : decode cX9_joinedBy 115 = .ok (.iload_n 2, 1) := by decide +kernel
theorem dX9_joinedBy_116 : decode cX9_joinedBy 116 = .ok (.ireturn, 1) := by decide +kernel
set_option maxRecDepth 20000 in
theorem ggX9_isNear_X9_joinedBy : GoodIn wsX9_isNear wsX9_joinedBy := goodIn_r _ [6, 1, 7, 8, 5, 9, 10, 11, 12, 13, 14, 15, 16, 17, 18, 19, 20, 21, 22, 23, 24, 25, 26, 27, 28, 29, 30, 31, 32, 33, 34, 35, 36, 37, 38, 39, 40, 41, 42, 43, 44, 45, 46, 47, 48, 49, 50, 51, 52, 53] (by decide +kernel) (by decide +kernel)
set_option maxRecDepth 20000 in
theorem gX9_isNear_X9_joinedBy : GoodIn wsX9_isNear (wsV RX9 263 RX9 yX9_joinedBy wsX9_joinedBy) := goodIn_app (goodIn_of _ (by decide +kernel)) ggX9_isNear_X9_joinedBy
theorem dX9_isNear_0 : decode cX9_isNear 0 = .ok (.aload_n 0, 1) := by decide +kernel
theorem dX9_isNear_1 : decode cX9_isNear 1 = .ok (.iload_n 1, 1) := by decide +kernel
theorem dX9_isNear_2 : decode cX9_isNear 2 = .ok (.invokevirtual 263, 3) := by decide +kernel
theorem dX9_isNear_5 : decode cX9_isNear 5 = .ok (.istore_n 2, 1) := by decide +kernel
theorem dX9_isNear_6 : decode cX9_isNear 6 = .ok (.iload_n 2, 1) := by decide +kernel
theorem dX9_isNear_7 : decode cX9_isNear 7 = .ok (.ifCond .lt 17, 3) := by decide +kernel
theorem dX9_isNear_10 : decode cX9_isNear 10 = .ok (.iload_n 2, 1) := by decide +kernel
theorem dX9_isNear_11 : decode cX9_isNear 11 = .ok (.aload_n 0, 1) := by decide +kernel
theorem dX9_isNear_12 : decode cX9_isNear 12 = .ok (.getfield 7, 3) := by decide +kernel
theorem dX9_isNear_15 : decode cX9_isNear 15 = .ok (.iconst 1, 1) := by decide +kernel
theorem dX9_isNear_16 : decode cX9_isNear 16 = .ok (.iaload, 1) := by decide +kernel
theorem dX9_isNear_17 : decode cX9_isNear 17 = .ok (.if_icmp .ge 7, 3) := by decide +kernel
theorem dX9_isNear_20 : decode cX9_isNear 20 = .ok (.iconst 1, 1) := by decide +kernel
theorem dX9_isNear_21 : decode cX9_isNear 21 = .ok (.goto 4, 3) := by decide +kernel
theorem dX9_isNear_24 : decode cX9_isNear 24 = .ok (.iconst 0, 1) := by decide +kernel
theorem dX9_isNear_25 : decode cX9_isNear 25 = .ok (.ireturn, 1) := by decide +kernel
set_option maxRecDepth 20000 in
theorem ggX9_finds_X9_everyPart : GoodIn wsX9_finds wsX9_everyPart := goodIn_r _ [10, 5, 44, 45, 46, 47, 48, 49, 50, 51, 52, 53, 54, 55, 56, 57, 58, 59, 60, 61, 62, 63, 64, 65, 66, 67, 68, 69, 70, 71, 72] (by decide +kernel) (by decide +kernel)
set_option maxRecDepth 20000 in
theorem gX9_finds_X9_everyPart : GoodIn wsX9_finds (wsV RX9 210 RX9 yX9_everyPart wsX9_everyPart) := goodIn_app (goodIn_of _ (by decide +kernel)) ggX9_finds_X9_everyPart
set_option maxRecDepth 20000 in
theorem ggX9_finds_X9_ones : GoodIn wsX9_finds wsX9_ones := goodIn_r _ [13] (by decide +kernel) (by decide +kernel)
set_option maxRecDepth 20000 in
theorem gX9_finds_X9_ones : GoodIn wsX9_finds (va_wsS RX9 216 yX9_ones wsX9_ones) := goodIn_app (goodIn_of _ (by decide +kernel)) ggX9_finds_X9_ones
set_option maxRecDepth 20000 in
theorem ggX9_finds_X9_isNear : GoodIn wsX9_finds wsX9_isNear := goodIn_r _ [17, 5, 18, 19, 20, 9, 21, 22, 23, 24, 25, 26, 27, 28, 29, 30, 31, 32, 33, 34, 35, 36, 37, 38, 39, 44, 45, 46, 47, 48, 49, 50, 51, 52, 53, 54, 55, 56, 57, 58, 59, 60, 61, 62, 63, 64, 65, 66, 67, 68, 69, 70, 71, 72] (by decide +kernel) (by decide +kernel)
set_option maxRecDepth 20000 in
theorem gX9_finds_X9_isNear : GoodIn wsX9_finds (wsV RX9 278 RX9 yX9_isNear wsX9_isNear) := goodIn_app (goodIn_of _ (by decide +kernel)) ggX9_finds_X9_isNear
set_option maxRecDepth 20000 in
theorem ggX9_finds_X9_joinedBy : GoodIn wsX9_finds wsX9_joinedBy := goodIn_r _ [21, 5, 22, 23, 9, 24, 25, 26, 27, 28, 29, 30, 31, 32, 33, 34, 35, 36, 37, 38, 39, 44, 45, 46, 47, 48, 49, 50, 51, 52, 53, 54, 55, 56, 57, 58, 59, 60, 61, 62, 63, 64, 65, 66, 67, 68, 69, 70, 71, 72] (by decide +kernel) (by decide +kernel)
set_option maxRecDepth 20000 in
theorem gX9_finds_X9_joinedBy : GoodIn wsX9_finds (wsV RX9 263 RX9 yX9_joinedBy wsX9_joinedBy) := goodIn_app (goodIn_of _ (by decide +kernel)) ggX9_finds_X9_joinedBy
set_option maxRecDepth 20000 in
theorem ggX9_finds_X9_commonOf : GoodIn wsX9_finds wsX9_commonOf := goodIn_r _ [43, 5, 22, 23, 9, 24, 25, 26, 27, 28, 34, 35, 36, 37, 38, 39, 44, 45, 46, 47, 48, 49, 50, 51, 52, 53, 54, 55, 56, 57, 58, 59, 60, 61, 62, 63, 64, 65, 66, 67, 68, 69, 70, 71, 72] (by decide +kernel) (by decide +kernel)
set_option maxRecDepth 20000 in
theorem gX9_finds_X9_commonOf : GoodIn wsX9_finds (wsV RX9 213 RX9 yX9_commonOf wsX9_commonOf) := goodIn_app (goodIn_of _ (by decide +kernel)) ggX9_finds_X9_commonOf
theorem dX9_finds_0 : decode cX9_finds 0 = .ok (.aload_n 0, 1) := by decide +kernel
theorem dX9_finds_1 : decode cX9_finds 1 = .ok (.iconst (-1), 1) := by decide +kernel
theorem dX9_finds_2 : decode cX9_finds 2 = .ok (.putfield 266, 3) := by decide +kernel
theorem dX9_finds_5 : decode cX9_finds 5 = .ok (.aload_n 0, 1) := by decide +kernel
theorem dX9_finds_6 : decode cX9_finds 6 = .ok (.iconst 0, 1) := by decide +kernel
theorem dX9_finds_7 : decode cX9_finds 7 = .ok (.putfield 269, 3) := by decide +kernel
theorem dX9_finds_10 : decode cX9_finds 10 = .ok (.aload_n 0, 1) := by decide +kernel
theorem dX9_finds_11 : decode cX9_finds 11 = .ok (.iconst 0, 1) := by decide +kernel
theorem dX9_finds_12 : decode cX9_finds 12 = .ok (.putfield 272, 3) := by decide +kernel
theorem dX9_finds_15 : decode cX9_finds 15 = .ok (.aload_n 0, 1) := by decide +kernel
theorem dX9_finds_16 : decode cX9_finds 16 = .ok (.iconst 0, 1) := by decide +kernel
theorem dX9_finds_17 : decode cX9_finds 17 = .ok (.putfield 275, 3) := by decide +kernel
theorem dX9_finds_20 : decode cX9_finds 20 = .ok (.aload_n 0, 1) := by decide +kernel
theorem dX9_finds_21 : decode cX9_finds 21 = .ok (.getfield 7, 3) := by decide +kernel
theorem dX9_finds_24 : decode cX9_finds 24 = .ok (.iconst 0, 1) := by decide +kernel
theorem dX9_finds_25 : decode cX9_finds 25 = .ok (.iaload, 1) := by decide +kernel
theorem dX9_finds_26 : decode cX9_finds 26 = .ok (.ifCond .ne 7, 3) := by decide +kernel
theorem dX9_finds_29 : decode cX9_finds 29 = .ok (.iconst 0, 1) := by decide +kernel
theorem dX9_finds_30 : decode cX9_finds 30 = .ok (.goto 11, 3) := by decide +kernel
theorem dX9_finds_33 : decode cX9_finds 33 = .ok (.aload_n 0, 1) := by decide +kernel
theorem dX9_finds_34 : decode cX9_finds 34 = .ok (.getfield 7, 3) := by decide +kernel
theorem dX9_finds_37 : decode cX9_finds 37 = .ok (.iconst 0, 1) := by decide +kernel
theorem dX9_finds_38 : decode cX9_finds 38 = .ok (.iaload, 1) := by decide +kernel
theorem dX9_finds_39 : decode cX9_finds 39 = .ok (.iconst 1, 1) := by decide +kernel
theorem dX9_finds_40 : decode cX9_finds 40 = .ok (.isub, 1) := by decide +kernel
theorem dX9_finds_41 : decode cX9_finds 41 = .ok (.istore_n 1, 1) := by decide +kernel
theorem dX9_finds_42 : decode cX9_finds 42 = .ok (.iconst 0, 1) := by decide +kernel
theorem dX9_finds_43 : decode cX9_finds 43 = .ok (.istore_n 2, 1) := by decide +kernel
theorem dX9_finds_44 : decode cX9_finds 44 = .ok (.iload_n 2, 1) := by decide +kernel
theorem dX9_finds_45 : decode cX9_finds 45 = .ok (.iload_n 1, 1) := by decide +kernel
theorem dX9_finds_46 : decode cX9_finds 46 = .ok (.if_icmp .gt 84, 3) := by decide +kernel
theorem dX9_finds_49 : decode cX9_finds 49 = .ok (.aload_n 0, 1) := by decide +kernel
theorem dX9_finds_50 : decode cX9_finds 50 = .ok (.getfield 275, 3) := by decide +kernel
theorem dX9_finds_53 : decode cX9_finds 53 = .ok (.ifCond .ne 77, 3) := by decide +kernel
theorem dX9_finds_56 : decode cX9_finds 56 = .ok (.iconst 0, 1) := by decide +kernel
theorem dX9_finds_57 : decode cX9_finds 57 = .ok (.istore_n 3, 1) := by decide +kernel
theorem dX9_finds_58 : decode cX9_finds 58 = .ok (.iload_n 3, 1) := by decide +kernel
theorem dX9_finds_59 : decode cX9_finds 59 = .ok (.aload_n 0, 1) := by decide +kernel
theorem dX9_finds_60 : decode cX9_finds 60 = .ok (.invokevirtual 210, 3) := by decide +kernel
theorem dX9_finds_63 : decode cX9_finds 63 = .ok (.if_icmp .gt 61, 3) := by decide +kernel
theorem dX9_finds_66 : decode cX9_finds 66 = .ok (.iload_n 3, 1) := by decide +kernel
theorem dX9_finds_67 : decode cX9_finds 67 = .ok (.invokestatic 216, 3) := by decide +kernel
theorem dX9_finds_70 : decode cX9_finds 70 = .ok (.iload_n 2, 1) := by decide +kernel
theorem dX9_finds_71 : decode cX9_finds 71 = .ok (.if_icmp .ne 47, 3) := by decide +kernel
theorem dX9_finds_74 : decode cX9_finds 74 = .ok (.aload_n 0, 1) := by decide +kernel
theorem dX9_finds_75 : decode cX9_finds 75 = .ok (.aload_n 0, 1) := by decide +kernel
theorem dX9_finds_76 : decode cX9_finds 76 = .ok (.invokevirtual 210, 3) := by decide +kernel
theorem dX9_finds_79 : decode cX9_finds 79 = .ok (.iload_n 3, 1) := by decide +kernel
theorem dX9_finds_80 : decode cX9_finds 80 = .ok (.iconst (-1), 1) := by decide +kernel
theorem dX9_finds_81 : decode cX9_finds 81 = .ok (.ixor, 1) := by decide +kernel
theorem dX9_finds_82 : decode cX9_finds 82 = .ok (.iand, 1) := by decide +kernel
theorem dX9_finds_83 : decode cX9_finds 83 = .ok (.invokevirtual 278, 3) := by decide +kernel
theorem dX9_finds_86 : decode cX9_finds 86 = .ok (.ifCond .eq 32, 3) := by decide +kernel
theorem dX9_finds_89 : decode cX9_finds 89 = .ok (.aload_n 0, 1) := by decide +kernel
theorem dX9_finds_90 : decode cX9_finds 90 = .ok (.aload_n 0, 1) := by decide +kernel
theorem dX9_finds_91 : decode cX9_finds 91 = .ok (.getfield 275, 3) := by decide +kernel
theorem dX9_finds_94 : decode cX9_finds 94 = .ok (.ifCond .ne 7, 3) := by decide +kernel
theorem dX9_finds_97 : decode cX9_finds 97 = .ok (.iload_n 3, 1) := by decide +kernel
theorem dX9_finds_98 : decode cX9_finds 98 = .ok (.goto 7, 3) := by decide +kernel
theorem dX9_finds_101 : decode cX9_finds 101 = .ok (.aload_n 0, 1) := by decide +kernel
theorem dX9_finds_102 : decode cX9_finds 102 = .ok (.getfield 269, 3) := by decide +kernel
theorem dX9_finds_105 : decode cX9_finds 105 = .ok (.putfield 269, 3) := by decide +kernel
theorem dX9_finds_108 : decode cX9_finds 108 = .ok (.aload_n 0, 1) := by decide +kernel
theorem dX9_finds_109 : decode cX9_finds 109 = .ok (.dup, 1) := by decide +kernel
theorem dX9_finds_110 : decode cX9_finds 110 = .ok (.getfield 275, 3) := by decide +kernel
theorem dX9_finds_113 : decode cX9_finds 113 = .ok (.iconst 1, 1) := by decide +kernel
theorem dX9_finds_114 : decode cX9_finds 114 = .ok (.iadd, 1) := by decide +kernel
theorem dX9_finds_115 : decode cX9_finds 115 = .ok (.putfield 275, 3) := by decide +kernel
theorem dX9_finds_118 : decode cX9_finds 118 = .ok (.iinc 3 1, 3) := by decide +kernel
theorem dX9_finds_121 : decode cX9_finds 121 = .ok (.goto (-63), 3) := by decide +kernel
theorem dX9_finds_124 : decode cX9_finds 124 = .ok (.iinc 2 1, 3) := by decide +kernel
theorem dX9_finds_127 : decode cX9_finds 127 = .ok (.goto (-83), 3) := by decide +kernel
theorem dX9_finds_130 : decode cX9_finds 130 = .ok (.aload_n 0, 1) := by decide +kernel
theorem dX9_finds_131 : decode cX9_finds 131 = .ok (.getfield 275, 3) := by decide +kernel
theorem dX9_finds_134 : decode cX9_finds 134 = .ok (.ifCond .le 41, 3) := by decide +kernel
theorem dX9_finds_137 : decode cX9_finds 137 = .ok (.aload_n 0, 1) := by decide +kernel
theorem dX9_finds_138 : decode cX9_finds 138 = .ok (.aload_n 0, 1) := by decide +kernel
theorem dX9_finds_139 : decode cX9_finds 139 = .ok (.aload_n 0, 1) := by decide +kernel
theorem dX9_finds_140 : decode cX9_finds 140 = .ok (.invokevirtual 210, 3) := by decide +kernel
theorem dX9_finds_143 : decode cX9_finds 143 = .ok (.aload_n 0, 1) := by decide +kernel
theorem dX9_finds_144 : decode cX9_finds 144 = .ok (.getfield 269, 3) := by decide +kernel
theorem dX9_finds_147 : decode cX9_finds 147 = .ok (.iconst (-1), 1) := by decide +kernel
theorem dX9_finds_148 : decode cX9_finds 148 = .ok (.ixor, 1) := by decide +kernel
theorem dX9_finds_149 : decode cX9_finds 149 = .ok (.iand, 1) := by decide +kernel
theorem dX9_finds_150 : decode cX9_finds 150 = .ok (.invokevirtual 263, 3) := by decide +kernel
theorem dX9_finds_153 : decode cX9_finds 153 = .ok (.putfield 266, 3) := by decide +kernel
theorem dX9_finds_156 : decode cX9_finds 156 = .ok (.aload_n 0, 1) := by decide +kernel
theorem dX9_finds_157 : decode cX9_finds 157 = .ok (.aload_n 0, 1) := by decide +kernel
theorem dX9_finds_158 : decode cX9_finds 158 = .ok (.aload_n 0, 1) := by decide +kernel
theorem dX9_finds_159 : decode cX9_finds 159 = .ok (.invokevirtual 210, 3) := by decide +kernel
theorem dX9_finds_162 : decode cX9_finds 162 = .ok (.aload_n 0, 1) := by decide +kernel
theorem dX9_finds_163 : decode cX9_finds 163 = .ok (.getfield 269, 3) := by decide +kernel
theorem dX9_finds_166 : decode cX9_finds 166 = .ok (.iconst (-1), 1) := by decide +kernel
theorem dX9_finds_167 : decode cX9_finds 167 = .ok (.ixor, 1) := by decide +kernel
theorem dX9_finds_168 : decode cX9_finds 168 = .ok (.iand, 1) := by decide +kernel
theorem dX9_finds_169 : decode cX9_finds 169 = .ok (.invokevirtual 213, 3) := by decide +kernel
theorem dX9_finds_172 : decode cX9_finds 172 = .ok (.putfield 272, 3) := by decide +kernel
theorem dX9_finds_175 : decode cX9_finds 175 = .ok (.return_, 1) := by decide +kernel
set_option maxRecDepth 20000 in
theorem ggX9_laysOne_X9_laysHeard : GoodIn wsX9_laysOne wsX9_laysHeard := goodIn_r _ [5, 6, 7, 8, 9, 10, 11, 12, 13, 4, 14, 15, 16, 17, 18, 19, 20, 21, 22, 23, 24, 25, 26, 27, 28, 29, 30, 31, 32, 33, 34, 35, 36, 37, 38, 39, 40, 41, 42, 43, 44, 45, 46, 47, 48, 49, 50, 51, 52, 99, 100, 101, 102, 103, 104, 105, 106, 107, 108, 109, 110, 111, 112, 113, 114, 115, 116, 117, 118, 119, 120, 121, 122, 123, 124, 125, 126, 127] (by decide +kernel) (by decide +kernel)
set_option maxRecDepth 20000 in
theorem gX9_laysOne_X9_laysHeard : GoodIn wsX9_laysOne (wsV RX9 281 RX9 yX9_laysHeard wsX9_laysHeard) := goodIn_app (goodIn_of _ (by decide +kernel)) ggX9_laysOne_X9_laysHeard
set_option maxRecDepth 20000 in
theorem ggX9_laysOne_X9_laysMatches : GoodIn wsX9_laysOne wsX9_laysMatches := goodIn_r _ [56, 15, 57, 39, 40, 41, 4, 42, 11, 12, 13, 14, 58, 59, 60, 61, 10, 35, 36, 37, 38, 23, 24, 25, 43, 44, 45, 99, 100, 101, 102, 103, 104, 105, 106, 107, 108, 109, 110, 111, 112, 113, 114, 115, 116, 117, 118, 119, 120, 121, 122, 123, 124, 125, 126, 127] (by decide +kernel) (by decide +kernel)
set_option maxRecDepth 20000 in
theorem gX9_laysOne_X9_laysMatches : GoodIn wsX9_laysOne (wsV RX9 285 RX9 yX9_laysMatches wsX9_laysMatches) := goodIn_app (goodIn_of _ (by decide +kernel)) ggX9_laysOne_X9_laysMatches
set_option maxRecDepth 20000 in
theorem ggX9_laysOne_X9_finds : GoodIn wsX9_laysOne wsX9_finds := goodIn_r _ [65, 66, 67, 68, 69, 15, 70, 71, 72, 4, 73, 74, 75, 76, 77, 78, 79, 80, 81, 82, 83, 84, 43, 44, 45, 39, 40, 41, 42, 85, 86, 87, 88, 57, 89, 90, 91, 92, 93, 94, 95, 96, 97, 98, 99, 100, 101, 102, 103, 104, 105, 106, 107, 108, 109, 110, 111, 112, 113, 114, 115, 116, 117, 118, 119, 120, 121, 122, 123, 124, 125, 126, 127] (by decide +kernel) (by decide +kernel)
set_option maxRecDepth 20000 in
theorem gX9_laysOne_X9_finds : GoodIn wsX9_laysOne (wsV RX9 288 RX9 yX9_finds wsX9_finds) := goodIn_app (goodIn_of _ (by decide +kernel)) ggX9_laysOne_X9_finds
theorem dX9_laysOne_0 : decode cX9_laysOne 0 = .ok (.aload_n 0, 1) := by decide +kernel
theorem dX9_laysOne_1 : decode cX9_laysOne 1 = .ok (.iload_n 1, 1) := by decide +kernel
theorem dX9_laysOne_2 : decode cX9_laysOne 2 = .ok (.invokevirtual 281, 3) := by decide +kernel
theorem dX9_laysOne_5 : decode cX9_laysOne 5 = .ok (.aload_n 0, 1) := by decide +kernel
theorem dX9_laysOne_6 : decode cX9_laysOne 6 = .ok (.iload_n 1, 1) := by decide +kernel
theorem dX9_laysOne_7 : decode cX9_laysOne 7 = .ok (.invokevirtual 285, 3) := by decide +kernel
theorem dX9_laysOne_10 : decode cX9_laysOne 10 = .ok (.aload_n 0, 1) := by decide +kernel
theorem dX9_laysOne_11 : decode cX9_laysOne 11 = .ok (.invokevirtual 288, 3) := by decide +kernel
theorem dX9_laysOne_14 : decode cX9_laysOne 14 = .ok (.return_, 1) := by decide +kernel
set_option maxRecDepth 20000 in
theorem ggX9_laysLeg_X9_laysOne : GoodIn wsX9_laysLeg wsX9_laysOne := goodIn_r _ [7, 8, 9, 10, 6, 11, 12, 13, 14, 15, 16, 17, 18, 19, 20, 21, 22, 23, 24, 25, 26, 27, 28, 29, 30, 31, 32, 33, 34, 35, 2, 36, 37, 38, 39, 40, 41, 42, 43, 44, 45, 46, 47, 48, 49, 50, 51, 52, 53, 54, 55, 56, 57, 58, 59, 60, 61, 62, 63, 64, 65, 66, 67, 68, 69, 70, 1, 71, 72, 73, 74, 75, 76, 77, 78, 79, 80, 81, 82, 83, 84, 85, 86, 87, 88, 89, 90, 91, 92, 93, 94, 95, 96, 97, 98, 99, 100, 101, 102, 103, 104, 105, 106, 107, 108, 109, 110, 111, 112, 113, 114, 115, 116, 117, 118, 119, 120, 121, 122, 123, 124, 125, 126, 127, 128, 129, 130, 131] (by decide +kernel) (by decide +kernel)
set_option maxRecDepth 20000 in
theorem gX9_laysLeg_X9_laysOne : GoodIn wsX9_laysLeg (wsV RX9 291 RX9 yX9_laysOne wsX9_laysOne) := goodIn_app (goodIn_of _ (by decide +kernel)) ggX9_laysLeg_X9_laysOne
theorem dX9_laysLeg_0 : decode cX9_laysLeg 0 = .ok (.iload_n 1, 1) := by decide +kernel
theorem dX9_laysLeg_1 : decode cX9_laysLeg 1 = .ok (.iconst 1, 1) := by decide +kernel
theorem dX9_laysLeg_2 : decode cX9_laysLeg 2 = .ok (.if_icmp .ne 16, 3) := by decide +kernel
theorem dX9_laysLeg_5 : decode cX9_laysLeg 5 = .ok (.aload_n 0, 1) := by decide +kernel
theorem dX9_laysLeg_6 : decode cX9_laysLeg 6 = .ok (.iconst 0, 1) := by decide +kernel
theorem dX9_laysLeg_7 : decode cX9_laysLeg 7 = .ok (.invokevirtual 291, 3) := by decide +kernel
theorem dX9_laysLeg_10 : decode cX9_laysLeg 10 = .ok (.aload_n 0, 1) := by decide +kernel
theorem dX9_laysLeg_11 : decode cX9_laysLeg 11 = .ok (.aload_n 0, 1) := by decide +kernel
theorem dX9_laysLeg_12 : decode cX9_laysLeg 12 = .ok (.getfield 266, 3) := by decide +kernel
theorem dX9_laysLeg_15 : decode cX9_laysLeg 15 = .ok (.putfield 235, 3) := by decide +kernel
theorem dX9_laysLeg_18 : decode cX9_laysLeg 18 = .ok (.aload_n 0, 1) := by decide +kernel
theorem dX9_laysLeg_19 : decode cX9_laysLeg 19 = .ok (.iload_n 1, 1) := by decide +kernel
theorem dX9_laysLeg_20 : decode cX9_laysLeg 20 = .ok (.invokevirtual 291, 3) := by decide +kernel
theorem dX9_laysLeg_23 : decode cX9_laysLeg 23 = .ok (.return_, 1) := by decide +kernel
set_option maxRecDepth 20000 in
theorem ggX9_leg_X9_isLeg : GoodIn wsX9_leg wsX9_isLeg := goodIn_r _ [6, 7, 8, 5, 9] (by decide +kernel) (by decide +kernel)
set_option maxRecDepth 20000 in
theorem gX9_leg_X9_isLeg : GoodIn wsX9_leg (va_wsS RX9 182 yX9_isLeg wsX9_isLeg) := goodIn_app (goodIn_of _ (by decide +kernel)) ggX9_leg_X9_isLeg
set_option maxRecDepth 20000 in
theorem ggX9_leg_X9_in : GoodIn wsX9_leg wsX9_in := goodIn_r _ [9] (by decide +kernel) (by decide +kernel)
set_option maxRecDepth 20000 in
theorem gX9_leg_X9_in : GoodIn wsX9_leg (va_wsS RX9 63 yX9_in wsX9_in) := goodIn_app (goodIn_of _ (by decide +kernel)) ggX9_leg_X9_in
set_option maxRecDepth 20000 in
theorem ggX9_leg_X9_ofLeg : GoodIn wsX9_leg wsX9_ofLeg := goodIn_r _ [13, 14, 111, 112, 113, 114, 115, 116, 117, 118, 119, 120, 121, 122, 123, 124, 125, 126, 127, 128, 129, 130, 131, 132, 133, 134, 135, 136, 137, 138, 139] (by decide +kernel) (by decide +kernel)
set_option maxRecDepth 20000 in
theorem gX9_leg_X9_ofLeg : GoodIn wsX9_leg (wsV RX9 185 RX9 yX9_ofLeg wsX9_ofLeg) := goodIn_app (goodIn_of _ (by decide +kernel)) ggX9_leg_X9_ofLeg
set_option maxRecDepth 20000 in
theorem ggX9_leg_X9_laysLeg : GoodIn wsX9_leg wsX9_laysLeg := goodIn_r _ [18, 19, 20, 21, 22, 23, 5, 24, 25, 26, 27, 28, 29, 30, 31, 32, 2, 10, 11, 12, 13, 14, 33, 34, 35, 36, 37, 38, 39, 40, 41, 42, 43, 44, 45, 46, 47, 48, 49, 50, 51, 52, 53, 54, 55, 56, 57, 58, 59, 60, 61, 62, 63, 64, 65, 7, 8, 9, 66, 67, 68, 69, 70, 71, 72, 73, 74, 75, 76, 77, 78, 79, 80, 81, 82, 83, 84, 85, 86, 87, 88, 89, 90, 91, 92, 93, 94, 95, 96, 97, 98, 99, 100, 101, 102, 103, 104, 105, 106, 107, 108, 109, 110, 111, 112, 113, 114, 115, 116, 117, 118, 119, 120, 121, 122, 123, 124, 125, 126, 127, 128, 129, 130, 131, 132, 133, 134, 135, 136, 137, 138, 139] (by decide +kernel) (by decide +kernel)
set_option maxRecDepth 20000 in
theorem gX9_leg_X9_laysLeg : GoodIn wsX9_leg (wsV RX9 294 RX9 yX9_laysLeg wsX9_laysLeg) := goodIn_app (goodIn_of _ (by decide +kernel)) ggX9_leg_X9_laysLeg
theorem dX9_leg_0 : decode cX9_leg 0 = .ok (.aload_n 0, 1) := by decide +kernel
theorem dX9_leg_1 : decode cX9_leg 1 = .ok (.iconst 0, 1) := by decide +kernel
theorem dX9_leg_2 : decode cX9_leg 2 = .ok (.putfield 51, 3) := by decide +kernel
theorem dX9_leg_5 : decode cX9_leg 5 = .ok (.iload_n 1, 1) := by decide +kernel
theorem dX9_leg_6 : decode cX9_leg 6 = .ok (.invokestatic 182, 3) := by decide +kernel
theorem dX9_leg_9 : decode cX9_leg 9 = .ok (.ifCond .eq 13, 3) := by decide +kernel
theorem dX9_leg_12 : decode cX9_leg 12 = .ok (.iload_n 2, 1) := by decide +kernel
theorem dX9_leg_13 : decode cX9_leg 13 = .ok (.iconst 0, 1) := by decide +kernel
theorem dX9_leg_14 : decode cX9_leg 14 = .ok (.bipush 10, 2) := by decide +kernel
theorem dX9_leg_16 : decode cX9_leg 16 = .ok (.invokestatic 63, 3) := by decide +kernel
theorem dX9_leg_19 : decode cX9_leg 19 = .ok (.ifCond .ne 7, 3) := by decide +kernel
theorem dX9_leg_22 : decode cX9_leg 22 = .ok (.sipush (-1000), 3) := by decide +kernel
theorem dX9_leg_25 : decode cX9_leg 25 = .ok (.ireturn, 1) := by decide +kernel
theorem dX9_leg_26 : decode cX9_leg 26 = .ok (.iload_n 2, 1) := by decide +kernel
theorem dX9_leg_27 : decode cX9_leg 27 = .ok (.iconst 5, 1) := by decide +kernel
theorem dX9_leg_28 : decode cX9_leg 28 = .ok (.if_icmp .gt 10, 3) := by decide +kernel
theorem dX9_leg_31 : decode cX9_leg 31 = .ok (.aload_n 0, 1) := by decide +kernel
theorem dX9_leg_32 : decode cX9_leg 32 = .ok (.iload_n 1, 1) := by decide +kernel
theorem dX9_leg_33 : decode cX9_leg 33 = .ok (.iload_n 2, 1) := by decide +kernel
theorem dX9_leg_34 : decode cX9_leg 34 = .ok (.invokevirtual 185, 3) := by decide +kernel
theorem dX9_leg_37 : decode cX9_leg 37 = .ok (.ireturn, 1) := by decide +kernel
theorem dX9_leg_38 : decode cX9_leg 38 = .ok (.iconst 0, 1) := by decide +kernel
theorem dX9_leg_39 : decode cX9_leg 39 = .ok (.istore_n 3, 1) := by decide +kernel
theorem dX9_leg_40 : decode cX9_leg 40 = .ok (.iconst 0, 1) := by decide +kernel
theorem dX9_leg_41 : decode cX9_leg 41 = .ok (.istore 4, 2) := by decide +kernel
theorem dX9_leg_43 : decode cX9_leg 43 = .ok (.iload 4, 2) := by decide +kernel
theorem dX9_leg_45 : decode cX9_leg 45 = .ok (.aload_n 0, 1) := by decide +kernel
theorem dX9_leg_46 : decode cX9_leg 46 = .ok (.iload_n 1, 1) := by decide +kernel
theorem dX9_leg_47 : decode cX9_leg 47 = .ok (.bipush 6, 2) := by decide +kernel
theorem dX9_leg_49 : decode cX9_leg 49 = .ok (.invokevirtual 185, 3) := by decide +kernel
theorem dX9_leg_52 : decode cX9_leg 52 = .ok (.if_icmp .ge 72, 3) := by decide +kernel
theorem dX9_leg_55 : decode cX9_leg 55 = .ok (.aload_n 0, 1) := by decide +kernel
theorem dX9_leg_56 : decode cX9_leg 56 = .ok (.iload_n 1, 1) := by decide +kernel
theorem dX9_leg_57 : decode cX9_leg 57 = .ok (.bipush 7, 2) := by decide +kernel
theorem dX9_leg_59 : decode cX9_leg 59 = .ok (.iconst 3, 1) := by decide +kernel
theorem dX9_leg_60 : decode cX9_leg 60 = .ok (.iload 4, 2) := by decide +kernel
theorem dX9_leg_62 : decode cX9_leg 62 = .ok (.imul, 1) := by decide +kernel
theorem dX9_leg_63 : decode cX9_leg 63 = .ok (.iadd, 1) := by decide +kernel
theorem dX9_leg_64 : decode cX9_leg 64 = .ok (.invokevirtual 185, 3) := by decide +kernel
theorem dX9_leg_67 : decode cX9_leg 67 = .ok (.istore 5, 2) := by decide +kernel
theorem dX9_leg_69 : decode cX9_leg 69 = .ok (.iload_n 3, 1) := by decide +kernel
theorem dX9_leg_70 : decode cX9_leg 70 = .ok (.iload_n 2, 1) := by decide +kernel
theorem dX9_leg_71 : decode cX9_leg 71 = .ok (.bipush 6, 2) := by decide +kernel
theorem dX9_leg_73 : decode cX9_leg 73 = .ok (.if_icmp .ne 8, 3) := by decide +kernel
theorem dX9_leg_76 : decode cX9_leg 76 = .ok (.iload 5, 2) := by decide +kernel
theorem dX9_leg_78 : decode cX9_leg 78 = .ok (.ifCond .eq 33, 3) := by decide +kernel
theorem dX9_leg_81 : decode cX9_leg 81 = .ok (.iload_n 2, 1) := by decide +kernel
theorem dX9_leg_82 : decode cX9_leg 82 = .ok (.bipush 7, 2) := by decide +kernel
theorem dX9_leg_84 : decode cX9_leg 84 = .ok (.if_icmp .ne 9, 3) := by decide +kernel
theorem dX9_leg_87 : decode cX9_leg 87 = .ok (.iload 5, 2) := by decide +kernel
theorem dX9_leg_89 : decode cX9_leg 89 = .ok (.iconst 3, 1) := by decide +kernel
theorem dX9_leg_90 : decode cX9_leg 90 = .ok (.if_icmp .eq 21, 3) := by decide +kernel
theorem dX9_leg_93 : decode cX9_leg 93 = .ok (.iload_n 2, 1) := by decide +kernel
theorem dX9_leg_94 : decode cX9_leg 94 = .ok (.bipush 8, 2) := by decide +kernel
theorem dX9_leg_96 : decode cX9_leg 96 = .ok (.if_icmp .ne 19, 3) := by decide +kernel
theorem dX9_leg_99 : decode cX9_leg 99 = .ok (.iload 5, 2) := by decide +kernel
theorem dX9_leg_101 : decode cX9_leg 101 = .ok (.iconst 1, 1) := by decide +kernel
theorem dX9_leg_102 : decode cX9_leg 102 = .ok (.if_icmp .eq 9, 3) := by decide +kernel
theorem dX9_leg_105 : decode cX9_leg 105 = .ok (.iload 5, 2) := by decide +kernel
theorem dX9_leg_107 : decode cX9_leg 107 = .ok (.iconst 2, 1) := by decide +kernel
theorem dX9_leg_108 : decode cX9_leg 108 = .ok (.if_icmp .ne 7, 3) := by decide +kernel
theorem dX9_leg_111 : decode cX9_leg 111 = .ok (.iconst 1, 1) := by decide +kernel
theorem dX9_leg_112 : decode cX9_leg 112 = .ok (.goto 4, 3) := by decide +kernel
theorem dX9_leg_115 : decode cX9_leg 115 = .ok (.iconst 0, 1) := by decide +kernel
theorem dX9_leg_116 : decode cX9_leg 116 = .ok (.iadd, 1) := by decide +kernel
theorem dX9_leg_117 : decode cX9_leg 117 = .ok (.istore_n 3, 1) := by decide +kernel
theorem dX9_leg_118 : decode cX9_leg 118 = .ok (.iinc 4 1, 3) := by decide +kernel
theorem dX9_leg_121 : decode cX9_leg 121 = .ok (.goto (-78), 3) := by decide +kernel
theorem dX9_leg_124 : decode cX9_leg 124 = .ok (.iload_n 2, 1) := by decide +kernel
theorem dX9_leg_125 : decode cX9_leg 125 = .ok (.bipush 8, 2) := by decide +kernel
theorem dX9_leg_127 : decode cX9_leg 127 = .ok (.if_icmp .le 63, 3) := by decide +kernel
theorem dX9_leg_130 : decode cX9_leg 130 = .ok (.aload_n 0, 1) := by decide +kernel
theorem dX9_leg_131 : decode cX9_leg 131 = .ok (.iload_n 1, 1) := by decide +kernel
theorem dX9_leg_132 : decode cX9_leg 132 = .ok (.invokevirtual 294, 3) := by decide +kernel
theorem dX9_leg_135 : decode cX9_leg 135 = .ok (.iconst 0, 1) := by decide +kernel
theorem dX9_leg_136 : decode cX9_leg 136 = .ok (.istore 4, 2) := by decide +kernel
theorem dX9_leg_138 : decode cX9_leg 138 = .ok (.iload 4, 2) := by decide +kernel
theorem dX9_leg_140 : decode cX9_leg 140 = .ok (.aload_n 0, 1) := by decide +kernel
theorem dX9_leg_141 : decode cX9_leg 141 = .ok (.iload_n 1, 1) := by decide +kernel
theorem dX9_leg_142 : decode cX9_leg 142 = .ok (.iconst 3, 1) := by decide +kernel
theorem dX9_leg_143 : decode cX9_leg 143 = .ok (.invokevirtual 185, 3) := by decide +kernel
theorem dX9_leg_146 : decode cX9_leg 146 = .ok (.if_icmp .ge 44, 3) := by decide +kernel
theorem dX9_leg_149 : decode cX9_leg 149 = .ok (.iload_n 3, 1) := by decide +kernel
theorem dX9_leg_150 : decode cX9_leg 150 = .ok (.aload_n 0, 1) := by decide +kernel
theorem dX9_leg_151 : decode cX9_leg 151 = .ok (.getfield 30, 3) := by decide +kernel
theorem dX9_leg_154 : decode cX9_leg 154 = .ok (.iload 4, 2) := by decide +kernel
theorem dX9_leg_156 : decode cX9_leg 156 = .ok (.iaload, 1) := by decide +kernel
theorem dX9_leg_157 : decode cX9_leg 157 = .ok (.iconst 1, 1) := by decide +kernel
theorem dX9_leg_158 : decode cX9_leg 158 = .ok (.if_icmp .eq 19, 3) := by decide +kernel
theorem dX9_leg_161 : decode cX9_leg 161 = .ok (.iload_n 2, 1) := by decide +kernel
theorem dX9_leg_162 : decode cX9_leg 162 = .ok (.bipush 9, 2) := by decide +kernel
theorem dX9_leg_164 : decode cX9_leg 164 = .ok (.if_icmp .ne 17, 3) := by decide +kernel
theorem dX9_leg_167 : decode cX9_leg 167 = .ok (.aload_n 0, 1) := by decide +kernel
theorem dX9_leg_168 : decode cX9_leg 168 = .ok (.getfield 30, 3) := by decide +kernel
theorem dX9_leg_171 : decode cX9_leg 171 = .ok (.iload 4, 2) := by decide +kernel
theorem dX9_leg_173 : decode cX9_leg 173 = .ok (.iaload, 1) := by decide +kernel
theorem dX9_leg_174 : decode cX9_leg 174 = .ok (.ifCond .ne 7, 3) := by decide +kernel
theorem dX9_leg_177 : decode cX9_leg 177 = .ok (.iconst 1, 1) := by decide +kernel
theorem dX9_leg_178 : decode cX9_leg 178 = .ok (.goto 4, 3) := by decide +kernel
theorem dX9_leg_181 : decode cX9_leg 181 = .ok (.iconst 0, 1) := by decide +kernel
theorem dX9_leg_182 : decode cX9_leg 182 = .ok (.iadd, 1) := by decide +kernel
theorem dX9_leg_183 : decode cX9_leg 183 = .ok (.istore_n 3, 1) := by decide +kernel
theorem dX9_leg_184 : decode cX9_leg 184 = .ok (.iinc 4 1, 3) := by decide +kernel
theorem dX9_leg_187 : decode cX9_leg 187 = .ok (.goto (-49), 3) := by decide +kernel
theorem dX9_leg_190 : decode cX9_leg 190 = .ok (.iload_n 3, 1) := by decide +kernel
theorem dX9_leg_191 : decode cX9_leg 191 = .ok (.ireturn, 1) := by decide +kernel
set_option maxRecDepth 20000 in
theorem ggX9_heard_X9_isLeg : GoodIn wsX9_heard wsX9_isLeg := goodIn_r _ [6, 7, 8, 5, 9] (by decide +kernel) (by decide +kernel)
set_option maxRecDepth 20000 in
theorem gX9_heard_X9_isLeg : GoodIn wsX9_heard (va_wsS RX9 182 yX9_isLeg wsX9_isLeg) := goodIn_app (goodIn_of _ (by decide +kernel)) ggX9_heard_X9_isLeg
set_option maxRecDepth 20000 in
theorem ggX9_heard_X9_ofLeg : GoodIn wsX9_heard wsX9_ofLeg := goodIn_r _ [13, 14, 111, 112, 113, 114, 115, 116, 117, 118, 119, 120, 121, 122, 123, 124, 125, 126, 127, 128, 129, 130, 131, 132, 133, 134, 135, 136, 137, 138, 139] (by decide +kernel) (by decide +kernel)
set_option maxRecDepth 20000 in
theorem gX9_heard_X9_ofLeg : GoodIn wsX9_heard (wsV RX9 185 RX9 yX9_ofLeg wsX9_ofLeg) := goodIn_app (goodIn_of _ (by decide +kernel)) ggX9_heard_X9_ofLeg
set_option maxRecDepth 20000 in
theorem ggX9_heard_X9_in : GoodIn wsX9_heard wsX9_in := goodIn_r _ [9] (by decide +kernel) (by decide +kernel)
set_option maxRecDepth 20000 in
theorem gX9_heard_X9_in : GoodIn wsX9_heard (va_wsS RX9 63 yX9_in wsX9_in) := goodIn_app (goodIn_of _ (by decide +kernel)) ggX9_heard_X9_in
set_option maxRecDepth 20000 in
theorem ggX9_heard_X9_laysLeg : GoodIn wsX9_heard wsX9_laysLeg := goodIn_r _ [18, 19, 20, 21, 22, 23, 5, 24, 25, 26, 27, 28, 29, 30, 31, 32, 2, 10, 11, 12, 13, 14, 33, 34, 35, 36, 37, 38, 39, 40, 41, 42, 43, 44, 45, 46, 47, 48, 49, 50, 51, 52, 53, 54, 55, 56, 57, 58, 59, 60, 61, 62, 63, 64, 65, 7, 8, 9, 66, 67, 68, 69, 70, 71, 72, 73, 74, 75, 76, 77, 78, 79, 80, 81, 82, 83, 84, 85, 86, 87, 88, 89, 90, 91, 92, 93, 94, 95, 96, 97, 98, 99, 100, 101, 102, 103, 104, 105, 106, 107, 108, 109, 110, 111, 112, 113, 114, 115, 116, 117, 118, 119, 120, 121, 122, 123, 124, 125, 126, 127, 128, 129, 130, 131, 132, 133, 134, 135, 136, 137, 138, 139] (by decide +kernel) (by decide +kernel)
set_option maxRecDepth 20000 in
theorem gX9_heard_X9_laysLeg : GoodIn wsX9_heard (wsV RX9 294 RX9 yX9_laysLeg wsX9_laysLeg) := goodIn_app (goodIn_of _ (by decide +kernel)) ggX9_heard_X9_laysLeg
theorem dX9_heard_0 : decode cX9_heard 0 = .ok (.aload_n 0, 1) := by decide +kernel
theorem dX9_heard_1 : decode cX9_heard 1 = .ok (.iconst 0, 1) := by decide +kernel
theorem dX9_heard_2 : decode cX9_heard 2 = .ok (.putfield 51, 3) := by decide +kernel
theorem dX9_heard_5 : decode cX9_heard 5 = .ok (.iload_n 1, 1) := by decide +kernel
theorem dX9_heard_6 : decode cX9_heard 6 = .ok (.invokestatic 182, 3) := by decide +kernel
theorem dX9_heard_9 : decode cX9_heard 9 = .ok (.ifCond .eq 19, 3) := by decide +kernel
theorem dX9_heard_12 : decode cX9_heard 12 = .ok (.iload_n 2, 1) := by decide +kernel
theorem dX9_heard_13 : decode cX9_heard 13 = .ok (.iconst 0, 1) := by decide +kernel
theorem dX9_heard_14 : decode cX9_heard 14 = .ok (.aload_n 0, 1) := by decide +kernel
theorem dX9_heard_15 : decode cX9_heard 15 = .ok (.iload_n 1, 1) := by decide +kernel
theorem dX9_heard_16 : decode cX9_heard 16 = .ok (.iconst 3, 1) := by decide +kernel
theorem dX9_heard_17 : decode cX9_heard 17 = .ok (.invokevirtual 185, 3) := by decide +kernel
theorem dX9_heard_20 : decode cX9_heard 20 = .ok (.iconst 1, 1) := by decide +kernel
theorem dX9_heard_21 : decode cX9_heard 21 = .ok (.isub, 1) := by decide +kernel
theorem dX9_heard_22 : decode cX9_heard 22 = .ok (.invokestatic 63, 3) := by decide +kernel
theorem dX9_heard_25 : decode cX9_heard 25 = .ok (.ifCond .ne 5, 3) := by decide +kernel
theorem dX9_heard_28 : decode cX9_heard 28 = .ok (.iconst (-1), 1) := by decide +kernel
theorem dX9_heard_29 : decode cX9_heard 29 = .ok (.ireturn, 1) := by decide +kernel
theorem dX9_heard_30 : decode cX9_heard 30 = .ok (.aload_n 0, 1) := by decide +kernel
theorem dX9_heard_31 : decode cX9_heard 31 = .ok (.iload_n 1, 1) := by decide +kernel
theorem dX9_heard_32 : decode cX9_heard 32 = .ok (.invokevirtual 294, 3) := by decide +kernel
theorem dX9_heard_35 : decode cX9_heard 35 = .ok (.aload_n 0, 1) := by decide +kernel
theorem dX9_heard_36 : decode cX9_heard 36 = .ok (.getfield 30, 3) := by decide +kernel
theorem dX9_heard_39 : decode cX9_heard 39 = .ok (.iload_n 2, 1) := by decide +kernel
theorem dX9_heard_40 : decode cX9_heard 40 = .ok (.iaload, 1) := by decide +kernel
theorem dX9_heard_41 : decode cX9_heard 41 = .ok (.ireturn, 1) := by decide +kernel
set_option maxRecDepth 20000 in
theorem ggX9_behind_X9_isLeg : GoodIn wsX9_behind wsX9_isLeg := goodIn_r _ [6, 7, 8, 5, 9] (by decide +kernel) (by decide +kernel)
set_option maxRecDepth 20000 in
theorem gX9_behind_X9_isLeg : GoodIn wsX9_behind (va_wsS RX9 182 yX9_isLeg wsX9_isLeg) := goodIn_app (goodIn_of _ (by decide +kernel)) ggX9_behind_X9_isLeg
set_option maxRecDepth 20000 in
theorem ggX9_behind_X9_ofLeg : GoodIn wsX9_behind wsX9_ofLeg := goodIn_r _ [13, 14, 25, 26, 27, 28, 29, 30, 31, 32, 33, 34, 35, 36, 37, 38, 39, 40, 41, 42, 43, 44, 45, 46, 47, 48, 49, 50, 51, 52, 53] (by decide +kernel) (by decide +kernel)
set_option maxRecDepth 20000 in
theorem gX9_behind_X9_ofLeg : GoodIn wsX9_behind (wsV RX9 185 RX9 yX9_ofLeg wsX9_ofLeg) := goodIn_app (goodIn_of _ (by decide +kernel)) ggX9_behind_X9_ofLeg
set_option maxRecDepth 20000 in
theorem ggX9_behind_X9_in : GoodIn wsX9_behind wsX9_in := goodIn_r _ [9] (by decide +kernel) (by decide +kernel)
set_option maxRecDepth 20000 in
theorem gX9_behind_X9_in : GoodIn wsX9_behind (va_wsS RX9 63 yX9_in wsX9_in) := goodIn_app (goodIn_of _ (by decide +kernel)) ggX9_behind_X9_in
set_option maxRecDepth 20000 in
theorem ggX9_behind_X9_behindAt : GoodIn wsX9_behind wsX9_behindAt := goodIn_r _ [18, 10, 11, 12, 5, 13, 14, 19, 20, 21, 22, 23, 24, 25, 26, 27, 28, 29, 30, 31, 32, 33, 34, 35, 36, 37, 38, 39, 40, 41, 42, 43, 44, 45, 46, 47, 48, 49, 50, 51, 52, 53] (by decide +kernel) (by decide +kernel)
set_option maxRecDepth 20000 in
theorem gX9_behind_X9_behindAt : GoodIn wsX9_behind (wsV RX9 244 RX9 yX9_behindAt wsX9_behindAt) := goodIn_app (goodIn_of _ (by decide +kernel)) ggX9_behind_X9_behindAt
theorem dX9_behind_0 : decode cX9_behind 0 = .ok (.aload_n 0, 1) := by decide +kernel
theorem dX9_behind_1 : decode cX9_behind 1 = .ok (.iconst 0, 1) := by decide +kernel
theorem dX9_behind_2 : decode cX9_behind 2 = .ok (.putfield 51, 3) := by decide +kernel
theorem dX9_behind_5 : decode cX9_behind 5 = .ok (.iload_n 1, 1) := by decide +kernel
theorem dX9_behind_6 : decode cX9_behind 6 = .ok (.invokestatic 182, 3) := by decide +kernel
theorem dX9_behind_9 : decode cX9_behind 9 = .ok (.ifCond .eq 28, 3) := by decide +kernel
theorem dX9_behind_12 : decode cX9_behind 12 = .ok (.iload_n 2, 1) := by decide +kernel
theorem dX9_behind_13 : decode cX9_behind 13 = .ok (.iconst 0, 1) := by decide +kernel
theorem dX9_behind_14 : decode cX9_behind 14 = .ok (.aload_n 0, 1) := by decide +kernel
theorem dX9_behind_15 : decode cX9_behind 15 = .ok (.iload_n 1, 1) := by decide +kernel
theorem dX9_behind_16 : decode cX9_behind 16 = .ok (.iconst 3, 1) := by decide +kernel
theorem dX9_behind_17 : decode cX9_behind 17 = .ok (.invokevirtual 185, 3) := by decide +kernel
theorem dX9_behind_20 : decode cX9_behind 20 = .ok (.iconst 1, 1) := by decide +kernel
theorem dX9_behind_21 : decode cX9_behind 21 = .ok (.isub, 1) := by decide +kernel
theorem dX9_behind_22 : decode cX9_behind 22 = .ok (.invokestatic 63, 3) := by decide +kernel
theorem dX9_behind_25 : decode cX9_behind 25 = .ok (.ifCond .eq 12, 3) := by decide +kernel
theorem dX9_behind_28 : decode cX9_behind 28 = .ok (.aload_n 0, 1) := by decide +kernel
theorem dX9_behind_29 : decode cX9_behind 29 = .ok (.iload_n 1, 1) := by decide +kernel
theorem dX9_behind_30 : decode cX9_behind 30 = .ok (.iload_n 2, 1) := by decide +kernel
theorem dX9_behind_31 : decode cX9_behind 31 = .ok (.invokevirtual 244, 3) := by decide +kernel
theorem dX9_behind_34 : decode cX9_behind 34 = .ok (.goto 6, 3) := by decide +kernel
theorem dX9_behind_37 : decode cX9_behind 37 = .ok (.ldc_w 297, 3) := by decide +kernel
theorem dX9_behind_40 : decode cX9_behind 40 = .ok (.ireturn, 1) := by decide +kernel
set_option maxRecDepth 20000 in
theorem ggX9_match_X9_isLeg : GoodIn wsX9_match wsX9_isLeg := goodIn_r _ [6, 7, 8, 5, 9] (by decide +kernel) (by decide +kernel)
set_option maxRecDepth 20000 in
theorem gX9_match_X9_isLeg : GoodIn wsX9_match (va_wsS RX9 182 yX9_isLeg wsX9_isLeg) := goodIn_app (goodIn_of _ (by decide +kernel)) ggX9_match_X9_isLeg
set_option maxRecDepth 20000 in
theorem ggX9_match_X9_isPart : GoodIn wsX9_match wsX9_isPart := goodIn_r _ [13, 14, 7, 8, 5, 9, 115, 116, 117, 118, 119, 120, 121, 122, 123, 124, 125, 126, 127, 128, 129, 130, 131, 132, 133, 134, 135, 136, 137, 138, 139, 140, 141, 142, 143] (by decide +kernel) (by decide +kernel)
set_option maxRecDepth 20000 in
theorem gX9_match_X9_isPart : GoodIn wsX9_match (wsV RX9 192 RX9 yX9_isPart wsX9_isPart) := goodIn_app (goodIn_of _ (by decide +kernel)) ggX9_match_X9_isPart
set_option maxRecDepth 20000 in
theorem ggX9_match_X9_of : GoodIn wsX9_match wsX9_of := goodIn_r _ [18, 14, 115, 116, 117, 118, 119, 120, 121, 122, 123, 124, 125, 126, 127, 128, 129, 130, 131, 132, 133, 134, 135, 136, 137, 138, 139, 140, 141, 142, 143] (by decide +kernel) (by decide +kernel)
set_option maxRecDepth 20000 in
theorem gX9_match_X9_of : GoodIn wsX9_match (wsV RX9 195 RX9 yX9_of wsX9_of) := goodIn_app (goodIn_of _ (by decide +kernel)) ggX9_match_X9_of
set_option maxRecDepth 20000 in
theorem ggX9_match_X9_in : GoodIn wsX9_match wsX9_in := goodIn_r _ [9] (by decide +kernel) (by decide +kernel)
set_option maxRecDepth 20000 in
theorem gX9_match_X9_in : GoodIn wsX9_match (va_wsS RX9 63 yX9_in wsX9_in) := goodIn_app (goodIn_of _ (by decide +kernel)) ggX9_match_X9_in
set_option maxRecDepth 20000 in
theorem ggX9_match_X9_laysLeg : GoodIn wsX9_match wsX9_laysLeg := goodIn_r _ [22, 23, 24, 25, 26, 27, 5, 28, 29, 30, 31, 32, 33, 34, 35, 36, 37, 38, 39, 40, 41, 14, 42, 43, 44, 45, 46, 47, 48, 49, 50, 51, 52, 53, 54, 55, 56, 57, 58, 59, 60, 61, 62, 63, 15, 16, 17, 18, 64, 65, 66, 67, 68, 69, 70, 7, 8, 9, 71, 72, 73, 74, 2, 75, 76, 77, 78, 79, 80, 81, 82, 83, 84, 85, 86, 87, 88, 89, 90, 91, 92, 93, 94, 95, 96, 97, 98, 99, 100, 101, 102, 103, 104, 105, 106, 107, 108, 109, 110, 111, 112, 113, 114, 115, 116, 117, 118, 119, 120, 121, 122, 123, 124, 125, 126, 127, 128, 129, 130, 131, 132, 133, 134, 135, 136, 137, 138, 139, 140, 141, 142, 143] (by decide +kernel) (by decide +kernel)
set_option maxRecDepth 20000 in
theorem gX9_match_X9_laysLeg : GoodIn wsX9_match (wsV RX9 294 RX9 yX9_laysLeg wsX9_laysLeg) := goodIn_app (goodIn_of _ (by decide +kernel)) ggX9_match_X9_laysLeg
theorem dX9_match_0 : decode cX9_match 0 = .ok (.aload_n 0, 1) := by decide +kernel
theorem dX9_match_1 : decode cX9_match 1 = .ok (.iconst 0, 1) := by decide +kernel
theorem dX9_match_2 : decode cX9_match 2 = .ok (.putfield 51, 3) := by decide +kernel
theorem dX9_match_5 : decode cX9_match 5 = .ok (.iload_n 1, 1) := by decide +kernel
theorem dX9_match_6 : decode cX9_match 6 = .ok (.invokestatic 182, 3) := by decide +kernel
theorem dX9_match_9 : decode cX9_match 9 = .ok (.ifCond .eq 27, 3) := by decide +kernel
theorem dX9_match_12 : decode cX9_match 12 = .ok (.aload_n 0, 1) := by decide +kernel
theorem dX9_match_13 : decode cX9_match 13 = .ok (.iload_n 2, 1) := by decide +kernel
theorem dX9_match_14 : decode cX9_match 14 = .ok (.invokevirtual 192, 3) := by decide +kernel
theorem dX9_match_17 : decode cX9_match 17 = .ok (.ifCond .eq 19, 3) := by decide +kernel
theorem dX9_match_20 : decode cX9_match 20 = .ok (.iload_n 3, 1) := by decide +kernel
theorem dX9_match_21 : decode cX9_match 21 = .ok (.iconst 0, 1) := by decide +kernel
theorem dX9_match_22 : decode cX9_match 22 = .ok (.aload_n 0, 1) := by decide +kernel
theorem dX9_match_23 : decode cX9_match 23 = .ok (.iload_n 2, 1) := by decide +kernel
theorem dX9_match_24 : decode cX9_match 24 = .ok (.iconst 0, 1) := by decide +kernel
theorem dX9_match_25 : decode cX9_match 25 = .ok (.invokevirtual 195, 3) := by decide +kernel
theorem dX9_match_28 : decode cX9_match 28 = .ok (.iconst 1, 1) := by decide +kernel
theorem dX9_match_29 : decode cX9_match 29 = .ok (.isub, 1) := by decide +kernel
theorem dX9_match_30 : decode cX9_match 30 = .ok (.invokestatic 63, 3) := by decide +kernel
theorem dX9_match_33 : decode cX9_match 33 = .ok (.ifCond .ne 7, 3) := by decide +kernel
theorem dX9_match_36 : decode cX9_match 36 = .ok (.sipush (-1000), 3) := by decide +kernel
theorem dX9_match_39 : decode cX9_match 39 = .ok (.ireturn, 1) := by decide +kernel
theorem dX9_match_40 : decode cX9_match 40 = .ok (.aload_n 0, 1) := by decide +kernel
theorem dX9_match_41 : decode cX9_match 41 = .ok (.iload_n 1, 1) := by decide +kernel
theorem dX9_match_42 : decode cX9_match 42 = .ok (.invokevirtual 294, 3) := by decide +kernel
theorem dX9_match_45 : decode cX9_match 45 = .ok (.aload_n 0, 1) := by decide +kernel
theorem dX9_match_46 : decode cX9_match 46 = .ok (.getfield 33, 3) := by decide +kernel
theorem dX9_match_49 : decode cX9_match 49 = .ok (.bipush 13, 2) := by decide +kernel
theorem dX9_match_51 : decode cX9_match 51 = .ok (.iload_n 2, 1) := by decide +kernel
theorem dX9_match_52 : decode cX9_match 52 = .ok (.imul, 1) := by decide +kernel
theorem dX9_match_53 : decode cX9_match 53 = .ok (.iload_n 3, 1) := by decide +kernel
theorem dX9_match_54 : decode cX9_match 54 = .ok (.iadd, 1) := by decide +kernel
theorem dX9_match_55 : decode cX9_match 55 = .ok (.iaload, 1) := by decide +kernel
theorem dX9_match_56 : decode cX9_match 56 = .ok (.ireturn, 1) := by decide +kernel
set_option maxRecDepth 20000 in
theorem ggX9_best_X9_isLeg : GoodIn wsX9_best wsX9_isLeg := goodIn_r _ [7, 8, 9, 6, 10] (by decide +kernel) (by decide +kernel)
set_option maxRecDepth 20000 in
theorem gX9_best_X9_isLeg : GoodIn wsX9_best (va_wsS RX9 182 yX9_isLeg wsX9_isLeg) := goodIn_app (goodIn_of _ (by decide +kernel)) ggX9_best_X9_isLeg
set_option maxRecDepth 20000 in
theorem ggX9_best_X9_isPart : GoodIn wsX9_best wsX9_isPart := goodIn_r _ [14, 15, 8, 9, 6, 10, 123, 124, 125, 126, 127, 128, 129, 130, 131, 132, 133, 134, 135, 136, 137, 138, 139, 140, 141, 142, 143, 144, 145, 146, 147, 148, 149, 150, 151] (by decide +kernel) (by decide +kernel)
set_option maxRecDepth 20000 in
theorem gX9_best_X9_isPart : GoodIn wsX9_best (wsV RX9 192 RX9 yX9_isPart wsX9_isPart) := goodIn_app (goodIn_of _ (by decide +kernel)) ggX9_best_X9_isPart
set_option maxRecDepth 20000 in
theorem ggX9_best_X9_in : GoodIn wsX9_best wsX9_in := goodIn_r _ [10] (by decide +kernel) (by decide +kernel)
set_option maxRecDepth 20000 in
theorem gX9_best_X9_in : GoodIn wsX9_best (va_wsS RX9 63 yX9_in wsX9_in) := goodIn_app (goodIn_of _ (by decide +kernel)) ggX9_best_X9_in
set_option maxRecDepth 20000 in
theorem ggX9_best_X9_laysLeg : GoodIn wsX9_best wsX9_laysLeg := goodIn_r _ [19, 20, 21, 22, 23, 24, 6, 25, 26, 27, 28, 29, 30, 31, 32, 33, 34, 35, 36, 37, 38, 15, 39, 40, 41, 42, 43, 44, 45, 46, 47, 48, 49, 50, 51, 52, 53, 54, 55, 56, 57, 58, 59, 60, 61, 62, 63, 64, 65, 66, 67, 68, 69, 70, 71, 8, 9, 10, 72, 73, 74, 75, 3, 76, 77, 78, 79, 80, 81, 82, 83, 84, 85, 86, 87, 88, 89, 90, 91, 92, 93, 94, 95, 96, 97, 98, 99, 100, 101, 102, 103, 104, 105, 106, 107, 108, 109, 110, 111, 112, 113, 114, 115, 123, 124, 125, 126, 127, 128, 129, 130, 131, 132, 133, 134, 135, 136, 137, 138, 139, 140, 141, 142, 143, 144, 145, 146, 147, 148, 149, 150, 151] (by decide +kernel) (by decide +kernel)
set_option maxRecDepth 20000 in
theorem gX9_best_X9_laysLeg : GoodIn wsX9_best (wsV RX9 294 RX9 yX9_laysLeg wsX9_laysLeg) := goodIn_app (goodIn_of _ (by decide +kernel)) ggX9_best_X9_laysLeg
set_option maxRecDepth 20000 in
theorem ggX9_best_X9_bestOf : GoodIn wsX9_best wsX9_bestOf := goodIn_r _ [105, 3, 61, 62, 63, 6, 64, 15, 123, 124, 125, 126, 127, 128, 129, 130, 131, 132, 133, 134, 135, 136, 137, 138, 139, 140, 141, 142, 143, 144, 145, 146, 147, 148, 149, 150, 151] (by decide +kernel) (by decide +kernel)
set_option maxRecDepth 20000 in
theorem gX9_best_X9_bestOf : GoodIn wsX9_best (wsV RX9 260 RX9 yX9_bestOf wsX9_bestOf) := goodIn_app (goodIn_of _ (by decide +kernel)) ggX9_best_X9_bestOf
set_option maxRecDepth 20000 in
theorem ggX9_best_X9_of : GoodIn wsX9_best wsX9_of := goodIn_r _ [64, 15, 123, 124, 125, 126, 127, 128, 129, 130, 131, 132, 133, 134, 135, 136, 137, 138, 139, 140, 141, 142, 143, 144, 145, 146, 147, 148, 149, 150, 151] (by decide +kernel) (by decide +kernel)
set_option maxRecDepth 20000 in
theorem gX9_best_X9_of : GoodIn wsX9_best (wsV RX9 195 RX9 yX9_of wsX9_of) := goodIn_app (goodIn_of _ (by decide +kernel)) ggX9_best_X9_of
set_option maxRecDepth 20000 in
theorem ggX9_best_X9_greater : GoodIn wsX9_best wsX9_greater := goodIn_r _ [118] (by decide +kernel) (by decide +kernel)
set_option maxRecDepth 20000 in
theorem gX9_best_X9_greater : GoodIn wsX9_best (va_wsS RX9 298 yX9_greater wsX9_greater) := goodIn_app (goodIn_of _ (by decide +kernel)) ggX9_best_X9_greater
set_option maxRecDepth 20000 in
theorem ggX9_best_X9_matchOf : GoodIn wsX9_best wsX9_matchOf := goodIn_r _ [122, 3, 102, 103, 104, 6, 105, 61, 62, 63, 64, 15, 123, 124, 125, 126, 127, 128, 129, 130, 131, 132, 133, 134, 135, 136, 137, 138, 139, 140, 141, 142, 143, 144, 145, 146, 147, 148, 149, 150, 151] (by decide +kernel) (by decide +kernel)
set_option maxRecDepth 20000 in
theorem gX9_best_X9_matchOf : GoodIn wsX9_best (wsV RX9 301 RX9 yX9_matchOf wsX9_matchOf) := goodIn_app (goodIn_of _ (by decide +kernel)) ggX9_best_X9_matchOf
theorem dX9_best_0 : decode cX9_best 0 = .ok (.aload_n 0, 1) := by decide +kernel
theorem dX9_best_1 : decode cX9_best 1 = .ok (.iconst 0, 1) := by decide +kernel
theorem dX9_best_2 : decode cX9_best 2 = .ok (.putfield 51, 3) := by decide +kernel
theorem dX9_best_5 : decode cX9_best 5 = .ok (.iload_n 1, 1) := by decide +kernel
theorem dX9_best_6 : decode cX9_best 6 = .ok (.invokestatic 182, 3) := by decide +kernel
theorem dX9_best_9 : decode cX9_best 9 = .ok (.ifCond .eq 20, 3) := by decide +kernel
theorem dX9_best_12 : decode cX9_best 12 = .ok (.aload_n 0, 1) := by decide +kernel
theorem dX9_best_13 : decode cX9_best 13 = .ok (.iload_n 2, 1) := by decide +kernel
theorem dX9_best_14 : decode cX9_best 14 = .ok (.invokevirtual 192, 3) := by decide +kernel
theorem dX9_best_17 : decode cX9_best 17 = .ok (.ifCond .eq 12, 3) := by decide +kernel
theorem dX9_best_20 : decode cX9_best 20 = .ok (.iload_n 3, 1) := by decide +kernel
theorem dX9_best_21 : decode cX9_best 21 = .ok (.iconst 0, 1) := by decide +kernel
theorem dX9_best_22 : decode cX9_best 22 = .ok (.iconst 3, 1) := by decide +kernel
theorem dX9_best_23 : decode cX9_best 23 = .ok (.invokestatic 63, 3) := by decide +kernel
theorem dX9_best_26 : decode cX9_best 26 = .ok (.ifCond .ne 7, 3) := by decide +kernel
theorem dX9_best_29 : decode cX9_best 29 = .ok (.sipush (-1000), 3) := by decide +kernel
theorem dX9_best_32 : decode cX9_best 32 = .ok (.ireturn, 1) := by decide +kernel
theorem dX9_best_33 : decode cX9_best 33 = .ok (.aload_n 0, 1) := by decide +kernel
theorem dX9_best_34 : decode cX9_best 34 = .ok (.iload_n 1, 1) := by decide +kernel
theorem dX9_best_35 : decode cX9_best 35 = .ok (.invokevirtual 294, 3) := by decide +kernel
theorem dX9_best_38 : decode cX9_best 38 = .ok (.aload_n 0, 1) := by decide +kernel
theorem dX9_best_39 : decode cX9_best 39 = .ok (.iload_n 2, 1) := by decide +kernel
theorem dX9_best_40 : decode cX9_best 40 = .ok (.invokevirtual 260, 3) := by decide +kernel
theorem dX9_best_43 : decode cX9_best 43 = .ok (.istore 4, 2) := by decide +kernel
theorem dX9_best_45 : decode cX9_best 45 = .ok (.ldc 222, 2) := by decide +kernel
theorem dX9_best_47 : decode cX9_best 47 = .ok (.istore 5, 2) := by decide +kernel
theorem dX9_best_49 : decode cX9_best 49 = .ok (.iconst 0, 1) := by decide +kernel
theorem dX9_best_50 : decode cX9_best 50 = .ok (.istore 6, 2) := by decide +kernel
theorem dX9_best_52 : decode cX9_best 52 = .ok (.iconst 0, 1) := by decide +kernel
theorem dX9_best_53 : decode cX9_best 53 = .ok (.istore 7, 2) := by decide +kernel
theorem dX9_best_55 : decode cX9_best 55 = .ok (.iload 7, 2) := by decide +kernel
theorem dX9_best_57 : decode cX9_best 57 = .ok (.aload_n 0, 1) := by decide +kernel
theorem dX9_best_58 : decode cX9_best 58 = .ok (.iload_n 2, 1) := by decide +kernel
theorem dX9_best_59 : decode cX9_best 59 = .ok (.iconst 0, 1) := by decide +kernel
theorem dX9_best_60 : decode cX9_best 60 = .ok (.invokevirtual 195, 3) := by decide +kernel
theorem dX9_best_63 : decode cX9_best 63 = .ok (.if_icmp .ge 64, 3) := by decide +kernel
theorem dX9_best_66 : decode cX9_best 66 = .ok (.aload_n 0, 1) := by decide +kernel
theorem dX9_best_67 : decode cX9_best 67 = .ok (.getfield 33, 3) := by decide +kernel
theorem dX9_best_70 : decode cX9_best 70 = .ok (.bipush 13, 2) := by decide +kernel
theorem dX9_best_72 : decode cX9_best 72 = .ok (.iload_n 2, 1) := by decide +kernel
theorem dX9_best_73 : decode cX9_best 73 = .ok (.imul, 1) := by decide +kernel
theorem dX9_best_74 : decode cX9_best 74 = .ok (.iload 7, 2) := by decide +kernel
theorem dX9_best_76 : decode cX9_best 76 = .ok (.iadd, 1) := by decide +kernel
theorem dX9_best_77 : decode cX9_best 77 = .ok (.iaload, 1) := by decide +kernel
theorem dX9_best_78 : decode cX9_best 78 = .ok (.istore 8, 2) := by decide +kernel
theorem dX9_best_80 : decode cX9_best 80 = .ok (.iload 7, 2) := by decide +kernel
theorem dX9_best_82 : decode cX9_best 82 = .ok (.iload 4, 2) := by decide +kernel
theorem dX9_best_84 : decode cX9_best 84 = .ok (.if_icmp .ne 8, 3) := by decide +kernel
theorem dX9_best_87 : decode cX9_best 87 = .ok (.iload 5, 2) := by decide +kernel
theorem dX9_best_89 : decode cX9_best 89 = .ok (.goto 10, 3) := by decide +kernel
theorem dX9_best_92 : decode cX9_best 92 = .ok (.iload 5, 2) := by decide +kernel
theorem dX9_best_94 : decode cX9_best 94 = .ok (.iload 8, 2) := by decide +kernel
theorem dX9_best_96 : decode cX9_best 96 = .ok (.invokestatic 298, 3) := by decide +kernel
theorem dX9_best_99 : decode cX9_best 99 = .ok (.istore 5, 2) := by decide +kernel
theorem dX9_best_101 : decode cX9_best 101 = .ok (.iload 6, 2) := by decide +kernel
theorem dX9_best_103 : decode cX9_best 103 = .ok (.iload 8, 2) := by decide +kernel
theorem dX9_best_105 : decode cX9_best 105 = .ok (.aload_n 0, 1) := by decide +kernel
theorem dX9_best_106 : decode cX9_best 106 = .ok (.iload_n 2, 1) := by decide +kernel
theorem dX9_best_107 : decode cX9_best 107 = .ok (.invokevirtual 301, 3) := by decide +kernel
theorem dX9_best_110 : decode cX9_best 110 = .ok (.if_icmp .ne 7, 3) := by decide +kernel
theorem dX9_best_113 : decode cX9_best 113 = .ok (.iconst 1, 1) := by decide +kernel
theorem dX9_best_114 : decode cX9_best 114 = .ok (.goto 4, 3) := by decide +kernel
theorem dX9_best_117 : decode cX9_best 117 = .ok (.iconst 0, 1) := by decide +kernel
theorem dX9_best_118 : decode cX9_best 118 = .ok (.iadd, 1) := by decide +kernel
theorem dX9_best_119 : decode cX9_best 119 = .ok (.istore 6, 2) := by decide +kernel
theorem dX9_best_121 : decode cX9_best 121 = .ok (.iinc 7 1, 3) := by decide +kernel
theorem dX9_best_124 : decode cX9_best 124 = .ok (.goto (-69), 3) := by decide +kernel
theorem dX9_best_127 : decode cX9_best 127 = .ok (.iload_n 3, 1) := by decide +kernel
theorem dX9_best_128 : decode cX9_best 128 = .ok (.ifCond .ne 8, 3) := by decide +kernel
theorem dX9_best_131 : decode cX9_best 131 = .ok (.iload 4, 2) := by decide +kernel
theorem dX9_best_133 : decode cX9_best 133 = .ok (.goto 34, 3) := by decide +kernel
theorem dX9_best_136 : decode cX9_best 136 = .ok (.iload_n 3, 1) := by decide +kernel
theorem dX9_best_137 : decode cX9_best 137 = .ok (.iconst 1, 1) := by decide +kernel
theorem dX9_best_138 : decode cX9_best 138 = .ok (.if_icmp .ne 11, 3) := by decide +kernel
theorem dX9_best_141 : decode cX9_best 141 = .ok (.aload_n 0, 1) := by decide +kernel
theorem dX9_best_142 : decode cX9_best 142 = .ok (.iload_n 2, 1) := by decide +kernel
theorem dX9_best_143 : decode cX9_best 143 = .ok (.invokevirtual 301, 3) := by decide +kernel
theorem dX9_best_146 : decode cX9_best 146 = .ok (.goto 21, 3) := by decide +kernel
theorem dX9_best_149 : decode cX9_best 149 = .ok (.iload_n 3, 1) := by decide +kernel
theorem dX9_best_150 : decode cX9_best 150 = .ok (.iconst 2, 1) := by decide +kernel
theorem dX9_best_151 : decode cX9_best 151 = .ok (.if_icmp .ne 14, 3) := by decide +kernel
theorem dX9_best_154 : decode cX9_best 154 = .ok (.aload_n 0, 1) := by decide +kernel
theorem dX9_best_155 : decode cX9_best 155 = .ok (.iload_n 2, 1) := by decide +kernel
theorem dX9_best_156 : decode cX9_best 156 = .ok (.invokevirtual 301, 3) := by decide +kernel
theorem dX9_best_159 : decode cX9_best 159 = .ok (.iload 5, 2) := by decide +kernel
theorem dX9_best_161 : decode cX9_best 161 = .ok (.isub, 1) := by decide +kernel
theorem dX9_best_162 : decode cX9_best 162 = .ok (.goto 5, 3) := by decide +kernel
theorem dX9_best_165 : decode cX9_best 165 = .ok (.iload 6, 2) := by decide +kernel
theorem dX9_best_167 : decode cX9_best 167 = .ok (.ireturn, 1) := by decide +kernel
set_option maxRecDepth 20000 in
theorem ggX9_tells_X9_ofLeg : GoodIn wsX9_tells wsX9_ofLeg := goodIn_r _ [5, 6, 26, 27, 28, 29, 30, 31, 32, 33, 34, 35, 36, 37, 38, 39, 40, 41, 42, 43, 44, 45, 46, 47, 48, 49, 50, 51, 52, 53, 54] (by decide +kernel) (by decide +kernel)
set_option maxRecDepth 20000 in
theorem gX9_tells_X9_ofLeg : GoodIn wsX9_tells (wsV RX9 185 RX9 yX9_ofLeg wsX9_ofLeg) := goodIn_app (goodIn_of _ (by decide +kernel)) ggX9_tells_X9_ofLeg
set_option maxRecDepth 20000 in
theorem ggX9_tells_X9_alike : GoodIn wsX9_tells wsX9_alike := goodIn_r _ [10, 11, 1, 2, 3, 4, 5, 6, 12, 13, 14, 15, 16, 17, 18, 19, 20, 21, 22, 23, 24, 25, 26, 27, 28, 29, 30, 31, 32, 33, 34, 35, 36, 37, 38, 39, 40, 41, 42, 43, 44, 45, 46, 47, 48, 49, 50, 51, 52, 53, 54] (by decide +kernel) (by decide +kernel)
set_option maxRecDepth 20000 in
theorem gX9_tells_X9_alike : GoodIn wsX9_tells (wsV RX9 256 RX9 yX9_alike wsX9_alike) := goodIn_app (goodIn_of _ (by decide +kernel)) ggX9_tells_X9_alike
theorem dX9_tells_0 : decode cX9_tells 0 = .ok (.iconst 0, 1) := by decide +kernel
theorem dX9_tells_1 : decode cX9_tells 1 = .ok (.istore 5, 2) := by decide +kernel
theorem dX9_tells_3 : decode cX9_tells 3 = .ok (.iconst 0, 1) := by decide +kernel
theorem dX9_tells_4 : decode cX9_tells 4 = .ok (.istore 6, 2) := by decide +kernel
theorem dX9_tells_6 : decode cX9_tells 6 = .ok (.iload 6, 2) := by decide +kernel
theorem dX9_tells_8 : decode cX9_tells 8 = .ok (.aload_n 0, 1) := by decide +kernel
theorem dX9_tells_9 : decode cX9_tells 9 = .ok (.iload_n 1, 1) := by decide +kernel
theorem dX9_tells_10 : decode cX9_tells 10 = .ok (.iconst 3, 1) := by decide +kernel
theorem dX9_tells_11 : decode cX9_tells 11 = .ok (.invokevirtual 185, 3) := by decide +kernel
theorem dX9_tells_14 : decode cX9_tells 14 = .ok (.if_icmp .ge 46, 3) := by decide +kernel
theorem dX9_tells_17 : decode cX9_tells 17 = .ok (.iload 5, 2) := by decide +kernel
theorem dX9_tells_19 : decode cX9_tells 19 = .ok (.aload_n 0, 1) := by decide +kernel
theorem dX9_tells_20 : decode cX9_tells 20 = .ok (.iload_n 1, 1) := by decide +kernel
theorem dX9_tells_21 : decode cX9_tells 21 = .ok (.iload 6, 2) := by decide +kernel
theorem dX9_tells_23 : decode cX9_tells 23 = .ok (.iload_n 2, 1) := by decide +kernel
theorem dX9_tells_24 : decode cX9_tells 24 = .ok (.iload_n 3, 1) := by decide +kernel
theorem dX9_tells_25 : decode cX9_tells 25 = .ok (.invokevirtual 256, 3) := by decide +kernel
theorem dX9_tells_28 : decode cX9_tells 28 = .ok (.iconst 1, 1) := by decide +kernel
theorem dX9_tells_29 : decode cX9_tells 29 = .ok (.if_icmp .ne 21, 3) := by decide +kernel
theorem dX9_tells_32 : decode cX9_tells 32 = .ok (.aload_n 0, 1) := by decide +kernel
theorem dX9_tells_33 : decode cX9_tells 33 = .ok (.iload_n 1, 1) := by decide +kernel
theorem dX9_tells_34 : decode cX9_tells 34 = .ok (.iload 6, 2) := by decide +kernel
theorem dX9_tells_36 : decode cX9_tells 36 = .ok (.iload_n 2, 1) := by decide +kernel
theorem dX9_tells_37 : decode cX9_tells 37 = .ok (.iload 4, 2) := by decide +kernel
theorem dX9_tells_39 : decode cX9_tells 39 = .ok (.invokevirtual 256, 3) := by decide +kernel
theorem dX9_tells_42 : decode cX9_tells 42 = .ok (.iconst (-1), 1) := by decide +kernel
theorem dX9_tells_43 : decode cX9_tells 43 = .ok (.if_icmp .ne 7, 3) := by decide +kernel
theorem dX9_tells_46 : decode cX9_tells 46 = .ok (.iconst 1, 1) := by decide +kernel
theorem dX9_tells_47 : decode cX9_tells 47 = .ok (.goto 4, 3) := by decide +kernel
theorem dX9_tells_50 : decode cX9_tells 50 = .ok (.iconst 0, 1) := by decide +kernel
theorem dX9_tells_51 : decode cX9_tells 51 = .ok (.iadd, 1) := by decide +kernel
theorem dX9_tells_52 : decode cX9_tells 52 = .ok (.istore 5, 2) := by decide +kernel
theorem dX9_tells_54 : decode cX9_tells 54 = .ok (.iinc 6 1, 3) := by decide +kernel
theorem dX9_tells_57 : decode cX9_tells 57 = .ok (.goto (-51), 3) := by decide +kernel
theorem dX9_tells_60 : decode cX9_tells 60 = .ok (.iload 5, 2) := by decide +kernel
theorem dX9_tells_62 : decode cX9_tells 62 = .ok (.ireturn, 1) := by decide +kernel
set_option maxRecDepth 20000 in
theorem ggX9_fragile_X9_isLeg : GoodIn wsX9_fragile wsX9_isLeg := goodIn_r _ [6, 7, 8, 5, 9] (by decide +kernel) (by decide +kernel)
set_option maxRecDepth 20000 in
theorem gX9_fragile_X9_isLeg : GoodIn wsX9_fragile (va_wsS RX9 182 yX9_isLeg wsX9_isLeg) := goodIn_app (goodIn_of _ (by decide +kernel)) ggX9_fragile_X9_isLeg
set_option maxRecDepth 20000 in
theorem ggX9_fragile_X9_isPart : GoodIn wsX9_fragile wsX9_isPart := goodIn_r _ [13, 14, 7, 8, 5, 9, 123, 124, 125, 126, 127, 128, 129, 130, 131, 132, 133, 134, 135, 136, 137, 138, 139, 140, 141, 142, 143, 144, 145, 146, 147, 148, 149, 150, 151] (by decide +kernel) (by decide +kernel)
set_option maxRecDepth 20000 in
theorem gX9_fragile_X9_isPart : GoodIn wsX9_fragile (wsV RX9 192 RX9 yX9_isPart wsX9_isPart) := goodIn_app (goodIn_of _ (by decide +kernel)) ggX9_fragile_X9_isPart
set_option maxRecDepth 20000 in
theorem ggX9_fragile_X9_laysLeg : GoodIn wsX9_fragile wsX9_laysLeg := goodIn_r _ [18, 19, 20, 21, 22, 23, 5, 24, 25, 26, 27, 28, 29, 30, 31, 32, 33, 34, 35, 36, 37, 14, 38, 39, 40, 41, 42, 43, 44, 45, 46, 47, 48, 49, 50, 51, 52, 53, 54, 55, 56, 57, 58, 59, 60, 61, 62, 63, 64, 65, 66, 67, 68, 69, 70, 7, 8, 9, 71, 72, 73, 74, 2, 75, 76, 77, 78, 79, 80, 81, 82, 83, 84, 85, 86, 87, 88, 89, 90, 91, 92, 93, 94, 95, 96, 97, 98, 99, 100, 101, 102, 103, 104, 105, 106, 107, 108, 109, 110, 111, 112, 113, 114, 123, 124, 125, 126, 127, 128, 129, 130, 131, 132, 133, 134, 135, 136, 137, 138, 139, 140, 141, 142, 143, 144, 145, 146, 147, 148, 149, 150, 151] (by decide +kernel) (by decide +kernel)
set_option maxRecDepth 20000 in
theorem gX9_fragile_X9_laysLeg : GoodIn wsX9_fragile (wsV RX9 294 RX9 yX9_laysLeg wsX9_laysLeg) := goodIn_app (goodIn_of _ (by decide +kernel)) ggX9_fragile_X9_laysLeg
set_option maxRecDepth 20000 in
theorem ggX9_fragile_X9_bestOf : GoodIn wsX9_fragile wsX9_bestOf := goodIn_r _ [104, 2, 60, 61, 62, 5, 63, 14, 123, 124, 125, 126, 127, 128, 129, 130, 131, 132, 133, 134, 135, 136, 137, 138, 139, 140, 141, 142, 143, 144, 145, 146, 147, 148, 149, 150, 151] (by decide +kernel) (by decide +kernel)
set_option maxRecDepth 20000 in
theorem gX9_fragile_X9_bestOf : GoodIn wsX9_fragile (wsV RX9 260 RX9 yX9_bestOf wsX9_bestOf) := goodIn_app (goodIn_of _ (by decide +kernel)) ggX9_fragile_X9_bestOf
set_option maxRecDepth 20000 in
theorem ggX9_fragile_X9_of : GoodIn wsX9_fragile wsX9_of := goodIn_r _ [63, 14, 123, 124, 125, 126, 127, 128, 129, 130, 131, 132, 133, 134, 135, 136, 137, 138, 139, 140, 141, 142, 143, 144, 145, 146, 147, 148, 149, 150, 151] (by decide +kernel) (by decide +kernel)
set_option maxRecDepth 20000 in
theorem gX9_fragile_X9_of : GoodIn wsX9_fragile (wsV RX9 195 RX9 yX9_of wsX9_of) := goodIn_app (goodIn_of _ (by decide +kernel)) ggX9_fragile_X9_of
set_option maxRecDepth 20000 in
theorem ggX9_fragile_X9_matchOf : GoodIn wsX9_fragile wsX9_matchOf := goodIn_r _ [118, 2, 101, 102, 103, 5, 104, 60, 61, 62, 63, 14, 123, 124, 125, 126, 127, 128, 129, 130, 131, 132, 133, 134, 135, 136, 137, 138, 139, 140, 141, 142, 143, 144, 145, 146, 147, 148, 149, 150, 151] (by decide +kernel) (by decide +kernel)
set_option maxRecDepth 20000 in
theorem gX9_fragile_X9_matchOf : GoodIn wsX9_fragile (wsV RX9 301 RX9 yX9_matchOf wsX9_matchOf) := goodIn_app (goodIn_of _ (by decide +kernel)) ggX9_fragile_X9_matchOf
set_option maxRecDepth 20000 in
theorem ggX9_fragile_X9_tells : GoodIn wsX9_fragile wsX9_tells := goodIn_r _ [122, 34, 35, 36, 5, 37, 14, 75, 76, 77, 78, 33, 56, 57, 58, 59, 60, 61, 62, 63, 45, 46, 47, 64, 65, 66, 123, 124, 125, 126, 127, 128, 129, 130, 131, 132, 133, 134, 135, 136, 137, 138, 139, 140, 141, 142, 143, 144, 145, 146, 147, 148, 149, 150, 151] (by decide +kernel) (by decide +kernel)
set_option maxRecDepth 20000 in
theorem gX9_fragile_X9_tells : GoodIn wsX9_fragile (wsV RX9 304 RX9 yX9_tells wsX9_tells) := goodIn_app (goodIn_of _ (by decide +kernel)) ggX9_fragile_X9_tells
theorem dX9_fragile_0 : decode cX9_fragile 0 = .ok (.aload_n 0, 1) := by decide +kernel
theorem dX9_fragile_1 : decode cX9_fragile 1 = .ok (.iconst 0, 1) := by decide +kernel
theorem dX9_fragile_2 : decode cX9_fragile 2 = .ok (.putfield 51, 3) := by decide +kernel
theorem dX9_fragile_5 : decode cX9_fragile 5 = .ok (.iload_n 1, 1) := by decide +kernel
theorem dX9_fragile_6 : decode cX9_fragile 6 = .ok (.invokestatic 182, 3) := by decide +kernel
theorem dX9_fragile_9 : decode cX9_fragile 9 = .ok (.ifCond .eq 11, 3) := by decide +kernel
theorem dX9_fragile_12 : decode cX9_fragile 12 = .ok (.aload_n 0, 1) := by decide +kernel
theorem dX9_fragile_13 : decode cX9_fragile 13 = .ok (.iload_n 2, 1) := by decide +kernel
theorem dX9_fragile_14 : decode cX9_fragile 14 = .ok (.invokevirtual 192, 3) := by decide +kernel
theorem dX9_fragile_17 : decode cX9_fragile 17 = .ok (.ifCond .ne 7, 3) := by decide +kernel
theorem dX9_fragile_20 : decode cX9_fragile 20 = .ok (.sipush (-1000), 3) := by decide +kernel
theorem dX9_fragile_23 : decode cX9_fragile 23 = .ok (.ireturn, 1) := by decide +kernel
theorem dX9_fragile_24 : decode cX9_fragile 24 = .ok (.aload_n 0, 1) := by decide +kernel
theorem dX9_fragile_25 : decode cX9_fragile 25 = .ok (.iload_n 1, 1) := by decide +kernel
theorem dX9_fragile_26 : decode cX9_fragile 26 = .ok (.invokevirtual 294, 3) := by decide +kernel
theorem dX9_fragile_29 : decode cX9_fragile 29 = .ok (.aload_n 0, 1) := by decide +kernel
theorem dX9_fragile_30 : decode cX9_fragile 30 = .ok (.iload_n 2, 1) := by decide +kernel
theorem dX9_fragile_31 : decode cX9_fragile 31 = .ok (.invokevirtual 260, 3) := by decide +kernel
theorem dX9_fragile_34 : decode cX9_fragile 34 = .ok (.istore_n 3, 1) := by decide +kernel
theorem dX9_fragile_35 : decode cX9_fragile 35 = .ok (.iconst (-1), 1) := by decide +kernel
theorem dX9_fragile_36 : decode cX9_fragile 36 = .ok (.istore 4, 2) := by decide +kernel
theorem dX9_fragile_38 : decode cX9_fragile 38 = .ok (.iconst 0, 1) := by decide +kernel
theorem dX9_fragile_39 : decode cX9_fragile 39 = .ok (.istore 5, 2) := by decide +kernel
theorem dX9_fragile_41 : decode cX9_fragile 41 = .ok (.iload 5, 2) := by decide +kernel
theorem dX9_fragile_43 : decode cX9_fragile 43 = .ok (.aload_n 0, 1) := by decide +kernel
theorem dX9_fragile_44 : decode cX9_fragile 44 = .ok (.iload_n 2, 1) := by decide +kernel
theorem dX9_fragile_45 : decode cX9_fragile 45 = .ok (.iconst 0, 1) := by decide +kernel
theorem dX9_fragile_46 : decode cX9_fragile 46 = .ok (.invokevirtual 195, 3) := by decide +kernel
theorem dX9_fragile_49 : decode cX9_fragile 49 = .ok (.if_icmp .ge 120, 3) := by decide +kernel
theorem dX9_fragile_52 : decode cX9_fragile 52 = .ok (.aload_n 0, 1) := by decide +kernel
theorem dX9_fragile_53 : decode cX9_fragile 53 = .ok (.iload_n 2, 1) := by decide +kernel
theorem dX9_fragile_54 : decode cX9_fragile 54 = .ok (.invokevirtual 301, 3) := by decide +kernel
theorem dX9_fragile_57 : decode cX9_fragile 57 = .ok (.aload_n 0, 1) := by decide +kernel
theorem dX9_fragile_58 : decode cX9_fragile 58 = .ok (.getfield 33, 3) := by decide +kernel
theorem dX9_fragile_61 : decode cX9_fragile 61 = .ok (.bipush 13, 2) := by decide +kernel
theorem dX9_fragile_63 : decode cX9_fragile 63 = .ok (.iload_n 2, 1) := by decide +kernel
theorem dX9_fragile_64 : decode cX9_fragile 64 = .ok (.imul, 1) := by decide +kernel
theorem dX9_fragile_65 : decode cX9_fragile 65 = .ok (.iload 5, 2) := by decide +kernel
theorem dX9_fragile_67 : decode cX9_fragile 67 = .ok (.iadd, 1) := by decide +kernel
theorem dX9_fragile_68 : decode cX9_fragile 68 = .ok (.iaload, 1) := by decide +kernel
theorem dX9_fragile_69 : decode cX9_fragile 69 = .ok (.isub, 1) := by decide +kernel
theorem dX9_fragile_70 : decode cX9_fragile 70 = .ok (.istore 6, 2) := by decide +kernel
theorem dX9_fragile_72 : decode cX9_fragile 72 = .ok (.iload 5, 2) := by decide +kernel
theorem dX9_fragile_74 : decode cX9_fragile 74 = .ok (.iload_n 3, 1) := by decide +kernel
theorem dX9_fragile_75 : decode cX9_fragile 75 = .ok (.if_icmp .ne 7, 3) := by decide +kernel
theorem dX9_fragile_78 : decode cX9_fragile 78 = .ok (.iconst (-1), 1) := by decide +kernel
theorem dX9_fragile_79 : decode cX9_fragile 79 = .ok (.goto 12, 3) := by decide +kernel
theorem dX9_fragile_82 : decode cX9_fragile 82 = .ok (.aload_n 0, 1) := by decide +kernel
theorem dX9_fragile_83 : decode cX9_fragile 83 = .ok (.iload_n 1, 1) := by decide +kernel
theorem dX9_fragile_84 : decode cX9_fragile 84 = .ok (.iload_n 2, 1) := by decide +kernel
theorem dX9_fragile_85 : decode cX9_fragile 85 = .ok (.iload_n 3, 1) := by decide +kernel
theorem dX9_fragile_86 : decode cX9_fragile 86 = .ok (.iload 5, 2) := by decide +kernel
theorem dX9_fragile_88 : decode cX9_fragile 88 = .ok (.invokevirtual 304, 3) := by decide +kernel
theorem dX9_fragile_91 : decode cX9_fragile 91 = .ok (.istore 7, 2) := by decide +kernel
theorem dX9_fragile_93 : decode cX9_fragile 93 = .ok (.iconst 0, 1) := by decide +kernel
theorem dX9_fragile_94 : decode cX9_fragile 94 = .ok (.istore 8, 2) := by decide +kernel
theorem dX9_fragile_96 : decode cX9_fragile 96 = .ok (.iload 8, 2) := by decide +kernel
theorem dX9_fragile_98 : decode cX9_fragile 98 = .ok (.iload 7, 2) := by decide +kernel
theorem dX9_fragile_100 : decode cX9_fragile 100 = .ok (.if_icmp .gt 34, 3) := by decide +kernel
theorem dX9_fragile_103 : decode cX9_fragile 103 = .ok (.iload 6, 2) := by decide +kernel
theorem dX9_fragile_105 : decode cX9_fragile 105 = .ok (.iconst 4, 1) := by decide +kernel
theorem dX9_fragile_106 : decode cX9_fragile 106 = .ok (.iload 8, 2) := by decide +kernel
theorem dX9_fragile_108 : decode cX9_fragile 108 = .ok (.imul, 1) := by decide +kernel
theorem dX9_fragile_109 : decode cX9_fragile 109 = .ok (.isub, 1) := by decide +kernel
theorem dX9_fragile_110 : decode cX9_fragile 110 = .ok (.ifCond .gt 18, 3) := by decide +kernel
theorem dX9_fragile_113 : decode cX9_fragile 113 = .ok (.iload 6, 2) := by decide +kernel
theorem dX9_fragile_115 : decode cX9_fragile 115 = .ok (.iconst 4, 1) := by decide +kernel
theorem dX9_fragile_116 : decode cX9_fragile 116 = .ok (.iload 8, 2) := by decide +kernel
theorem dX9_fragile_118 : decode cX9_fragile 118 = .ok (.imul, 1) := by decide +kernel
theorem dX9_fragile_119 : decode cX9_fragile 119 = .ok (.if_icmp .ne 15, 3) := by decide +kernel
theorem dX9_fragile_122 : decode cX9_fragile 122 = .ok (.iload 5, 2) := by decide +kernel
theorem dX9_fragile_124 : decode cX9_fragile 124 = .ok (.iload_n 3, 1) := by decide +kernel
theorem dX9_fragile_125 : decode cX9_fragile 125 = .ok (.if_icmp .le 9, 3) := by decide +kernel
theorem dX9_fragile_128 : decode cX9_fragile 128 = .ok (.iinc 8 1, 3) := by decide +kernel
theorem dX9_fragile_131 : decode cX9_fragile 131 = .ok (.goto (-35), 3) := by decide +kernel
theorem dX9_fragile_134 : decode cX9_fragile 134 = .ok (.iload 8, 2) := by decide +kernel
theorem dX9_fragile_136 : decode cX9_fragile 136 = .ok (.iload 7, 2) := by decide +kernel
theorem dX9_fragile_138 : decode cX9_fragile 138 = .ok (.if_icmp .gt 21, 3) := by decide +kernel
theorem dX9_fragile_141 : decode cX9_fragile 141 = .ok (.iload 4, 2) := by decide +kernel
theorem dX9_fragile_143 : decode cX9_fragile 143 = .ok (.iconst (-1), 1) := by decide +kernel
theorem dX9_fragile_144 : decode cX9_fragile 144 = .ok (.if_icmp .eq 10, 3) := by decide +kernel
