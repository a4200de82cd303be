set_option maxRecDepth 20000 in
theorem ggX9_broken_X9_isLeg : GoodIn wsX9_broken wsX9_isLeg := goodIn_r _ [9, 10, 11, 8, 12] (by decide +kernel) (by decide +kernel)
set_option maxRecDepth 20000 in
theorem gX9_broken_X9_isLeg : GoodIn wsX9_broken (va_wsS RX9 182 yX9_isLeg wsX9_isLeg) := goodIn_app (goodIn_of _ (by decide +kernel)) ggX9_broken_X9_isLeg
set_option maxRecDepth 20000 in
theorem ggX9_broken_X9_isPart : GoodIn wsX9_broken wsX9_isPart := goodIn_r _ [16, 17, 10, 11, 8, 12, 122, 123, 124, 125, 126, 127, 128, 129, 130, 131, 132, 133, 134, 135, 136, 137, 138, 139, 140, 141, 142, 143, 144, 145, 146, 147, 148, 149, 150] (by decide +kernel) (by decide +kernel)
set_option maxRecDepth 20000 in
theorem gX9_broken_X9_isPart : GoodIn wsX9_broken (wsV RX9 192 RX9 yX9_isPart wsX9_isPart) := goodIn_app (goodIn_of _ (by decide +kernel)) ggX9_broken_X9_isPart
set_option maxRecDepth 20000 in
theorem ggX9_broken_X9_in : GoodIn wsX9_broken wsX9_in := goodIn_r _ [12] (by decide +kernel) (by decide +kernel)
set_option maxRecDepth 20000 in
theorem gX9_broken_X9_in : GoodIn wsX9_broken (va_wsS RX9 63 yX9_in wsX9_in) := goodIn_app (goodIn_of _ (by decide +kernel)) ggX9_broken_X9_in
set_option maxRecDepth 20000 in
theorem ggX9_broken_X9_ofLeg : GoodIn wsX9_broken wsX9_ofLeg := goodIn_r _ [21, 17, 122, 123, 124, 125, 126, 127, 128, 129, 130, 131, 132, 133, 134, 135, 136, 137, 138, 139, 140, 141, 142, 143, 144, 145, 146, 147, 148, 149, 150] (by decide +kernel) (by decide +kernel)
set_option maxRecDepth 20000 in
theorem gX9_broken_X9_ofLeg : GoodIn wsX9_broken (wsV RX9 185 RX9 yX9_ofLeg wsX9_ofLeg) := goodIn_app (goodIn_of _ (by decide +kernel)) ggX9_broken_X9_ofLeg
set_option maxRecDepth 20000 in
theorem ggX9_broken_X9_laysLeg : GoodIn wsX9_broken wsX9_laysLeg := goodIn_r _ [25, 26, 27, 28, 29, 30, 8, 31, 32, 33, 34, 35, 36, 37, 38, 39, 40, 18, 19, 20, 21, 17, 41, 42, 43, 44, 45, 46, 47, 48, 49, 50, 51, 52, 53, 54, 55, 56, 57, 58, 59, 60, 61, 62, 63, 64, 65, 66, 67, 68, 69, 70, 71, 72, 73, 10, 11, 12, 74, 75, 76, 77, 4, 78, 79, 80, 81, 82, 83, 84, 85, 86, 87, 88, 89, 90, 91, 92, 93, 94, 95, 96, 97, 98, 99, 100, 101, 102, 103, 104, 105, 106, 107, 108, 109, 110, 111, 112, 113, 114, 115, 116, 117, 122, 123, 124, 125, 126, 127, 128, 129, 130, 131, 132, 133, 134, 135, 136, 137, 138, 139, 140, 141, 142, 143, 144, 145, 146, 147, 148, 149, 150] (by decide +kernel) (by decide +kernel)
set_option maxRecDepth 20000 in
theorem gX9_broken_X9_laysLeg : GoodIn wsX9_broken (wsV RX9 294 RX9 yX9_laysLeg wsX9_laysLeg) := goodIn_app (goodIn_of _ (by decide +kernel)) ggX9_broken_X9_laysLeg
set_option maxRecDepth 20000 in
theorem ggX9_broken_X9_of : GoodIn wsX9_broken wsX9_of := goodIn_r _ [66, 17, 122, 123, 124, 125, 126, 127, 128, 129, 130, 131, 132, 133, 134, 135, 136, 137, 138, 139, 140, 141, 142, 143, 144, 145, 146, 147, 148, 149, 150] (by decide +kernel) (by decide +kernel)
set_option maxRecDepth 20000 in
theorem gX9_broken_X9_of : GoodIn wsX9_broken (wsV RX9 195 RX9 yX9_of wsX9_of) := goodIn_app (goodIn_of _ (by decide +kernel)) ggX9_broken_X9_of
set_option maxRecDepth 20000 in
theorem ggX9_broken_X9_alike : GoodIn wsX9_broken wsX9_alike := goodIn_r _ [81, 40, 18, 19, 20, 8, 21, 17, 59, 60, 61, 62, 63, 64, 65, 66, 48, 49, 50, 67, 68, 69, 122, 123, 124, 125, 126, 127, 128, 129, 130, 131, 132, 133, 134, 135, 136, 137, 138, 139, 140, 141, 142, 143, 144, 145, 146, 147, 148, 149, 150] (by decide +kernel) (by decide +kernel)
set_option maxRecDepth 20000 in
theorem gX9_broken_X9_alike : GoodIn wsX9_broken (wsV RX9 256 RX9 yX9_alike wsX9_alike) := goodIn_app (goodIn_of _ (by decide +kernel)) ggX9_broken_X9_alike
set_option maxRecDepth 20000 in
theorem ggX9_broken_X9_matchOf : GoodIn wsX9_broken wsX9_matchOf := goodIn_r _ [121, 4, 104, 105, 106, 8, 107, 63, 64, 65, 66, 17, 122, 123, 124, 125, 126, 127, 128, 129, 130, 131, 132, 133, 134, 135, 136, 137, 138, 139, 140, 141, 142, 143, 144, 145, 146, 147, 148, 149, 150] (by decide +kernel) (by decide +kernel)
set_option maxRecDepth 20000 in
theorem gX9_broken_X9_matchOf : GoodIn wsX9_broken (wsV RX9 301 RX9 yX9_matchOf wsX9_matchOf) := goodIn_app (goodIn_of _ (by decide +kernel)) ggX9_broken_X9_matchOf
theorem dX9_broken_0 : decode cX9_broken 0 = .ok (.aload_n 0, 1) := by decide +kernel
theorem dX9_broken_1 : decode cX9_broken 1 = .ok (.iconst 0, 1) := by decide +kernel
theorem dX9_broken_2 : decode cX9_broken 2 = .ok (.putfield 51, 3) := by decide +kernel
theorem dX9_broken_5 : decode cX9_broken 5 = .ok (.iload_n 1, 1) := by decide +kernel
theorem dX9_broken_6 : decode cX9_broken 6 = .ok (.invokestatic 182, 3) := by decide +kernel
theorem dX9_broken_9 : decode cX9_broken 9 = .ok (.ifCond .eq 30, 3) := by decide +kernel
theorem dX9_broken_12 : decode cX9_broken 12 = .ok (.aload_n 0, 1) := by decide +kernel
theorem dX9_broken_13 : decode cX9_broken 13 = .ok (.iload_n 2, 1) := by decide +kernel
theorem dX9_broken_14 : decode cX9_broken 14 = .ok (.invokevirtual 192, 3) := by decide +kernel
theorem dX9_broken_17 : decode cX9_broken 17 = .ok (.ifCond .eq 22, 3) := by decide +kernel
theorem dX9_broken_20 : decode cX9_broken 20 = .ok (.iload_n 3, 1) := by decide +kernel
theorem dX9_broken_21 : decode cX9_broken 21 = .ok (.iconst 0, 1) := by decide +kernel
theorem dX9_broken_22 : decode cX9_broken 22 = .ok (.iconst 4, 1) := by decide +kernel
theorem dX9_broken_23 : decode cX9_broken 23 = .ok (.invokestatic 63, 3) := by decide +kernel
theorem dX9_broken_26 : decode cX9_broken 26 = .ok (.ifCond .eq 13, 3) := by decide +kernel
theorem dX9_broken_29 : decode cX9_broken 29 = .ok (.aload_n 0, 1) := by decide +kernel
theorem dX9_broken_30 : decode cX9_broken 30 = .ok (.iload_n 1, 1) := by decide +kernel
theorem dX9_broken_31 : decode cX9_broken 31 = .ok (.iconst 3, 1) := by decide +kernel
theorem dX9_broken_32 : decode cX9_broken 32 = .ok (.invokevirtual 185, 3) := by decide +kernel
theorem dX9_broken_35 : decode cX9_broken 35 = .ok (.iconst 2, 1) := by decide +kernel
theorem dX9_broken_36 : decode cX9_broken 36 = .ok (.if_icmp .ge 7, 3) := by decide +kernel
theorem dX9_broken_39 : decode cX9_broken 39 = .ok (.sipush (-1000), 3) := by decide +kernel
theorem dX9_broken_42 : decode cX9_broken 42 = .ok (.ireturn, 1) := by decide +kernel
theorem dX9_broken_43 : decode cX9_broken 43 = .ok (.aload_n 0, 1) := by decide +kernel
theorem dX9_broken_44 : decode cX9_broken 44 = .ok (.iload_n 1, 1) := by decide +kernel
theorem dX9_broken_45 : decode cX9_broken 45 = .ok (.invokevirtual 294, 3) := by decide +kernel
theorem dX9_broken_48 : decode cX9_broken 48 = .ok (.aload_n 0, 1) := by decide +kernel
theorem dX9_broken_49 : decode cX9_broken 49 = .ok (.iload_n 2, 1) := by decide +kernel
theorem dX9_broken_50 : decode cX9_broken 50 = .ok (.iconst 0, 1) := by decide +kernel
theorem dX9_broken_51 : decode cX9_broken 51 = .ok (.invokevirtual 195, 3) := by decide +kernel
theorem dX9_broken_54 : decode cX9_broken 54 = .ok (.istore 4, 2) := by decide +kernel
theorem dX9_broken_56 : decode cX9_broken 56 = .ok (.iconst 0, 1) := by decide +kernel
theorem dX9_broken_57 : decode cX9_broken 57 = .ok (.istore 5, 2) := by decide +kernel
theorem dX9_broken_59 : decode cX9_broken 59 = .ok (.iload 5, 2) := by decide +kernel
theorem dX9_broken_61 : decode cX9_broken 61 = .ok (.iload 4, 2) := by decide +kernel
theorem dX9_broken_63 : decode cX9_broken 63 = .ok (.if_icmp .ge 36, 3) := by decide +kernel
theorem dX9_broken_66 : decode cX9_broken 66 = .ok (.aload_n 0, 1) := by decide +kernel
theorem dX9_broken_67 : decode cX9_broken 67 = .ok (.getfield 39, 3) := by decide +kernel
theorem dX9_broken_70 : decode cX9_broken 70 = .ok (.iload 5, 2) := by decide +kernel
theorem dX9_broken_72 : decode cX9_broken 72 = .ok (.iconst 0, 1) := by decide +kernel
theorem dX9_broken_73 : decode cX9_broken 73 = .ok (.iastore, 1) := by decide +kernel
theorem dX9_broken_74 : decode cX9_broken 74 = .ok (.aload_n 0, 1) := by decide +kernel
theorem dX9_broken_75 : decode cX9_broken 75 = .ok (.getfield 42, 3) := by decide +kernel
theorem dX9_broken_78 : decode cX9_broken 78 = .ok (.iload 5, 2) := by decide +kernel
theorem dX9_broken_80 : decode cX9_broken 80 = .ok (.aload_n 0, 1) := by decide +kernel
theorem dX9_broken_81 : decode cX9_broken 81 = .ok (.getfield 33, 3) := by decide +kernel
theorem dX9_broken_84 : decode cX9_broken 84 = .ok (.bipush 13, 2) := by decide +kernel
theorem dX9_broken_86 : decode cX9_broken 86 = .ok (.iload_n 2, 1) := by decide +kernel
theorem dX9_broken_87 : decode cX9_broken 87 = .ok (.imul, 1) := by decide +kernel
theorem dX9_broken_88 : decode cX9_broken 88 = .ok (.iload 5, 2) := by decide +kernel
theorem dX9_broken_90 : decode cX9_broken 90 = .ok (.iadd, 1) := by decide +kernel
theorem dX9_broken_91 : decode cX9_broken 91 = .ok (.iaload, 1) := by decide +kernel
theorem dX9_broken_92 : decode cX9_broken 92 = .ok (.iastore, 1) := by decide +kernel
theorem dX9_broken_93 : decode cX9_broken 93 = .ok (.iinc 5 1, 3) := by decide +kernel
theorem dX9_broken_96 : decode cX9_broken 96 = .ok (.goto (-37), 3) := by decide +kernel
theorem dX9_broken_99 : decode cX9_broken 99 = .ok (.iconst (-1), 1) := by decide +kernel
theorem dX9_broken_100 : decode cX9_broken 100 = .ok (.istore 5, 2) := by decide +kernel
theorem dX9_broken_102 : decode cX9_broken 102 = .ok (.iconst 0, 1) := by decide +kernel
theorem dX9_broken_103 : decode cX9_broken 103 = .ok (.istore 6, 2) := by decide +kernel
theorem dX9_broken_105 : decode cX9_broken 105 = .ok (.iconst 0, 1) := by decide +kernel
theorem dX9_broken_106 : decode cX9_broken 106 = .ok (.istore 7, 2) := by decide +kernel
theorem dX9_broken_108 : decode cX9_broken 108 = .ok (.ldc 222, 2) := by decide +kernel
theorem dX9_broken_110 : decode cX9_broken 110 = .ok (.istore 8, 2) := by decide +kernel
theorem dX9_broken_112 : decode cX9_broken 112 = .ok (.iconst 1, 1) := by decide +kernel
theorem dX9_broken_113 : decode cX9_broken 113 = .ok (.istore 9, 2) := by decide +kernel
theorem dX9_broken_115 : decode cX9_broken 115 = .ok (.iload 9, 2) := by decide +kernel
theorem dX9_broken_117 : decode cX9_broken 117 = .ok (.aload_n 0, 1) := by decide +kernel
theorem dX9_broken_118 : decode cX9_broken 118 = .ok (.iload_n 1, 1) := by decide +kernel
theorem dX9_broken_119 : decode cX9_broken 119 = .ok (.iconst 3, 1) := by decide +kernel
theorem dX9_broken_120 : decode cX9_broken 120 = .ok (.invokevirtual 185, 3) := by decide +kernel
theorem dX9_broken_123 : decode cX9_broken 123 = .ok (.if_icmp .ge 162, 3) := by decide +kernel
theorem dX9_broken_126 : decode cX9_broken 126 = .ok (.iconst 0, 1) := by decide +kernel
theorem dX9_broken_127 : decode cX9_broken 127 = .ok (.istore 10, 2) := by decide +kernel
theorem dX9_broken_129 : decode cX9_broken 129 = .ok (.iload 10, 2) := by decide +kernel
theorem dX9_broken_131 : decode cX9_broken 131 = .ok (.iload 4, 2) := by decide +kernel
theorem dX9_broken_133 : decode cX9_broken 133 = .ok (.if_icmp .ge 47, 3) := by decide +kernel
theorem dX9_broken_136 : decode cX9_broken 136 = .ok (.aload_n 0, 1) := by decide +kernel
theorem dX9_broken_137 : decode cX9_broken 137 = .ok (.iload_n 1, 1) := by decide +kernel
theorem dX9_broken_138 : decode cX9_broken 138 = .ok (.iload 9, 2) := by decide +kernel
theorem dX9_broken_140 : decode cX9_broken 140 = .ok (.iconst 1, 1) := by decide +kernel
theorem dX9_broken_141 : decode cX9_broken 141 = .ok (.isub, 1) := by decide +kernel
theorem dX9_broken_142 : decode cX9_broken 142 = .ok (.iload_n 2, 1) := by decide +kernel
theorem dX9_broken_143 : decode cX9_broken 143 = .ok (.iload 10, 2) := by decide +kernel
theorem dX9_broken_145 : decode cX9_broken 145 = .ok (.invokevirtual 256, 3) := by decide +kernel
theorem dX9_broken_148 : decode cX9_broken 148 = .ok (.istore 11, 2) := by decide +kernel
theorem dX9_broken_150 : decode cX9_broken 150 = .ok (.aload_n 0, 1) := by decide +kernel
theorem dX9_broken_151 : decode cX9_broken 151 = .ok (.getfield 39, 3) := by decide +kernel
theorem dX9_broken_154 : decode cX9_broken 154 = .ok (.iload 10, 2) := by decide +kernel
theorem dX9_broken_156 : decode cX9_broken 156 = .ok (.dup2, 1) := by decide +kernel
theorem dX9_broken_157 : decode cX9_broken 157 = .ok (.iaload, 1) := by decide +kernel
theorem dX9_broken_158 : decode cX9_broken 158 = .ok (.iload 11, 2) := by decide +kernel
theorem dX9_broken_160 : decode cX9_broken 160 = .ok (.iadd, 1) := by decide +kernel
theorem dX9_broken_161 : decode cX9_broken 161 = .ok (.iastore, 1) := by decide +kernel
theorem dX9_broken_162 : decode cX9_broken 162 = .ok (.aload_n 0, 1) := by decide +kernel
theorem dX9_broken_163 : decode cX9_broken 163 = .ok (.getfield 42, 3) := by decide +kernel
theorem dX9_broken_166 : decode cX9_broken 166 = .ok (.iload 10, 2) := by decide +kernel
theorem dX9_broken_168 : decode cX9_broken 168 = .ok (.dup2, 1) := by decide +kernel
theorem dX9_broken_169 : decode cX9_broken 169 = .ok (.iaload, 1) := by decide +kernel
theorem dX9_broken_170 : decode cX9_broken 170 = .ok (.iload 11, 2) := by decide +kernel
theorem dX9_broken_172 : decode cX9_broken 172 = .ok (.isub, 1) := by decide +kernel
theorem dX9_broken_173 : decode cX9_broken 173 = .ok (.iastore, 1) := by decide +kernel
theorem dX9_broken_174 : decode cX9_broken 174 = .ok (.iinc 10 1, 3) := by decide +kernel
theorem dX9_broken_177 : decode cX9_broken 177 = .ok (.goto (-48), 3) := by decide +kernel
theorem dX9_broken_180 : decode cX9_broken 180 = .ok (.iconst 0, 1) := by decide +kernel
theorem dX9_broken_181 : decode cX9_broken 181 = .ok (.istore 10, 2) := by decide +kernel
theorem dX9_broken_183 : decode cX9_broken 183 = .ok (.iload 10, 2) := by decide +kernel
theorem dX9_broken_185 : decode cX9_broken 185 = .ok (.iload 4, 2) := by decide +kernel
theorem dX9_broken_187 : decode cX9_broken 187 = .ok (.iload 4, 2) := by decide +kernel
theorem dX9_broken_189 : decode cX9_broken 189 = .ok (.imul, 1) := by decide +kernel
theorem dX9_broken_190 : decode cX9_broken 190 = .ok (.if_icmp .ge 89, 3) := by decide +kernel
theorem dX9_broken_193 : decode cX9_broken 193 = .ok (.iload 10, 2) := by decide +kernel
theorem dX9_broken_195 : decode cX9_broken 195 = .ok (.iload 4, 2) := by decide +kernel
theorem dX9_broken_197 : decode cX9_broken 197 = .ok (.idiv, 1) := by decide +kernel
theorem dX9_broken_198 : decode cX9_broken 198 = .ok (.iload 10, 2) := by decide +kernel
theorem dX9_broken_200 : decode cX9_broken 200 = .ok (.iload 4, 2) := by decide +kernel
theorem dX9_broken_202 : decode cX9_broken 202 = .ok (.irem, 1) := by decide +kernel
theorem dX9_broken_203 : decode cX9_broken 203 = .ok (.if_icmp .eq 70, 3) := by decide +kernel
theorem dX9_broken_206 : decode cX9_broken 206 = .ok (.aload_n 0, 1) := by decide +kernel
theorem dX9_broken_207 : decode cX9_broken 207 = .ok (.getfield 39, 3) := by decide +kernel
theorem dX9_broken_210 : decode cX9_broken 210 = .ok (.iload 10, 2) := by decide +kernel
theorem dX9_broken_212 : decode cX9_broken 212 = .ok (.iload 4, 2) := by decide +kernel
theorem dX9_broken_214 : decode cX9_broken 214 = .ok (.idiv, 1) := by decide +kernel
theorem dX9_broken_215 : decode cX9_broken 215 = .ok (.iaload, 1) := by decide +kernel
theorem dX9_broken_216 : decode cX9_broken 216 = .ok (.aload_n 0, 1) := by decide +kernel
theorem dX9_broken_217 : decode cX9_broken 217 = .ok (.getfield 42, 3) := by decide +kernel
theorem dX9_broken_220 : decode cX9_broken 220 = .ok (.iload 10, 2) := by decide +kernel
theorem dX9_broken_222 : decode cX9_broken 222 = .ok (.iload 4, 2) := by decide +kernel
theorem dX9_broken_224 : decode cX9_broken 224 = .ok (.irem, 1) := by decide +kernel
theorem dX9_broken_225 : decode cX9_broken 225 = .ok (.iaload, 1) := by decide +kernel
theorem dX9_broken_226 : decode cX9_broken 226 = .ok (.iadd, 1) := by decide +kernel
theorem dX9_broken_227 : decode cX9_broken 227 = .ok (.iload 8, 2) := by decide +kernel
theorem dX9_broken_229 : decode cX9_broken 229 = .ok (.if_icmp .le 44, 3) := by decide +kernel
theorem dX9_broken_232 : decode cX9_broken 232 = .ok (.aload_n 0, 1) := by decide +kernel
theorem dX9_broken_233 : decode cX9_broken 233 = .ok (.getfield 39, 3) := by decide +kernel
theorem dX9_broken_236 : decode cX9_broken 236 = .ok (.iload 10, 2) := by decide +kernel
theorem dX9_broken_238 : decode cX9_broken 238 = .ok (.iload 4, 2) := by decide +kernel
theorem dX9_broken_240 : decode cX9_broken 240 = .ok (.idiv, 1) := by decide +kernel
theorem dX9_broken_241 : decode cX9_broken 241 = .ok (.iaload, 1) := by decide +kernel
theorem dX9_broken_242 : decode cX9_broken 242 = .ok (.aload_n 0, 1) := by decide +kernel
theorem dX9_broken_243 : decode cX9_broken 243 = .ok (.getfield 42, 3) := by decide +kernel
theorem dX9_broken_246 : decode cX9_broken 246 = .ok (.iload 10, 2) := by decide +kernel
theorem dX9_broken_248 : decode cX9_broken 248 = .ok (.iload 4, 2) := by decide +kernel
theorem dX9_broken_250 : decode cX9_broken 250 = .ok (.irem, 1) := by decide +kernel
theorem dX9_broken_251 : decode cX9_broken 251 = .ok (.iaload, 1) := by decide +kernel
theorem dX9_broken_252 : decode cX9_broken 252 = .ok (.iadd, 1) := by decide +kernel
theorem dX9_broken_253 : decode cX9_broken 253 = .ok (.istore 8, 2) := by decide +kernel
theorem dX9_broken_255 : decode cX9_broken 255 = .ok (.iload 9, 2) := by decide +kernel
theorem dX9_broken_257 : decode cX9_broken 257 = .ok (.istore 5, 2) := by decide +kernel
theorem dX9_broken_259 : decode cX9_broken 259 = .ok (.iload 10, 2) := by decide +kernel
theorem dX9_broken_261 : decode cX9_broken 261 = .ok (.iload 4, 2) := by decide +kernel
theorem dX9_broken_263 : decode cX9_broken 263 = .ok (.idiv, 1) := by decide +kernel
theorem dX9_broken_264 : decode cX9_broken 264 = .ok (.istore 6, 2) := by decide +kernel
theorem dX9_broken_266 : decode cX9_broken 266 = .ok (.iload 10, 2) := by decide +kernel
theorem dX9_broken_268 : decode cX9_broken 268 = .ok (.iload 4, 2) := by decide +kernel
theorem dX9_broken_270 : decode cX9_broken 270 = .ok (.irem, 1) := by decide +kernel
theorem dX9_broken_271 : decode cX9_broken 271 = .ok (.istore 7, 2) := by decide +kernel
theorem dX9_broken_273 : decode cX9_broken 273 = .ok (.iinc 10 1, 3) := by decide +kernel
theorem dX9_broken_276 : decode cX9_broken 276 = .ok (.goto (-93), 3) := by decide +kernel
theorem dX9_broken_279 : decode cX9_broken 279 = .ok (.iinc 9 1, 3) := by decide +kernel
theorem dX9_broken_282 : decode cX9_broken 282 = .ok (.goto (-167), 3) := by decide +kernel
theorem dX9_broken_285 : decode cX9_broken 285 = .ok (.iload_n 3, 1) := by decide +kernel
theorem dX9_broken_286 : decode cX9_broken 286 = .ok (.ifCond .ne 8, 3) := by decide +kernel
theorem dX9_broken_289 : decode cX9_broken 289 = .ok (.iload 5, 2) := by decide +kernel
theorem dX9_broken_291 : decode cX9_broken 291 = .ok (.goto 41, 3) := by decide +kernel
theorem dX9_broken_294 : decode cX9_broken 294 = .ok (.iload_n 3, 1) := by decide +kernel
theorem dX9_broken_295 : decode cX9_broken 295 = .ok (.iconst 1, 1) := by decide +kernel
theorem dX9_broken_296 : decode cX9_broken 296 = .ok (.if_icmp .ne 8, 3) := by decide +kernel
theorem dX9_broken_299 : decode cX9_broken 299 = .ok (.iload 6, 2) := by decide +kernel
theorem dX9_broken_301 : decode cX9_broken 301 = .ok (.goto 31, 3) := by decide +kernel
theorem dX9_broken_304 : decode cX9_broken 304 = .ok (.iload_n 3, 1) := by decide +kernel
theorem dX9_broken_305 : decode cX9_broken 305 = .ok (.iconst 2, 1) := by decide +kernel
theorem dX9_broken_306 : decode cX9_broken 306 = .ok (.if_icmp .ne 8, 3) := by decide +kernel
theorem dX9_broken_309 : decode cX9_broken 309 = .ok (.iload 7, 2) := by decide +kernel
theorem dX9_broken_311 : decode cX9_broken 311 = .ok (.goto 21, 3) := by decide +kernel
theorem dX9_broken_314 : decode cX9_broken 314 = .ok (.iload_n 3, 1) := by decide +kernel
theorem dX9_broken_315 : decode cX9_broken 315 = .ok (.iconst 3, 1) := by decide +kernel
theorem dX9_broken_316 : decode cX9_broken 316 = .ok (.if_icmp .ne 8, 3) := by decide +kernel
theorem dX9_broken_319 : decode cX9_broken 319 = .ok (.iload 8, 2) := by decide +kernel
theorem dX9_broken_321 : decode cX9_broken 321 = .ok (.goto 11, 3) := by decide +kernel
theorem dX9_broken_324 : decode cX9_broken 324 = .ok (.iload 8, 2) := by decide +kernel
theorem dX9_broken_326 : decode cX9_broken 326 = .ok (.aload_n 0, 1) := by decide +kernel
theorem dX9_broken_327 : decode cX9_broken 327 = .ok (.iload_n 2, 1) := by decide +kernel
theorem dX9_broken_328 : decode cX9_broken 328 = .ok (.invokevirtual 301, 3) := by decide +kernel
theorem dX9_broken_331 : decode cX9_broken 331 = .ok (.isub, 1) := by decide +kernel
theorem dX9_broken_332 : decode cX9_broken 332 = .ok (.ireturn, 1) := by decide +kernel
abbrev rmX9_broken : Room := { frames := 7, cells := 0, slots := 0, locals := 162 }
theorem inX9_broken_9 : ∀ w ∈ wsX90, w ∈ wsX9_broken := by decide +kernel
def vX9_broken_c183 (J : Nat → Int64) (al : Nat → Int32) (p1 : Int32) (p2 : Int32) (p3 : Int32) (Q : Int32 → (Nat → Int32) → (Nat → Int32) → (Nat → Int32) → (Nat → Int32) → (Nat → Int32) → Prop) (K115 : Int32 → Int32 → Int32 → Int32 → Int32 → Int32 → (Nat → Int32) → (Nat → Int32) → (Nat → Int32) → (Nat → Int32) → (Nat → Int32) → Prop) : Nat → Int32 → Int32 → Int32 → Int32 → Int32 → Int32 → Int32 → (Nat → Int32) → (Nat → Int32) → (Nat → Int32) → (Nat → Int32) → (Nat → Int32) → Prop
  | 0, _, _, _, _, _, _, _, _, _, _, _, _ => False
  | n + 1, x4, x5, x6, x7, x8, x9, x10, F, he, ma, fr, re => (((x4 * x4) ≤ x10 → (K115 x4 x5 x6 x7 x8 (x9 + (1 : Int32)) F he ma fr re)) ∧ (¬ (x4 * x4) ≤ x10 → (¬ x4 = 0 ∧ (¬ x4 = 0 ∧ (((x10 / x4) = (x10 - x10 / x4 * x4) → (vX9_broken_c183 J al p1 p2 p3 Q K115 n x4 x5 x6 x7 x8 x9 (x10 + (1 : Int32)) F he ma fr re)) ∧ (¬ (x10 / x4) = (x10 - x10 / x4 * x4) → (¬ x4 = 0 ∧ (vp_in (x10 / x4) 13 ∧ (¬ x4 = 0 ∧ (vp_in (x10 - x10 / x4 * x4) 13 ∧ ((((fr (x10 / x4).toNatClampNeg) + (re (x10 - x10 / x4 * x4).toNatClampNeg)) ≤ x8 → (vX9_broken_c183 J al p1 p2 p3 Q K115 n x4 x5 x6 x7 x8 x9 (x10 + (1 : Int32)) F he ma fr re)) ∧ (¬ ((fr (x10 / x4).toNatClampNeg) + (re (x10 - x10 / x4 * x4).toNatClampNeg)) ≤ x8 → (¬ x4 = 0 ∧ (vp_in (x10 / x4) 13 ∧ (¬ x4 = 0 ∧ (vp_in (x10 - x10 / x4 * x4) 13 ∧ (∀ y_253 : Int32, y_253 = ((fr (x10 / x4).toNatClampNeg) + (re (x10 - x10 / x4 * x4).toNatClampNeg)) → (¬ x4 = 0 ∧ (¬ x4 = 0 ∧ (vX9_broken_c183 J al p1 p2 p3 Q K115 n x4 x9 (x10 / x4) (x10 - x10 / x4 * x4) y_253 x9 (x10 + (1 : Int32)) F he ma fr re))))))))))))))))))))
set_option maxHeartbeats 4000000 in
set_option maxRecDepth 100000 in
theorem kX9_broken_c183 {p : Program} {l : Launch} {e : Env} {s : State} {m : MethodId} {args : Array Value} {below : List Frame} {meth : Method} {c : Code} {g : GP} {qM : Nat} {q1 : Nat} {q2 : Nat} {q3 : Nat} {q4 : Nat} {q5 : Nat} {q6 : Nat} {q7 : Nat} {q8 : Nat} {q9 : Nat} {q10 : Nat} {q11 : Nat} {J : Nat → Int64} {al : Nat → Int32} {p1 : Int32} {p2 : Int32} {p3 : Int32} {Q : Int32 → (Nat → Int32) → (Nat → Int32) → (Nat → Int32) → (Nat → Int32) → (Nat → Int32) → Prop} {A : Nat → Prop} {K115 : Int32 → Int32 → Int32 → Int32 → Int32 → Int32 → (Nat → Int32) → (Nat → Int32) → (Nat → Int32) → (Nat → Int32) → (Nat → Int32) → Prop} (S : CallFix p m c cX9_broken 12 s args wsX9_broken RX9) (hr : meth.sig.returnType = (some .int)) (hlocks : meth.locks = false) (hG : GK g s) (hA : ∀ q : Nat, s.heap.size ≤ q → A q) (kk115 : ∀ (x4 : Int32) (x5 : Int32) (x6 : Int32) (x7 : Int32) (x8 : Int32) (x9 : Int32) (F : Nat → Int32) (he : Nat → Int32) (ma : Nat → Int32) (fr : Nat → Int32) (re : Nat → Int32), K115 x4 x5 x6 x7 x8 x9 F he ma fr re → ∀ (H : Heap) (locs : List Loc), va_P g.1 vwCl [(qM, .inr (9, [.int (F 0), .ref q1, .ref q2, .ref q3, .int (F 4), .int (F 5), .int (F 6), .int (F 7), .int (F 8), .int (F 9), .long (J 10), .int (F 11), .int (F 12), .int (F 13), .ref q4, .int (F 15), .ref q5, .ref q6, .ref q7, .int (F 19), .ref q8, .int (F 21), .int (F 22), .int (F 23), .int (F 24), .ref q9, .ref q10, .ref q11, .long (J 28)])), (q1, .inl (g.2 0, 376, .inl al)), (q7, .inl (g.2 0, 200, .inl he)), (q8, .inl (g.2 0, 65, .inl ma)), (q10, .inl (g.2 0, 13, .inl fr)), (q11, .inl (g.2 0, 13, .inl re))] H → va_D A [(qM, .inr (9, [.int (F 0), .ref q1, .ref q2, .ref q3, .int (F 4), .int (F 5), .int (F 6), .int (F 7), .int (F 8), .int (F 9), .long (J 10), .int (F 11), .int (F 12), .int (F 13), .ref q4, .int (F 15), .ref q5, .ref q6, .ref q7, .int (F 19), .ref q8, .int (F 21), .int (F 22), .int (F 23), .int (F 24), .ref q9, .ref q10, .ref q11, .long (J 28)])), (q1, .inl (g.2 0, 376, .inl al)), (q7, .inl (g.2 0, 200, .inl he)), (q8, .inl (g.2 0, 65, .inl ma)), (q10, .inl (g.2 0, 13, .inl fr)), (q11, .inl (g.2 0, 13, .inl re))] → va_S A s.heap H locs → ∀ (ls : Array Slot), lv_has ls 12 [(0, .ref qM), (1, .int p1), (2, .int p2), (3, .int p3), (4, .int x4), (5, .int x5), (6, .int x6), (7, .int x7), (8, .int x8), (9, .int x9)] → W p l e (headSpec wsX9_broken rmX9_broken).room s m args below meth c H locs 0 0 (MQ below (va_Qi (fun (r : Int32) (u : (Nat → Int32) × (Nat → Int32) × (Nat → Int32) × (Nat → Int32) × (Nat → Int32)) => Q r u.1 u.2.1 u.2.2.1 u.2.2.2.1 u.2.2.2.2) (fun (u : (Nat → Int32) × (Nat → Int32) × (Nat → Int32) × (Nat → Int32) × (Nat → Int32)) t => va_P g.1 vwCl [(qM, .inr (9, [.int (u.1 0), .ref q1, .ref q2, .ref q3, .int (u.1 4), .int (u.1 5), .int (u.1 6), .int (u.1 7), .int (u.1 8), .int (u.1 9), .long (J 10), .int (u.1 11), .int (u.1 12), .int (u.1 13), .ref q4, .int (u.1 15), .ref q5, .ref q6, .ref q7, .int (u.1 19), .ref q8, .int (u.1 21), .int (u.1 22), .int (u.1 23), .int (u.1 24), .ref q9, .ref q10, .ref q11, .long (J 28)])), (q1, .inl (g.2 0, 376, .inl al)), (q7, .inl (g.2 0, 200, .inl u.2.1)), (q8, .inl (g.2 0, 65, .inl u.2.2.1)), (q10, .inl (g.2 0, 13, .inl u.2.2.2.1)), (q11, .inl (g.2 0, 13, .inl u.2.2.2.2))] t.heap ∧ va_D A [(qM, .inr (9, [.int (u.1 0), .ref q1, .ref q2, .ref q3, .int (u.1 4), .int (u.1 5), .int (u.1 6), .int (u.1 7), .int (u.1 8), .int (u.1 9), .long (J 10), .int (u.1 11), .int (u.1 12), .int (u.1 13), .ref q4, .int (u.1 15), .ref q5, .ref q6, .ref q7, .int (u.1 19), .ref q8, .int (u.1 21), .int (u.1 22), .int (u.1 23), .int (u.1 24), .ref q9, .ref q10, .ref q11, .long (J 28)])), (q1, .inl (g.2 0, 376, .inl al)), (q7, .inl (g.2 0, 200, .inl u.2.1)), (q8, .inl (g.2 0, 65, .inl u.2.2.1)), (q10, .inl (g.2 0, 13, .inl u.2.2.2.1)), (q11, .inl (g.2 0, 13, .inl u.2.2.2.2))]) A) args s 0 0 A) (F0 m 115 ls [])) : ∀ (n : Nat), ∀ (x4 : Int32) (x5 : Int32) (x6 : Int32) (x7 : Int32) (x8 : Int32) (x9 : Int32) (x10 : Int32) (F : Nat → Int32) (he : Nat → Int32) (ma : Nat → Int32) (fr : Nat → Int32) (re : Nat → Int32), vX9_broken_c183 J al p1 p2 p3 Q K115 n x4 x5 x6 x7 x8 x9 x10 F he ma fr re → ∀ (H : Heap) (locs : List Loc), va_P g.1 vwCl [(qM, .inr (9, [.int (F 0), .ref q1, .ref q2, .ref q3, .int (F 4), .int (F 5), .int (F 6), .int (F 7), .int (F 8), .int (F 9), .long (J 10), .int (F 11), .int (F 12), .int (F 13), .ref q4, .int (F 15), .ref q5, .ref q6, .ref q7, .int (F 19), .ref q8, .int (F 21), .int (F 22), .int (F 23), .int (F 24), .ref q9, .ref q10, .ref q11, .long (J 28)])), (q1, .inl (g.2 0, 376, .inl al)), (q7, .inl (g.2 0, 200, .inl he)), (q8, .inl (g.2 0, 65, .inl ma)), (q10, .inl (g.2 0, 13, .inl fr)), (q11, .inl (g.2 0, 13, .inl re))] H → va_D A [(qM, .inr (9, [.int (F 0), .ref q1, .ref q2, .ref q3, .int (F 4), .int (F 5), .int (F 6), .int (F 7), .int (F 8), .int (F 9), .long (J 10), .int (F 11), .int (F 12), .int (F 13), .ref q4, .int (F 15), .ref q5, .ref q6, .ref q7, .int (F 19), .ref q8, .int (F 21), .int (F 22), .int (F 23), .int (F 24), .ref q9, .ref q10, .ref q11, .long (J 28)])), (q1, .inl (g.2 0, 376, .inl al)), (q7, .inl (g.2 0, 200, .inl he)), (q8, .inl (g.2 0, 65, .inl ma)), (q10, .inl (g.2 0, 13, .inl fr)), (q11, .inl (g.2 0, 13, .inl re))] → va_S A s.heap H locs → ∀ (ls : Array Slot), lv_has ls 12 [(0, .ref qM), (1, .int p1), (2, .int p2), (3, .int p3), (4, .int x4), (5, .int x5), (6, .int x6), (7, .int x7), (8, .int x8), (9, .int x9), (10, .int x10)] → W p l e (headSpec wsX9_broken rmX9_broken).room s m args below meth c H locs 0 0 (MQ below (va_Qi (fun (r : Int32) (u : (Nat → Int32) × (Nat → Int32) × (Nat → Int32) × (Nat → Int32) × (Nat → Int32)) => Q r u.1 u.2.1 u.2.2.1 u.2.2.2.1 u.2.2.2.2) (fun (u : (Nat → Int32) × (Nat → Int32) × (Nat → Int32) × (Nat → Int32) × (Nat → Int32)) t => va_P g.1 vwCl [(qM, .inr (9, [.int (u.1 0), .ref q1, .ref q2, .ref q3, .int (u.1 4), .int (u.1 5), .int (u.1 6), .int (u.1 7), .int (u.1 8), .int (u.1 9), .long (J 10), .int (u.1 11), .int (u.1 12), .int (u.1 13), .ref q4, .int (u.1 15), .ref q5, .ref q6, .ref q7, .int (u.1 19), .ref q8, .int (u.1 21), .int (u.1 22), .int (u.1 23), .int (u.1 24), .ref q9, .ref q10, .ref q11, .long (J 28)])), (q1, .inl (g.2 0, 376, .inl al)), (q7, .inl (g.2 0, 200, .inl u.2.1)), (q8, .inl (g.2 0, 65, .inl u.2.2.1)), (q10, .inl (g.2 0, 13, .inl u.2.2.2.1)), (q11, .inl (g.2 0, 13, .inl u.2.2.2.2))] t.heap ∧ va_D A [(qM, .inr (9, [.int (u.1 0), .ref q1, .ref q2, .ref q3, .int (u.1 4), .int (u.1 5), .int (u.1 6), .int (u.1 7), .int (u.1 8), .int (u.1 9), .long (J 10), .int (u.1 11), .int (u.1 12), .int (u.1 13), .ref q4, .int (u.1 15), .ref q5, .ref q6, .ref q7, .int (u.1 19), .ref q8, .int (u.1 21), .int (u.1 22), .int (u.1 23), .int (u.1 24), .ref q9, .ref q10, .ref q11, .long (J 28)])), (q1, .inl (g.2 0, 376, .inl al)), (q7, .inl (g.2 0, 200, .inl u.2.1)), (q8, .inl (g.2 0, 65, .inl u.2.2.1)), (q10, .inl (g.2 0, 13, .inl u.2.2.2.1)), (q11, .inl (g.2 0, 13, .inl u.2.2.2.2))]) A) args s 0 0 A) (F0 m 183 ls []) := by
  obtain ⟨hx, hb, hml, hown, hts⟩ := id S
  have hK := hG.1
  intro n
  induction n with
  | zero => intro x4 x5 x6 x7 x8 x9 x10 F he ma fr re hv; exact hv.elim
  | succ n ih =>
    intro x4 x5 x6 x7 x8 x9 x10 F he ma fr re hv H locs hP hD hS ls hl
    refine lv_iload hx hb dX9_broken_183 (lv_at hl 10 rfl) ?_
    refine lv_iload hx hb dX9_broken_185 (lv_at hl 4 rfl) ?_
    refine lv_iload hx hb dX9_broken_187 (lv_at hl 4 rfl) ?_
    refine lv_imul hx hb dX9_broken_189 ?_
    obtain ⟨hvt, hvf⟩ := hv
    refine lv_icmp_ge (tgt := 279) hx hb dX9_broken_190 (by decide) (fun hc => ?_) (fun hc => ?_)
    · have hv := hvt hc
      refine lv_iinc (v := (x9 + (1 : Int32))) (lv' := [(9, .int (x9 + (1 : Int32))), (0, .ref qM), (1, .int p1), (2, .int p2), (3, .int p3), (4, .int x4), (5, .int x5), (6, .int x6), (7, .int x7), (8, .int x8), (10, .int x10)]) hx hb dX9_broken_279 hl (k := 9) rfl rfl (by decide) rfl (fun ls hl => ?_)
      refine lv_goto (tgt := 115) hx hb dX9_broken_282 (by decide) ?_
      exact kk115 _ _ _ _ _ _ _ _ _ _ _ hv _ _ (hP.sub (ws' := [(qM, .inr (9, [.int (F 0), .ref q1, .ref q2, .ref q3, .int (F 4), .int (F 5), .int (F 6), .int (F 7), .int (F 8), .int (F 9), .long (J 10), .int (F 11), .int (F 12), .int (F 13), .ref q4, .int (F 15), .ref q5, .ref q6, .ref q7, .int (F 19), .ref q8, .int (F 21), .int (F 22), .int (F 23), .int (F 24), .ref q9, .ref q10, .ref q11, .long (J 28)])), (q1, .inl (g.2 0, 376, .inl al)), (q7, .inl (g.2 0, 200, .inl he)), (q8, .inl (g.2 0, 65, .inl ma)), (q10, .inl (g.2 0, 13, .inl fr)), (q11, .inl (g.2 0, 13, .inl re))]) [0, 1, 2, 3, 4, 5] rfl) (hD.sub (ws' := [(qM, .inr (9, [.int (F 0), .ref q1, .ref q2, .ref q3, .int (F 4), .int (F 5), .int (F 6), .int (F 7), .int (F 8), .int (F 9), .long (J 10), .int (F 11), .int (F 12), .int (F 13), .ref q4, .int (F 15), .ref q5, .ref q6, .ref q7, .int (F 19), .ref q8, .int (F 21), .int (F 22), .int (F 23), .int (F 24), .ref q9, .ref q10, .ref q11, .long (J 28)])), (q1, .inl (g.2 0, 376, .inl al)), (q7, .inl (g.2 0, 200, .inl he)), (q8, .inl (g.2 0, 65, .inl ma)), (q10, .inl (g.2 0, 13, .inl fr)), (q11, .inl (g.2 0, 13, .inl re))]) [0, 1, 2, 3, 4, 5] (by decide) rfl) hS ls (lv_sub hl [1, 2, 3, 4, 5, 6, 7, 8, 9, 0] rfl)
    · have hv := hvf hc
      refine lv_iload hx hb dX9_broken_193 (lv_at hl 10 rfl) ?_
      refine lv_iload hx hb dX9_broken_195 (lv_at hl 4 rfl) ?_
      obtain ⟨ho_1, hv⟩ := hv
      refine lv_idiv hx hb dX9_broken_197 ho_1 ?_
      refine lv_iload hx hb dX9_broken_198 (lv_at hl 10 rfl) ?_
      refine lv_iload hx hb dX9_broken_200 (lv_at hl 4 rfl) ?_
      obtain ⟨ho_2, hv⟩ := hv
      refine lv_irem hx hb dX9_broken_202 ho_2 ?_
      obtain ⟨hvt, hvf⟩ := hv
      refine lv_icmp_eq (tgt := 273) hx hb dX9_broken_203 (by decide) (fun hc => ?_) (fun hc => ?_)
      · have hv := hvt hc
        refine lv_iinc (v := (x10 + (1 : Int32))) (lv' := [(10, .int (x10 + (1 : Int32))), (0, .ref qM), (1, .int p1), (2, .int p2), (3, .int p3), (4, .int x4), (5, .int x5), (6, .int x6), (7, .int x7), (8, .int x8), (9, .int x9)]) hx hb dX9_broken_273 hl (k := 10) rfl rfl (by decide) rfl (fun ls hl => ?_)
        refine lv_goto (tgt := 183) hx hb dX9_broken_276 (by decide) ?_
        exact ih _ _ _ _ _ _ _ _ _ _ _ _ hv _ _ (hP.sub (ws' := [(qM, .inr (9, [.int (F 0), .ref q1, .ref q2, .ref q3, .int (F 4), .int (F 5), .int (F 6), .int (F 7), .int (F 8), .int (F 9), .long (J 10), .int (F 11), .int (F 12), .int (F 13), .ref q4, .int (F 15), .ref q5, .ref q6, .ref q7, .int (F 19), .ref q8, .int (F 21), .int (F 22), .int (F 23), .int (F 24), .ref q9, .ref q10, .ref q11, .long (J 28)])), (q1, .inl (g.2 0, 376, .inl al)), (q7, .inl (g.2 0, 200, .inl he)), (q8, .inl (g.2 0, 65, .inl ma)), (q10, .inl (g.2 0, 13, .inl fr)), (q11, .inl (g.2 0, 13, .inl re))]) [0, 1, 2, 3, 4, 5] rfl) (hD.sub (ws' := [(qM, .inr (9, [.int (F 0), .ref q1, .ref q2, .ref q3, .int (F 4), .int (F 5), .int (F 6), .int (F 7), .int (F 8), .int (F 9), .long (J 10), .int (F 11), .int (F 12), .int (F 13), .ref q4, .int (F 15), .ref q5, .ref q6, .ref q7, .int (F 19), .ref q8, .int (F 21), .int (F 22), .int (F 23), .int (F 24), .ref q9, .ref q10, .ref q11, .long (J 28)])), (q1, .inl (g.2 0, 376, .inl al)), (q7, .inl (g.2 0, 200, .inl he)), (q8, .inl (g.2 0, 65, .inl ma)), (q10, .inl (g.2 0, 13, .inl fr)), (q11, .inl (g.2 0, 13, .inl re))]) [0, 1, 2, 3, 4, 5] (by decide) rfl) hS ls (lv_sub hl [1, 2, 3, 4, 5, 6, 7, 8, 9, 10, 0] rfl)
      · have hv := hvf hc
        refine lv_aload_n hx hb dX9_broken_206 rfl (lv_at hl 0 rfl) ?_
        refine va_get (D := g.1) (ci := 9) (v := .ref q10) (C := RX9) (T := TX9) (N := 29) hx hb hts inX9_broken_9 hown hK hP 0 rfl rfl 26 (by decide) (hts (.fieldLink RX9 39 "RangeCodesModel" "front" "[I") (List.mem_of_getElem? (i := 2) rfl)) (fun _ h9 => h9) rfl dX9_broken_207 ?_
        refine lv_iload hx hb dX9_broken_210 (lv_at hl 10 rfl) ?_
        refine lv_iload hx hb dX9_broken_212 (lv_at hl 4 rfl) ?_
        obtain ⟨ho_3, hv⟩ := hv
        refine lv_idiv hx hb dX9_broken_214 ho_3 ?_
        obtain ⟨ho_4, hv⟩ := hv
        refine va_iald hx hb hK hP 4 0 rfl rfl ho_4 dX9_broken_215 ?_
        refine lv_aload_n hx hb dX9_broken_216 rfl (lv_at hl 0 rfl) ?_
        refine va_get (D := g.1) (ci := 9) (v := .ref q11) (C := RX9) (T := TX9) (N := 29) hx hb hts inX9_broken_9 hown hK hP 0 rfl rfl 27 (by decide) (hts (.fieldLink RX9 42 "RangeCodesModel" "rear" "[I") (List.mem_of_getElem? (i := 3) rfl)) (fun _ h9 => h9) rfl dX9_broken_217 ?_
        refine lv_iload hx hb dX9_broken_220 (lv_at hl 10 rfl) ?_
        refine lv_iload hx hb dX9_broken_222 (lv_at hl 4 rfl) ?_
        obtain ⟨ho_5, hv⟩ := hv
        refine lv_irem hx hb dX9_broken_224 ho_5 ?_
        obtain ⟨ho_6, hv⟩ := hv
        refine va_iald hx hb hK hP 5 0 rfl rfl ho_6 dX9_broken_225 ?_
        refine lv_iadd hx hb dX9_broken_226 ?_
        refine lv_iload hx hb dX9_broken_227 (lv_at hl 8 rfl) ?_
        obtain ⟨hvt, hvf⟩ := hv
        refine lv_icmp_le (tgt := 273) hx hb dX9_broken_229 (by decide) (fun hc => ?_) (fun hc => ?_)
        · have hv := hvt hc
          refine lv_iinc (v := (x10 + (1 : Int32))) (lv' := [(10, .int (x10 + (1 : Int32))), (0, .ref qM), (1, .int p1), (2, .int p2), (3, .int p3), (4, .int x4), (5, .int x5), (6, .int x6), (7, .int x7), (8, .int x8), (9, .int x9)]) hx hb dX9_broken_273 hl (k := 10) rfl rfl (by decide) rfl (fun ls hl => ?_)
          refine lv_goto (tgt := 183) hx hb dX9_broken_276 (by decide) ?_
          exact ih _ _ _ _ _ _ _ _ _ _ _ _ hv _ _ (hP.sub (ws' := [(qM, .inr (9, [.int (F 0), .ref q1, .ref q2, .ref q3, .int (F 4), .int (F 5), .int (F 6), .int (F 7), .int (F 8), .int (F 9), .long (J 10), .int (F 11), .int (F 12), .int (F 13), .ref q4, .int (F 15), .ref q5, .ref q6, .ref q7, .int (F 19), .ref q8, .int (F 21), .int (F 22), .int (F 23), .int (F 24), .ref q9, .ref q10, .ref q11, .long (J 28)])), (q1, .inl (g.2 0, 376, .inl al)), (q7, .inl (g.2 0, 200, .inl he)), (q8, .inl (g.2 0, 65, .inl ma)), (q10, .inl (g.2 0, 13, .inl fr)), (q11, .inl (g.2 0, 13, .inl re))]) [0, 1, 2, 3, 4, 5] rfl) (hD.sub (ws' := [(qM, .inr (9, [.int (F 0), .ref q1, .ref q2, .ref q3, .int (F 4), .int (F 5), .int (F 6), .int (F 7), .int (F 8), .int (F 9), .long (J 10), .int (F 11), .int (F 12), .int (F 13), .ref q4, .int (F 15), .ref q5, .ref q6, .ref q7, .int (F 19), .ref q8, .int (F 21), .int (F 22), .int (F 23), .int (F 24), .ref q9, .ref q10, .ref q11, .long (J 28)])), (q1, .inl (g.2 0, 376, .inl al)), (q7, .inl (g.2 0, 200, .inl he)), (q8, .inl (g.2 0, 65, .inl ma)), (q10, .inl (g.2 0, 13, .inl fr)), (q11, .inl (g.2 0, 13, .inl re))]) [0, 1, 2, 3, 4, 5] (by decide) rfl) hS ls (lv_sub hl [1, 2, 3, 4, 5, 6, 7, 8, 9, 10, 0] rfl)
        · have hv := hvf hc
          refine lv_aload_n hx hb dX9_broken_232 rfl (lv_at hl 0 rfl) ?_
          refine va_get (D := g.1) (ci := 9) (v := .ref q10) (C := RX9) (T := TX9) (N := 29) hx hb hts inX9_broken_9 hown hK hP 0 rfl rfl 26 (by decide) (hts (.fieldLink RX9 39 "RangeCodesModel" "front" "[I") (List.mem_of_getElem? (i := 2) rfl)) (fun _ h9 => h9) rfl dX9_broken_233 ?_
          refine lv_iload hx hb dX9_broken_236 (lv_at hl 10 rfl) ?_
          refine lv_iload hx hb dX9_broken_238 (lv_at hl 4 rfl) ?_
          obtain ⟨ho_7, hv⟩ := hv
          refine lv_idiv hx hb dX9_broken_240 ho_7 ?_
          obtain ⟨ho_8, hv⟩ := hv
          refine va_iald hx hb hK hP 4 0 rfl rfl ho_8 dX9_broken_241 ?_
          refine lv_aload_n hx hb dX9_broken_242 rfl (lv_at hl 0 rfl) ?_
          refine va_get (D := g.1) (ci := 9) (v := .ref q11) (C := RX9) (T := TX9) (N := 29) hx hb hts inX9_broken_9 hown hK hP 0 rfl rfl 27 (by decide) (hts (.fieldLink RX9 42 "RangeCodesModel" "rear" "[I") (List.mem_of_getElem? (i := 3) rfl)) (fun _ h9 => h9) rfl dX9_broken_243 ?_
          refine lv_iload hx hb dX9_broken_246 (lv_at hl 10 rfl) ?_
          refine lv_iload hx hb dX9_broken_248 (lv_at hl 4 rfl) ?_
          obtain ⟨ho_9, hv⟩ := hv
          refine lv_irem hx hb dX9_broken_250 ho_9 ?_
          obtain ⟨ho_10, hv⟩ := hv
          refine va_iald hx hb hK hP 5 0 rfl rfl ho_10 dX9_broken_251 ?_
          refine lv_iadd hx hb dX9_broken_252 ?_
          refine lv_topi (fun y_253 ey_253 => ?_)
          have hv := hv y_253 ey_253
          refine lv_istore (lv' := [(8, .int y_253), (0, .ref qM), (1, .int p1), (2, .int p2), (3, .int p3), (4, .int x4), (5, .int x5), (6, .int x6), (7, .int x7), (9, .int x9), (10, .int x10)]) hx hb dX9_broken_253 hl (by decide) rfl (fun ls hl => ?_)
          refine lv_iload hx hb dX9_broken_255 (lv_at hl 9 rfl) ?_
          refine lv_istore (lv' := [(5, .int x9), (8, .int y_253), (0, .ref qM), (1, .int p1), (2, .int p2), (3, .int p3), (4, .int x4), (6, .int x6), (7, .int x7), (9, .int x9), (10, .int x10)]) hx hb dX9_broken_257 hl (by decide) rfl (fun ls hl => ?_)
          refine lv_iload hx hb dX9_broken_259 (lv_at hl 10 rfl) ?_
          refine lv_iload hx hb dX9_broken_261 (lv_at hl 6 rfl) ?_
          obtain ⟨ho_11, hv⟩ := hv
          refine lv_idiv hx hb dX9_broken_263 ho_11 ?_
          refine lv_istore (lv' := [(6, .int (x10 / x4)), (5, .int x9), (8, .int y_253), (0, .ref qM), (1, .int p1), (2, .int p2), (3, .int p3), (4, .int x4), (7, .int x7), (9, .int x9), (10, .int x10)]) hx hb dX9_broken_264 hl (by decide) rfl (fun ls hl => ?_)
          refine lv_iload hx hb dX9_broken_266 (lv_at hl 10 rfl) ?_
          refine lv_iload hx hb dX9_broken_268 (lv_at hl 7 rfl) ?_
          obtain ⟨ho_12, hv⟩ := hv
          refine lv_irem hx hb dX9_broken_270 ho_12 ?_
          refine lv_istore (lv' := [(7, .int (x10 - x10 / x4 * x4)), (6, .int (x10 / x4)), (5, .int x9), (8, .int y_253), (0, .ref qM), (1, .int p1), (2, .int p2), (3, .int p3), (4, .int x4), (9, .int x9), (10, .int x10)]) hx hb dX9_broken_271 hl (by decide) rfl (fun ls hl => ?_)
          refine lv_iinc (v := (x10 + (1 : Int32))) (lv' := [(10, .int (x10 + (1 : Int32))), (7, .int (x10 - x10 / x4 * x4)), (6, .int (x10 / x4)), (5, .int x9), (8, .int y_253), (0, .ref qM), (1, .int p1), (2, .int p2), (3, .int p3), (4, .int x4), (9, .int x9)]) hx hb dX9_broken_273 hl (k := 10) rfl rfl (by decide) rfl (fun ls hl => ?_)
          refine lv_goto (tgt := 183) hx hb dX9_broken_276 (by decide) ?_
          exact ih _ _ _ _ _ _ _ _ _ _ _ _ hv _ _ (hP.sub (ws' := [(qM, .inr (9, [.int (F 0), .ref q1, .ref q2, .ref q3, .int (F 4), .int (F 5), .int (F 6), .int (F 7), .int (F 8), .int (F 9), .long (J 10), .int (F 11), .int (F 12), .int (F 13), .ref q4, .int (F 15), .ref q5, .ref q6, .ref q7, .int (F 19), .ref q8, .int (F 21), .int (F 22), .int (F 23), .int (F 24), .ref q9, .ref q10, .ref q11, .long (J 28)])), (q1, .inl (g.2 0, 376, .inl al)), (q7, .inl (g.2 0, 200, .inl he)), (q8, .inl (g.2 0, 65, .inl ma)), (q10, .inl (g.2 0, 13, .inl fr)), (q11, .inl (g.2 0, 13, .inl re))]) [0, 1, 2, 3, 4, 5] rfl) (hD.sub (ws' := [(qM, .inr (9, [.int (F 0), .ref q1, .ref q2, .ref q3, .int (F 4), .int (F 5), .int (F 6), .int (F 7), .int (F 8), .int (F 9), .long (J 10), .int (F 11), .int (F 12), .int (F 13), .ref q4, .int (F 15), .ref q5, .ref q6, .ref q7, .int (F 19), .ref q8, .int (F 21), .int (F 22), .int (F 23), .int (F 24), .ref q9, .ref q10, .ref q11, .long (J 28)])), (q1, .inl (g.2 0, 376, .inl al)), (q7, .inl (g.2 0, 200, .inl he)), (q8, .inl (g.2 0, 65, .inl ma)), (q10, .inl (g.2 0, 13, .inl fr)), (q11, .inl (g.2 0, 13, .inl re))]) [0, 1, 2, 3, 4, 5] (by decide) rfl) hS ls (lv_sub hl [5, 6, 7, 8, 9, 3, 2, 1, 4, 10, 0] rfl)
def vX9_broken_c129 (J : Nat → Int64) (al : Nat → Int32) (p1 : Int32) (p2 : Int32) (p3 : Int32) (Q : Int32 → (Nat → Int32) → (Nat → Int32) → (Nat → Int32) → (Nat → Int32) → (Nat → Int32) → Prop) (K115 : Int32 → Int32 → Int32 → Int32 → Int32 → Int32 → (Nat → Int32) → (Nat → Int32) → (Nat → Int32) → (Nat → Int32) → (Nat → Int32) → Prop) : Nat → Int32 → Int32 → Int32 → Int32 → Int32 → Int32 → Int32 → (Nat → Int32) → (Nat → Int32) → (Nat → Int32) → (Nat → Int32) → (Nat → Int32) → Prop
  | 0, _, _, _, _, _, _, _, _, _, _, _, _ => False
  | n + 1, x4, x5, x6, x7, x8, x9, x10, F, he, ma, fr, re => ((x4 ≤ x10 → (∃ nn, vX9_broken_c183 J al p1 p2 p3 Q K115 nn x4 x5 x6 x7 x8 x9 (0 : Int32) F he ma fr re)) ∧ (¬ x4 ≤ x10 → (∃ (T_145 : Cd) (G_145 : Lg) (lg_145 : Nat) (i_145 : Nat) (p_145 : Nat) (pl_145 : Nat) (h_145 : Nat → Nat), preX9_alike T_145 G_145 lg_145 i_145 p_145 pl_145 h_145 F J al he p1 (x9 - (1 : Int32)) p2 x10 ∧ (∀ r_145 : Int32, postX9_alike T_145 G_145 lg_145 i_145 p_145 pl_145 h_145 F J al he p1 (x9 - (1 : Int32)) p2 x10 r_145 → (vp_in x10 13 ∧ (∀ a_161 : Int32, a_161 = ((fr x10.toNatClampNeg) + r_145) → (vp_in x10 13 ∧ (vp_in x10 13 ∧ (∀ a_173 : Int32, a_173 = ((re x10.toNatClampNeg) - r_145) → (vp_in x10 13 ∧ (vX9_broken_c129 J al p1 p2 p3 Q K115 n x4 x5 x6 x7 x8 x9 (x10 + (1 : Int32)) F he ma (upd fr x10.toNatClampNeg a_161) (upd re x10.toNatClampNeg a_173))))))))))))
set_option maxHeartbeats 4000000 in
set_option maxRecDepth 100000 in
theorem kX9_broken_c129 {p : Program} {l : Launch} {e : Env} {s : State} {m : MethodId} {args : Array Value} {below : List Frame} {meth : Method} {c : Code} {g : GP} {qM : Nat} {q1 : Nat} {q2 : Nat} {q3 : Nat} {q4 : Nat} {q5 : Nat} {q6 : Nat} {q7 : Nat} {q8 : Nat} {q9 : Nat} {q10 : Nat} {q11 : Nat} {J : Nat → Int64} {al : Nat → Int32} {p1 : Int32} {p2 : Int32} {p3 : Int32} {Q : Int32 → (Nat → Int32) → (Nat → Int32) → (Nat → Int32) → (Nat → Int32) → (Nat → Int32) → Prop} {A : Nat → Prop} {K115 : Int32 → Int32 → Int32 → Int32 → Int32 → Int32 → (Nat → Int32) → (Nat → Int32) → (Nat → Int32) → (Nat → Int32) → (Nat → Int32) → Prop} (S : CallFix p m c cX9_broken 12 s args wsX9_broken RX9) (hr : meth.sig.returnType = (some .int)) (hlocks : meth.locks = false) (hG : GK g s) (hA : ∀ q : Nat, s.heap.size ≤ q → A q) (kk115 : ∀ (x4 : Int32) (x5 : Int32) (x6 : Int32) (x7 : Int32) (x8 : Int32) (x9 : Int32) (F : Nat → Int32) (he : Nat → Int32) (ma : Nat → Int32) (fr : Nat → Int32) (re : Nat → Int32), K115 x4 x5 x6 x7 x8 x9 F he ma fr re → ∀ (H : Heap) (locs : List Loc), va_P g.1 vwCl [(qM, .inr (9, [.int (F 0), .ref q1, .ref q2, .ref q3, .int (F 4), .int (F 5), .int (F 6), .int (F 7), .int (F 8), .int (F 9), .long (J 10), .int (F 11), .int (F 12), .int (F 13), .ref q4, .int (F 15), .ref q5, .ref q6, .ref q7, .int (F 19), .ref q8, .int (F 21), .int (F 22), .int (F 23), .int (F 24), .ref q9, .ref q10, .ref q11, .long (J 28)])), (q1, .inl (g.2 0, 376, .inl al)), (q7, .inl (g.2 0, 200, .inl he)), (q8, .inl (g.2 0, 65, .inl ma)), (q10, .inl (g.2 0, 13, .inl fr)), (q11, .inl (g.2 0, 13, .inl re))] H → va_D A [(qM, .inr (9, [.int (F 0), .ref q1, .ref q2, .ref q3, .int (F 4), .int (F 5), .int (F 6), .int (F 7), .int (F 8), .int (F 9), .long (J 10), .int (F 11), .int (F 12), .int (F 13), .ref q4, .int (F 15), .ref q5, .ref q6, .ref q7, .int (F 19), .ref q8, .int (F 21), .int (F 22), .int (F 23), .int (F 24), .ref q9, .ref q10, .ref q11, .long (J 28)])), (q1, .inl (g.2 0, 376, .inl al)), (q7, .inl (g.2 0, 200, .inl he)), (q8, .inl (g.2 0, 65, .inl ma)), (q10, .inl (g.2 0, 13, .inl fr)), (q11, .inl (g.2 0, 13, .inl re))] → va_S A s.heap H locs → ∀ (ls : Array Slot), lv_has ls 12 [(0, .ref qM), (1, .int p1), (2, .int p2), (3, .int p3), (4, .int x4), (5, .int x5), (6, .int x6), (7, .int x7), (8, .int x8), (9, .int x9)] → W p l e (headSpec wsX9_broken rmX9_broken).room s m args below meth c H locs 0 0 (MQ below (va_Qi (fun (r : Int32) (u : (Nat → Int32) × (Nat → Int32) × (Nat → Int32) × (Nat → Int32) × (Nat → Int32)) => Q r u.1 u.2.1 u.2.2.1 u.2.2.2.1 u.2.2.2.2) (fun (u : (Nat → Int32) × (Nat → Int32) × (Nat → Int32) × (Nat → Int32) × (Nat → Int32)) t => va_P g.1 vwCl [(qM, .inr (9, [.int (u.1 0), .ref q1, .ref q2, .ref q3, .int (u.1 4), .int (u.1 5), .int (u.1 6), .int (u.1 7), .int (u.1 8), .int (u.1 9), .long (J 10), .int (u.1 11), .int (u.1 12), .int (u.1 13), .ref q4, .int (u.1 15), .ref q5, .ref q6, .ref q7, .int (u.1 19), .ref q8, .int (u.1 21), .int (u.1 22), .int (u.1 23), .int (u.1 24), .ref q9, .ref q10, .ref q11, .long (J 28)])), (q1, .inl (g.2 0, 376, .inl al)), (q7, .inl (g.2 0, 200, .inl u.2.1)), (q8, .inl (g.2 0, 65, .inl u.2.2.1)), (q10, .inl (g.2 0, 13, .inl u.2.2.2.1)), (q11, .inl (g.2 0, 13, .inl u.2.2.2.2))] t.heap ∧ va_D A [(qM, .inr (9, [.int (u.1 0), .ref q1, .ref q2, .ref q3, .int (u.1 4), .int (u.1 5), .int (u.1 6), .int (u.1 7), .int (u.1 8), .int (u.1 9), .long (J 10), .int (u.1 11), .int (u.1 12), .int (u.1 13), .ref q4, .int (u.1 15), .ref q5, .ref q6, .ref q7, .int (u.1 19), .ref q8, .int (u.1 21), .int (u.1 22), .int (u.1 23), .int (u.1 24), .ref q9, .ref q10, .ref q11, .long (J 28)])), (q1, .inl (g.2 0, 376, .inl al)), (q7, .inl (g.2 0, 200, .inl u.2.1)), (q8, .inl (g.2 0, 65, .inl u.2.2.1)), (q10, .inl (g.2 0, 13, .inl u.2.2.2.1)), (q11, .inl (g.2 0, 13, .inl u.2.2.2.2))]) A) args s 0 0 A) (F0 m 115 ls [])) : ∀ (n : Nat), ∀ (x4 : Int32) (x5 : Int32) (x6 : Int32) (x7 : Int32) (x8 : Int32) (x9 : Int32) (x10 : Int32) (F : Nat → Int32) (he : Nat → Int32) (ma : Nat → Int32) (fr : Nat → Int32) (re : Nat → Int32), vX9_broken_c129 J al p1 p2 p3 Q K115 n x4 x5 x6 x7 x8 x9 x10 F he ma fr re → ∀ (H : Heap) (locs : List Loc), va_P g.1 vwCl [(qM, .inr (9, [.int (F 0), .ref q1, .ref q2, .ref q3, .int (F 4), .int (F 5), .int (F 6), .int (F 7), .int (F 8), .int (F 9), .long (J 10), .int (F 11), .int (F 12), .int (F 13), .ref q4, .int (F 15), .ref q5, .ref q6, .ref q7, .int (F 19), .ref q8, .int (F 21), .int (F 22), .int (F 23), .int (F 24), .ref q9, .ref q10, .ref q11, .long (J 28)])), (q1, .inl (g.2 0, 376, .inl al)), (q7, .inl (g.2 0, 200, .inl he)), (q8, .inl (g.2 0, 65, .inl ma)), (q10, .inl (g.2 0, 13, .inl fr)), (q11, .inl (g.2 0, 13, .inl re))] H → va_D A [(qM, .inr (9, [.int (F 0), .ref q1, .ref q2, .ref q3, .int (F 4), .int (F 5), .int (F 6), .int (F 7), .int (F 8), .int (F 9), .long (J 10), .int (F 11), .int (F 12), .int (F 13), .ref q4, .int (F 15), .ref q5, .ref q6, .ref q7, .int (F 19), .ref q8, .int (F 21), .int (F 22), .int (F 23), .int (F 24), .ref q9, .ref q10, .ref q11, .long (J 28)])), (q1, .inl (g.2 0, 376, .inl al)), (q7, .inl (g.2 0, 200, .inl he)), (q8, .inl (g.2 0, 65, .inl ma)), (q10, .inl (g.2 0, 13, .inl fr)), (q11, .inl (g.2 0, 13, .inl re))] → va_S A s.heap H locs → ∀ (ls : Array Slot), lv_has ls 12 [(0, .ref qM), (1, .int p1), (2, .int p2), (3, .int p3), (4, .int x4), (5, .int x5), (6, .int x6), (7, .int x7), (8, .int x8), (9, .int x9), (10, .int x10)] → W p l e (headSpec wsX9_broken rmX9_broken).room s m args below meth c H locs 0 0 (MQ below (va_Qi (fun (r : Int32) (u : (Nat → Int32) × (Nat → Int32) × (Nat → Int32) × (Nat → Int32) × (Nat → Int32)) => Q r u.1 u.2.1 u.2.2.1 u.2.2.2.1 u.2.2.2.2) (fun (u : (Nat → Int32) × (Nat → Int32) × (Nat → Int32) × (Nat → Int32) × (Nat → Int32)) t => va_P g.1 vwCl [(qM, .inr (9, [.int (u.1 0), .ref q1, .ref q2, .ref q3, .int (u.1 4), .int (u.1 5), .int (u.1 6), .int (u.1 7), .int (u.1 8), .int (u.1 9), .long (J 10), .int (u.1 11), .int (u.1 12), .int (u.1 13), .ref q4, .int (u.1 15), .ref q5, .ref q6, .ref q7, .int (u.1 19), .ref q8, .int (u.1 21), .int (u.1 22), .int (u.1 23), .int (u.1 24), .ref q9, .ref q10, .ref q11, .long (J 28)])), (q1, .inl (g.2 0, 376, .inl al)), (q7, .inl (g.2 0, 200, .inl u.2.1)), (q8, .inl (g.2 0, 65, .inl u.2.2.1)), (q10, .inl (g.2 0, 13, .inl u.2.2.2.1)), (q11, .inl (g.2 0, 13, .inl u.2.2.2.2))] t.heap ∧ va_D A [(qM, .inr (9, [.int (u.1 0), .ref q1, .ref q2, .ref q3, .int (u.1 4), .int (u.1 5), .int (u.1 6), .int (u.1 7), .int (u.1 8), .int (u.1 9), .long (J 10), .int (u.1 11), .int (u.1 12), .int (u.1 13), .ref q4, .int (u.1 15), .ref q5, .ref q6, .ref q7, .int (u.1 19), .ref q8, .int (u.1 21), .int (u.1 22), .int (u.1 23), .int (u.1 24), .ref q9, .ref q10, .ref q11, .long (J 28)])), (q1, .inl (g.2 0, 376, .inl al)), (q7, .inl (g.2 0, 200, .inl u.2.1)), (q8, .inl (g.2 0, 65, .inl u.2.2.1)), (q10, .inl (g.2 0, 13, .inl u.2.2.2.1)), (q11, .inl (g.2 0, 13, .inl u.2.2.2.2))]) A) args s 0 0 A) (F0 m 129 ls []) := by
  obtain ⟨hx, hb, hml, hown, hts⟩ := id S
  have hK := hG.1
  intro n
  induction n with
  | zero => intro x4 x5 x6 x7 x8 x9 x10 F he ma fr re hv; exact hv.elim
  | succ n ih =>
    intro x4 x5 x6 x7 x8 x9 x10 F he ma fr re hv H locs hP hD hS ls hl
    refine lv_iload hx hb dX9_broken_129 (lv_at hl 10 rfl) ?_
    refine lv_iload hx hb dX9_broken_131 (lv_at hl 4 rfl) ?_
    obtain ⟨hvt, hvf⟩ := hv
    refine lv_icmp_ge (tgt := 180) hx hb dX9_broken_133 (by decide) (fun hc => ?_) (fun hc => ?_)
    · have hv := hvt hc
      refine lv_iconst (v := (0 : Int32)) hx hb dX9_broken_180 (by decide) ?_
      refine lv_istore (lv' := [(10, .int (0 : Int32)), (0, .ref qM), (1, .int p1), (2, .int p2), (3, .int p3), (4, .int x4), (5, .int x5), (6, .int x6), (7, .int x7), (8, .int x8), (9, .int x9)]) hx hb dX9_broken_181 hl (by decide) rfl (fun ls hl => ?_)
      obtain ⟨nn, hv⟩ := hv
      exact kX9_broken_c183 S hr hlocks hG hA kk115 nn _ _ _ _ _ _ _ _ _ _ _ _ hv _ _ (hP.sub (ws' := [(qM, .inr (9, [.int (F 0), .ref q1, .ref q2, .ref q3, .int (F 4), .int (F 5), .int (F 6), .int (F 7), .int (F 8), .int (F 9), .long (J 10), .int (F 11), .int (F 12), .int (F 13), .ref q4, .int (F 15), .ref q5, .ref q6, .ref q7, .int (F 19), .ref q8, .int (F 21), .int (F 22), .int (F 23), .int (F 24), .ref q9, .ref q10, .ref q11, .long (J 28)])), (q1, .inl (g.2 0, 376, .inl al)), (q7, .inl (g.2 0, 200, .inl he)), (q8, .inl (g.2 0, 65, .inl ma)), (q10, .inl (g.2 0, 13, .inl fr)), (q11, .inl (g.2 0, 13, .inl re))]) [0, 1, 2, 3, 4, 5] rfl) (hD.sub (ws' := [(qM, .inr (9, [.int (F 0), .ref q1, .ref q2, .ref q3, .int (F 4), .int (F 5), .int (F 6), .int (F 7), .int (F 8), .int (F 9), .long (J 10), .int (F 11), .int (F 12), .int (F 13), .ref q4, .int (F 15), .ref q5, .ref q6, .ref q7, .int (F 19), .ref q8, .int (F 21), .int (F 22), .int (F 23), .int (F 24), .ref q9, .ref q10, .ref q11, .long (J 28)])), (q1, .inl (g.2 0, 376, .inl al)), (q7, .inl (g.2 0, 200, .inl he)), (q8, .inl (g.2 0, 65, .inl ma)), (q10, .inl (g.2 0, 13, .inl fr)), (q11, .inl (g.2 0, 13, .inl re))]) [0, 1, 2, 3, 4, 5] (by decide) rfl) hS ls (lv_sub hl [1, 2, 3, 4, 5, 6, 7, 8, 9, 10, 0] rfl)
    · have hv := hvf hc
      refine lv_aload_n hx hb dX9_broken_136 rfl (lv_at hl 0 rfl) ?_
      refine lv_iload_n hx hb dX9_broken_137 rfl (lv_at hl 1 rfl) ?_
      refine lv_iload hx hb dX9_broken_138 (lv_at hl 9 rfl) ?_
      refine lv_iconst (v := (1 : Int32)) hx hb dX9_broken_140 (by decide) ?_
      refine lv_isub hx hb dX9_broken_141 ?_
      refine lv_iload_n hx hb dX9_broken_142 rfl (lv_at hl 2 rfl) ?_
      refine lv_iload hx hb dX9_broken_143 (lv_at hl 10 rfl) ?_
      obtain ⟨T_145, G_145, lg_145, i_145, p_145, pl_145, h_145, ho_1, hv⟩ := hv
      refine vp_callSi (W.runV (As := [.int p1, .int (x9 - (1 : Int32)), .int p2, .int x10]) (rest := []) S (wX9_alike l g qM q1 q2 q3 q4 q5 q6 q7 q8 q9 q10 q11 F J al he p1 (x9 - (1 : Int32)) p2 x10 (sX9_alike T_145 G_145 lg_145 i_145 p_145 pl_145 h_145 F J al he p1 (x9 - (1 : Int32)) p2 x10 ho_1)) (cwV 4 hts gX9_broken_X9_alike rfl rfl rfl (by decide +kernel) ⟨Nat.le_of_ble_eq_true rfl, Nat.le_of_ble_eq_true rfl⟩) ⟨blindRO, va_recv hK hP (ci := 9) (q0 := 0) rfl rfl, fun U hU hW => ⟨rfl, by rw [hU]; exact hP.sub (ws' := [(qM, .inr (9, [.int (F 0), .ref q1, .ref q2, .ref q3, .int (F 4), .int (F 5), .int (F 6), .int (F 7), .int (F 8), .int (F 9), .long (J 10), .int (F 11), .int (F 12), .int (F 13), .ref q4, .int (F 15), .ref q5, .ref q6, .ref q7, .int (F 19), .ref q8, .int (F 21), .int (F 22), .int (F 23), .int (F 24), .ref q9, .ref q10, .ref q11, .long (J 28)])), (q1, .inl (g.2 0, 376, .inl al)), (q7, .inl (g.2 0, 200, .inl he))]) [0, 1, 2] rfl, hG.warm hW⟩⟩ rfl rfl hl.1 rfl (lv_room (Nat.le_of_ble_eq_true rfl)) dX9_broken_145 ⟨Nat.le_of_ble_eq_true rfl, Nat.le_of_ble_eq_true rfl⟩) (fun r_145 hr_145 => ?_)
      have hv := hv r_145 hr_145
      refine lv_istore (lv' := [(11, .int r_145), (0, .ref qM), (1, .int p1), (2, .int p2), (3, .int p3), (4, .int x4), (5, .int x5), (6, .int x6), (7, .int x7), (8, .int x8), (9, .int x9), (10, .int x10)]) hx hb dX9_broken_148 hl (by decide) rfl (fun ls hl => ?_)
      refine lv_aload_n hx hb dX9_broken_150 rfl (lv_at hl 1 rfl) ?_
      refine va_get (D := g.1) (ci := 9) (v := .ref q10) (C := RX9) (T := TX9) (N := 29) hx hb hts inX9_broken_9 hown hK hP 0 rfl rfl 26 (by decide) (hts (.fieldLink RX9 39 "RangeCodesModel" "front" "[I") (List.mem_of_getElem? (i := 2) rfl)) (fun _ h9 => h9) rfl dX9_broken_151 ?_
      refine lv_iload hx hb dX9_broken_154 (lv_at hl 11 rfl) ?_
      refine lv_dup2_11 hx hb dX9_broken_156 rfl rfl ?_
      obtain ⟨ho_2, hv⟩ := hv
      refine va_iald hx hb hK hP 4 0 rfl rfl ho_2 dX9_broken_157 ?_
      refine lv_iload hx hb dX9_broken_158 (lv_at hl 0 rfl) ?_
      refine lv_iadd hx hb dX9_broken_160 ?_
      refine lv_topi (fun a_161 ea_161 => ?_)
      have hv := hv a_161 ea_161
      obtain ⟨ho_3, hv⟩ := hv
      refine va_iast hx hb hK hP hD hS 4 0 rfl rfl ho_3 dX9_broken_161 (fun H locs hP hD hS => ?_)
      have hP : va_P g.1 vwCl [(qM, .inr (9, [.int (F 0), .ref q1, .ref q2, .ref q3, .int (F 4), .int (F 5), .int (F 6), .int (F 7), .int (F 8), .int (F 9), .long (J 10), .int (F 11), .int (F 12), .int (F 13), .ref q4, .int (F 15), .ref q5, .ref q6, .ref q7, .int (F 19), .ref q8, .int (F 21), .int (F 22), .int (F 23), .int (F 24), .ref q9, .ref q10, .ref q11, .long (J 28)])), (q1, .inl (g.2 0, 376, .inl al)), (q7, .inl (g.2 0, 200, .inl he)), (q8, .inl (g.2 0, 65, .inl ma)), (q10, .inl (g.2 0, 13, .inl (upd fr x10.toNatClampNeg a_161))), (q11, .inl (g.2 0, 13, .inl re))] H := hP
      have hD : va_D A [(qM, .inr (9, [.int (F 0), .ref q1, .ref q2, .ref q3, .int (F 4), .int (F 5), .int (F 6), .int (F 7), .int (F 8), .int (F 9), .long (J 10), .int (F 11), .int (F 12), .int (F 13), .ref q4, .int (F 15), .ref q5, .ref q6, .ref q7, .int (F 19), .ref q8, .int (F 21), .int (F 22), .int (F 23), .int (F 24), .ref q9, .ref q10, .ref q11, .long (J 28)])), (q1, .inl (g.2 0, 376, .inl al)), (q7, .inl (g.2 0, 200, .inl he)), (q8, .inl (g.2 0, 65, .inl ma)), (q10, .inl (g.2 0, 13, .inl (upd fr x10.toNatClampNeg a_161))), (q11, .inl (g.2 0, 13, .inl re))] := hD
      refine lv_aload_n hx hb dX9_broken_162 rfl (lv_at hl 1 rfl) ?_
      refine va_get (D := g.1) (ci := 9) (v := .ref q11) (C := RX9) (T := TX9) (N := 29) hx hb hts inX9_broken_9 hown hK hP 0 rfl rfl 27 (by decide) (hts (.fieldLink RX9 42 "RangeCodesModel" "rear" "[I") (List.mem_of_getElem? (i := 3) rfl)) (fun _ h9 => h9) rfl dX9_broken_163 ?_
      refine lv_iload hx hb dX9_broken_166 (lv_at hl 11 rfl) ?_
      refine lv_dup2_11 hx hb dX9_broken_168 rfl rfl ?_
      obtain ⟨ho_4, hv⟩ := hv
      refine va_iald hx hb hK hP 5 0 rfl rfl ho_4 dX9_broken_169 ?_
      refine lv_iload hx hb dX9_broken_170 (lv_at hl 0 rfl) ?_
      refine lv_isub hx hb dX9_broken_172 ?_
      refine lv_topi (fun a_173 ea_173 => ?_)
      have hv := hv a_173 ea_173
      obtain ⟨ho_5, hv⟩ := hv
      refine va_iast hx hb hK hP hD hS 5 0 rfl rfl ho_5 dX9_broken_173 (fun H locs hP hD hS => ?_)
      have hP : va_P g.1 vwCl [(qM, .inr (9, [.int (F 0), .ref q1, .ref q2, .ref q3, .int (F 4), .int (F 5), .int (F 6), .int (F 7), .int (F 8), .int (F 9), .long (J 10), .int (F 11), .int (F 12), .int (F 13), .ref q4, .int (F 15), .ref q5, .ref q6, .ref q7, .int (F 19), .ref q8, .int (F 21), .int (F 22), .int (F 23), .int (F 24), .ref q9, .ref q10, .ref q11, .long (J 28)])), (q1, .inl (g.2 0, 376, .inl al)), (q7, .inl (g.2 0, 200, .inl he)), (q8, .inl (g.2 0, 65, .inl ma)), (q10, .inl (g.2 0, 13, .inl (upd fr x10.toNatClampNeg a_161))), (q11, .inl (g.2 0, 13, .inl (upd re x10.toNatClampNeg a_173)))] H := hP
      have hD : va_D A [(qM, .inr (9, [.int (F 0), .ref q1, .ref q2, .ref q3, .int (F 4), .int (F 5), .int (F 6), .int (F 7), .int (F 8), .int (F 9), .long (J 10), .int (F 11), .int (F 12), .int (F 13), .ref q4, .int (F 15), .ref q5, .ref q6, .ref q7, .int (F 19), .ref q8, .int (F 21), .int (F 22), .int (F 23), .int (F 24), .ref q9, .ref q10, .ref q11, .long (J 28)])), (q1, .inl (g.2 0, 376, .inl al)), (q7, .inl (g.2 0, 200, .inl he)), (q8, .inl (g.2 0, 65, .inl ma)), (q10, .inl (g.2 0, 13, .inl (upd fr x10.toNatClampNeg a_161))), (q11, .inl (g.2 0, 13, .inl (upd re x10.toNatClampNeg a_173)))] := hD
      refine lv_iinc (v := (x10 + (1 : Int32))) (lv' := [(10, .int (x10 + (1 : Int32))), (11, .int r_145), (0, .ref qM), (1, .int p1), (2, .int p2), (3, .int p3), (4, .int x4), (5, .int x5), (6, .int x6), (7, .int x7), (8, .int x8), (9, .int x9)]) hx hb dX9_broken_174 hl (k := 11) rfl rfl (by decide) rfl (fun ls hl => ?_)
      refine lv_goto (tgt := 129) hx hb dX9_broken_177 (by decide) ?_
      exact ih _ _ _ _ _ _ _ _ _ _ _ _ hv _ _ (hP.sub (ws' := [(qM, .inr (9, [.int (F 0), .ref q1, .ref q2, .ref q3, .int (F 4), .int (F 5), .int (F 6), .int (F 7), .int (F 8), .int (F 9), .long (J 10), .int (F 11), .int (F 12), .int (F 13), .ref q4, .int (F 15), .ref q5, .ref q6, .ref q7, .int (F 19), .ref q8, .int (F 21), .int (F 22), .int (F 23), .int (F 24), .ref q9, .ref q10, .ref q11, .long (J 28)])), (q1, .inl (g.2 0, 376, .inl al)), (q7, .inl (g.2 0, 200, .inl he)), (q8, .inl (g.2 0, 65, .inl ma)), (q10, .inl (g.2 0, 13, .inl (upd fr x10.toNatClampNeg a_161))), (q11, .inl (g.2 0, 13, .inl (upd re x10.toNatClampNeg a_173)))]) [0, 1, 2, 3, 4, 5] rfl) (hD.sub (ws' := [(qM, .inr (9, [.int (F 0), .ref q1, .ref q2, .ref q3, .int (F 4), .int (F 5), .int (F 6), .int (F 7), .int (F 8), .int (F 9), .long (J 10), .int (F 11), .int (F 12), .int (F 13), .ref q4, .int (F 15), .ref q5, .ref q6, .ref q7, .int (F 19), .ref q8, .int (F 21), .int (F 22), .int (F 23), .int (F 24), .ref q9, .ref q10, .ref q11, .long (J 28)])), (q1, .inl (g.2 0, 376, .inl al)), (q7, .inl (g.2 0, 200, .inl he)), (q8, .inl (g.2 0, 65, .inl ma)), (q10, .inl (g.2 0, 13, .inl (upd fr x10.toNatClampNeg a_161))), (q11, .inl (g.2 0, 13, .inl (upd re x10.toNatClampNeg a_173)))]) [0, 1, 2, 3, 4, 5] (by decide) rfl) hS ls (lv_sub hl [2, 3, 4, 5, 6, 7, 8, 9, 10, 11, 0] rfl)
def vX9_broken_c115 (J : Nat → Int64) (al : Nat → Int32) (p1 : Int32) (p2 : Int32) (p3 : Int32) (Q : Int32 → (Nat → Int32) → (Nat → Int32) → (Nat → Int32) → (Nat → Int32) → (Nat → Int32) → Prop) : Nat → Int32 → Int32 → Int32 → Int32 → Int32 → Int32 → (Nat → Int32) → (Nat → Int32) → (Nat → Int32) → (Nat → Int32) → (Nat → Int32) → Prop
  | 0, _, _, _, _, _, _, _, _, _, _, _ => False
  | n + 1, x4, x5, x6, x7, x8, x9, F, he, ma, fr, re => (∃ (p_120 : Nat) (w_120 : Nat), preX9_ofLeg p_120 w_120 F J al p1 (3 : Int32) ∧ (∀ r_120 : Int32, postX9_ofLeg p_120 w_120 F J al p1 (3 : Int32) r_120 → ((r_120 ≤ x9 → ((¬ p3 = 0 → ((¬ p3 = (1 : Int32) → ((¬ p3 = (2 : Int32) → ((¬ p3 = (3 : Int32) → (∃ (T_328 : Cd) (p_328 : Nat) (m_328 : Nat → Nat → Int), preX9_matchOf T_328 p_328 m_328 F J al ma p2 ∧ (∀ r_328 : Int32, postX9_matchOf T_328 p_328 m_328 F J al ma p2 r_328 → (Q (x8 - r_328) F he ma fr re)))) ∧ (p3 = (3 : Int32) → (Q x8 F he ma fr re)))) ∧ (p3 = (2 : Int32) → (Q x7 F he ma fr re)))) ∧ (p3 = (1 : Int32) → (Q x6 F he ma fr re)))) ∧ (p3 = 0 → (Q x5 F he ma fr re)))) ∧ (¬ r_120 ≤ x9 → (∃ nn, vX9_broken_c129 J al p1 p2 p3 Q (vX9_broken_c115 J al p1 p2 p3 Q n) nn x4 x5 x6 x7 x8 x9 (0 : Int32) F he ma fr re)))))
set_option maxHeartbeats 4000000 in
set_option maxRecDepth 100000 in
theorem kX9_broken_c115 {p : Program} {l : Launch} {e : Env} {s : State} {m : MethodId} {args : Array Value} {below : List Frame} {meth : Method} {c : Code} {g : GP} {qM : Nat} {q1 : Nat} {q2 : Nat} {q3 : Nat} {q4 : Nat} {q5 : Nat} {q6 : Nat} {q7 : Nat} {q8 : Nat} {q9 : Nat} {q10 : Nat} {q11 : Nat} {J : Nat → Int64} {al : Nat → Int32} {p1 : Int32} {p2 : Int32} {p3 : Int32} {Q : Int32 → (Nat → Int32) → (Nat → Int32) → (Nat → Int32) → (Nat → Int32) → (Nat → Int32) → Prop} {A : Nat → Prop} (S : CallFix p m c cX9_broken 12 s args wsX9_broken RX9) (hr : meth.sig.returnType = (some .int)) (hlocks : meth.locks = false) (hG : GK g s) (hA : ∀ q : Nat, s.heap.size ≤ q → A q) : ∀ (n : Nat), ∀ (x4 : Int32) (x5 : Int32) (x6 : Int32) (x7 : Int32) (x8 : Int32) (x9 : Int32) (F : Nat → Int32) (he : Nat → Int32) (ma : Nat → Int32) (fr : Nat → Int32) (re : Nat → Int32), vX9_broken_c115 J al p1 p2 p3 Q n x4 x5 x6 x7 x8 x9 F he ma fr re → ∀ (H : Heap) (locs : List Loc), va_P g.1 vwCl [(qM, .inr (9, [.int (F 0), .ref q1, .ref q2, .ref q3, .int (F 4), .int (F 5), .int (F 6), .int (F 7), .int (F 8), .int (F 9), .long (J 10), .int (F 11), .int (F 12), .int (F 13), .ref q4, .int (F 15), .ref q5, .ref q6, .ref q7, .int (F 19), .ref q8, .int (F 21), .int (F 22), .int (F 23), .int (F 24), .ref q9, .ref q10, .ref q11, .long (J 28)])), (q1, .inl (g.2 0, 376, .inl al)), (q7, .inl (g.2 0, 200, .inl he)), (q8, .inl (g.2 0, 65, .inl ma)), (q10, .inl (g.2 0, 13, .inl fr)), (q11, .inl (g.2 0, 13, .inl re))] H → va_D A [(qM, .inr (9, [.int (F 0), .ref q1, .ref q2, .ref q3, .int (F 4), .int (F 5), .int (F 6), .int (F 7), .int (F 8), .int (F 9), .long (J 10), .int (F 11), .int (F 12), .int (F 13), .ref q4, .int (F 15), .ref q5, .ref q6, .ref q7, .int (F 19), .ref q8, .int (F 21), .int (F 22), .int (F 23), .int (F 24), .ref q9, .ref q10, .ref q11, .long (J 28)])), (q1, .inl (g.2 0, 376, .inl al)), (q7, .inl (g.2 0, 200, .inl he)), (q8, .inl (g.2 0, 65, .inl ma)), (q10, .inl (g.2 0, 13, .inl fr)), (q11, .inl (g.2 0, 13, .inl re))] → va_S A s.heap H locs → ∀ (ls : Array Slot), lv_has ls 12 [(0, .ref qM), (1, .int p1), (2, .int p2), (3, .int p3), (4, .int x4), (5, .int x5), (6, .int x6), (7, .int x7), (8, .int x8), (9, .int x9)] → W p l e (headSpec wsX9_broken rmX9_broken).room s m args below meth c H locs 0 0 (MQ below (va_Qi (fun (r : Int32) (u : (Nat → Int32) × (Nat → Int32) × (Nat → Int32) × (Nat → Int32) × (Nat → Int32)) => Q r u.1 u.2.1 u.2.2.1 u.2.2.2.1 u.2.2.2.2) (fun (u : (Nat → Int32) × (Nat → Int32) × (Nat → Int32) × (Nat → Int32) × (Nat → Int32)) t => va_P g.1 vwCl [(qM, .inr (9, [.int (u.1 0), .ref q1, .ref q2, .ref q3, .int (u.1 4), .int (u.1 5), .int (u.1 6), .int (u.1 7), .int (u.1 8), .int (u.1 9), .long (J 10), .int (u.1 11), .int (u.1 12), .int (u.1 13), .ref q4, .int (u.1 15), .ref q5, .ref q6, .ref q7, .int (u.1 19), .ref q8, .int (u.1 21), .int (u.1 22), .int (u.1 23), .int (u.1 24), .ref q9, .ref q10, .ref q11, .long (J 28)])), (q1, .inl (g.2 0, 376, .inl al)), (q7, .inl (g.2 0, 200, .inl u.2.1)), (q8, .inl (g.2 0, 65, .inl u.2.2.1)), (q10, .inl (g.2 0, 13, .inl u.2.2.2.1)), (q11, .inl (g.2 0, 13, .inl u.2.2.2.2))] t.heap ∧ va_D A [(qM, .inr (9, [.int (u.1 0), .ref q1, .ref q2, .ref q3, .int (u.1 4), .int (u.1 5), .int (u.1 6), .int (u.1 7), .int (u.1 8), .int (u.1 9), .long (J 10), .int (u.1 11), .int (u.1 12), .int (u.1 13), .ref q4, .int (u.1 15), .ref q5, .ref q6, .ref q7, .int (u.1 19), .ref q8, .int (u.1 21), .int (u.1 22), .int (u.1 23), .int (u.1 24), .ref q9, .ref q10, .ref q11, .long (J 28)])), (q1, .inl (g.2 0, 376, .inl al)), (q7, .inl (g.2 0, 200, .inl u.2.1)), (q8, .inl (g.2 0, 65, .inl u.2.2.1)), (q10, .inl (g.2 0, 13, .inl u.2.2.2.1)), (q11, .inl (g.2 0, 13, .inl u.2.2.2.2))]) A) args s 0 0 A) (F0 m 115 ls []) := by
  obtain ⟨hx, hb, hml, hown, hts⟩ := id S
  have hK := hG.1
  intro n
  induction n with
  | zero => intro x4 x5 x6 x7 x8 x9 F he ma fr re hv; exact hv.elim
  | succ n ih =>
    intro x4 x5 x6 x7 x8 x9 F he ma fr re hv H locs hP hD hS ls hl
    refine lv_iload hx hb dX9_broken_115 (lv_at hl 9 rfl) ?_
    refine lv_aload_n hx hb dX9_broken_117 rfl (lv_at hl 0 rfl) ?_
    refine lv_iload_n hx hb dX9_broken_118 rfl (lv_at hl 1 rfl) ?_
    refine lv_iconst (v := (3 : Int32)) hx hb dX9_broken_119 (by decide) ?_
    obtain ⟨p_120, w_120, ho_1, hv⟩ := hv
    refine vp_callSi (W.runV (As := [.int p1, .int (3 : Int32)]) (rest := [.int x9]) S (wX9_ofLeg l g qM q1 q2 q3 q4 q5 q6 q7 q8 q9 q10 q11 F J al p1 (3 : Int32) (sX9_ofLeg p_120 w_120 F J al p1 (3 : Int32) ho_1)) (cwV 2 hts gX9_broken_X9_ofLeg rfl rfl rfl (by decide +kernel) ⟨Nat.le_of_ble_eq_true rfl, Nat.le_of_ble_eq_true rfl⟩) ⟨blindRO, va_recv hK hP (ci := 9) (q0 := 0) rfl rfl, fun U hU hW => ⟨rfl, by rw [hU]; exact hP.sub (ws' := [(qM, .inr (9, [.int (F 0), .ref q1, .ref q2, .ref q3, .int (F 4), .int (F 5), .int (F 6), .int (F 7), .int (F 8), .int (F 9), .long (J 10), .int (F 11), .int (F 12), .int (F 13), .ref q4, .int (F 15), .ref q5, .ref q6, .ref q7, .int (F 19), .ref q8, .int (F 21), .int (F 22), .int (F 23), .int (F 24), .ref q9, .ref q10, .ref q11, .long (J 28)])), (q1, .inl (g.2 0, 376, .inl al))]) [0, 1] rfl, hG.warm hW⟩⟩ rfl rfl hl.1 rfl (lv_room (Nat.le_of_ble_eq_true rfl)) dX9_broken_120 ⟨Nat.le_of_ble_eq_true rfl, Nat.le_of_ble_eq_true rfl⟩) (fun r_120 hr_120 => ?_)
    have hv := hv r_120 hr_120
    obtain ⟨hvt, hvf⟩ := hv
    refine lv_icmp_ge (tgt := 285) hx hb dX9_broken_123 (by decide) (fun hc => ?_) (fun hc => ?_)
    · have hv := hvt hc
      refine lv_iload_n hx hb dX9_broken_285 rfl (lv_at hl 3 rfl) ?_
      obtain ⟨hvt, hvf⟩ := hv
      refine lv_if_ne (tgt := 294) hx hb dX9_broken_286 (by decide) (fun hc => ?_) (fun hc => ?_)
      · have hv := hvt hc
        refine lv_iload_n hx hb dX9_broken_294 rfl (lv_at hl 3 rfl) ?_
        refine lv_iconst (v := (1 : Int32)) hx hb dX9_broken_295 (by decide) ?_
        obtain ⟨hvt, hvf⟩ := hv
        refine lv_icmp_ne (tgt := 304) hx hb dX9_broken_296 (by decide) (fun hc => ?_) (fun hc => ?_)
        · have hv := hvt hc
          refine lv_iload_n hx hb dX9_broken_304 rfl (lv_at hl 3 rfl) ?_
          refine lv_iconst (v := (2 : Int32)) hx hb dX9_broken_305 (by decide) ?_
          obtain ⟨hvt, hvf⟩ := hv
          refine lv_icmp_ne (tgt := 314) hx hb dX9_broken_306 (by decide) (fun hc => ?_) (fun hc => ?_)
          · have hv := hvt hc
            refine lv_iload_n hx hb dX9_broken_314 rfl (lv_at hl 3 rfl) ?_
            refine lv_iconst (v := (3 : Int32)) hx hb dX9_broken_315 (by decide) ?_
            obtain ⟨hvt, hvf⟩ := hv
            refine lv_icmp_ne (tgt := 324) hx hb dX9_broken_316 (by decide) (fun hc => ?_) (fun hc => ?_)
            · have hv := hvt hc
              refine lv_iload hx hb dX9_broken_324 (lv_at hl 8 rfl) ?_
              refine lv_aload_n hx hb dX9_broken_326 rfl (lv_at hl 0 rfl) ?_
              refine lv_iload_n hx hb dX9_broken_327 rfl (lv_at hl 2 rfl) ?_
              obtain ⟨T_328, p_328, m_328, ho_2, hv⟩ := hv
              refine vp_callSi (W.runV (As := [.int p2]) (rest := [.int x8]) S (wX9_matchOf l g qM q1 q2 q3 q4 q5 q6 q7 q8 q9 q10 q11 F J al ma p2 (sX9_matchOf T_328 p_328 m_328 F J al ma p2 ho_2)) (cwV 1 hts gX9_broken_X9_matchOf rfl rfl rfl (by decide +kernel) ⟨Nat.le_of_ble_eq_true rfl, Nat.le_of_ble_eq_true rfl⟩) ⟨blindRO, va_recv hK hP (ci := 9) (q0 := 0) rfl rfl, fun U hU hW => ⟨rfl, by rw [hU]; exact hP.sub (ws' := [(qM, .inr (9, [.int (F 0), .ref q1, .ref q2, .ref q3, .int (F 4), .int (F 5), .int (F 6), .int (F 7), .int (F 8), .int (F 9), .long (J 10), .int (F 11), .int (F 12), .int (F 13), .ref q4, .int (F 15), .ref q5, .ref q6, .ref q7, .int (F 19), .ref q8, .int (F 21), .int (F 22), .int (F 23), .int (F 24), .ref q9, .ref q10, .ref q11, .long (J 28)])), (q1, .inl (g.2 0, 376, .inl al)), (q8, .inl (g.2 0, 65, .inl ma))]) [0, 1, 3] rfl, hG.warm hW⟩⟩ rfl rfl hl.1 rfl (lv_room (Nat.le_of_ble_eq_true rfl)) dX9_broken_328 ⟨Nat.le_of_ble_eq_true rfl, Nat.le_of_ble_eq_true rfl⟩) (fun r_328 hr_328 => ?_)
              have hv := hv r_328 hr_328
              refine lv_isub hx hb dX9_broken_331 ?_
              have hP9 := hP.sub (ws' := [(qM, .inr (9, [.int (F 0), .ref q1, .ref q2, .ref q3, .int (F 4), .int (F 5), .int (F 6), .int (F 7), .int (F 8), .int (F 9), .long (J 10), .int (F 11), .int (F 12), .int (F 13), .ref q4, .int (F 15), .ref q5, .ref q6, .ref q7, .int (F 19), .ref q8, .int (F 21), .int (F 22), .int (F 23), .int (F 24), .ref q9, .ref q10, .ref q11, .long (J 28)])), (q1, .inl (g.2 0, 376, .inl al)), (q7, .inl (g.2 0, 200, .inl he)), (q8, .inl (g.2 0, 65, .inl ma)), (q10, .inl (g.2 0, 13, .inl fr)), (q11, .inl (g.2 0, 13, .inl re))]) [0, 1, 2, 3, 4, 5] rfl
              have hD9 := hD.sub (ws' := [(qM, .inr (9, [.int (F 0), .ref q1, .ref q2, .ref q3, .int (F 4), .int (F 5), .int (F 6), .int (F 7), .int (F 8), .int (F 9), .long (J 10), .int (F 11), .int (F 12), .int (F 13), .ref q4, .int (F 15), .ref q5, .ref q6, .ref q7, .int (F 19), .ref q8, .int (F 21), .int (F 22), .int (F 23), .int (F 24), .ref q9, .ref q10, .ref q11, .long (J 28)])), (q1, .inl (g.2 0, 376, .inl al)), (q7, .inl (g.2 0, 200, .inl he)), (q8, .inl (g.2 0, 65, .inl ma)), (q10, .inl (g.2 0, 13, .inl fr)), (q11, .inl (g.2 0, 13, .inl re))]) [0, 1, 2, 3, 4, 5] (by decide) rfl
              exact W.iret (v := (x8 - r_328)) hx hb hr (fun t ht hW => ⟨⟨_, (F, he, ma, fr, re), rfl, hv, by rw [ht]; exact hP9, hD9⟩, hS.F ht⟩) hS.2.2 dX9_broken_332
            · have hv := hvf hc
              refine lv_iload hx hb dX9_broken_319 (lv_at hl 8 rfl) ?_
              refine lv_goto (tgt := 332) hx hb dX9_broken_321 (by decide) ?_
              have hP9 := hP.sub (ws' := [(qM, .inr (9, [.int (F 0), .ref q1, .ref q2, .ref q3, .int (F 4), .int (F 5), .int (F 6), .int (F 7), .int (F 8), .int (F 9), .long (J 10), .int (F 11), .int (F 12), .int (F 13), .ref q4, .int (F 15), .ref q5, .ref q6, .ref q7, .int (F 19), .ref q8, .int (F 21), .int (F 22), .int (F 23), .int (F 24), .ref q9, .ref q10, .ref q11, .long (J 28)])), (q1, .inl (g.2 0, 376, .inl al)), (q7, .inl (g.2 0, 200, .inl he)), (q8, .inl (g.2 0, 65, .inl ma)), (q10, .inl (g.2 0, 13, .inl fr)), (q11, .inl (g.2 0, 13, .inl re))]) [0, 1, 2, 3, 4, 5] rfl
              have hD9 := hD.sub (ws' := [(qM, .inr (9, [.int (F 0), .ref q1, .ref q2, .ref q3, .int (F 4), .int (F 5), .int (F 6), .int (F 7), .int (F 8), .int (F 9), .long (J 10), .int (F 11), .int (F 12), .int (F 13), .ref q4, .int (F 15), .ref q5, .ref q6, .ref q7, .int (F 19), .ref q8, .int (F 21), .int (F 22), .int (F 23), .int (F 24), .ref q9, .ref q10, .ref q11, .long (J 28)])), (q1, .inl (g.2 0, 376, .inl al)), (q7, .inl (g.2 0, 200, .inl he)), (q8, .inl (g.2 0, 65, .inl ma)), (q10, .inl (g.2 0, 13, .inl fr)), (q11, .inl (g.2 0, 13, .inl re))]) [0, 1, 2, 3, 4, 5] (by decide) rfl
              exact W.iret (v := x8) hx hb hr (fun t ht hW => ⟨⟨_, (F, he, ma, fr, re), rfl, hv, by rw [ht]; exact hP9, hD9⟩, hS.F ht⟩) hS.2.2 dX9_broken_332
          · have hv := hvf hc
            refine lv_iload hx hb dX9_broken_309 (lv_at hl 7 rfl) ?_
            refine lv_goto (tgt := 332) hx hb dX9_broken_311 (by decide) ?_
            have hP9 := hP.sub (ws' := [(qM, .inr (9, [.int (F 0), .ref q1, .ref q2, .ref q3, .int (F 4), .int (F 5), .int (F 6), .int (F 7), .int (F 8), .int (F 9), .long (J 10), .int (F 11), .int (F 12), .int (F 13), .ref q4, .int (F 15), .ref q5, .ref q6, .ref q7, .int (F 19), .ref q8, .int (F 21), .int (F 22), .int (F 23), .int (F 24), .ref q9, .ref q10, .ref q11, .long (J 28)])), (q1, .inl (g.2 0, 376, .inl al)), (q7, .inl (g.2 0, 200, .inl he)), (q8, .inl (g.2 0, 65, .inl ma)), (q10, .inl (g.2 0, 13, .inl fr)), (q11, .inl (g.2 0, 13, .inl re))]) [0, 1, 2, 3, 4, 5] rfl
            have hD9 := hD.sub (ws' := [(qM, .inr (9, [.int (F 0), .ref q1, .ref q2, .ref q3, .int (F 4), .int (F 5), .int (F 6), .int (F 7), .int (F 8), .int (F 9), .long (J 10), .int (F 11), .int (F 12), .int (F 13), .ref q4, .int (F 15), .ref q5, .ref q6, .ref q7, .int (F 19), .ref q8, .int (F 21), .int (F 22), .int (F 23), .int (F 24), .ref q9, .ref q10, .ref q11, .long (J 28)])), (q1, .inl (g.2 0, 376, .inl al)), (q7, .inl (g.2 0, 200, .inl he)), (q8, .inl (g.2 0, 65, .inl ma)), (q10, .inl (g.2 0, 13, .inl fr)), (q11, .inl (g.2 0, 13, .inl re))]) [0, 1, 2, 3, 4, 5] (by decide) rfl
            exact W.iret (v := x7) hx hb hr (fun t ht hW => ⟨⟨_, (F, he, ma, fr, re), rfl, hv, by rw [ht]; exact hP9, hD9⟩, hS.F ht⟩) hS.2.2 dX9_broken_332
        · have hv := hvf hc
          refine lv_iload hx hb dX9_broken_299 (lv_at hl 6 rfl) ?_
          refine lv_goto (tgt := 332) hx hb dX9_broken_301 (by decide) ?_
          have hP9 := hP.sub (ws' := [(qM, .inr (9, [.int (F 0), .ref q1, .ref q2, .ref q3, .int (F 4), .int (F 5), .int (F 6), .int (F 7), .int (F 8), .int (F 9), .long (J 10), .int (F 11), .int (F 12), .int (F 13), .ref q4, .int (F 15), .ref q5, .ref q6, .ref q7, .int (F 19), .ref q8, .int (F 21), .int (F 22), .int (F 23), .int (F 24), .ref q9, .ref q10, .ref q11, .long (J 28)])), (q1, .inl (g.2 0, 376, .inl al)), (q7, .inl (g.2 0, 200, .inl he)), (q8, .inl (g.2 0, 65, .inl ma)), (q10, .inl (g.2 0, 13, .inl fr)), (q11, .inl (g.2 0, 13, .inl re))]) [0, 1, 2, 3, 4, 5] rfl
          have hD9 := hD.sub (ws' := [(qM, .inr (9, [.int (F 0), .ref q1, .ref q2, .ref q3, .int (F 4), .int (F 5), .int (F 6), .int (F 7), .int (F 8), .int (F 9), .long (J 10), .int (F 11), .int (F 12), .int (F 13), .ref q4, .int (F 15), .ref q5, .ref q6, .ref q7, .int (F 19), .ref q8, .int (F 21), .int (F 22), .int (F 23), .int (F 24), .ref q9, .ref q10, .ref q11, .long (J 28)])), (q1, .inl (g.2 0, 376, .inl al)), (q7, .inl (g.2 0, 200, .inl he)), (q8, .inl (g.2 0, 65, .inl ma)), (q10, .inl (g.2 0, 13, .inl fr)), (q11, .inl (g.2 0, 13, .inl re))]) [0, 1, 2, 3, 4, 5] (by decide) rfl
          exact W.iret (v := x6) hx hb hr (fun t ht hW => ⟨⟨_, (F, he, ma, fr, re), rfl, hv, by rw [ht]; exact hP9, hD9⟩, hS.F ht⟩) hS.2.2 dX9_broken_332
      · have hv := hvf hc
        refine lv_iload hx hb dX9_broken_289 (lv_at hl 5 rfl) ?_
        refine lv_goto (tgt := 332) hx hb dX9_broken_291 (by decide) ?_
        have hP9 := hP.sub (ws' := [(qM, .inr (9, [.int (F 0), .ref q1, .ref q2, .ref q3, .int (F 4), .int (F 5), .int (F 6), .int (F 7), .int (F 8), .int (F 9), .long (J 10), .int (F 11), .int (F 12), .int (F 13), .ref q4, .int (F 15), .ref q5, .ref q6, .ref q7, .int (F 19), .ref q8, .int (F 21), .int (F 22), .int (F 23), .int (F 24), .ref q9, .ref q10, .ref q11, .long (J 28)])), (q1, .inl (g.2 0, 376, .inl al)), (q7, .inl (g.2 0, 200, .inl he)), (q8, .inl (g.2 0, 65, .inl ma)), (q10, .inl (g.2 0, 13, .inl fr)), (q11, .inl (g.2 0, 13, .inl re))]) [0, 1, 2, 3, 4, 5] rfl
        have hD9 := hD.sub (ws' := [(qM, .inr (9, [.int (F 0), .ref q1, .ref q2, .ref q3, .int (F 4), .int (F 5), .int (F 6), .int (F 7), .int (F 8), .int (F 9), .long (J 10), .int (F 11), .int (F 12), .int (F 13), .ref q4, .int (F 15), .ref q5, .ref q6, .ref q7, .int (F 19), .ref q8, .int (F 21), .int (F 22), .int (F 23), .int (F 24), .ref q9, .ref q10, .ref q11, .long (J 28)])), (q1, .inl (g.2 0, 376, .inl al)), (q7, .inl (g.2 0, 200, .inl he)), (q8, .inl (g.2 0, 65, .inl ma)), (q10, .inl (g.2 0, 13, .inl fr)), (q11, .inl (g.2 0, 13, .inl re))]) [0, 1, 2, 3, 4, 5] (by decide) rfl
        exact W.iret (v := x5) hx hb hr (fun t ht hW => ⟨⟨_, (F, he, ma, fr, re), rfl, hv, by rw [ht]; exact hP9, hD9⟩, hS.F ht⟩) hS.2.2 dX9_broken_332
    · have hv := hvf hc
      refine lv_iconst (v := (0 : Int32)) hx hb dX9_broken_126 (by decide) ?_
      refine lv_istore (lv' := [(10, .int (0 : Int32)), (0, .ref qM), (1, .int p1), (2, .int p2), (3, .int p3), (4, .int x4), (5, .int x5), (6, .int x6), (7, .int x7), (8, .int x8), (9, .int x9)]) hx hb dX9_broken_127 hl (by decide) rfl (fun ls hl => ?_)
      obtain ⟨nn, hv⟩ := hv
      exact kX9_broken_c129 S hr hlocks hG hA ih nn _ _ _ _ _ _ _ _ _ _ _ _ hv _ _ (hP.sub (ws' := [(qM, .inr (9, [.int (F 0), .ref q1, .ref q2, .ref q3, .int (F 4), .int (F 5), .int (F 6), .int (F 7), .int (F 8), .int (F 9), .long (J 10), .int (F 11), .int (F 12), .int (F 13), .ref q4, .int (F 15), .ref q5, .ref q6, .ref q7, .int (F 19), .ref q8, .int (F 21), .int (F 22), .int (F 23), .int (F 24), .ref q9, .ref q10, .ref q11, .long (J 28)])), (q1, .inl (g.2 0, 376, .inl al)), (q7, .inl (g.2 0, 200, .inl he)), (q8, .inl (g.2 0, 65, .inl ma)), (q10, .inl (g.2 0, 13, .inl fr)), (q11, .inl (g.2 0, 13, .inl re))]) [0, 1, 2, 3, 4, 5] rfl) (hD.sub (ws' := [(qM, .inr (9, [.int (F 0), .ref q1, .ref q2, .ref q3, .int (F 4), .int (F 5), .int (F 6), .int (F 7), .int (F 8), .int (F 9), .long (J 10), .int (F 11), .int (F 12), .int (F 13), .ref q4, .int (F 15), .ref q5, .ref q6, .ref q7, .int (F 19), .ref q8, .int (F 21), .int (F 22), .int (F 23), .int (F 24), .ref q9, .ref q10, .ref q11, .long (J 28)])), (q1, .inl (g.2 0, 376, .inl al)), (q7, .inl (g.2 0, 200, .inl he)), (q8, .inl (g.2 0, 65, .inl ma)), (q10, .inl (g.2 0, 13, .inl fr)), (q11, .inl (g.2 0, 13, .inl re))]) [0, 1, 2, 3, 4, 5] (by decide) rfl) hS ls (lv_sub hl [1, 2, 3, 4, 5, 6, 7, 8, 9, 10, 0] rfl)
def vX9_broken_c59 (J : Nat → Int64) (al : Nat → Int32) (p1 : Int32) (p2 : Int32) (p3 : Int32) (Q : Int32 → (Nat → Int32) → (Nat → Int32) → (Nat → Int32) → (Nat → Int32) → (Nat → Int32) → Prop) : Nat → Int32 → Int32 → (Nat → Int32) → (Nat → Int32) → (Nat → Int32) → (Nat → Int32) → (Nat → Int32) → Prop
  | 0, _, _, _, _, _, _, _ => False
  | n + 1, x4, x5, F, he, ma, fr, re => ((x4 ≤ x5 → (∃ nn, vX9_broken_c115 J al p1 p2 p3 Q nn x4 (-1 : Int32) (0 : Int32) (0 : Int32) (-1000000 : Int32) (1 : Int32) F he ma fr re)) ∧ (¬ x4 ≤ x5 → (vp_in x5 13 ∧ (vp_in (((13 : Int32) * p2) + x5) 65 ∧ (∀ a_92 : Int32, a_92 = (ma (((13 : Int32) * p2) + x5).toNatClampNeg) → (vp_in x5 13 ∧ (vX9_broken_c59 J al p1 p2 p3 Q n x4 (x5 + (1 : Int32)) F he ma (upd fr x5.toNatClampNeg (0 : Int32)) (upd re x5.toNatClampNeg a_92))))))))
set_option maxHeartbeats 4000000 in
set_option maxRecDepth 100000 in
theorem kX9_broken_c59 {p : Program} {l : Launch} {e : Env} {s : State} {m : MethodId} {args : Array Value} {below : List Frame} {meth : Method} {c : Code} {g : GP} {qM : Nat} {q1 : Nat} {q2 : Nat} {q3 : Nat} {q4 : Nat} {q5 : Nat} {q6 : Nat} {q7 : Nat} {q8 : Nat} {q9 : Nat} {q10 : Nat} {q11 : Nat} {J : Nat → Int64} {al : Nat → Int32} {p1 : Int32} {p2 : Int32} {p3 : Int32} {Q : Int32 → (Nat → Int32) → (Nat → Int32) → (Nat → Int32) → (Nat → Int32) → (Nat → Int32) → Prop} {A : Nat → Prop} (S : CallFix p m c cX9_broken 12 s args wsX9_broken RX9) (hr : meth.sig.returnType = (some .int)) (hlocks : meth.locks = false) (hG : GK g s) (hA : ∀ q : Nat, s.heap.size ≤ q → A q) : ∀ (n : Nat), ∀ (x4 : Int32) (x5 : Int32) (F : Nat → Int32) (he : Nat → Int32) (ma : Nat → Int32) (fr : Nat → Int32) (re : Nat → Int32), vX9_broken_c59 J al p1 p2 p3 Q n x4 x5 F he ma fr re → ∀ (H : Heap) (locs : List Loc), va_P g.1 vwCl [(qM, .inr (9, [.int (F 0), .ref q1, .ref q2, .ref q3, .int (F 4), .int (F 5), .int (F 6), .int (F 7), .int (F 8), .int (F 9), .long (J 10), .int (F 11), .int (F 12), .int (F 13), .ref q4, .int (F 15), .ref q5, .ref q6, .ref q7, .int (F 19), .ref q8, .int (F 21), .int (F 22), .int (F 23), .int (F 24), .ref q9, .ref q10, .ref q11, .long (J 28)])), (q1, .inl (g.2 0, 376, .inl al)), (q7, .inl (g.2 0, 200, .inl he)), (q8, .inl (g.2 0, 65, .inl ma)), (q10, .inl (g.2 0, 13, .inl fr)), (q11, .inl (g.2 0, 13, .inl re))] H → va_D A [(qM, .inr (9, [.int (F 0), .ref q1, .ref q2, .ref q3, .int (F 4), .int (F 5), .int (F 6), .int (F 7), .int (F 8), .int (F 9), .long (J 10), .int (F 11), .int (F 12), .int (F 13), .ref q4, .int (F 15), .ref q5, .ref q6, .ref q7, .int (F 19), .ref q8, .int (F 21), .int (F 22), .int (F 23), .int (F 24), .ref q9, .ref q10, .ref q11, .long (J 28)])), (q1, .inl (g.2 0, 376, .inl al)), (q7, .inl (g.2 0, 200, .inl he)), (q8, .inl (g.2 0, 65, .inl ma)), (q10, .inl (g.2 0, 13, .inl fr)), (q11, .inl (g.2 0, 13, .inl re))] → va_S A s.heap H locs → ∀ (ls : Array Slot), lv_has ls 12 [(0, .ref qM), (1, .int p1), (2, .int p2), (3, .int p3), (4, .int x4), (5, .int x5)] → W p l e (headSpec wsX9_broken rmX9_broken).room s m args below meth c H locs 0 0 (MQ below (va_Qi (fun (r : Int32) (u : (Nat → Int32) × (Nat → Int32) × (Nat → Int32) × (Nat → Int32) × (Nat → Int32)) => Q r u.1 u.2.1 u.2.2.1 u.2.2.2.1 u.2.2.2.2) (fun (u : (Nat → Int32) × (Nat → Int32) × (Nat → Int32) × (Nat → Int32) × (Nat → Int32)) t => va_P g.1 vwCl [(qM, .inr (9, [.int (u.1 0), .ref q1, .ref q2, .ref q3, .int (u.1 4), .int (u.1 5), .int (u.1 6), .int (u.1 7), .int (u.1 8), .int (u.1 9), .long (J 10), .int (u.1 11), .int (u.1 12), .int (u.1 13), .ref q4, .int (u.1 15), .ref q5, .ref q6, .ref q7, .int (u.1 19), .ref q8, .int (u.1 21), .int (u.1 22), .int (u.1 23), .int (u.1 24), .ref q9, .ref q10, .ref q11, .long (J 28)])), (q1, .inl (g.2 0, 376, .inl al)), (q7, .inl (g.2 0, 200, .inl u.2.1)), (q8, .inl (g.2 0, 65, .inl u.2.2.1)), (q10, .inl (g.2 0, 13, .inl u.2.2.2.1)), (q11, .inl (g.2 0, 13, .inl u.2.2.2.2))] t.heap ∧ va_D A [(qM, .inr (9, [.int (u.1 0), .ref q1, .ref q2, .ref q3, .int (u.1 4), .int (u.1 5), .int (u.1 6), .int (u.1 7), .int (u.1 8), .int (u.1 9), .long (J 10), .int (u.1 11), .int (u.1 12), .int (u.1 13), .ref q4, .int (u.1 15), .ref q5, .ref q6, .ref q7, .int (u.1 19), .ref q8, .int (u.1 21), .int (u.1 22), .int (u.1 23), .int (u.1 24), .ref q9, .ref q10, .ref q11, .long (J 28)])), (q1, .inl (g.2 0, 376, .inl al)), (q7, .inl (g.2 0, 200, .inl u.2.1)), (q8, .inl (g.2 0, 65, .inl u.2.2.1)), (q10, .inl (g.2 0, 13, .inl u.2.2.2.1)), (q11, .inl (g.2 0, 13, .inl u.2.2.2.2))]) A) args s 0 0 A) (F0 m 59 ls []) := by
  obtain ⟨hx, hb, hml, hown, hts⟩ := id S
  have hK := hG.1
  intro n
  induction n with
  | zero => intro x4 x5 F he ma fr re hv; exact hv.elim
  | succ n ih =>
    intro x4 x5 F he ma fr re hv H locs hP hD hS ls hl
    refine lv_iload hx hb dX9_broken_59 (lv_at hl 5 rfl) ?_
    refine lv_iload hx hb dX9_broken_61 (lv_at hl 4 rfl) ?_
    obtain ⟨hvt, hvf⟩ := hv
    refine lv_icmp_ge (tgt := 99) hx hb dX9_broken_63 (by decide) (fun hc => ?_) (fun hc => ?_)
    · have hv := hvt hc
      refine lv_iconst (v := (-1 : Int32)) hx hb dX9_broken_99 (by decide) ?_
      refine lv_istore (lv' := [(5, .int (-1 : Int32)), (0, .ref qM), (1, .int p1), (2, .int p2), (3, .int p3), (4, .int x4)]) hx hb dX9_broken_100 hl (by decide) rfl (fun ls hl => ?_)
      refine lv_iconst (v := (0 : Int32)) hx hb dX9_broken_102 (by decide) ?_
      refine lv_istore (lv' := [(6, .int (0 : Int32)), (5, .int (-1 : Int32)), (0, .ref qM), (1, .int p1), (2, .int p2), (3, .int p3), (4, .int x4)]) hx hb dX9_broken_103 hl (by decide) rfl (fun ls hl => ?_)
      refine lv_iconst (v := (0 : Int32)) hx hb dX9_broken_105 (by decide) ?_
      refine lv_istore (lv' := [(7, .int (0 : Int32)), (6, .int (0 : Int32)), (5, .int (-1 : Int32)), (0, .ref qM), (1, .int p1), (2, .int p2), (3, .int p3), (4, .int x4)]) hx hb dX9_broken_106 hl (by decide) rfl (fun ls hl => ?_)
      refine lv_ldc (v := (-1000000 : Int32)) hx hb hown (hts (.constant RX9 222 (-1000000)) (List.mem_of_getElem? (i := 5) rfl)) dX9_broken_108 ?_
      refine lv_istore (lv' := [(8, .int (-1000000 : Int32)), (7, .int (0 : Int32)), (6, .int (0 : Int32)), (5, .int (-1 : Int32)), (0, .ref qM), (1, .int p1), (2, .int p2), (3, .int p3), (4, .int x4)]) hx hb dX9_broken_110 hl (by decide) rfl (fun ls hl => ?_)
      refine lv_iconst (v := (1 : Int32)) hx hb dX9_broken_112 (by decide) ?_
      refine lv_istore (lv' := [(9, .int (1 : Int32)), (8, .int (-1000000 : Int32)), (7, .int (0 : Int32)), (6, .int (0 : Int32)), (5, .int (-1 : Int32)), (0, .ref qM), (1, .int p1), (2, .int p2), (3, .int p3), (4, .int x4)]) hx hb dX9_broken_113 hl (by decide) rfl (fun ls hl => ?_)
      obtain ⟨nn, hv⟩ := hv
      exact kX9_broken_c115 S hr hlocks hG hA nn _ _ _ _ _ _ _ _ _ _ _ hv _ _ (hP.sub (ws' := [(qM, .inr (9, [.int (F 0), .ref q1, .ref q2, .ref q3, .int (F 4), .int (F 5), .int (F 6), .int (F 7), .int (F 8), .int (F 9), .long (J 10), .int (F 11), .int (F 12), .int (F 13), .ref q4, .int (F 15), .ref q5, .ref q6, .ref q7, .int (F 19), .ref q8, .int (F 21), .int (F 22), .int (F 23), .int (F 24), .ref q9, .ref q10, .ref q11, .long (J 28)])), (q1, .inl (g.2 0, 376, .inl al)), (q7, .inl (g.2 0, 200, .inl he)), (q8, .inl (g.2 0, 65, .inl ma)), (q10, .inl (g.2 0, 13, .inl fr)), (q11, .inl (g.2 0, 13, .inl re))]) [0, 1, 2, 3, 4, 5] rfl) (hD.sub (ws' := [(qM, .inr (9, [.int (F 0), .ref q1, .ref q2, .ref q3, .int (F 4), .int (F 5), .int (F 6), .int (F 7), .int (F 8), .int (F 9), .long (J 10), .int (F 11), .int (F 12), .int (F 13), .ref q4, .int (F 15), .ref q5, .ref q6, .ref q7, .int (F 19), .ref q8, .int (F 21), .int (F 22), .int (F 23), .int (F 24), .ref q9, .ref q10, .ref q11, .long (J 28)])), (q1, .inl (g.2 0, 376, .inl al)), (q7, .inl (g.2 0, 200, .inl he)), (q8, .inl (g.2 0, 65, .inl ma)), (q10, .inl (g.2 0, 13, .inl fr)), (q11, .inl (g.2 0, 13, .inl re))]) [0, 1, 2, 3, 4, 5] (by decide) rfl) hS ls (lv_sub hl [5, 6, 7, 8, 9, 4, 3, 2, 1, 0] rfl)
    · have hv := hvf hc
      refine lv_aload_n hx hb dX9_broken_66 rfl (lv_at hl 0 rfl) ?_
      refine va_get (D := g.1) (ci := 9) (v := .ref q10) (C := RX9) (T := TX9) (N := 29) hx hb hts inX9_broken_9 hown hK hP 0 rfl rfl 26 (by decide) (hts (.fieldLink RX9 39 "RangeCodesModel" "front" "[I") (List.mem_of_getElem? (i := 2) rfl)) (fun _ h9 => h9) rfl dX9_broken_67 ?_
      refine lv_iload hx hb dX9_broken_70 (lv_at hl 5 rfl) ?_
      refine lv_iconst (v := (0 : Int32)) hx hb dX9_broken_72 (by decide) ?_
      obtain ⟨ho_1, hv⟩ := hv
      refine va_iast hx hb hK hP hD hS 4 0 rfl rfl ho_1 dX9_broken_73 (fun H locs hP hD hS => ?_)
      have hP : va_P g.1 vwCl [(qM, .inr (9, [.int (F 0), .ref q1, .ref q2, .ref q3, .int (F 4), .int (F 5), .int (F 6), .int (F 7), .int (F 8), .int (F 9), .long (J 10), .int (F 11), .int (F 12), .int (F 13), .ref q4, .int (F 15), .ref q5, .ref q6, .ref q7, .int (F 19), .ref q8, .int (F 21), .int (F 22), .int (F 23), .int (F 24), .ref q9, .ref q10, .ref q11, .long (J 28)])), (q1, .inl (g.2 0, 376, .inl al)), (q7, .inl (g.2 0, 200, .inl he)), (q8, .inl (g.2 0, 65, .inl ma)), (q10, .inl (g.2 0, 13, .inl (upd fr x5.toNatClampNeg (0 : Int32)))), (q11, .inl (g.2 0, 13, .inl re))] H := hP
      have hD : va_D A [(qM, .inr (9, [.int (F 0), .ref q1, .ref q2, .ref q3, .int (F 4), .int (F 5), .int (F 6), .int (F 7), .int (F 8), .int (F 9), .long (J 10), .int (F 11), .int (F 12), .int (F 13), .ref q4, .int (F 15), .ref q5, .ref q6, .ref q7, .int (F 19), .ref q8, .int (F 21), .int (F 22), .int (F 23), .int (F 24), .ref q9, .ref q10, .ref q11, .long (J 28)])), (q1, .inl (g.2 0, 376, .inl al)), (q7, .inl (g.2 0, 200, .inl he)), (q8, .inl (g.2 0, 65, .inl ma)), (q10, .inl (g.2 0, 13, .inl (upd fr x5.toNatClampNeg (0 : Int32)))), (q11, .inl (g.2 0, 13, .inl re))] := hD
      refine lv_aload_n hx hb dX9_broken_74 rfl (lv_at hl 0 rfl) ?_
      refine va_get (D := g.1) (ci := 9) (v := .ref q11) (C := RX9) (T := TX9) (N := 29) hx hb hts inX9_broken_9 hown hK hP 0 rfl rfl 27 (by decide) (hts (.fieldLink RX9 42 "RangeCodesModel" "rear" "[I") (List.mem_of_getElem? (i := 3) rfl)) (fun _ h9 => h9) rfl dX9_broken_75 ?_
      refine lv_iload hx hb dX9_broken_78 (lv_at hl 5 rfl) ?_
      refine lv_aload_n hx hb dX9_broken_80 rfl (lv_at hl 0 rfl) ?_
      refine va_get (D := g.1) (ci := 9) (v := .ref q8) (C := RX9) (T := TX9) (N := 29) hx hb hts inX9_broken_9 hown hK hP 0 rfl rfl 20 (by decide) (hts (.fieldLink RX9 33 "RangeCodesModel" "matches" "[I") (List.mem_of_getElem? (i := 4) rfl)) (fun _ h9 => h9) rfl dX9_broken_81 ?_
      refine lv_bipush (v := (13 : Int32)) hx hb dX9_broken_84 (by decide) ?_
      refine lv_iload_n hx hb dX9_broken_86 rfl (lv_at hl 2 rfl) ?_
      refine lv_imul hx hb dX9_broken_87 ?_
      refine lv_iload hx hb dX9_broken_88 (lv_at hl 5 rfl) ?_
      refine lv_iadd hx hb dX9_broken_90 ?_
      obtain ⟨ho_2, hv⟩ := hv
      refine va_iald hx hb hK hP 3 0 rfl rfl ho_2 dX9_broken_91 ?_
      refine lv_topi (fun a_92 ea_92 => ?_)
      have hv := hv a_92 ea_92
      obtain ⟨ho_3, hv⟩ := hv
      refine va_iast hx hb hK hP hD hS 5 0 rfl rfl ho_3 dX9_broken_92 (fun H locs hP hD hS => ?_)
      have hP : va_P g.1 vwCl [(qM, .inr (9, [.int (F 0), .ref q1, .ref q2, .ref q3, .int (F 4), .int (F 5), .int (F 6), .int (F 7), .int (F 8), .int (F 9), .long (J 10), .int (F 11), .int (F 12), .int (F 13), .ref q4, .int (F 15), .ref q5, .ref q6, .ref q7, .int (F 19), .ref q8, .int (F 21), .int (F 22), .int (F 23), .int (F 24), .ref q9, .ref q10, .ref q11, .long (J 28)])), (q1, .inl (g.2 0, 376, .inl al)), (q7, .inl (g.2 0, 200, .inl he)), (q8, .inl (g.2 0, 65, .inl ma)), (q10, .inl (g.2 0, 13, .inl (upd fr x5.toNatClampNeg (0 : Int32)))), (q11, .inl (g.2 0, 13, .inl (upd re x5.toNatClampNeg a_92)))] H := hP
      have hD : va_D A [(qM, .inr (9, [.int (F 0), .ref q1, .ref q2, .ref q3, .int (F 4), .int (F 5), .int (F 6), .int (F 7), .int (F 8), .int (F 9), .long (J 10), .int (F 11), .int (F 12), .int (F 13), .ref q4, .int (F 15), .ref q5, .ref q6, .ref q7, .int (F 19), .ref q8, .int (F 21), .int (F 22), .int (F 23), .int (F 24), .ref q9, .ref q10, .ref q11, .long (J 28)])), (q1, .inl (g.2 0, 376, .inl al)), (q7, .inl (g.2 0, 200, .inl he)), (q8, .inl (g.2 0, 65, .inl ma)), (q10, .inl (g.2 0, 13, .inl (upd fr x5.toNatClampNeg (0 : Int32)))), (q11, .inl (g.2 0, 13, .inl (upd re x5.toNatClampNeg a_92)))] := hD
      refine lv_iinc (v := (x5 + (1 : Int32))) (lv' := [(5, .int (x5 + (1 : Int32))), (0, .ref qM), (1, .int p1), (2, .int p2), (3, .int p3), (4, .int x4)]) hx hb dX9_broken_93 hl (k := 5) rfl rfl (by decide) rfl (fun ls hl => ?_)
      refine lv_goto (tgt := 59) hx hb dX9_broken_96 (by decide) ?_
      exact ih _ _ _ _ _ _ _ hv _ _ (hP.sub (ws' := [(qM, .inr (9, [.int (F 0), .ref q1, .ref q2, .ref q3, .int (F 4), .int (F 5), .int (F 6), .int (F 7), .int (F 8), .int (F 9), .long (J 10), .int (F 11), .int (F 12), .int (F 13), .ref q4, .int (F 15), .ref q5, .ref q6, .ref q7, .int (F 19), .ref q8, .int (F 21), .int (F 22), .int (F 23), .int (F 24), .ref q9, .ref q10, .ref q11, .long (J 28)])), (q1, .inl (g.2 0, 376, .inl al)), (q7, .inl (g.2 0, 200, .inl he)), (q8, .inl (g.2 0, 65, .inl ma)), (q10, .inl (g.2 0, 13, .inl (upd fr x5.toNatClampNeg (0 : Int32)))), (q11, .inl (g.2 0, 13, .inl (upd re x5.toNatClampNeg a_92)))]) [0, 1, 2, 3, 4, 5] rfl) (hD.sub (ws' := [(qM, .inr (9, [.int (F 0), .ref q1, .ref q2, .ref q3, .int (F 4), .int (F 5), .int (F 6), .int (F 7), .int (F 8), .int (F 9), .long (J 10), .int (F 11), .int (F 12), .int (F 13), .ref q4, .int (F 15), .ref q5, .ref q6, .ref q7, .int (F 19), .ref q8, .int (F 21), .int (F 22), .int (F 23), .int (F 24), .ref q9, .ref q10, .ref q11, .long (J 28)])), (q1, .inl (g.2 0, 376, .inl al)), (q7, .inl (g.2 0, 200, .inl he)), (q8, .inl (g.2 0, 65, .inl ma)), (q10, .inl (g.2 0, 13, .inl (upd fr x5.toNatClampNeg (0 : Int32)))), (q11, .inl (g.2 0, 13, .inl (upd re x5.toNatClampNeg a_92)))]) [0, 1, 2, 3, 4, 5] (by decide) rfl) hS ls (lv_sub hl [1, 2, 3, 4, 5, 0] rfl)
def vX9_broken (F : Nat → Int32) (J : Nat → Int64) (al : Nat → Int32) (he : Nat → Int32) (ma : Nat → Int32) (fr : Nat → Int32) (re : Nat → Int32) (p1 : Int32) (p2 : Int32) (p3 : Int32) (Q : Int32 → (Nat → Int32) → (Nat → Int32) → (Nat → Int32) → (Nat → Int32) → (Nat → Int32) → Prop) : Prop := (preX9_isLeg p1 ∧ (∀ r_6 : Int32, postX9_isLeg p1 r_6 → ((r_6 = 0 → (Q (-1000 : Int32) (upd F 0 (0 : Int32)) he ma fr re)) ∧ (¬ r_6 = 0 → (∃ (n_14 : Nat), preX9_isPart n_14 (upd F 0 (0 : Int32)) J al p2 ∧ (∀ r_14 : Int32, postX9_isPart n_14 (upd F 0 (0 : Int32)) J al p2 r_14 → ((r_14 = 0 → (Q (-1000 : Int32) (upd F 0 (0 : Int32)) he ma fr re)) ∧ (¬ r_14 = 0 → (preX9_in p3 (0 : Int32) (4 : Int32) ∧ (∀ r_23 : Int32, postX9_in p3 (0 : Int32) (4 : Int32) r_23 → ((r_23 = 0 → (Q (-1000 : Int32) (upd F 0 (0 : Int32)) he ma fr re)) ∧ (¬ r_23 = 0 → (∃ (p_32 : Nat) (w_32 : Nat), preX9_ofLeg p_32 w_32 (upd F 0 (0 : Int32)) J al p1 (3 : Int32) ∧ (∀ r_32 : Int32, postX9_ofLeg p_32 w_32 (upd F 0 (0 : Int32)) J al p1 (3 : Int32) r_32 → (((2 : Int32) ≤ r_32 → (∃ (T_45 : Cd) (G0_45 : Lg) (G1_45 : Lg) (lg_45 : Nat) (lim_45 : Nat), preX9_laysLeg T_45 G0_45 G1_45 lg_45 lim_45 (upd F 0 (0 : Int32)) J al he ma p1 ∧ (∀ (F_45 : Nat → Int32) (he_45 : Nat → Int32) (ma_45 : Nat → Int32), postX9_laysLeg T_45 G0_45 G1_45 lg_45 lim_45 (upd F 0 (0 : Int32)) J al he ma p1 F_45 he_45 ma_45 → (∃ (p_51 : Nat) (w_51 : Nat), preX9_of p_51 w_51 F_45 J al p2 (0 : Int32) ∧ (∀ r_51 : Int32, postX9_of p_51 w_51 F_45 J al p2 (0 : Int32) r_51 → (∃ nn, vX9_broken_c59 J al p1 p2 p3 Q nn r_51 (0 : Int32) F_45 he_45 ma_45 fr re)))))) ∧ (¬ (2 : Int32) ≤ r_32 → (Q (-1000 : Int32) (upd F 0 (0 : Int32)) he ma fr re)))))))))))))))))
set_option maxHeartbeats 4000000 in
set_option maxRecDepth 100000 in
theorem wX9_broken (l : Launch) (g : GP) (qM : Nat) (q1 : Nat) (q2 : Nat) (q3 : Nat) (q4 : Nat) (q5 : Nat) (q6 : Nat) (q7 : Nat) (q8 : Nat) (q9 : Nat) (q10 : Nat) (q11 : Nat) (sz : Nat) (F : Nat → Int32) (J : Nat → Int64) (al : Nat → Int32) (he : Nat → Int32) (ma : Nat → Int32) (fr : Nat → Int32) (re : Nat → Int32) (p1 : Int32) (p2 : Int32) (p3 : Int32) {Q : Int32 → (Nat → Int32) → (Nat → Int32) → (Nat → Int32) → (Nat → Int32) → (Nat → Int32) → Prop} (hv : vX9_broken F J al he ma fr re p1 p2 p3 Q) : Met l yX9_broken wsX9_broken rmX9_broken (va_Pc [.ref qM, .int p1, .int p2, .int p3] (fun U => U.heap.size = sz ∧ va_P g.1 vwCl [(qM, .inr (9, [.int (F 0), .ref q1, .ref q2, .ref q3, .int (F 4), .int (F 5), .int (F 6), .int (F 7), .int (F 8), .int (F 9), .long (J 10), .int (F 11), .int (F 12), .int (F 13), .ref q4, .int (F 15), .ref q5, .ref q6, .ref q7, .int (F 19), .ref q8, .int (F 21), .int (F 22), .int (F 23), .int (F 24), .ref q9, .ref q10, .ref q11, .long (J 28)])), (q1, .inl (g.2 0, 376, .inl al)), (q7, .inl (g.2 0, 200, .inl he)), (q8, .inl (g.2 0, 65, .inl ma)), (q10, .inl (g.2 0, 13, .inl fr)), (q11, .inl (g.2 0, 13, .inl re))] U.heap ∧ GK g U ∧ va_D (fun _ => True) [(qM, .inr (9, [.int (F 0), .ref q1, .ref q2, .ref q3, .int (F 4), .int (F 5), .int (F 6), .int (F 7), .int (F 8), .int (F 9), .long (J 10), .int (F 11), .int (F 12), .int (F 13), .ref q4, .int (F 15), .ref q5, .ref q6, .ref q7, .int (F 19), .ref q8, .int (F 21), .int (F 22), .int (F 23), .int (F 24), .ref q9, .ref q10, .ref q11, .long (J 28)])), (q1, .inl (g.2 0, 376, .inl al)), (q7, .inl (g.2 0, 200, .inl he)), (q8, .inl (g.2 0, 65, .inl ma)), (q10, .inl (g.2 0, 13, .inl fr)), (q11, .inl (g.2 0, 13, .inl re))])) (va_Qi (fun (r : Int32) (u : (Nat → Int32) × (Nat → Int32) × (Nat → Int32) × (Nat → Int32) × (Nat → Int32)) => Q r u.1 u.2.1 u.2.2.1 u.2.2.2.1 u.2.2.2.2) (fun (u : (Nat → Int32) × (Nat → Int32) × (Nat → Int32) × (Nat → Int32) × (Nat → Int32)) t => va_P g.1 vwCl [(qM, .inr (9, [.int (u.1 0), .ref q1, .ref q2, .ref q3, .int (u.1 4), .int (u.1 5), .int (u.1 6), .int (u.1 7), .int (u.1 8), .int (u.1 9), .long (J 10), .int (u.1 11), .int (u.1 12), .int (u.1 13), .ref q4, .int (u.1 15), .ref q5, .ref q6, .ref q7, .int (u.1 19), .ref q8, .int (u.1 21), .int (u.1 22), .int (u.1 23), .int (u.1 24), .ref q9, .ref q10, .ref q11, .long (J 28)])), (q1, .inl (g.2 0, 376, .inl al)), (q7, .inl (g.2 0, 200, .inl u.2.1)), (q8, .inl (g.2 0, 65, .inl u.2.2.1)), (q10, .inl (g.2 0, 13, .inl u.2.2.2.1)), (q11, .inl (g.2 0, 13, .inl u.2.2.2.2))] t.heap ∧ va_D (va_A [(qM, .inr (9, [.int (F 0), .ref q1, .ref q2, .ref q3, .int (F 4), .int (F 5), .int (F 6), .int (F 7), .int (F 8), .int (F 9), .long (J 10), .int (F 11), .int (F 12), .int (F 13), .ref q4, .int (F 15), .ref q5, .ref q6, .ref q7, .int (F 19), .ref q8, .int (F 21), .int (F 22), .int (F 23), .int (F 24), .ref q9, .ref q10, .ref q11, .long (J 28)])), (q1, .inl (g.2 0, 376, .inl al)), (q7, .inl (g.2 0, 200, .inl he)), (q8, .inl (g.2 0, 65, .inl ma)), (q10, .inl (g.2 0, 13, .inl fr)), (q11, .inl (g.2 0, 13, .inl re))] sz) [(qM, .inr (9, [.int (u.1 0), .ref q1, .ref q2, .ref q3, .int (u.1 4), .int (u.1 5), .int (u.1 6), .int (u.1 7), .int (u.1 8), .int (u.1 9), .long (J 10), .int (u.1 11), .int (u.1 12), .int (u.1 13), .ref q4, .int (u.1 15), .ref q5, .ref q6, .ref q7, .int (u.1 19), .ref q8, .int (u.1 21), .int (u.1 22), .int (u.1 23), .int (u.1 24), .ref q9, .ref q10, .ref q11, .long (J 28)])), (q1, .inl (g.2 0, 376, .inl al)), (q7, .inl (g.2 0, 200, .inl u.2.1)), (q8, .inl (g.2 0, 65, .inl u.2.2.1)), (q10, .inl (g.2 0, 13, .inl u.2.2.2.1)), (q11, .inl (g.2 0, 13, .inl u.2.2.2.2))]) (va_A [(qM, .inr (9, [.int (F 0), .ref q1, .ref q2, .ref q3, .int (F 4), .int (F 5), .int (F 6), .int (F 7), .int (F 8), .int (F 9), .long (J 10), .int (F 11), .int (F 12), .int (F 13), .ref q4, .int (F 15), .ref q5, .ref q6, .ref q7, .int (F 19), .ref q8, .int (F 21), .int (F 22), .int (F 23), .int (F 24), .ref q9, .ref q10, .ref q11, .long (J 28)])), (q1, .inl (g.2 0, 376, .inl al)), (q7, .inl (g.2 0, 200, .inl he)), (q8, .inl (g.2 0, 65, .inl ma)), (q10, .inl (g.2 0, 13, .inl fr)), (q11, .inl (g.2 0, 13, .inl re))] sz)) 0 0 (va_A [(qM, .inr (9, [.int (F 0), .ref q1, .ref q2, .ref q3, .int (F 4), .int (F 5), .int (F 6), .int (F 7), .int (F 8), .int (F 9), .long (J 10), .int (F 11), .int (F 12), .int (F 13), .ref q4, .int (F 15), .ref q5, .ref q6, .ref q7, .int (F 19), .ref q8, .int (F 21), .int (F 22), .int (F 23), .int (F 24), .ref q9, .ref q10, .ref q11, .long (J 28)])), (q1, .inl (g.2 0, 376, .inl al)), (q7, .inl (g.2 0, 200, .inl he)), (q8, .inl (g.2 0, 65, .inl ma)), (q10, .inl (g.2 0, 13, .inl fr)), (q11, .inl (g.2 0, 13, .inl re))] sz) := by
  refine Met.ofW (cc := cX9_broken) (maxL := 12) (ret := (some .int)) (by decide) rfl ?_
  intro p e s m args below meth c s₁ B hml hv'
  obtain ⟨rfl, hsz, hP, hG, hD0⟩ := hv'
  have S : CallFix p m c cX9_broken 12 s _ wsX9_broken RX9 := ⟨B.exec, B.bytes, hml, findClass_of_methodNamed B.named, atoms_spec (ws := wsX9_broken) B.pre⟩
  obtain ⟨hx, hb, hml, hown, hts⟩ := id S
  have hK := hG.1
  have hr := B.returns
  have hlocks := B.notSynchronized
  subst hsz
  have hD := hD0.self (sz := s.heap.size)
  generalize hAe : va_A [(qM, .inr (9, [.int (F 0), .ref q1, .ref q2, .ref q3, .int (F 4), .int (F 5), .int (F 6), .int (F 7), .int (F 8), .int (F 9), .long (J 10), .int (F 11), .int (F 12), .int (F 13), .ref q4, .int (F 15), .ref q5, .ref q6, .ref q7, .int (F 19), .ref q8, .int (F 21), .int (F 22), .int (F 23), .int (F 24), .ref q9, .ref q10, .ref q11, .long (J 28)])), (q1, .inl (g.2 0, 376, .inl al)), (q7, .inl (g.2 0, 200, .inl he)), (q8, .inl (g.2 0, 65, .inl ma)), (q10, .inl (g.2 0, 13, .inl fr)), (q11, .inl (g.2 0, 13, .inl re))] s.heap.size = A at hD ⊢
  have hA : ∀ q : Nat, s.heap.size ≤ q → A q := fun q h => by rw [← hAe]; exact Or.inr h
  have hS : va_S A s.heap s.heap [] := va_S.rf
  clear hD0 hAe
  have hl := lv_entry ([.ref qM, .int p1, .int p2, .int p3]) (n := 12) (Nat.le_of_ble_eq_true rfl)
  rw [lg_entry_eq]
  generalize (lg_sl ([.ref qM, .int p1, .int p2, .int p3]) ++ List.replicate (12 - (lg_sl ([.ref qM, .int p1, .int p2, .int p3])).length) Slot.unset).toArray = ls at hl ⊢
  have hl : lv_has ls 12 [(0, .ref qM), (1, .int p1), (2, .int p2), (3, .int p3)] := hl
  unfold vX9_broken at hv
  refine lv_aload_n hx hb dX9_broken_0 rfl (lv_at hl 0 rfl) ?_
  refine lv_iconst (v := (0 : Int32)) hx hb dX9_broken_1 (by decide) ?_
  refine va_put (D := g.1) (ci := 9) (v := .int (0 : Int32)) (ty := .int) (C := RX9) (T := TX9) (N := 29) hx hb hts inX9_broken_9 tyX9 tyX9_ok nmX9 hown hK hP hD hS 0 rfl rfl 0 (by decide) (hts (.fieldLink RX9 51 "RangeCodesModel" "raised" "I") (List.mem_of_getElem? (i := 1) rfl)) (fun _ h9 => h9) rfl (by decide +kernel) rfl rfl (Nat.le_of_ble_eq_true rfl) dX9_broken_2 (fun H locs hP hD hS => ?_)
  have hP : va_P g.1 vwCl [(qM, .inr (9, [.int (0 : Int32), .ref q1, .ref q2, .ref q3, .int (F 4), .int (F 5), .int (F 6), .int (F 7), .int (F 8), .int (F 9), .long (J 10), .int (F 11), .int (F 12), .int (F 13), .ref q4, .int (F 15), .ref q5, .ref q6, .ref q7, .int (F 19), .ref q8, .int (F 21), .int (F 22), .int (F 23), .int (F 24), .ref q9, .ref q10, .ref q11, .long (J 28)])), (q1, .inl (g.2 0, 376, .inl al)), (q7, .inl (g.2 0, 200, .inl he)), (q8, .inl (g.2 0, 65, .inl ma)), (q10, .inl (g.2 0, 13, .inl fr)), (q11, .inl (g.2 0, 13, .inl re))] H := hP
  have hD : va_D A [(qM, .inr (9, [.int (0 : Int32), .ref q1, .ref q2, .ref q3, .int (F 4), .int (F 5), .int (F 6), .int (F 7), .int (F 8), .int (F 9), .long (J 10), .int (F 11), .int (F 12), .int (F 13), .ref q4, .int (F 15), .ref q5, .ref q6, .ref q7, .int (F 19), .ref q8, .int (F 21), .int (F 22), .int (F 23), .int (F 24), .ref q9, .ref q10, .ref q11, .long (J 28)])), (q1, .inl (g.2 0, 376, .inl al)), (q7, .inl (g.2 0, 200, .inl he)), (q8, .inl (g.2 0, 65, .inl ma)), (q10, .inl (g.2 0, 13, .inl fr)), (q11, .inl (g.2 0, 13, .inl re))] := hD
  refine lv_iload_n hx hb dX9_broken_5 rfl (lv_at hl 1 rfl) ?_
  obtain ⟨ho_1, hv⟩ := hv
  refine vp_callSi (W.runS (As := [.int p1]) (rest := []) S (wX9_isLeg l g p1 (sX9_isLeg p1 ho_1)) (va_cwS 1 hts gX9_broken_X9_isLeg rfl rfl rfl (by decide +kernel) ⟨Nat.le_of_ble_eq_true rfl, Nat.le_of_ble_eq_true rfl⟩) ⟨blindRO, fun U hU hW => ⟨rfl, by rw [hU]; exact hP.sub (ws' := []) [] rfl, hG.warm hW⟩⟩ rfl rfl hl.1 rfl (lv_room (Nat.le_of_ble_eq_true rfl)) dX9_broken_6 ⟨Nat.le_of_ble_eq_true rfl, Nat.le_of_ble_eq_true rfl⟩) (fun r_6 hr_6 => ?_)
  have hv := hv r_6 hr_6
  obtain ⟨hvt, hvf⟩ := hv
  refine lv_if_eq (tgt := 39) hx hb dX9_broken_9 (by decide) (fun hc => ?_) (fun hc => ?_)
  · have hv := hvt hc
    refine lv_sipush (v := (-1000 : Int32)) hx hb dX9_broken_39 (by decide) ?_
    have hP9 := hP.sub (ws' := [(qM, .inr (9, [.int ((upd F 0 (0 : Int32)) 0), .ref q1, .ref q2, .ref q3, .int ((upd F 0 (0 : Int32)) 4), .int ((upd F 0 (0 : Int32)) 5), .int ((upd F 0 (0 : Int32)) 6), .int ((upd F 0 (0 : Int32)) 7), .int ((upd F 0 (0 : Int32)) 8), .int ((upd F 0 (0 : Int32)) 9), .long (J 10), .int ((upd F 0 (0 : Int32)) 11), .int ((upd F 0 (0 : Int32)) 12), .int ((upd F 0 (0 : Int32)) 13), .ref q4, .int ((upd F 0 (0 : Int32)) 15), .ref q5, .ref q6, .ref q7, .int ((upd F 0 (0 : Int32)) 19), .ref q8, .int ((upd F 0 (0 : Int32)) 21), .int ((upd F 0 (0 : Int32)) 22), .int ((upd F 0 (0 : Int32)) 23), .int ((upd F 0 (0 : Int32)) 24), .ref q9, .ref q10, .ref q11, .long (J 28)])), (q1, .inl (g.2 0, 376, .inl al)), (q7, .inl (g.2 0, 200, .inl he)), (q8, .inl (g.2 0, 65, .inl ma)), (q10, .inl (g.2 0, 13, .inl fr)), (q11, .inl (g.2 0, 13, .inl re))]) [0, 1, 2, 3, 4, 5] rfl
    have hD9 := hD.sub (ws' := [(qM, .inr (9, [.int ((upd F 0 (0 : Int32)) 0), .ref q1, .ref q2, .ref q3, .int ((upd F 0 (0 : Int32)) 4), .int ((upd F 0 (0 : Int32)) 5), .int ((upd F 0 (0 : Int32)) 6), .int ((upd F 0 (0 : Int32)) 7), .int ((upd F 0 (0 : Int32)) 8), .int ((upd F 0 (0 : Int32)) 9), .long (J 10), .int ((upd F 0 (0 : Int32)) 11), .int ((upd F 0 (0 : Int32)) 12), .int ((upd F 0 (0 : Int32)) 13), .ref q4, .int ((upd F 0 (0 : Int32)) 15), .ref q5, .ref q6, .ref q7, .int ((upd F 0 (0 : Int32)) 19), .ref q8, .int ((upd F 0 (0 : Int32)) 21), .int ((upd F 0 (0 : Int32)) 22), .int ((upd F 0 (0 : Int32)) 23), .int ((upd F 0 (0 : Int32)) 24), .ref q9, .ref q10, .ref q11, .long (J 28)])), (q1, .inl (g.2 0, 376, .inl al)), (q7, .inl (g.2 0, 200, .inl he)), (q8, .inl (g.2 0, 65, .inl ma)), (q10, .inl (g.2 0, 13, .inl fr)), (q11, .inl (g.2 0, 13, .inl re))]) [0, 1, 2, 3, 4, 5] (by decide) rfl
    exact W.iret (v := (-1000 : Int32)) hx hb hr (fun t ht hW => ⟨⟨_, ((upd F 0 (0 : Int32)), he, ma, fr, re), rfl, hv, by rw [ht]; exact hP9, hD9⟩, hS.F ht⟩) hS.2.2 dX9_broken_42
  · have hv := hvf hc
    refine lv_aload_n hx hb dX9_broken_12 rfl (lv_at hl 0 rfl) ?_
    refine lv_iload_n hx hb dX9_broken_13 rfl (lv_at hl 2 rfl) ?_
    obtain ⟨n_14, ho_2, hv⟩ := hv
    refine vp_callSi (W.runV (As := [.int p2]) (rest := []) S (wX9_isPart l g qM q1 q2 q3 q4 q5 q6 q7 q8 q9 q10 q11 (upd F 0 (0 : Int32)) J al p2 (sX9_isPart n_14 (upd F 0 (0 : Int32)) J al p2 ho_2)) (cwV 1 hts gX9_broken_X9_isPart rfl rfl rfl (by decide +kernel) ⟨Nat.le_of_ble_eq_true rfl, Nat.le_of_ble_eq_true rfl⟩) ⟨blindRO, va_recv hK hP (ci := 9) (q0 := 0) rfl rfl, fun U hU hW => ⟨rfl, by rw [hU]; exact hP.sub (ws' := [(qM, .inr (9, [.int ((upd F 0 (0 : Int32)) 0), .ref q1, .ref q2, .ref q3, .int ((upd F 0 (0 : Int32)) 4), .int ((upd F 0 (0 : Int32)) 5), .int ((upd F 0 (0 : Int32)) 6), .int ((upd F 0 (0 : Int32)) 7), .int ((upd F 0 (0 : Int32)) 8), .int ((upd F 0 (0 : Int32)) 9), .long (J 10), .int ((upd F 0 (0 : Int32)) 11), .int ((upd F 0 (0 : Int32)) 12), .int ((upd F 0 (0 : Int32)) 13), .ref q4, .int ((upd F 0 (0 : Int32)) 15), .ref q5, .ref q6, .ref q7, .int ((upd F 0 (0 : Int32)) 19), .ref q8, .int ((upd F 0 (0 : Int32)) 21), .int ((upd F 0 (0 : Int32)) 22), .int ((upd F 0 (0 : Int32)) 23), .int ((upd F 0 (0 : Int32)) 24), .ref q9, .ref q10, .ref q11, .long (J 28)])), (q1, .inl (g.2 0, 376, .inl al))]) [0, 1] rfl, hG.warm hW⟩⟩ rfl rfl hl.1 rfl (lv_room (Nat.le_of_ble_eq_true rfl)) dX9_broken_14 ⟨Nat.le_of_ble_eq_true rfl, Nat.le_of_ble_eq_true rfl⟩) (fun r_14 hr_14 => ?_)
    have hv := hv r_14 hr_14
    obtain ⟨hvt, hvf⟩ := hv
    refine lv_if_eq (tgt := 39) hx hb dX9_broken_17 (by decide) (fun hc => ?_) (fun hc => ?_)
    · have hv := hvt hc
      refine lv_sipush (v := (-1000 : Int32)) hx hb dX9_broken_39 (by decide) ?_
      have hP9 := hP.sub (ws' := [(qM, .inr (9, [.int ((upd F 0 (0 : Int32)) 0), .ref q1, .ref q2, .ref q3, .int ((upd F 0 (0 : Int32)) 4), .int ((upd F 0 (0 : Int32)) 5), .int ((upd F 0 (0 : Int32)) 6), .int ((upd F 0 (0 : Int32)) 7), .int ((upd F 0 (0 : Int32)) 8), .int ((upd F 0 (0 : Int32)) 9), .long (J 10), .int ((upd F 0 (0 : Int32)) 11), .int ((upd F 0 (0 : Int32)) 12), .int ((upd F 0 (0 : Int32)) 13), .ref q4, .int ((upd F 0 (0 : Int32)) 15), .ref q5, .ref q6, .ref q7, .int ((upd F 0 (0 : Int32)) 19), .ref q8, .int ((upd F 0 (0 : Int32)) 21), .int ((upd F 0 (0 : Int32)) 22), .int ((upd F 0 (0 : Int32)) 23), .int ((upd F 0 (0 : Int32)) 24), .ref q9, .ref q10, .ref q11, .long (J 28)])), (q1, .inl (g.2 0, 376, .inl al)), (q7, .inl (g.2 0, 200, .inl he)), (q8, .inl (g.2 0, 65, .inl ma)), (q10, .inl (g.2 0, 13, .inl fr)), (q11, .inl (g.2 0, 13, .inl re))]) [0, 1, 2, 3, 4, 5] rfl
      have hD9 := hD.sub (ws' := [(qM, .inr (9, [.int ((upd F 0 (0 : Int32)) 0), .ref q1, .ref q2, .ref q3, .int ((upd F 0 (0 : Int32)) 4), .int ((upd F 0 (0 : Int32)) 5), .int ((upd F 0 (0 : Int32)) 6), .int ((upd F 0 (0 : Int32)) 7), .int ((upd F 0 (0 : Int32)) 8), .int ((upd F 0 (0 : Int32)) 9), .long (J 10), .int ((upd F 0 (0 : Int32)) 11), .int ((upd F 0 (0 : Int32)) 12), .int ((upd F 0 (0 : Int32)) 13), .ref q4, .int ((upd F 0 (0 : Int32)) 15), .ref q5, .ref q6, .ref q7, .int ((upd F 0 (0 : Int32)) 19), .ref q8, .int ((upd F 0 (0 : Int32)) 21), .int ((upd F 0 (0 : Int32)) 22), .int ((upd F 0 (0 : Int32)) 23), .int ((upd F 0 (0 : Int32)) 24), .ref q9, .ref q10, .ref q11, .long (J 28)])), (q1, .inl (g.2 0, 376, .inl al)), (q7, .inl (g.2 0, 200, .inl he)), (q8, .inl (g.2 0, 65, .inl ma)), (q10, .inl (g.2 0, 13, .inl fr)), (q11, .inl (g.2 0, 13, .inl re))]) [0, 1, 2, 3, 4, 5] (by decide) rfl
      exact W.iret (v := (-1000 : Int32)) hx hb hr (fun t ht hW => ⟨⟨_, ((upd F 0 (0 : Int32)), he, ma, fr, re), rfl, hv, by rw [ht]; exact hP9, hD9⟩, hS.F ht⟩) hS.2.2 dX9_broken_42
    · have hv := hvf hc
      refine lv_iload_n hx hb dX9_broken_20 rfl (lv_at hl 3 rfl) ?_
      refine lv_iconst (v := (0 : Int32)) hx hb dX9_broken_21 (by decide) ?_
      refine lv_iconst (v := (4 : Int32)) hx hb dX9_broken_22 (by decide) ?_
      obtain ⟨ho_3, hv⟩ := hv
      refine vp_callSi (W.runS (As := [.int p3, .int (0 : Int32), .int (4 : Int32)]) (rest := []) S (wX9_in l g p3 (0 : Int32) (4 : Int32) (sX9_in p3 (0 : Int32) (4 : Int32) ho_3)) (va_cwS 3 hts gX9_broken_X9_in rfl rfl rfl (by decide +kernel) ⟨Nat.le_of_ble_eq_true rfl, Nat.le_of_ble_eq_true rfl⟩) ⟨blindRO, fun U hU hW => ⟨rfl, by rw [hU]; exact hP.sub (ws' := []) [] rfl, hG.warm hW⟩⟩ rfl rfl hl.1 rfl (lv_room (Nat.le_of_ble_eq_true rfl)) dX9_broken_23 ⟨Nat.le_of_ble_eq_true rfl, Nat.le_of_ble_eq_true rfl⟩) (fun r_23 hr_23 => ?_)
      have hv := hv r_23 hr_23
      obtain ⟨hvt, hvf⟩ := hv
      refine lv_if_eq (tgt := 39) hx hb dX9_broken_26 (by decide) (fun hc => ?_) (fun hc => ?_)
      · have hv := hvt hc
        refine lv_sipush (v := (-1000 : Int32)) hx hb dX9_broken_39 (by decide) ?_
        have hP9 := hP.sub (ws' := [(qM, .inr (9, [.int ((upd F 0 (0 : Int32)) 0), .ref q1, .ref q2, .ref q3, .int ((upd F 0 (0 : Int32)) 4), .int ((upd F 0 (0 : Int32)) 5), .int ((upd F 0 (0 : Int32)) 6), .int ((upd F 0 (0 : Int32)) 7), .int ((upd F 0 (0 : Int32)) 8), .int ((upd F 0 (0 : Int32)) 9), .long (J 10), .int ((upd F 0 (0 : Int32)) 11), .int ((upd F 0 (0 : Int32)) 12), .int ((upd F 0 (0 : Int32)) 13), .ref q4, .int ((upd F 0 (0 : Int32)) 15), .ref q5, .ref q6, .ref q7, .int ((upd F 0 (0 : Int32)) 19), .ref q8, .int ((upd F 0 (0 : Int32)) 21), .int ((upd F 0 (0 : Int32)) 22), .int ((upd F 0 (0 : Int32)) 23), .int ((upd F 0 (0 : Int32)) 24), .ref q9, .ref q10, .ref q11, .long (J 28)])), (q1, .inl (g.2 0, 376, .inl al)), (q7, .inl (g.2 0, 200, .inl he)), (q8, .inl (g.2 0, 65, .inl ma)), (q10, .inl (g.2 0, 13, .inl fr)), (q11, .inl (g.2 0, 13, .inl re))]) [0, 1, 2, 3, 4, 5] rfl
        have hD9 := hD.sub (ws' := [(qM, .inr (9, [.int ((upd F 0 (0 : Int32)) 0), .ref q1, .ref q2, .ref q3, .int ((upd F 0 (0 : Int32)) 4), .int ((upd F 0 (0 : Int32)) 5), .int ((upd F 0 (0 : Int32)) 6), .int ((upd F 0 (0 : Int32)) 7), .int ((upd F 0 (0 : Int32)) 8), .int ((upd F 0 (0 : Int32)) 9), .long (J 10), .int ((upd F 0 (0 : Int32)) 11), .int ((upd F 0 (0 : Int32)) 12), .int ((upd F 0 (0 : Int32)) 13), .ref q4, .int ((upd F 0 (0 : Int32)) 15), .ref q5, .ref q6, .ref q7, .int ((upd F 0 (0 : Int32)) 19), .ref q8, .int ((upd F 0 (0 : Int32)) 21), .int ((upd F 0 (0 : Int32)) 22), .int ((upd F 0 (0 : Int32)) 23), .int ((upd F 0 (0 : Int32)) 24), .ref q9, .ref q10, .ref q11, .long (J 28)])), (q1, .inl (g.2 0, 376, .inl al)), (q7, .inl (g.2 0, 200, .inl he)), (q8, .inl (g.2 0, 65, .inl ma)), (q10, .inl (g.2 0, 13, .inl fr)), (q11, .inl (g.2 0, 13, .inl re))]) [0, 1, 2, 3, 4, 5] (by decide) rfl
        exact W.iret (v := (-1000 : Int32)) hx hb hr (fun t ht hW => ⟨⟨_, ((upd F 0 (0 : Int32)), he, ma, fr, re), rfl, hv, by rw [ht]; exact hP9, hD9⟩, hS.F ht⟩) hS.2.2 dX9_broken_42
      · have hv := hvf hc
        refine lv_aload_n hx hb dX9_broken_29 rfl (lv_at hl 0 rfl) ?_
        refine lv_iload_n hx hb dX9_broken_30 rfl (lv_at hl 1 rfl) ?_
        refine lv_iconst (v := (3 : Int32)) hx hb dX9_broken_31 (by decide) ?_
        obtain ⟨p_32, w_32, ho_4, hv⟩ := hv
        refine vp_callSi (W.runV (As := [.int p1, .int (3 : Int32)]) (rest := []) S (wX9_ofLeg l g qM q1 q2 q3 q4 q5 q6 q7 q8 q9 q10 q11 (upd F 0 (0 : Int32)) J al p1 (3 : Int32) (sX9_ofLeg p_32 w_32 (upd F 0 (0 : Int32)) J al p1 (3 : Int32) ho_4)) (cwV 2 hts gX9_broken_X9_ofLeg rfl rfl rfl (by decide +kernel) ⟨Nat.le_of_ble_eq_true rfl, Nat.le_of_ble_eq_true rfl⟩) ⟨blindRO, va_recv hK hP (ci := 9) (q0 := 0) rfl rfl, fun U hU hW => ⟨rfl, by rw [hU]; exact hP.sub (ws' := [(qM, .inr (9, [.int ((upd F 0 (0 : Int32)) 0), .ref q1, .ref q2, .ref q3, .int ((upd F 0 (0 : Int32)) 4), .int ((upd F 0 (0 : Int32)) 5), .int ((upd F 0 (0 : Int32)) 6), .int ((upd F 0 (0 : Int32)) 7), .int ((upd F 0 (0 : Int32)) 8), .int ((upd F 0 (0 : Int32)) 9), .long (J 10), .int ((upd F 0 (0 : Int32)) 11), .int ((upd F 0 (0 : Int32)) 12), .int ((upd F 0 (0 : Int32)) 13), .ref q4, .int ((upd F 0 (0 : Int32)) 15), .ref q5, .ref q6, .ref q7, .int ((upd F 0 (0 : Int32)) 19), .ref q8, .int ((upd F 0 (0 : Int32)) 21), .int ((upd F 0 (0 : Int32)) 22), .int ((upd F 0 (0 : Int32)) 23), .int ((upd F 0 (0 : Int32)) 24), .ref q9, .ref q10, .ref q11, .long (J 28)])), (q1, .inl (g.2 0, 376, .inl al))]) [0, 1] rfl, hG.warm hW⟩⟩ rfl rfl hl.1 rfl (lv_room (Nat.le_of_ble_eq_true rfl)) dX9_broken_32 ⟨Nat.le_of_ble_eq_true rfl, Nat.le_of_ble_eq_true rfl⟩) (fun r_32 hr_32 => ?_)
        have hv := hv r_32 hr_32
        refine lv_iconst (v := (2 : Int32)) hx hb dX9_broken_35 (by decide) ?_
        obtain ⟨hvt, hvf⟩ := hv
        refine lv_icmp_ge (tgt := 43) hx hb dX9_broken_36 (by decide) (fun hc => ?_) (fun hc => ?_)
        · have hv := hvt hc
          refine lv_aload_n hx hb dX9_broken_43 rfl (lv_at hl 0 rfl) ?_
          refine lv_iload_n hx hb dX9_broken_44 rfl (lv_at hl 1 rfl) ?_
          obtain ⟨T_45, G0_45, G1_45, lg_45, lim_45, ho_5, hv⟩ := hv
          have hPc := hP.sub (ws' := [(qM, .inr (9, [.int ((upd F 0 (0 : Int32)) 0), .ref q1, .ref q2, .ref q3, .int ((upd F 0 (0 : Int32)) 4), .int ((upd F 0 (0 : Int32)) 5), .int ((upd F 0 (0 : Int32)) 6), .int ((upd F 0 (0 : Int32)) 7), .int ((upd F 0 (0 : Int32)) 8), .int ((upd F 0 (0 : Int32)) 9), .long (J 10), .int ((upd F 0 (0 : Int32)) 11), .int ((upd F 0 (0 : Int32)) 12), .int ((upd F 0 (0 : Int32)) 13), .ref q4, .int ((upd F 0 (0 : Int32)) 15), .ref q5, .ref q6, .ref q7, .int ((upd F 0 (0 : Int32)) 19), .ref q8, .int ((upd F 0 (0 : Int32)) 21), .int ((upd F 0 (0 : Int32)) 22), .int ((upd F 0 (0 : Int32)) 23), .int ((upd F 0 (0 : Int32)) 24), .ref q9, .ref q10, .ref q11, .long (J 28)])), (q1, .inl (g.2 0, 376, .inl al)), (q7, .inl (g.2 0, 200, .inl he)), (q8, .inl (g.2 0, 65, .inl ma))]) [0, 1, 2, 3] rfl
          have hDc := hD.sub (ws' := [(qM, .inr (9, [.int ((upd F 0 (0 : Int32)) 0), .ref q1, .ref q2, .ref q3, .int ((upd F 0 (0 : Int32)) 4), .int ((upd F 0 (0 : Int32)) 5), .int ((upd F 0 (0 : Int32)) 6), .int ((upd F 0 (0 : Int32)) 7), .int ((upd F 0 (0 : Int32)) 8), .int ((upd F 0 (0 : Int32)) 9), .long (J 10), .int ((upd F 0 (0 : Int32)) 11), .int ((upd F 0 (0 : Int32)) 12), .int ((upd F 0 (0 : Int32)) 13), .ref q4, .int ((upd F 0 (0 : Int32)) 15), .ref q5, .ref q6, .ref q7, .int ((upd F 0 (0 : Int32)) 19), .ref q8, .int ((upd F 0 (0 : Int32)) 21), .int ((upd F 0 (0 : Int32)) 22), .int ((upd F 0 (0 : Int32)) 23), .int ((upd F 0 (0 : Int32)) 24), .ref q9, .ref q10, .ref q11, .long (J 28)])), (q1, .inl (g.2 0, 376, .inl al)), (q7, .inl (g.2 0, 200, .inl he)), (q8, .inl (g.2 0, 65, .inl ma))]) [0, 1, 2, 3] (by decide) rfl
          have hFc := va_free (wc := [(qM, .inr (9, [.int ((upd F 0 (0 : Int32)) 0), .ref q1, .ref q2, .ref q3, .int ((upd F 0 (0 : Int32)) 4), .int ((upd F 0 (0 : Int32)) 5), .int ((upd F 0 (0 : Int32)) 6), .int ((upd F 0 (0 : Int32)) 7), .int ((upd F 0 (0 : Int32)) 8), .int ((upd F 0 (0 : Int32)) 9), .long (J 10), .int ((upd F 0 (0 : Int32)) 11), .int ((upd F 0 (0 : Int32)) 12), .int ((upd F 0 (0 : Int32)) 13), .ref q4, .int ((upd F 0 (0 : Int32)) 15), .ref q5, .ref q6, .ref q7, .int ((upd F 0 (0 : Int32)) 19), .ref q8, .int ((upd F 0 (0 : Int32)) 21), .int ((upd F 0 (0 : Int32)) 22), .int ((upd F 0 (0 : Int32)) 23), .int ((upd F 0 (0 : Int32)) 24), .ref q9, .ref q10, .ref q11, .long (J 28)])), (q1, .inl (g.2 0, 376, .inl al)), (q7, .inl (g.2 0, 200, .inl he)), (q8, .inl (g.2 0, 65, .inl ma))]) hD hS hA [0, 1, 2, 3] rfl
          refine va_callv (va_runV (As := [.int p1]) (rest := []) S (wX9_laysLeg l g qM q1 q2 q3 q4 q5 q6 q7 q8 q9 q10 q11 H.size (upd F 0 (0 : Int32)) J al he ma p1 (sX9_laysLeg T_45 G0_45 G1_45 lg_45 lim_45 (upd F 0 (0 : Int32)) J al he ma p1 ho_5)) (cwV 1 hts gX9_broken_X9_laysLeg rfl rfl rfl (by decide +kernel) ⟨Nat.le_of_ble_eq_true rfl, Nat.le_of_ble_eq_true rfl⟩) ⟨blindRW, va_recv hK hP (ci := 9) (q0 := 0) rfl rfl, fun U hU hW => ⟨rfl, by rw [hU], by rw [hU]; exact hPc, hG.warm hW, hDc.weaken (fun _ _ _ _ => trivial)⟩⟩ rfl rfl hl.1 rfl (lv_room (Nat.le_of_ble_eq_true rfl)) dX9_broken_45 ⟨Nat.le_of_ble_eq_true rfl, Nat.le_of_ble_eq_true rfl⟩) hS (fun q _ h => hFc q h) hFc (fun u t H1 locs ht hvm hw hB hz1 hk1 hS => ?_)
          obtain ⟨F_45, he_45, ma_45⟩ := u
          obtain ⟨hP1, hD1⟩ := hB
          rw [ht] at hP1
          have hv := hv F_45 he_45 ma_45 hw
          obtain ⟨hP, hD⟩ := va_join (wr := [(q10, .inl (g.2 0, 13, .inl fr)), (q11, .inl (g.2 0, 13, .inl re))]) (w1 := [(qM, .inr (9, [.int (F_45 0), .ref q1, .ref q2, .ref q3, .int (F_45 4), .int (F_45 5), .int (F_45 6), .int (F_45 7), .int (F_45 8), .int (F_45 9), .long (J 10), .int (F_45 11), .int (F_45 12), .int (F_45 13), .ref q4, .int (F_45 15), .ref q5, .ref q6, .ref q7, .int (F_45 19), .ref q8, .int (F_45 21), .int (F_45 22), .int (F_45 23), .int (F_45 24), .ref q9, .ref q10, .ref q11, .long (J 28)])), (q1, .inl (g.2 0, 376, .inl al)), (q7, .inl (g.2 0, 200, .inl he_45)), (q8, .inl (g.2 0, 65, .inl ma_45))]) hP hD [0, 1, 2, 3] [4, 5] rfl rfl (by decide) (by decide) hk1 hFc hP1 hD1
          clear hP1 hD1 hPc hDc hFc hk1
          generalize H1 = H at hP hS ⊢
          have hP : va_P g.1 vwCl [(q10, .inl (g.2 0, 13, .inl fr)), (q11, .inl (g.2 0, 13, .inl re)), (qM, .inr (9, [.int (F_45 0), .ref q1, .ref q2, .ref q3, .int (F_45 4), .int (F_45 5), .int (F_45 6), .int (F_45 7), .int (F_45 8), .int (F_45 9), .long (J 10), .int (F_45 11), .int (F_45 12), .int (F_45 13), .ref q4, .int (F_45 15), .ref q5, .ref q6, .ref q7, .int (F_45 19), .ref q8, .int (F_45 21), .int (F_45 22), .int (F_45 23), .int (F_45 24), .ref q9, .ref q10, .ref q11, .long (J 28)])), (q1, .inl (g.2 0, 376, .inl al)), (q7, .inl (g.2 0, 200, .inl he_45)), (q8, .inl (g.2 0, 65, .inl ma_45))] H := hP
          have hD : va_D A [(q10, .inl (g.2 0, 13, .inl fr)), (q11, .inl (g.2 0, 13, .inl re)), (qM, .inr (9, [.int (F_45 0), .ref q1, .ref q2, .ref q3, .int (F_45 4), .int (F_45 5), .int (F_45 6), .int (F_45 7), .int (F_45 8), .int (F_45 9), .long (J 10), .int (F_45 11), .int (F_45 12), .int (F_45 13), .ref q4, .int (F_45 15), .ref q5, .ref q6, .ref q7, .int (F_45 19), .ref q8, .int (F_45 21), .int (F_45 22), .int (F_45 23), .int (F_45 24), .ref q9, .ref q10, .ref q11, .long (J 28)])), (q1, .inl (g.2 0, 376, .inl al)), (q7, .inl (g.2 0, 200, .inl he_45)), (q8, .inl (g.2 0, 65, .inl ma_45))] := hD
          refine lv_aload_n hx hb dX9_broken_48 rfl (lv_at hl 0 rfl) ?_
          refine lv_iload_n hx hb dX9_broken_49 rfl (lv_at hl 2 rfl) ?_
          refine lv_iconst (v := (0 : Int32)) hx hb dX9_broken_50 (by decide) ?_
          obtain ⟨p_51, w_51, ho_6, hv⟩ := hv
          refine vp_callSi (W.runV (As := [.int p2, .int (0 : Int32)]) (rest := []) S (wX9_of l g qM q1 q2 q3 q4 q5 q6 q7 q8 q9 q10 q11 F_45 J al p2 (0 : Int32) (sX9_of p_51 w_51 F_45 J al p2 (0 : Int32) ho_6)) (cwV 2 hts gX9_broken_X9_of rfl rfl rfl (by decide +kernel) ⟨Nat.le_of_ble_eq_true rfl, Nat.le_of_ble_eq_true rfl⟩) ⟨blindRO, va_recv hK hP (ci := 9) (q0 := 2) rfl rfl, fun U hU hW => ⟨rfl, by rw [hU]; exact hP.sub (ws' := [(qM, .inr (9, [.int (F_45 0), .ref q1, .ref q2, .ref q3, .int (F_45 4), .int (F_45 5), .int (F_45 6), .int (F_45 7), .int (F_45 8), .int (F_45 9), .long (J 10), .int (F_45 11), .int (F_45 12), .int (F_45 13), .ref q4, .int (F_45 15), .ref q5, .ref q6, .ref q7, .int (F_45 19), .ref q8, .int (F_45 21), .int (F_45 22), .int (F_45 23), .int (F_45 24), .ref q9, .ref q10, .ref q11, .long (J 28)])), (q1, .inl (g.2 0, 376, .inl al))]) [2, 3] rfl, hG.warm hW⟩⟩ rfl rfl hl.1 rfl (lv_room (Nat.le_of_ble_eq_true rfl)) dX9_broken_51 ⟨Nat.le_of_ble_eq_true rfl, Nat.le_of_ble_eq_true rfl⟩) (fun r_51 hr_51 => ?_)
          have hv := hv r_51 hr_51
          refine lv_istore (lv' := [(4, .int r_51), (0, .ref qM), (1, .int p1), (2, .int p2), (3, .int p3)]) hx hb dX9_broken_54 hl (by decide) rfl (fun ls hl => ?_)
          refine lv_iconst (v := (0 : Int32)) hx hb dX9_broken_56 (by decide) ?_
          refine lv_istore (lv' := [(5, .int (0 : Int32)), (4, .int r_51), (0, .ref qM), (1, .int p1), (2, .int p2), (3, .int p3)]) hx hb dX9_broken_57 hl (by decide) rfl (fun ls hl => ?_)
          obtain ⟨nn, hv⟩ := hv
          exact kX9_broken_c59 S hr hlocks hG hA nn _ _ _ _ _ _ _ hv _ _ (hP.sub (ws' := [(qM, .inr (9, [.int (F_45 0), .ref q1, .ref q2, .ref q3, .int (F_45 4), .int (F_45 5), .int (F_45 6), .int (F_45 7), .int (F_45 8), .int (F_45 9), .long (J 10), .int (F_45 11), .int (F_45 12), .int (F_45 13), .ref q4, .int (F_45 15), .ref q5, .ref q6, .ref q7, .int (F_45 19), .ref q8, .int (F_45 21), .int (F_45 22), .int (F_45 23), .int (F_45 24), .ref q9, .ref q10, .ref q11, .long (J 28)])), (q1, .inl (g.2 0, 376, .inl al)), (q7, .inl (g.2 0, 200, .inl he_45)), (q8, .inl (g.2 0, 65, .inl ma_45)), (q10, .inl (g.2 0, 13, .inl fr)), (q11, .inl (g.2 0, 13, .inl re))]) [2, 3, 4, 5, 0, 1] rfl) (hD.sub (ws' := [(qM, .inr (9, [.int (F_45 0), .ref q1, .ref q2, .ref q3, .int (F_45 4), .int (F_45 5), .int (F_45 6), .int (F_45 7), .int (F_45 8), .int (F_45 9), .long (J 10), .int (F_45 11), .int (F_45 12), .int (F_45 13), .ref q4, .int (F_45 15), .ref q5, .ref q6, .ref q7, .int (F_45 19), .ref q8, .int (F_45 21), .int (F_45 22), .int (F_45 23), .int (F_45 24), .ref q9, .ref q10, .ref q11, .long (J 28)])), (q1, .inl (g.2 0, 376, .inl al)), (q7, .inl (g.2 0, 200, .inl he_45)), (q8, .inl (g.2 0, 65, .inl ma_45)), (q10, .inl (g.2 0, 13, .inl fr)), (q11, .inl (g.2 0, 13, .inl re))]) [2, 3, 4, 5, 0, 1] (by decide) rfl) hS ls (lv_sub hl [2, 3, 4, 5, 1, 0] rfl)
        · have hv := hvf hc
          refine lv_sipush (v := (-1000 : Int32)) hx hb dX9_broken_39 (by decide) ?_
          have hP9 := hP.sub (ws' := [(qM, .inr (9, [.int ((upd F 0 (0 : Int32)) 0), .ref q1, .ref q2, .ref q3, .int ((upd F 0 (0 : Int32)) 4), .int ((upd F 0 (0 : Int32)) 5), .int ((upd F 0 (0 : Int32)) 6), .int ((upd F 0 (0 : Int32)) 7), .int ((upd F 0 (0 : Int32)) 8), .int ((upd F 0 (0 : Int32)) 9), .long (J 10), .int ((upd F 0 (0 : Int32)) 11), .int ((upd F 0 (0 : Int32)) 12), .int ((upd F 0 (0 : Int32)) 13), .ref q4, .int ((upd F 0 (0 : Int32)) 15), .ref q5, .ref q6, .ref q7, .int ((upd F 0 (0 : Int32)) 19), .ref q8, .int ((upd F 0 (0 : Int32)) 21), .int ((upd F 0 (0 : Int32)) 22), .int ((upd F 0 (0 : Int32)) 23), .int ((upd F 0 (0 : Int32)) 24), .ref q9, .ref q10, .ref q11, .long (J 28)])), (q1, .inl (g.2 0, 376, .inl al)), (q7, .inl (g.2 0, 200, .inl he)), (q8, .inl (g.2 0, 65, .inl ma)), (q10, .inl (g.2 0, 13, .inl fr)), (q11, .inl (g.2 0, 13, .inl re))]) [0, 1, 2, 3, 4, 5] rfl
          have hD9 := hD.sub (ws' := [(qM, .inr (9, [.int ((upd F 0 (0 : Int32)) 0), .ref q1, .ref q2, .ref q3, .int ((upd F 0 (0 : Int32)) 4), .int ((upd F 0 (0 : Int32)) 5), .int ((upd F 0 (0 : Int32)) 6), .int ((upd F 0 (0 : Int32)) 7), .int ((upd F 0 (0 : Int32)) 8), .int ((upd F 0 (0 : Int32)) 9), .long (J 10), .int ((upd F 0 (0 : Int32)) 11), .int ((upd F 0 (0 : Int32)) 12), .int ((upd F 0 (0 : Int32)) 13), .ref q4, .int ((upd F 0 (0 : Int32)) 15), .ref q5, .ref q6, .ref q7, .int ((upd F 0 (0 : Int32)) 19), .ref q8, .int ((upd F 0 (0 : Int32)) 21), .int ((upd F 0 (0 : Int32)) 22), .int ((upd F 0 (0 : Int32)) 23), .int ((upd F 0 (0 : Int32)) 24), .ref q9, .ref q10, .ref q11, .long (J 28)])), (q1, .inl (g.2 0, 376, .inl al)), (q7, .inl (g.2 0, 200, .inl he)), (q8, .inl (g.2 0, 65, .inl ma)), (q10, .inl (g.2 0, 13, .inl fr)), (q11, .inl (g.2 0, 13, .inl re))]) [0, 1, 2, 3, 4, 5] (by decide) rfl
          exact W.iret (v := (-1000 : Int32)) hx hb hr (fun t ht hW => ⟨⟨_, ((upd F 0 (0 : Int32)), he, ma, fr, re), rfl, hv, by rw [ht]; exact hP9, hD9⟩, hS.F ht⟩) hS.2.2 dX9_broken_42
def isBr (b : Bk) (x y z t : Int32) : Prop := t.toInt = b.1 ∧ (1 ≤ b.2.1 → x.toInt = (b.2.1 : Int) ∧ y.toInt = (b.2.2.1 : Int) ∧ z.toInt = (b.2.2.2 : Int))
theorem sX9_broken_183 (f g : Nat → Int) (L i : Nat) (s : Bk) (F : Nat → Int32) (J : Nat → Int64) (al : Nat → Int32) (he : Nat → Int32) (ma : Nat → Int32) (fr : Nat → Int32) (re : Nat → Int32) (p1 : Int32) (p2 : Int32) (p3 : Int32) (hL2 : 2 ≤ L) (hL13 : L ≤ 13) (hi1 : 1 ≤ i) (hfg : ∀ w, w < L → (fr w).toInt = f w ∧ (re w).toInt = g w) (hf : ∀ w, -1000 ≤ f w ∧ f w ≤ 1000) (hg : ∀ w, -1000 ≤ g w ∧ g w ≤ 1000) (Q : Int32 → (Nat → Int32) → (Nat → Int32) → (Nat → Int32) → (Nat → Int32) → (Nat → Int32) → Prop) (K : Int32 → Int32 → Int32 → Int32 → Int32 → Int32 → (Nat → Int32) → (Nat → Int32) → (Nat → Int32) → (Nat → Int32) → (Nat → Int32) → Prop) (x4 x9 : Int32) (h4 : x4.toInt = (L : Int)) (h9 : x9.toInt = (i : Int)) (hK : ∀ a b c d : Int32, isBr (brS f g L i s L) a b c d → K x4 a b c d (x9 + (1 : Int32)) F he ma fr re) : ∀ (n k : Nat) (x5 x6 x7 x8 x10 : Int32), x10.toInt = (k : Int) → isBr (brR f g i (k / L) (brS f g L i s (k / L)) (k % L)) x5 x6 x7 x8 → k ≤ L * L → L * L + 1 ≤ k + n → vX9_broken_c183 J al p1 p2 p3 Q K n x4 x5 x6 x7 x8 x9 x10 F he ma fr re
  | 0, k, x5, x6, x7, x8, x10, _, _, hk, hn => absurd hn (by omega)
  | n + 1, k, x5, x6, x7, x8, x10, h10, hB, hk, hn => by
    have hLL : L * L ≤ 13 * 13 := Nat.mul_le_mul hL13 hL13
    have h44 : (x4 * x4).toInt = ((L * L : Nat) : Int) := q_mulN h4 h4 (by omega)
    have h10s := q_1 h10 (by omega)
    rw [vX9_broken_c183, q_le h44 h10]
    refine ⟨fun hc => ?_, fun hc => ?_⟩
    · have : k = L * L := by omega
      subst this
      have e1 : L * L / L = L := Nat.mul_div_cancel_left L (by omega)
      have e2 : L * L % L = 0 := Nat.mul_mod_right L L
      rw [e1, e2] at hB
      exact hK _ _ _ _ hB
    · have hkl : k < L * L := by omega
      have hdv : k / L < L := Nat.div_lt_of_lt_mul hkl
      have hmd := Nat.mod_lt k (show 0 < L by omega)
      have hd := q_divN h10 h4 (by omega)
      have hm := q_remN h10 h4 (by omega)
      have hx4 : ¬ x4 = 0 := by rw [fa_eq, z0]; omega
      have next : ∀ (a b c d : Int32), isBr (brR f g i (k / L) (brS f g L i s (k / L)) (k % L + 1)) a b c d → vX9_broken_c183 J al p1 p2 p3 Q K n x4 a b c d x9 (x10 + (1 : Int32)) F he ma fr re := fun a b c d hb => by
        refine sX9_broken_183 f g L i s F J al he ma fr re p1 p2 p3 hL2 hL13 hi1 hfg hf hg Q K x4 x9 h4 h9 hK n (k + 1) a b c d _ h10s ?_ (by omega) (by omega)
        rw [dv_s (n := k) (L := L) (by omega), md_s (n := k) (L := L) (by omega)]
        by_cases z : L ≤ k % L + 1
        · rw [if_pos z, if_pos z, brS_R f g hL2]
          have : k % L + 1 = L := by omega
          rw [this] at hb
          exact hb
        · rw [if_neg z, if_neg z]; exact hb
      have hfa := hfg (k / L) hdv
      have hga := hfg (k % L) hmd
      have f1 := hf (k / L)
      have g1 := hg (k % L)
      have hsum := q_add hfa.1 hga.2 (by omega) (by omega)
      rw [q_cl hd, q_cl hm, q_eq hd hm, q_le hsum hB.1]
      refine ⟨hx4, hx4, fun he => next _ _ _ _ ?_, fun he => ⟨hx4, q_in hd (by omega), hx4, q_in hm (by omega), fun hq => next _ _ _ _ ?_, fun hq => ⟨hx4, q_in hd (by omega), hx4, q_in hm (by omega), fun y hy => ⟨hx4, hx4, next _ _ _ _ ?_⟩⟩⟩⟩
      · rw [brR, if_neg (fun q => q.1 (by omega))]; exact hB
      · rw [brR, if_neg (fun q => by have := q.2; omega)]; exact hB
      · rw [brR, if_pos ⟨by omega, by omega⟩]
        exact ⟨by rw [hy]; exact hsum, fun _ => ⟨h9, hd, hm⟩⟩
theorem sX9_broken_129 (T : Cd) (G : Lg) (l p : Nat) (h : Nat → Nat) (F : Nat → Int32) (J : Nat → Int64) (al : Nat → Int32) (he : Nat → Int32) (ma : Nat → Int32) (fr : Nat → Int32) (re : Nat → Int32) (p1 : Int32) (p2 : Int32) (p3 : Int32) (hT : mT T al) (hG : mG G l al) (hl2 : l < 2) (e1 : p1.toInt = (l : Int)) (hp : p < cn T) (e2 : p2.toInt = (p : Int)) (hH : isH h (gmn G) he) (i : Nat) (hi : i + 1 < gmn G) (Q : Int32 → (Nat → Int32) → (Nat → Int32) → (Nat → Int32) → (Nat → Int32) → (Nat → Int32) → Prop) (K : Int32 → Int32 → Int32 → Int32 → Int32 → Int32 → (Nat → Int32) → (Nat → Int32) → (Nat → Int32) → (Nat → Int32) → (Nat → Int32) → Prop) (x4 x5 x6 x7 x8 x9 : Int32) (h4 : x4.toInt = (cL T p : Int)) (h9 : x9.toInt = ((i + 1 : Nat) : Int)) (hB : isBr (brA T h (gfr G) p (gmn G) i) x5 x6 x7 x8) (hK : ∀ (a b c d : Int32) (fr' re' : Nat → Int32), isBr (brA T h (gfr G) p (gmn G) (i + 1)) a b c d → (∀ w, w < cL T p → (fr' w).toInt = mtZ T h (gfr G) p w (i + 1) ∧ (re' w).toInt = mtZ T h (gfr G) p w (gmn G) - mtZ T h (gfr G) p w (i + 1)) → K x4 a b c d (x9 + (1 : Int32)) F he ma fr' re') : ∀ (n k : Nat) (x10 : Int32) (fr re : Nat → Int32), x10.toInt = (k : Int) → (∀ w, w < cL T p → (fr w).toInt = mtZ T h (gfr G) p w (if w < k then i + 1 else i) ∧ (re w).toInt = mtZ T h (gfr G) p w (gmn G) - mtZ T h (gfr G) p w (if w < k then i + 1 else i)) → k ≤ cL T p → cL T p + 1 ≤ k + n → vX9_broken_c129 J al p1 p2 p3 Q K n x4 x5 x6 x7 x8 x9 x10 F he ma fr re
  | 0, k, x10, fr, re, _, _, hk, hn => absurd hn (by omega)
  | n + 1, k, x10, fr, re, h10, hfr, hk, hn => by
    have hlp := mT_L hT hp
    have hgm := gmn_le hG.1
    rw [vX9_broken_c129, q_le h4 h10]
    refine ⟨fun hc => ?_, fun hc => ?_⟩
    · have : k = cL T p := by omega
      subst this
      have hfr2 : ∀ w, w < cL T p → (fr w).toInt = mtZ T h (gfr G) p w (i + 1) ∧ (re w).toInt = mtZ T h (gfr G) p w (gmn G) - mtZ T h (gfr G) p w (i + 1) := fun w hw => by
        have := hfr w hw
        rw [if_pos hw] at this; exact this
      refine ⟨cL T p * cL T p + 1, sX9_broken_183 (fun w => mtZ T h (gfr G) p w (i + 1)) (fun w => mtZ T h (gfr G) p w (gmn G) - mtZ T h (gfr G) p w (i + 1)) (cL T p) (i + 1) (brA T h (gfr G) p (gmn G) i) F J al he ma fr re p1 p2 p3 hlp.2.1 hlp.2.2 (by omega) hfr2 (fun w => ?_) (fun w => ?_) Q K x4 x9 h4 h9 (fun a b c d hb => hK a b c d fr re hb hfr2) _ 0 _ _ _ _ _ rfl ?_ (by omega) (by omega)⟩
      · have := mt_b T h (gfr G) p w (i + 1) (by omega)
        show -1000 ≤ mtZ T h (gfr G) p w (i + 1) ∧ mtZ T h (gfr G) p w (i + 1) ≤ 1000
        omega
      · have := mt_b T h (gfr G) p w (i + 1) (by omega)
        have := mt_b T h (gfr G) p w (gmn G) hgm.2
        show -1000 ≤ mtZ T h (gfr G) p w (gmn G) - mtZ T h (gfr G) p w (i + 1) ∧ mtZ T h (gfr G) p w (gmn G) - mtZ T h (gfr G) p w (i + 1) ≤ 1000
        omega
      · rw [Nat.zero_div, Nat.zero_mod]; exact hB
    · have hkl : k < cL T p := by omega
      have h91 : (x9 - (1 : Int32)).toInt = (i : Int) := by rw [q_sub h9 z1 (by omega) (by omega)]; omega
      have hh := hH i (by omega)
      refine ⟨T, G, l, i, p, k, h, ⟨hT, hG, hl2, e1, h91, by omega, e2, hp, h10, by omega, hh.1, hh.2⟩, fun r hr => ⟨q_in h10 (by omega), ?_⟩⟩
      have hr : r.toInt = alZ T h (gfr G) p k i := hr
      have hal := alZ_le T h (gfr G) p k i
      have hfk := hfr k hkl
      rw [if_neg (by omega)] at hfk
      have b1 := mt_b T h (gfr G) p k i (by omega)
      have b2 := mt_b T h (gfr G) p k (gmn G) hgm.2
      rw [q_cl h10]
      refine fun a ha => ⟨q_in h10 (by omega), q_in h10 (by omega), fun c hc2 => ⟨q_in h10 (by omega), sX9_broken_129 T G l p h F J al he ma fr re p1 p2 p3 hT hG hl2 e1 hp e2 hH i hi Q K x4 x5 x6 x7 x8 x9 h4 h9 hB hK n (k + 1) _ _ _ (q_1 h10 (by omega)) (fun w hw => ?_) (by omega) (by omega)⟩⟩
      by_cases e : w = k
      · subst e
        rw [upd_eq, upd_eq, if_pos (by omega), ha, hc2, q_add hfk.1 hr (by omega) (by omega), q_sub hfk.2 hr (by omega) (by omega), mtZ]
        omega
      · rw [upd_ne e, upd_ne e]
        have := hfr w hw
        by_cases z : w < k
        · rw [if_pos z] at this; rw [if_pos (by omega)]; exact this
        · rw [if_neg z] at this; rw [if_neg (by omega)]; exact this
theorem sX9_broken_115 (T : Cd) (G0 G1 : Lg) (lim l p : Nat) (F : Nat → Int32) (J : Nat → Int64) (al : Nat → Int32) (he : Nat → Int32) (ma : Nat → Int32) (fr : Nat → Int32) (re : Nat → Int32) (p1 : Int32) (p2 : Int32) (p3 : Int32) (H : fcR T G0 G1 lim al) (hl2 : l < 2) (e1 : p1.toInt = (l : Int)) (hp : p < cn T) (e2 : p2.toInt = (p : Int)) (hm2 : 2 ≤ gmn (pkG G0 G1 l)) (hw : 0 ≤ p3.toInt ∧ p3.toInt ≤ 4) (hrl : rlC T G0 G1 lim l F he ma) (Q : Int32 → (Nat → Int32) → (Nat → Int32) → (Nat → Int32) → (Nat → Int32) → (Nat → Int32) → Prop) (hQ : ∀ (r : Int32) fr' re', r.toInt = spBroken T G0 G1 lim p1.toInt p2.toInt p3.toInt → Q r F he ma fr' re') (x4 : Int32) (h4 : x4.toInt = (cL T p : Int)) : ∀ (n i : Nat) (x5 x6 x7 x8 x9 : Int32) (fr re : Nat → Int32), x9.toInt = ((i + 1 : Nat) : Int) → isBr (brA T (hN T G0 G1 lim l) (gfr (pkG G0 G1 l)) p (gmn (pkG G0 G1 l)) i) x5 x6 x7 x8 → (∀ w, w < cL T p → (fr w).toInt = mtZ T (hN T G0 G1 lim l) (gfr (pkG G0 G1 l)) p w i ∧ (re w).toInt = mtZ T (hN T G0 G1 lim l) (gfr (pkG G0 G1 l)) p w (gmn (pkG G0 G1 l)) - mtZ T (hN T G0 G1 lim l) (gfr (pkG G0 G1 l)) p w i) → i + 1 ≤ gmn (pkG G0 G1 l) → gmn (pkG G0 G1 l) + 1 ≤ i + 1 + n → vX9_broken_c115 J al p1 p2 p3 Q n x4 x5 x6 x7 x8 x9 F he ma fr re
  | 0, i, x5, x6, x7, x8, x9, fr, re, _, _, _, hi, hn => absurd hn (by omega)
  | n + 1, i, x5, x6, x7, x8, x9, fr, re, h9, hB, hfr, hi, hn => by
    obtain ⟨hT, h0, h1, hlim, hl9, hl1⟩ := id H
    have hn5 := hT.1.2
    have hG := pk_mG h0 h1 hl2
    have hmn := mG_mn hG
    have hlp := mT_L hT hp
    have el : p1.toInt.toNat = l := by omega
    have ep : p2.toInt.toNat = p := by omega
    have hc2 : p1.toInt = 0 ∨ p1.toInt = 1 := by omega
    rw [vX9_broken_c115]
    refine ⟨l, 3, ⟨e1, rfl, by omega⟩, fun r hr => ?_⟩
    have hr : r.toInt = (gmn (pkG G0 G1 l) : Int) := by rw [hr]; exact hmn.1
    rw [q_le hr h9]
    refine ⟨fun hc => ?_, fun hc => ?_⟩
    · have : i = gmn (pkG G0 G1 l) - 1 := by omega
      subst this
      have hset := brA_set T (hN T G0 G1 lim l) (gfr (pkG G0 G1 l)) p (gmn (pkG G0 G1 l)) hmn.2.2 (by omega) (k := gmn (pkG G0 G1 l) - 2) (by omega)
      rw [show gmn (pkG G0 G1 l) - 2 + 1 = gmn (pkG G0 G1 l) - 1 by omega] at hset
      have hble := brA_le T (hN T G0 G1 lim l) (gfr (pkG G0 G1 l)) p (gmn (pkG G0 G1 l)) hmn.2.2 (gmn (pkG G0 G1 l) - 1) (by omega)
      have hb3 := hB.2 hset
      have hsp : ∀ r : Int32, r.toInt = (if p3.toInt = 0 then ((brA T (hN T G0 G1 lim l) (gfr (pkG G0 G1 l)) p (gmn (pkG G0 G1 l)) (gmn (pkG G0 G1 l) - 1)).2.1 : Int) else if p3.toInt = 1 then ((brA T (hN T G0 G1 lim l) (gfr (pkG G0 G1 l)) p (gmn (pkG G0 G1 l)) (gmn (pkG G0 G1 l) - 1)).2.2.1 : Int) else if p3.toInt = 2 then ((brA T (hN T G0 G1 lim l) (gfr (pkG G0 G1 l)) p (gmn (pkG G0 G1 l)) (gmn (pkG G0 G1 l) - 1)).2.2.2 : Int) else if p3.toInt = 3 then (brA T (hN T G0 G1 lim l) (gfr (pkG G0 G1 l)) p (gmn (pkG G0 G1 l)) (gmn (pkG G0 G1 l) - 1)).1 else (brA T (hN T G0 G1 lim l) (gfr (pkG G0 G1 l)) p (gmn (pkG G0 G1 l)) (gmn (pkG G0 G1 l) - 1)).1 - mN T G0 G1 lim l p (bN T G0 G1 lim l p)) → Q r F he ma fr re := fun r hr => hQ _ _ _ (by
        unfold spBroken
        rw [el, ep, if_pos ⟨hc2, by omega, hw, hm2⟩]; exact hr)
      simp only [fa_eq p3, z0, z1, z2, z3]
      refine ⟨fun q0 => ⟨fun q1 => ⟨fun q2 => ⟨fun q3 => ⟨T, p, mN T G0 G1 lim l, ⟨hn5, hT.2.1, e2, hp, hrl.2.1 p hp⟩, fun r2 hr2 => hsp _ ?_⟩, fun q3 => hsp _ ?_⟩, fun q2 => hsp _ ?_⟩, fun q1 => hsp _ ?_⟩, fun q0 => hsp _ ?_⟩
      · rw [if_neg q0, if_neg q1, if_neg q2, if_neg q3]
        have hmb := mN_le T G0 G1 lim l hmn.2.2 p (bN T G0 G1 lim l p)
        have hr2 : r2.toInt = mN T G0 G1 lim l p (bN T G0 G1 lim l p) := hr2
        exact q_sub hB.1 hr2 (by omega) (by omega)
      · rw [if_neg q0, if_neg q1, if_neg q2, if_pos q3]; exact hB.1
      · rw [if_neg q0, if_neg q1, if_pos q2]; exact hb3.2.2
      · rw [if_neg q0, if_pos q1]; exact hb3.2.1
      · rw [if_pos q0]; exact hb3.1
    · exact ⟨cL T p + 1, sX9_broken_129 T (pkG G0 G1 l) l p (hN T G0 G1 lim l) F J al he ma fr re p1 p2 p3 hT hG hl2 e1 hp e2 hrl.1 i (by omega) Q _ x4 x5 x6 x7 x8 x9 h4 h9 hB (fun a b c d fr2 re2 hb hf2 => sX9_broken_115 T G0 G1 lim l p F J al he ma fr re p1 p2 p3 H hl2 e1 hp e2 hm2 hw hrl Q hQ x4 h4 n (i + 1) a b c d _ fr2 re2 (q_1 h9 (by omega)) hb hf2 (by omega) (by omega)) _ 0 0 fr re rfl (fun w hw2 => by rw [if_neg (by omega)]; exact hfr w hw2) (by omega) (by omega)⟩
theorem sX9_broken_59 (T : Cd) (G0 G1 : Lg) (lim l p : Nat) (F : Nat → Int32) (J : Nat → Int64) (al : Nat → Int32) (he : Nat → Int32) (ma : Nat → Int32) (fr : Nat → Int32) (re : Nat → Int32) (p1 : Int32) (p2 : Int32) (p3 : Int32) (H : fcR T G0 G1 lim al) (hl2 : l < 2) (e1 : p1.toInt = (l : Int)) (hp : p < cn T) (e2 : p2.toInt = (p : Int)) (hm2 : 2 ≤ gmn (pkG G0 G1 l)) (hw : 0 ≤ p3.toInt ∧ p3.toInt ≤ 4) (hrl : rlC T G0 G1 lim l F he ma) (Q : Int32 → (Nat → Int32) → (Nat → Int32) → (Nat → Int32) → (Nat → Int32) → (Nat → Int32) → Prop) (hQ : ∀ (r : Int32) fr' re', r.toInt = spBroken T G0 G1 lim p1.toInt p2.toInt p3.toInt → Q r F he ma fr' re') (x4 : Int32) (h4 : x4.toInt = (cL T p : Int)) : ∀ (n k : Nat) (x5 : Int32) (fr re : Nat → Int32), x5.toInt = (k : Int) → (∀ w, w < k → (fr w).toInt = 0 ∧ (re w).toInt = mtZ T (hN T G0 G1 lim l) (gfr (pkG G0 G1 l)) p w (gmn (pkG G0 G1 l))) → k ≤ cL T p → cL T p + 1 ≤ k + n → vX9_broken_c59 J al p1 p2 p3 Q n x4 x5 F he ma fr re
  | 0, k, x5, fr, re, _, _, hk, hn => absurd hn (by omega)
  | n + 1, k, x5, fr, re, h5, hfr, hk, hn => by
    obtain ⟨hT, h0, h1, hlim, hl9, hl1⟩ := id H
    have hn5 := hT.1.2
    have hlp := mT_L hT hp
    rw [vX9_broken_c59, q_le h4 h5]
    refine ⟨fun hc => ⟨gmn (pkG G0 G1 l) + 1, sX9_broken_115 T G0 G1 lim l p F J al he ma fr re p1 p2 p3 H hl2 e1 hp e2 hm2 hw hrl Q hQ x4 h4 _ 0 _ _ _ _ _ fr re rfl ⟨rfl, fun z => absurd z (by show ¬ 1 ≤ 0; omega)⟩ (fun w hw2 => ?_) (by omega) (by omega)⟩, fun hc => ?_⟩
    · have := hfr w (by omega)
      refine ⟨this.1, ?_⟩
      rw [this.2, mtZ]; omega
    · have e := q_13 e2 h5 (by omega) (by omega)
      rw [q_cl h5, q_cl e]
      refine ⟨q_in h5 (by omega), q_in e (by omega), fun a ha => ⟨q_in h5 (by omega), sX9_broken_59 T G0 G1 lim l p F J al he ma fr re p1 p2 p3 H hl2 e1 hp e2 hm2 hw hrl Q hQ x4 h4 n (k + 1) _ _ _ (q_1 h5 (by omega)) (fun w hw2 => ?_) (by omega) (by omega)⟩⟩
      by_cases z : w = k
      · subst z; rw [upd_eq, upd_eq, ha]; exact ⟨rfl, hrl.2.1 p hp w (by omega)⟩
      · rw [upd_ne z, upd_ne z]; exact hfr w (by omega)
abbrev preX9_broken (T : Cd) (G0 : Lg) (G1 : Lg) (lim : Nat) (F : Nat → Int32) (J : Nat → Int64) (al : Nat → Int32) (he : Nat → Int32) (ma : Nat → Int32) (fr : Nat → Int32) (re : Nat → Int32) (p1 : Int32) (p2 : Int32) (p3 : Int32) : Prop := fcR T G0 G1 lim al
abbrev postX9_broken (T : Cd) (G0 : Lg) (G1 : Lg) (lim : Nat) (F : Nat → Int32) (J : Nat → Int64) (al : Nat → Int32) (he : Nat → Int32) (ma : Nat → Int32) (fr : Nat → Int32) (re : Nat → Int32) (p1 : Int32) (p2 : Int32) (p3 : Int32) (r : Int32) (F' : Nat → Int32) (he' : Nat → Int32) (ma' : Nat → Int32) (fr' : Nat → Int32) (re' : Nat → Int32) : Prop := r.toInt = spBroken T G0 G1 lim p1.toInt p2.toInt p3.toInt
theorem sX9_broken (T : Cd) (G0 : Lg) (G1 : Lg) (lim : Nat) (F : Nat → Int32) (J : Nat → Int64) (al : Nat → Int32) (he : Nat → Int32) (ma : Nat → Int32) (fr : Nat → Int32) (re : Nat → Int32) (p1 : Int32) (p2 : Int32) (p3 : Int32) (H : preX9_broken T G0 G1 lim F J al he ma fr re p1 p2 p3) : vX9_broken F J al he ma fr re p1 p2 p3 (postX9_broken T G0 G1 lim F J al he ma fr re p1 p2 p3) := by
  obtain ⟨hT, h0, h1, hlim, hl9, hl1⟩ := id H
  have hn5 := hT.1.2
  have out : ¬ ((p1.toInt = 0 ∨ p1.toInt = 1) ∧ (0 ≤ p2.toInt ∧ p2.toInt < (cn T : Int)) ∧ (0 ≤ p3.toInt ∧ p3.toInt ≤ 4) ∧ 2 ≤ gmn (pkG G0 G1 p1.toInt.toNat)) → (-1000 : Int32).toInt = spBroken T G0 G1 lim p1.toInt p2.toInt p3.toInt := fun q => by
    unfold spBroken; rw [if_neg q]; rfl
  refine ⟨trivial, fun r hr => ?_⟩
  have hr : r = if p1.toInt = 0 ∨ p1.toInt = 1 then 1 else 0 := hr
  rw [hr, q_if1]
  refine ⟨fun hc => out (fun q => hc q.1), fun hc => ⟨cn T, hT.1.1, fun r2 hr2 => ?_⟩⟩
  have hc := Decidable.not_not.mp hc
  have hr2 : r2 = if 0 ≤ p2.toInt ∧ p2.toInt < (cn T : Int) then 1 else 0 := hr2
  rw [hr2, q_if1]
  refine ⟨fun hd => out (fun q => hd q.2.1), fun hd => ⟨trivial, fun r3 hr3 => ?_⟩⟩
  have hd := Decidable.not_not.mp hd
  have hr3 : r3 = if 0 ≤ p3.toInt ∧ p3.toInt ≤ 4 then 1 else 0 := hr3
  rw [hr3, q_if1]
  refine ⟨fun he => out (fun q => he q.2.2.1), fun he => ?_⟩
  have he := Decidable.not_not.mp he
  have e1 : p1.toInt = (p1.toInt.toNat : Int) := by omega
  have e2 : p2.toInt = (p2.toInt.toNat : Int) := by omega
  have hp : p2.toInt.toNat < cn T := by omega
  have hG := pk_mG h0 h1 (l := p1.toInt.toNat) (by omega)
  have hmn := mG_mn hG
  have hlp := mT_L hT hp
  refine ⟨p1.toInt.toNat, 3, ⟨e1, rfl, by omega⟩, fun r4 hr4 => ?_⟩
  have hr4 : r4.toInt = (gmn (pkG G0 G1 p1.toInt.toNat) : Int) := by rw [hr4]; exact hmn.1
  rw [fa_le _ r4, z2, hr4]
  refine ⟨fun hz => ⟨T, G0, G1, p1.toInt.toNat, lim, fcR_ll H _ _ _ _ hc, fun F2 he2 ma2 hq => ⟨p2.toInt.toNat, 0, ⟨e2, rfl, by omega⟩, fun r5 hr5 => ?_⟩⟩, fun hz => out (fun q => by omega)⟩
  have h2 := rlC_of hq
  have hr5 : r5.toInt = (cL T p2.toInt.toNat : Int) := by rw [hr5]; exact hlp.1
  exact ⟨14, sX9_broken_59 T G0 G1 lim p1.toInt.toNat p2.toInt.toNat F2 J al he2 ma2 fr re p1 p2 p3 H (by omega) e1 hp e2 (by omega) he h2 _ (fun r6 _ _ h => h) r5 hr5 14 0 0 fr re rfl (fun w hw => absurd hw (by omega)) (by omega) (by omega)⟩
