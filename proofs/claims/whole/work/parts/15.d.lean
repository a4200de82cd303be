set_option maxRecDepth 20000 in
theorem ggX9_best_X9_isLeg : GoodIn wsX9_best wsX9_isLeg := goodIn_r _ [7, 8, 9, 6, 10] (by decide +kernel) (by decide +kernel)
set_option maxRecDepth 20000 in
theorem gX9_best_X9_isLeg : GoodIn wsX9_best (va_wsS RX9 182 yX9_isLeg wsX9_isLeg) := goodIn_app (goodIn_of _ (by decide +kernel)) ggX9_best_X9_isLeg
set_option maxRecDepth 20000 in
theorem ggX9_best_X9_isPart : GoodIn wsX9_best wsX9_isPart := goodIn_r _ [14, 15, 8, 9, 6, 10, 123, 124, 125, 126, 127, 128, 129, 130, 131, 132, 133, 134, 135, 136, 137, 138, 139, 140, 141, 142, 143, 144, 145, 146, 147, 148, 149, 150, 151] (by decide +kernel) (by decide +kernel)
set_option maxRecDepth 20000 in
theorem gX9_best_X9_isPart : GoodIn wsX9_best (wsV RX9 192 RX9 yX9_isPart wsX9_isPart) := goodIn_app (goodIn_of _ (by decide +kernel)) ggX9_best_X9_isPart
set_option maxRecDepth 20000 in
theorem ggX9_best_X9_in : GoodIn wsX9_best wsX9_in := goodIn_r _ [10] (by decide +kernel) (by decide +kernel)
set_option maxRecDepth 20000 in
theorem gX9_best_X9_in : GoodIn wsX9_best (va_wsS RX9 63 yX9_in wsX9_in) := goodIn_app (goodIn_of _ (by decide +kernel)) ggX9_best_X9_in
set_option maxRecDepth 20000 in
theorem ggX9_best_X9_laysLeg : GoodIn wsX9_best wsX9_laysLeg := goodIn_r _ [19, 20, 21, 22, 23, 24, 6, 25, 26, 27, 28, 29, 30, 31, 32, 33, 34, 35, 36, 37, 38, 15, 39, 40, 41, 42, 43, 44, 45, 46, 47, 48, 49, 50, 51, 52, 53, 54, 55, 56, 57, 58, 59, 60, 61, 62, 63, 64, 65, 66, 67, 68, 69, 70, 71, 8, 9, 10, 72, 73, 74, 75, 3, 76, 77, 78, 79, 80, 81, 82, 83, 84, 85, 86, 87, 88, 89, 90, 91, 92, 93, 94, 95, 96, 97, 98, 99, 100, 101, 102, 103, 104, 105, 106, 107, 108, 109, 110, 111, 112, 113, 114, 115, 123, 124, 125, 126, 127, 128, 129, 130, 131, 132, 133, 134, 135, 136, 137, 138, 139, 140, 141, 142, 143, 144, 145, 146, 147, 148, 149, 150, 151] (by decide +kernel) (by decide +kernel)
set_option maxRecDepth 20000 in
theorem gX9_best_X9_laysLeg : GoodIn wsX9_best (wsV RX9 294 RX9 yX9_laysLeg wsX9_laysLeg) := goodIn_app (goodIn_of _ (by decide +kernel)) ggX9_best_X9_laysLeg
set_option maxRecDepth 20000 in
theorem ggX9_best_X9_bestOf : GoodIn wsX9_best wsX9_bestOf := goodIn_r _ [105, 3, 61, 62, 63, 6, 64, 15, 123, 124, 125, 126, 127, 128, 129, 130, 131, 132, 133, 134, 135, 136, 137, 138, 139, 140, 141, 142, 143, 144, 145, 146, 147, 148, 149, 150, 151] (by decide +kernel) (by decide +kernel)
set_option maxRecDepth 20000 in
theorem gX9_best_X9_bestOf : GoodIn wsX9_best (wsV RX9 260 RX9 yX9_bestOf wsX9_bestOf) := goodIn_app (goodIn_of _ (by decide +kernel)) ggX9_best_X9_bestOf
set_option maxRecDepth 20000 in
theorem ggX9_best_X9_of : GoodIn wsX9_best wsX9_of := goodIn_r _ [64, 15, 123, 124, 125, 126, 127, 128, 129, 130, 131, 132, 133, 134, 135, 136, 137, 138, 139, 140, 141, 142, 143, 144, 145, 146, 147, 148, 149, 150, 151] (by decide +kernel) (by decide +kernel)
set_option maxRecDepth 20000 in
theorem gX9_best_X9_of : GoodIn wsX9_best (wsV RX9 195 RX9 yX9_of wsX9_of) := goodIn_app (goodIn_of _ (by decide +kernel)) ggX9_best_X9_of
set_option maxRecDepth 20000 in
theorem ggX9_best_X9_greater : GoodIn wsX9_best wsX9_greater := goodIn_r _ [118] (by decide +kernel) (by decide +kernel)
set_option maxRecDepth 20000 in
theorem gX9_best_X9_greater : GoodIn wsX9_best (va_wsS RX9 298 yX9_greater wsX9_greater) := goodIn_app (goodIn_of _ (by decide +kernel)) ggX9_best_X9_greater
set_option maxRecDepth 20000 in
theorem ggX9_best_X9_matchOf : GoodIn wsX9_best wsX9_matchOf := goodIn_r _ [122, 3, 102, 103, 104, 6, 105, 61, 62, 63, 64, 15, 123, 124, 125, 126, 127, 128, 129, 130, 131, 132, 133, 134, 135, 136, 137, 138, 139, 140, 141, 142, 143, 144, 145, 146, 147, 148, 149, 150, 151] (by decide +kernel) (by decide +kernel)
set_option maxRecDepth 20000 in
theorem gX9_best_X9_matchOf : GoodIn wsX9_best (wsV RX9 301 RX9 yX9_matchOf wsX9_matchOf) := goodIn_app (goodIn_of _ (by decide +kernel)) ggX9_best_X9_matchOf
theorem dX9_best_0 : decode cX9_best 0 = .ok (.aload_n 0, 1) := by decide +kernel
theorem dX9_best_1 : decode cX9_best 1 = .ok (.iconst 0, 1) := by decide +kernel
theorem dX9_best_2 : decode cX9_best 2 = .ok (.putfield 51, 3) := by decide +kernel
theorem dX9_best_5 : decode cX9_best 5 = .ok (.iload_n 1, 1) := by decide +kernel
theorem dX9_best_6 : decode cX9_best 6 = .ok (.invokestatic 182, 3) := by decide +kernel
theorem dX9_best_9 : decode cX9_best 9 = .ok (.ifCond .eq 20, 3) := by decide +kernel
theorem dX9_best_12 : decode cX9_best 12 = .ok (.aload_n 0, 1) := by decide +kernel
theorem dX9_best_13 : decode cX9_best 13 = .ok (.iload_n 2, 1) := by decide +kernel
theorem dX9_best_14 : decode cX9_best 14 = .ok (.invokevirtual 192, 3) := by decide +kernel
theorem dX9_best_17 : decode cX9_best 17 = .ok (.ifCond .eq 12, 3) := by decide +kernel
theorem dX9_best_20 : decode cX9_best 20 = .ok (.iload_n 3, 1) := by decide +kernel
theorem dX9_best_21 : decode cX9_best 21 = .ok (.iconst 0, 1) := by decide +kernel
theorem dX9_best_22 : decode cX9_best 22 = .ok (.iconst 3, 1) := by decide +kernel
theorem dX9_best_23 : decode cX9_best 23 = .ok (.invokestatic 63, 3) := by decide +kernel
theorem dX9_best_26 : decode cX9_best 26 = .ok (.ifCond .ne 7, 3) := by decide +kernel
theorem dX9_best_29 : decode cX9_best 29 = .ok (.sipush (-1000), 3) := by decide +kernel
theorem dX9_best_32 : decode cX9_best 32 = .ok (.ireturn, 1) := by decide +kernel
theorem dX9_best_33 : decode cX9_best 33 = .ok (.aload_n 0, 1) := by decide +kernel
theorem dX9_best_34 : decode cX9_best 34 = .ok (.iload_n 1, 1) := by decide +kernel
theorem dX9_best_35 : decode cX9_best 35 = .ok (.invokevirtual 294, 3) := by decide +kernel
theorem dX9_best_38 : decode cX9_best 38 = .ok (.aload_n 0, 1) := by decide +kernel
theorem dX9_best_39 : decode cX9_best 39 = .ok (.iload_n 2, 1) := by decide +kernel
theorem dX9_best_40 : decode cX9_best 40 = .ok (.invokevirtual 260, 3) := by decide +kernel
theorem dX9_best_43 : decode cX9_best 43 = .ok (.istore 4, 2) := by decide +kernel
theorem dX9_best_45 : decode cX9_best 45 = .ok (.ldc 222, 2) := by decide +kernel
theorem dX9_best_47 : decode cX9_best 47 = .ok (.istore 5, 2) := by decide +kernel
theorem dX9_best_49 : decode cX9_best 49 = .ok (.iconst 0, 1) := by decide +kernel
theorem dX9_best_50 : decode cX9_best 50 = .ok (.istore 6, 2) := by decide +kernel
theorem dX9_best_52 : decode cX9_best 52 = .ok (.iconst 0, 1) := by decide +kernel
theorem dX9_best_53 : decode cX9_best 53 = .ok (.istore 7, 2) := by decide +kernel
theorem dX9_best_55 : decode cX9_best 55 = .ok (.iload 7, 2) := by decide +kernel
theorem dX9_best_57 : decode cX9_best 57 = .ok (.aload_n 0, 1) := by decide +kernel
theorem dX9_best_58 : decode cX9_best 58 = .ok (.iload_n 2, 1) := by decide +kernel
theorem dX9_best_59 : decode cX9_best 59 = .ok (.iconst 0, 1) := by decide +kernel
theorem dX9_best_60 : decode cX9_best 60 = .ok (.invokevirtual 195, 3) := by decide +kernel
theorem dX9_best_63 : decode cX9_best 63 = .ok (.if_icmp .ge 64, 3) := by decide +kernel
theorem dX9_best_66 : decode cX9_best 66 = .ok (.aload_n 0, 1) := by decide +kernel
theorem dX9_best_67 : decode cX9_best 67 = .ok (.getfield 33, 3) := by decide +kernel
theorem dX9_best_70 : decode cX9_best 70 = .ok (.bipush 13, 2) := by decide +kernel
theorem dX9_best_72 : decode cX9_best 72 = .ok (.iload_n 2, 1) := by decide +kernel
theorem dX9_best_73 : decode cX9_best 73 = .ok (.imul, 1) := by decide +kernel
theorem dX9_best_74 : decode cX9_best 74 = .ok (.iload 7, 2) := by decide +kernel
theorem dX9_best_76 : decode cX9_best 76 = .ok (.iadd, 1) := by decide +kernel
theorem dX9_best_77 : decode cX9_best 77 = .ok (.iaload, 1) := by decide +kernel
theorem dX9_best_78 : decode cX9_best 78 = .ok (.istore 8, 2) := by decide +kernel
theorem dX9_best_80 : decode cX9_best 80 = .ok (.iload 7, 2) := by decide +kernel
theorem dX9_best_82 : decode cX9_best 82 = .ok (.iload 4, 2) := by decide +kernel
theorem dX9_best_84 : decode cX9_best 84 = .ok (.if_icmp .ne 8, 3) := by decide +kernel
theorem dX9_best_87 : decode cX9_best 87 = .ok (.iload 5, 2) := by decide +kernel
theorem dX9_best_89 : decode cX9_best 89 = .ok (.goto 10, 3) := by decide +kernel
theorem dX9_best_92 : decode cX9_best 92 = .ok (.iload 5, 2) := by decide +kernel
theorem dX9_best_94 : decode cX9_best 94 = .ok (.iload 8, 2) := by decide +kernel
theorem dX9_best_96 : decode cX9_best 96 = .ok (.invokestatic 298, 3) := by decide +kernel
theorem dX9_best_99 : decode cX9_best 99 = .ok (.istore 5, 2) := by decide +kernel
theorem dX9_best_101 : decode cX9_best 101 = .ok (.iload 6, 2) := by decide +kernel
theorem dX9_best_103 : decode cX9_best 103 = .ok (.iload 8, 2) := by decide +kernel
theorem dX9_best_105 : decode cX9_best 105 = .ok (.aload_n 0, 1) := by decide +kernel
theorem dX9_best_106 : decode cX9_best 106 = .ok (.iload_n 2, 1) := by decide +kernel
theorem dX9_best_107 : decode cX9_best 107 = .ok (.invokevirtual 301, 3) := by decide +kernel
theorem dX9_best_110 : decode cX9_best 110 = .ok (.if_icmp .ne 7, 3) := by decide +kernel
theorem dX9_best_113 : decode cX9_best 113 = .ok (.iconst 1, 1) := by decide +kernel
theorem dX9_best_114 : decode cX9_best 114 = .ok (.goto 4, 3) := by decide +kernel
theorem dX9_best_117 : decode cX9_best 117 = .ok (.iconst 0, 1) := by decide +kernel
theorem dX9_best_118 : decode cX9_best 118 = .ok (.iadd, 1) := by decide +kernel
theorem dX9_best_119 : decode cX9_best 119 = .ok (.istore 6, 2) := by decide +kernel
theorem dX9_best_121 : decode cX9_best 121 = .ok (.iinc 7 1, 3) := by decide +kernel
theorem dX9_best_124 : decode cX9_best 124 = .ok (.goto (-69), 3) := by decide +kernel
theorem dX9_best_127 : decode cX9_best 127 = .ok (.iload_n 3, 1) := by decide +kernel
theorem dX9_best_128 : decode cX9_best 128 = .ok (.ifCond .ne 8, 3) := by decide +kernel
theorem dX9_best_131 : decode cX9_best 131 = .ok (.iload 4, 2) := by decide +kernel
theorem dX9_best_133 : decode cX9_best 133 = .ok (.goto 34, 3) := by decide +kernel
theorem dX9_best_136 : decode cX9_best 136 = .ok (.iload_n 3, 1) := by decide +kernel
theorem dX9_best_137 : decode cX9_best 137 = .ok (.iconst 1, 1) := by decide +kernel
theorem dX9_best_138 : decode cX9_best 138 = .ok (.if_icmp .ne 11, 3) := by decide +kernel
theorem dX9_best_141 : decode cX9_best 141 = .ok (.aload_n 0, 1) := by decide +kernel
theorem dX9_best_142 : decode cX9_best 142 = .ok (.iload_n 2, 1) := by decide +kernel
theorem dX9_best_143 : decode cX9_best 143 = .ok (.invokevirtual 301, 3) := by decide +kernel
theorem dX9_best_146 : decode cX9_best 146 = .ok (.goto 21, 3) := by decide +kernel
theorem dX9_best_149 : decode cX9_best 149 = .ok (.iload_n 3, 1) := by decide +kernel
theorem dX9_best_150 : decode cX9_best 150 = .ok (.iconst 2, 1) := by decide +kernel
theorem dX9_best_151 : decode cX9_best 151 = .ok (.if_icmp .ne 14, 3) := by decide +kernel
theorem dX9_best_154 : decode cX9_best 154 = .ok (.aload_n 0, 1) := by decide +kernel
theorem dX9_best_155 : decode cX9_best 155 = .ok (.iload_n 2, 1) := by decide +kernel
theorem dX9_best_156 : decode cX9_best 156 = .ok (.invokevirtual 301, 3) := by decide +kernel
theorem dX9_best_159 : decode cX9_best 159 = .ok (.iload 5, 2) := by decide +kernel
theorem dX9_best_161 : decode cX9_best 161 = .ok (.isub, 1) := by decide +kernel
theorem dX9_best_162 : decode cX9_best 162 = .ok (.goto 5, 3) := by decide +kernel
theorem dX9_best_165 : decode cX9_best 165 = .ok (.iload 6, 2) := by decide +kernel
theorem dX9_best_167 : decode cX9_best 167 = .ok (.ireturn, 1) := by decide +kernel
abbrev rmX9_best : Room := { frames := 7, cells := 0, slots := 0, locals := 162 }
theorem inX9_best_9 : ∀ w ∈ wsX90, w ∈ wsX9_best := by decide +kernel
def vX9_best_c99 (J : Nat → Int64) (al : Nat → Int32) (p1 : Int32) (p2 : Int32) (p3 : Int32) (Q : Int32 → (Nat → Int32) → (Nat → Int32) → (Nat → Int32) → Prop) (K55 : Int32 → Int32 → Int32 → Int32 → (Nat → Int32) → (Nat → Int32) → (Nat → Int32) → Prop) (x4 : Int32) (x6 : Int32) (x7 : Int32) (x8 : Int32) (s0 : Int32) (F : Nat → Int32) (he : Nat → Int32) (ma : Nat → Int32) : Prop := (∃ (T_107 : Cd) (p_107 : Nat) (m_107 : Nat → Nat → Int), preX9_matchOf T_107 p_107 m_107 F J al ma p2 ∧ (∀ r_107 : Int32, postX9_matchOf T_107 p_107 m_107 F J al ma p2 r_107 → ((¬ x8 = r_107 → (K55 x4 s0 (x6 + (0 : Int32)) (x7 + (1 : Int32)) F he ma)) ∧ (x8 = r_107 → (K55 x4 s0 (x6 + (1 : Int32)) (x7 + (1 : Int32)) F he ma)))))
set_option maxHeartbeats 4000000 in
set_option maxRecDepth 100000 in
theorem kX9_best_c99 {p : Program} {l : Launch} {e : Env} {s : State} {m : MethodId} {args : Array Value} {below : List Frame} {meth : Method} {c : Code} {g : GP} {qM : Nat} {q1 : Nat} {q2 : Nat} {q3 : Nat} {q4 : Nat} {q5 : Nat} {q6 : Nat} {q7 : Nat} {q8 : Nat} {q9 : Nat} {q10 : Nat} {q11 : Nat} {J : Nat → Int64} {al : Nat → Int32} {p1 : Int32} {p2 : Int32} {p3 : Int32} {Q : Int32 → (Nat → Int32) → (Nat → Int32) → (Nat → Int32) → Prop} {A : Nat → Prop} {K55 : Int32 → Int32 → Int32 → Int32 → (Nat → Int32) → (Nat → Int32) → (Nat → Int32) → Prop} (S : CallFix p m c cX9_best 9 s args wsX9_best RX9) (hr : meth.sig.returnType = (some .int)) (hlocks : meth.locks = false) (hG : GK g s) (hA : ∀ q : Nat, s.heap.size ≤ q → A q) (kk55 : ∀ (x4 : Int32) (x5 : Int32) (x6 : Int32) (x7 : Int32) (F : Nat → Int32) (he : Nat → Int32) (ma : Nat → Int32), K55 x4 x5 x6 x7 F he ma → ∀ (H : Heap) (locs : List Loc), va_P g.1 vwCl [(qM, .inr (9, [.int (F 0), .ref q1, .ref q2, .ref q3, .int (F 4), .int (F 5), .int (F 6), .int (F 7), .int (F 8), .int (F 9), .long (J 10), .int (F 11), .int (F 12), .int (F 13), .ref q4, .int (F 15), .ref q5, .ref q6, .ref q7, .int (F 19), .ref q8, .int (F 21), .int (F 22), .int (F 23), .int (F 24), .ref q9, .ref q10, .ref q11, .long (J 28)])), (q1, .inl (g.2 0, 376, .inl al)), (q7, .inl (g.2 0, 200, .inl he)), (q8, .inl (g.2 0, 65, .inl ma))] H → va_D A [(qM, .inr (9, [.int (F 0), .ref q1, .ref q2, .ref q3, .int (F 4), .int (F 5), .int (F 6), .int (F 7), .int (F 8), .int (F 9), .long (J 10), .int (F 11), .int (F 12), .int (F 13), .ref q4, .int (F 15), .ref q5, .ref q6, .ref q7, .int (F 19), .ref q8, .int (F 21), .int (F 22), .int (F 23), .int (F 24), .ref q9, .ref q10, .ref q11, .long (J 28)])), (q1, .inl (g.2 0, 376, .inl al)), (q7, .inl (g.2 0, 200, .inl he)), (q8, .inl (g.2 0, 65, .inl ma))] → va_S A s.heap H locs → ∀ (ls : Array Slot), lv_has ls 9 [(0, .ref qM), (2, .int p2), (3, .int p3), (4, .int x4), (5, .int x5), (6, .int x6), (7, .int x7)] → W p l e (headSpec wsX9_best rmX9_best).room s m args below meth c H locs 0 0 (MQ below (va_Qi (fun (r : Int32) (u : (Nat → Int32) × (Nat → Int32) × (Nat → Int32)) => Q r u.1 u.2.1 u.2.2) (fun (u : (Nat → Int32) × (Nat → Int32) × (Nat → Int32)) t => va_P g.1 vwCl [(qM, .inr (9, [.int (u.1 0), .ref q1, .ref q2, .ref q3, .int (u.1 4), .int (u.1 5), .int (u.1 6), .int (u.1 7), .int (u.1 8), .int (u.1 9), .long (J 10), .int (u.1 11), .int (u.1 12), .int (u.1 13), .ref q4, .int (u.1 15), .ref q5, .ref q6, .ref q7, .int (u.1 19), .ref q8, .int (u.1 21), .int (u.1 22), .int (u.1 23), .int (u.1 24), .ref q9, .ref q10, .ref q11, .long (J 28)])), (q1, .inl (g.2 0, 376, .inl al)), (q7, .inl (g.2 0, 200, .inl u.2.1)), (q8, .inl (g.2 0, 65, .inl u.2.2))] t.heap ∧ va_D A [(qM, .inr (9, [.int (u.1 0), .ref q1, .ref q2, .ref q3, .int (u.1 4), .int (u.1 5), .int (u.1 6), .int (u.1 7), .int (u.1 8), .int (u.1 9), .long (J 10), .int (u.1 11), .int (u.1 12), .int (u.1 13), .ref q4, .int (u.1 15), .ref q5, .ref q6, .ref q7, .int (u.1 19), .ref q8, .int (u.1 21), .int (u.1 22), .int (u.1 23), .int (u.1 24), .ref q9, .ref q10, .ref q11, .long (J 28)])), (q1, .inl (g.2 0, 376, .inl al)), (q7, .inl (g.2 0, 200, .inl u.2.1)), (q8, .inl (g.2 0, 65, .inl u.2.2))]) A) args s 0 0 A) (F0 m 55 ls [])) : ∀ (x4 : Int32) (x6 : Int32) (x7 : Int32) (x8 : Int32) (s0 : Int32) (F : Nat → Int32) (he : Nat → Int32) (ma : Nat → Int32), vX9_best_c99 J al p1 p2 p3 Q K55 x4 x6 x7 x8 s0 F he ma → ∀ (H : Heap) (locs : List Loc), va_P g.1 vwCl [(qM, .inr (9, [.int (F 0), .ref q1, .ref q2, .ref q3, .int (F 4), .int (F 5), .int (F 6), .int (F 7), .int (F 8), .int (F 9), .long (J 10), .int (F 11), .int (F 12), .int (F 13), .ref q4, .int (F 15), .ref q5, .ref q6, .ref q7, .int (F 19), .ref q8, .int (F 21), .int (F 22), .int (F 23), .int (F 24), .ref q9, .ref q10, .ref q11, .long (J 28)])), (q1, .inl (g.2 0, 376, .inl al)), (q7, .inl (g.2 0, 200, .inl he)), (q8, .inl (g.2 0, 65, .inl ma))] H → va_D A [(qM, .inr (9, [.int (F 0), .ref q1, .ref q2, .ref q3, .int (F 4), .int (F 5), .int (F 6), .int (F 7), .int (F 8), .int (F 9), .long (J 10), .int (F 11), .int (F 12), .int (F 13), .ref q4, .int (F 15), .ref q5, .ref q6, .ref q7, .int (F 19), .ref q8, .int (F 21), .int (F 22), .int (F 23), .int (F 24), .ref q9, .ref q10, .ref q11, .long (J 28)])), (q1, .inl (g.2 0, 376, .inl al)), (q7, .inl (g.2 0, 200, .inl he)), (q8, .inl (g.2 0, 65, .inl ma))] → va_S A s.heap H locs → ∀ (ls : Array Slot), lv_has ls 9 [(0, .ref qM), (2, .int p2), (3, .int p3), (4, .int x4), (6, .int x6), (7, .int x7), (8, .int x8)] → W p l e (headSpec wsX9_best rmX9_best).room s m args below meth c H locs 0 0 (MQ below (va_Qi (fun (r : Int32) (u : (Nat → Int32) × (Nat → Int32) × (Nat → Int32)) => Q r u.1 u.2.1 u.2.2) (fun (u : (Nat → Int32) × (Nat → Int32) × (Nat → Int32)) t => va_P g.1 vwCl [(qM, .inr (9, [.int (u.1 0), .ref q1, .ref q2, .ref q3, .int (u.1 4), .int (u.1 5), .int (u.1 6), .int (u.1 7), .int (u.1 8), .int (u.1 9), .long (J 10), .int (u.1 11), .int (u.1 12), .int (u.1 13), .ref q4, .int (u.1 15), .ref q5, .ref q6, .ref q7, .int (u.1 19), .ref q8, .int (u.1 21), .int (u.1 22), .int (u.1 23), .int (u.1 24), .ref q9, .ref q10, .ref q11, .long (J 28)])), (q1, .inl (g.2 0, 376, .inl al)), (q7, .inl (g.2 0, 200, .inl u.2.1)), (q8, .inl (g.2 0, 65, .inl u.2.2))] t.heap ∧ va_D A [(qM, .inr (9, [.int (u.1 0), .ref q1, .ref q2, .ref q3, .int (u.1 4), .int (u.1 5), .int (u.1 6), .int (u.1 7), .int (u.1 8), .int (u.1 9), .long (J 10), .int (u.1 11), .int (u.1 12), .int (u.1 13), .ref q4, .int (u.1 15), .ref q5, .ref q6, .ref q7, .int (u.1 19), .ref q8, .int (u.1 21), .int (u.1 22), .int (u.1 23), .int (u.1 24), .ref q9, .ref q10, .ref q11, .long (J 28)])), (q1, .inl (g.2 0, 376, .inl al)), (q7, .inl (g.2 0, 200, .inl u.2.1)), (q8, .inl (g.2 0, 65, .inl u.2.2))]) A) args s 0 0 A) (F0 m 99 ls [.int s0]) := by
  obtain ⟨hx, hb, hml, hown, hts⟩ := id S
  have hK := hG.1
  intro x4 x6 x7 x8 s0 F he ma hv H locs hP hD hS ls hl
  unfold vX9_best_c99 at hv
  refine lv_istore (lv' := [(5, .int s0), (0, .ref qM), (2, .int p2), (3, .int p3), (4, .int x4), (6, .int x6), (7, .int x7), (8, .int x8)]) hx hb dX9_best_99 hl (by decide) rfl (fun ls hl => ?_)
  refine lv_iload hx hb dX9_best_101 (lv_at hl 5 rfl) ?_
  refine lv_iload hx hb dX9_best_103 (lv_at hl 7 rfl) ?_
  refine lv_aload_n hx hb dX9_best_105 rfl (lv_at hl 1 rfl) ?_
  refine lv_iload_n hx hb dX9_best_106 rfl (lv_at hl 2 rfl) ?_
  obtain ⟨T_107, p_107, m_107, ho_1, hv⟩ := hv
  refine vp_callSi (W.runV (As := [.int p2]) (rest := [.int x8, .int x6]) S (wX9_matchOf l g qM q1 q2 q3 q4 q5 q6 q7 q8 q9 q10 q11 F J al ma p2 (sX9_matchOf T_107 p_107 m_107 F J al ma p2 ho_1)) (cwV 1 hts gX9_best_X9_matchOf rfl rfl rfl (by decide +kernel) ⟨Nat.le_of_ble_eq_true rfl, Nat.le_of_ble_eq_true rfl⟩) ⟨blindRO, va_recv hK hP (ci := 9) (q0 := 0) rfl rfl, fun U hU hW => ⟨rfl, by rw [hU]; exact hP.sub (ws' := [(qM, .inr (9, [.int (F 0), .ref q1, .ref q2, .ref q3, .int (F 4), .int (F 5), .int (F 6), .int (F 7), .int (F 8), .int (F 9), .long (J 10), .int (F 11), .int (F 12), .int (F 13), .ref q4, .int (F 15), .ref q5, .ref q6, .ref q7, .int (F 19), .ref q8, .int (F 21), .int (F 22), .int (F 23), .int (F 24), .ref q9, .ref q10, .ref q11, .long (J 28)])), (q1, .inl (g.2 0, 376, .inl al)), (q8, .inl (g.2 0, 65, .inl ma))]) [0, 1, 3] rfl, hG.warm hW⟩⟩ rfl rfl hl.1 rfl (lv_room (Nat.le_of_ble_eq_true rfl)) dX9_best_107 ⟨Nat.le_of_ble_eq_true rfl, Nat.le_of_ble_eq_true rfl⟩) (fun r_107 hr_107 => ?_)
  have hv := hv r_107 hr_107
  obtain ⟨hvt, hvf⟩ := hv
  refine lv_icmp_ne (tgt := 117) hx hb dX9_best_110 (by decide) (fun hc => ?_) (fun hc => ?_)
  · have hv := hvt hc
    refine lv_iconst (v := (0 : Int32)) hx hb dX9_best_117 (by decide) ?_
    refine lv_iadd hx hb dX9_best_118 ?_
    refine lv_istore (lv' := [(6, .int (x6 + (0 : Int32))), (5, .int s0), (0, .ref qM), (2, .int p2), (3, .int p3), (4, .int x4), (7, .int x7), (8, .int x8)]) hx hb dX9_best_119 hl (by decide) rfl (fun ls hl => ?_)
    refine lv_iinc (v := (x7 + (1 : Int32))) (lv' := [(7, .int (x7 + (1 : Int32))), (6, .int (x6 + (0 : Int32))), (5, .int s0), (0, .ref qM), (2, .int p2), (3, .int p3), (4, .int x4), (8, .int x8)]) hx hb dX9_best_121 hl (k := 6) rfl rfl (by decide) rfl (fun ls hl => ?_)
    refine lv_goto (tgt := 55) hx hb dX9_best_124 (by decide) ?_
    exact kk55 _ _ _ _ _ _ _ hv _ _ (hP.sub (ws' := [(qM, .inr (9, [.int (F 0), .ref q1, .ref q2, .ref q3, .int (F 4), .int (F 5), .int (F 6), .int (F 7), .int (F 8), .int (F 9), .long (J 10), .int (F 11), .int (F 12), .int (F 13), .ref q4, .int (F 15), .ref q5, .ref q6, .ref q7, .int (F 19), .ref q8, .int (F 21), .int (F 22), .int (F 23), .int (F 24), .ref q9, .ref q10, .ref q11, .long (J 28)])), (q1, .inl (g.2 0, 376, .inl al)), (q7, .inl (g.2 0, 200, .inl he)), (q8, .inl (g.2 0, 65, .inl ma))]) [0, 1, 2, 3] rfl) (hD.sub (ws' := [(qM, .inr (9, [.int (F 0), .ref q1, .ref q2, .ref q3, .int (F 4), .int (F 5), .int (F 6), .int (F 7), .int (F 8), .int (F 9), .long (J 10), .int (F 11), .int (F 12), .int (F 13), .ref q4, .int (F 15), .ref q5, .ref q6, .ref q7, .int (F 19), .ref q8, .int (F 21), .int (F 22), .int (F 23), .int (F 24), .ref q9, .ref q10, .ref q11, .long (J 28)])), (q1, .inl (g.2 0, 376, .inl al)), (q7, .inl (g.2 0, 200, .inl he)), (q8, .inl (g.2 0, 65, .inl ma))]) [0, 1, 2, 3] (by decide) rfl) hS ls (lv_sub hl [3, 4, 5, 6, 2, 1, 0] rfl)
  · have hv := hvf hc
    refine lv_iconst (v := (1 : Int32)) hx hb dX9_best_113 (by decide) ?_
    refine lv_goto (tgt := 118) hx hb dX9_best_114 (by decide) ?_
    refine lv_iadd hx hb dX9_best_118 ?_
    refine lv_istore (lv' := [(6, .int (x6 + (1 : Int32))), (5, .int s0), (0, .ref qM), (2, .int p2), (3, .int p3), (4, .int x4), (7, .int x7), (8, .int x8)]) hx hb dX9_best_119 hl (by decide) rfl (fun ls hl => ?_)
    refine lv_iinc (v := (x7 + (1 : Int32))) (lv' := [(7, .int (x7 + (1 : Int32))), (6, .int (x6 + (1 : Int32))), (5, .int s0), (0, .ref qM), (2, .int p2), (3, .int p3), (4, .int x4), (8, .int x8)]) hx hb dX9_best_121 hl (k := 6) rfl rfl (by decide) rfl (fun ls hl => ?_)
    refine lv_goto (tgt := 55) hx hb dX9_best_124 (by decide) ?_
    exact kk55 _ _ _ _ _ _ _ hv _ _ (hP.sub (ws' := [(qM, .inr (9, [.int (F 0), .ref q1, .ref q2, .ref q3, .int (F 4), .int (F 5), .int (F 6), .int (F 7), .int (F 8), .int (F 9), .long (J 10), .int (F 11), .int (F 12), .int (F 13), .ref q4, .int (F 15), .ref q5, .ref q6, .ref q7, .int (F 19), .ref q8, .int (F 21), .int (F 22), .int (F 23), .int (F 24), .ref q9, .ref q10, .ref q11, .long (J 28)])), (q1, .inl (g.2 0, 376, .inl al)), (q7, .inl (g.2 0, 200, .inl he)), (q8, .inl (g.2 0, 65, .inl ma))]) [0, 1, 2, 3] rfl) (hD.sub (ws' := [(qM, .inr (9, [.int (F 0), .ref q1, .ref q2, .ref q3, .int (F 4), .int (F 5), .int (F 6), .int (F 7), .int (F 8), .int (F 9), .long (J 10), .int (F 11), .int (F 12), .int (F 13), .ref q4, .int (F 15), .ref q5, .ref q6, .ref q7, .int (F 19), .ref q8, .int (F 21), .int (F 22), .int (F 23), .int (F 24), .ref q9, .ref q10, .ref q11, .long (J 28)])), (q1, .inl (g.2 0, 376, .inl al)), (q7, .inl (g.2 0, 200, .inl he)), (q8, .inl (g.2 0, 65, .inl ma))]) [0, 1, 2, 3] (by decide) rfl) hS ls (lv_sub hl [3, 4, 5, 6, 2, 1, 0] rfl)
def vX9_best_c55 (J : Nat → Int64) (al : Nat → Int32) (p1 : Int32) (p2 : Int32) (p3 : Int32) (Q : Int32 → (Nat → Int32) → (Nat → Int32) → (Nat → Int32) → Prop) : Nat → Int32 → Int32 → Int32 → Int32 → (Nat → Int32) → (Nat → Int32) → (Nat → Int32) → Prop
  | 0, _, _, _, _, _, _, _ => False
  | n + 1, x4, x5, x6, x7, F, he, ma => (∃ (p_60 : Nat) (w_60 : Nat), preX9_of p_60 w_60 F J al p2 (0 : Int32) ∧ (∀ r_60 : Int32, postX9_of p_60 w_60 F J al p2 (0 : Int32) r_60 → ((r_60 ≤ x7 → ((¬ p3 = 0 → ((¬ p3 = (1 : Int32) → ((¬ p3 = (2 : Int32) → (Q x6 F he ma)) ∧ (p3 = (2 : Int32) → (∃ (T_156 : Cd) (p_156 : Nat) (m_156 : Nat → Nat → Int), preX9_matchOf T_156 p_156 m_156 F J al ma p2 ∧ (∀ r_156 : Int32, postX9_matchOf T_156 p_156 m_156 F J al ma p2 r_156 → (Q (r_156 - x5) F he ma)))))) ∧ (p3 = (1 : Int32) → (∃ (T_143 : Cd) (p_143 : Nat) (m_143 : Nat → Nat → Int), preX9_matchOf T_143 p_143 m_143 F J al ma p2 ∧ (∀ r_143 : Int32, postX9_matchOf T_143 p_143 m_143 F J al ma p2 r_143 → (Q r_143 F he ma)))))) ∧ (p3 = 0 → (Q x4 F he ma)))) ∧ (¬ r_60 ≤ x7 → (vp_in (((13 : Int32) * p2) + x7) 65 ∧ (∀ y_78 : Int32, y_78 = (ma (((13 : Int32) * p2) + x7).toNatClampNeg) → ((¬ x7 = x4 → (preX9_greater x5 y_78 ∧ (∀ r_96 : Int32, postX9_greater x5 y_78 r_96 → (vX9_best_c99 J al p1 p2 p3 Q (vX9_best_c55 J al p1 p2 p3 Q n) x4 x6 x7 y_78 r_96 F he ma)))) ∧ (x7 = x4 → (vX9_best_c99 J al p1 p2 p3 Q (vX9_best_c55 J al p1 p2 p3 Q n) x4 x6 x7 y_78 x5 F he ma)))))))))
set_option maxHeartbeats 4000000 in
set_option maxRecDepth 100000 in
theorem kX9_best_c55 {p : Program} {l : Launch} {e : Env} {s : State} {m : MethodId} {args : Array Value} {below : List Frame} {meth : Method} {c : Code} {g : GP} {qM : Nat} {q1 : Nat} {q2 : Nat} {q3 : Nat} {q4 : Nat} {q5 : Nat} {q6 : Nat} {q7 : Nat} {q8 : Nat} {q9 : Nat} {q10 : Nat} {q11 : Nat} {J : Nat → Int64} {al : Nat → Int32} {p1 : Int32} {p2 : Int32} {p3 : Int32} {Q : Int32 → (Nat → Int32) → (Nat → Int32) → (Nat → Int32) → Prop} {A : Nat → Prop} (S : CallFix p m c cX9_best 9 s args wsX9_best RX9) (hr : meth.sig.returnType = (some .int)) (hlocks : meth.locks = false) (hG : GK g s) (hA : ∀ q : Nat, s.heap.size ≤ q → A q) : ∀ (n : Nat), ∀ (x4 : Int32) (x5 : Int32) (x6 : Int32) (x7 : Int32) (F : Nat → Int32) (he : Nat → Int32) (ma : Nat → Int32), vX9_best_c55 J al p1 p2 p3 Q n x4 x5 x6 x7 F he ma → ∀ (H : Heap) (locs : List Loc), va_P g.1 vwCl [(qM, .inr (9, [.int (F 0), .ref q1, .ref q2, .ref q3, .int (F 4), .int (F 5), .int (F 6), .int (F 7), .int (F 8), .int (F 9), .long (J 10), .int (F 11), .int (F 12), .int (F 13), .ref q4, .int (F 15), .ref q5, .ref q6, .ref q7, .int (F 19), .ref q8, .int (F 21), .int (F 22), .int (F 23), .int (F 24), .ref q9, .ref q10, .ref q11, .long (J 28)])), (q1, .inl (g.2 0, 376, .inl al)), (q7, .inl (g.2 0, 200, .inl he)), (q8, .inl (g.2 0, 65, .inl ma))] H → va_D A [(qM, .inr (9, [.int (F 0), .ref q1, .ref q2, .ref q3, .int (F 4), .int (F 5), .int (F 6), .int (F 7), .int (F 8), .int (F 9), .long (J 10), .int (F 11), .int (F 12), .int (F 13), .ref q4, .int (F 15), .ref q5, .ref q6, .ref q7, .int (F 19), .ref q8, .int (F 21), .int (F 22), .int (F 23), .int (F 24), .ref q9, .ref q10, .ref q11, .long (J 28)])), (q1, .inl (g.2 0, 376, .inl al)), (q7, .inl (g.2 0, 200, .inl he)), (q8, .inl (g.2 0, 65, .inl ma))] → va_S A s.heap H locs → ∀ (ls : Array Slot), lv_has ls 9 [(0, .ref qM), (2, .int p2), (3, .int p3), (4, .int x4), (5, .int x5), (6, .int x6), (7, .int x7)] → W p l e (headSpec wsX9_best rmX9_best).room s m args below meth c H locs 0 0 (MQ below (va_Qi (fun (r : Int32) (u : (Nat → Int32) × (Nat → Int32) × (Nat → Int32)) => Q r u.1 u.2.1 u.2.2) (fun (u : (Nat → Int32) × (Nat → Int32) × (Nat → Int32)) t => va_P g.1 vwCl [(qM, .inr (9, [.int (u.1 0), .ref q1, .ref q2, .ref q3, .int (u.1 4), .int (u.1 5), .int (u.1 6), .int (u.1 7), .int (u.1 8), .int (u.1 9), .long (J 10), .int (u.1 11), .int (u.1 12), .int (u.1 13), .ref q4, .int (u.1 15), .ref q5, .ref q6, .ref q7, .int (u.1 19), .ref q8, .int (u.1 21), .int (u.1 22), .int (u.1 23), .int (u.1 24), .ref q9, .ref q10, .ref q11, .long (J 28)])), (q1, .inl (g.2 0, 376, .inl al)), (q7, .inl (g.2 0, 200, .inl u.2.1)), (q8, .inl (g.2 0, 65, .inl u.2.2))] t.heap ∧ va_D A [(qM, .inr (9, [.int (u.1 0), .ref q1, .ref q2, .ref q3, .int (u.1 4), .int (u.1 5), .int (u.1 6), .int (u.1 7), .int (u.1 8), .int (u.1 9), .long (J 10), .int (u.1 11), .int (u.1 12), .int (u.1 13), .ref q4, .int (u.1 15), .ref q5, .ref q6, .ref q7, .int (u.1 19), .ref q8, .int (u.1 21), .int (u.1 22), .int (u.1 23), .int (u.1 24), .ref q9, .ref q10, .ref q11, .long (J 28)])), (q1, .inl (g.2 0, 376, .inl al)), (q7, .inl (g.2 0, 200, .inl u.2.1)), (q8, .inl (g.2 0, 65, .inl u.2.2))]) A) args s 0 0 A) (F0 m 55 ls []) := by
  obtain ⟨hx, hb, hml, hown, hts⟩ := id S
  have hK := hG.1
  intro n
  induction n with
  | zero => intro x4 x5 x6 x7 F he ma hv; exact hv.elim
  | succ n ih =>
    intro x4 x5 x6 x7 F he ma hv H locs hP hD hS ls hl
    refine lv_iload hx hb dX9_best_55 (lv_at hl 6 rfl) ?_
    refine lv_aload_n hx hb dX9_best_57 rfl (lv_at hl 0 rfl) ?_
    refine lv_iload_n hx hb dX9_best_58 rfl (lv_at hl 1 rfl) ?_
    refine lv_iconst (v := (0 : Int32)) hx hb dX9_best_59 (by decide) ?_
    obtain ⟨p_60, w_60, ho_1, hv⟩ := hv
    refine vp_callSi (W.runV (As := [.int p2, .int (0 : Int32)]) (rest := [.int x7]) S (wX9_of l g qM q1 q2 q3 q4 q5 q6 q7 q8 q9 q10 q11 F J al p2 (0 : Int32) (sX9_of p_60 w_60 F J al p2 (0 : Int32) ho_1)) (cwV 2 hts gX9_best_X9_of rfl rfl rfl (by decide +kernel) ⟨Nat.le_of_ble_eq_true rfl, Nat.le_of_ble_eq_true rfl⟩) ⟨blindRO, va_recv hK hP (ci := 9) (q0 := 0) rfl rfl, fun U hU hW => ⟨rfl, by rw [hU]; exact hP.sub (ws' := [(qM, .inr (9, [.int (F 0), .ref q1, .ref q2, .ref q3, .int (F 4), .int (F 5), .int (F 6), .int (F 7), .int (F 8), .int (F 9), .long (J 10), .int (F 11), .int (F 12), .int (F 13), .ref q4, .int (F 15), .ref q5, .ref q6, .ref q7, .int (F 19), .ref q8, .int (F 21), .int (F 22), .int (F 23), .int (F 24), .ref q9, .ref q10, .ref q11, .long (J 28)])), (q1, .inl (g.2 0, 376, .inl al))]) [0, 1] rfl, hG.warm hW⟩⟩ rfl rfl hl.1 rfl (lv_room (Nat.le_of_ble_eq_true rfl)) dX9_best_60 ⟨Nat.le_of_ble_eq_true rfl, Nat.le_of_ble_eq_true rfl⟩) (fun r_60 hr_60 => ?_)
    have hv := hv r_60 hr_60
    obtain ⟨hvt, hvf⟩ := hv
    refine lv_icmp_ge (tgt := 127) hx hb dX9_best_63 (by decide) (fun hc => ?_) (fun hc => ?_)
    · have hv := hvt hc
      refine lv_iload_n hx hb dX9_best_127 rfl (lv_at hl 2 rfl) ?_
      obtain ⟨hvt, hvf⟩ := hv
      refine lv_if_ne (tgt := 136) hx hb dX9_best_128 (by decide) (fun hc => ?_) (fun hc => ?_)
      · have hv := hvt hc
        refine lv_iload_n hx hb dX9_best_136 rfl (lv_at hl 2 rfl) ?_
        refine lv_iconst (v := (1 : Int32)) hx hb dX9_best_137 (by decide) ?_
        obtain ⟨hvt, hvf⟩ := hv
        refine lv_icmp_ne (tgt := 149) hx hb dX9_best_138 (by decide) (fun hc => ?_) (fun hc => ?_)
        · have hv := hvt hc
          refine lv_iload_n hx hb dX9_best_149 rfl (lv_at hl 2 rfl) ?_
          refine lv_iconst (v := (2 : Int32)) hx hb dX9_best_150 (by decide) ?_
          obtain ⟨hvt, hvf⟩ := hv
          refine lv_icmp_ne (tgt := 165) hx hb dX9_best_151 (by decide) (fun hc => ?_) (fun hc => ?_)
          · have hv := hvt hc
            refine lv_iload hx hb dX9_best_165 (lv_at hl 5 rfl) ?_
            have hP9 := hP.sub (ws' := [(qM, .inr (9, [.int (F 0), .ref q1, .ref q2, .ref q3, .int (F 4), .int (F 5), .int (F 6), .int (F 7), .int (F 8), .int (F 9), .long (J 10), .int (F 11), .int (F 12), .int (F 13), .ref q4, .int (F 15), .ref q5, .ref q6, .ref q7, .int (F 19), .ref q8, .int (F 21), .int (F 22), .int (F 23), .int (F 24), .ref q9, .ref q10, .ref q11, .long (J 28)])), (q1, .inl (g.2 0, 376, .inl al)), (q7, .inl (g.2 0, 200, .inl he)), (q8, .inl (g.2 0, 65, .inl ma))]) [0, 1, 2, 3] rfl
            have hD9 := hD.sub (ws' := [(qM, .inr (9, [.int (F 0), .ref q1, .ref q2, .ref q3, .int (F 4), .int (F 5), .int (F 6), .int (F 7), .int (F 8), .int (F 9), .long (J 10), .int (F 11), .int (F 12), .int (F 13), .ref q4, .int (F 15), .ref q5, .ref q6, .ref q7, .int (F 19), .ref q8, .int (F 21), .int (F 22), .int (F 23), .int (F 24), .ref q9, .ref q10, .ref q11, .long (J 28)])), (q1, .inl (g.2 0, 376, .inl al)), (q7, .inl (g.2 0, 200, .inl he)), (q8, .inl (g.2 0, 65, .inl ma))]) [0, 1, 2, 3] (by decide) rfl
            exact W.iret (v := x6) hx hb hr (fun t ht hW => ⟨⟨_, (F, he, ma), rfl, hv, by rw [ht]; exact hP9, hD9⟩, hS.F ht⟩) hS.2.2 dX9_best_167
          · have hv := hvf hc
            refine lv_aload_n hx hb dX9_best_154 rfl (lv_at hl 0 rfl) ?_
            refine lv_iload_n hx hb dX9_best_155 rfl (lv_at hl 1 rfl) ?_
            obtain ⟨T_156, p_156, m_156, ho_2, hv⟩ := hv
            refine vp_callSi (W.runV (As := [.int p2]) (rest := []) S (wX9_matchOf l g qM q1 q2 q3 q4 q5 q6 q7 q8 q9 q10 q11 F J al ma p2 (sX9_matchOf T_156 p_156 m_156 F J al ma p2 ho_2)) (cwV 1 hts gX9_best_X9_matchOf rfl rfl rfl (by decide +kernel) ⟨Nat.le_of_ble_eq_true rfl, Nat.le_of_ble_eq_true rfl⟩) ⟨blindRO, va_recv hK hP (ci := 9) (q0 := 0) rfl rfl, fun U hU hW => ⟨rfl, by rw [hU]; exact hP.sub (ws' := [(qM, .inr (9, [.int (F 0), .ref q1, .ref q2, .ref q3, .int (F 4), .int (F 5), .int (F 6), .int (F 7), .int (F 8), .int (F 9), .long (J 10), .int (F 11), .int (F 12), .int (F 13), .ref q4, .int (F 15), .ref q5, .ref q6, .ref q7, .int (F 19), .ref q8, .int (F 21), .int (F 22), .int (F 23), .int (F 24), .ref q9, .ref q10, .ref q11, .long (J 28)])), (q1, .inl (g.2 0, 376, .inl al)), (q8, .inl (g.2 0, 65, .inl ma))]) [0, 1, 3] rfl, hG.warm hW⟩⟩ rfl rfl hl.1 rfl (lv_room (Nat.le_of_ble_eq_true rfl)) dX9_best_156 ⟨Nat.le_of_ble_eq_true rfl, Nat.le_of_ble_eq_true rfl⟩) (fun r_156 hr_156 => ?_)
            have hv := hv r_156 hr_156
            refine lv_iload hx hb dX9_best_159 (lv_at hl 4 rfl) ?_
            refine lv_isub hx hb dX9_best_161 ?_
            refine lv_goto (tgt := 167) hx hb dX9_best_162 (by decide) ?_
            have hP9 := hP.sub (ws' := [(qM, .inr (9, [.int (F 0), .ref q1, .ref q2, .ref q3, .int (F 4), .int (F 5), .int (F 6), .int (F 7), .int (F 8), .int (F 9), .long (J 10), .int (F 11), .int (F 12), .int (F 13), .ref q4, .int (F 15), .ref q5, .ref q6, .ref q7, .int (F 19), .ref q8, .int (F 21), .int (F 22), .int (F 23), .int (F 24), .ref q9, .ref q10, .ref q11, .long (J 28)])), (q1, .inl (g.2 0, 376, .inl al)), (q7, .inl (g.2 0, 200, .inl he)), (q8, .inl (g.2 0, 65, .inl ma))]) [0, 1, 2, 3] rfl
            have hD9 := hD.sub (ws' := [(qM, .inr (9, [.int (F 0), .ref q1, .ref q2, .ref q3, .int (F 4), .int (F 5), .int (F 6), .int (F 7), .int (F 8), .int (F 9), .long (J 10), .int (F 11), .int (F 12), .int (F 13), .ref q4, .int (F 15), .ref q5, .ref q6, .ref q7, .int (F 19), .ref q8, .int (F 21), .int (F 22), .int (F 23), .int (F 24), .ref q9, .ref q10, .ref q11, .long (J 28)])), (q1, .inl (g.2 0, 376, .inl al)), (q7, .inl (g.2 0, 200, .inl he)), (q8, .inl (g.2 0, 65, .inl ma))]) [0, 1, 2, 3] (by decide) rfl
            exact W.iret (v := (r_156 - x5)) hx hb hr (fun t ht hW => ⟨⟨_, (F, he, ma), rfl, hv, by rw [ht]; exact hP9, hD9⟩, hS.F ht⟩) hS.2.2 dX9_best_167
        · have hv := hvf hc
          refine lv_aload_n hx hb dX9_best_141 rfl (lv_at hl 0 rfl) ?_
          refine lv_iload_n hx hb dX9_best_142 rfl (lv_at hl 1 rfl) ?_
          obtain ⟨T_143, p_143, m_143, ho_3, hv⟩ := hv
          refine vp_callSi (W.runV (As := [.int p2]) (rest := []) S (wX9_matchOf l g qM q1 q2 q3 q4 q5 q6 q7 q8 q9 q10 q11 F J al ma p2 (sX9_matchOf T_143 p_143 m_143 F J al ma p2 ho_3)) (cwV 1 hts gX9_best_X9_matchOf rfl rfl rfl (by decide +kernel) ⟨Nat.le_of_ble_eq_true rfl, Nat.le_of_ble_eq_true rfl⟩) ⟨blindRO, va_recv hK hP (ci := 9) (q0 := 0) rfl rfl, fun U hU hW => ⟨rfl, by rw [hU]; exact hP.sub (ws' := [(qM, .inr (9, [.int (F 0), .ref q1, .ref q2, .ref q3, .int (F 4), .int (F 5), .int (F 6), .int (F 7), .int (F 8), .int (F 9), .long (J 10), .int (F 11), .int (F 12), .int (F 13), .ref q4, .int (F 15), .ref q5, .ref q6, .ref q7, .int (F 19), .ref q8, .int (F 21), .int (F 22), .int (F 23), .int (F 24), .ref q9, .ref q10, .ref q11, .long (J 28)])), (q1, .inl (g.2 0, 376, .inl al)), (q8, .inl (g.2 0, 65, .inl ma))]) [0, 1, 3] rfl, hG.warm hW⟩⟩ rfl rfl hl.1 rfl (lv_room (Nat.le_of_ble_eq_true rfl)) dX9_best_143 ⟨Nat.le_of_ble_eq_true rfl, Nat.le_of_ble_eq_true rfl⟩) (fun r_143 hr_143 => ?_)
          have hv := hv r_143 hr_143
          refine lv_goto (tgt := 167) hx hb dX9_best_146 (by decide) ?_
          have hP9 := hP.sub (ws' := [(qM, .inr (9, [.int (F 0), .ref q1, .ref q2, .ref q3, .int (F 4), .int (F 5), .int (F 6), .int (F 7), .int (F 8), .int (F 9), .long (J 10), .int (F 11), .int (F 12), .int (F 13), .ref q4, .int (F 15), .ref q5, .ref q6, .ref q7, .int (F 19), .ref q8, .int (F 21), .int (F 22), .int (F 23), .int (F 24), .ref q9, .ref q10, .ref q11, .long (J 28)])), (q1, .inl (g.2 0, 376, .inl al)), (q7, .inl (g.2 0, 200, .inl he)), (q8, .inl (g.2 0, 65, .inl ma))]) [0, 1, 2, 3] rfl
          have hD9 := hD.sub (ws' := [(qM, .inr (9, [.int (F 0), .ref q1, .ref q2, .ref q3, .int (F 4), .int (F 5), .int (F 6), .int (F 7), .int (F 8), .int (F 9), .long (J 10), .int (F 11), .int (F 12), .int (F 13), .ref q4, .int (F 15), .ref q5, .ref q6, .ref q7, .int (F 19), .ref q8, .int (F 21), .int (F 22), .int (F 23), .int (F 24), .ref q9, .ref q10, .ref q11, .long (J 28)])), (q1, .inl (g.2 0, 376, .inl al)), (q7, .inl (g.2 0, 200, .inl he)), (q8, .inl (g.2 0, 65, .inl ma))]) [0, 1, 2, 3] (by decide) rfl
          exact W.iret (v := r_143) hx hb hr (fun t ht hW => ⟨⟨_, (F, he, ma), rfl, hv, by rw [ht]; exact hP9, hD9⟩, hS.F ht⟩) hS.2.2 dX9_best_167
      · have hv := hvf hc
        refine lv_iload hx hb dX9_best_131 (lv_at hl 3 rfl) ?_
        refine lv_goto (tgt := 167) hx hb dX9_best_133 (by decide) ?_
        have hP9 := hP.sub (ws' := [(qM, .inr (9, [.int (F 0), .ref q1, .ref q2, .ref q3, .int (F 4), .int (F 5), .int (F 6), .int (F 7), .int (F 8), .int (F 9), .long (J 10), .int (F 11), .int (F 12), .int (F 13), .ref q4, .int (F 15), .ref q5, .ref q6, .ref q7, .int (F 19), .ref q8, .int (F 21), .int (F 22), .int (F 23), .int (F 24), .ref q9, .ref q10, .ref q11, .long (J 28)])), (q1, .inl (g.2 0, 376, .inl al)), (q7, .inl (g.2 0, 200, .inl he)), (q8, .inl (g.2 0, 65, .inl ma))]) [0, 1, 2, 3] rfl
        have hD9 := hD.sub (ws' := [(qM, .inr (9, [.int (F 0), .ref q1, .ref q2, .ref q3, .int (F 4), .int (F 5), .int (F 6), .int (F 7), .int (F 8), .int (F 9), .long (J 10), .int (F 11), .int (F 12), .int (F 13), .ref q4, .int (F 15), .ref q5, .ref q6, .ref q7, .int (F 19), .ref q8, .int (F 21), .int (F 22), .int (F 23), .int (F 24), .ref q9, .ref q10, .ref q11, .long (J 28)])), (q1, .inl (g.2 0, 376, .inl al)), (q7, .inl (g.2 0, 200, .inl he)), (q8, .inl (g.2 0, 65, .inl ma))]) [0, 1, 2, 3] (by decide) rfl
        exact W.iret (v := x4) hx hb hr (fun t ht hW => ⟨⟨_, (F, he, ma), rfl, hv, by rw [ht]; exact hP9, hD9⟩, hS.F ht⟩) hS.2.2 dX9_best_167
    · have hv := hvf hc
      refine lv_aload_n hx hb dX9_best_66 rfl (lv_at hl 0 rfl) ?_
      refine va_get (D := g.1) (ci := 9) (v := .ref q8) (C := RX9) (T := TX9) (N := 29) hx hb hts inX9_best_9 hown hK hP 0 rfl rfl 20 (by decide) (hts (.fieldLink RX9 33 "RangeCodesModel" "matches" "[I") (List.mem_of_getElem? (i := 3) rfl)) (fun _ h9 => h9) rfl dX9_best_67 ?_
      refine lv_bipush (v := (13 : Int32)) hx hb dX9_best_70 (by decide) ?_
      refine lv_iload_n hx hb dX9_best_72 rfl (lv_at hl 1 rfl) ?_
      refine lv_imul hx hb dX9_best_73 ?_
      refine lv_iload hx hb dX9_best_74 (lv_at hl 6 rfl) ?_
      refine lv_iadd hx hb dX9_best_76 ?_
      obtain ⟨ho_4, hv⟩ := hv
      refine va_iald hx hb hK hP 3 0 rfl rfl ho_4 dX9_best_77 ?_
      refine lv_topi (fun y_78 ey_78 => ?_)
      have hv := hv y_78 ey_78
      refine lv_istore (lv' := [(8, .int y_78), (0, .ref qM), (2, .int p2), (3, .int p3), (4, .int x4), (5, .int x5), (6, .int x6), (7, .int x7)]) hx hb dX9_best_78 hl (by decide) rfl (fun ls hl => ?_)
      refine lv_iload hx hb dX9_best_80 (lv_at hl 7 rfl) ?_
      refine lv_iload hx hb dX9_best_82 (lv_at hl 4 rfl) ?_
      obtain ⟨hvt, hvf⟩ := hv
      refine lv_icmp_ne (tgt := 92) hx hb dX9_best_84 (by decide) (fun hc => ?_) (fun hc => ?_)
      · have hv := hvt hc
        refine lv_iload hx hb dX9_best_92 (lv_at hl 5 rfl) ?_
        refine lv_iload hx hb dX9_best_94 (lv_at hl 0 rfl) ?_
        obtain ⟨ho_5, hv⟩ := hv
        refine vp_callSi (W.runS (As := [.int x5, .int y_78]) (rest := []) S (wX9_greater l g x5 y_78 (sX9_greater x5 y_78 ho_5)) (va_cwS 2 hts gX9_best_X9_greater rfl rfl rfl (by decide +kernel) ⟨Nat.le_of_ble_eq_true rfl, Nat.le_of_ble_eq_true rfl⟩) ⟨blindRO, fun U hU hW => ⟨rfl, by rw [hU]; exact hP.sub (ws' := []) [] rfl, hG.warm hW⟩⟩ rfl rfl hl.1 rfl (lv_room (Nat.le_of_ble_eq_true rfl)) dX9_best_96 ⟨Nat.le_of_ble_eq_true rfl, Nat.le_of_ble_eq_true rfl⟩) (fun r_96 hr_96 => ?_)
        have hv := hv r_96 hr_96
        exact kX9_best_c99 S hr hlocks hG hA ih _ _ _ _ _ _ _ _ hv _ _ (hP.sub (ws' := [(qM, .inr (9, [.int (F 0), .ref q1, .ref q2, .ref q3, .int (F 4), .int (F 5), .int (F 6), .int (F 7), .int (F 8), .int (F 9), .long (J 10), .int (F 11), .int (F 12), .int (F 13), .ref q4, .int (F 15), .ref q5, .ref q6, .ref q7, .int (F 19), .ref q8, .int (F 21), .int (F 22), .int (F 23), .int (F 24), .ref q9, .ref q10, .ref q11, .long (J 28)])), (q1, .inl (g.2 0, 376, .inl al)), (q7, .inl (g.2 0, 200, .inl he)), (q8, .inl (g.2 0, 65, .inl ma))]) [0, 1, 2, 3] rfl) (hD.sub (ws' := [(qM, .inr (9, [.int (F 0), .ref q1, .ref q2, .ref q3, .int (F 4), .int (F 5), .int (F 6), .int (F 7), .int (F 8), .int (F 9), .long (J 10), .int (F 11), .int (F 12), .int (F 13), .ref q4, .int (F 15), .ref q5, .ref q6, .ref q7, .int (F 19), .ref q8, .int (F 21), .int (F 22), .int (F 23), .int (F 24), .ref q9, .ref q10, .ref q11, .long (J 28)])), (q1, .inl (g.2 0, 376, .inl al)), (q7, .inl (g.2 0, 200, .inl he)), (q8, .inl (g.2 0, 65, .inl ma))]) [0, 1, 2, 3] (by decide) rfl) hS ls (lv_sub hl [1, 2, 3, 4, 6, 7, 0] rfl)
      · have hv := hvf hc
        refine lv_iload hx hb dX9_best_87 (lv_at hl 5 rfl) ?_
        refine lv_goto (tgt := 99) hx hb dX9_best_89 (by decide) ?_
        exact kX9_best_c99 S hr hlocks hG hA ih _ _ _ _ _ _ _ _ hv _ _ (hP.sub (ws' := [(qM, .inr (9, [.int (F 0), .ref q1, .ref q2, .ref q3, .int (F 4), .int (F 5), .int (F 6), .int (F 7), .int (F 8), .int (F 9), .long (J 10), .int (F 11), .int (F 12), .int (F 13), .ref q4, .int (F 15), .ref q5, .ref q6, .ref q7, .int (F 19), .ref q8, .int (F 21), .int (F 22), .int (F 23), .int (F 24), .ref q9, .ref q10, .ref q11, .long (J 28)])), (q1, .inl (g.2 0, 376, .inl al)), (q7, .inl (g.2 0, 200, .inl he)), (q8, .inl (g.2 0, 65, .inl ma))]) [0, 1, 2, 3] rfl) (hD.sub (ws' := [(qM, .inr (9, [.int (F 0), .ref q1, .ref q2, .ref q3, .int (F 4), .int (F 5), .int (F 6), .int (F 7), .int (F 8), .int (F 9), .long (J 10), .int (F 11), .int (F 12), .int (F 13), .ref q4, .int (F 15), .ref q5, .ref q6, .ref q7, .int (F 19), .ref q8, .int (F 21), .int (F 22), .int (F 23), .int (F 24), .ref q9, .ref q10, .ref q11, .long (J 28)])), (q1, .inl (g.2 0, 376, .inl al)), (q7, .inl (g.2 0, 200, .inl he)), (q8, .inl (g.2 0, 65, .inl ma))]) [0, 1, 2, 3] (by decide) rfl) hS ls (lv_sub hl [1, 2, 3, 4, 6, 7, 0] rfl)
def vX9_best (F : Nat → Int32) (J : Nat → Int64) (al : Nat → Int32) (he : Nat → Int32) (ma : Nat → Int32) (p1 : Int32) (p2 : Int32) (p3 : Int32) (Q : Int32 → (Nat → Int32) → (Nat → Int32) → (Nat → Int32) → Prop) : Prop := (preX9_isLeg p1 ∧ (∀ r_6 : Int32, postX9_isLeg p1 r_6 → ((r_6 = 0 → (Q (-1000 : Int32) (upd F 0 (0 : Int32)) he ma)) ∧ (¬ r_6 = 0 → (∃ (n_14 : Nat), preX9_isPart n_14 (upd F 0 (0 : Int32)) J al p2 ∧ (∀ r_14 : Int32, postX9_isPart n_14 (upd F 0 (0 : Int32)) J al p2 r_14 → ((r_14 = 0 → (Q (-1000 : Int32) (upd F 0 (0 : Int32)) he ma)) ∧ (¬ r_14 = 0 → (preX9_in p3 (0 : Int32) (3 : Int32) ∧ (∀ r_23 : Int32, postX9_in p3 (0 : Int32) (3 : Int32) r_23 → ((¬ r_23 = 0 → (∃ (T_35 : Cd) (G0_35 : Lg) (G1_35 : Lg) (lg_35 : Nat) (lim_35 : Nat), preX9_laysLeg T_35 G0_35 G1_35 lg_35 lim_35 (upd F 0 (0 : Int32)) J al he ma p1 ∧ (∀ (F_35 : Nat → Int32) (he_35 : Nat → Int32) (ma_35 : Nat → Int32), postX9_laysLeg T_35 G0_35 G1_35 lg_35 lim_35 (upd F 0 (0 : Int32)) J al he ma p1 F_35 he_35 ma_35 → (∃ (T_40 : Cd) (p_40 : Nat) (m_40 : Nat → Nat → Int), preX9_bestOf T_40 p_40 m_40 F_35 J al ma_35 p2 ∧ (∀ r_40 : Int32, postX9_bestOf T_40 p_40 m_40 F_35 J al ma_35 p2 r_40 → (∃ nn, vX9_best_c55 J al p1 p2 p3 Q nn r_40 (-1000000 : Int32) (0 : Int32) (0 : Int32) F_35 he_35 ma_35)))))) ∧ (r_23 = 0 → (Q (-1000 : Int32) (upd F 0 (0 : Int32)) he ma)))))))))))))
set_option maxHeartbeats 4000000 in
set_option maxRecDepth 100000 in
theorem wX9_best (l : Launch) (g : GP) (qM : Nat) (q1 : Nat) (q2 : Nat) (q3 : Nat) (q4 : Nat) (q5 : Nat) (q6 : Nat) (q7 : Nat) (q8 : Nat) (q9 : Nat) (q10 : Nat) (q11 : Nat) (sz : Nat) (F : Nat → Int32) (J : Nat → Int64) (al : Nat → Int32) (he : Nat → Int32) (ma : Nat → Int32) (p1 : Int32) (p2 : Int32) (p3 : Int32) {Q : Int32 → (Nat → Int32) → (Nat → Int32) → (Nat → Int32) → Prop} (hv : vX9_best F J al he ma p1 p2 p3 Q) : Met l yX9_best wsX9_best rmX9_best (va_Pc [.ref qM, .int p1, .int p2, .int p3] (fun U => U.heap.size = sz ∧ va_P g.1 vwCl [(qM, .inr (9, [.int (F 0), .ref q1, .ref q2, .ref q3, .int (F 4), .int (F 5), .int (F 6), .int (F 7), .int (F 8), .int (F 9), .long (J 10), .int (F 11), .int (F 12), .int (F 13), .ref q4, .int (F 15), .ref q5, .ref q6, .ref q7, .int (F 19), .ref q8, .int (F 21), .int (F 22), .int (F 23), .int (F 24), .ref q9, .ref q10, .ref q11, .long (J 28)])), (q1, .inl (g.2 0, 376, .inl al)), (q7, .inl (g.2 0, 200, .inl he)), (q8, .inl (g.2 0, 65, .inl ma))] U.heap ∧ GK g U ∧ va_D (fun _ => True) [(qM, .inr (9, [.int (F 0), .ref q1, .ref q2, .ref q3, .int (F 4), .int (F 5), .int (F 6), .int (F 7), .int (F 8), .int (F 9), .long (J 10), .int (F 11), .int (F 12), .int (F 13), .ref q4, .int (F 15), .ref q5, .ref q6, .ref q7, .int (F 19), .ref q8, .int (F 21), .int (F 22), .int (F 23), .int (F 24), .ref q9, .ref q10, .ref q11, .long (J 28)])), (q1, .inl (g.2 0, 376, .inl al)), (q7, .inl (g.2 0, 200, .inl he)), (q8, .inl (g.2 0, 65, .inl ma))])) (va_Qi (fun (r : Int32) (u : (Nat → Int32) × (Nat → Int32) × (Nat → Int32)) => Q r u.1 u.2.1 u.2.2) (fun (u : (Nat → Int32) × (Nat → Int32) × (Nat → Int32)) t => va_P g.1 vwCl [(qM, .inr (9, [.int (u.1 0), .ref q1, .ref q2, .ref q3, .int (u.1 4), .int (u.1 5), .int (u.1 6), .int (u.1 7), .int (u.1 8), .int (u.1 9), .long (J 10), .int (u.1 11), .int (u.1 12), .int (u.1 13), .ref q4, .int (u.1 15), .ref q5, .ref q6, .ref q7, .int (u.1 19), .ref q8, .int (u.1 21), .int (u.1 22), .int (u.1 23), .int (u.1 24), .ref q9, .ref q10, .ref q11, .long (J 28)])), (q1, .inl (g.2 0, 376, .inl al)), (q7, .inl (g.2 0, 200, .inl u.2.1)), (q8, .inl (g.2 0, 65, .inl u.2.2))] t.heap ∧ va_D (va_A [(qM, .inr (9, [.int (F 0), .ref q1, .ref q2, .ref q3, .int (F 4), .int (F 5), .int (F 6), .int (F 7), .int (F 8), .int (F 9), .long (J 10), .int (F 11), .int (F 12), .int (F 13), .ref q4, .int (F 15), .ref q5, .ref q6, .ref q7, .int (F 19), .ref q8, .int (F 21), .int (F 22), .int (F 23), .int (F 24), .ref q9, .ref q10, .ref q11, .long (J 28)])), (q1, .inl (g.2 0, 376, .inl al)), (q7, .inl (g.2 0, 200, .inl he)), (q8, .inl (g.2 0, 65, .inl ma))] sz) [(qM, .inr (9, [.int (u.1 0), .ref q1, .ref q2, .ref q3, .int (u.1 4), .int (u.1 5), .int (u.1 6), .int (u.1 7), .int (u.1 8), .int (u.1 9), .long (J 10), .int (u.1 11), .int (u.1 12), .int (u.1 13), .ref q4, .int (u.1 15), .ref q5, .ref q6, .ref q7, .int (u.1 19), .ref q8, .int (u.1 21), .int (u.1 22), .int (u.1 23), .int (u.1 24), .ref q9, .ref q10, .ref q11, .long (J 28)])), (q1, .inl (g.2 0, 376, .inl al)), (q7, .inl (g.2 0, 200, .inl u.2.1)), (q8, .inl (g.2 0, 65, .inl u.2.2))]) (va_A [(qM, .inr (9, [.int (F 0), .ref q1, .ref q2, .ref q3, .int (F 4), .int (F 5), .int (F 6), .int (F 7), .int (F 8), .int (F 9), .long (J 10), .int (F 11), .int (F 12), .int (F 13), .ref q4, .int (F 15), .ref q5, .ref q6, .ref q7, .int (F 19), .ref q8, .int (F 21), .int (F 22), .int (F 23), .int (F 24), .ref q9, .ref q10, .ref q11, .long (J 28)])), (q1, .inl (g.2 0, 376, .inl al)), (q7, .inl (g.2 0, 200, .inl he)), (q8, .inl (g.2 0, 65, .inl ma))] sz)) 0 0 (va_A [(qM, .inr (9, [.int (F 0), .ref q1, .ref q2, .ref q3, .int (F 4), .int (F 5), .int (F 6), .int (F 7), .int (F 8), .int (F 9), .long (J 10), .int (F 11), .int (F 12), .int (F 13), .ref q4, .int (F 15), .ref q5, .ref q6, .ref q7, .int (F 19), .ref q8, .int (F 21), .int (F 22), .int (F 23), .int (F 24), .ref q9, .ref q10, .ref q11, .long (J 28)])), (q1, .inl (g.2 0, 376, .inl al)), (q7, .inl (g.2 0, 200, .inl he)), (q8, .inl (g.2 0, 65, .inl ma))] sz) := by
  refine Met.ofW (cc := cX9_best) (maxL := 9) (ret := (some .int)) (by decide) rfl ?_
  intro p e s m args below meth c s₁ B hml hv'
  obtain ⟨rfl, hsz, hP, hG, hD0⟩ := hv'
  have S : CallFix p m c cX9_best 9 s _ wsX9_best RX9 := ⟨B.exec, B.bytes, hml, findClass_of_methodNamed B.named, atoms_spec (ws := wsX9_best) B.pre⟩
  obtain ⟨hx, hb, hml, hown, hts⟩ := id S
  have hK := hG.1
  have hr := B.returns
  have hlocks := B.notSynchronized
  subst hsz
  have hD := hD0.self (sz := s.heap.size)
  generalize hAe : va_A [(qM, .inr (9, [.int (F 0), .ref q1, .ref q2, .ref q3, .int (F 4), .int (F 5), .int (F 6), .int (F 7), .int (F 8), .int (F 9), .long (J 10), .int (F 11), .int (F 12), .int (F 13), .ref q4, .int (F 15), .ref q5, .ref q6, .ref q7, .int (F 19), .ref q8, .int (F 21), .int (F 22), .int (F 23), .int (F 24), .ref q9, .ref q10, .ref q11, .long (J 28)])), (q1, .inl (g.2 0, 376, .inl al)), (q7, .inl (g.2 0, 200, .inl he)), (q8, .inl (g.2 0, 65, .inl ma))] s.heap.size = A at hD ⊢
  have hA : ∀ q : Nat, s.heap.size ≤ q → A q := fun q h => by rw [← hAe]; exact Or.inr h
  have hS : va_S A s.heap s.heap [] := va_S.rf
  clear hD0 hAe
  have hl := lv_entry ([.ref qM, .int p1, .int p2, .int p3]) (n := 9) (Nat.le_of_ble_eq_true rfl)
  rw [lg_entry_eq]
  generalize (lg_sl ([.ref qM, .int p1, .int p2, .int p3]) ++ List.replicate (9 - (lg_sl ([.ref qM, .int p1, .int p2, .int p3])).length) Slot.unset).toArray = ls at hl ⊢
  have hl : lv_has ls 9 [(0, .ref qM), (1, .int p1), (2, .int p2), (3, .int p3)] := hl
  unfold vX9_best at hv
  refine lv_aload_n hx hb dX9_best_0 rfl (lv_at hl 0 rfl) ?_
  refine lv_iconst (v := (0 : Int32)) hx hb dX9_best_1 (by decide) ?_
  refine va_put (D := g.1) (ci := 9) (v := .int (0 : Int32)) (ty := .int) (C := RX9) (T := TX9) (N := 29) hx hb hts inX9_best_9 tyX9 tyX9_ok nmX9 hown hK hP hD hS 0 rfl rfl 0 (by decide) (hts (.fieldLink RX9 51 "RangeCodesModel" "raised" "I") (List.mem_of_getElem? (i := 1) rfl)) (fun _ h9 => h9) rfl (by decide +kernel) rfl rfl (Nat.le_of_ble_eq_true rfl) dX9_best_2 (fun H locs hP hD hS => ?_)
  have hP : va_P g.1 vwCl [(qM, .inr (9, [.int (0 : Int32), .ref q1, .ref q2, .ref q3, .int (F 4), .int (F 5), .int (F 6), .int (F 7), .int (F 8), .int (F 9), .long (J 10), .int (F 11), .int (F 12), .int (F 13), .ref q4, .int (F 15), .ref q5, .ref q6, .ref q7, .int (F 19), .ref q8, .int (F 21), .int (F 22), .int (F 23), .int (F 24), .ref q9, .ref q10, .ref q11, .long (J 28)])), (q1, .inl (g.2 0, 376, .inl al)), (q7, .inl (g.2 0, 200, .inl he)), (q8, .inl (g.2 0, 65, .inl ma))] H := hP
  have hD : va_D A [(qM, .inr (9, [.int (0 : Int32), .ref q1, .ref q2, .ref q3, .int (F 4), .int (F 5), .int (F 6), .int (F 7), .int (F 8), .int (F 9), .long (J 10), .int (F 11), .int (F 12), .int (F 13), .ref q4, .int (F 15), .ref q5, .ref q6, .ref q7, .int (F 19), .ref q8, .int (F 21), .int (F 22), .int (F 23), .int (F 24), .ref q9, .ref q10, .ref q11, .long (J 28)])), (q1, .inl (g.2 0, 376, .inl al)), (q7, .inl (g.2 0, 200, .inl he)), (q8, .inl (g.2 0, 65, .inl ma))] := hD
  refine lv_iload_n hx hb dX9_best_5 rfl (lv_at hl 1 rfl) ?_
  obtain ⟨ho_1, hv⟩ := hv
  refine vp_callSi (W.runS (As := [.int p1]) (rest := []) S (wX9_isLeg l g p1 (sX9_isLeg p1 ho_1)) (va_cwS 1 hts gX9_best_X9_isLeg rfl rfl rfl (by decide +kernel) ⟨Nat.le_of_ble_eq_true rfl, Nat.le_of_ble_eq_true rfl⟩) ⟨blindRO, fun U hU hW => ⟨rfl, by rw [hU]; exact hP.sub (ws' := []) [] rfl, hG.warm hW⟩⟩ rfl rfl hl.1 rfl (lv_room (Nat.le_of_ble_eq_true rfl)) dX9_best_6 ⟨Nat.le_of_ble_eq_true rfl, Nat.le_of_ble_eq_true rfl⟩) (fun r_6 hr_6 => ?_)
  have hv := hv r_6 hr_6
  obtain ⟨hvt, hvf⟩ := hv
  refine lv_if_eq (tgt := 29) hx hb dX9_best_9 (by decide) (fun hc => ?_) (fun hc => ?_)
  · have hv := hvt hc
    refine lv_sipush (v := (-1000 : Int32)) hx hb dX9_best_29 (by decide) ?_
    have hP9 := hP.sub (ws' := [(qM, .inr (9, [.int ((upd F 0 (0 : Int32)) 0), .ref q1, .ref q2, .ref q3, .int ((upd F 0 (0 : Int32)) 4), .int ((upd F 0 (0 : Int32)) 5), .int ((upd F 0 (0 : Int32)) 6), .int ((upd F 0 (0 : Int32)) 7), .int ((upd F 0 (0 : Int32)) 8), .int ((upd F 0 (0 : Int32)) 9), .long (J 10), .int ((upd F 0 (0 : Int32)) 11), .int ((upd F 0 (0 : Int32)) 12), .int ((upd F 0 (0 : Int32)) 13), .ref q4, .int ((upd F 0 (0 : Int32)) 15), .ref q5, .ref q6, .ref q7, .int ((upd F 0 (0 : Int32)) 19), .ref q8, .int ((upd F 0 (0 : Int32)) 21), .int ((upd F 0 (0 : Int32)) 22), .int ((upd F 0 (0 : Int32)) 23), .int ((upd F 0 (0 : Int32)) 24), .ref q9, .ref q10, .ref q11, .long (J 28)])), (q1, .inl (g.2 0, 376, .inl al)), (q7, .inl (g.2 0, 200, .inl he)), (q8, .inl (g.2 0, 65, .inl ma))]) [0, 1, 2, 3] rfl
    have hD9 := hD.sub (ws' := [(qM, .inr (9, [.int ((upd F 0 (0 : Int32)) 0), .ref q1, .ref q2, .ref q3, .int ((upd F 0 (0 : Int32)) 4), .int ((upd F 0 (0 : Int32)) 5), .int ((upd F 0 (0 : Int32)) 6), .int ((upd F 0 (0 : Int32)) 7), .int ((upd F 0 (0 : Int32)) 8), .int ((upd F 0 (0 : Int32)) 9), .long (J 10), .int ((upd F 0 (0 : Int32)) 11), .int ((upd F 0 (0 : Int32)) 12), .int ((upd F 0 (0 : Int32)) 13), .ref q4, .int ((upd F 0 (0 : Int32)) 15), .ref q5, .ref q6, .ref q7, .int ((upd F 0 (0 : Int32)) 19), .ref q8, .int ((upd F 0 (0 : Int32)) 21), .int ((upd F 0 (0 : Int32)) 22), .int ((upd F 0 (0 : Int32)) 23), .int ((upd F 0 (0 : Int32)) 24), .ref q9, .ref q10, .ref q11, .long (J 28)])), (q1, .inl (g.2 0, 376, .inl al)), (q7, .inl (g.2 0, 200, .inl he)), (q8, .inl (g.2 0, 65, .inl ma))]) [0, 1, 2, 3] (by decide) rfl
    exact W.iret (v := (-1000 : Int32)) hx hb hr (fun t ht hW => ⟨⟨_, ((upd F 0 (0 : Int32)), he, ma), rfl, hv, by rw [ht]; exact hP9, hD9⟩, hS.F ht⟩) hS.2.2 dX9_best_32
  · have hv := hvf hc
    refine lv_aload_n hx hb dX9_best_12 rfl (lv_at hl 0 rfl) ?_
    refine lv_iload_n hx hb dX9_best_13 rfl (lv_at hl 2 rfl) ?_
    obtain ⟨n_14, ho_2, hv⟩ := hv
    refine vp_callSi (W.runV (As := [.int p2]) (rest := []) S (wX9_isPart l g qM q1 q2 q3 q4 q5 q6 q7 q8 q9 q10 q11 (upd F 0 (0 : Int32)) J al p2 (sX9_isPart n_14 (upd F 0 (0 : Int32)) J al p2 ho_2)) (cwV 1 hts gX9_best_X9_isPart rfl rfl rfl (by decide +kernel) ⟨Nat.le_of_ble_eq_true rfl, Nat.le_of_ble_eq_true rfl⟩) ⟨blindRO, va_recv hK hP (ci := 9) (q0 := 0) rfl rfl, fun U hU hW => ⟨rfl, by rw [hU]; exact hP.sub (ws' := [(qM, .inr (9, [.int ((upd F 0 (0 : Int32)) 0), .ref q1, .ref q2, .ref q3, .int ((upd F 0 (0 : Int32)) 4), .int ((upd F 0 (0 : Int32)) 5), .int ((upd F 0 (0 : Int32)) 6), .int ((upd F 0 (0 : Int32)) 7), .int ((upd F 0 (0 : Int32)) 8), .int ((upd F 0 (0 : Int32)) 9), .long (J 10), .int ((upd F 0 (0 : Int32)) 11), .int ((upd F 0 (0 : Int32)) 12), .int ((upd F 0 (0 : Int32)) 13), .ref q4, .int ((upd F 0 (0 : Int32)) 15), .ref q5, .ref q6, .ref q7, .int ((upd F 0 (0 : Int32)) 19), .ref q8, .int ((upd F 0 (0 : Int32)) 21), .int ((upd F 0 (0 : Int32)) 22), .int ((upd F 0 (0 : Int32)) 23), .int ((upd F 0 (0 : Int32)) 24), .ref q9, .ref q10, .ref q11, .long (J 28)])), (q1, .inl (g.2 0, 376, .inl al))]) [0, 1] rfl, hG.warm hW⟩⟩ rfl rfl hl.1 rfl (lv_room (Nat.le_of_ble_eq_true rfl)) dX9_best_14 ⟨Nat.le_of_ble_eq_true rfl, Nat.le_of_ble_eq_true rfl⟩) (fun r_14 hr_14 => ?_)
    have hv := hv r_14 hr_14
    obtain ⟨hvt, hvf⟩ := hv
    refine lv_if_eq (tgt := 29) hx hb dX9_best_17 (by decide) (fun hc => ?_) (fun hc => ?_)
    · have hv := hvt hc
      refine lv_sipush (v := (-1000 : Int32)) hx hb dX9_best_29 (by decide) ?_
      have hP9 := hP.sub (ws' := [(qM, .inr (9, [.int ((upd F 0 (0 : Int32)) 0), .ref q1, .ref q2, .ref q3, .int ((upd F 0 (0 : Int32)) 4), .int ((upd F 0 (0 : Int32)) 5), .int ((upd F 0 (0 : Int32)) 6), .int ((upd F 0 (0 : Int32)) 7), .int ((upd F 0 (0 : Int32)) 8), .int ((upd F 0 (0 : Int32)) 9), .long (J 10), .int ((upd F 0 (0 : Int32)) 11), .int ((upd F 0 (0 : Int32)) 12), .int ((upd F 0 (0 : Int32)) 13), .ref q4, .int ((upd F 0 (0 : Int32)) 15), .ref q5, .ref q6, .ref q7, .int ((upd F 0 (0 : Int32)) 19), .ref q8, .int ((upd F 0 (0 : Int32)) 21), .int ((upd F 0 (0 : Int32)) 22), .int ((upd F 0 (0 : Int32)) 23), .int ((upd F 0 (0 : Int32)) 24), .ref q9, .ref q10, .ref q11, .long (J 28)])), (q1, .inl (g.2 0, 376, .inl al)), (q7, .inl (g.2 0, 200, .inl he)), (q8, .inl (g.2 0, 65, .inl ma))]) [0, 1, 2, 3] rfl
      have hD9 := hD.sub (ws' := [(qM, .inr (9, [.int ((upd F 0 (0 : Int32)) 0), .ref q1, .ref q2, .ref q3, .int ((upd F 0 (0 : Int32)) 4), .int ((upd F 0 (0 : Int32)) 5), .int ((upd F 0 (0 : Int32)) 6), .int ((upd F 0 (0 : Int32)) 7), .int ((upd F 0 (0 : Int32)) 8), .int ((upd F 0 (0 : Int32)) 9), .long (J 10), .int ((upd F 0 (0 : Int32)) 11), .int ((upd F 0 (0 : Int32)) 12), .int ((upd F 0 (0 : Int32)) 13), .ref q4, .int ((upd F 0 (0 : Int32)) 15), .ref q5, .ref q6, .ref q7, .int ((upd F 0 (0 : Int32)) 19), .ref q8, .int ((upd F 0 (0 : Int32)) 21), .int ((upd F 0 (0 : Int32)) 22), .int ((upd F 0 (0 : Int32)) 23), .int ((upd F 0 (0 : Int32)) 24), .ref q9, .ref q10, .ref q11, .long (J 28)])), (q1, .inl (g.2 0, 376, .inl al)), (q7, .inl (g.2 0, 200, .inl he)), (q8, .inl (g.2 0, 65, .inl ma))]) [0, 1, 2, 3] (by decide) rfl
      exact W.iret (v := (-1000 : Int32)) hx hb hr (fun t ht hW => ⟨⟨_, ((upd F 0 (0 : Int32)), he, ma), rfl, hv, by rw [ht]; exact hP9, hD9⟩, hS.F ht⟩) hS.2.2 dX9_best_32
    · have hv := hvf hc
      refine lv_iload_n hx hb dX9_best_20 rfl (lv_at hl 3 rfl) ?_
      refine lv_iconst (v := (0 : Int32)) hx hb dX9_best_21 (by decide) ?_
      refine lv_iconst (v := (3 : Int32)) hx hb dX9_best_22 (by decide) ?_
      obtain ⟨ho_3, hv⟩ := hv
      refine vp_callSi (W.runS (As := [.int p3, .int (0 : Int32), .int (3 : Int32)]) (rest := []) S (wX9_in l g p3 (0 : Int32) (3 : Int32) (sX9_in p3 (0 : Int32) (3 : Int32) ho_3)) (va_cwS 3 hts gX9_best_X9_in rfl rfl rfl (by decide +kernel) ⟨Nat.le_of_ble_eq_true rfl, Nat.le_of_ble_eq_true rfl⟩) ⟨blindRO, fun U hU hW => ⟨rfl, by rw [hU]; exact hP.sub (ws' := []) [] rfl, hG.warm hW⟩⟩ rfl rfl hl.1 rfl (lv_room (Nat.le_of_ble_eq_true rfl)) dX9_best_23 ⟨Nat.le_of_ble_eq_true rfl, Nat.le_of_ble_eq_true rfl⟩) (fun r_23 hr_23 => ?_)
      have hv := hv r_23 hr_23
      obtain ⟨hvt, hvf⟩ := hv
      refine lv_if_ne (tgt := 33) hx hb dX9_best_26 (by decide) (fun hc => ?_) (fun hc => ?_)
      · have hv := hvt hc
        refine lv_aload_n hx hb dX9_best_33 rfl (lv_at hl 0 rfl) ?_
        refine lv_iload_n hx hb dX9_best_34 rfl (lv_at hl 1 rfl) ?_
        obtain ⟨T_35, G0_35, G1_35, lg_35, lim_35, ho_4, hv⟩ := hv
        have hPc := hP.sub (ws' := [(qM, .inr (9, [.int ((upd F 0 (0 : Int32)) 0), .ref q1, .ref q2, .ref q3, .int ((upd F 0 (0 : Int32)) 4), .int ((upd F 0 (0 : Int32)) 5), .int ((upd F 0 (0 : Int32)) 6), .int ((upd F 0 (0 : Int32)) 7), .int ((upd F 0 (0 : Int32)) 8), .int ((upd F 0 (0 : Int32)) 9), .long (J 10), .int ((upd F 0 (0 : Int32)) 11), .int ((upd F 0 (0 : Int32)) 12), .int ((upd F 0 (0 : Int32)) 13), .ref q4, .int ((upd F 0 (0 : Int32)) 15), .ref q5, .ref q6, .ref q7, .int ((upd F 0 (0 : Int32)) 19), .ref q8, .int ((upd F 0 (0 : Int32)) 21), .int ((upd F 0 (0 : Int32)) 22), .int ((upd F 0 (0 : Int32)) 23), .int ((upd F 0 (0 : Int32)) 24), .ref q9, .ref q10, .ref q11, .long (J 28)])), (q1, .inl (g.2 0, 376, .inl al)), (q7, .inl (g.2 0, 200, .inl he)), (q8, .inl (g.2 0, 65, .inl ma))]) [0, 1, 2, 3] rfl
        have hDc := hD.sub (ws' := [(qM, .inr (9, [.int ((upd F 0 (0 : Int32)) 0), .ref q1, .ref q2, .ref q3, .int ((upd F 0 (0 : Int32)) 4), .int ((upd F 0 (0 : Int32)) 5), .int ((upd F 0 (0 : Int32)) 6), .int ((upd F 0 (0 : Int32)) 7), .int ((upd F 0 (0 : Int32)) 8), .int ((upd F 0 (0 : Int32)) 9), .long (J 10), .int ((upd F 0 (0 : Int32)) 11), .int ((upd F 0 (0 : Int32)) 12), .int ((upd F 0 (0 : Int32)) 13), .ref q4, .int ((upd F 0 (0 : Int32)) 15), .ref q5, .ref q6, .ref q7, .int ((upd F 0 (0 : Int32)) 19), .ref q8, .int ((upd F 0 (0 : Int32)) 21), .int ((upd F 0 (0 : Int32)) 22), .int ((upd F 0 (0 : Int32)) 23), .int ((upd F 0 (0 : Int32)) 24), .ref q9, .ref q10, .ref q11, .long (J 28)])), (q1, .inl (g.2 0, 376, .inl al)), (q7, .inl (g.2 0, 200, .inl he)), (q8, .inl (g.2 0, 65, .inl ma))]) [0, 1, 2, 3] (by decide) rfl
        have hFc := va_free (wc := [(qM, .inr (9, [.int ((upd F 0 (0 : Int32)) 0), .ref q1, .ref q2, .ref q3, .int ((upd F 0 (0 : Int32)) 4), .int ((upd F 0 (0 : Int32)) 5), .int ((upd F 0 (0 : Int32)) 6), .int ((upd F 0 (0 : Int32)) 7), .int ((upd F 0 (0 : Int32)) 8), .int ((upd F 0 (0 : Int32)) 9), .long (J 10), .int ((upd F 0 (0 : Int32)) 11), .int ((upd F 0 (0 : Int32)) 12), .int ((upd F 0 (0 : Int32)) 13), .ref q4, .int ((upd F 0 (0 : Int32)) 15), .ref q5, .ref q6, .ref q7, .int ((upd F 0 (0 : Int32)) 19), .ref q8, .int ((upd F 0 (0 : Int32)) 21), .int ((upd F 0 (0 : Int32)) 22), .int ((upd F 0 (0 : Int32)) 23), .int ((upd F 0 (0 : Int32)) 24), .ref q9, .ref q10, .ref q11, .long (J 28)])), (q1, .inl (g.2 0, 376, .inl al)), (q7, .inl (g.2 0, 200, .inl he)), (q8, .inl (g.2 0, 65, .inl ma))]) hD hS hA [0, 1, 2, 3] rfl
        refine va_callv (va_runV (As := [.int p1]) (rest := []) S (wX9_laysLeg l g qM q1 q2 q3 q4 q5 q6 q7 q8 q9 q10 q11 H.size (upd F 0 (0 : Int32)) J al he ma p1 (sX9_laysLeg T_35 G0_35 G1_35 lg_35 lim_35 (upd F 0 (0 : Int32)) J al he ma p1 ho_4)) (cwV 1 hts gX9_best_X9_laysLeg rfl rfl rfl (by decide +kernel) ⟨Nat.le_of_ble_eq_true rfl, Nat.le_of_ble_eq_true rfl⟩) ⟨blindRW, va_recv hK hP (ci := 9) (q0 := 0) rfl rfl, fun U hU hW => ⟨rfl, by rw [hU], by rw [hU]; exact hPc, hG.warm hW, hDc.weaken (fun _ _ _ _ => trivial)⟩⟩ rfl rfl hl.1 rfl (lv_room (Nat.le_of_ble_eq_true rfl)) dX9_best_35 ⟨Nat.le_of_ble_eq_true rfl, Nat.le_of_ble_eq_true rfl⟩) hS (fun q _ h => hFc q h) hFc (fun u t H1 locs ht hvm hw hB hz1 hk1 hS => ?_)
        obtain ⟨F_35, he_35, ma_35⟩ := u
        obtain ⟨hP1, hD1⟩ := hB
        rw [ht] at hP1
        have hv := hv F_35 he_35 ma_35 hw
        obtain ⟨hP, hD⟩ := va_join (wr := []) (w1 := [(qM, .inr (9, [.int (F_35 0), .ref q1, .ref q2, .ref q3, .int (F_35 4), .int (F_35 5), .int (F_35 6), .int (F_35 7), .int (F_35 8), .int (F_35 9), .long (J 10), .int (F_35 11), .int (F_35 12), .int (F_35 13), .ref q4, .int (F_35 15), .ref q5, .ref q6, .ref q7, .int (F_35 19), .ref q8, .int (F_35 21), .int (F_35 22), .int (F_35 23), .int (F_35 24), .ref q9, .ref q10, .ref q11, .long (J 28)])), (q1, .inl (g.2 0, 376, .inl al)), (q7, .inl (g.2 0, 200, .inl he_35)), (q8, .inl (g.2 0, 65, .inl ma_35))]) hP hD [0, 1, 2, 3] [] rfl rfl (by decide) (by decide) hk1 hFc hP1 hD1
        clear hP1 hD1 hPc hDc hFc hk1
        generalize H1 = H at hP hS ⊢
        have hP : va_P g.1 vwCl [(qM, .inr (9, [.int (F_35 0), .ref q1, .ref q2, .ref q3, .int (F_35 4), .int (F_35 5), .int (F_35 6), .int (F_35 7), .int (F_35 8), .int (F_35 9), .long (J 10), .int (F_35 11), .int (F_35 12), .int (F_35 13), .ref q4, .int (F_35 15), .ref q5, .ref q6, .ref q7, .int (F_35 19), .ref q8, .int (F_35 21), .int (F_35 22), .int (F_35 23), .int (F_35 24), .ref q9, .ref q10, .ref q11, .long (J 28)])), (q1, .inl (g.2 0, 376, .inl al)), (q7, .inl (g.2 0, 200, .inl he_35)), (q8, .inl (g.2 0, 65, .inl ma_35))] H := hP
        have hD : va_D A [(qM, .inr (9, [.int (F_35 0), .ref q1, .ref q2, .ref q3, .int (F_35 4), .int (F_35 5), .int (F_35 6), .int (F_35 7), .int (F_35 8), .int (F_35 9), .long (J 10), .int (F_35 11), .int (F_35 12), .int (F_35 13), .ref q4, .int (F_35 15), .ref q5, .ref q6, .ref q7, .int (F_35 19), .ref q8, .int (F_35 21), .int (F_35 22), .int (F_35 23), .int (F_35 24), .ref q9, .ref q10, .ref q11, .long (J 28)])), (q1, .inl (g.2 0, 376, .inl al)), (q7, .inl (g.2 0, 200, .inl he_35)), (q8, .inl (g.2 0, 65, .inl ma_35))] := hD
        refine lv_aload_n hx hb dX9_best_38 rfl (lv_at hl 0 rfl) ?_
        refine lv_iload_n hx hb dX9_best_39 rfl (lv_at hl 2 rfl) ?_
        obtain ⟨T_40, p_40, m_40, ho_5, hv⟩ := hv
        refine vp_callSi (W.runV (As := [.int p2]) (rest := []) S (wX9_bestOf l g qM q1 q2 q3 q4 q5 q6 q7 q8 q9 q10 q11 F_35 J al ma_35 p2 (sX9_bestOf T_40 p_40 m_40 F_35 J al ma_35 p2 ho_5)) (cwV 1 hts gX9_best_X9_bestOf rfl rfl rfl (by decide +kernel) ⟨Nat.le_of_ble_eq_true rfl, Nat.le_of_ble_eq_true rfl⟩) ⟨blindRO, va_recv hK hP (ci := 9) (q0 := 0) rfl rfl, fun U hU hW => ⟨rfl, by rw [hU]; exact hP.sub (ws' := [(qM, .inr (9, [.int (F_35 0), .ref q1, .ref q2, .ref q3, .int (F_35 4), .int (F_35 5), .int (F_35 6), .int (F_35 7), .int (F_35 8), .int (F_35 9), .long (J 10), .int (F_35 11), .int (F_35 12), .int (F_35 13), .ref q4, .int (F_35 15), .ref q5, .ref q6, .ref q7, .int (F_35 19), .ref q8, .int (F_35 21), .int (F_35 22), .int (F_35 23), .int (F_35 24), .ref q9, .ref q10, .ref q11, .long (J 28)])), (q1, .inl (g.2 0, 376, .inl al)), (q8, .inl (g.2 0, 65, .inl ma_35))]) [0, 1, 3] rfl, hG.warm hW⟩⟩ rfl rfl hl.1 rfl (lv_room (Nat.le_of_ble_eq_true rfl)) dX9_best_40 ⟨Nat.le_of_ble_eq_true rfl, Nat.le_of_ble_eq_true rfl⟩) (fun r_40 hr_40 => ?_)
        have hv := hv r_40 hr_40
        refine lv_istore (lv' := [(4, .int r_40), (0, .ref qM), (1, .int p1), (2, .int p2), (3, .int p3)]) hx hb dX9_best_43 hl (by decide) rfl (fun ls hl => ?_)
        refine lv_ldc (v := (-1000000 : Int32)) hx hb hown (hts (.constant RX9 222 (-1000000)) (List.mem_of_getElem? (i := 2) rfl)) dX9_best_45 ?_
        refine lv_istore (lv' := [(5, .int (-1000000 : Int32)), (4, .int r_40), (0, .ref qM), (1, .int p1), (2, .int p2), (3, .int p3)]) hx hb dX9_best_47 hl (by decide) rfl (fun ls hl => ?_)
        refine lv_iconst (v := (0 : Int32)) hx hb dX9_best_49 (by decide) ?_
        refine lv_istore (lv' := [(6, .int (0 : Int32)), (5, .int (-1000000 : Int32)), (4, .int r_40), (0, .ref qM), (1, .int p1), (2, .int p2), (3, .int p3)]) hx hb dX9_best_50 hl (by decide) rfl (fun ls hl => ?_)
        refine lv_iconst (v := (0 : Int32)) hx hb dX9_best_52 (by decide) ?_
        refine lv_istore (lv' := [(7, .int (0 : Int32)), (6, .int (0 : Int32)), (5, .int (-1000000 : Int32)), (4, .int r_40), (0, .ref qM), (1, .int p1), (2, .int p2), (3, .int p3)]) hx hb dX9_best_53 hl (by decide) rfl (fun ls hl => ?_)
        obtain ⟨nn, hv⟩ := hv
        exact kX9_best_c55 S hr hlocks hG hA nn _ _ _ _ _ _ _ hv _ _ (hP.sub (ws' := [(qM, .inr (9, [.int (F_35 0), .ref q1, .ref q2, .ref q3, .int (F_35 4), .int (F_35 5), .int (F_35 6), .int (F_35 7), .int (F_35 8), .int (F_35 9), .long (J 10), .int (F_35 11), .int (F_35 12), .int (F_35 13), .ref q4, .int (F_35 15), .ref q5, .ref q6, .ref q7, .int (F_35 19), .ref q8, .int (F_35 21), .int (F_35 22), .int (F_35 23), .int (F_35 24), .ref q9, .ref q10, .ref q11, .long (J 28)])), (q1, .inl (g.2 0, 376, .inl al)), (q7, .inl (g.2 0, 200, .inl he_35)), (q8, .inl (g.2 0, 65, .inl ma_35))]) [0, 1, 2, 3] rfl) (hD.sub (ws' := [(qM, .inr (9, [.int (F_35 0), .ref q1, .ref q2, .ref q3, .int (F_35 4), .int (F_35 5), .int (F_35 6), .int (F_35 7), .int (F_35 8), .int (F_35 9), .long (J 10), .int (F_35 11), .int (F_35 12), .int (F_35 13), .ref q4, .int (F_35 15), .ref q5, .ref q6, .ref q7, .int (F_35 19), .ref q8, .int (F_35 21), .int (F_35 22), .int (F_35 23), .int (F_35 24), .ref q9, .ref q10, .ref q11, .long (J 28)])), (q1, .inl (g.2 0, 376, .inl al)), (q7, .inl (g.2 0, 200, .inl he_35)), (q8, .inl (g.2 0, 65, .inl ma_35))]) [0, 1, 2, 3] (by decide) rfl) hS ls (lv_sub hl [4, 6, 7, 3, 2, 1, 0] rfl)
      · have hv := hvf hc
        refine lv_sipush (v := (-1000 : Int32)) hx hb dX9_best_29 (by decide) ?_
        have hP9 := hP.sub (ws' := [(qM, .inr (9, [.int ((upd F 0 (0 : Int32)) 0), .ref q1, .ref q2, .ref q3, .int ((upd F 0 (0 : Int32)) 4), .int ((upd F 0 (0 : Int32)) 5), .int ((upd F 0 (0 : Int32)) 6), .int ((upd F 0 (0 : Int32)) 7), .int ((upd F 0 (0 : Int32)) 8), .int ((upd F 0 (0 : Int32)) 9), .long (J 10), .int ((upd F 0 (0 : Int32)) 11), .int ((upd F 0 (0 : Int32)) 12), .int ((upd F 0 (0 : Int32)) 13), .ref q4, .int ((upd F 0 (0 : Int32)) 15), .ref q5, .ref q6, .ref q7, .int ((upd F 0 (0 : Int32)) 19), .ref q8, .int ((upd F 0 (0 : Int32)) 21), .int ((upd F 0 (0 : Int32)) 22), .int ((upd F 0 (0 : Int32)) 23), .int ((upd F 0 (0 : Int32)) 24), .ref q9, .ref q10, .ref q11, .long (J 28)])), (q1, .inl (g.2 0, 376, .inl al)), (q7, .inl (g.2 0, 200, .inl he)), (q8, .inl (g.2 0, 65, .inl ma))]) [0, 1, 2, 3] rfl
        have hD9 := hD.sub (ws' := [(qM, .inr (9, [.int ((upd F 0 (0 : Int32)) 0), .ref q1, .ref q2, .ref q3, .int ((upd F 0 (0 : Int32)) 4), .int ((upd F 0 (0 : Int32)) 5), .int ((upd F 0 (0 : Int32)) 6), .int ((upd F 0 (0 : Int32)) 7), .int ((upd F 0 (0 : Int32)) 8), .int ((upd F 0 (0 : Int32)) 9), .long (J 10), .int ((upd F 0 (0 : Int32)) 11), .int ((upd F 0 (0 : Int32)) 12), .int ((upd F 0 (0 : Int32)) 13), .ref q4, .int ((upd F 0 (0 : Int32)) 15), .ref q5, .ref q6, .ref q7, .int ((upd F 0 (0 : Int32)) 19), .ref q8, .int ((upd F 0 (0 : Int32)) 21), .int ((upd F 0 (0 : Int32)) 22), .int ((upd F 0 (0 : Int32)) 23), .int ((upd F 0 (0 : Int32)) 24), .ref q9, .ref q10, .ref q11, .long (J 28)])), (q1, .inl (g.2 0, 376, .inl al)), (q7, .inl (g.2 0, 200, .inl he)), (q8, .inl (g.2 0, 65, .inl ma))]) [0, 1, 2, 3] (by decide) rfl
        exact W.iret (v := (-1000 : Int32)) hx hb hr (fun t ht hW => ⟨⟨_, ((upd F 0 (0 : Int32)), he, ma), rfl, hv, by rw [ht]; exact hP9, hD9⟩, hS.F ht⟩) hS.2.2 dX9_best_32
/-- the greatest of the others -/
def otZ (m : Nat → Int) (b : Nat) : Nat → Int
  | 0 => -1000000
  | k + 1 => if k = b then otZ m b k else max (otZ m b k) (m k)
theorem otZ_bsx (m : Nat → Int) (b : Nat) (L : Nat) (hm : ∀ w, w < L → -1000 ≤ m w) : ∀ k, k ≤ L → (if b = 0 then 2 ≤ k else 1 ≤ k) → otZ m b k = m (bsx m (b : Int) k)
  | 0, _, h => by split at h <;> omega
  | k + 1, hk, h => by
    by_cases hs : (if b = 0 then 2 ≤ k else 1 ≤ k)
    · have ih := otZ_bsx m b L hm k (by omega) hs
      rw [otZ, bsx, ih]
      by_cases e : k = b
      · rw [if_pos e, if_neg (fun q => q.1 (by omega))]
      · rw [if_neg e]
        by_cases q : m (bsx m (b : Int) k) < m k
        · rw [if_pos ⟨by omega, q⟩]; exact Int.max_eq_right (Int.le_of_lt q)
        · rw [if_neg (fun z => q z.2)]; exact Int.max_eq_left (by omega)
    · by_cases hb : b = 0
      · subst hb
        rw [if_pos rfl] at hs h
        have : k = 1 := by omega
        subst this
        have h1 := hm 1 (by omega)
        rw [show bsx m ((0 : Nat) : Int) (1 + 1) = 1 from bsx_2 m, otZ, if_neg (by omega), otZ, if_pos rfl, otZ]
        exact Int.max_eq_right (by omega)
      · rw [if_neg hb] at hs h
        have : k = 0 := by omega
        subst this
        have h1 := hm 0 (by omega)
        rw [show bsx m (b : Int) (0 + 1) = 0 from bsx_1 m _ (by omega), otZ, if_neg (by omega), otZ]
        exact Int.max_eq_right (by omega)
theorem otZ_le (m : Nat → Int) (b : Nat) (L : Nat) (hm : ∀ w, w < L → -1000 ≤ m w ∧ m w ≤ 1000) : ∀ k, k ≤ L → -1000000 ≤ otZ m b k ∧ otZ m b k ≤ 1000
  | 0, _ => by simp [otZ]
  | k + 1, hk => by
    have ih := otZ_le m b L hm k (by omega)
    have := hm k (by omega)
    rw [otZ]; split
    · exact ih
    · omega
theorem sX9_best_55 (T : Cd) (m : Nat → Nat → Int) (p : Nat) (F : Nat → Int32) (J : Nat → Int64) (al : Nat → Int32) (he : Nat → Int32) (ma : Nat → Int32) (p1 : Int32) (p2 : Int32) (p3 : Int32) (hT : mT T al) (hp : p < cn T) (e2 : p2.toInt = (p : Int)) (hma : isMA T m ma) (hm : ∀ w, w < cL T p → -1000 ≤ m p w ∧ m p w ≤ 1000) (x4 : Int32) (h4 : x4.toInt = ((bst (m p) (cL T p) : Nat) : Int)) (Q : Int32 → (Nat → Int32) → (Nat → Int32) → (Nat → Int32) → Prop) (hQ : ∀ r : Int32, r.toInt = (if p3.toInt = 0 then ((bst (m p) (cL T p) : Nat) : Int) else if p3.toInt = 1 then m p (bst (m p) (cL T p)) else if p3.toInt = 2 then m p (bst (m p) (cL T p)) - otZ (m p) (bst (m p) (cL T p)) (cL T p) else (alN (m p) (m p (bst (m p) (cL T p))) (cL T p) : Int)) → Q r F he ma) : ∀ (n i : Nat) (x5 x6 x7 : Int32), x5.toInt = otZ (m p) (bst (m p) (cL T p)) i → x6.toInt = (alN (m p) (m p (bst (m p) (cL T p))) i : Int) → x7.toInt = (i : Int) → i ≤ cL T p → cL T p + 1 ≤ i + n → vX9_best_c55 J al p1 p2 p3 Q n x4 x5 x6 x7 F he ma
  | 0, i, x5, x6, x7, _, _, _, hi, hn => absurd hn (by omega)
  | n + 1, i, x5, x6, x7, h5, h6, h7, hi, hn => by
    have hn5 := hT.1.2
    have hlp := mT_L hT hp
    have hpm : preX9_matchOf T p m F J al ma p2 := ⟨hn5, hT.2.1, e2, hp, hma p hp⟩
    have hal := alN_le (m p) (m p (bst (m p) (cL T p))) i
    rw [vX9_best_c55]
    refine ⟨p, 0, ⟨e2, rfl, by omega⟩, fun r hr => ?_⟩
    have hr : r.toInt = (cL T p : Int) := by rw [hr]; exact hlp.1
    rw [q_le hr h7]
    refine ⟨fun hc => ?_, fun hc => ?_⟩
    · have : i = cL T p := by omega
      subst this
      have ho := otZ_le (m p) (bst (m p) (cL T p)) (cL T p) hm (cL T p) (Nat.le_refl _)
      have hbl := bst_lt (m p) (cL T p) (by omega)
      have hbm := hm _ hbl
      simp only [fa_eq p3, z0, z1, z2]
      refine ⟨fun q0 => ⟨fun q1 => ⟨fun q2 => hQ _ ?_, fun q2 => ⟨T, p, m, hpm, fun r2 hr2 => hQ _ ?_⟩⟩, fun q1 => ⟨T, p, m, hpm, fun r2 hr2 => hQ _ ?_⟩⟩, fun q0 => hQ _ ?_⟩
      · rw [if_neg q0, if_neg q1, if_neg q2]; exact h6
      · rw [if_neg q0, if_neg q1, if_pos q2]; exact q_sub hr2 h5 (by omega) (by omega)
      · rw [if_neg q0, if_pos q1]; exact hr2
      · rw [if_pos q0]; exact h4
    · have e := q_13 e2 h7 (by omega) (by omega)
      have h7s := q_1 h7 (by omega)
      refine ⟨q_in e (by omega), fun y hy => ?_⟩
      rw [q_cl e] at hy
      have hy : y.toInt = m p i := by rw [hy]; exact hma p hp i (by omega)
      have step : ∀ s0 : Int32, s0.toInt = otZ (m p) (bst (m p) (cL T p)) (i + 1) → vX9_best_c99 J al p1 p2 p3 Q (vX9_best_c55 J al p1 p2 p3 Q n) x4 x6 x7 y s0 F he ma := by
        intro s0 hs0
        refine ⟨T, p, m, hpm, fun r2 hr2 => ?_⟩
        have hr2 : r2.toInt = m p (bst (m p) (cL T p)) := hr2
        rw [q_eq hy hr2]
        refine ⟨fun hq => sX9_best_55 T m p F J al he ma p1 p2 p3 hT hp e2 hma hm x4 h4 Q hQ n (i + 1) _ _ _ hs0 ?_ h7s (by omega) (by omega), fun hq => sX9_best_55 T m p F J al he ma p1 p2 p3 hT hp e2 hma hm x4 h4 Q hQ n (i + 1) _ _ _ hs0 ?_ h7s (by omega) (by omega)⟩
        · rw [alN, if_neg hq, Int32.add_zero]; exact h6
        · rw [alN, if_pos hq]; exact q_1 h6 (by omega)
      rw [q_eq h7 h4]
      refine ⟨fun hq => ⟨trivial, fun r2 hr2 => step _ ?_⟩, fun hq => step _ ?_⟩
      · have hr2 : r2.toInt = max x5.toInt y.toInt := hr2
        rw [hr2, h5, hy, otZ, if_neg (by omega)]
      · rw [otZ, if_pos (by omega)]; exact h5
abbrev preX9_best (T : Cd) (G0 : Lg) (G1 : Lg) (lim : Nat) (F : Nat → Int32) (J : Nat → Int64) (al : Nat → Int32) (he : Nat → Int32) (ma : Nat → Int32) (p1 : Int32) (p2 : Int32) (p3 : Int32) : Prop := fcR T G0 G1 lim al
abbrev postX9_best (T : Cd) (G0 : Lg) (G1 : Lg) (lim : Nat) (F : Nat → Int32) (J : Nat → Int64) (al : Nat → Int32) (he : Nat → Int32) (ma : Nat → Int32) (p1 : Int32) (p2 : Int32) (p3 : Int32) (r : Int32) (F' : Nat → Int32) (he' : Nat → Int32) (ma' : Nat → Int32) : Prop := r.toInt = spBest T G0 G1 lim p1.toInt p2.toInt p3.toInt
theorem sX9_best (T : Cd) (G0 : Lg) (G1 : Lg) (lim : Nat) (F : Nat → Int32) (J : Nat → Int64) (al : Nat → Int32) (he : Nat → Int32) (ma : Nat → Int32) (p1 : Int32) (p2 : Int32) (p3 : Int32) (H : preX9_best T G0 G1 lim F J al he ma p1 p2 p3) : vX9_best F J al he ma p1 p2 p3 (postX9_best T G0 G1 lim F J al he ma p1 p2 p3) := by
  obtain ⟨hT, h0, h1, hlim, hl9, hl1⟩ := id H
  have hn5 := hT.1.2
  unfold postX9_best spBest
  refine ⟨trivial, fun r hr => ?_⟩
  have hr : r = if p1.toInt = 0 ∨ p1.toInt = 1 then 1 else 0 := hr
  rw [hr, q_if1]
  refine ⟨fun hc => by rw [if_neg (fun q => hc q.1)]; rfl, fun hc => ⟨cn T, hT.1.1, fun r2 hr2 => ?_⟩⟩
  have hc := Decidable.not_not.mp hc
  have hr2 : r2 = if 0 ≤ p2.toInt ∧ p2.toInt < (cn T : Int) then 1 else 0 := hr2
  rw [hr2, q_if1]
  refine ⟨fun hd => by rw [if_neg (fun q => hd q.2.1)]; rfl, fun hd => ⟨trivial, fun r3 hr3 => ?_⟩⟩
  have hd := Decidable.not_not.mp hd
  have hr3 : r3 = if 0 ≤ p3.toInt ∧ p3.toInt ≤ 3 then 1 else 0 := hr3
  rw [hr3, q_if1]
  refine ⟨fun he => ?_, fun he => by rw [if_neg (fun q => he q.2.2)]; rfl⟩
  have he := Decidable.not_not.mp he
  rw [if_pos ⟨hc, hd, he⟩]
  have e2 : p2.toInt = (p2.toInt.toNat : Int) := by omega
  have hp : p2.toInt.toNat < cn T := by omega
  have hlp := mT_L hT hp
  have hG := pk_mG h0 h1 (l := p1.toInt.toNat) (by omega)
  have hg := gmn_le hG.1
  have hm : ∀ w, w < cL T p2.toInt.toNat → -1000 ≤ mN T G0 G1 lim p1.toInt.toNat p2.toInt.toNat w ∧ mN T G0 G1 lim p1.toInt.toNat p2.toInt.toNat w ≤ 1000 := fun w hw => by
    have := mN_le T G0 G1 lim p1.toInt.toNat hg.2 p2.toInt.toNat w
    omega
  refine ⟨T, G0, G1, p1.toInt.toNat, lim, fcR_ll H _ _ _ _ hc, fun F2 he2 ma2 hq => ?_⟩
  have h2 := rlC_of hq
  refine ⟨T, p2.toInt.toNat, mN T G0 G1 lim p1.toInt.toNat, ⟨hn5, hT.2.1, e2, hp, h2.2.1 _ hp⟩, fun r4 hr4 => ⟨14, sX9_best_55 T (mN T G0 G1 lim p1.toInt.toNat) p2.toInt.toNat F2 J al he2 ma2 p1 p2 p3 hT hp e2 h2.2.1 hm r4 hr4 _ (fun r5 hr5 => ?_) 14 0 _ _ _ rfl rfl rfl (by omega) (by omega)⟩⟩
  rw [otZ_bsx (mN T G0 G1 lim p1.toInt.toNat p2.toInt.toNat) _ (cL T p2.toInt.toNat) (fun w hw => (hm w hw).1) _ (Nat.le_refl _) (by split <;> omega)] at hr5
  exact hr5
set_option maxRecDepth 20000 in
theorem ggX9_tells_X9_ofLeg : GoodIn wsX9_tells wsX9_ofLeg := goodIn_r _ [5, 6, 26, 27, 28, 29, 30, 31, 32, 33, 34, 35, 36, 37, 38, 39, 40, 41, 42, 43, 44, 45, 46, 47, 48, 49, 50, 51, 52, 53, 54] (by decide +kernel) (by decide +kernel)
set_option maxRecDepth 20000 in
theorem gX9_tells_X9_ofLeg : GoodIn wsX9_tells (wsV RX9 185 RX9 yX9_ofLeg wsX9_ofLeg) := goodIn_app (goodIn_of _ (by decide +kernel)) ggX9_tells_X9_ofLeg
set_option maxRecDepth 20000 in
theorem ggX9_tells_X9_alike : GoodIn wsX9_tells wsX9_alike := goodIn_r _ [10, 11, 1, 2, 3, 4, 5, 6, 12, 13, 14, 15, 16, 17, 18, 19, 20, 21, 22, 23, 24, 25, 26, 27, 28, 29, 30, 31, 32, 33, 34, 35, 36, 37, 38, 39, 40, 41, 42, 43, 44, 45, 46, 47, 48, 49, 50, 51, 52, 53, 54] (by decide +kernel) (by decide +kernel)
set_option maxRecDepth 20000 in
theorem gX9_tells_X9_alike : GoodIn wsX9_tells (wsV RX9 256 RX9 yX9_alike wsX9_alike) := goodIn_app (goodIn_of _ (by decide +kernel)) ggX9_tells_X9_alike
theorem dX9_tells_0 : decode cX9_tells 0 = .ok (.iconst 0, 1) := by decide +kernel
theorem dX9_tells_1 : decode cX9_tells 1 = .ok (.istore 5, 2) := by decide +kernel
theorem dX9_tells_3 : decode cX9_tells 3 = .ok (.iconst 0, 1) := by decide +kernel
theorem dX9_tells_4 : decode cX9_tells 4 = .ok (.istore 6, 2) := by decide +kernel
theorem dX9_tells_6 : decode cX9_tells 6 = .ok (.iload 6, 2) := by decide +kernel
theorem dX9_tells_8 : decode cX9_tells 8 = .ok (.aload_n 0, 1) := by decide +kernel
theorem dX9_tells_9 : decode cX9_tells 9 = .ok (.iload_n 1, 1) := by decide +kernel
theorem dX9_tells_10 : decode cX9_tells 10 = .ok (.iconst 3, 1) := by decide +kernel
theorem dX9_tells_11 : decode cX9_tells 11 = .ok (.invokevirtual 185, 3) := by decide +kernel
theorem dX9_tells_14 : decode cX9_tells 14 = .ok (.if_icmp .ge 46, 3) := by decide +kernel
theorem dX9_tells_17 : decode cX9_tells 17 = .ok (.iload 5, 2) := by decide +kernel
theorem dX9_tells_19 : decode cX9_tells 19 = .ok (.aload_n 0, 1) := by decide +kernel
theorem dX9_tells_20 : decode cX9_tells 20 = .ok (.iload_n 1, 1) := by decide +kernel
theorem dX9_tells_21 : decode cX9_tells 21 = .ok (.iload 6, 2) := by decide +kernel
theorem dX9_tells_23 : decode cX9_tells 23 = .ok (.iload_n 2, 1) := by decide +kernel
theorem dX9_tells_24 : decode cX9_tells 24 = .ok (.iload_n 3, 1) := by decide +kernel
theorem dX9_tells_25 : decode cX9_tells 25 = .ok (.invokevirtual 256, 3) := by decide +kernel
theorem dX9_tells_28 : decode cX9_tells 28 = .ok (.iconst 1, 1) := by decide +kernel
theorem dX9_tells_29 : decode cX9_tells 29 = .ok (.if_icmp .ne 21, 3) := by decide +kernel
theorem dX9_tells_32 : decode cX9_tells 32 = .ok (.aload_n 0, 1) := by decide +kernel
theorem dX9_tells_33 : decode cX9_tells 33 = .ok (.iload_n 1, 1) := by decide +kernel
theorem dX9_tells_34 : decode cX9_tells 34 = .ok (.iload 6, 2) := by decide +kernel
theorem dX9_tells_36 : decode cX9_tells 36 = .ok (.iload_n 2, 1) := by decide +kernel
theorem dX9_tells_37 : decode cX9_tells 37 = .ok (.iload 4, 2) := by decide +kernel
theorem dX9_tells_39 : decode cX9_tells 39 = .ok (.invokevirtual 256, 3) := by decide +kernel
theorem dX9_tells_42 : decode cX9_tells 42 = .ok (.iconst (-1), 1) := by decide +kernel
theorem dX9_tells_43 : decode cX9_tells 43 = .ok (.if_icmp .ne 7, 3) := by decide +kernel
theorem dX9_tells_46 : decode cX9_tells 46 = .ok (.iconst 1, 1) := by decide +kernel
theorem dX9_tells_47 : decode cX9_tells 47 = .ok (.goto 4, 3) := by decide +kernel
theorem dX9_tells_50 : decode cX9_tells 50 = .ok (.iconst 0, 1) := by decide +kernel
theorem dX9_tells_51 : decode cX9_tells 51 = .ok (.iadd, 1) := by decide +kernel
theorem dX9_tells_52 : decode cX9_tells 52 = .ok (.istore 5, 2) := by decide +kernel
theorem dX9_tells_54 : decode cX9_tells 54 = .ok (.iinc 6 1, 3) := by decide +kernel
theorem dX9_tells_57 : decode cX9_tells 57 = .ok (.goto (-51), 3) := by decide +kernel
theorem dX9_tells_60 : decode cX9_tells 60 = .ok (.iload 5, 2) := by decide +kernel
theorem dX9_tells_62 : decode cX9_tells 62 = .ok (.ireturn, 1) := by decide +kernel
abbrev rmX9_tells : Room := { frames := 3, cells := 0, slots := 0, locals := 68 }
def vX9_tells_c6 (F : Nat → Int32) (J : Nat → Int64) (al : Nat → Int32) (he : Nat → Int32) (p1 : Int32) (p2 : Int32) (p3 : Int32) (p4 : Int32) (Q : Int32 → Prop) : Nat → Int32 → Int32 → Prop
  | 0, _, _ => False
  | n + 1, x5, x6 => (∃ (p_11 : Nat) (w_11 : Nat), preX9_ofLeg p_11 w_11 F J al p1 (3 : Int32) ∧ (∀ r_11 : Int32, postX9_ofLeg p_11 w_11 F J al p1 (3 : Int32) r_11 → ((r_11 ≤ x6 → (Q x5)) ∧ (¬ r_11 ≤ x6 → (∃ (T_25 : Cd) (G_25 : Lg) (lg_25 : Nat) (i_25 : Nat) (p_25 : Nat) (pl_25 : Nat) (h_25 : Nat → Nat), preX9_alike T_25 G_25 lg_25 i_25 p_25 pl_25 h_25 F J al he p1 x6 p2 p3 ∧ (∀ r_25 : Int32, postX9_alike T_25 G_25 lg_25 i_25 p_25 pl_25 h_25 F J al he p1 x6 p2 p3 r_25 → ((¬ r_25 = (1 : Int32) → (vX9_tells_c6 F J al he p1 p2 p3 p4 Q n (x5 + (0 : Int32)) (x6 + (1 : Int32)))) ∧ (r_25 = (1 : Int32) → (∃ (T_39 : Cd) (G_39 : Lg) (lg_39 : Nat) (i_39 : Nat) (p_39 : Nat) (pl_39 : Nat) (h_39 : Nat → Nat), preX9_alike T_39 G_39 lg_39 i_39 p_39 pl_39 h_39 F J al he p1 x6 p2 p4 ∧ (∀ r_39 : Int32, postX9_alike T_39 G_39 lg_39 i_39 p_39 pl_39 h_39 F J al he p1 x6 p2 p4 r_39 → ((¬ r_39 = (-1 : Int32) → (vX9_tells_c6 F J al he p1 p2 p3 p4 Q n (x5 + (0 : Int32)) (x6 + (1 : Int32)))) ∧ (r_39 = (-1 : Int32) → (vX9_tells_c6 F J al he p1 p2 p3 p4 Q n (x5 + (1 : Int32)) (x6 + (1 : Int32)))))))))))))))
set_option maxHeartbeats 4000000 in
set_option maxRecDepth 100000 in
theorem kX9_tells_c6 {p : Program} {l : Launch} {e : Env} {s : State} {m : MethodId} {args : Array Value} {below : List Frame} {meth : Method} {c : Code} {g : GP} {qM : Nat} {q1 : Nat} {q2 : Nat} {q3 : Nat} {q4 : Nat} {q5 : Nat} {q6 : Nat} {q7 : Nat} {q8 : Nat} {q9 : Nat} {q10 : Nat} {q11 : Nat} {F : Nat → Int32} {J : Nat → Int64} {al : Nat → Int32} {he : Nat → Int32} {p1 : Int32} {p2 : Int32} {p3 : Int32} {p4 : Int32} {Q : Int32 → Prop} (S : CallFix p m c cX9_tells 7 s args wsX9_tells RX9) (hr : meth.sig.returnType = (some .int)) (hlocks : meth.locks = false) (hG : GK g s) (hP : va_P g.1 vwCl [(qM, .inr (9, [.int (F 0), .ref q1, .ref q2, .ref q3, .int (F 4), .int (F 5), .int (F 6), .int (F 7), .int (F 8), .int (F 9), .long (J 10), .int (F 11), .int (F 12), .int (F 13), .ref q4, .int (F 15), .ref q5, .ref q6, .ref q7, .int (F 19), .ref q8, .int (F 21), .int (F 22), .int (F 23), .int (F 24), .ref q9, .ref q10, .ref q11, .long (J 28)])), (q1, .inl (g.2 0, 376, .inl al)), (q7, .inl (g.2 0, 200, .inl he))] s.heap) : ∀ (n : Nat), ∀ (x5 : Int32) (x6 : Int32), vX9_tells_c6 F J al he p1 p2 p3 p4 Q n x5 x6 → ∀ (ls : Array Slot), lv_has ls 7 [(0, .ref qM), (1, .int p1), (2, .int p2), (3, .int p3), (4, .int p4), (5, .int x5), (6, .int x6)] → W p l e (headSpec wsX9_tells rmX9_tells).room s m args below meth c s.heap [] 0 0 (MQ below (vp_Si Q) args s 0 0 (fun _ => False)) (F0 m 6 ls []) := by
  obtain ⟨hx, hb, hml, hown, hts⟩ := id S
  have hK := hG.1
  intro n
  induction n with
  | zero => intro x5 x6 hv; exact hv.elim
  | succ n ih =>
    intro x5 x6 hv ls hl
    refine lv_iload hx hb dX9_tells_6 (lv_at hl 6 rfl) ?_
    refine lv_aload_n hx hb dX9_tells_8 rfl (lv_at hl 0 rfl) ?_
    refine lv_iload_n hx hb dX9_tells_9 rfl (lv_at hl 1 rfl) ?_
    refine lv_iconst (v := (3 : Int32)) hx hb dX9_tells_10 (by decide) ?_
    obtain ⟨p_11, w_11, ho_1, hv⟩ := hv
    refine vp_callSi (W.runV (As := [.int p1, .int (3 : Int32)]) (rest := [.int x6]) S (wX9_ofLeg l g qM q1 q2 q3 q4 q5 q6 q7 q8 q9 q10 q11 F J al p1 (3 : Int32) (sX9_ofLeg p_11 w_11 F J al p1 (3 : Int32) ho_1)) (cwV 2 hts gX9_tells_X9_ofLeg rfl rfl rfl (by decide +kernel) ⟨Nat.le_of_ble_eq_true rfl, Nat.le_of_ble_eq_true rfl⟩) ⟨blindRO, va_recv hK hP (ci := 9) (q0 := 0) rfl rfl, fun U hU hW => ⟨rfl, by rw [hU]; exact hP.sub (ws' := [(qM, .inr (9, [.int (F 0), .ref q1, .ref q2, .ref q3, .int (F 4), .int (F 5), .int (F 6), .int (F 7), .int (F 8), .int (F 9), .long (J 10), .int (F 11), .int (F 12), .int (F 13), .ref q4, .int (F 15), .ref q5, .ref q6, .ref q7, .int (F 19), .ref q8, .int (F 21), .int (F 22), .int (F 23), .int (F 24), .ref q9, .ref q10, .ref q11, .long (J 28)])), (q1, .inl (g.2 0, 376, .inl al))]) [0, 1] rfl, hG.warm hW⟩⟩ rfl rfl hl.1 rfl (lv_room (Nat.le_of_ble_eq_true rfl)) dX9_tells_11 ⟨Nat.le_of_ble_eq_true rfl, Nat.le_of_ble_eq_true rfl⟩) (fun r_11 hr_11 => ?_)
    have hv := hv r_11 hr_11
    obtain ⟨hvt, hvf⟩ := hv
    refine lv_icmp_ge (tgt := 60) hx hb dX9_tells_14 (by decide) (fun hc => ?_) (fun hc => ?_)
    · have hv := hvt hc
      refine lv_iload hx hb dX9_tells_60 (lv_at hl 5 rfl) ?_
      exact W.iret (v := x5) hx hb hr (fun t ht hW => ⟨_, rfl, hv, ht⟩) (fun _ h => by cases h) dX9_tells_62
    · have hv := hvf hc
      refine lv_iload hx hb dX9_tells_17 (lv_at hl 5 rfl) ?_
      refine lv_aload_n hx hb dX9_tells_19 rfl (lv_at hl 0 rfl) ?_
      refine lv_iload_n hx hb dX9_tells_20 rfl (lv_at hl 1 rfl) ?_
      refine lv_iload hx hb dX9_tells_21 (lv_at hl 6 rfl) ?_
      refine lv_iload_n hx hb dX9_tells_23 rfl (lv_at hl 2 rfl) ?_
      refine lv_iload_n hx hb dX9_tells_24 rfl (lv_at hl 3 rfl) ?_
      obtain ⟨T_25, G_25, lg_25, i_25, p_25, pl_25, h_25, ho_2, hv⟩ := hv
      refine vp_callSi (W.runV (As := [.int p1, .int x6, .int p2, .int p3]) (rest := [.int x5]) S (wX9_alike l g qM q1 q2 q3 q4 q5 q6 q7 q8 q9 q10 q11 F J al he p1 x6 p2 p3 (sX9_alike T_25 G_25 lg_25 i_25 p_25 pl_25 h_25 F J al he p1 x6 p2 p3 ho_2)) (cwV 4 hts gX9_tells_X9_alike rfl rfl rfl (by decide +kernel) ⟨Nat.le_of_ble_eq_true rfl, Nat.le_of_ble_eq_true rfl⟩) ⟨blindRO, va_recv hK hP (ci := 9) (q0 := 0) rfl rfl, fun U hU hW => ⟨rfl, by rw [hU]; exact hP.sub (ws' := [(qM, .inr (9, [.int (F 0), .ref q1, .ref q2, .ref q3, .int (F 4), .int (F 5), .int (F 6), .int (F 7), .int (F 8), .int (F 9), .long (J 10), .int (F 11), .int (F 12), .int (F 13), .ref q4, .int (F 15), .ref q5, .ref q6, .ref q7, .int (F 19), .ref q8, .int (F 21), .int (F 22), .int (F 23), .int (F 24), .ref q9, .ref q10, .ref q11, .long (J 28)])), (q1, .inl (g.2 0, 376, .inl al)), (q7, .inl (g.2 0, 200, .inl he))]) [0, 1, 2] rfl, hG.warm hW⟩⟩ rfl rfl hl.1 rfl (lv_room (Nat.le_of_ble_eq_true rfl)) dX9_tells_25 ⟨Nat.le_of_ble_eq_true rfl, Nat.le_of_ble_eq_true rfl⟩) (fun r_25 hr_25 => ?_)
      have hv := hv r_25 hr_25
      refine lv_iconst (v := (1 : Int32)) hx hb dX9_tells_28 (by decide) ?_
      obtain ⟨hvt, hvf⟩ := hv
      refine lv_icmp_ne (tgt := 50) hx hb dX9_tells_29 (by decide) (fun hc => ?_) (fun hc => ?_)
      · have hv := hvt hc
        refine lv_iconst (v := (0 : Int32)) hx hb dX9_tells_50 (by decide) ?_
        refine lv_iadd hx hb dX9_tells_51 ?_
        refine lv_istore (lv' := [(5, .int (x5 + (0 : Int32))), (0, .ref qM), (1, .int p1), (2, .int p2), (3, .int p3), (4, .int p4), (6, .int x6)]) hx hb dX9_tells_52 hl (by decide) rfl (fun ls hl => ?_)
        refine lv_iinc (v := (x6 + (1 : Int32))) (lv' := [(6, .int (x6 + (1 : Int32))), (5, .int (x5 + (0 : Int32))), (0, .ref qM), (1, .int p1), (2, .int p2), (3, .int p3), (4, .int p4)]) hx hb dX9_tells_54 hl (k := 6) rfl rfl (by decide) rfl (fun ls hl => ?_)
        refine lv_goto (tgt := 6) hx hb dX9_tells_57 (by decide) ?_
        exact ih _ _ hv ls (lv_sub hl [2, 3, 4, 5, 6, 1, 0] rfl)
      · have hv := hvf hc
        refine lv_aload_n hx hb dX9_tells_32 rfl (lv_at hl 0 rfl) ?_
        refine lv_iload_n hx hb dX9_tells_33 rfl (lv_at hl 1 rfl) ?_
        refine lv_iload hx hb dX9_tells_34 (lv_at hl 6 rfl) ?_
        refine lv_iload_n hx hb dX9_tells_36 rfl (lv_at hl 2 rfl) ?_
        refine lv_iload hx hb dX9_tells_37 (lv_at hl 4 rfl) ?_
        obtain ⟨T_39, G_39, lg_39, i_39, p_39, pl_39, h_39, ho_3, hv⟩ := hv
        refine vp_callSi (W.runV (As := [.int p1, .int x6, .int p2, .int p4]) (rest := [.int x5]) S (wX9_alike l g qM q1 q2 q3 q4 q5 q6 q7 q8 q9 q10 q11 F J al he p1 x6 p2 p4 (sX9_alike T_39 G_39 lg_39 i_39 p_39 pl_39 h_39 F J al he p1 x6 p2 p4 ho_3)) (cwV 4 hts gX9_tells_X9_alike rfl rfl rfl (by decide +kernel) ⟨Nat.le_of_ble_eq_true rfl, Nat.le_of_ble_eq_true rfl⟩) ⟨blindRO, va_recv hK hP (ci := 9) (q0 := 0) rfl rfl, fun U hU hW => ⟨rfl, by rw [hU]; exact hP.sub (ws' := [(qM, .inr (9, [.int (F 0), .ref q1, .ref q2, .ref q3, .int (F 4), .int (F 5), .int (F 6), .int (F 7), .int (F 8), .int (F 9), .long (J 10), .int (F 11), .int (F 12), .int (F 13), .ref q4, .int (F 15), .ref q5, .ref q6, .ref q7, .int (F 19), .ref q8, .int (F 21), .int (F 22), .int (F 23), .int (F 24), .ref q9, .ref q10, .ref q11, .long (J 28)])), (q1, .inl (g.2 0, 376, .inl al)), (q7, .inl (g.2 0, 200, .inl he))]) [0, 1, 2] rfl, hG.warm hW⟩⟩ rfl rfl hl.1 rfl (lv_room (Nat.le_of_ble_eq_true rfl)) dX9_tells_39 ⟨Nat.le_of_ble_eq_true rfl, Nat.le_of_ble_eq_true rfl⟩) (fun r_39 hr_39 => ?_)
        have hv := hv r_39 hr_39
        refine lv_iconst (v := (-1 : Int32)) hx hb dX9_tells_42 (by decide) ?_
        obtain ⟨hvt, hvf⟩ := hv
        refine lv_icmp_ne (tgt := 50) hx hb dX9_tells_43 (by decide) (fun hc => ?_) (fun hc => ?_)
        · have hv := hvt hc
          refine lv_iconst (v := (0 : Int32)) hx hb dX9_tells_50 (by decide) ?_
          refine lv_iadd hx hb dX9_tells_51 ?_
          refine lv_istore (lv' := [(5, .int (x5 + (0 : Int32))), (0, .ref qM), (1, .int p1), (2, .int p2), (3, .int p3), (4, .int p4), (6, .int x6)]) hx hb dX9_tells_52 hl (by decide) rfl (fun ls hl => ?_)
          refine lv_iinc (v := (x6 + (1 : Int32))) (lv' := [(6, .int (x6 + (1 : Int32))), (5, .int (x5 + (0 : Int32))), (0, .ref qM), (1, .int p1), (2, .int p2), (3, .int p3), (4, .int p4)]) hx hb dX9_tells_54 hl (k := 6) rfl rfl (by decide) rfl (fun ls hl => ?_)
          refine lv_goto (tgt := 6) hx hb dX9_tells_57 (by decide) ?_
          exact ih _ _ hv ls (lv_sub hl [2, 3, 4, 5, 6, 1, 0] rfl)
        · have hv := hvf hc
          refine lv_iconst (v := (1 : Int32)) hx hb dX9_tells_46 (by decide) ?_
          refine lv_goto (tgt := 51) hx hb dX9_tells_47 (by decide) ?_
          refine lv_iadd hx hb dX9_tells_51 ?_
          refine lv_istore (lv' := [(5, .int (x5 + (1 : Int32))), (0, .ref qM), (1, .int p1), (2, .int p2), (3, .int p3), (4, .int p4), (6, .int x6)]) hx hb dX9_tells_52 hl (by decide) rfl (fun ls hl => ?_)
          refine lv_iinc (v := (x6 + (1 : Int32))) (lv' := [(6, .int (x6 + (1 : Int32))), (5, .int (x5 + (1 : Int32))), (0, .ref qM), (1, .int p1), (2, .int p2), (3, .int p3), (4, .int p4)]) hx hb dX9_tells_54 hl (k := 6) rfl rfl (by decide) rfl (fun ls hl => ?_)
          refine lv_goto (tgt := 6) hx hb dX9_tells_57 (by decide) ?_
          exact ih _ _ hv ls (lv_sub hl [2, 3, 4, 5, 6, 1, 0] rfl)
def vX9_tells (F : Nat → Int32) (J : Nat → Int64) (al : Nat → Int32) (he : Nat → Int32) (p1 : Int32) (p2 : Int32) (p3 : Int32) (p4 : Int32) (Q : Int32 → Prop) : Prop := (∃ nn, vX9_tells_c6 F J al he p1 p2 p3 p4 Q nn (0 : Int32) (0 : Int32))
set_option maxHeartbeats 4000000 in
set_option maxRecDepth 100000 in
theorem wX9_tells (l : Launch) (g : GP) (qM : Nat) (q1 : Nat) (q2 : Nat) (q3 : Nat) (q4 : Nat) (q5 : Nat) (q6 : Nat) (q7 : Nat) (q8 : Nat) (q9 : Nat) (q10 : Nat) (q11 : Nat) (F : Nat → Int32) (J : Nat → Int64) (al : Nat → Int32) (he : Nat → Int32) (p1 : Int32) (p2 : Int32) (p3 : Int32) (p4 : Int32) {Q : Int32 → Prop} (hv : vX9_tells F J al he p1 p2 p3 p4 Q) : Met l yX9_tells wsX9_tells rmX9_tells (va_Pc [.ref qM, .int p1, .int p2, .int p3, .int p4] (fun U => va_P g.1 vwCl [(qM, .inr (9, [.int (F 0), .ref q1, .ref q2, .ref q3, .int (F 4), .int (F 5), .int (F 6), .int (F 7), .int (F 8), .int (F 9), .long (J 10), .int (F 11), .int (F 12), .int (F 13), .ref q4, .int (F 15), .ref q5, .ref q6, .ref q7, .int (F 19), .ref q8, .int (F 21), .int (F 22), .int (F 23), .int (F 24), .ref q9, .ref q10, .ref q11, .long (J 28)])), (q1, .inl (g.2 0, 376, .inl al)), (q7, .inl (g.2 0, 200, .inl he))] U.heap ∧ GK g U)) (vp_Si Q) 0 0 (fun _ => False) := by
  refine Met.ofW (cc := cX9_tells) (maxL := 7) (ret := (some .int)) (by decide) rfl ?_
  intro p e s m args below meth c s₁ B hml hv'
  obtain ⟨rfl, hP, hG⟩ := hv'
  have S : CallFix p m c cX9_tells 7 s _ wsX9_tells RX9 := ⟨B.exec, B.bytes, hml, findClass_of_methodNamed B.named, atoms_spec (ws := wsX9_tells) B.pre⟩
  obtain ⟨hx, hb, hml, hown, hts⟩ := id S
  have hK := hG.1
  have hr := B.returns
  have hlocks := B.notSynchronized
  have hl := lv_entry ([.ref qM, .int p1, .int p2, .int p3, .int p4]) (n := 7) (Nat.le_of_ble_eq_true rfl)
  rw [lg_entry_eq]
  generalize (lg_sl ([.ref qM, .int p1, .int p2, .int p3, .int p4]) ++ List.replicate (7 - (lg_sl ([.ref qM, .int p1, .int p2, .int p3, .int p4])).length) Slot.unset).toArray = ls at hl ⊢
  have hl : lv_has ls 7 [(0, .ref qM), (1, .int p1), (2, .int p2), (3, .int p3), (4, .int p4)] := hl
  unfold vX9_tells at hv
  refine lv_iconst (v := (0 : Int32)) hx hb dX9_tells_0 (by decide) ?_
  refine lv_istore (lv' := [(5, .int (0 : Int32)), (0, .ref qM), (1, .int p1), (2, .int p2), (3, .int p3), (4, .int p4)]) hx hb dX9_tells_1 hl (by decide) rfl (fun ls hl => ?_)
  refine lv_iconst (v := (0 : Int32)) hx hb dX9_tells_3 (by decide) ?_
  refine lv_istore (lv' := [(6, .int (0 : Int32)), (5, .int (0 : Int32)), (0, .ref qM), (1, .int p1), (2, .int p2), (3, .int p3), (4, .int p4)]) hx hb dX9_tells_4 hl (by decide) rfl (fun ls hl => ?_)
  obtain ⟨nn, hv⟩ := hv
  exact kX9_tells_c6 S hr hlocks hG hP nn _ _ hv ls (lv_sub hl [2, 3, 4, 5, 6, 1, 0] rfl)
abbrev preX9_tells (T : Cd) (G : Lg) (l p b w : Nat) (h : Nat → Nat) (_ : Nat → Int32) (_ : Nat → Int64) (al he : Nat → Int32) (p1 p2 p3 p4 : Int32) : Prop := mT T al ∧ mG G l al ∧ l < 2 ∧ p1.toInt = (l : Int) ∧ p2.toInt = (p : Int) ∧ p < cn T ∧ p3.toInt = (b : Int) ∧ b ≤ 13 ∧ p4.toInt = (w : Int) ∧ w ≤ 13 ∧ isH h (gmn G) he
abbrev postX9_tells (T : Cd) (G : Lg) (_ p b w : Nat) (h : Nat → Nat) (_ : Nat → Int32) (_ : Nat → Int64) (_ _ : Nat → Int32) (_ _ _ _ r : Int32) : Prop := r.toInt = ((tlN T h (gfr G) p b w (gmn G) : Nat) : Int)
theorem sX9_tells_6 (T : Cd) (G : Lg) (l p b w : Nat) (h : Nat → Nat) (F : Nat → Int32) (J : Nat → Int64) (al he : Nat → Int32) (p1 p2 p3 p4 : Int32) (H : preX9_tells T G l p b w h F J al he p1 p2 p3 p4) : ∀ (n i : Nat) (x5 x6 : Int32), x5.toInt = ((tlN T h (gfr G) p b w i : Nat) : Int) → x6.toInt = (i : Int) → i ≤ gmn G → gmn G + 1 ≤ i + n → vX9_tells_c6 F J al he p1 p2 p3 p4 (postX9_tells T G l p b w h F J al he p1 p2 p3 p4) n x5 x6
  | 0, i, x5, x6, _, _, hi, hn => absurd hn (by omega)
  | n + 1, i, x5, x6, h5, h6, hi, hn => by
    obtain ⟨hT, hG, hl2, e1, e2, hp, e3, hb, e4, hw, hH⟩ := id H
    have hmn := mG_mn hG
    have htl := tlN_le T h (gfr G) p b w i
    have h6s := q_1 h6 (by omega)
    rw [vX9_tells_c6]
    refine ⟨l, 3, ⟨e1, rfl, by omega⟩, fun r hr => ?_⟩
    have hr : r.toInt = (gmn G : Int) := by rw [hr]; exact hmn.1
    rw [q_le hr h6]
    refine ⟨fun hc => ?_, fun hc => ?_⟩
    · have : i = gmn G := by omega
      subst this
      exact h5
    · have hh := hH i (by omega)
      refine ⟨T, G, l, i, p, b, h, ⟨hT, hG, hl2, e1, h6, by omega, e2, hp, e3, hb, hh.1, hh.2⟩, fun r2 hr2 => ?_⟩
      have hr2 : r2.toInt = alZ T h (gfr G) p b i := hr2
      rw [q_eq hr2 z1]
      refine ⟨fun hq => sX9_tells_6 T G l p b w h F J al he p1 p2 p3 p4 H n (i + 1) _ _ ?_ h6s (by omega) (by omega), fun hq => ⟨T, G, l, i, p, w, h, ⟨hT, hG, hl2, e1, h6, by omega, e2, hp, e4, hw, hh.1, hh.2⟩, fun r3 hr3 => ?_⟩⟩
      · rw [tlN, if_neg (fun z => hq z.1), Int32.add_zero]; exact h5
      · have hr3 : r3.toInt = alZ T h (gfr G) p w i := hr3
        rw [q_eq hr3 zm1]
        refine ⟨fun hz => sX9_tells_6 T G l p b w h F J al he p1 p2 p3 p4 H n (i + 1) _ _ ?_ h6s (by omega) (by omega), fun hz => sX9_tells_6 T G l p b w h F J al he p1 p2 p3 p4 H n (i + 1) _ _ ?_ h6s (by omega) (by omega)⟩
        · rw [tlN, if_neg (fun q => hz q.2), Int32.add_zero]; exact h5
        · rw [tlN, if_pos ⟨hq, hz⟩]; exact q_1 h5 (by omega)
theorem sX9_tells (T : Cd) (G : Lg) (l p b w : Nat) (h : Nat → Nat) (F : Nat → Int32) (J : Nat → Int64) (al he : Nat → Int32) (p1 p2 p3 p4 : Int32) (H : preX9_tells T G l p b w h F J al he p1 p2 p3 p4) : vX9_tells F J al he p1 p2 p3 p4 (postX9_tells T G l p b w h F J al he p1 p2 p3 p4) := ⟨gmn G + 1, sX9_tells_6 T G l p b w h F J al he p1 p2 p3 p4 H (gmn G + 1) 0 0 0 rfl rfl (by omega) (by omega)⟩
set_option maxRecDepth 20000 in
theorem ggX9_fragile_X9_isLeg : GoodIn wsX9_fragile wsX9_isLeg := goodIn_r _ [6, 7, 8, 5, 9] (by decide +kernel) (by decide +kernel)
set_option maxRecDepth 20000 in
theorem gX9_fragile_X9_isLeg : GoodIn wsX9_fragile (va_wsS RX9 182 yX9_isLeg wsX9_isLeg) := goodIn_app (goodIn_of _ (by decide +kernel)) ggX9_fragile_X9_isLeg
set_option maxRecDepth 20000 in
theorem ggX9_fragile_X9_isPart : GoodIn wsX9_fragile wsX9_isPart := goodIn_r _ [13, 14, 7, 8, 5, 9, 123, 124, 125, 126, 127, 128, 129, 130, 131, 132, 133, 134, 135, 136, 137, 138, 139, 140, 141, 142, 143, 144, 145, 146, 147, 148, 149, 150, 151] (by decide +kernel) (by decide +kernel)
set_option maxRecDepth 20000 in
theorem gX9_fragile_X9_isPart : GoodIn wsX9_fragile (wsV RX9 192 RX9 yX9_isPart wsX9_isPart) := goodIn_app (goodIn_of _ (by decide +kernel)) ggX9_fragile_X9_isPart
set_option maxRecDepth 20000 in
theorem ggX9_fragile_X9_laysLeg : GoodIn wsX9_fragile wsX9_laysLeg := goodIn_r _ [18, 19, 20, 21, 22, 23, 5, 24, 25, 26, 27, 28, 29, 30, 31, 32, 33, 34, 35, 36, 37, 14, 38, 39, 40, 41, 42, 43, 44, 45, 46, 47, 48, 49, 50, 51, 52, 53, 54, 55, 56, 57, 58, 59, 60, 61, 62, 63, 64, 65, 66, 67, 68, 69, 70, 7, 8, 9, 71, 72, 73, 74, 2, 75, 76, 77, 78, 79, 80, 81, 82, 83, 84, 85, 86, 87, 88, 89, 90, 91, 92, 93, 94, 95, 96, 97, 98, 99, 100, 101, 102, 103, 104, 105, 106, 107, 108, 109, 110, 111, 112, 113, 114, 123, 124, 125, 126, 127, 128, 129, 130, 131, 132, 133, 134, 135, 136, 137, 138, 139, 140, 141, 142, 143, 144, 145, 146, 147, 148, 149, 150, 151] (by decide +kernel) (by decide +kernel)
set_option maxRecDepth 20000 in
theorem gX9_fragile_X9_laysLeg : GoodIn wsX9_fragile (wsV RX9 294 RX9 yX9_laysLeg wsX9_laysLeg) := goodIn_app (goodIn_of _ (by decide +kernel)) ggX9_fragile_X9_laysLeg
set_option maxRecDepth 20000 in
theorem ggX9_fragile_X9_bestOf : GoodIn wsX9_fragile wsX9_bestOf := goodIn_r _ [104, 2, 60, 61, 62, 5, 63, 14, 123, 124, 125, 126, 127, 128, 129, 130, 131, 132, 133, 134, 135, 136, 137, 138, 139, 140, 141, 142, 143, 144, 145, 146, 147, 148, 149, 150, 151] (by decide +kernel) (by decide +kernel)
set_option maxRecDepth 20000 in
theorem gX9_fragile_X9_bestOf : GoodIn wsX9_fragile (wsV RX9 260 RX9 yX9_bestOf wsX9_bestOf) := goodIn_app (goodIn_of _ (by decide +kernel)) ggX9_fragile_X9_bestOf
set_option maxRecDepth 20000 in
theorem ggX9_fragile_X9_of : GoodIn wsX9_fragile wsX9_of := goodIn_r _ [63, 14, 123, 124, 125, 126, 127, 128, 129, 130, 131, 132, 133, 134, 135, 136, 137, 138, 139, 140, 141, 142, 143, 144, 145, 146, 147, 148, 149, 150, 151] (by decide +kernel) (by decide +kernel)
set_option maxRecDepth 20000 in
theorem gX9_fragile_X9_of : GoodIn wsX9_fragile (wsV RX9 195 RX9 yX9_of wsX9_of) := goodIn_app (goodIn_of _ (by decide +kernel)) ggX9_fragile_X9_of
set_option maxRecDepth 20000 in
theorem ggX9_fragile_X9_matchOf : GoodIn wsX9_fragile wsX9_matchOf := goodIn_r _ [118, 2, 101, 102, 103, 5, 104, 60, 61, 62, 63, 14, 123, 124, 125, 126, 127, 128, 129, 130, 131, 132, 133, 134, 135, 136, 137, 138, 139, 140, 141, 142, 143, 144, 145, 146, 147, 148, 149, 150, 151] (by decide +kernel) (by decide +kernel)
set_option maxRecDepth 20000 in
theorem gX9_fragile_X9_matchOf : GoodIn wsX9_fragile (wsV RX9 301 RX9 yX9_matchOf wsX9_matchOf) := goodIn_app (goodIn_of _ (by decide +kernel)) ggX9_fragile_X9_matchOf
set_option maxRecDepth 20000 in
theorem ggX9_fragile_X9_tells : GoodIn wsX9_fragile wsX9_tells := goodIn_r _ [122, 34, 35, 36, 5, 37, 14, 75, 76, 77, 78, 33, 56, 57, 58, 59, 60, 61, 62, 63, 45, 46, 47, 64, 65, 66, 123, 124, 125, 126, 127, 128, 129, 130, 131, 132, 133, 134, 135, 136, 137, 138, 139, 140, 141, 142, 143, 144, 145, 146, 147, 148, 149, 150, 151] (by decide +kernel) (by decide +kernel)
set_option maxRecDepth 20000 in
theorem gX9_fragile_X9_tells : GoodIn wsX9_fragile (wsV RX9 304 RX9 yX9_tells wsX9_tells) := goodIn_app (goodIn_of _ (by decide +kernel)) ggX9_fragile_X9_tells
theorem dX9_fragile_0 : decode cX9_fragile 0 = .ok (.aload_n 0, 1) := by decide +kernel
theorem dX9_fragile_1 : decode cX9_fragile 1 = .ok (.iconst 0, 1) := by decide +kernel
theorem dX9_fragile_2 : decode cX9_fragile 2 = .ok (.putfield 51, 3) := by decide +kernel
theorem dX9_fragile_5 : decode cX9_fragile 5 = .ok (.iload_n 1, 1) := by decide +kernel
theorem dX9_fragile_6 : decode cX9_fragile 6 = .ok (.invokestatic 182, 3) := by decide +kernel
theorem dX9_fragile_9 : decode cX9_fragile 9 = .ok (.ifCond .eq 11, 3) := by decide +kernel
theorem dX9_fragile_12 : decode cX9_fragile 12 = .ok (.aload_n 0, 1) := by decide +kernel
theorem dX9_fragile_13 : decode cX9_fragile 13 = .ok (.iload_n 2, 1) := by decide +kernel
theorem dX9_fragile_14 : decode cX9_fragile 14 = .ok (.invokevirtual 192, 3) := by decide +kernel
theorem dX9_fragile_17 : decode cX9_fragile 17 = .ok (.ifCond .ne 7, 3) := by decide +kernel
theorem dX9_fragile_20 : decode cX9_fragile 20 = .ok (.sipush (-1000), 3) := by decide +kernel
theorem dX9_fragile_23 : decode cX9_fragile 23 = .ok (.ireturn, 1) := by decide +kernel
theorem dX9_fragile_24 : decode cX9_fragile 24 = .ok (.aload_n 0, 1) := by decide +kernel
theorem dX9_fragile_25 : decode cX9_fragile 25 = .ok (.iload_n 1, 1) := by decide +kernel
theorem dX9_fragile_26 : decode cX9_fragile 26 = .ok (.invokevirtual 294, 3) := by decide +kernel
theorem dX9_fragile_29 : decode cX9_fragile 29 = .ok (.aload_n 0, 1) := by decide +kernel
theorem dX9_fragile_30 : decode cX9_fragile 30 = .ok (.iload_n 2, 1) := by decide +kernel
theorem dX9_fragile_31 : decode cX9_fragile 31 = .ok (.invokevirtual 260, 3) := by decide +kernel
theorem dX9_fragile_34 : decode cX9_fragile 34 = .ok (.istore_n 3, 1) := by decide +kernel
theorem dX9_fragile_35 : decode cX9_fragile 35 = .ok (.iconst (-1), 1) := by decide +kernel
theorem dX9_fragile_36 : decode cX9_fragile 36 = .ok (.istore 4, 2) := by decide +kernel
theorem dX9_fragile_38 : decode cX9_fragile 38 = .ok (.iconst 0, 1) := by decide +kernel
theorem dX9_fragile_39 : decode cX9_fragile 39 = .ok (.istore 5, 2) := by decide +kernel
theorem dX9_fragile_41 : decode cX9_fragile 41 = .ok (.iload 5, 2) := by decide +kernel
theorem dX9_fragile_43 : decode cX9_fragile 43 = .ok (.aload_n 0, 1) := by decide +kernel
theorem dX9_fragile_44 : decode cX9_fragile 44 = .ok (.iload_n 2, 1) := by decide +kernel
theorem dX9_fragile_45 : decode cX9_fragile 45 = .ok (.iconst 0, 1) := by decide +kernel
theorem dX9_fragile_46 : decode cX9_fragile 46 = .ok (.invokevirtual 195, 3) := by decide +kernel
theorem dX9_fragile_49 : decode cX9_fragile 49 = .ok (.if_icmp .ge 120, 3) := by decide +kernel
theorem dX9_fragile_52 : decode cX9_fragile 52 = .ok (.aload_n 0, 1) := by decide +kernel
theorem dX9_fragile_53 : decode cX9_fragile 53 = .ok (.iload_n 2, 1) := by decide +kernel
theorem dX9_fragile_54 : decode cX9_fragile 54 = .ok (.invokevirtual 301, 3) := by decide +kernel
theorem dX9_fragile_57 : decode cX9_fragile 57 = .ok (.aload_n 0, 1) := by decide +kernel
theorem dX9_fragile_58 : decode cX9_fragile 58 = .ok (.getfield 33, 3) := by decide +kernel
theorem dX9_fragile_61 : decode cX9_fragile 61 = .ok (.bipush 13, 2) := by decide +kernel
theorem dX9_fragile_63 : decode cX9_fragile 63 = .ok (.iload_n 2, 1) := by decide +kernel
theorem dX9_fragile_64 : decode cX9_fragile 64 = .ok (.imul, 1) := by decide +kernel
theorem dX9_fragile_65 : decode cX9_fragile 65 = .ok (.iload 5, 2) := by decide +kernel
theorem dX9_fragile_67 : decode cX9_fragile 67 = .ok (.iadd, 1) := by decide +kernel
theorem dX9_fragile_68 : decode cX9_fragile 68 = .ok (.iaload, 1) := by decide +kernel
theorem dX9_fragile_69 : decode cX9_fragile 69 = .ok (.isub, 1) := by decide +kernel
theorem dX9_fragile_70 : decode cX9_fragile 70 = .ok (.istore 6, 2) := by decide +kernel
theorem dX9_fragile_72 : decode cX9_fragile 72 = .ok (.iload 5, 2) := by decide +kernel
theorem dX9_fragile_74 : decode cX9_fragile 74 = .ok (.iload_n 3, 1) := by decide +kernel
theorem dX9_fragile_75 : decode cX9_fragile 75 = .ok (.if_icmp .ne 7, 3) := by decide +kernel
theorem dX9_fragile_78 : decode cX9_fragile 78 = .ok (.iconst (-1), 1) := by decide +kernel
theorem dX9_fragile_79 : decode cX9_fragile 79 = .ok (.goto 12, 3) := by decide +kernel
theorem dX9_fragile_82 : decode cX9_fragile 82 = .ok (.aload_n 0, 1) := by decide +kernel
theorem dX9_fragile_83 : decode cX9_fragile 83 = .ok (.iload_n 1, 1) := by decide +kernel
theorem dX9_fragile_84 : decode cX9_fragile 84 = .ok (.iload_n 2, 1) := by decide +kernel
theorem dX9_fragile_85 : decode cX9_fragile 85 = .ok (.iload_n 3, 1) := by decide +kernel
theorem dX9_fragile_86 : decode cX9_fragile 86 = .ok (.iload 5, 2) := by decide +kernel
theorem dX9_fragile_88 : decode cX9_fragile 88 = .ok (.invokevirtual 304, 3) := by decide +kernel
theorem dX9_fragile_91 : decode cX9_fragile 91 = .ok (.istore 7, 2) := by decide +kernel
theorem dX9_fragile_93 : decode cX9_fragile 93 = .ok (.iconst 0, 1) := by decide +kernel
theorem dX9_fragile_94 : decode cX9_fragile 94 = .ok (.istore 8, 2) := by decide +kernel
theorem dX9_fragile_96 : decode cX9_fragile 96 = .ok (.iload 8, 2) := by decide +kernel
theorem dX9_fragile_98 : decode cX9_fragile 98 = .ok (.iload 7, 2) := by decide +kernel
theorem dX9_fragile_100 : decode cX9_fragile 100 = .ok (.if_icmp .gt 34, 3) := by decide +kernel
theorem dX9_fragile_103 : decode cX9_fragile 103 = .ok (.iload 6, 2) := by decide +kernel
theorem dX9_fragile_105 : decode cX9_fragile 105 = .ok (.iconst 4, 1) := by decide +kernel
theorem dX9_fragile_106 : decode cX9_fragile 106 = .ok (.iload 8, 2) := by decide +kernel
theorem dX9_fragile_108 : decode cX9_fragile 108 = .ok (.imul, 1) := by decide +kernel
theorem dX9_fragile_109 : decode cX9_fragile 109 = .ok (.isub, 1) := by decide +kernel
theorem dX9_fragile_110 : decode cX9_fragile 110 = .ok (.ifCond .gt 18, 3) := by decide +kernel
theorem dX9_fragile_113 : decode cX9_fragile 113 = .ok (.iload 6, 2) := by decide +kernel
theorem dX9_fragile_115 : decode cX9_fragile 115 = .ok (.iconst 4, 1) := by decide +kernel
theorem dX9_fragile_116 : decode cX9_fragile 116 = .ok (.iload 8, 2) := by decide +kernel
theorem dX9_fragile_118 : decode cX9_fragile 118 = .ok (.imul, 1) := by decide +kernel
theorem dX9_fragile_119 : decode cX9_fragile 119 = .ok (.if_icmp .ne 15, 3) := by decide +kernel
theorem dX9_fragile_122 : decode cX9_fragile 122 = .ok (.iload 5, 2) := by decide +kernel
theorem dX9_fragile_124 : decode cX9_fragile 124 = .ok (.iload_n 3, 1) := by decide +kernel
theorem dX9_fragile_125 : decode cX9_fragile 125 = .ok (.if_icmp .le 9, 3) := by decide +kernel
theorem dX9_fragile_128 : decode cX9_fragile 128 = .ok (.iinc 8 1, 3) := by decide +kernel
theorem dX9_fragile_131 : decode cX9_fragile 131 = .ok (.goto (-35), 3) := by decide +kernel
theorem dX9_fragile_134 : decode cX9_fragile 134 = .ok (.iload 8, 2) := by decide +kernel
theorem dX9_fragile_136 : decode cX9_fragile 136 = .ok (.iload 7, 2) := by decide +kernel
theorem dX9_fragile_138 : decode cX9_fragile 138 = .ok (.if_icmp .gt 21, 3) := by decide +kernel
theorem dX9_fragile_141 : decode cX9_fragile 141 = .ok (.iload 4, 2) := by decide +kernel
theorem dX9_fragile_143 : decode cX9_fragile 143 = .ok (.iconst (-1), 1) := by decide +kernel
theorem dX9_fragile_144 : decode cX9_fragile 144 = .ok (.if_icmp .eq 10, 3) := by decide +kernel
theorem dX9_fragile_147 : decode cX9_fragile 147 = .ok (.iload 8, 2) := by decide +kernel
theorem dX9_fragile_149 : decode cX9_fragile 149 = .ok (.iload 4, 2) := by decide +kernel
theorem dX9_fragile_151 : decode cX9_fragile 151 = .ok (.if_icmp .ge 8, 3) := by decide +kernel
theorem dX9_fragile_154 : decode cX9_fragile 154 = .ok (.iload 8, 2) := by decide +kernel
theorem dX9_fragile_156 : decode cX9_fragile 156 = .ok (.goto 5, 3) := by decide +kernel
theorem dX9_fragile_159 : decode cX9_fragile 159 = .ok (.iload 4, 2) := by decide +kernel
theorem dX9_fragile_161 : decode cX9_fragile 161 = .ok (.istore 4, 2) := by decide +kernel
theorem dX9_fragile_163 : decode cX9_fragile 163 = .ok (.iinc 5 1, 3) := by decide +kernel
theorem dX9_fragile_166 : decode cX9_fragile 166 = .ok (.goto (-125), 3) := by decide +kernel
theorem dX9_fragile_169 : decode cX9_fragile 169 = .ok (.iload 4, 2) := by decide +kernel
theorem dX9_fragile_171 : decode cX9_fragile 171 = .ok (.ireturn, 1) := by decide +kernel
abbrev rmX9_fragile : Room := { frames := 7, cells := 0, slots := 0, locals := 162 }
theorem inX9_fragile_9 : ∀ w ∈ wsX90, w ∈ wsX9_fragile := by decide +kernel
def vX9_fragile_c134 (J : Nat → Int64) (al : Nat → Int32) (p1 : Int32) (p2 : Int32) (Q : Int32 → (Nat → Int32) → (Nat → Int32) → (Nat → Int32) → Prop) (K41 : Int32 → Int32 → Int32 → (Nat → Int32) → (Nat → Int32) → (Nat → Int32) → Prop) (x3 : Int32) (x4 : Int32) (x5 : Int32) (x7 : Int32) (x8 : Int32) (F : Nat → Int32) (he : Nat → Int32) (ma : Nat → Int32) : Prop := ((x7 < x8 → (K41 x3 x4 (x5 + (1 : Int32)) F he ma)) ∧ (¬ x7 < x8 → ((x4 = (-1 : Int32) → (K41 x3 x8 (x5 + (1 : Int32)) F he ma)) ∧ (¬ x4 = (-1 : Int32) → ((x4 ≤ x8 → (K41 x3 x4 (x5 + (1 : Int32)) F he ma)) ∧ (¬ x4 ≤ x8 → (K41 x3 x8 (x5 + (1 : Int32)) F he ma)))))))
set_option maxHeartbeats 4000000 in
set_option maxRecDepth 100000 in
theorem kX9_fragile_c134 {p : Program} {l : Launch} {e : Env} {s : State} {m : MethodId} {args : Array Value} {below : List Frame} {meth : Method} {c : Code} {g : GP} {qM : Nat} {q1 : Nat} {q2 : Nat} {q3 : Nat} {q4 : Nat} {q5 : Nat} {q6 : Nat} {q7 : Nat} {q8 : Nat} {q9 : Nat} {q10 : Nat} {q11 : Nat} {J : Nat → Int64} {al : Nat → Int32} {p1 : Int32} {p2 : Int32} {Q : Int32 → (Nat → Int32) → (Nat → Int32) → (Nat → Int32) → Prop} {A : Nat → Prop} {K41 : Int32 → Int32 → Int32 → (Nat → Int32) → (Nat → Int32) → (Nat → Int32) → Prop} (S : CallFix p m c cX9_fragile 9 s args wsX9_fragile RX9) (hr : meth.sig.returnType = (some .int)) (hlocks : meth.locks = false) (hG : GK g s) (hA : ∀ q : Nat, s.heap.size ≤ q → A q) (kk41 : ∀ (x3 : Int32) (x4 : Int32) (x5 : Int32) (F : Nat → Int32) (he : Nat → Int32) (ma : Nat → Int32), K41 x3 x4 x5 F he ma → ∀ (H : Heap) (locs : List Loc), va_P g.1 vwCl [(qM, .inr (9, [.int (F 0), .ref q1, .ref q2, .ref q3, .int (F 4), .int (F 5), .int (F 6), .int (F 7), .int (F 8), .int (F 9), .long (J 10), .int (F 11), .int (F 12), .int (F 13), .ref q4, .int (F 15), .ref q5, .ref q6, .ref q7, .int (F 19), .ref q8, .int (F 21), .int (F 22), .int (F 23), .int (F 24), .ref q9, .ref q10, .ref q11, .long (J 28)])), (q1, .inl (g.2 0, 376, .inl al)), (q7, .inl (g.2 0, 200, .inl he)), (q8, .inl (g.2 0, 65, .inl ma))] H → va_D A [(qM, .inr (9, [.int (F 0), .ref q1, .ref q2, .ref q3, .int (F 4), .int (F 5), .int (F 6), .int (F 7), .int (F 8), .int (F 9), .long (J 10), .int (F 11), .int (F 12), .int (F 13), .ref q4, .int (F 15), .ref q5, .ref q6, .ref q7, .int (F 19), .ref q8, .int (F 21), .int (F 22), .int (F 23), .int (F 24), .ref q9, .ref q10, .ref q11, .long (J 28)])), (q1, .inl (g.2 0, 376, .inl al)), (q7, .inl (g.2 0, 200, .inl he)), (q8, .inl (g.2 0, 65, .inl ma))] → va_S A s.heap H locs → ∀ (ls : Array Slot), lv_has ls 9 [(0, .ref qM), (1, .int p1), (2, .int p2), (3, .int x3), (4, .int x4), (5, .int x5)] → W p l e (headSpec wsX9_fragile rmX9_fragile).room s m args below meth c H locs 0 0 (MQ below (va_Qi (fun (r : Int32) (u : (Nat → Int32) × (Nat → Int32) × (Nat → Int32)) => Q r u.1 u.2.1 u.2.2) (fun (u : (Nat → Int32) × (Nat → Int32) × (Nat → Int32)) t => va_P g.1 vwCl [(qM, .inr (9, [.int (u.1 0), .ref q1, .ref q2, .ref q3, .int (u.1 4), .int (u.1 5), .int (u.1 6), .int (u.1 7), .int (u.1 8), .int (u.1 9), .long (J 10), .int (u.1 11), .int (u.1 12), .int (u.1 13), .ref q4, .int (u.1 15), .ref q5, .ref q6, .ref q7, .int (u.1 19), .ref q8, .int (u.1 21), .int (u.1 22), .int (u.1 23), .int (u.1 24), .ref q9, .ref q10, .ref q11, .long (J 28)])), (q1, .inl (g.2 0, 376, .inl al)), (q7, .inl (g.2 0, 200, .inl u.2.1)), (q8, .inl (g.2 0, 65, .inl u.2.2))] t.heap ∧ va_D A [(qM, .inr (9, [.int (u.1 0), .ref q1, .ref q2, .ref q3, .int (u.1 4), .int (u.1 5), .int (u.1 6), .int (u.1 7), .int (u.1 8), .int (u.1 9), .long (J 10), .int (u.1 11), .int (u.1 12), .int (u.1 13), .ref q4, .int (u.1 15), .ref q5, .ref q6, .ref q7, .int (u.1 19), .ref q8, .int (u.1 21), .int (u.1 22), .int (u.1 23), .int (u.1 24), .ref q9, .ref q10, .ref q11, .long (J 28)])), (q1, .inl (g.2 0, 376, .inl al)), (q7, .inl (g.2 0, 200, .inl u.2.1)), (q8, .inl (g.2 0, 65, .inl u.2.2))]) A) args s 0 0 A) (F0 m 41 ls [])) : ∀ (x3 : Int32) (x4 : Int32) (x5 : Int32) (x7 : Int32) (x8 : Int32) (F : Nat → Int32) (he : Nat → Int32) (ma : Nat → Int32), vX9_fragile_c134 J al p1 p2 Q K41 x3 x4 x5 x7 x8 F he ma → ∀ (H : Heap) (locs : List Loc), va_P g.1 vwCl [(qM, .inr (9, [.int (F 0), .ref q1, .ref q2, .ref q3, .int (F 4), .int (F 5), .int (F 6), .int (F 7), .int (F 8), .int (F 9), .long (J 10), .int (F 11), .int (F 12), .int (F 13), .ref q4, .int (F 15), .ref q5, .ref q6, .ref q7, .int (F 19), .ref q8, .int (F 21), .int (F 22), .int (F 23), .int (F 24), .ref q9, .ref q10, .ref q11, .long (J 28)])), (q1, .inl (g.2 0, 376, .inl al)), (q7, .inl (g.2 0, 200, .inl he)), (q8, .inl (g.2 0, 65, .inl ma))] H → va_D A [(qM, .inr (9, [.int (F 0), .ref q1, .ref q2, .ref q3, .int (F 4), .int (F 5), .int (F 6), .int (F 7), .int (F 8), .int (F 9), .long (J 10), .int (F 11), .int (F 12), .int (F 13), .ref q4, .int (F 15), .ref q5, .ref q6, .ref q7, .int (F 19), .ref q8, .int (F 21), .int (F 22), .int (F 23), .int (F 24), .ref q9, .ref q10, .ref q11, .long (J 28)])), (q1, .inl (g.2 0, 376, .inl al)), (q7, .inl (g.2 0, 200, .inl he)), (q8, .inl (g.2 0, 65, .inl ma))] → va_S A s.heap H locs → ∀ (ls : Array Slot), lv_has ls 9 [(0, .ref qM), (1, .int p1), (2, .int p2), (3, .int x3), (4, .int x4), (5, .int x5), (7, .int x7), (8, .int x8)] → W p l e (headSpec wsX9_fragile rmX9_fragile).room s m args below meth c H locs 0 0 (MQ below (va_Qi (fun (r : Int32) (u : (Nat → Int32) × (Nat → Int32) × (Nat → Int32)) => Q r u.1 u.2.1 u.2.2) (fun (u : (Nat → Int32) × (Nat → Int32) × (Nat → Int32)) t => va_P g.1 vwCl [(qM, .inr (9, [.int (u.1 0), .ref q1, .ref q2, .ref q3, .int (u.1 4), .int (u.1 5), .int (u.1 6), .int (u.1 7), .int (u.1 8), .int (u.1 9), .long (J 10), .int (u.1 11), .int (u.1 12), .int (u.1 13), .ref q4, .int (u.1 15), .ref q5, .ref q6, .ref q7, .int (u.1 19), .ref q8, .int (u.1 21), .int (u.1 22), .int (u.1 23), .int (u.1 24), .ref q9, .ref q10, .ref q11, .long (J 28)])), (q1, .inl (g.2 0, 376, .inl al)), (q7, .inl (g.2 0, 200, .inl u.2.1)), (q8, .inl (g.2 0, 65, .inl u.2.2))] t.heap ∧ va_D A [(qM, .inr (9, [.int (u.1 0), .ref q1, .ref q2, .ref q3, .int (u.1 4), .int (u.1 5), .int (u.1 6), .int (u.1 7), .int (u.1 8), .int (u.1 9), .long (J 10), .int (u.1 11), .int (u.1 12), .int (u.1 13), .ref q4, .int (u.1 15), .ref q5, .ref q6, .ref q7, .int (u.1 19), .ref q8, .int (u.1 21), .int (u.1 22), .int (u.1 23), .int (u.1 24), .ref q9, .ref q10, .ref q11, .long (J 28)])), (q1, .inl (g.2 0, 376, .inl al)), (q7, .inl (g.2 0, 200, .inl u.2.1)), (q8, .inl (g.2 0, 65, .inl u.2.2))]) A) args s 0 0 A) (F0 m 134 ls []) := by
  obtain ⟨hx, hb, hml, hown, hts⟩ := id S
  have hK := hG.1
  intro x3 x4 x5 x7 x8 F he ma hv H locs hP hD hS ls hl
  unfold vX9_fragile_c134 at hv
  refine lv_iload hx hb dX9_fragile_134 (lv_at hl 7 rfl) ?_
  refine lv_iload hx hb dX9_fragile_136 (lv_at hl 6 rfl) ?_
  obtain ⟨hvt, hvf⟩ := hv
  refine lv_icmp_gt (tgt := 159) hx hb dX9_fragile_138 (by decide) (fun hc => ?_) (fun hc => ?_)
  · have hv := hvt hc
    refine lv_iload hx hb dX9_fragile_159 (lv_at hl 4 rfl) ?_
    refine lv_istore (lv' := [(4, .int x4), (0, .ref qM), (1, .int p1), (2, .int p2), (3, .int x3), (5, .int x5), (7, .int x7), (8, .int x8)]) hx hb dX9_fragile_161 hl (by decide) rfl (fun ls hl => ?_)
    refine lv_iinc (v := (x5 + (1 : Int32))) (lv' := [(5, .int (x5 + (1 : Int32))), (4, .int x4), (0, .ref qM), (1, .int p1), (2, .int p2), (3, .int x3), (7, .int x7), (8, .int x8)]) hx hb dX9_fragile_163 hl (k := 5) rfl rfl (by decide) rfl (fun ls hl => ?_)
    refine lv_goto (tgt := 41) hx hb dX9_fragile_166 (by decide) ?_
    exact kk41 _ _ _ _ _ _ hv _ _ (hP.sub (ws' := [(qM, .inr (9, [.int (F 0), .ref q1, .ref q2, .ref q3, .int (F 4), .int (F 5), .int (F 6), .int (F 7), .int (F 8), .int (F 9), .long (J 10), .int (F 11), .int (F 12), .int (F 13), .ref q4, .int (F 15), .ref q5, .ref q6, .ref q7, .int (F 19), .ref q8, .int (F 21), .int (F 22), .int (F 23), .int (F 24), .ref q9, .ref q10, .ref q11, .long (J 28)])), (q1, .inl (g.2 0, 376, .inl al)), (q7, .inl (g.2 0, 200, .inl he)), (q8, .inl (g.2 0, 65, .inl ma))]) [0, 1, 2, 3] rfl) (hD.sub (ws' := [(qM, .inr (9, [.int (F 0), .ref q1, .ref q2, .ref q3, .int (F 4), .int (F 5), .int (F 6), .int (F 7), .int (F 8), .int (F 9), .long (J 10), .int (F 11), .int (F 12), .int (F 13), .ref q4, .int (F 15), .ref q5, .ref q6, .ref q7, .int (F 19), .ref q8, .int (F 21), .int (F 22), .int (F 23), .int (F 24), .ref q9, .ref q10, .ref q11, .long (J 28)])), (q1, .inl (g.2 0, 376, .inl al)), (q7, .inl (g.2 0, 200, .inl he)), (q8, .inl (g.2 0, 65, .inl ma))]) [0, 1, 2, 3] (by decide) rfl) hS ls (lv_sub hl [2, 3, 4, 5, 1, 0] rfl)
  · have hv := hvf hc
    refine lv_iload hx hb dX9_fragile_141 (lv_at hl 4 rfl) ?_
    refine lv_iconst (v := (-1 : Int32)) hx hb dX9_fragile_143 (by decide) ?_
    obtain ⟨hvt, hvf⟩ := hv
    refine lv_icmp_eq (tgt := 154) hx hb dX9_fragile_144 (by decide) (fun hc => ?_) (fun hc => ?_)
    · have hv := hvt hc
      refine lv_iload hx hb dX9_fragile_154 (lv_at hl 7 rfl) ?_
      refine lv_goto (tgt := 161) hx hb dX9_fragile_156 (by decide) ?_
      refine lv_istore (lv' := [(4, .int x8), (0, .ref qM), (1, .int p1), (2, .int p2), (3, .int x3), (5, .int x5), (7, .int x7), (8, .int x8)]) hx hb dX9_fragile_161 hl (by decide) rfl (fun ls hl => ?_)
      refine lv_iinc (v := (x5 + (1 : Int32))) (lv' := [(5, .int (x5 + (1 : Int32))), (4, .int x8), (0, .ref qM), (1, .int p1), (2, .int p2), (3, .int x3), (7, .int x7), (8, .int x8)]) hx hb dX9_fragile_163 hl (k := 5) rfl rfl (by decide) rfl (fun ls hl => ?_)
      refine lv_goto (tgt := 41) hx hb dX9_fragile_166 (by decide) ?_
      exact kk41 _ _ _ _ _ _ hv _ _ (hP.sub (ws' := [(qM, .inr (9, [.int (F 0), .ref q1, .ref q2, .ref q3, .int (F 4), .int (F 5), .int (F 6), .int (F 7), .int (F 8), .int (F 9), .long (J 10), .int (F 11), .int (F 12), .int (F 13), .ref q4, .int (F 15), .ref q5, .ref q6, .ref q7, .int (F 19), .ref q8, .int (F 21), .int (F 22), .int (F 23), .int (F 24), .ref q9, .ref q10, .ref q11, .long (J 28)])), (q1, .inl (g.2 0, 376, .inl al)), (q7, .inl (g.2 0, 200, .inl he)), (q8, .inl (g.2 0, 65, .inl ma))]) [0, 1, 2, 3] rfl) (hD.sub (ws' := [(qM, .inr (9, [.int (F 0), .ref q1, .ref q2, .ref q3, .int (F 4), .int (F 5), .int (F 6), .int (F 7), .int (F 8), .int (F 9), .long (J 10), .int (F 11), .int (F 12), .int (F 13), .ref q4, .int (F 15), .ref q5, .ref q6, .ref q7, .int (F 19), .ref q8, .int (F 21), .int (F 22), .int (F 23), .int (F 24), .ref q9, .ref q10, .ref q11, .long (J 28)])), (q1, .inl (g.2 0, 376, .inl al)), (q7, .inl (g.2 0, 200, .inl he)), (q8, .inl (g.2 0, 65, .inl ma))]) [0, 1, 2, 3] (by decide) rfl) hS ls (lv_sub hl [2, 3, 4, 5, 1, 0] rfl)
    · have hv := hvf hc
      refine lv_iload hx hb dX9_fragile_147 (lv_at hl 7 rfl) ?_
      refine lv_iload hx hb dX9_fragile_149 (lv_at hl 4 rfl) ?_
      obtain ⟨hvt, hvf⟩ := hv
      refine lv_icmp_ge (tgt := 159) hx hb dX9_fragile_151 (by decide) (fun hc => ?_) (fun hc => ?_)
      · have hv := hvt hc
        refine lv_iload hx hb dX9_fragile_159 (lv_at hl 4 rfl) ?_
        refine lv_istore (lv' := [(4, .int x4), (0, .ref qM), (1, .int p1), (2, .int p2), (3, .int x3), (5, .int x5), (7, .int x7), (8, .int x8)]) hx hb dX9_fragile_161 hl (by decide) rfl (fun ls hl => ?_)
        refine lv_iinc (v := (x5 + (1 : Int32))) (lv' := [(5, .int (x5 + (1 : Int32))), (4, .int x4), (0, .ref qM), (1, .int p1), (2, .int p2), (3, .int x3), (7, .int x7), (8, .int x8)]) hx hb dX9_fragile_163 hl (k := 5) rfl rfl (by decide) rfl (fun ls hl => ?_)
        refine lv_goto (tgt := 41) hx hb dX9_fragile_166 (by decide) ?_
        exact kk41 _ _ _ _ _ _ hv _ _ (hP.sub (ws' := [(qM, .inr (9, [.int (F 0), .ref q1, .ref q2, .ref q3, .int (F 4), .int (F 5), .int (F 6), .int (F 7), .int (F 8), .int (F 9), .long (J 10), .int (F 11), .int (F 12), .int (F 13), .ref q4, .int (F 15), .ref q5, .ref q6, .ref q7, .int (F 19), .ref q8, .int (F 21), .int (F 22), .int (F 23), .int (F 24), .ref q9, .ref q10, .ref q11, .long (J 28)])), (q1, .inl (g.2 0, 376, .inl al)), (q7, .inl (g.2 0, 200, .inl he)), (q8, .inl (g.2 0, 65, .inl ma))]) [0, 1, 2, 3] rfl) (hD.sub (ws' := [(qM, .inr (9, [.int (F 0), .ref q1, .ref q2, .ref q3, .int (F 4), .int (F 5), .int (F 6), .int (F 7), .int (F 8), .int (F 9), .long (J 10), .int (F 11), .int (F 12), .int (F 13), .ref q4, .int (F 15), .ref q5, .ref q6, .ref q7, .int (F 19), .ref q8, .int (F 21), .int (F 22), .int (F 23), .int (F 24), .ref q9, .ref q10, .ref q11, .long (J 28)])), (q1, .inl (g.2 0, 376, .inl al)), (q7, .inl (g.2 0, 200, .inl he)), (q8, .inl (g.2 0, 65, .inl ma))]) [0, 1, 2, 3] (by decide) rfl) hS ls (lv_sub hl [2, 3, 4, 5, 1, 0] rfl)
      · have hv := hvf hc
        refine lv_iload hx hb dX9_fragile_154 (lv_at hl 7 rfl) ?_
        refine lv_goto (tgt := 161) hx hb dX9_fragile_156 (by decide) ?_
        refine lv_istore (lv' := [(4, .int x8), (0, .ref qM), (1, .int p1), (2, .int p2), (3, .int x3), (5, .int x5), (7, .int x7), (8, .int x8)]) hx hb dX9_fragile_161 hl (by decide) rfl (fun ls hl => ?_)
        refine lv_iinc (v := (x5 + (1 : Int32))) (lv' := [(5, .int (x5 + (1 : Int32))), (4, .int x8), (0, .ref qM), (1, .int p1), (2, .int p2), (3, .int x3), (7, .int x7), (8, .int x8)]) hx hb dX9_fragile_163 hl (k := 5) rfl rfl (by decide) rfl (fun ls hl => ?_)
        refine lv_goto (tgt := 41) hx hb dX9_fragile_166 (by decide) ?_
        exact kk41 _ _ _ _ _ _ hv _ _ (hP.sub (ws' := [(qM, .inr (9, [.int (F 0), .ref q1, .ref q2, .ref q3, .int (F 4), .int (F 5), .int (F 6), .int (F 7), .int (F 8), .int (F 9), .long (J 10), .int (F 11), .int (F 12), .int (F 13), .ref q4, .int (F 15), .ref q5, .ref q6, .ref q7, .int (F 19), .ref q8, .int (F 21), .int (F 22), .int (F 23), .int (F 24), .ref q9, .ref q10, .ref q11, .long (J 28)])), (q1, .inl (g.2 0, 376, .inl al)), (q7, .inl (g.2 0, 200, .inl he)), (q8, .inl (g.2 0, 65, .inl ma))]) [0, 1, 2, 3] rfl) (hD.sub (ws' := [(qM, .inr (9, [.int (F 0), .ref q1, .ref q2, .ref q3, .int (F 4), .int (F 5), .int (F 6), .int (F 7), .int (F 8), .int (F 9), .long (J 10), .int (F 11), .int (F 12), .int (F 13), .ref q4, .int (F 15), .ref q5, .ref q6, .ref q7, .int (F 19), .ref q8, .int (F 21), .int (F 22), .int (F 23), .int (F 24), .ref q9, .ref q10, .ref q11, .long (J 28)])), (q1, .inl (g.2 0, 376, .inl al)), (q7, .inl (g.2 0, 200, .inl he)), (q8, .inl (g.2 0, 65, .inl ma))]) [0, 1, 2, 3] (by decide) rfl) hS ls (lv_sub hl [2, 3, 4, 5, 1, 0] rfl)
def vX9_fragile_c96 (J : Nat → Int64) (al : Nat → Int32) (p1 : Int32) (p2 : Int32) (Q : Int32 → (Nat → Int32) → (Nat → Int32) → (Nat → Int32) → Prop) (K41 : Int32 → Int32 → Int32 → (Nat → Int32) → (Nat → Int32) → (Nat → Int32) → Prop) : Nat → Int32 → Int32 → Int32 → Int32 → Int32 → Int32 → (Nat → Int32) → (Nat → Int32) → (Nat → Int32) → Prop
  | 0, _, _, _, _, _, _, _, _, _ => False
  | n + 1, x3, x4, x5, x6, x7, x8, F, he, ma => ((x7 < x8 → (vX9_fragile_c134 J al p1 p2 Q K41 x3 x4 x5 x7 x8 F he ma)) ∧ (¬ x7 < x8 → ((0 < (x6 - ((4 : Int32) * x8)) → (vX9_fragile_c96 J al p1 p2 Q K41 n x3 x4 x5 x6 x7 (x8 + (1 : Int32)) F he ma)) ∧ (¬ 0 < (x6 - ((4 : Int32) * x8)) → ((¬ x6 = ((4 : Int32) * x8) → (vX9_fragile_c134 J al p1 p2 Q K41 x3 x4 x5 x7 x8 F he ma)) ∧ (x6 = ((4 : Int32) * x8) → ((x5 ≤ x3 → (vX9_fragile_c134 J al p1 p2 Q K41 x3 x4 x5 x7 x8 F he ma)) ∧ (¬ x5 ≤ x3 → (vX9_fragile_c96 J al p1 p2 Q K41 n x3 x4 x5 x6 x7 (x8 + (1 : Int32)) F he ma)))))))))
set_option maxHeartbeats 4000000 in
set_option maxRecDepth 100000 in
theorem kX9_fragile_c96 {p : Program} {l : Launch} {e : Env} {s : State} {m : MethodId} {args : Array Value} {below : List Frame} {meth : Method} {c : Code} {g : GP} {qM : Nat} {q1 : Nat} {q2 : Nat} {q3 : Nat} {q4 : Nat} {q5 : Nat} {q6 : Nat} {q7 : Nat} {q8 : Nat} {q9 : Nat} {q10 : Nat} {q11 : Nat} {J : Nat → Int64} {al : Nat → Int32} {p1 : Int32} {p2 : Int32} {Q : Int32 → (Nat → Int32) → (Nat → Int32) → (Nat → Int32) → Prop} {A : Nat → Prop} {K41 : Int32 → Int32 → Int32 → (Nat → Int32) → (Nat → Int32) → (Nat → Int32) → Prop} (S : CallFix p m c cX9_fragile 9 s args wsX9_fragile RX9) (hr : meth.sig.returnType = (some .int)) (hlocks : meth.locks = false) (hG : GK g s) (hA : ∀ q : Nat, s.heap.size ≤ q → A q) (kk41 : ∀ (x3 : Int32) (x4 : Int32) (x5 : Int32) (F : Nat → Int32) (he : Nat → Int32) (ma : Nat → Int32), K41 x3 x4 x5 F he ma → ∀ (H : Heap) (locs : List Loc), va_P g.1 vwCl [(qM, .inr (9, [.int (F 0), .ref q1, .ref q2, .ref q3, .int (F 4), .int (F 5), .int (F 6), .int (F 7), .int (F 8), .int (F 9), .long (J 10), .int (F 11), .int (F 12), .int (F 13), .ref q4, .int (F 15), .ref q5, .ref q6, .ref q7, .int (F 19), .ref q8, .int (F 21), .int (F 22), .int (F 23), .int (F 24), .ref q9, .ref q10, .ref q11, .long (J 28)])), (q1, .inl (g.2 0, 376, .inl al)), (q7, .inl (g.2 0, 200, .inl he)), (q8, .inl (g.2 0, 65, .inl ma))] H → va_D A [(qM, .inr (9, [.int (F 0), .ref q1, .ref q2, .ref q3, .int (F 4), .int (F 5), .int (F 6), .int (F 7), .int (F 8), .int (F 9), .long (J 10), .int (F 11), .int (F 12), .int (F 13), .ref q4, .int (F 15), .ref q5, .ref q6, .ref q7, .int (F 19), .ref q8, .int (F 21), .int (F 22), .int (F 23), .int (F 24), .ref q9, .ref q10, .ref q11, .long (J 28)])), (q1, .inl (g.2 0, 376, .inl al)), (q7, .inl (g.2 0, 200, .inl he)), (q8, .inl (g.2 0, 65, .inl ma))] → va_S A s.heap H locs → ∀ (ls : Array Slot), lv_has ls 9 [(0, .ref qM), (1, .int p1), (2, .int p2), (3, .int x3), (4, .int x4), (5, .int x5)] → W p l e (headSpec wsX9_fragile rmX9_fragile).room s m args below meth c H locs 0 0 (MQ below (va_Qi (fun (r : Int32) (u : (Nat → Int32) × (Nat → Int32) × (Nat → Int32)) => Q r u.1 u.2.1 u.2.2) (fun (u : (Nat → Int32) × (Nat → Int32) × (Nat → Int32)) t => va_P g.1 vwCl [(qM, .inr (9, [.int (u.1 0), .ref q1, .ref q2, .ref q3, .int (u.1 4), .int (u.1 5), .int (u.1 6), .int (u.1 7), .int (u.1 8), .int (u.1 9), .long (J 10), .int (u.1 11), .int (u.1 12), .int (u.1 13), .ref q4, .int (u.1 15), .ref q5, .ref q6, .ref q7, .int (u.1 19), .ref q8, .int (u.1 21), .int (u.1 22), .int (u.1 23), .int (u.1 24), .ref q9, .ref q10, .ref q11, .long (J 28)])), (q1, .inl (g.2 0, 376, .inl al)), (q7, .inl (g.2 0, 200, .inl u.2.1)), (q8, .inl (g.2 0, 65, .inl u.2.2))] t.heap ∧ va_D A [(qM, .inr (9, [.int (u.1 0), .ref q1, .ref q2, .ref q3, .int (u.1 4), .int (u.1 5), .int (u.1 6), .int (u.1 7), .int (u.1 8), .int (u.1 9), .long (J 10), .int (u.1 11), .int (u.1 12), .int (u.1 13), .ref q4, .int (u.1 15), .ref q5, .ref q6, .ref q7, .int (u.1 19), .ref q8, .int (u.1 21), .int (u.1 22), .int (u.1 23), .int (u.1 24), .ref q9, .ref q10, .ref q11, .long (J 28)])), (q1, .inl (g.2 0, 376, .inl al)), (q7, .inl (g.2 0, 200, .inl u.2.1)), (q8, .inl (g.2 0, 65, .inl u.2.2))]) A) args s 0 0 A) (F0 m 41 ls [])) : ∀ (n : Nat), ∀ (x3 : Int32) (x4 : Int32) (x5 : Int32) (x6 : Int32) (x7 : Int32) (x8 : Int32) (F : Nat → Int32) (he : Nat → Int32) (ma : Nat → Int32), vX9_fragile_c96 J al p1 p2 Q K41 n x3 x4 x5 x6 x7 x8 F he ma → ∀ (H : Heap) (locs : List Loc), va_P g.1 vwCl [(qM, .inr (9, [.int (F 0), .ref q1, .ref q2, .ref q3, .int (F 4), .int (F 5), .int (F 6), .int (F 7), .int (F 8), .int (F 9), .long (J 10), .int (F 11), .int (F 12), .int (F 13), .ref q4, .int (F 15), .ref q5, .ref q6, .ref q7, .int (F 19), .ref q8, .int (F 21), .int (F 22), .int (F 23), .int (F 24), .ref q9, .ref q10, .ref q11, .long (J 28)])), (q1, .inl (g.2 0, 376, .inl al)), (q7, .inl (g.2 0, 200, .inl he)), (q8, .inl (g.2 0, 65, .inl ma))] H → va_D A [(qM, .inr (9, [.int (F 0), .ref q1, .ref q2, .ref q3, .int (F 4), .int (F 5), .int (F 6), .int (F 7), .int (F 8), .int (F 9), .long (J 10), .int (F 11), .int (F 12), .int (F 13), .ref q4, .int (F 15), .ref q5, .ref q6, .ref q7, .int (F 19), .ref q8, .int (F 21), .int (F 22), .int (F 23), .int (F 24), .ref q9, .ref q10, .ref q11, .long (J 28)])), (q1, .inl (g.2 0, 376, .inl al)), (q7, .inl (g.2 0, 200, .inl he)), (q8, .inl (g.2 0, 65, .inl ma))] → va_S A s.heap H locs → ∀ (ls : Array Slot), lv_has ls 9 [(0, .ref qM), (1, .int p1), (2, .int p2), (3, .int x3), (4, .int x4), (5, .int x5), (6, .int x6), (7, .int x7), (8, .int x8)] → W p l e (headSpec wsX9_fragile rmX9_fragile).room s m args below meth c H locs 0 0 (MQ below (va_Qi (fun (r : Int32) (u : (Nat → Int32) × (Nat → Int32) × (Nat → Int32)) => Q r u.1 u.2.1 u.2.2) (fun (u : (Nat → Int32) × (Nat → Int32) × (Nat → Int32)) t => va_P g.1 vwCl [(qM, .inr (9, [.int (u.1 0), .ref q1, .ref q2, .ref q3, .int (u.1 4), .int (u.1 5), .int (u.1 6), .int (u.1 7), .int (u.1 8), .int (u.1 9), .long (J 10), .int (u.1 11), .int (u.1 12), .int (u.1 13), .ref q4, .int (u.1 15), .ref q5, .ref q6, .ref q7, .int (u.1 19), .ref q8, .int (u.1 21), .int (u.1 22), .int (u.1 23), .int (u.1 24), .ref q9, .ref q10, .ref q11, .long (J 28)])), (q1, .inl (g.2 0, 376, .inl al)), (q7, .inl (g.2 0, 200, .inl u.2.1)), (q8, .inl (g.2 0, 65, .inl u.2.2))] t.heap ∧ va_D A [(qM, .inr (9, [.int (u.1 0), .ref q1, .ref q2, .ref q3, .int (u.1 4), .int (u.1 5), .int (u.1 6), .int (u.1 7), .int (u.1 8), .int (u.1 9), .long (J 10), .int (u.1 11), .int (u.1 12), .int (u.1 13), .ref q4, .int (u.1 15), .ref q5, .ref q6, .ref q7, .int (u.1 19), .ref q8, .int (u.1 21), .int (u.1 22), .int (u.1 23), .int (u.1 24), .ref q9, .ref q10, .ref q11, .long (J 28)])), (q1, .inl (g.2 0, 376, .inl al)), (q7, .inl (g.2 0, 200, .inl u.2.1)), (q8, .inl (g.2 0, 65, .inl u.2.2))]) A) args s 0 0 A) (F0 m 96 ls []) := by
  obtain ⟨hx, hb, hml, hown, hts⟩ := id S
  have hK := hG.1
  intro n
  induction n with
  | zero => intro x3 x4 x5 x6 x7 x8 F he ma hv; exact hv.elim
  | succ n ih =>
    intro x3 x4 x5 x6 x7 x8 F he ma hv H locs hP hD hS ls hl
    refine lv_iload hx hb dX9_fragile_96 (lv_at hl 8 rfl) ?_
    refine lv_iload hx hb dX9_fragile_98 (lv_at hl 7 rfl) ?_
    obtain ⟨hvt, hvf⟩ := hv
    refine lv_icmp_gt (tgt := 134) hx hb dX9_fragile_100 (by decide) (fun hc => ?_) (fun hc => ?_)
    · have hv := hvt hc
      exact kX9_fragile_c134 S hr hlocks hG hA kk41 _ _ _ _ _ _ _ _ hv _ _ (hP.sub (ws' := [(qM, .inr (9, [.int (F 0), .ref q1, .ref q2, .ref q3, .int (F 4), .int (F 5), .int (F 6), .int (F 7), .int (F 8), .int (F 9), .long (J 10), .int (F 11), .int (F 12), .int (F 13), .ref q4, .int (F 15), .ref q5, .ref q6, .ref q7, .int (F 19), .ref q8, .int (F 21), .int (F 22), .int (F 23), .int (F 24), .ref q9, .ref q10, .ref q11, .long (J 28)])), (q1, .inl (g.2 0, 376, .inl al)), (q7, .inl (g.2 0, 200, .inl he)), (q8, .inl (g.2 0, 65, .inl ma))]) [0, 1, 2, 3] rfl) (hD.sub (ws' := [(qM, .inr (9, [.int (F 0), .ref q1, .ref q2, .ref q3, .int (F 4), .int (F 5), .int (F 6), .int (F 7), .int (F 8), .int (F 9), .long (J 10), .int (F 11), .int (F 12), .int (F 13), .ref q4, .int (F 15), .ref q5, .ref q6, .ref q7, .int (F 19), .ref q8, .int (F 21), .int (F 22), .int (F 23), .int (F 24), .ref q9, .ref q10, .ref q11, .long (J 28)])), (q1, .inl (g.2 0, 376, .inl al)), (q7, .inl (g.2 0, 200, .inl he)), (q8, .inl (g.2 0, 65, .inl ma))]) [0, 1, 2, 3] (by decide) rfl) hS ls (lv_sub hl [0, 1, 2, 3, 4, 5, 7, 8] rfl)
    · have hv := hvf hc
      refine lv_iload hx hb dX9_fragile_103 (lv_at hl 6 rfl) ?_
      refine lv_iconst (v := (4 : Int32)) hx hb dX9_fragile_105 (by decide) ?_
      refine lv_iload hx hb dX9_fragile_106 (lv_at hl 8 rfl) ?_
      refine lv_imul hx hb dX9_fragile_108 ?_
      refine lv_isub hx hb dX9_fragile_109 ?_
      obtain ⟨hvt, hvf⟩ := hv
      refine lv_if_gt (tgt := 128) hx hb dX9_fragile_110 (by decide) (fun hc => ?_) (fun hc => ?_)
      · have hv := hvt hc
        refine lv_iinc (v := (x8 + (1 : Int32))) (lv' := [(8, .int (x8 + (1 : Int32))), (0, .ref qM), (1, .int p1), (2, .int p2), (3, .int x3), (4, .int x4), (5, .int x5), (6, .int x6), (7, .int x7)]) hx hb dX9_fragile_128 hl (k := 8) rfl rfl (by decide) rfl (fun ls hl => ?_)
        refine lv_goto (tgt := 96) hx hb dX9_fragile_131 (by decide) ?_
        exact ih _ _ _ _ _ _ _ _ _ hv _ _ (hP.sub (ws' := [(qM, .inr (9, [.int (F 0), .ref q1, .ref q2, .ref q3, .int (F 4), .int (F 5), .int (F 6), .int (F 7), .int (F 8), .int (F 9), .long (J 10), .int (F 11), .int (F 12), .int (F 13), .ref q4, .int (F 15), .ref q5, .ref q6, .ref q7, .int (F 19), .ref q8, .int (F 21), .int (F 22), .int (F 23), .int (F 24), .ref q9, .ref q10, .ref q11, .long (J 28)])), (q1, .inl (g.2 0, 376, .inl al)), (q7, .inl (g.2 0, 200, .inl he)), (q8, .inl (g.2 0, 65, .inl ma))]) [0, 1, 2, 3] rfl) (hD.sub (ws' := [(qM, .inr (9, [.int (F 0), .ref q1, .ref q2, .ref q3, .int (F 4), .int (F 5), .int (F 6), .int (F 7), .int (F 8), .int (F 9), .long (J 10), .int (F 11), .int (F 12), .int (F 13), .ref q4, .int (F 15), .ref q5, .ref q6, .ref q7, .int (F 19), .ref q8, .int (F 21), .int (F 22), .int (F 23), .int (F 24), .ref q9, .ref q10, .ref q11, .long (J 28)])), (q1, .inl (g.2 0, 376, .inl al)), (q7, .inl (g.2 0, 200, .inl he)), (q8, .inl (g.2 0, 65, .inl ma))]) [0, 1, 2, 3] (by decide) rfl) hS ls (lv_sub hl [1, 2, 3, 4, 5, 6, 7, 8, 0] rfl)
      · have hv := hvf hc
        refine lv_iload hx hb dX9_fragile_113 (lv_at hl 6 rfl) ?_
        refine lv_iconst (v := (4 : Int32)) hx hb dX9_fragile_115 (by decide) ?_
        refine lv_iload hx hb dX9_fragile_116 (lv_at hl 8 rfl) ?_
        refine lv_imul hx hb dX9_fragile_118 ?_
        obtain ⟨hvt, hvf⟩ := hv
        refine lv_icmp_ne (tgt := 134) hx hb dX9_fragile_119 (by decide) (fun hc => ?_) (fun hc => ?_)
        · have hv := hvt hc
          exact kX9_fragile_c134 S hr hlocks hG hA kk41 _ _ _ _ _ _ _ _ hv _ _ (hP.sub (ws' := [(qM, .inr (9, [.int (F 0), .ref q1, .ref q2, .ref q3, .int (F 4), .int (F 5), .int (F 6), .int (F 7), .int (F 8), .int (F 9), .long (J 10), .int (F 11), .int (F 12), .int (F 13), .ref q4, .int (F 15), .ref q5, .ref q6, .ref q7, .int (F 19), .ref q8, .int (F 21), .int (F 22), .int (F 23), .int (F 24), .ref q9, .ref q10, .ref q11, .long (J 28)])), (q1, .inl (g.2 0, 376, .inl al)), (q7, .inl (g.2 0, 200, .inl he)), (q8, .inl (g.2 0, 65, .inl ma))]) [0, 1, 2, 3] rfl) (hD.sub (ws' := [(qM, .inr (9, [.int (F 0), .ref q1, .ref q2, .ref q3, .int (F 4), .int (F 5), .int (F 6), .int (F 7), .int (F 8), .int (F 9), .long (J 10), .int (F 11), .int (F 12), .int (F 13), .ref q4, .int (F 15), .ref q5, .ref q6, .ref q7, .int (F 19), .ref q8, .int (F 21), .int (F 22), .int (F 23), .int (F 24), .ref q9, .ref q10, .ref q11, .long (J 28)])), (q1, .inl (g.2 0, 376, .inl al)), (q7, .inl (g.2 0, 200, .inl he)), (q8, .inl (g.2 0, 65, .inl ma))]) [0, 1, 2, 3] (by decide) rfl) hS ls (lv_sub hl [0, 1, 2, 3, 4, 5, 7, 8] rfl)
        · have hv := hvf hc
          refine lv_iload hx hb dX9_fragile_122 (lv_at hl 5 rfl) ?_
          refine lv_iload_n hx hb dX9_fragile_124 rfl (lv_at hl 3 rfl) ?_
          obtain ⟨hvt, hvf⟩ := hv
          refine lv_icmp_le (tgt := 134) hx hb dX9_fragile_125 (by decide) (fun hc => ?_) (fun hc => ?_)
          · have hv := hvt hc
            exact kX9_fragile_c134 S hr hlocks hG hA kk41 _ _ _ _ _ _ _ _ hv _ _ (hP.sub (ws' := [(qM, .inr (9, [.int (F 0), .ref q1, .ref q2, .ref q3, .int (F 4), .int (F 5), .int (F 6), .int (F 7), .int (F 8), .int (F 9), .long (J 10), .int (F 11), .int (F 12), .int (F 13), .ref q4, .int (F 15), .ref q5, .ref q6, .ref q7, .int (F 19), .ref q8, .int (F 21), .int (F 22), .int (F 23), .int (F 24), .ref q9, .ref q10, .ref q11, .long (J 28)])), (q1, .inl (g.2 0, 376, .inl al)), (q7, .inl (g.2 0, 200, .inl he)), (q8, .inl (g.2 0, 65, .inl ma))]) [0, 1, 2, 3] rfl) (hD.sub (ws' := [(qM, .inr (9, [.int (F 0), .ref q1, .ref q2, .ref q3, .int (F 4), .int (F 5), .int (F 6), .int (F 7), .int (F 8), .int (F 9), .long (J 10), .int (F 11), .int (F 12), .int (F 13), .ref q4, .int (F 15), .ref q5, .ref q6, .ref q7, .int (F 19), .ref q8, .int (F 21), .int (F 22), .int (F 23), .int (F 24), .ref q9, .ref q10, .ref q11, .long (J 28)])), (q1, .inl (g.2 0, 376, .inl al)), (q7, .inl (g.2 0, 200, .inl he)), (q8, .inl (g.2 0, 65, .inl ma))]) [0, 1, 2, 3] (by decide) rfl) hS ls (lv_sub hl [0, 1, 2, 3, 4, 5, 7, 8] rfl)
          · have hv := hvf hc
            refine lv_iinc (v := (x8 + (1 : Int32))) (lv' := [(8, .int (x8 + (1 : Int32))), (0, .ref qM), (1, .int p1), (2, .int p2), (3, .int x3), (4, .int x4), (5, .int x5), (6, .int x6), (7, .int x7)]) hx hb dX9_fragile_128 hl (k := 8) rfl rfl (by decide) rfl (fun ls hl => ?_)
            refine lv_goto (tgt := 96) hx hb dX9_fragile_131 (by decide) ?_
            exact ih _ _ _ _ _ _ _ _ _ hv _ _ (hP.sub (ws' := [(qM, .inr (9, [.int (F 0), .ref q1, .ref q2, .ref q3, .int (F 4), .int (F 5), .int (F 6), .int (F 7), .int (F 8), .int (F 9), .long (J 10), .int (F 11), .int (F 12), .int (F 13), .ref q4, .int (F 15), .ref q5, .ref q6, .ref q7, .int (F 19), .ref q8, .int (F 21), .int (F 22), .int (F 23), .int (F 24), .ref q9, .ref q10, .ref q11, .long (J 28)])), (q1, .inl (g.2 0, 376, .inl al)), (q7, .inl (g.2 0, 200, .inl he)), (q8, .inl (g.2 0, 65, .inl ma))]) [0, 1, 2, 3] rfl) (hD.sub (ws' := [(qM, .inr (9, [.int (F 0), .ref q1, .ref q2, .ref q3, .int (F 4), .int (F 5), .int (F 6), .int (F 7), .int (F 8), .int (F 9), .long (J 10), .int (F 11), .int (F 12), .int (F 13), .ref q4, .int (F 15), .ref q5, .ref q6, .ref q7, .int (F 19), .ref q8, .int (F 21), .int (F 22), .int (F 23), .int (F 24), .ref q9, .ref q10, .ref q11, .long (J 28)])), (q1, .inl (g.2 0, 376, .inl al)), (q7, .inl (g.2 0, 200, .inl he)), (q8, .inl (g.2 0, 65, .inl ma))]) [0, 1, 2, 3] (by decide) rfl) hS ls (lv_sub hl [1, 2, 3, 4, 5, 6, 7, 8, 0] rfl)
def vX9_fragile_c41 (J : Nat → Int64) (al : Nat → Int32) (p1 : Int32) (p2 : Int32) (Q : Int32 → (Nat → Int32) → (Nat → Int32) → (Nat → Int32) → Prop) : Nat → Int32 → Int32 → Int32 → (Nat → Int32) → (Nat → Int32) → (Nat → Int32) → Prop
  | 0, _, _, _, _, _, _ => False
  | n + 1, x3, x4, x5, F, he, ma => (∃ (p_46 : Nat) (w_46 : Nat), preX9_of p_46 w_46 F J al p2 (0 : Int32) ∧ (∀ r_46 : Int32, postX9_of p_46 w_46 F J al p2 (0 : Int32) r_46 → ((r_46 ≤ x5 → (Q x4 F he ma)) ∧ (¬ r_46 ≤ x5 → (∃ (T_54 : Cd) (p_54 : Nat) (m_54 : Nat → Nat → Int), preX9_matchOf T_54 p_54 m_54 F J al ma p2 ∧ (∀ r_54 : Int32, postX9_matchOf T_54 p_54 m_54 F J al ma p2 r_54 → (vp_in (((13 : Int32) * p2) + x5) 65 ∧ (∀ y_70 : Int32, y_70 = (r_54 - (ma (((13 : Int32) * p2) + x5).toNatClampNeg)) → ((¬ x5 = x3 → (∃ (T_88 : Cd) (G_88 : Lg) (lg_88 : Nat) (p_88 : Nat) (b_88 : Nat) (w_88 : Nat) (h_88 : Nat → Nat), preX9_tells T_88 G_88 lg_88 p_88 b_88 w_88 h_88 F J al he p1 p2 x3 x5 ∧ (∀ r_88 : Int32, postX9_tells T_88 G_88 lg_88 p_88 b_88 w_88 h_88 F J al he p1 p2 x3 x5 r_88 → (∃ nn, vX9_fragile_c96 J al p1 p2 Q (vX9_fragile_c41 J al p1 p2 Q n) nn x3 x4 x5 y_70 r_88 (0 : Int32) F he ma)))) ∧ (x5 = x3 → (∃ nn, vX9_fragile_c96 J al p1 p2 Q (vX9_fragile_c41 J al p1 p2 Q n) nn x3 x4 x5 y_70 (-1 : Int32) (0 : Int32) F he ma)))))))))))
set_option maxHeartbeats 4000000 in
set_option maxRecDepth 100000 in
theorem kX9_fragile_c41 {p : Program} {l : Launch} {e : Env} {s : State} {m : MethodId} {args : Array Value} {below : List Frame} {meth : Method} {c : Code} {g : GP} {qM : Nat} {q1 : Nat} {q2 : Nat} {q3 : Nat} {q4 : Nat} {q5 : Nat} {q6 : Nat} {q7 : Nat} {q8 : Nat} {q9 : Nat} {q10 : Nat} {q11 : Nat} {J : Nat → Int64} {al : Nat → Int32} {p1 : Int32} {p2 : Int32} {Q : Int32 → (Nat → Int32) → (Nat → Int32) → (Nat → Int32) → Prop} {A : Nat → Prop} (S : CallFix p m c cX9_fragile 9 s args wsX9_fragile RX9) (hr : meth.sig.returnType = (some .int)) (hlocks : meth.locks = false) (hG : GK g s) (hA : ∀ q : Nat, s.heap.size ≤ q → A q) : ∀ (n : Nat), ∀ (x3 : Int32) (x4 : Int32) (x5 : Int32) (F : Nat → Int32) (he : Nat → Int32) (ma : Nat → Int32), vX9_fragile_c41 J al p1 p2 Q n x3 x4 x5 F he ma → ∀ (H : Heap) (locs : List Loc), va_P g.1 vwCl [(qM, .inr (9, [.int (F 0), .ref q1, .ref q2, .ref q3, .int (F 4), .int (F 5), .int (F 6), .int (F 7), .int (F 8), .int (F 9), .long (J 10), .int (F 11), .int (F 12), .int (F 13), .ref q4, .int (F 15), .ref q5, .ref q6, .ref q7, .int (F 19), .ref q8, .int (F 21), .int (F 22), .int (F 23), .int (F 24), .ref q9, .ref q10, .ref q11, .long (J 28)])), (q1, .inl (g.2 0, 376, .inl al)), (q7, .inl (g.2 0, 200, .inl he)), (q8, .inl (g.2 0, 65, .inl ma))] H → va_D A [(qM, .inr (9, [.int (F 0), .ref q1, .ref q2, .ref q3, .int (F 4), .int (F 5), .int (F 6), .int (F 7), .int (F 8), .int (F 9), .long (J 10), .int (F 11), .int (F 12), .int (F 13), .ref q4, .int (F 15), .ref q5, .ref q6, .ref q7, .int (F 19), .ref q8, .int (F 21), .int (F 22), .int (F 23), .int (F 24), .ref q9, .ref q10, .ref q11, .long (J 28)])), (q1, .inl (g.2 0, 376, .inl al)), (q7, .inl (g.2 0, 200, .inl he)), (q8, .inl (g.2 0, 65, .inl ma))] → va_S A s.heap H locs → ∀ (ls : Array Slot), lv_has ls 9 [(0, .ref qM), (1, .int p1), (2, .int p2), (3, .int x3), (4, .int x4), (5, .int x5)] → W p l e (headSpec wsX9_fragile rmX9_fragile).room s m args below meth c H locs 0 0 (MQ below (va_Qi (fun (r : Int32) (u : (Nat → Int32) × (Nat → Int32) × (Nat → Int32)) => Q r u.1 u.2.1 u.2.2) (fun (u : (Nat → Int32) × (Nat → Int32) × (Nat → Int32)) t => va_P g.1 vwCl [(qM, .inr (9, [.int (u.1 0), .ref q1, .ref q2, .ref q3, .int (u.1 4), .int (u.1 5), .int (u.1 6), .int (u.1 7), .int (u.1 8), .int (u.1 9), .long (J 10), .int (u.1 11), .int (u.1 12), .int (u.1 13), .ref q4, .int (u.1 15), .ref q5, .ref q6, .ref q7, .int (u.1 19), .ref q8, .int (u.1 21), .int (u.1 22), .int (u.1 23), .int (u.1 24), .ref q9, .ref q10, .ref q11, .long (J 28)])), (q1, .inl (g.2 0, 376, .inl al)), (q7, .inl (g.2 0, 200, .inl u.2.1)), (q8, .inl (g.2 0, 65, .inl u.2.2))] t.heap ∧ va_D A [(qM, .inr (9, [.int (u.1 0), .ref q1, .ref q2, .ref q3, .int (u.1 4), .int (u.1 5), .int (u.1 6), .int (u.1 7), .int (u.1 8), .int (u.1 9), .long (J 10), .int (u.1 11), .int (u.1 12), .int (u.1 13), .ref q4, .int (u.1 15), .ref q5, .ref q6, .ref q7, .int (u.1 19), .ref q8, .int (u.1 21), .int (u.1 22), .int (u.1 23), .int (u.1 24), .ref q9, .ref q10, .ref q11, .long (J 28)])), (q1, .inl (g.2 0, 376, .inl al)), (q7, .inl (g.2 0, 200, .inl u.2.1)), (q8, .inl (g.2 0, 65, .inl u.2.2))]) A) args s 0 0 A) (F0 m 41 ls []) := by
  obtain ⟨hx, hb, hml, hown, hts⟩ := id S
  have hK := hG.1
  intro n
  induction n with
  | zero => intro x3 x4 x5 F he ma hv; exact hv.elim
  | succ n ih =>
    intro x3 x4 x5 F he ma hv H locs hP hD hS ls hl
    refine lv_iload hx hb dX9_fragile_41 (lv_at hl 5 rfl) ?_
    refine lv_aload_n hx hb dX9_fragile_43 rfl (lv_at hl 0 rfl) ?_
    refine lv_iload_n hx hb dX9_fragile_44 rfl (lv_at hl 2 rfl) ?_
    refine lv_iconst (v := (0 : Int32)) hx hb dX9_fragile_45 (by decide) ?_
    obtain ⟨p_46, w_46, ho_1, hv⟩ := hv
    refine vp_callSi (W.runV (As := [.int p2, .int (0 : Int32)]) (rest := [.int x5]) S (wX9_of l g qM q1 q2 q3 q4 q5 q6 q7 q8 q9 q10 q11 F J al p2 (0 : Int32) (sX9_of p_46 w_46 F J al p2 (0 : Int32) ho_1)) (cwV 2 hts gX9_fragile_X9_of rfl rfl rfl (by decide +kernel) ⟨Nat.le_of_ble_eq_true rfl, Nat.le_of_ble_eq_true rfl⟩) ⟨blindRO, va_recv hK hP (ci := 9) (q0 := 0) rfl rfl, fun U hU hW => ⟨rfl, by rw [hU]; exact hP.sub (ws' := [(qM, .inr (9, [.int (F 0), .ref q1, .ref q2, .ref q3, .int (F 4), .int (F 5), .int (F 6), .int (F 7), .int (F 8), .int (F 9), .long (J 10), .int (F 11), .int (F 12), .int (F 13), .ref q4, .int (F 15), .ref q5, .ref q6, .ref q7, .int (F 19), .ref q8, .int (F 21), .int (F 22), .int (F 23), .int (F 24), .ref q9, .ref q10, .ref q11, .long (J 28)])), (q1, .inl (g.2 0, 376, .inl al))]) [0, 1] rfl, hG.warm hW⟩⟩ rfl rfl hl.1 rfl (lv_room (Nat.le_of_ble_eq_true rfl)) dX9_fragile_46 ⟨Nat.le_of_ble_eq_true rfl, Nat.le_of_ble_eq_true rfl⟩) (fun r_46 hr_46 => ?_)
    have hv := hv r_46 hr_46
    obtain ⟨hvt, hvf⟩ := hv
    refine lv_icmp_ge (tgt := 169) hx hb dX9_fragile_49 (by decide) (fun hc => ?_) (fun hc => ?_)
    · have hv := hvt hc
      refine lv_iload hx hb dX9_fragile_169 (lv_at hl 4 rfl) ?_
      have hP9 := hP.sub (ws' := [(qM, .inr (9, [.int (F 0), .ref q1, .ref q2, .ref q3, .int (F 4), .int (F 5), .int (F 6), .int (F 7), .int (F 8), .int (F 9), .long (J 10), .int (F 11), .int (F 12), .int (F 13), .ref q4, .int (F 15), .ref q5, .ref q6, .ref q7, .int (F 19), .ref q8, .int (F 21), .int (F 22), .int (F 23), .int (F 24), .ref q9, .ref q10, .ref q11, .long (J 28)])), (q1, .inl (g.2 0, 376, .inl al)), (q7, .inl (g.2 0, 200, .inl he)), (q8, .inl (g.2 0, 65, .inl ma))]) [0, 1, 2, 3] rfl
      have hD9 := hD.sub (ws' := [(qM, .inr (9, [.int (F 0), .ref q1, .ref q2, .ref q3, .int (F 4), .int (F 5), .int (F 6), .int (F 7), .int (F 8), .int (F 9), .long (J 10), .int (F 11), .int (F 12), .int (F 13), .ref q4, .int (F 15), .ref q5, .ref q6, .ref q7, .int (F 19), .ref q8, .int (F 21), .int (F 22), .int (F 23), .int (F 24), .ref q9, .ref q10, .ref q11, .long (J 28)])), (q1, .inl (g.2 0, 376, .inl al)), (q7, .inl (g.2 0, 200, .inl he)), (q8, .inl (g.2 0, 65, .inl ma))]) [0, 1, 2, 3] (by decide) rfl
      exact W.iret (v := x4) hx hb hr (fun t ht hW => ⟨⟨_, (F, he, ma), rfl, hv, by rw [ht]; exact hP9, hD9⟩, hS.F ht⟩) hS.2.2 dX9_fragile_171
    · have hv := hvf hc
      refine lv_aload_n hx hb dX9_fragile_52 rfl (lv_at hl 0 rfl) ?_
      refine lv_iload_n hx hb dX9_fragile_53 rfl (lv_at hl 2 rfl) ?_
      obtain ⟨T_54, p_54, m_54, ho_2, hv⟩ := hv
      refine vp_callSi (W.runV (As := [.int p2]) (rest := []) S (wX9_matchOf l g qM q1 q2 q3 q4 q5 q6 q7 q8 q9 q10 q11 F J al ma p2 (sX9_matchOf T_54 p_54 m_54 F J al ma p2 ho_2)) (cwV 1 hts gX9_fragile_X9_matchOf rfl rfl rfl (by decide +kernel) ⟨Nat.le_of_ble_eq_true rfl, Nat.le_of_ble_eq_true rfl⟩) ⟨blindRO, va_recv hK hP (ci := 9) (q0 := 0) rfl rfl, fun U hU hW => ⟨rfl, by rw [hU]; exact hP.sub (ws' := [(qM, .inr (9, [.int (F 0), .ref q1, .ref q2, .ref q3, .int (F 4), .int (F 5), .int (F 6), .int (F 7), .int (F 8), .int (F 9), .long (J 10), .int (F 11), .int (F 12), .int (F 13), .ref q4, .int (F 15), .ref q5, .ref q6, .ref q7, .int (F 19), .ref q8, .int (F 21), .int (F 22), .int (F 23), .int (F 24), .ref q9, .ref q10, .ref q11, .long (J 28)])), (q1, .inl (g.2 0, 376, .inl al)), (q8, .inl (g.2 0, 65, .inl ma))]) [0, 1, 3] rfl, hG.warm hW⟩⟩ rfl rfl hl.1 rfl (lv_room (Nat.le_of_ble_eq_true rfl)) dX9_fragile_54 ⟨Nat.le_of_ble_eq_true rfl, Nat.le_of_ble_eq_true rfl⟩) (fun r_54 hr_54 => ?_)
      have hv := hv r_54 hr_54
      refine lv_aload_n hx hb dX9_fragile_57 rfl (lv_at hl 0 rfl) ?_
      refine va_get (D := g.1) (ci := 9) (v := .ref q8) (C := RX9) (T := TX9) (N := 29) hx hb hts inX9_fragile_9 hown hK hP 0 rfl rfl 20 (by decide) (hts (.fieldLink RX9 33 "RangeCodesModel" "matches" "[I") (List.mem_of_getElem? (i := 2) rfl)) (fun _ h9 => h9) rfl dX9_fragile_58 ?_
      refine lv_bipush (v := (13 : Int32)) hx hb dX9_fragile_61 (by decide) ?_
      refine lv_iload_n hx hb dX9_fragile_63 rfl (lv_at hl 2 rfl) ?_
      refine lv_imul hx hb dX9_fragile_64 ?_
      refine lv_iload hx hb dX9_fragile_65 (lv_at hl 5 rfl) ?_
      refine lv_iadd hx hb dX9_fragile_67 ?_
      obtain ⟨ho_3, hv⟩ := hv
      refine va_iald hx hb hK hP 3 0 rfl rfl ho_3 dX9_fragile_68 ?_
      refine lv_isub hx hb dX9_fragile_69 ?_
      refine lv_topi (fun y_70 ey_70 => ?_)
      have hv := hv y_70 ey_70
      refine lv_istore (lv' := [(6, .int y_70), (0, .ref qM), (1, .int p1), (2, .int p2), (3, .int x3), (4, .int x4), (5, .int x5)]) hx hb dX9_fragile_70 hl (by decide) rfl (fun ls hl => ?_)
      refine lv_iload hx hb dX9_fragile_72 (lv_at hl 6 rfl) ?_
      refine lv_iload_n hx hb dX9_fragile_74 rfl (lv_at hl 4 rfl) ?_
      obtain ⟨hvt, hvf⟩ := hv
      refine lv_icmp_ne (tgt := 82) hx hb dX9_fragile_75 (by decide) (fun hc => ?_) (fun hc => ?_)
      · have hv := hvt hc
        refine lv_aload_n hx hb dX9_fragile_82 rfl (lv_at hl 1 rfl) ?_
        refine lv_iload_n hx hb dX9_fragile_83 rfl (lv_at hl 2 rfl) ?_
        refine lv_iload_n hx hb dX9_fragile_84 rfl (lv_at hl 3 rfl) ?_
        refine lv_iload_n hx hb dX9_fragile_85 rfl (lv_at hl 4 rfl) ?_
        refine lv_iload hx hb dX9_fragile_86 (lv_at hl 6 rfl) ?_
        obtain ⟨T_88, G_88, lg_88, p_88, b_88, w_88, h_88, ho_4, hv⟩ := hv
        refine vp_callSi (W.runV (As := [.int p1, .int p2, .int x3, .int x5]) (rest := []) S (wX9_tells l g qM q1 q2 q3 q4 q5 q6 q7 q8 q9 q10 q11 F J al he p1 p2 x3 x5 (sX9_tells T_88 G_88 lg_88 p_88 b_88 w_88 h_88 F J al he p1 p2 x3 x5 ho_4)) (cwV 4 hts gX9_fragile_X9_tells rfl rfl rfl (by decide +kernel) ⟨Nat.le_of_ble_eq_true rfl, Nat.le_of_ble_eq_true rfl⟩) ⟨blindRO, va_recv hK hP (ci := 9) (q0 := 0) rfl rfl, fun U hU hW => ⟨rfl, by rw [hU]; exact hP.sub (ws' := [(qM, .inr (9, [.int (F 0), .ref q1, .ref q2, .ref q3, .int (F 4), .int (F 5), .int (F 6), .int (F 7), .int (F 8), .int (F 9), .long (J 10), .int (F 11), .int (F 12), .int (F 13), .ref q4, .int (F 15), .ref q5, .ref q6, .ref q7, .int (F 19), .ref q8, .int (F 21), .int (F 22), .int (F 23), .int (F 24), .ref q9, .ref q10, .ref q11, .long (J 28)])), (q1, .inl (g.2 0, 376, .inl al)), (q7, .inl (g.2 0, 200, .inl he))]) [0, 1, 2] rfl, hG.warm hW⟩⟩ rfl rfl hl.1 rfl (lv_room (Nat.le_of_ble_eq_true rfl)) dX9_fragile_88 ⟨Nat.le_of_ble_eq_true rfl, Nat.le_of_ble_eq_true rfl⟩) (fun r_88 hr_88 => ?_)
        have hv := hv r_88 hr_88
        refine lv_istore (lv' := [(7, .int r_88), (6, .int y_70), (0, .ref qM), (1, .int p1), (2, .int p2), (3, .int x3), (4, .int x4), (5, .int x5)]) hx hb dX9_fragile_91 hl (by decide) rfl (fun ls hl => ?_)
        refine lv_iconst (v := (0 : Int32)) hx hb dX9_fragile_93 (by decide) ?_
        refine lv_istore (lv' := [(8, .int (0 : Int32)), (7, .int r_88), (6, .int y_70), (0, .ref qM), (1, .int p1), (2, .int p2), (3, .int x3), (4, .int x4), (5, .int x5)]) hx hb dX9_fragile_94 hl (by decide) rfl (fun ls hl => ?_)
        obtain ⟨nn, hv⟩ := hv
        exact kX9_fragile_c96 S hr hlocks hG hA ih nn _ _ _ _ _ _ _ _ _ hv _ _ (hP.sub (ws' := [(qM, .inr (9, [.int (F 0), .ref q1, .ref q2, .ref q3, .int (F 4), .int (F 5), .int (F 6), .int (F 7), .int (F 8), .int (F 9), .long (J 10), .int (F 11), .int (F 12), .int (F 13), .ref q4, .int (F 15), .ref q5, .ref q6, .ref q7, .int (F 19), .ref q8, .int (F 21), .int (F 22), .int (F 23), .int (F 24), .ref q9, .ref q10, .ref q11, .long (J 28)])), (q1, .inl (g.2 0, 376, .inl al)), (q7, .inl (g.2 0, 200, .inl he)), (q8, .inl (g.2 0, 65, .inl ma))]) [0, 1, 2, 3] rfl) (hD.sub (ws' := [(qM, .inr (9, [.int (F 0), .ref q1, .ref q2, .ref q3, .int (F 4), .int (F 5), .int (F 6), .int (F 7), .int (F 8), .int (F 9), .long (J 10), .int (F 11), .int (F 12), .int (F 13), .ref q4, .int (F 15), .ref q5, .ref q6, .ref q7, .int (F 19), .ref q8, .int (F 21), .int (F 22), .int (F 23), .int (F 24), .ref q9, .ref q10, .ref q11, .long (J 28)])), (q1, .inl (g.2 0, 376, .inl al)), (q7, .inl (g.2 0, 200, .inl he)), (q8, .inl (g.2 0, 65, .inl ma))]) [0, 1, 2, 3] (by decide) rfl) hS ls (lv_sub hl [3, 4, 5, 6, 7, 8, 2, 1, 0] rfl)
      · have hv := hvf hc
        refine lv_iconst (v := (-1 : Int32)) hx hb dX9_fragile_78 (by decide) ?_
        refine lv_goto (tgt := 91) hx hb dX9_fragile_79 (by decide) ?_
        refine lv_istore (lv' := [(7, .int (-1 : Int32)), (6, .int y_70), (0, .ref qM), (1, .int p1), (2, .int p2), (3, .int x3), (4, .int x4), (5, .int x5)]) hx hb dX9_fragile_91 hl (by decide) rfl (fun ls hl => ?_)
        refine lv_iconst (v := (0 : Int32)) hx hb dX9_fragile_93 (by decide) ?_
        refine lv_istore (lv' := [(8, .int (0 : Int32)), (7, .int (-1 : Int32)), (6, .int y_70), (0, .ref qM), (1, .int p1), (2, .int p2), (3, .int x3), (4, .int x4), (5, .int x5)]) hx hb dX9_fragile_94 hl (by decide) rfl (fun ls hl => ?_)
        obtain ⟨nn, hv⟩ := hv
        exact kX9_fragile_c96 S hr hlocks hG hA ih nn _ _ _ _ _ _ _ _ _ hv _ _ (hP.sub (ws' := [(qM, .inr (9, [.int (F 0), .ref q1, .ref q2, .ref q3, .int (F 4), .int (F 5), .int (F 6), .int (F 7), .int (F 8), .int (F 9), .long (J 10), .int (F 11), .int (F 12), .int (F 13), .ref q4, .int (F 15), .ref q5, .ref q6, .ref q7, .int (F 19), .ref q8, .int (F 21), .int (F 22), .int (F 23), .int (F 24), .ref q9, .ref q10, .ref q11, .long (J 28)])), (q1, .inl (g.2 0, 376, .inl al)), (q7, .inl (g.2 0, 200, .inl he)), (q8, .inl (g.2 0, 65, .inl ma))]) [0, 1, 2, 3] rfl) (hD.sub (ws' := [(qM, .inr (9, [.int (F 0), .ref q1, .ref q2, .ref q3, .int (F 4), .int (F 5), .int (F 6), .int (F 7), .int (F 8), .int (F 9), .long (J 10), .int (F 11), .int (F 12), .int (F 13), .ref q4, .int (F 15), .ref q5, .ref q6, .ref q7, .int (F 19), .ref q8, .int (F 21), .int (F 22), .int (F 23), .int (F 24), .ref q9, .ref q10, .ref q11, .long (J 28)])), (q1, .inl (g.2 0, 376, .inl al)), (q7, .inl (g.2 0, 200, .inl he)), (q8, .inl (g.2 0, 65, .inl ma))]) [0, 1, 2, 3] (by decide) rfl) hS ls (lv_sub hl [3, 4, 5, 6, 7, 8, 2, 1, 0] rfl)
def vX9_fragile (F : Nat → Int32) (J : Nat → Int64) (al : Nat → Int32) (he : Nat → Int32) (ma : Nat → Int32) (p1 : Int32) (p2 : Int32) (Q : Int32 → (Nat → Int32) → (Nat → Int32) → (Nat → Int32) → Prop) : Prop := (preX9_isLeg p1 ∧ (∀ r_6 : Int32, postX9_isLeg p1 r_6 → ((r_6 = 0 → (Q (-1000 : Int32) (upd F 0 (0 : Int32)) he ma)) ∧ (¬ r_6 = 0 → (∃ (n_14 : Nat), preX9_isPart n_14 (upd F 0 (0 : Int32)) J al p2 ∧ (∀ r_14 : Int32, postX9_isPart n_14 (upd F 0 (0 : Int32)) J al p2 r_14 → ((¬ r_14 = 0 → (∃ (T_26 : Cd) (G0_26 : Lg) (G1_26 : Lg) (lg_26 : Nat) (lim_26 : Nat), preX9_laysLeg T_26 G0_26 G1_26 lg_26 lim_26 (upd F 0 (0 : Int32)) J al he ma p1 ∧ (∀ (F_26 : Nat → Int32) (he_26 : Nat → Int32) (ma_26 : Nat → Int32), postX9_laysLeg T_26 G0_26 G1_26 lg_26 lim_26 (upd F 0 (0 : Int32)) J al he ma p1 F_26 he_26 ma_26 → (∃ (T_31 : Cd) (p_31 : Nat) (m_31 : Nat → Nat → Int), preX9_bestOf T_31 p_31 m_31 F_26 J al ma_26 p2 ∧ (∀ r_31 : Int32, postX9_bestOf T_31 p_31 m_31 F_26 J al ma_26 p2 r_31 → (∃ nn, vX9_fragile_c41 J al p1 p2 Q nn r_31 (-1 : Int32) (0 : Int32) F_26 he_26 ma_26)))))) ∧ (r_14 = 0 → (Q (-1000 : Int32) (upd F 0 (0 : Int32)) he ma)))))))))
set_option maxHeartbeats 4000000 in
set_option maxRecDepth 100000 in
theorem wX9_fragile (l : Launch) (g : GP) (qM : Nat) (q1 : Nat) (q2 : Nat) (q3 : Nat) (q4 : Nat) (q5 : Nat) (q6 : Nat) (q7 : Nat) (q8 : Nat) (q9 : Nat) (q10 : Nat) (q11 : Nat) (sz : Nat) (F : Nat → Int32) (J : Nat → Int64) (al : Nat → Int32) (he : Nat → Int32) (ma : Nat → Int32) (p1 : Int32) (p2 : Int32) {Q : Int32 → (Nat → Int32) → (Nat → Int32) → (Nat → Int32) → Prop} (hv : vX9_fragile F J al he ma p1 p2 Q) : Met l yX9_fragile wsX9_fragile rmX9_fragile (va_Pc [.ref qM, .int p1, .int p2] (fun U => U.heap.size = sz ∧ va_P g.1 vwCl [(qM, .inr (9, [.int (F 0), .ref q1, .ref q2, .ref q3, .int (F 4), .int (F 5), .int (F 6), .int (F 7), .int (F 8), .int (F 9), .long (J 10), .int (F 11), .int (F 12), .int (F 13), .ref q4, .int (F 15), .ref q5, .ref q6, .ref q7, .int (F 19), .ref q8, .int (F 21), .int (F 22), .int (F 23), .int (F 24), .ref q9, .ref q10, .ref q11, .long (J 28)])), (q1, .inl (g.2 0, 376, .inl al)), (q7, .inl (g.2 0, 200, .inl he)), (q8, .inl (g.2 0, 65, .inl ma))] U.heap ∧ GK g U ∧ va_D (fun _ => True) [(qM, .inr (9, [.int (F 0), .ref q1, .ref q2, .ref q3, .int (F 4), .int (F 5), .int (F 6), .int (F 7), .int (F 8), .int (F 9), .long (J 10), .int (F 11), .int (F 12), .int (F 13), .ref q4, .int (F 15), .ref q5, .ref q6, .ref q7, .int (F 19), .ref q8, .int (F 21), .int (F 22), .int (F 23), .int (F 24), .ref q9, .ref q10, .ref q11, .long (J 28)])), (q1, .inl (g.2 0, 376, .inl al)), (q7, .inl (g.2 0, 200, .inl he)), (q8, .inl (g.2 0, 65, .inl ma))])) (va_Qi (fun (r : Int32) (u : (Nat → Int32) × (Nat → Int32) × (Nat → Int32)) => Q r u.1 u.2.1 u.2.2) (fun (u : (Nat → Int32) × (Nat → Int32) × (Nat → Int32)) t => va_P g.1 vwCl [(qM, .inr (9, [.int (u.1 0), .ref q1, .ref q2, .ref q3, .int (u.1 4), .int (u.1 5), .int (u.1 6), .int (u.1 7), .int (u.1 8), .int (u.1 9), .long (J 10), .int (u.1 11), .int (u.1 12), .int (u.1 13), .ref q4, .int (u.1 15), .ref q5, .ref q6, .ref q7, .int (u.1 19), .ref q8, .int (u.1 21), .int (u.1 22), .int (u.1 23), .int (u.1 24), .ref q9, .ref q10, .ref q11, .long (J 28)])), (q1, .inl (g.2 0, 376, .inl al)), (q7, .inl (g.2 0, 200, .inl u.2.1)), (q8, .inl (g.2 0, 65, .inl u.2.2))] t.heap ∧ va_D (va_A [(qM, .inr (9, [.int (F 0), .ref q1, .ref q2, .ref q3, .int (F 4), .int (F 5), .int (F 6), .int (F 7), .int (F 8), .int (F 9), .long (J 10), .int (F 11), .int (F 12), .int (F 13), .ref q4, .int (F 15), .ref q5, .ref q6, .ref q7, .int (F 19), .ref q8, .int (F 21), .int (F 22), .int (F 23), .int (F 24), .ref q9, .ref q10, .ref q11, .long (J 28)])), (q1, .inl (g.2 0, 376, .inl al)), (q7, .inl (g.2 0, 200, .inl he)), (q8, .inl (g.2 0, 65, .inl ma))] sz) [(qM, .inr (9, [.int (u.1 0), .ref q1, .ref q2, .ref q3, .int (u.1 4), .int (u.1 5), .int (u.1 6), .int (u.1 7), .int (u.1 8), .int (u.1 9), .long (J 10), .int (u.1 11), .int (u.1 12), .int (u.1 13), .ref q4, .int (u.1 15), .ref q5, .ref q6, .ref q7, .int (u.1 19), .ref q8, .int (u.1 21), .int (u.1 22), .int (u.1 23), .int (u.1 24), .ref q9, .ref q10, .ref q11, .long (J 28)])), (q1, .inl (g.2 0, 376, .inl al)), (q7, .inl (g.2 0, 200, .inl u.2.1)), (q8, .inl (g.2 0, 65, .inl u.2.2))]) (va_A [(qM, .inr (9, [.int (F 0), .ref q1, .ref q2, .ref q3, .int (F 4), .int (F 5), .int (F 6), .int (F 7), .int (F 8), .int (F 9), .long (J 10), .int (F 11), .int (F 12), .int (F 13), .ref q4, .int (F 15), .ref q5, .ref q6, .ref q7, .int (F 19), .ref q8, .int (F 21), .int (F 22), .int (F 23), .int (F 24), .ref q9, .ref q10, .ref q11, .long (J 28)])), (q1, .inl (g.2 0, 376, .inl al)), (q7, .inl (g.2 0, 200, .inl he)), (q8, .inl (g.2 0, 65, .inl ma))] sz)) 0 0 (va_A [(qM, .inr (9, [.int (F 0), .ref q1, .ref q2, .ref q3, .int (F 4), .int (F 5), .int (F 6), .int (F 7), .int (F 8), .int (F 9), .long (J 10), .int (F 11), .int (F 12), .int (F 13), .ref q4, .int (F 15), .ref q5, .ref q6, .ref q7, .int (F 19), .ref q8, .int (F 21), .int (F 22), .int (F 23), .int (F 24), .ref q9, .ref q10, .ref q11, .long (J 28)])), (q1, .inl (g.2 0, 376, .inl al)), (q7, .inl (g.2 0, 200, .inl he)), (q8, .inl (g.2 0, 65, .inl ma))] sz) := by
  refine Met.ofW (cc := cX9_fragile) (maxL := 9) (ret := (some .int)) (by decide) rfl ?_
  intro p e s m args below meth c s₁ B hml hv'
  obtain ⟨rfl, hsz, hP, hG, hD0⟩ := hv'
  have S : CallFix p m c cX9_fragile 9 s _ wsX9_fragile RX9 := ⟨B.exec, B.bytes, hml, findClass_of_methodNamed B.named, atoms_spec (ws := wsX9_fragile) B.pre⟩
  obtain ⟨hx, hb, hml, hown, hts⟩ := id S
  have hK := hG.1
  have hr := B.returns
  have hlocks := B.notSynchronized
  subst hsz
  have hD := hD0.self (sz := s.heap.size)
  generalize hAe : va_A [(qM, .inr (9, [.int (F 0), .ref q1, .ref q2, .ref q3, .int (F 4), .int (F 5), .int (F 6), .int (F 7), .int (F 8), .int (F 9), .long (J 10), .int (F 11), .int (F 12), .int (F 13), .ref q4, .int (F 15), .ref q5, .ref q6, .ref q7, .int (F 19), .ref q8, .int (F 21), .int (F 22), .int (F 23), .int (F 24), .ref q9, .ref q10, .ref q11, .long (J 28)])), (q1, .inl (g.2 0, 376, .inl al)), (q7, .inl (g.2 0, 200, .inl he)), (q8, .inl (g.2 0, 65, .inl ma))] s.heap.size = A at hD ⊢
  have hA : ∀ q : Nat, s.heap.size ≤ q → A q := fun q h => by rw [← hAe]; exact Or.inr h
  have hS : va_S A s.heap s.heap [] := va_S.rf
  clear hD0 hAe
  have hl := lv_entry ([.ref qM, .int p1, .int p2]) (n := 9) (Nat.le_of_ble_eq_true rfl)
  rw [lg_entry_eq]
  generalize (lg_sl ([.ref qM, .int p1, .int p2]) ++ List.replicate (9 - (lg_sl ([.ref qM, .int p1, .int p2])).length) Slot.unset).toArray = ls at hl ⊢
  have hl : lv_has ls 9 [(0, .ref qM), (1, .int p1), (2, .int p2)] := hl
  unfold vX9_fragile at hv
  refine lv_aload_n hx hb dX9_fragile_0 rfl (lv_at hl 0 rfl) ?_
  refine lv_iconst (v := (0 : Int32)) hx hb dX9_fragile_1 (by decide) ?_
  refine va_put (D := g.1) (ci := 9) (v := .int (0 : Int32)) (ty := .int) (C := RX9) (T := TX9) (N := 29) hx hb hts inX9_fragile_9 tyX9 tyX9_ok nmX9 hown hK hP hD hS 0 rfl rfl 0 (by decide) (hts (.fieldLink RX9 51 "RangeCodesModel" "raised" "I") (List.mem_of_getElem? (i := 1) rfl)) (fun _ h9 => h9) rfl (by decide +kernel) rfl rfl (Nat.le_of_ble_eq_true rfl) dX9_fragile_2 (fun H locs hP hD hS => ?_)
  have hP : va_P g.1 vwCl [(qM, .inr (9, [.int (0 : Int32), .ref q1, .ref q2, .ref q3, .int (F 4), .int (F 5), .int (F 6), .int (F 7), .int (F 8), .int (F 9), .long (J 10), .int (F 11), .int (F 12), .int (F 13), .ref q4, .int (F 15), .ref q5, .ref q6, .ref q7, .int (F 19), .ref q8, .int (F 21), .int (F 22), .int (F 23), .int (F 24), .ref q9, .ref q10, .ref q11, .long (J 28)])), (q1, .inl (g.2 0, 376, .inl al)), (q7, .inl (g.2 0, 200, .inl he)), (q8, .inl (g.2 0, 65, .inl ma))] H := hP
  have hD : va_D A [(qM, .inr (9, [.int (0 : Int32), .ref q1, .ref q2, .ref q3, .int (F 4), .int (F 5), .int (F 6), .int (F 7), .int (F 8), .int (F 9), .long (J 10), .int (F 11), .int (F 12), .int (F 13), .ref q4, .int (F 15), .ref q5, .ref q6, .ref q7, .int (F 19), .ref q8, .int (F 21), .int (F 22), .int (F 23), .int (F 24), .ref q9, .ref q10, .ref q11, .long (J 28)])), (q1, .inl (g.2 0, 376, .inl al)), (q7, .inl (g.2 0, 200, .inl he)), (q8, .inl (g.2 0, 65, .inl ma))] := hD
  refine lv_iload_n hx hb dX9_fragile_5 rfl (lv_at hl 1 rfl) ?_
  obtain ⟨ho_1, hv⟩ := hv
  refine vp_callSi (W.runS (As := [.int p1]) (rest := []) S (wX9_isLeg l g p1 (sX9_isLeg p1 ho_1)) (va_cwS 1 hts gX9_fragile_X9_isLeg rfl rfl rfl (by decide +kernel) ⟨Nat.le_of_ble_eq_true rfl, Nat.le_of_ble_eq_true rfl⟩) ⟨blindRO, fun U hU hW => ⟨rfl, by rw [hU]; exact hP.sub (ws' := []) [] rfl, hG.warm hW⟩⟩ rfl rfl hl.1 rfl (lv_room (Nat.le_of_ble_eq_true rfl)) dX9_fragile_6 ⟨Nat.le_of_ble_eq_true rfl, Nat.le_of_ble_eq_true rfl⟩) (fun r_6 hr_6 => ?_)
  have hv := hv r_6 hr_6
  obtain ⟨hvt, hvf⟩ := hv
  refine lv_if_eq (tgt := 20) hx hb dX9_fragile_9 (by decide) (fun hc => ?_) (fun hc => ?_)
  · have hv := hvt hc
    refine lv_sipush (v := (-1000 : Int32)) hx hb dX9_fragile_20 (by decide) ?_
    have hP9 := hP.sub (ws' := [(qM, .inr (9, [.int ((upd F 0 (0 : Int32)) 0), .ref q1, .ref q2, .ref q3, .int ((upd F 0 (0 : Int32)) 4), .int ((upd F 0 (0 : Int32)) 5), .int ((upd F 0 (0 : Int32)) 6), .int ((upd F 0 (0 : Int32)) 7), .int ((upd F 0 (0 : Int32)) 8), .int ((upd F 0 (0 : Int32)) 9), .long (J 10), .int ((upd F 0 (0 : Int32)) 11), .int ((upd F 0 (0 : Int32)) 12), .int ((upd F 0 (0 : Int32)) 13), .ref q4, .int ((upd F 0 (0 : Int32)) 15), .ref q5, .ref q6, .ref q7, .int ((upd F 0 (0 : Int32)) 19), .ref q8, .int ((upd F 0 (0 : Int32)) 21), .int ((upd F 0 (0 : Int32)) 22), .int ((upd F 0 (0 : Int32)) 23), .int ((upd F 0 (0 : Int32)) 24), .ref q9, .ref q10, .ref q11, .long (J 28)])), (q1, .inl (g.2 0, 376, .inl al)), (q7, .inl (g.2 0, 200, .inl he)), (q8, .inl (g.2 0, 65, .inl ma))]) [0, 1, 2, 3] rfl
    have hD9 := hD.sub (ws' := [(qM, .inr (9, [.int ((upd F 0 (0 : Int32)) 0), .ref q1, .ref q2, .ref q3, .int ((upd F 0 (0 : Int32)) 4), .int ((upd F 0 (0 : Int32)) 5), .int ((upd F 0 (0 : Int32)) 6), .int ((upd F 0 (0 : Int32)) 7), .int ((upd F 0 (0 : Int32)) 8), .int ((upd F 0 (0 : Int32)) 9), .long (J 10), .int ((upd F 0 (0 : Int32)) 11), .int ((upd F 0 (0 : Int32)) 12), .int ((upd F 0 (0 : Int32)) 13), .ref q4, .int ((upd F 0 (0 : Int32)) 15), .ref q5, .ref q6, .ref q7, .int ((upd F 0 (0 : Int32)) 19), .ref q8, .int ((upd F 0 (0 : Int32)) 21), .int ((upd F 0 (0 : Int32)) 22), .int ((upd F 0 (0 : Int32)) 23), .int ((upd F 0 (0 : Int32)) 24), .ref q9, .ref q10, .ref q11, .long (J 28)])), (q1, .inl (g.2 0, 376, .inl al)), (q7, .inl (g.2 0, 200, .inl he)), (q8, .inl (g.2 0, 65, .inl ma))]) [0, 1, 2, 3] (by decide) rfl
    exact W.iret (v := (-1000 : Int32)) hx hb hr (fun t ht hW => ⟨⟨_, ((upd F 0 (0 : Int32)), he, ma), rfl, hv, by rw [ht]; exact hP9, hD9⟩, hS.F ht⟩) hS.2.2 dX9_fragile_23
  · have hv := hvf hc
    refine lv_aload_n hx hb dX9_fragile_12 rfl (lv_at hl 0 rfl) ?_
    refine lv_iload_n hx hb dX9_fragile_13 rfl (lv_at hl 2 rfl) ?_
    obtain ⟨n_14, ho_2, hv⟩ := hv
    refine vp_callSi (W.runV (As := [.int p2]) (rest := []) S (wX9_isPart l g qM q1 q2 q3 q4 q5 q6 q7 q8 q9 q10 q11 (upd F 0 (0 : Int32)) J al p2 (sX9_isPart n_14 (upd F 0 (0 : Int32)) J al p2 ho_2)) (cwV 1 hts gX9_fragile_X9_isPart rfl rfl rfl (by decide +kernel) ⟨Nat.le_of_ble_eq_true rfl, Nat.le_of_ble_eq_true rfl⟩) ⟨blindRO, va_recv hK hP (ci := 9) (q0 := 0) rfl rfl, fun U hU hW => ⟨rfl, by rw [hU]; exact hP.sub (ws' := [(qM, .inr (9, [.int ((upd F 0 (0 : Int32)) 0), .ref q1, .ref q2, .ref q3, .int ((upd F 0 (0 : Int32)) 4), .int ((upd F 0 (0 : Int32)) 5), .int ((upd F 0 (0 : Int32)) 6), .int ((upd F 0 (0 : Int32)) 7), .int ((upd F 0 (0 : Int32)) 8), .int ((upd F 0 (0 : Int32)) 9), .long (J 10), .int ((upd F 0 (0 : Int32)) 11), .int ((upd F 0 (0 : Int32)) 12), .int ((upd F 0 (0 : Int32)) 13), .ref q4, .int ((upd F 0 (0 : Int32)) 15), .ref q5, .ref q6, .ref q7, .int ((upd F 0 (0 : Int32)) 19), .ref q8, .int ((upd F 0 (0 : Int32)) 21), .int ((upd F 0 (0 : Int32)) 22), .int ((upd F 0 (0 : Int32)) 23), .int ((upd F 0 (0 : Int32)) 24), .ref q9, .ref q10, .ref q11, .long (J 28)])), (q1, .inl (g.2 0, 376, .inl al))]) [0, 1] rfl, hG.warm hW⟩⟩ rfl rfl hl.1 rfl (lv_room (Nat.le_of_ble_eq_true rfl)) dX9_fragile_14 ⟨Nat.le_of_ble_eq_true rfl, Nat.le_of_ble_eq_true rfl⟩) (fun r_14 hr_14 => ?_)
    have hv := hv r_14 hr_14
    obtain ⟨hvt, hvf⟩ := hv
    refine lv_if_ne (tgt := 24) hx hb dX9_fragile_17 (by decide) (fun hc => ?_) (fun hc => ?_)
    · have hv := hvt hc
      refine lv_aload_n hx hb dX9_fragile_24 rfl (lv_at hl 0 rfl) ?_
      refine lv_iload_n hx hb dX9_fragile_25 rfl (lv_at hl 1 rfl) ?_
      obtain ⟨T_26, G0_26, G1_26, lg_26, lim_26, ho_3, hv⟩ := hv
      have hPc := hP.sub (ws' := [(qM, .inr (9, [.int ((upd F 0 (0 : Int32)) 0), .ref q1, .ref q2, .ref q3, .int ((upd F 0 (0 : Int32)) 4), .int ((upd F 0 (0 : Int32)) 5), .int ((upd F 0 (0 : Int32)) 6), .int ((upd F 0 (0 : Int32)) 7), .int ((upd F 0 (0 : Int32)) 8), .int ((upd F 0 (0 : Int32)) 9), .long (J 10), .int ((upd F 0 (0 : Int32)) 11), .int ((upd F 0 (0 : Int32)) 12), .int ((upd F 0 (0 : Int32)) 13), .ref q4, .int ((upd F 0 (0 : Int32)) 15), .ref q5, .ref q6, .ref q7, .int ((upd F 0 (0 : Int32)) 19), .ref q8, .int ((upd F 0 (0 : Int32)) 21), .int ((upd F 0 (0 : Int32)) 22), .int ((upd F 0 (0 : Int32)) 23), .int ((upd F 0 (0 : Int32)) 24), .ref q9, .ref q10, .ref q11, .long (J 28)])), (q1, .inl (g.2 0, 376, .inl al)), (q7, .inl (g.2 0, 200, .inl he)), (q8, .inl (g.2 0, 65, .inl ma))]) [0, 1, 2, 3] rfl
      have hDc := hD.sub (ws' := [(qM, .inr (9, [.int ((upd F 0 (0 : Int32)) 0), .ref q1, .ref q2, .ref q3, .int ((upd F 0 (0 : Int32)) 4), .int ((upd F 0 (0 : Int32)) 5), .int ((upd F 0 (0 : Int32)) 6), .int ((upd F 0 (0 : Int32)) 7), .int ((upd F 0 (0 : Int32)) 8), .int ((upd F 0 (0 : Int32)) 9), .long (J 10), .int ((upd F 0 (0 : Int32)) 11), .int ((upd F 0 (0 : Int32)) 12), .int ((upd F 0 (0 : Int32)) 13), .ref q4, .int ((upd F 0 (0 : Int32)) 15), .ref q5, .ref q6, .ref q7, .int ((upd F 0 (0 : Int32)) 19), .ref q8, .int ((upd F 0 (0 : Int32)) 21), .int ((upd F 0 (0 : Int32)) 22), .int ((upd F 0 (0 : Int32)) 23), .int ((upd F 0 (0 : Int32)) 24), .ref q9, .ref q10, .ref q11, .long (J 28)])), (q1, .inl (g.2 0, 376, .inl al)), (q7, .inl (g.2 0, 200, .inl he)), (q8, .inl (g.2 0, 65, .inl ma))]) [0, 1, 2, 3] (by decide) rfl
      have hFc := va_free (wc := [(qM, .inr (9, [.int ((upd F 0 (0 : Int32)) 0), .ref q1, .ref q2, .ref q3, .int ((upd F 0 (0 : Int32)) 4), .int ((upd F 0 (0 : Int32)) 5), .int ((upd F 0 (0 : Int32)) 6), .int ((upd F 0 (0 : Int32)) 7), .int ((upd F 0 (0 : Int32)) 8), .int ((upd F 0 (0 : Int32)) 9), .long (J 10), .int ((upd F 0 (0 : Int32)) 11), .int ((upd F 0 (0 : Int32)) 12), .int ((upd F 0 (0 : Int32)) 13), .ref q4, .int ((upd F 0 (0 : Int32)) 15), .ref q5, .ref q6, .ref q7, .int ((upd F 0 (0 : Int32)) 19), .ref q8, .int ((upd F 0 (0 : Int32)) 21), .int ((upd F 0 (0 : Int32)) 22), .int ((upd F 0 (0 : Int32)) 23), .int ((upd F 0 (0 : Int32)) 24), .ref q9, .ref q10, .ref q11, .long (J 28)])), (q1, .inl (g.2 0, 376, .inl al)), (q7, .inl (g.2 0, 200, .inl he)), (q8, .inl (g.2 0, 65, .inl ma))]) hD hS hA [0, 1, 2, 3] rfl
      refine va_callv (va_runV (As := [.int p1]) (rest := []) S (wX9_laysLeg l g qM q1 q2 q3 q4 q5 q6 q7 q8 q9 q10 q11 H.size (upd F 0 (0 : Int32)) J al he ma p1 (sX9_laysLeg T_26 G0_26 G1_26 lg_26 lim_26 (upd F 0 (0 : Int32)) J al he ma p1 ho_3)) (cwV 1 hts gX9_fragile_X9_laysLeg rfl rfl rfl (by decide +kernel) ⟨Nat.le_of_ble_eq_true rfl, Nat.le_of_ble_eq_true rfl⟩) ⟨blindRW, va_recv hK hP (ci := 9) (q0 := 0) rfl rfl, fun U hU hW => ⟨rfl, by rw [hU], by rw [hU]; exact hPc, hG.warm hW, hDc.weaken (fun _ _ _ _ => trivial)⟩⟩ rfl rfl hl.1 rfl (lv_room (Nat.le_of_ble_eq_true rfl)) dX9_fragile_26 ⟨Nat.le_of_ble_eq_true rfl, Nat.le_of_ble_eq_true rfl⟩) hS (fun q _ h => hFc q h) hFc (fun u t H1 locs ht hvm hw hB hz1 hk1 hS => ?_)
      obtain ⟨F_26, he_26, ma_26⟩ := u
      obtain ⟨hP1, hD1⟩ := hB
      rw [ht] at hP1
      have hv := hv F_26 he_26 ma_26 hw
      obtain ⟨hP, hD⟩ := va_join (wr := []) (w1 := [(qM, .inr (9, [.int (F_26 0), .ref q1, .ref q2, .ref q3, .int (F_26 4), .int (F_26 5), .int (F_26 6), .int (F_26 7), .int (F_26 8), .int (F_26 9), .long (J 10), .int (F_26 11), .int (F_26 12), .int (F_26 13), .ref q4, .int (F_26 15), .ref q5, .ref q6, .ref q7, .int (F_26 19), .ref q8, .int (F_26 21), .int (F_26 22), .int (F_26 23), .int (F_26 24), .ref q9, .ref q10, .ref q11, .long (J 28)])), (q1, .inl (g.2 0, 376, .inl al)), (q7, .inl (g.2 0, 200, .inl he_26)), (q8, .inl (g.2 0, 65, .inl ma_26))]) hP hD [0, 1, 2, 3] [] rfl rfl (by decide) (by decide) hk1 hFc hP1 hD1
      clear hP1 hD1 hPc hDc hFc hk1
      generalize H1 = H at hP hS ⊢
      have hP : va_P g.1 vwCl [(qM, .inr (9, [.int (F_26 0), .ref q1, .ref q2, .ref q3, .int (F_26 4), .int (F_26 5), .int (F_26 6), .int (F_26 7), .int (F_26 8), .int (F_26 9), .long (J 10), .int (F_26 11), .int (F_26 12), .int (F_26 13), .ref q4, .int (F_26 15), .ref q5, .ref q6, .ref q7, .int (F_26 19), .ref q8, .int (F_26 21), .int (F_26 22), .int (F_26 23), .int (F_26 24), .ref q9, .ref q10, .ref q11, .long (J 28)])), (q1, .inl (g.2 0, 376, .inl al)), (q7, .inl (g.2 0, 200, .inl he_26)), (q8, .inl (g.2 0, 65, .inl ma_26))] H := hP
      have hD : va_D A [(qM, .inr (9, [.int (F_26 0), .ref q1, .ref q2, .ref q3, .int (F_26 4), .int (F_26 5), .int (F_26 6), .int (F_26 7), .int (F_26 8), .int (F_26 9), .long (J 10), .int (F_26 11), .int (F_26 12), .int (F_26 13), .ref q4, .int (F_26 15), .ref q5, .ref q6, .ref q7, .int (F_26 19), .ref q8, .int (F_26 21), .int (F_26 22), .int (F_26 23), .int (F_26 24), .ref q9, .ref q10, .ref q11, .long (J 28)])), (q1, .inl (g.2 0, 376, .inl al)), (q7, .inl (g.2 0, 200, .inl he_26)), (q8, .inl (g.2 0, 65, .inl ma_26))] := hD
      refine lv_aload_n hx hb dX9_fragile_29 rfl (lv_at hl 0 rfl) ?_
      refine lv_iload_n hx hb dX9_fragile_30 rfl (lv_at hl 2 rfl) ?_
      obtain ⟨T_31, p_31, m_31, ho_4, hv⟩ := hv
      refine vp_callSi (W.runV (As := [.int p2]) (rest := []) S (wX9_bestOf l g qM q1 q2 q3 q4 q5 q6 q7 q8 q9 q10 q11 F_26 J al ma_26 p2 (sX9_bestOf T_31 p_31 m_31 F_26 J al ma_26 p2 ho_4)) (cwV 1 hts gX9_fragile_X9_bestOf rfl rfl rfl (by decide +kernel) ⟨Nat.le_of_ble_eq_true rfl, Nat.le_of_ble_eq_true rfl⟩) ⟨blindRO, va_recv hK hP (ci := 9) (q0 := 0) rfl rfl, fun U hU hW => ⟨rfl, by rw [hU]; exact hP.sub (ws' := [(qM, .inr (9, [.int (F_26 0), .ref q1, .ref q2, .ref q3, .int (F_26 4), .int (F_26 5), .int (F_26 6), .int (F_26 7), .int (F_26 8), .int (F_26 9), .long (J 10), .int (F_26 11), .int (F_26 12), .int (F_26 13), .ref q4, .int (F_26 15), .ref q5, .ref q6, .ref q7, .int (F_26 19), .ref q8, .int (F_26 21), .int (F_26 22), .int (F_26 23), .int (F_26 24), .ref q9, .ref q10, .ref q11, .long (J 28)])), (q1, .inl (g.2 0, 376, .inl al)), (q8, .inl (g.2 0, 65, .inl ma_26))]) [0, 1, 3] rfl, hG.warm hW⟩⟩ rfl rfl hl.1 rfl (lv_room (Nat.le_of_ble_eq_true rfl)) dX9_fragile_31 ⟨Nat.le_of_ble_eq_true rfl, Nat.le_of_ble_eq_true rfl⟩) (fun r_31 hr_31 => ?_)
      have hv := hv r_31 hr_31
      refine lv_istore_n (lv' := [(3, .int r_31), (0, .ref qM), (1, .int p1), (2, .int p2)]) hx hb dX9_fragile_34 rfl hl (by decide) rfl (fun ls hl => ?_)
      refine lv_iconst (v := (-1 : Int32)) hx hb dX9_fragile_35 (by decide) ?_
      refine lv_istore (lv' := [(4, .int (-1 : Int32)), (3, .int r_31), (0, .ref qM), (1, .int p1), (2, .int p2)]) hx hb dX9_fragile_36 hl (by decide) rfl (fun ls hl => ?_)
      refine lv_iconst (v := (0 : Int32)) hx hb dX9_fragile_38 (by decide) ?_
      refine lv_istore (lv' := [(5, .int (0 : Int32)), (4, .int (-1 : Int32)), (3, .int r_31), (0, .ref qM), (1, .int p1), (2, .int p2)]) hx hb dX9_fragile_39 hl (by decide) rfl (fun ls hl => ?_)
      obtain ⟨nn, hv⟩ := hv
      exact kX9_fragile_c41 S hr hlocks hG hA nn _ _ _ _ _ _ hv _ _ (hP.sub (ws' := [(qM, .inr (9, [.int (F_26 0), .ref q1, .ref q2, .ref q3, .int (F_26 4), .int (F_26 5), .int (F_26 6), .int (F_26 7), .int (F_26 8), .int (F_26 9), .long (J 10), .int (F_26 11), .int (F_26 12), .int (F_26 13), .ref q4, .int (F_26 15), .ref q5, .ref q6, .ref q7, .int (F_26 19), .ref q8, .int (F_26 21), .int (F_26 22), .int (F_26 23), .int (F_26 24), .ref q9, .ref q10, .ref q11, .long (J 28)])), (q1, .inl (g.2 0, 376, .inl al)), (q7, .inl (g.2 0, 200, .inl he_26)), (q8, .inl (g.2 0, 65, .inl ma_26))]) [0, 1, 2, 3] rfl) (hD.sub (ws' := [(qM, .inr (9, [.int (F_26 0), .ref q1, .ref q2, .ref q3, .int (F_26 4), .int (F_26 5), .int (F_26 6), .int (F_26 7), .int (F_26 8), .int (F_26 9), .long (J 10), .int (F_26 11), .int (F_26 12), .int (F_26 13), .ref q4, .int (F_26 15), .ref q5, .ref q6, .ref q7, .int (F_26 19), .ref q8, .int (F_26 21), .int (F_26 22), .int (F_26 23), .int (F_26 24), .ref q9, .ref q10, .ref q11, .long (J 28)])), (q1, .inl (g.2 0, 376, .inl al)), (q7, .inl (g.2 0, 200, .inl he_26)), (q8, .inl (g.2 0, 65, .inl ma_26))]) [0, 1, 2, 3] (by decide) rfl) hS ls (lv_sub hl [3, 4, 5, 2, 1, 0] rfl)
    · have hv := hvf hc
      refine lv_sipush (v := (-1000 : Int32)) hx hb dX9_fragile_20 (by decide) ?_
      have hP9 := hP.sub (ws' := [(qM, .inr (9, [.int ((upd F 0 (0 : Int32)) 0), .ref q1, .ref q2, .ref q3, .int ((upd F 0 (0 : Int32)) 4), .int ((upd F 0 (0 : Int32)) 5), .int ((upd F 0 (0 : Int32)) 6), .int ((upd F 0 (0 : Int32)) 7), .int ((upd F 0 (0 : Int32)) 8), .int ((upd F 0 (0 : Int32)) 9), .long (J 10), .int ((upd F 0 (0 : Int32)) 11), .int ((upd F 0 (0 : Int32)) 12), .int ((upd F 0 (0 : Int32)) 13), .ref q4, .int ((upd F 0 (0 : Int32)) 15), .ref q5, .ref q6, .ref q7, .int ((upd F 0 (0 : Int32)) 19), .ref q8, .int ((upd F 0 (0 : Int32)) 21), .int ((upd F 0 (0 : Int32)) 22), .int ((upd F 0 (0 : Int32)) 23), .int ((upd F 0 (0 : Int32)) 24), .ref q9, .ref q10, .ref q11, .long (J 28)])), (q1, .inl (g.2 0, 376, .inl al)), (q7, .inl (g.2 0, 200, .inl he)), (q8, .inl (g.2 0, 65, .inl ma))]) [0, 1, 2, 3] rfl
      have hD9 := hD.sub (ws' := [(qM, .inr (9, [.int ((upd F 0 (0 : Int32)) 0), .ref q1, .ref q2, .ref q3, .int ((upd F 0 (0 : Int32)) 4), .int ((upd F 0 (0 : Int32)) 5), .int ((upd F 0 (0 : Int32)) 6), .int ((upd F 0 (0 : Int32)) 7), .int ((upd F 0 (0 : Int32)) 8), .int ((upd F 0 (0 : Int32)) 9), .long (J 10), .int ((upd F 0 (0 : Int32)) 11), .int ((upd F 0 (0 : Int32)) 12), .int ((upd F 0 (0 : Int32)) 13), .ref q4, .int ((upd F 0 (0 : Int32)) 15), .ref q5, .ref q6, .ref q7, .int ((upd F 0 (0 : Int32)) 19), .ref q8, .int ((upd F 0 (0 : Int32)) 21), .int ((upd F 0 (0 : Int32)) 22), .int ((upd F 0 (0 : Int32)) 23), .int ((upd F 0 (0 : Int32)) 24), .ref q9, .ref q10, .ref q11, .long (J 28)])), (q1, .inl (g.2 0, 376, .inl al)), (q7, .inl (g.2 0, 200, .inl he)), (q8, .inl (g.2 0, 65, .inl ma))]) [0, 1, 2, 3] (by decide) rfl
      exact W.iret (v := (-1000 : Int32)) hx hb hr (fun t ht hW => ⟨⟨_, ((upd F 0 (0 : Int32)), he, ma), rfl, hv, by rw [ht]; exact hP9, hD9⟩, hS.F ht⟩) hS.2.2 dX9_fragile_23
theorem bst_lst (m : Nat → Int) : ∀ k w, w < bst m k → m w < m (bst m k)
  | 0, w, h => absurd h (by simp [bst])
  | k + 1, w, h => by
    rw [bst] at h ⊢
    by_cases q : m (bst m k) < m k
    · rw [if_pos q] at h ⊢
      have := bst_max m k w h
      omega
    · rw [if_neg q] at h ⊢
      exact bst_lst m k w h
theorem sX9_fragile_96 (m : Nat → Int) (b w : Nat) (mo : Int) (F : Nat → Int32) (J : Nat → Int64) (al : Nat → Int32) (he : Nat → Int32) (ma : Nat → Int32) (p1 : Int32) (p2 : Int32) (hld : 0 ≤ m b - m w ∧ m b - m w ≤ 2000) (hlst : w < b → m w < m b) (hmo : -1 ≤ mo ∧ mo ≤ 200) (hmb : w = b → mo = -1) (K : Int32 → Int32 → Int32 → (Nat → Int32) → (Nat → Int32) → (Nat → Int32) → Prop) (Q : Int32 → (Nat → Int32) → (Nat → Int32) → (Nat → Int32) → Prop) (x3 x4 x5 x6 x7 : Int32) (h3 : x3.toInt = (b : Int)) (h5 : x5.toInt = (w : Int)) (h6 : x6.toInt = m b - m w) (h7 : x7.toInt = mo) (hK : ∀ x : Int32, x.toInt = (if w ≠ b ∧ (x4.toInt = -1 ∨ tuZ m b w < x4.toInt) ∧ tuZ m b w ≤ mo then tuZ m b w else x4.toInt) → K x3 x (x5 + (1 : Int32)) F he ma) : ∀ (n i : Nat) (x8 : Int32), x8.toInt = (i : Int) → (i = 0 ∨ (w ≠ b ∧ (i : Int) ≤ tuZ m b w)) → (i : Int) ≤ mo + 1 → mo + 3 ≤ (i : Int) + (n : Int) → vX9_fragile_c96 J al p1 p2 Q K n x3 x4 x5 x6 x7 x8 F he ma
  | 0, i, x8, _, _, hi, hn => absurd hn (by omega)
  | n + 1, i, x8, h8, ht, hi, hn => by
    have h48 : ((4 : Int32) * x8).toInt = 4 * (i : Int) := by rw [q_mul z4 h8 (by omega) (by omega)]
    have hsub : (x6 - ((4 : Int32) * x8)).toInt = m b - m w - 4 * (i : Int) := q_sub h6 h48 (by omega) (by omega)
    have htu : tuZ m b w = if w < b then (m b - m w + 3) / 4 else (m b - m w) / 4 + 1 := rfl
    have hone : w ≠ b → 1 ≤ tuZ m b w := fun hne => by
      rw [htu]; split
      · have := hlst (by assumption); omega
      · omega
    -- the end
    have out : (mo < (i : Int) ∨ (w ≠ b ∧ (i : Int) = tuZ m b w)) → vX9_fragile_c134 J al p1 p2 Q K x3 x4 x5 x7 x8 F he ma := by
      intro ho
      unfold vX9_fragile_c134
      rw [fa_lt, h7, h8]
      refine ⟨fun hq => hK _ ?_, fun hq => ?_⟩
      · rw [if_neg]
        intro z
        have hz := hone z.1
        rcases ht with q | q
        · subst q; omega
        · rcases ho with o | o <;> omega
      · have hw : w ≠ b ∧ (i : Int) = tuZ m b w := by
          rcases ho with o | o
          · exact absurd o hq
          · exact o
        rw [fa_eq x4, zm1, fa_le, h8]
        refine ⟨fun hz => hK _ ?_, fun hz => ⟨fun hy => hK _ ?_, fun hy => hK _ ?_⟩⟩
        · rw [if_pos ⟨hw.1, Or.inl hz, by omega⟩, h8]; exact hw.2
        · rw [if_neg (fun q => by rcases q.2.1 with z | z <;> omega)]
        · rw [if_pos ⟨hw.1, Or.inr (by omega), by omega⟩, h8]; exact hw.2
    rw [vX9_fragile_c96, fa_lt x7, h7, h8, fa_lt, z0, hsub, fa_eq x6, h6, h48, fa_le x5, h5, h3]
    have h8s := q_1 h8 (by omega)
    refine ⟨fun hc => out (Or.inl hc), fun hc => ?_⟩
    have hne : w ≠ b := fun z => by have := hmb z; omega
    have go : (i : Int) < tuZ m b w → vX9_fragile_c96 J al p1 p2 Q K n x3 x4 x5 x6 x7 (x8 + (1 : Int32)) F he ma := fun hlt => sX9_fragile_96 m b w mo F J al he ma p1 p2 hld hlst hmo hmb K Q x3 x4 x5 x6 x7 h3 h5 h6 h7 hK n (i + 1) _ h8s (Or.inr ⟨hne, by omega⟩) (by omega) (by omega)
    have le : (i : Int) ≤ tuZ m b w := by
      rcases ht with q | q
      · subst q; have := hone hne; omega
      · exact q.2
    refine ⟨fun hd => go ?_, fun hd => ⟨fun he => out (Or.inr ⟨hne, ?_⟩), fun he => ⟨fun hf => out (Or.inr ⟨hne, ?_⟩), fun hf => go ?_⟩⟩⟩
    · rw [htu]; split <;> omega
    · have : tuZ m b w ≤ (i : Int) := by rw [htu]; split <;> omega
      omega
    · have : tuZ m b w ≤ (i : Int) := by rw [htu]; split <;> omega
      omega
    · rw [htu, if_neg (by omega)]; omega
theorem sX9_fragile_41 (T : Cd) (G0 G1 : Lg) (lim l p : Nat) (F : Nat → Int32) (J : Nat → Int64) (al : Nat → Int32) (he : Nat → Int32) (ma : Nat → Int32) (p1 : Int32) (p2 : Int32) (H : fcR T G0 G1 lim al) (hl2 : l < 2) (e1 : p1.toInt = (l : Int)) (hp : p < cn T) (e2 : p2.toInt = (p : Int)) (hrl : rlC T G0 G1 lim l F he ma) (x3 : Int32) (h3 : x3.toInt = (bN T G0 G1 lim l p : Int)) (Q : Int32 → (Nat → Int32) → (Nat → Int32) → (Nat → Int32) → Prop) (hQ : ∀ r : Int32, r.toInt = feZ (mN T G0 G1 lim l p) (fun w => (tlN T (hN T G0 G1 lim l) (gfr (pkG G0 G1 l)) p (bN T G0 G1 lim l p) w (gmn (pkG G0 G1 l)) : Int)) (bN T G0 G1 lim l p) (cL T p) → Q r F he ma) : ∀ (n i : Nat) (x4 x5 : Int32), x4.toInt = feZ (mN T G0 G1 lim l p) (fun w => (tlN T (hN T G0 G1 lim l) (gfr (pkG G0 G1 l)) p (bN T G0 G1 lim l p) w (gmn (pkG G0 G1 l)) : Int)) (bN T G0 G1 lim l p) i → x5.toInt = (i : Int) → i ≤ cL T p → cL T p + 1 ≤ i + n → vX9_fragile_c41 J al p1 p2 Q n x3 x4 x5 F he ma
  | 0, i, x4, x5, _, _, hi, hn => absurd hn (by omega)
  | n + 1, i, x4, x5, h4, h5, hi, hn => by
    obtain ⟨hT, h0, h1, hlim, hl9, hl1⟩ := id H
    have hn5 := hT.1.2
    have hlp := mT_L hT hp
    have hG := pk_mG h0 h1 hl2
    have hg := gmn_le hG.1
    rw [vX9_fragile_c41]
    refine ⟨p, 0, ⟨e2, rfl, by omega⟩, fun r hr => ?_⟩
    have hr : r.toInt = (cL T p : Int) := by rw [hr]; exact hlp.1
    rw [q_le hr h5]
    refine ⟨fun hc => ?_, fun hc => ⟨T, p, mN T G0 G1 lim l, ⟨hn5, hT.2.1, e2, hp, hrl.2.1 p hp⟩, fun r2 hr2 => ?_⟩⟩
    · have : i = cL T p := by omega
      subst this
      exact hQ _ h4
    · have hr2 : r2.toInt = mN T G0 G1 lim l p (bN T G0 G1 lim l p) := hr2
      have e := q_13 e2 h5 (by omega) (by omega)
      refine ⟨q_in e (by omega), fun y hy => ?_⟩
      rw [q_cl e] at hy
      have hmb := mN_le T G0 G1 lim l hg.2 p (bN T G0 G1 lim l p)
      have hmi := mN_le T G0 G1 lim l hg.2 p i
      have hy : y.toInt = mN T G0 G1 lim l p (bN T G0 G1 lim l p) - mN T G0 G1 lim l p i := by
        rw [hy]; exact q_sub hr2 (hrl.2.1 p hp i (by omega)) (by omega) (by omega)
      have hmx := bst_max (mN T G0 G1 lim l p) (cL T p) i (by omega)
      have hmx : mN T G0 G1 lim l p i ≤ mN T G0 G1 lim l p (bN T G0 G1 lim l p) := hmx
      have hls := bst_lst (mN T G0 G1 lim l p) (cL T p) i
      have hbl := bst_lt (mN T G0 G1 lim l p) (cL T p) (by omega)
      have hbl : bN T G0 G1 lim l p < cL T p := hbl
      have h5s := q_1 h5 (by omega)
      have next : ∀ x : Int32, x.toInt = feZ (mN T G0 G1 lim l p) (fun w => (tlN T (hN T G0 G1 lim l) (gfr (pkG G0 G1 l)) p (bN T G0 G1 lim l p) w (gmn (pkG G0 G1 l)) : Int)) (bN T G0 G1 lim l p) (i + 1) → vX9_fragile_c41 J al p1 p2 Q n x3 x (x5 + (1 : Int32)) F he ma := fun x hx => sX9_fragile_41 T G0 G1 lim l p F J al he ma p1 p2 H hl2 e1 hp e2 hrl x3 h3 Q hQ n (i + 1) _ _ hx h5s (by omega) (by omega)
      rw [q_eq h5 h3]
      refine ⟨fun hq => ⟨T, pkG G0 G1 l, l, p, bN T G0 G1 lim l p, i, hN T G0 G1 lim l, ⟨hT, hG, hl2, e1, e2, hp, h3, by omega, h5, by omega, hrl.1⟩, fun r3 hr3 => ?_⟩, fun hq => ?_⟩
      · have hr3 : r3.toInt = ((tlN T (hN T G0 G1 lim l) (gfr (pkG G0 G1 l)) p (bN T G0 G1 lim l p) i (gmn (pkG G0 G1 l)) : Nat) : Int) := hr3
        have htl := tlN_le T (hN T G0 G1 lim l) (gfr (pkG G0 G1 l)) p (bN T G0 G1 lim l p) i (gmn (pkG G0 G1 l))
        refine ⟨300, sX9_fragile_96 (mN T G0 G1 lim l p) (bN T G0 G1 lim l p) i _ F J al he ma p1 p2 (by omega) hls (by omega) (fun z => absurd z (by omega)) _ Q x3 x4 x5 y r3 h3 h5 hy hr3 (fun x hx => next x ?_) 300 0 0 rfl (Or.inl rfl) (by omega) (by omega)⟩
        rw [feZ, ← h4]; exact hx
      · have hib : i = bN T G0 G1 lim l p := by omega
        refine ⟨300, sX9_fragile_96 (mN T G0 G1 lim l p) (bN T G0 G1 lim l p) i (-1) F J al he ma p1 p2 (by omega) hls (by omega) (fun _ => rfl) _ Q x3 x4 x5 y (-1) h3 h5 hy rfl (fun x hx => next x ?_) 300 0 0 rfl (Or.inl rfl) (by omega) (by omega)⟩
        rw [feZ, ← h4, if_neg (fun q => q.1 hib)]
        rw [if_neg (fun q => q.1 hib)] at hx; exact hx
abbrev preX9_fragile (T : Cd) (G0 : Lg) (G1 : Lg) (lim : Nat) (F : Nat → Int32) (J : Nat → Int64) (al : Nat → Int32) (he : Nat → Int32) (ma : Nat → Int32) (p1 : Int32) (p2 : Int32) : Prop := fcR T G0 G1 lim al
abbrev postX9_fragile (T : Cd) (G0 : Lg) (G1 : Lg) (lim : Nat) (F : Nat → Int32) (J : Nat → Int64) (al : Nat → Int32) (he : Nat → Int32) (ma : Nat → Int32) (p1 : Int32) (p2 : Int32) (r : Int32) (F' : Nat → Int32) (he' : Nat → Int32) (ma' : Nat → Int32) : Prop := r.toInt = spFragile T G0 G1 lim p1.toInt p2.toInt
theorem sX9_fragile (T : Cd) (G0 : Lg) (G1 : Lg) (lim : Nat) (F : Nat → Int32) (J : Nat → Int64) (al : Nat → Int32) (he : Nat → Int32) (ma : Nat → Int32) (p1 : Int32) (p2 : Int32) (H : preX9_fragile T G0 G1 lim F J al he ma p1 p2) : vX9_fragile F J al he ma p1 p2 (postX9_fragile T G0 G1 lim F J al he ma p1 p2) := by
  obtain ⟨hT, h0, h1, hlim, hl9, hl1⟩ := id H
  have hn5 := hT.1.2
  unfold postX9_fragile spFragile
  refine ⟨trivial, fun r hr => ?_⟩
  have hr : r = if p1.toInt = 0 ∨ p1.toInt = 1 then 1 else 0 := hr
  rw [hr, q_if1]
  refine ⟨fun hc => by rw [if_neg (fun q => hc q.1)]; rfl, fun hc => ⟨cn T, hT.1.1, fun r2 hr2 => ?_⟩⟩
  have hc := Decidable.not_not.mp hc
  have hr2 : r2 = if 0 ≤ p2.toInt ∧ p2.toInt < (cn T : Int) then 1 else 0 := hr2
  rw [hr2, q_if1]
  refine ⟨fun hd => ?_, fun hd => by rw [if_neg (fun q => hd q.2)]; rfl⟩
  have hd := Decidable.not_not.mp hd
  rw [if_pos ⟨hc, hd⟩]
  have e2 : p2.toInt = (p2.toInt.toNat : Int) := by omega
  have hp : p2.toInt.toNat < cn T := by omega
  have hlp := mT_L hT hp
  refine ⟨T, G0, G1, p1.toInt.toNat, lim, fcR_ll H _ _ _ _ hc, fun F2 he2 ma2 hq => ?_⟩
  have h2 := rlC_of hq
  exact ⟨T, p2.toInt.toNat, mN T G0 G1 lim p1.toInt.toNat, ⟨hn5, hT.2.1, e2, hp, h2.2.1 _ hp⟩, fun r4 hr4 => ⟨14, sX9_fragile_41 T G0 G1 lim p1.toInt.toNat p2.toInt.toNat F2 J al he2 ma2 p1 p2 H (by omega) (by omega) hp e2 h2 r4 hr4 _ (fun r5 hr5 => hr5) 14 0 _ _ rfl rfl (by omega) (by omega)⟩⟩
set_option maxRecDepth 20000 in
theorem ggX9_leg_X9_isLeg : GoodIn wsX9_leg wsX9_isLeg := goodIn_r _ [6, 7, 8, 5, 9] (by decide +kernel) (by decide +kernel)
set_option maxRecDepth 20000 in
theorem gX9_leg_X9_isLeg : GoodIn wsX9_leg (va_wsS RX9 182 yX9_isLeg wsX9_isLeg) := goodIn_app (goodIn_of _ (by decide +kernel)) ggX9_leg_X9_isLeg
set_option maxRecDepth 20000 in
theorem ggX9_leg_X9_in : GoodIn wsX9_leg wsX9_in := goodIn_r _ [9] (by decide +kernel) (by decide +kernel)
set_option maxRecDepth 20000 in
theorem gX9_leg_X9_in : GoodIn wsX9_leg (va_wsS RX9 63 yX9_in wsX9_in) := goodIn_app (goodIn_of _ (by decide +kernel)) ggX9_leg_X9_in
set_option maxRecDepth 20000 in
theorem ggX9_leg_X9_ofLeg : GoodIn wsX9_leg wsX9_ofLeg := goodIn_r _ [13, 14, 111, 112, 113, 114, 115, 116, 117, 118, 119, 120, 121, 122, 123, 124, 125, 126, 127, 128, 129, 130, 131, 132, 133, 134, 135, 136, 137, 138, 139] (by decide +kernel) (by decide +kernel)
set_option maxRecDepth 20000 in
theorem gX9_leg_X9_ofLeg : GoodIn wsX9_leg (wsV RX9 185 RX9 yX9_ofLeg wsX9_ofLeg) := goodIn_app (goodIn_of _ (by decide +kernel)) ggX9_leg_X9_ofLeg
set_option maxRecDepth 20000 in
theorem ggX9_leg_X9_laysLeg : GoodIn wsX9_leg wsX9_laysLeg := goodIn_r _ [18, 19, 20, 21, 22, 23, 5, 24, 25, 26, 27, 28, 29, 30, 31, 32, 2, 10, 11, 12, 13, 14, 33, 34, 35, 36, 37, 38, 39, 40, 41, 42, 43, 44, 45, 46, 47, 48, 49, 50, 51, 52, 53, 54, 55, 56, 57, 58, 59, 60, 61, 62, 63, 64, 65, 7, 8, 9, 66, 67, 68, 69, 70, 71, 72, 73, 74, 75, 76, 77, 78, 79, 80, 81, 82, 83, 84, 85, 86, 87, 88, 89, 90, 91, 92, 93, 94, 95, 96, 97, 98, 99, 100, 101, 102, 103, 104, 105, 106, 107, 108, 109, 110, 111, 112, 113, 114, 115, 116, 117, 118, 119, 120, 121, 122, 123, 124, 125, 126, 127, 128, 129, 130, 131, 132, 133, 134, 135, 136, 137, 138, 139] (by decide +kernel) (by decide +kernel)
set_option maxRecDepth 20000 in
theorem gX9_leg_X9_laysLeg : GoodIn wsX9_leg (wsV RX9 294 RX9 yX9_laysLeg wsX9_laysLeg) := goodIn_app (goodIn_of _ (by decide +kernel)) ggX9_leg_X9_laysLeg
theorem dX9_leg_0 : decode cX9_leg 0 = .ok (.aload_n 0, 1) := by decide +kernel
theorem dX9_leg_1 : decode cX9_leg 1 = .ok (.iconst 0, 1) := by decide +kernel
theorem dX9_leg_2 : decode cX9_leg 2 = .ok (.putfield 51, 3) := by decide +kernel
theorem dX9_leg_5 : decode cX9_leg 5 = .ok (.iload_n 1, 1) := by decide +kernel
theorem dX9_leg_6 : decode cX9_leg 6 = .ok (.invokestatic 182, 3) := by decide +kernel
theorem dX9_leg_9 : decode cX9_leg 9 = .ok (.ifCond .eq 13, 3) := by decide +kernel
theorem dX9_leg_12 : decode cX9_leg 12 = .ok (.iload_n 2, 1) := by decide +kernel
theorem dX9_leg_13 : decode cX9_leg 13 = .ok (.iconst 0, 1) := by decide +kernel
theorem dX9_leg_14 : decode cX9_leg 14 = .ok (.bipush 10, 2) := by decide +kernel
theorem dX9_leg_16 : decode cX9_leg 16 = .ok (.invokestatic 63, 3) := by decide +kernel
theorem dX9_leg_19 : decode cX9_leg 19 = .ok (.ifCond .ne 7, 3) := by decide +kernel
theorem dX9_leg_22 : decode cX9_leg 22 = .ok (.sipush (-1000), 3) := by decide +kernel
theorem dX9_leg_25 : decode cX9_leg 25 = .ok (.ireturn, 1) := by decide +kernel
theorem dX9_leg_26 : decode cX9_leg 26 = .ok (.iload_n 2, 1) := by decide +kernel
theorem dX9_leg_27 : decode cX9_leg 27 = .ok (.iconst 5, 1) := by decide +kernel
theorem dX9_leg_28 : decode cX9_leg 28 = .ok (.if_icmp .gt 10, 3) := by decide +kernel
theorem dX9_leg_31 : decode cX9_leg 31 = .ok (.aload_n 0, 1) := by decide +kernel
theorem dX9_leg_32 : decode cX9_leg 32 = .ok (.iload_n 1, 1) := by decide +kernel
theorem dX9_leg_33 : decode cX9_leg 33 = .ok (.iload_n 2, 1) := by decide +kernel
theorem dX9_leg_34 : decode cX9_leg 34 = .ok (.invokevirtual 185, 3) := by decide +kernel
theorem dX9_leg_37 : decode cX9_leg 37 = .ok (.ireturn, 1) := by decide +kernel
theorem dX9_leg_38 : decode cX9_leg 38 = .ok (.iconst 0, 1) := by decide +kernel
theorem dX9_leg_39 : decode cX9_leg 39 = .ok (.istore_n 3, 1) := by decide +kernel
theorem dX9_leg_40 : decode cX9_leg 40 = .ok (.iconst 0, 1) := by decide +kernel
theorem dX9_leg_41 : decode cX9_leg 41 = .ok (.istore 4, 2) := by decide +kernel
theorem dX9_leg_43 : decode cX9_leg 43 = .ok (.iload 4, 2) := by decide +kernel
theorem dX9_leg_45 : decode cX9_leg 45 = .ok (.aload_n 0, 1) := by decide +kernel
theorem dX9_leg_46 : decode cX9_leg 46 = .ok (.iload_n 1, 1) := by decide +kernel
theorem dX9_leg_47 : decode cX9_leg 47 = .ok (.bipush 6, 2) := by decide +kernel
theorem dX9_leg_49 : decode cX9_leg 49 = .ok (.invokevirtual 185, 3) := by decide +kernel
theorem dX9_leg_52 : decode cX9_leg 52 = .ok (.if_icmp .ge 72, 3) := by decide +kernel
theorem dX9_leg_55 : decode cX9_leg 55 = .ok (.aload_n 0, 1) := by decide +kernel
theorem dX9_leg_56 : decode cX9_leg 56 = .ok (.iload_n 1, 1) := by decide +kernel
theorem dX9_leg_57 : decode cX9_leg 57 = .ok (.bipush 7, 2) := by decide +kernel
theorem dX9_leg_59 : decode cX9_leg 59 = .ok (.iconst 3, 1) := by decide +kernel
theorem dX9_leg_60 : decode cX9_leg 60 = .ok (.iload 4, 2) := by decide +kernel
theorem dX9_leg_62 : decode cX9_leg 62 = .ok (.imul, 1) := by decide +kernel
theorem dX9_leg_63 : decode cX9_leg 63 = .ok (.iadd, 1) := by decide +kernel
theorem dX9_leg_64 : decode cX9_leg 64 = .ok (.invokevirtual 185, 3) := by decide +kernel
theorem dX9_leg_67 : decode cX9_leg 67 = .ok (.istore 5, 2) := by decide +kernel
theorem dX9_leg_69 : decode cX9_leg 69 = .ok (.iload_n 3, 1) := by decide +kernel
theorem dX9_leg_70 : decode cX9_leg 70 = .ok (.iload_n 2, 1) := by decide +kernel
theorem dX9_leg_71 : decode cX9_leg 71 = .ok (.bipush 6, 2) := by decide +kernel
theorem dX9_leg_73 : decode cX9_leg 73 = .ok (.if_icmp .ne 8, 3) := by decide +kernel
theorem dX9_leg_76 : decode cX9_leg 76 = .ok (.iload 5, 2) := by decide +kernel
theorem dX9_leg_78 : decode cX9_leg 78 = .ok (.ifCond .eq 33, 3) := by decide +kernel
theorem dX9_leg_81 : decode cX9_leg 81 = .ok (.iload_n 2, 1) := by decide +kernel
theorem dX9_leg_82 : decode cX9_leg 82 = .ok (.bipush 7, 2) := by decide +kernel
theorem dX9_leg_84 : decode cX9_leg 84 = .ok (.if_icmp .ne 9, 3) := by decide +kernel
theorem dX9_leg_87 : decode cX9_leg 87 = .ok (.iload 5, 2) := by decide +kernel
theorem dX9_leg_89 : decode cX9_leg 89 = .ok (.iconst 3, 1) := by decide +kernel
theorem dX9_leg_90 : decode cX9_leg 90 = .ok (.if_icmp .eq 21, 3) := by decide +kernel
theorem dX9_leg_93 : decode cX9_leg 93 = .ok (.iload_n 2, 1) := by decide +kernel
theorem dX9_leg_94 : decode cX9_leg 94 = .ok (.bipush 8, 2) := by decide +kernel
theorem dX9_leg_96 : decode cX9_leg 96 = .ok (.if_icmp .ne 19, 3) := by decide +kernel
theorem dX9_leg_99 : decode cX9_leg 99 = .ok (.iload 5, 2) := by decide +kernel
theorem dX9_leg_101 : decode cX9_leg 101 = .ok (.iconst 1, 1) := by decide +kernel
theorem dX9_leg_102 : decode cX9_leg 102 = .ok (.if_icmp .eq 9, 3) := by decide +kernel
theorem dX9_leg_105 : decode cX9_leg 105 = .ok (.iload 5, 2) := by decide +kernel
theorem dX9_leg_107 : decode cX9_leg 107 = .ok (.iconst 2, 1) := by decide +kernel
theorem dX9_leg_108 : decode cX9_leg 108 = .ok (.if_icmp .ne 7, 3) := by decide +kernel
theorem dX9_leg_111 : decode cX9_leg 111 = .ok (.iconst 1, 1) := by decide +kernel
theorem dX9_leg_112 : decode cX9_leg 112 = .ok (.goto 4, 3) := by decide +kernel
theorem dX9_leg_115 : decode cX9_leg 115 = .ok (.iconst 0, 1) := by decide +kernel
theorem dX9_leg_116 : decode cX9_leg 116 = .ok (.iadd, 1) := by decide +kernel
theorem dX9_leg_117 : decode cX9_leg 117 = .ok (.istore_n 3, 1) := by decide +kernel
theorem dX9_leg_118 : decode cX9_leg 118 = .ok (.iinc 4 1, 3) := by decide +kernel
theorem dX9_leg_121 : decode cX9_leg 121 = .ok (.goto (-78), 3) := by decide +kernel
theorem dX9_leg_124 : decode cX9_leg 124 = .ok (.iload_n 2, 1) := by decide +kernel
theorem dX9_leg_125 : decode cX9_leg 125 = .ok (.bipush 8, 2) := by decide +kernel
theorem dX9_leg_127 : decode cX9_leg 127 = .ok (.if_icmp .le 63, 3) := by decide +kernel
theorem dX9_leg_130 : decode cX9_leg 130 = .ok (.aload_n 0, 1) := by decide +kernel
theorem dX9_leg_131 : decode cX9_leg 131 = .ok (.iload_n 1, 1) := by decide +kernel
theorem dX9_leg_132 : decode cX9_leg 132 = .ok (.invokevirtual 294, 3) := by decide +kernel
theorem dX9_leg_135 : decode cX9_leg 135 = .ok (.iconst 0, 1) := by decide +kernel
theorem dX9_leg_136 : decode cX9_leg 136 = .ok (.istore 4, 2) := by decide +kernel
theorem dX9_leg_138 : decode cX9_leg 138 = .ok (.iload 4, 2) := by decide +kernel
theorem dX9_leg_140 : decode cX9_leg 140 = .ok (.aload_n 0, 1) := by decide +kernel
theorem dX9_leg_141 : decode cX9_leg 141 = .ok (.iload_n 1, 1) := by decide +kernel
theorem dX9_leg_142 : decode cX9_leg 142 = .ok (.iconst 3, 1) := by decide +kernel
theorem dX9_leg_143 : decode cX9_leg 143 = .ok (.invokevirtual 185, 3) := by decide +kernel
theorem dX9_leg_146 : decode cX9_leg 146 = .ok (.if_icmp .ge 44, 3) := by decide +kernel
theorem dX9_leg_149 : decode cX9_leg 149 = .ok (.iload_n 3, 1) := by decide +kernel
theorem dX9_leg_150 : decode cX9_leg 150 = .ok (.aload_n 0, 1) := by decide +kernel
theorem dX9_leg_151 : decode cX9_leg 151 = .ok (.getfield 30, 3) := by decide +kernel
theorem dX9_leg_154 : decode cX9_leg 154 = .ok (.iload 4, 2) := by decide +kernel
theorem dX9_leg_156 : decode cX9_leg 156 = .ok (.iaload, 1) := by decide +kernel
theorem dX9_leg_157 : decode cX9_leg 157 = .ok (.iconst 1, 1) := by decide +kernel
theorem dX9_leg_158 : decode cX9_leg 158 = .ok (.if_icmp .eq 19, 3) := by decide +kernel
theorem dX9_leg_161 : decode cX9_leg 161 = .ok (.iload_n 2, 1) := by decide +kernel
theorem dX9_leg_162 : decode cX9_leg 162 = .ok (.bipush 9, 2) := by decide +kernel
theorem dX9_leg_164 : decode cX9_leg 164 = .ok (.if_icmp .ne 17, 3) := by decide +kernel
theorem dX9_leg_167 : decode cX9_leg 167 = .ok (.aload_n 0, 1) := by decide +kernel
theorem dX9_leg_168 : decode cX9_leg 168 = .ok (.getfield 30, 3) := by decide +kernel
theorem dX9_leg_171 : decode cX9_leg 171 = .ok (.iload 4, 2) := by decide +kernel
theorem dX9_leg_173 : decode cX9_leg 173 = .ok (.iaload, 1) := by decide +kernel
theorem dX9_leg_174 : decode cX9_leg 174 = .ok (.ifCond .ne 7, 3) := by decide +kernel
theorem dX9_leg_177 : decode cX9_leg 177 = .ok (.iconst 1, 1) := by decide +kernel
theorem dX9_leg_178 : decode cX9_leg 178 = .ok (.goto 4, 3) := by decide +kernel
theorem dX9_leg_181 : decode cX9_leg 181 = .ok (.iconst 0, 1) := by decide +kernel
theorem dX9_leg_182 : decode cX9_leg 182 = .ok (.iadd, 1) := by decide +kernel
theorem dX9_leg_183 : decode cX9_leg 183 = .ok (.istore_n 3, 1) := by decide +kernel
theorem dX9_leg_184 : decode cX9_leg 184 = .ok (.iinc 4 1, 3) := by decide +kernel
theorem dX9_leg_187 : decode cX9_leg 187 = .ok (.goto (-49), 3) := by decide +kernel
theorem dX9_leg_190 : decode cX9_leg 190 = .ok (.iload_n 3, 1) := by decide +kernel
theorem dX9_leg_191 : decode cX9_leg 191 = .ok (.ireturn, 1) := by decide +kernel
abbrev rmX9_leg : Room := { frames := 7, cells := 0, slots := 0, locals := 162 }
theorem inX9_leg_9 : ∀ w ∈ wsX90, w ∈ wsX9_leg := by decide +kernel
def vX9_leg_c138 (J : Nat → Int64) (al : Nat → Int32) (p1 : Int32) (p2 : Int32) (Q : Int32 → (Nat → Int32) → (Nat → Int32) → (Nat → Int32) → Prop) : Nat → Int32 → Int32 → (Nat → Int32) → (Nat → Int32) → (Nat → Int32) → Prop
  | 0, _, _, _, _, _ => False
  | n + 1, x3, x4, F, he, ma => (∃ (p_143 : Nat) (w_143 : Nat), preX9_ofLeg p_143 w_143 F J al p1 (3 : Int32) ∧ (∀ r_143 : Int32, postX9_ofLeg p_143 w_143 F J al p1 (3 : Int32) r_143 → ((r_143 ≤ x4 → (Q x3 F he ma)) ∧ (¬ r_143 ≤ x4 → (vp_in x4 200 ∧ (((he x4.toNatClampNeg) = (1 : Int32) → (vX9_leg_c138 J al p1 p2 Q n (x3 + (1 : Int32)) (x4 + (1 : Int32)) F he ma)) ∧ (¬ (he x4.toNatClampNeg) = (1 : Int32) → ((¬ p2 = (9 : Int32) → (vX9_leg_c138 J al p1 p2 Q n (x3 + (0 : Int32)) (x4 + (1 : Int32)) F he ma)) ∧ (p2 = (9 : Int32) → (vp_in x4 200 ∧ ((¬ (he x4.toNatClampNeg) = 0 → (vX9_leg_c138 J al p1 p2 Q n (x3 + (0 : Int32)) (x4 + (1 : Int32)) F he ma)) ∧ ((he x4.toNatClampNeg) = 0 → (vX9_leg_c138 J al p1 p2 Q n (x3 + (1 : Int32)) (x4 + (1 : Int32)) F he ma)))))))))))))
set_option maxHeartbeats 4000000 in
set_option maxRecDepth 100000 in
theorem kX9_leg_c138 {p : Program} {l : Launch} {e : Env} {s : State} {m : MethodId} {args : Array Value} {below : List Frame} {meth : Method} {c : Code} {g : GP} {qM : Nat} {q1 : Nat} {q2 : Nat} {q3 : Nat} {q4 : Nat} {q5 : Nat} {q6 : Nat} {q7 : Nat} {q8 : Nat} {q9 : Nat} {q10 : Nat} {q11 : Nat} {J : Nat → Int64} {al : Nat → Int32} {p1 : Int32} {p2 : Int32} {Q : Int32 → (Nat → Int32) → (Nat → Int32) → (Nat → Int32) → Prop} {A : Nat → Prop} (S : CallFix p m c cX9_leg 6 s args wsX9_leg RX9) (hr : meth.sig.returnType = (some .int)) (hlocks : meth.locks = false) (hG : GK g s) (hA : ∀ q : Nat, s.heap.size ≤ q → A q) : ∀ (n : Nat), ∀ (x3 : Int32) (x4 : Int32) (F : Nat → Int32) (he : Nat → Int32) (ma : Nat → Int32), vX9_leg_c138 J al p1 p2 Q n x3 x4 F he ma → ∀ (H : Heap) (locs : List Loc), va_P g.1 vwCl [(qM, .inr (9, [.int (F 0), .ref q1, .ref q2, .ref q3, .int (F 4), .int (F 5), .int (F 6), .int (F 7), .int (F 8), .int (F 9), .long (J 10), .int (F 11), .int (F 12), .int (F 13), .ref q4, .int (F 15), .ref q5, .ref q6, .ref q7, .int (F 19), .ref q8, .int (F 21), .int (F 22), .int (F 23), .int (F 24), .ref q9, .ref q10, .ref q11, .long (J 28)])), (q1, .inl (g.2 0, 376, .inl al)), (q7, .inl (g.2 0, 200, .inl he)), (q8, .inl (g.2 0, 65, .inl ma))] H → va_D A [(qM, .inr (9, [.int (F 0), .ref q1, .ref q2, .ref q3, .int (F 4), .int (F 5), .int (F 6), .int (F 7), .int (F 8), .int (F 9), .long (J 10), .int (F 11), .int (F 12), .int (F 13), .ref q4, .int (F 15), .ref q5, .ref q6, .ref q7, .int (F 19), .ref q8, .int (F 21), .int (F 22), .int (F 23), .int (F 24), .ref q9, .ref q10, .ref q11, .long (J 28)])), (q1, .inl (g.2 0, 376, .inl al)), (q7, .inl (g.2 0, 200, .inl he)), (q8, .inl (g.2 0, 65, .inl ma))] → va_S A s.heap H locs → ∀ (ls : Array Slot), lv_has ls 6 [(0, .ref qM), (1, .int p1), (2, .int p2), (3, .int x3), (4, .int x4)] → W p l e (headSpec wsX9_leg rmX9_leg).room s m args below meth c H locs 0 0 (MQ below (va_Qi (fun (r : Int32) (u : (Nat → Int32) × (Nat → Int32) × (Nat → Int32)) => Q r u.1 u.2.1 u.2.2) (fun (u : (Nat → Int32) × (Nat → Int32) × (Nat → Int32)) t => va_P g.1 vwCl [(qM, .inr (9, [.int (u.1 0), .ref q1, .ref q2, .ref q3, .int (u.1 4), .int (u.1 5), .int (u.1 6), .int (u.1 7), .int (u.1 8), .int (u.1 9), .long (J 10), .int (u.1 11), .int (u.1 12), .int (u.1 13), .ref q4, .int (u.1 15), .ref q5, .ref q6, .ref q7, .int (u.1 19), .ref q8, .int (u.1 21), .int (u.1 22), .int (u.1 23), .int (u.1 24), .ref q9, .ref q10, .ref q11, .long (J 28)])), (q1, .inl (g.2 0, 376, .inl al)), (q7, .inl (g.2 0, 200, .inl u.2.1)), (q8, .inl (g.2 0, 65, .inl u.2.2))] t.heap ∧ va_D A [(qM, .inr (9, [.int (u.1 0), .ref q1, .ref q2, .ref q3, .int (u.1 4), .int (u.1 5), .int (u.1 6), .int (u.1 7), .int (u.1 8), .int (u.1 9), .long (J 10), .int (u.1 11), .int (u.1 12), .int (u.1 13), .ref q4, .int (u.1 15), .ref q5, .ref q6, .ref q7, .int (u.1 19), .ref q8, .int (u.1 21), .int (u.1 22), .int (u.1 23), .int (u.1 24), .ref q9, .ref q10, .ref q11, .long (J 28)])), (q1, .inl (g.2 0, 376, .inl al)), (q7, .inl (g.2 0, 200, .inl u.2.1)), (q8, .inl (g.2 0, 65, .inl u.2.2))]) A) args s 0 0 A) (F0 m 138 ls []) := by
  obtain ⟨hx, hb, hml, hown, hts⟩ := id S
  have hK := hG.1
  intro n
  induction n with
  | zero => intro x3 x4 F he ma hv; exact hv.elim
  | succ n ih =>
    intro x3 x4 F he ma hv H locs hP hD hS ls hl
    refine lv_iload hx hb dX9_leg_138 (lv_at hl 4 rfl) ?_
    refine lv_aload_n hx hb dX9_leg_140 rfl (lv_at hl 0 rfl) ?_
    refine lv_iload_n hx hb dX9_leg_141 rfl (lv_at hl 1 rfl) ?_
    refine lv_iconst (v := (3 : Int32)) hx hb dX9_leg_142 (by decide) ?_
    obtain ⟨p_143, w_143, ho_1, hv⟩ := hv
    refine vp_callSi (W.runV (As := [.int p1, .int (3 : Int32)]) (rest := [.int x4]) S (wX9_ofLeg l g qM q1 q2 q3 q4 q5 q6 q7 q8 q9 q10 q11 F J al p1 (3 : Int32) (sX9_ofLeg p_143 w_143 F J al p1 (3 : Int32) ho_1)) (cwV 2 hts gX9_leg_X9_ofLeg rfl rfl rfl (by decide +kernel) ⟨Nat.le_of_ble_eq_true rfl, Nat.le_of_ble_eq_true rfl⟩) ⟨blindRO, va_recv hK hP (ci := 9) (q0 := 0) rfl rfl, fun U hU hW => ⟨rfl, by rw [hU]; exact hP.sub (ws' := [(qM, .inr (9, [.int (F 0), .ref q1, .ref q2, .ref q3, .int (F 4), .int (F 5), .int (F 6), .int (F 7), .int (F 8), .int (F 9), .long (J 10), .int (F 11), .int (F 12), .int (F 13), .ref q4, .int (F 15), .ref q5, .ref q6, .ref q7, .int (F 19), .ref q8, .int (F 21), .int (F 22), .int (F 23), .int (F 24), .ref q9, .ref q10, .ref q11, .long (J 28)])), (q1, .inl (g.2 0, 376, .inl al))]) [0, 1] rfl, hG.warm hW⟩⟩ rfl rfl hl.1 rfl (lv_room (Nat.le_of_ble_eq_true rfl)) dX9_leg_143 ⟨Nat.le_of_ble_eq_true rfl, Nat.le_of_ble_eq_true rfl⟩) (fun r_143 hr_143 => ?_)
    have hv := hv r_143 hr_143
    obtain ⟨hvt, hvf⟩ := hv
    refine lv_icmp_ge (tgt := 190) hx hb dX9_leg_146 (by decide) (fun hc => ?_) (fun hc => ?_)
    · have hv := hvt hc
      refine lv_iload_n hx hb dX9_leg_190 rfl (lv_at hl 3 rfl) ?_
      have hP9 := hP.sub (ws' := [(qM, .inr (9, [.int (F 0), .ref q1, .ref q2, .ref q3, .int (F 4), .int (F 5), .int (F 6), .int (F 7), .int (F 8), .int (F 9), .long (J 10), .int (F 11), .int (F 12), .int (F 13), .ref q4, .int (F 15), .ref q5, .ref q6, .ref q7, .int (F 19), .ref q8, .int (F 21), .int (F 22), .int (F 23), .int (F 24), .ref q9, .ref q10, .ref q11, .long (J 28)])), (q1, .inl (g.2 0, 376, .inl al)), (q7, .inl (g.2 0, 200, .inl he)), (q8, .inl (g.2 0, 65, .inl ma))]) [0, 1, 2, 3] rfl
      have hD9 := hD.sub (ws' := [(qM, .inr (9, [.int (F 0), .ref q1, .ref q2, .ref q3, .int (F 4), .int (F 5), .int (F 6), .int (F 7), .int (F 8), .int (F 9), .long (J 10), .int (F 11), .int (F 12), .int (F 13), .ref q4, .int (F 15), .ref q5, .ref q6, .ref q7, .int (F 19), .ref q8, .int (F 21), .int (F 22), .int (F 23), .int (F 24), .ref q9, .ref q10, .ref q11, .long (J 28)])), (q1, .inl (g.2 0, 376, .inl al)), (q7, .inl (g.2 0, 200, .inl he)), (q8, .inl (g.2 0, 65, .inl ma))]) [0, 1, 2, 3] (by decide) rfl
      exact W.iret (v := x3) hx hb hr (fun t ht hW => ⟨⟨_, (F, he, ma), rfl, hv, by rw [ht]; exact hP9, hD9⟩, hS.F ht⟩) hS.2.2 dX9_leg_191
    · have hv := hvf hc
      refine lv_iload_n hx hb dX9_leg_149 rfl (lv_at hl 3 rfl) ?_
      refine lv_aload_n hx hb dX9_leg_150 rfl (lv_at hl 0 rfl) ?_
      refine va_get (D := g.1) (ci := 9) (v := .ref q7) (C := RX9) (T := TX9) (N := 29) hx hb hts inX9_leg_9 hown hK hP 0 rfl rfl 18 (by decide) (hts (.fieldLink RX9 30 "RangeCodesModel" "heard" "[I") (List.mem_of_getElem? (i := 2) rfl)) (fun _ h9 => h9) rfl dX9_leg_151 ?_
      refine lv_iload hx hb dX9_leg_154 (lv_at hl 4 rfl) ?_
      obtain ⟨ho_2, hv⟩ := hv
      refine va_iald hx hb hK hP 2 0 rfl rfl ho_2 dX9_leg_156 ?_
      refine lv_iconst (v := (1 : Int32)) hx hb dX9_leg_157 (by decide) ?_
      obtain ⟨hvt, hvf⟩ := hv
      refine lv_icmp_eq (tgt := 177) hx hb dX9_leg_158 (by decide) (fun hc => ?_) (fun hc => ?_)
      · have hv := hvt hc
        refine lv_iconst (v := (1 : Int32)) hx hb dX9_leg_177 (by decide) ?_
        refine lv_goto (tgt := 182) hx hb dX9_leg_178 (by decide) ?_
        refine lv_iadd hx hb dX9_leg_182 ?_
        refine lv_istore_n (lv' := [(3, .int (x3 + (1 : Int32))), (0, .ref qM), (1, .int p1), (2, .int p2), (4, .int x4)]) hx hb dX9_leg_183 rfl hl (by decide) rfl (fun ls hl => ?_)
        refine lv_iinc (v := (x4 + (1 : Int32))) (lv' := [(4, .int (x4 + (1 : Int32))), (3, .int (x3 + (1 : Int32))), (0, .ref qM), (1, .int p1), (2, .int p2)]) hx hb dX9_leg_184 hl (k := 4) rfl rfl (by decide) rfl (fun ls hl => ?_)
        refine lv_goto (tgt := 138) hx hb dX9_leg_187 (by decide) ?_
        exact ih _ _ _ _ _ hv _ _ (hP.sub (ws' := [(qM, .inr (9, [.int (F 0), .ref q1, .ref q2, .ref q3, .int (F 4), .int (F 5), .int (F 6), .int (F 7), .int (F 8), .int (F 9), .long (J 10), .int (F 11), .int (F 12), .int (F 13), .ref q4, .int (F 15), .ref q5, .ref q6, .ref q7, .int (F 19), .ref q8, .int (F 21), .int (F 22), .int (F 23), .int (F 24), .ref q9, .ref q10, .ref q11, .long (J 28)])), (q1, .inl (g.2 0, 376, .inl al)), (q7, .inl (g.2 0, 200, .inl he)), (q8, .inl (g.2 0, 65, .inl ma))]) [0, 1, 2, 3] rfl) (hD.sub (ws' := [(qM, .inr (9, [.int (F 0), .ref q1, .ref q2, .ref q3, .int (F 4), .int (F 5), .int (F 6), .int (F 7), .int (F 8), .int (F 9), .long (J 10), .int (F 11), .int (F 12), .int (F 13), .ref q4, .int (F 15), .ref q5, .ref q6, .ref q7, .int (F 19), .ref q8, .int (F 21), .int (F 22), .int (F 23), .int (F 24), .ref q9, .ref q10, .ref q11, .long (J 28)])), (q1, .inl (g.2 0, 376, .inl al)), (q7, .inl (g.2 0, 200, .inl he)), (q8, .inl (g.2 0, 65, .inl ma))]) [0, 1, 2, 3] (by decide) rfl) hS ls (lv_sub hl [2, 3, 4, 1, 0] rfl)
      · have hv := hvf hc
        refine lv_iload_n hx hb dX9_leg_161 rfl (lv_at hl 2 rfl) ?_
        refine lv_bipush (v := (9 : Int32)) hx hb dX9_leg_162 (by decide) ?_
        obtain ⟨hvt, hvf⟩ := hv
        refine lv_icmp_ne (tgt := 181) hx hb dX9_leg_164 (by decide) (fun hc => ?_) (fun hc => ?_)
        · have hv := hvt hc
          refine lv_iconst (v := (0 : Int32)) hx hb dX9_leg_181 (by decide) ?_
          refine lv_iadd hx hb dX9_leg_182 ?_
          refine lv_istore_n (lv' := [(3, .int (x3 + (0 : Int32))), (0, .ref qM), (1, .int p1), (2, .int p2), (4, .int x4)]) hx hb dX9_leg_183 rfl hl (by decide) rfl (fun ls hl => ?_)
          refine lv_iinc (v := (x4 + (1 : Int32))) (lv' := [(4, .int (x4 + (1 : Int32))), (3, .int (x3 + (0 : Int32))), (0, .ref qM), (1, .int p1), (2, .int p2)]) hx hb dX9_leg_184 hl (k := 4) rfl rfl (by decide) rfl (fun ls hl => ?_)
          refine lv_goto (tgt := 138) hx hb dX9_leg_187 (by decide) ?_
          exact ih _ _ _ _ _ hv _ _ (hP.sub (ws' := [(qM, .inr (9, [.int (F 0), .ref q1, .ref q2, .ref q3, .int (F 4), .int (F 5), .int (F 6), .int (F 7), .int (F 8), .int (F 9), .long (J 10), .int (F 11), .int (F 12), .int (F 13), .ref q4, .int (F 15), .ref q5, .ref q6, .ref q7, .int (F 19), .ref q8, .int (F 21), .int (F 22), .int (F 23), .int (F 24), .ref q9, .ref q10, .ref q11, .long (J 28)])), (q1, .inl (g.2 0, 376, .inl al)), (q7, .inl (g.2 0, 200, .inl he)), (q8, .inl (g.2 0, 65, .inl ma))]) [0, 1, 2, 3] rfl) (hD.sub (ws' := [(qM, .inr (9, [.int (F 0), .ref q1, .ref q2, .ref q3, .int (F 4), .int (F 5), .int (F 6), .int (F 7), .int (F 8), .int (F 9), .long (J 10), .int (F 11), .int (F 12), .int (F 13), .ref q4, .int (F 15), .ref q5, .ref q6, .ref q7, .int (F 19), .ref q8, .int (F 21), .int (F 22), .int (F 23), .int (F 24), .ref q9, .ref q10, .ref q11, .long (J 28)])), (q1, .inl (g.2 0, 376, .inl al)), (q7, .inl (g.2 0, 200, .inl he)), (q8, .inl (g.2 0, 65, .inl ma))]) [0, 1, 2, 3] (by decide) rfl) hS ls (lv_sub hl [2, 3, 4, 1, 0] rfl)
        · have hv := hvf hc
          refine lv_aload_n hx hb dX9_leg_167 rfl (lv_at hl 0 rfl) ?_
          refine va_get (D := g.1) (ci := 9) (v := .ref q7) (C := RX9) (T := TX9) (N := 29) hx hb hts inX9_leg_9 hown hK hP 0 rfl rfl 18 (by decide) (hts (.fieldLink RX9 30 "RangeCodesModel" "heard" "[I") (List.mem_of_getElem? (i := 2) rfl)) (fun _ h9 => h9) rfl dX9_leg_168 ?_
          refine lv_iload hx hb dX9_leg_171 (lv_at hl 4 rfl) ?_
          obtain ⟨ho_3, hv⟩ := hv
          refine va_iald hx hb hK hP 2 0 rfl rfl ho_3 dX9_leg_173 ?_
          obtain ⟨hvt, hvf⟩ := hv
          refine lv_if_ne (tgt := 181) hx hb dX9_leg_174 (by decide) (fun hc => ?_) (fun hc => ?_)
          · have hv := hvt hc
            refine lv_iconst (v := (0 : Int32)) hx hb dX9_leg_181 (by decide) ?_
            refine lv_iadd hx hb dX9_leg_182 ?_
            refine lv_istore_n (lv' := [(3, .int (x3 + (0 : Int32))), (0, .ref qM), (1, .int p1), (2, .int p2), (4, .int x4)]) hx hb dX9_leg_183 rfl hl (by decide) rfl (fun ls hl => ?_)
            refine lv_iinc (v := (x4 + (1 : Int32))) (lv' := [(4, .int (x4 + (1 : Int32))), (3, .int (x3 + (0 : Int32))), (0, .ref qM), (1, .int p1), (2, .int p2)]) hx hb dX9_leg_184 hl (k := 4) rfl rfl (by decide) rfl (fun ls hl => ?_)
            refine lv_goto (tgt := 138) hx hb dX9_leg_187 (by decide) ?_
            exact ih _ _ _ _ _ hv _ _ (hP.sub (ws' := [(qM, .inr (9, [.int (F 0), .ref q1, .ref q2, .ref q3, .int (F 4), .int (F 5), .int (F 6), .int (F 7), .int (F 8), .int (F 9), .long (J 10), .int (F 11), .int (F 12), .int (F 13), .ref q4, .int (F 15), .ref q5, .ref q6, .ref q7, .int (F 19), .ref q8, .int (F 21), .int (F 22), .int (F 23), .int (F 24), .ref q9, .ref q10, .ref q11, .long (J 28)])), (q1, .inl (g.2 0, 376, .inl al)), (q7, .inl (g.2 0, 200, .inl he)), (q8, .inl (g.2 0, 65, .inl ma))]) [0, 1, 2, 3] rfl) (hD.sub (ws' := [(qM, .inr (9, [.int (F 0), .ref q1, .ref q2, .ref q3, .int (F 4), .int (F 5), .int (F 6), .int (F 7), .int (F 8), .int (F 9), .long (J 10), .int (F 11), .int (F 12), .int (F 13), .ref q4, .int (F 15), .ref q5, .ref q6, .ref q7, .int (F 19), .ref q8, .int (F 21), .int (F 22), .int (F 23), .int (F 24), .ref q9, .ref q10, .ref q11, .long (J 28)])), (q1, .inl (g.2 0, 376, .inl al)), (q7, .inl (g.2 0, 200, .inl he)), (q8, .inl (g.2 0, 65, .inl ma))]) [0, 1, 2, 3] (by decide) rfl) hS ls (lv_sub hl [2, 3, 4, 1, 0] rfl)
          · have hv := hvf hc
            refine lv_iconst (v := (1 : Int32)) hx hb dX9_leg_177 (by decide) ?_
            refine lv_goto (tgt := 182) hx hb dX9_leg_178 (by decide) ?_
            refine lv_iadd hx hb dX9_leg_182 ?_
            refine lv_istore_n (lv' := [(3, .int (x3 + (1 : Int32))), (0, .ref qM), (1, .int p1), (2, .int p2), (4, .int x4)]) hx hb dX9_leg_183 rfl hl (by decide) rfl (fun ls hl => ?_)
            refine lv_iinc (v := (x4 + (1 : Int32))) (lv' := [(4, .int (x4 + (1 : Int32))), (3, .int (x3 + (1 : Int32))), (0, .ref qM), (1, .int p1), (2, .int p2)]) hx hb dX9_leg_184 hl (k := 4) rfl rfl (by decide) rfl (fun ls hl => ?_)
            refine lv_goto (tgt := 138) hx hb dX9_leg_187 (by decide) ?_
            exact ih _ _ _ _ _ hv _ _ (hP.sub (ws' := [(qM, .inr (9, [.int (F 0), .ref q1, .ref q2, .ref q3, .int (F 4), .int (F 5), .int (F 6), .int (F 7), .int (F 8), .int (F 9), .long (J 10), .int (F 11), .int (F 12), .int (F 13), .ref q4, .int (F 15), .ref q5, .ref q6, .ref q7, .int (F 19), .ref q8, .int (F 21), .int (F 22), .int (F 23), .int (F 24), .ref q9, .ref q10, .ref q11, .long (J 28)])), (q1, .inl (g.2 0, 376, .inl al)), (q7, .inl (g.2 0, 200, .inl he)), (q8, .inl (g.2 0, 65, .inl ma))]) [0, 1, 2, 3] rfl) (hD.sub (ws' := [(qM, .inr (9, [.int (F 0), .ref q1, .ref q2, .ref q3, .int (F 4), .int (F 5), .int (F 6), .int (F 7), .int (F 8), .int (F 9), .long (J 10), .int (F 11), .int (F 12), .int (F 13), .ref q4, .int (F 15), .ref q5, .ref q6, .ref q7, .int (F 19), .ref q8, .int (F 21), .int (F 22), .int (F 23), .int (F 24), .ref q9, .ref q10, .ref q11, .long (J 28)])), (q1, .inl (g.2 0, 376, .inl al)), (q7, .inl (g.2 0, 200, .inl he)), (q8, .inl (g.2 0, 65, .inl ma))]) [0, 1, 2, 3] (by decide) rfl) hS ls (lv_sub hl [2, 3, 4, 1, 0] rfl)
def vX9_leg_c93 (J : Nat → Int64) (al : Nat → Int32) (p1 : Int32) (p2 : Int32) (Q : Int32 → (Nat → Int32) → (Nat → Int32) → (Nat → Int32) → Prop) (K43 : Int32 → Int32 → (Nat → Int32) → (Nat → Int32) → (Nat → Int32) → Prop) (x4 : Int32) (x5 : Int32) (s0 : Int32) (F : Nat → Int32) (he : Nat → Int32) (ma : Nat → Int32) : Prop := ((¬ p2 = (8 : Int32) → (K43 (s0 + (0 : Int32)) (x4 + (1 : Int32)) F he ma)) ∧ (p2 = (8 : Int32) → ((x5 = (1 : Int32) → (K43 (s0 + (1 : Int32)) (x4 + (1 : Int32)) F he ma)) ∧ (¬ x5 = (1 : Int32) → ((¬ x5 = (2 : Int32) → (K43 (s0 + (0 : Int32)) (x4 + (1 : Int32)) F he ma)) ∧ (x5 = (2 : Int32) → (K43 (s0 + (1 : Int32)) (x4 + (1 : Int32)) F he ma)))))))
set_option maxHeartbeats 4000000 in
set_option maxRecDepth 100000 in
theorem kX9_leg_c93 {p : Program} {l : Launch} {e : Env} {s : State} {m : MethodId} {args : Array Value} {below : List Frame} {meth : Method} {c : Code} {g : GP} {qM : Nat} {q1 : Nat} {q2 : Nat} {q3 : Nat} {q4 : Nat} {q5 : Nat} {q6 : Nat} {q7 : Nat} {q8 : Nat} {q9 : Nat} {q10 : Nat} {q11 : Nat} {J : Nat → Int64} {al : Nat → Int32} {p1 : Int32} {p2 : Int32} {Q : Int32 → (Nat → Int32) → (Nat → Int32) → (Nat → Int32) → Prop} {A : Nat → Prop} {K43 : Int32 → Int32 → (Nat → Int32) → (Nat → Int32) → (Nat → Int32) → Prop} (S : CallFix p m c cX9_leg 6 s args wsX9_leg RX9) (hr : meth.sig.returnType = (some .int)) (hlocks : meth.locks = false) (hG : GK g s) (hA : ∀ q : Nat, s.heap.size ≤ q → A q) (kk43 : ∀ (x3 : Int32) (x4 : Int32) (F : Nat → Int32) (he : Nat → Int32) (ma : Nat → Int32), K43 x3 x4 F he ma → ∀ (H : Heap) (locs : List Loc), va_P g.1 vwCl [(qM, .inr (9, [.int (F 0), .ref q1, .ref q2, .ref q3, .int (F 4), .int (F 5), .int (F 6), .int (F 7), .int (F 8), .int (F 9), .long (J 10), .int (F 11), .int (F 12), .int (F 13), .ref q4, .int (F 15), .ref q5, .ref q6, .ref q7, .int (F 19), .ref q8, .int (F 21), .int (F 22), .int (F 23), .int (F 24), .ref q9, .ref q10, .ref q11, .long (J 28)])), (q1, .inl (g.2 0, 376, .inl al)), (q7, .inl (g.2 0, 200, .inl he)), (q8, .inl (g.2 0, 65, .inl ma))] H → va_D A [(qM, .inr (9, [.int (F 0), .ref q1, .ref q2, .ref q3, .int (F 4), .int (F 5), .int (F 6), .int (F 7), .int (F 8), .int (F 9), .long (J 10), .int (F 11), .int (F 12), .int (F 13), .ref q4, .int (F 15), .ref q5, .ref q6, .ref q7, .int (F 19), .ref q8, .int (F 21), .int (F 22), .int (F 23), .int (F 24), .ref q9, .ref q10, .ref q11, .long (J 28)])), (q1, .inl (g.2 0, 376, .inl al)), (q7, .inl (g.2 0, 200, .inl he)), (q8, .inl (g.2 0, 65, .inl ma))] → va_S A s.heap H locs → ∀ (ls : Array Slot), lv_has ls 6 [(0, .ref qM), (1, .int p1), (2, .int p2), (3, .int x3), (4, .int x4)] → W p l e (headSpec wsX9_leg rmX9_leg).room s m args below meth c H locs 0 0 (MQ below (va_Qi (fun (r : Int32) (u : (Nat → Int32) × (Nat → Int32) × (Nat → Int32)) => Q r u.1 u.2.1 u.2.2) (fun (u : (Nat → Int32) × (Nat → Int32) × (Nat → Int32)) t => va_P g.1 vwCl [(qM, .inr (9, [.int (u.1 0), .ref q1, .ref q2, .ref q3, .int (u.1 4), .int (u.1 5), .int (u.1 6), .int (u.1 7), .int (u.1 8), .int (u.1 9), .long (J 10), .int (u.1 11), .int (u.1 12), .int (u.1 13), .ref q4, .int (u.1 15), .ref q5, .ref q6, .ref q7, .int (u.1 19), .ref q8, .int (u.1 21), .int (u.1 22), .int (u.1 23), .int (u.1 24), .ref q9, .ref q10, .ref q11, .long (J 28)])), (q1, .inl (g.2 0, 376, .inl al)), (q7, .inl (g.2 0, 200, .inl u.2.1)), (q8, .inl (g.2 0, 65, .inl u.2.2))] t.heap ∧ va_D A [(qM, .inr (9, [.int (u.1 0), .ref q1, .ref q2, .ref q3, .int (u.1 4), .int (u.1 5), .int (u.1 6), .int (u.1 7), .int (u.1 8), .int (u.1 9), .long (J 10), .int (u.1 11), .int (u.1 12), .int (u.1 13), .ref q4, .int (u.1 15), .ref q5, .ref q6, .ref q7, .int (u.1 19), .ref q8, .int (u.1 21), .int (u.1 22), .int (u.1 23), .int (u.1 24), .ref q9, .ref q10, .ref q11, .long (J 28)])), (q1, .inl (g.2 0, 376, .inl al)), (q7, .inl (g.2 0, 200, .inl u.2.1)), (q8, .inl (g.2 0, 65, .inl u.2.2))]) A) args s 0 0 A) (F0 m 43 ls [])) : ∀ (x4 : Int32) (x5 : Int32) (s0 : Int32) (F : Nat → Int32) (he : Nat → Int32) (ma : Nat → Int32), vX9_leg_c93 J al p1 p2 Q K43 x4 x5 s0 F he ma → ∀ (H : Heap) (locs : List Loc), va_P g.1 vwCl [(qM, .inr (9, [.int (F 0), .ref q1, .ref q2, .ref q3, .int (F 4), .int (F 5), .int (F 6), .int (F 7), .int (F 8), .int (F 9), .long (J 10), .int (F 11), .int (F 12), .int (F 13), .ref q4, .int (F 15), .ref q5, .ref q6, .ref q7, .int (F 19), .ref q8, .int (F 21), .int (F 22), .int (F 23), .int (F 24), .ref q9, .ref q10, .ref q11, .long (J 28)])), (q1, .inl (g.2 0, 376, .inl al)), (q7, .inl (g.2 0, 200, .inl he)), (q8, .inl (g.2 0, 65, .inl ma))] H → va_D A [(qM, .inr (9, [.int (F 0), .ref q1, .ref q2, .ref q3, .int (F 4), .int (F 5), .int (F 6), .int (F 7), .int (F 8), .int (F 9), .long (J 10), .int (F 11), .int (F 12), .int (F 13), .ref q4, .int (F 15), .ref q5, .ref q6, .ref q7, .int (F 19), .ref q8, .int (F 21), .int (F 22), .int (F 23), .int (F 24), .ref q9, .ref q10, .ref q11, .long (J 28)])), (q1, .inl (g.2 0, 376, .inl al)), (q7, .inl (g.2 0, 200, .inl he)), (q8, .inl (g.2 0, 65, .inl ma))] → va_S A s.heap H locs → ∀ (ls : Array Slot), lv_has ls 6 [(0, .ref qM), (1, .int p1), (2, .int p2), (4, .int x4), (5, .int x5)] → W p l e (headSpec wsX9_leg rmX9_leg).room s m args below meth c H locs 0 0 (MQ below (va_Qi (fun (r : Int32) (u : (Nat → Int32) × (Nat → Int32) × (Nat → Int32)) => Q r u.1 u.2.1 u.2.2) (fun (u : (Nat → Int32) × (Nat → Int32) × (Nat → Int32)) t => va_P g.1 vwCl [(qM, .inr (9, [.int (u.1 0), .ref q1, .ref q2, .ref q3, .int (u.1 4), .int (u.1 5), .int (u.1 6), .int (u.1 7), .int (u.1 8), .int (u.1 9), .long (J 10), .int (u.1 11), .int (u.1 12), .int (u.1 13), .ref q4, .int (u.1 15), .ref q5, .ref q6, .ref q7, .int (u.1 19), .ref q8, .int (u.1 21), .int (u.1 22), .int (u.1 23), .int (u.1 24), .ref q9, .ref q10, .ref q11, .long (J 28)])), (q1, .inl (g.2 0, 376, .inl al)), (q7, .inl (g.2 0, 200, .inl u.2.1)), (q8, .inl (g.2 0, 65, .inl u.2.2))] t.heap ∧ va_D A [(qM, .inr (9, [.int (u.1 0), .ref q1, .ref q2, .ref q3, .int (u.1 4), .int (u.1 5), .int (u.1 6), .int (u.1 7), .int (u.1 8), .int (u.1 9), .long (J 10), .int (u.1 11), .int (u.1 12), .int (u.1 13), .ref q4, .int (u.1 15), .ref q5, .ref q6, .ref q7, .int (u.1 19), .ref q8, .int (u.1 21), .int (u.1 22), .int (u.1 23), .int (u.1 24), .ref q9, .ref q10, .ref q11, .long (J 28)])), (q1, .inl (g.2 0, 376, .inl al)), (q7, .inl (g.2 0, 200, .inl u.2.1)), (q8, .inl (g.2 0, 65, .inl u.2.2))]) A) args s 0 0 A) (F0 m 93 ls [.int s0]) := by
  obtain ⟨hx, hb, hml, hown, hts⟩ := id S
  have hK := hG.1
  intro x4 x5 s0 F he ma hv H locs hP hD hS ls hl
  unfold vX9_leg_c93 at hv
  refine lv_iload_n hx hb dX9_leg_93 rfl (lv_at hl 2 rfl) ?_
  refine lv_bipush (v := (8 : Int32)) hx hb dX9_leg_94 (by decide) ?_
  obtain ⟨hvt, hvf⟩ := hv
  refine lv_icmp_ne (tgt := 115) hx hb dX9_leg_96 (by decide) (fun hc => ?_) (fun hc => ?_)
  · have hv := hvt hc
    refine lv_iconst (v := (0 : Int32)) hx hb dX9_leg_115 (by decide) ?_
    refine lv_iadd hx hb dX9_leg_116 ?_
    refine lv_istore_n (lv' := [(3, .int (s0 + (0 : Int32))), (0, .ref qM), (1, .int p1), (2, .int p2), (4, .int x4), (5, .int x5)]) hx hb dX9_leg_117 rfl hl (by decide) rfl (fun ls hl => ?_)
    refine lv_iinc (v := (x4 + (1 : Int32))) (lv' := [(4, .int (x4 + (1 : Int32))), (3, .int (s0 + (0 : Int32))), (0, .ref qM), (1, .int p1), (2, .int p2), (5, .int x5)]) hx hb dX9_leg_118 hl (k := 4) rfl rfl (by decide) rfl (fun ls hl => ?_)
    refine lv_goto (tgt := 43) hx hb dX9_leg_121 (by decide) ?_
    exact kk43 _ _ _ _ _ hv _ _ (hP.sub (ws' := [(qM, .inr (9, [.int (F 0), .ref q1, .ref q2, .ref q3, .int (F 4), .int (F 5), .int (F 6), .int (F 7), .int (F 8), .int (F 9), .long (J 10), .int (F 11), .int (F 12), .int (F 13), .ref q4, .int (F 15), .ref q5, .ref q6, .ref q7, .int (F 19), .ref q8, .int (F 21), .int (F 22), .int (F 23), .int (F 24), .ref q9, .ref q10, .ref q11, .long (J 28)])), (q1, .inl (g.2 0, 376, .inl al)), (q7, .inl (g.2 0, 200, .inl he)), (q8, .inl (g.2 0, 65, .inl ma))]) [0, 1, 2, 3] rfl) (hD.sub (ws' := [(qM, .inr (9, [.int (F 0), .ref q1, .ref q2, .ref q3, .int (F 4), .int (F 5), .int (F 6), .int (F 7), .int (F 8), .int (F 9), .long (J 10), .int (F 11), .int (F 12), .int (F 13), .ref q4, .int (F 15), .ref q5, .ref q6, .ref q7, .int (F 19), .ref q8, .int (F 21), .int (F 22), .int (F 23), .int (F 24), .ref q9, .ref q10, .ref q11, .long (J 28)])), (q1, .inl (g.2 0, 376, .inl al)), (q7, .inl (g.2 0, 200, .inl he)), (q8, .inl (g.2 0, 65, .inl ma))]) [0, 1, 2, 3] (by decide) rfl) hS ls (lv_sub hl [2, 3, 4, 1, 0] rfl)
  · have hv := hvf hc
    refine lv_iload hx hb dX9_leg_99 (lv_at hl 4 rfl) ?_
    refine lv_iconst (v := (1 : Int32)) hx hb dX9_leg_101 (by decide) ?_
    obtain ⟨hvt, hvf⟩ := hv
    refine lv_icmp_eq (tgt := 111) hx hb dX9_leg_102 (by decide) (fun hc => ?_) (fun hc => ?_)
    · have hv := hvt hc
      refine lv_iconst (v := (1 : Int32)) hx hb dX9_leg_111 (by decide) ?_
      refine lv_goto (tgt := 116) hx hb dX9_leg_112 (by decide) ?_
      refine lv_iadd hx hb dX9_leg_116 ?_
      refine lv_istore_n (lv' := [(3, .int (s0 + (1 : Int32))), (0, .ref qM), (1, .int p1), (2, .int p2), (4, .int x4), (5, .int x5)]) hx hb dX9_leg_117 rfl hl (by decide) rfl (fun ls hl => ?_)
      refine lv_iinc (v := (x4 + (1 : Int32))) (lv' := [(4, .int (x4 + (1 : Int32))), (3, .int (s0 + (1 : Int32))), (0, .ref qM), (1, .int p1), (2, .int p2), (5, .int x5)]) hx hb dX9_leg_118 hl (k := 4) rfl rfl (by decide) rfl (fun ls hl => ?_)
      refine lv_goto (tgt := 43) hx hb dX9_leg_121 (by decide) ?_
      exact kk43 _ _ _ _ _ hv _ _ (hP.sub (ws' := [(qM, .inr (9, [.int (F 0), .ref q1, .ref q2, .ref q3, .int (F 4), .int (F 5), .int (F 6), .int (F 7), .int (F 8), .int (F 9), .long (J 10), .int (F 11), .int (F 12), .int (F 13), .ref q4, .int (F 15), .ref q5, .ref q6, .ref q7, .int (F 19), .ref q8, .int (F 21), .int (F 22), .int (F 23), .int (F 24), .ref q9, .ref q10, .ref q11, .long (J 28)])), (q1, .inl (g.2 0, 376, .inl al)), (q7, .inl (g.2 0, 200, .inl he)), (q8, .inl (g.2 0, 65, .inl ma))]) [0, 1, 2, 3] rfl) (hD.sub (ws' := [(qM, .inr (9, [.int (F 0), .ref q1, .ref q2, .ref q3, .int (F 4), .int (F 5), .int (F 6), .int (F 7), .int (F 8), .int (F 9), .long (J 10), .int (F 11), .int (F 12), .int (F 13), .ref q4, .int (F 15), .ref q5, .ref q6, .ref q7, .int (F 19), .ref q8, .int (F 21), .int (F 22), .int (F 23), .int (F 24), .ref q9, .ref q10, .ref q11, .long (J 28)])), (q1, .inl (g.2 0, 376, .inl al)), (q7, .inl (g.2 0, 200, .inl he)), (q8, .inl (g.2 0, 65, .inl ma))]) [0, 1, 2, 3] (by decide) rfl) hS ls (lv_sub hl [2, 3, 4, 1, 0] rfl)
    · have hv := hvf hc
      refine lv_iload hx hb dX9_leg_105 (lv_at hl 4 rfl) ?_
      refine lv_iconst (v := (2 : Int32)) hx hb dX9_leg_107 (by decide) ?_
      obtain ⟨hvt, hvf⟩ := hv
      refine lv_icmp_ne (tgt := 115) hx hb dX9_leg_108 (by decide) (fun hc => ?_) (fun hc => ?_)
      · have hv := hvt hc
        refine lv_iconst (v := (0 : Int32)) hx hb dX9_leg_115 (by decide) ?_
        refine lv_iadd hx hb dX9_leg_116 ?_
        refine lv_istore_n (lv' := [(3, .int (s0 + (0 : Int32))), (0, .ref qM), (1, .int p1), (2, .int p2), (4, .int x4), (5, .int x5)]) hx hb dX9_leg_117 rfl hl (by decide) rfl (fun ls hl => ?_)
        refine lv_iinc (v := (x4 + (1 : Int32))) (lv' := [(4, .int (x4 + (1 : Int32))), (3, .int (s0 + (0 : Int32))), (0, .ref qM), (1, .int p1), (2, .int p2), (5, .int x5)]) hx hb dX9_leg_118 hl (k := 4) rfl rfl (by decide) rfl (fun ls hl => ?_)
        refine lv_goto (tgt := 43) hx hb dX9_leg_121 (by decide) ?_
        exact kk43 _ _ _ _ _ hv _ _ (hP.sub (ws' := [(qM, .inr (9, [.int (F 0), .ref q1, .ref q2, .ref q3, .int (F 4), .int (F 5), .int (F 6), .int (F 7), .int (F 8), .int (F 9), .long (J 10), .int (F 11), .int (F 12), .int (F 13), .ref q4, .int (F 15), .ref q5, .ref q6, .ref q7, .int (F 19), .ref q8, .int (F 21), .int (F 22), .int (F 23), .int (F 24), .ref q9, .ref q10, .ref q11, .long (J 28)])), (q1, .inl (g.2 0, 376, .inl al)), (q7, .inl (g.2 0, 200, .inl he)), (q8, .inl (g.2 0, 65, .inl ma))]) [0, 1, 2, 3] rfl) (hD.sub (ws' := [(qM, .inr (9, [.int (F 0), .ref q1, .ref q2, .ref q3, .int (F 4), .int (F 5), .int (F 6), .int (F 7), .int (F 8), .int (F 9), .long (J 10), .int (F 11), .int (F 12), .int (F 13), .ref q4, .int (F 15), .ref q5, .ref q6, .ref q7, .int (F 19), .ref q8, .int (F 21), .int (F 22), .int (F 23), .int (F 24), .ref q9, .ref q10, .ref q11, .long (J 28)])), (q1, .inl (g.2 0, 376, .inl al)), (q7, .inl (g.2 0, 200, .inl he)), (q8, .inl (g.2 0, 65, .inl ma))]) [0, 1, 2, 3] (by decide) rfl) hS ls (lv_sub hl [2, 3, 4, 1, 0] rfl)
      · have hv := hvf hc
        refine lv_iconst (v := (1 : Int32)) hx hb dX9_leg_111 (by decide) ?_
        refine lv_goto (tgt := 116) hx hb dX9_leg_112 (by decide) ?_
        refine lv_iadd hx hb dX9_leg_116 ?_
        refine lv_istore_n (lv' := [(3, .int (s0 + (1 : Int32))), (0, .ref qM), (1, .int p1), (2, .int p2), (4, .int x4), (5, .int x5)]) hx hb dX9_leg_117 rfl hl (by decide) rfl (fun ls hl => ?_)
        refine lv_iinc (v := (x4 + (1 : Int32))) (lv' := [(4, .int (x4 + (1 : Int32))), (3, .int (s0 + (1 : Int32))), (0, .ref qM), (1, .int p1), (2, .int p2), (5, .int x5)]) hx hb dX9_leg_118 hl (k := 4) rfl rfl (by decide) rfl (fun ls hl => ?_)
        refine lv_goto (tgt := 43) hx hb dX9_leg_121 (by decide) ?_
        exact kk43 _ _ _ _ _ hv _ _ (hP.sub (ws' := [(qM, .inr (9, [.int (F 0), .ref q1, .ref q2, .ref q3, .int (F 4), .int (F 5), .int (F 6), .int (F 7), .int (F 8), .int (F 9), .long (J 10), .int (F 11), .int (F 12), .int (F 13), .ref q4, .int (F 15), .ref q5, .ref q6, .ref q7, .int (F 19), .ref q8, .int (F 21), .int (F 22), .int (F 23), .int (F 24), .ref q9, .ref q10, .ref q11, .long (J 28)])), (q1, .inl (g.2 0, 376, .inl al)), (q7, .inl (g.2 0, 200, .inl he)), (q8, .inl (g.2 0, 65, .inl ma))]) [0, 1, 2, 3] rfl) (hD.sub (ws' := [(qM, .inr (9, [.int (F 0), .ref q1, .ref q2, .ref q3, .int (F 4), .int (F 5), .int (F 6), .int (F 7), .int (F 8), .int (F 9), .long (J 10), .int (F 11), .int (F 12), .int (F 13), .ref q4, .int (F 15), .ref q5, .ref q6, .ref q7, .int (F 19), .ref q8, .int (F 21), .int (F 22), .int (F 23), .int (F 24), .ref q9, .ref q10, .ref q11, .long (J 28)])), (q1, .inl (g.2 0, 376, .inl al)), (q7, .inl (g.2 0, 200, .inl he)), (q8, .inl (g.2 0, 65, .inl ma))]) [0, 1, 2, 3] (by decide) rfl) hS ls (lv_sub hl [2, 3, 4, 1, 0] rfl)
def vX9_leg_c81 (J : Nat → Int64) (al : Nat → Int32) (p1 : Int32) (p2 : Int32) (Q : Int32 → (Nat → Int32) → (Nat → Int32) → (Nat → Int32) → Prop) (K43 : Int32 → Int32 → (Nat → Int32) → (Nat → Int32) → (Nat → Int32) → Prop) (x4 : Int32) (x5 : Int32) (s0 : Int32) (F : Nat → Int32) (he : Nat → Int32) (ma : Nat → Int32) : Prop := ((¬ p2 = (7 : Int32) → (vX9_leg_c93 J al p1 p2 Q K43 x4 x5 s0 F he ma)) ∧ (p2 = (7 : Int32) → ((x5 = (3 : Int32) → (K43 (s0 + (1 : Int32)) (x4 + (1 : Int32)) F he ma)) ∧ (¬ x5 = (3 : Int32) → (vX9_leg_c93 J al p1 p2 Q K43 x4 x5 s0 F he ma)))))
set_option maxHeartbeats 4000000 in
set_option maxRecDepth 100000 in
theorem kX9_leg_c81 {p : Program} {l : Launch} {e : Env} {s : State} {m : MethodId} {args : Array Value} {below : List Frame} {meth : Method} {c : Code} {g : GP} {qM : Nat} {q1 : Nat} {q2 : Nat} {q3 : Nat} {q4 : Nat} {q5 : Nat} {q6 : Nat} {q7 : Nat} {q8 : Nat} {q9 : Nat} {q10 : Nat} {q11 : Nat} {J : Nat → Int64} {al : Nat → Int32} {p1 : Int32} {p2 : Int32} {Q : Int32 → (Nat → Int32) → (Nat → Int32) → (Nat → Int32) → Prop} {A : Nat → Prop} {K43 : Int32 → Int32 → (Nat → Int32) → (Nat → Int32) → (Nat → Int32) → Prop} (S : CallFix p m c cX9_leg 6 s args wsX9_leg RX9) (hr : meth.sig.returnType = (some .int)) (hlocks : meth.locks = false) (hG : GK g s) (hA : ∀ q : Nat, s.heap.size ≤ q → A q) (kk43 : ∀ (x3 : Int32) (x4 : Int32) (F : Nat → Int32) (he : Nat → Int32) (ma : Nat → Int32), K43 x3 x4 F he ma → ∀ (H : Heap) (locs : List Loc), va_P g.1 vwCl [(qM, .inr (9, [.int (F 0), .ref q1, .ref q2, .ref q3, .int (F 4), .int (F 5), .int (F 6), .int (F 7), .int (F 8), .int (F 9), .long (J 10), .int (F 11), .int (F 12), .int (F 13), .ref q4, .int (F 15), .ref q5, .ref q6, .ref q7, .int (F 19), .ref q8, .int (F 21), .int (F 22), .int (F 23), .int (F 24), .ref q9, .ref q10, .ref q11, .long (J 28)])), (q1, .inl (g.2 0, 376, .inl al)), (q7, .inl (g.2 0, 200, .inl he)), (q8, .inl (g.2 0, 65, .inl ma))] H → va_D A [(qM, .inr (9, [.int (F 0), .ref q1, .ref q2, .ref q3, .int (F 4), .int (F 5), .int (F 6), .int (F 7), .int (F 8), .int (F 9), .long (J 10), .int (F 11), .int (F 12), .int (F 13), .ref q4, .int (F 15), .ref q5, .ref q6, .ref q7, .int (F 19), .ref q8, .int (F 21), .int (F 22), .int (F 23), .int (F 24), .ref q9, .ref q10, .ref q11, .long (J 28)])), (q1, .inl (g.2 0, 376, .inl al)), (q7, .inl (g.2 0, 200, .inl he)), (q8, .inl (g.2 0, 65, .inl ma))] → va_S A s.heap H locs → ∀ (ls : Array Slot), lv_has ls 6 [(0, .ref qM), (1, .int p1), (2, .int p2), (3, .int x3), (4, .int x4)] → W p l e (headSpec wsX9_leg rmX9_leg).room s m args below meth c H locs 0 0 (MQ below (va_Qi (fun (r : Int32) (u : (Nat → Int32) × (Nat → Int32) × (Nat → Int32)) => Q r u.1 u.2.1 u.2.2) (fun (u : (Nat → Int32) × (Nat → Int32) × (Nat → Int32)) t => va_P g.1 vwCl [(qM, .inr (9, [.int (u.1 0), .ref q1, .ref q2, .ref q3, .int (u.1 4), .int (u.1 5), .int (u.1 6), .int (u.1 7), .int (u.1 8), .int (u.1 9), .long (J 10), .int (u.1 11), .int (u.1 12), .int (u.1 13), .ref q4, .int (u.1 15), .ref q5, .ref q6, .ref q7, .int (u.1 19), .ref q8, .int (u.1 21), .int (u.1 22), .int (u.1 23), .int (u.1 24), .ref q9, .ref q10, .ref q11, .long (J 28)])), (q1, .inl (g.2 0, 376, .inl al)), (q7, .inl (g.2 0, 200, .inl u.2.1)), (q8, .inl (g.2 0, 65, .inl u.2.2))] t.heap ∧ va_D A [(qM, .inr (9, [.int (u.1 0), .ref q1, .ref q2, .ref q3, .int (u.1 4), .int (u.1 5), .int (u.1 6), .int (u.1 7), .int (u.1 8), .int (u.1 9), .long (J 10), .int (u.1 11), .int (u.1 12), .int (u.1 13), .ref q4, .int (u.1 15), .ref q5, .ref q6, .ref q7, .int (u.1 19), .ref q8, .int (u.1 21), .int (u.1 22), .int (u.1 23), .int (u.1 24), .ref q9, .ref q10, .ref q11, .long (J 28)])), (q1, .inl (g.2 0, 376, .inl al)), (q7, .inl (g.2 0, 200, .inl u.2.1)), (q8, .inl (g.2 0, 65, .inl u.2.2))]) A) args s 0 0 A) (F0 m 43 ls [])) : ∀ (x4 : Int32) (x5 : Int32) (s0 : Int32) (F : Nat → Int32) (he : Nat → Int32) (ma : Nat → Int32), vX9_leg_c81 J al p1 p2 Q K43 x4 x5 s0 F he ma → ∀ (H : Heap) (locs : List Loc), va_P g.1 vwCl [(qM, .inr (9, [.int (F 0), .ref q1, .ref q2, .ref q3, .int (F 4), .int (F 5), .int (F 6), .int (F 7), .int (F 8), .int (F 9), .long (J 10), .int (F 11), .int (F 12), .int (F 13), .ref q4, .int (F 15), .ref q5, .ref q6, .ref q7, .int (F 19), .ref q8, .int (F 21), .int (F 22), .int (F 23), .int (F 24), .ref q9, .ref q10, .ref q11, .long (J 28)])), (q1, .inl (g.2 0, 376, .inl al)), (q7, .inl (g.2 0, 200, .inl he)), (q8, .inl (g.2 0, 65, .inl ma))] H → va_D A [(qM, .inr (9, [.int (F 0), .ref q1, .ref q2, .ref q3, .int (F 4), .int (F 5), .int (F 6), .int (F 7), .int (F 8), .int (F 9), .long (J 10), .int (F 11), .int (F 12), .int (F 13), .ref q4, .int (F 15), .ref q5, .ref q6, .ref q7, .int (F 19), .ref q8, .int (F 21), .int (F 22), .int (F 23), .int (F 24), .ref q9, .ref q10, .ref q11, .long (J 28)])), (q1, .inl (g.2 0, 376, .inl al)), (q7, .inl (g.2 0, 200, .inl he)), (q8, .inl (g.2 0, 65, .inl ma))] → va_S A s.heap H locs → ∀ (ls : Array Slot), lv_has ls 6 [(0, .ref qM), (1, .int p1), (2, .int p2), (4, .int x4), (5, .int x5)] → W p l e (headSpec wsX9_leg rmX9_leg).room s m args below meth c H locs 0 0 (MQ below (va_Qi (fun (r : Int32) (u : (Nat → Int32) × (Nat → Int32) × (Nat → Int32)) => Q r u.1 u.2.1 u.2.2) (fun (u : (Nat → Int32) × (Nat → Int32) × (Nat → Int32)) t => va_P g.1 vwCl [(qM, .inr (9, [.int (u.1 0), .ref q1, .ref q2, .ref q3, .int (u.1 4), .int (u.1 5), .int (u.1 6), .int (u.1 7), .int (u.1 8), .int (u.1 9), .long (J 10), .int (u.1 11), .int (u.1 12), .int (u.1 13), .ref q4, .int (u.1 15), .ref q5, .ref q6, .ref q7, .int (u.1 19), .ref q8, .int (u.1 21), .int (u.1 22), .int (u.1 23), .int (u.1 24), .ref q9, .ref q10, .ref q11, .long (J 28)])), (q1, .inl (g.2 0, 376, .inl al)), (q7, .inl (g.2 0, 200, .inl u.2.1)), (q8, .inl (g.2 0, 65, .inl u.2.2))] t.heap ∧ va_D A [(qM, .inr (9, [.int (u.1 0), .ref q1, .ref q2, .ref q3, .int (u.1 4), .int (u.1 5), .int (u.1 6), .int (u.1 7), .int (u.1 8), .int (u.1 9), .long (J 10), .int (u.1 11), .int (u.1 12), .int (u.1 13), .ref q4, .int (u.1 15), .ref q5, .ref q6, .ref q7, .int (u.1 19), .ref q8, .int (u.1 21), .int (u.1 22), .int (u.1 23), .int (u.1 24), .ref q9, .ref q10, .ref q11, .long (J 28)])), (q1, .inl (g.2 0, 376, .inl al)), (q7, .inl (g.2 0, 200, .inl u.2.1)), (q8, .inl (g.2 0, 65, .inl u.2.2))]) A) args s 0 0 A) (F0 m 81 ls [.int s0]) := by
  obtain ⟨hx, hb, hml, hown, hts⟩ := id S
  have hK := hG.1
  intro x4 x5 s0 F he ma hv H locs hP hD hS ls hl
  unfold vX9_leg_c81 at hv
  refine lv_iload_n hx hb dX9_leg_81 rfl (lv_at hl 2 rfl) ?_
  refine lv_bipush (v := (7 : Int32)) hx hb dX9_leg_82 (by decide) ?_
  obtain ⟨hvt, hvf⟩ := hv
  refine lv_icmp_ne (tgt := 93) hx hb dX9_leg_84 (by decide) (fun hc => ?_) (fun hc => ?_)
  · have hv := hvt hc
    exact kX9_leg_c93 S hr hlocks hG hA kk43 _ _ _ _ _ _ hv _ _ (hP.sub (ws' := [(qM, .inr (9, [.int (F 0), .ref q1, .ref q2, .ref q3, .int (F 4), .int (F 5), .int (F 6), .int (F 7), .int (F 8), .int (F 9), .long (J 10), .int (F 11), .int (F 12), .int (F 13), .ref q4, .int (F 15), .ref q5, .ref q6, .ref q7, .int (F 19), .ref q8, .int (F 21), .int (F 22), .int (F 23), .int (F 24), .ref q9, .ref q10, .ref q11, .long (J 28)])), (q1, .inl (g.2 0, 376, .inl al)), (q7, .inl (g.2 0, 200, .inl he)), (q8, .inl (g.2 0, 65, .inl ma))]) [0, 1, 2, 3] rfl) (hD.sub (ws' := [(qM, .inr (9, [.int (F 0), .ref q1, .ref q2, .ref q3, .int (F 4), .int (F 5), .int (F 6), .int (F 7), .int (F 8), .int (F 9), .long (J 10), .int (F 11), .int (F 12), .int (F 13), .ref q4, .int (F 15), .ref q5, .ref q6, .ref q7, .int (F 19), .ref q8, .int (F 21), .int (F 22), .int (F 23), .int (F 24), .ref q9, .ref q10, .ref q11, .long (J 28)])), (q1, .inl (g.2 0, 376, .inl al)), (q7, .inl (g.2 0, 200, .inl he)), (q8, .inl (g.2 0, 65, .inl ma))]) [0, 1, 2, 3] (by decide) rfl) hS ls (lv_sub hl [0, 1, 2, 3, 4] rfl)
  · have hv := hvf hc
    refine lv_iload hx hb dX9_leg_87 (lv_at hl 4 rfl) ?_
    refine lv_iconst (v := (3 : Int32)) hx hb dX9_leg_89 (by decide) ?_
    obtain ⟨hvt, hvf⟩ := hv
    refine lv_icmp_eq (tgt := 111) hx hb dX9_leg_90 (by decide) (fun hc => ?_) (fun hc => ?_)
    · have hv := hvt hc
      refine lv_iconst (v := (1 : Int32)) hx hb dX9_leg_111 (by decide) ?_
      refine lv_goto (tgt := 116) hx hb dX9_leg_112 (by decide) ?_
      refine lv_iadd hx hb dX9_leg_116 ?_
      refine lv_istore_n (lv' := [(3, .int (s0 + (1 : Int32))), (0, .ref qM), (1, .int p1), (2, .int p2), (4, .int x4), (5, .int x5)]) hx hb dX9_leg_117 rfl hl (by decide) rfl (fun ls hl => ?_)
      refine lv_iinc (v := (x4 + (1 : Int32))) (lv' := [(4, .int (x4 + (1 : Int32))), (3, .int (s0 + (1 : Int32))), (0, .ref qM), (1, .int p1), (2, .int p2), (5, .int x5)]) hx hb dX9_leg_118 hl (k := 4) rfl rfl (by decide) rfl (fun ls hl => ?_)
      refine lv_goto (tgt := 43) hx hb dX9_leg_121 (by decide) ?_
      exact kk43 _ _ _ _ _ hv _ _ (hP.sub (ws' := [(qM, .inr (9, [.int (F 0), .ref q1, .ref q2, .ref q3, .int (F 4), .int (F 5), .int (F 6), .int (F 7), .int (F 8), .int (F 9), .long (J 10), .int (F 11), .int (F 12), .int (F 13), .ref q4, .int (F 15), .ref q5, .ref q6, .ref q7, .int (F 19), .ref q8, .int (F 21), .int (F 22), .int (F 23), .int (F 24), .ref q9, .ref q10, .ref q11, .long (J 28)])), (q1, .inl (g.2 0, 376, .inl al)), (q7, .inl (g.2 0, 200, .inl he)), (q8, .inl (g.2 0, 65, .inl ma))]) [0, 1, 2, 3] rfl) (hD.sub (ws' := [(qM, .inr (9, [.int (F 0), .ref q1, .ref q2, .ref q3, .int (F 4), .int (F 5), .int (F 6), .int (F 7), .int (F 8), .int (F 9), .long (J 10), .int (F 11), .int (F 12), .int (F 13), .ref q4, .int (F 15), .ref q5, .ref q6, .ref q7, .int (F 19), .ref q8, .int (F 21), .int (F 22), .int (F 23), .int (F 24), .ref q9, .ref q10, .ref q11, .long (J 28)])), (q1, .inl (g.2 0, 376, .inl al)), (q7, .inl (g.2 0, 200, .inl he)), (q8, .inl (g.2 0, 65, .inl ma))]) [0, 1, 2, 3] (by decide) rfl) hS ls (lv_sub hl [2, 3, 4, 1, 0] rfl)
    · have hv := hvf hc
      exact kX9_leg_c93 S hr hlocks hG hA kk43 _ _ _ _ _ _ hv _ _ (hP.sub (ws' := [(qM, .inr (9, [.int (F 0), .ref q1, .ref q2, .ref q3, .int (F 4), .int (F 5), .int (F 6), .int (F 7), .int (F 8), .int (F 9), .long (J 10), .int (F 11), .int (F 12), .int (F 13), .ref q4, .int (F 15), .ref q5, .ref q6, .ref q7, .int (F 19), .ref q8, .int (F 21), .int (F 22), .int (F 23), .int (F 24), .ref q9, .ref q10, .ref q11, .long (J 28)])), (q1, .inl (g.2 0, 376, .inl al)), (q7, .inl (g.2 0, 200, .inl he)), (q8, .inl (g.2 0, 65, .inl ma))]) [0, 1, 2, 3] rfl) (hD.sub (ws' := [(qM, .inr (9, [.int (F 0), .ref q1, .ref q2, .ref q3, .int (F 4), .int (F 5), .int (F 6), .int (F 7), .int (F 8), .int (F 9), .long (J 10), .int (F 11), .int (F 12), .int (F 13), .ref q4, .int (F 15), .ref q5, .ref q6, .ref q7, .int (F 19), .ref q8, .int (F 21), .int (F 22), .int (F 23), .int (F 24), .ref q9, .ref q10, .ref q11, .long (J 28)])), (q1, .inl (g.2 0, 376, .inl al)), (q7, .inl (g.2 0, 200, .inl he)), (q8, .inl (g.2 0, 65, .inl ma))]) [0, 1, 2, 3] (by decide) rfl) hS ls (lv_sub hl [0, 1, 2, 3, 4] rfl)
def vX9_leg_c43 (J : Nat → Int64) (al : Nat → Int32) (p1 : Int32) (p2 : Int32) (Q : Int32 → (Nat → Int32) → (Nat → Int32) → (Nat → Int32) → Prop) : Nat → Int32 → Int32 → (Nat → Int32) → (Nat → Int32) → (Nat → Int32) → Prop
  | 0, _, _, _, _, _ => False
  | n + 1, x3, x4, F, he, ma => (∃ (p_49 : Nat) (w_49 : Nat), preX9_ofLeg p_49 w_49 F J al p1 (6 : Int32) ∧ (∀ r_49 : Int32, postX9_ofLeg p_49 w_49 F J al p1 (6 : Int32) r_49 → ((r_49 ≤ x4 → ((p2 ≤ (8 : Int32) → (Q x3 F he ma)) ∧ (¬ p2 ≤ (8 : Int32) → (∃ (T_132 : Cd) (G0_132 : Lg) (G1_132 : Lg) (lg_132 : Nat) (lim_132 : Nat), preX9_laysLeg T_132 G0_132 G1_132 lg_132 lim_132 F J al he ma p1 ∧ (∀ (F_132 : Nat → Int32) (he_132 : Nat → Int32) (ma_132 : Nat → Int32), postX9_laysLeg T_132 G0_132 G1_132 lg_132 lim_132 F J al he ma p1 F_132 he_132 ma_132 → (∃ nn, vX9_leg_c138 J al p1 p2 Q nn x3 (0 : Int32) F_132 he_132 ma_132)))))) ∧ (¬ r_49 ≤ x4 → (∃ (p_64 : Nat) (w_64 : Nat), preX9_ofLeg p_64 w_64 F J al p1 ((7 : Int32) + ((3 : Int32) * x4)) ∧ (∀ r_64 : Int32, postX9_ofLeg p_64 w_64 F J al p1 ((7 : Int32) + ((3 : Int32) * x4)) r_64 → ((¬ p2 = (6 : Int32) → (vX9_leg_c81 J al p1 p2 Q (vX9_leg_c43 J al p1 p2 Q n) x4 r_64 x3 F he ma)) ∧ (p2 = (6 : Int32) → ((r_64 = 0 → (vX9_leg_c43 J al p1 p2 Q n (x3 + (1 : Int32)) (x4 + (1 : Int32)) F he ma)) ∧ (¬ r_64 = 0 → (vX9_leg_c81 J al p1 p2 Q (vX9_leg_c43 J al p1 p2 Q n) x4 r_64 x3 F he ma)))))))))))
set_option maxHeartbeats 4000000 in
set_option maxRecDepth 100000 in
theorem kX9_leg_c43 {p : Program} {l : Launch} {e : Env} {s : State} {m : MethodId} {args : Array Value} {below : List Frame} {meth : Method} {c : Code} {g : GP} {qM : Nat} {q1 : Nat} {q2 : Nat} {q3 : Nat} {q4 : Nat} {q5 : Nat} {q6 : Nat} {q7 : Nat} {q8 : Nat} {q9 : Nat} {q10 : Nat} {q11 : Nat} {J : Nat → Int64} {al : Nat → Int32} {p1 : Int32} {p2 : Int32} {Q : Int32 → (Nat → Int32) → (Nat → Int32) → (Nat → Int32) → Prop} {A : Nat → Prop} (S : CallFix p m c cX9_leg 6 s args wsX9_leg RX9) (hr : meth.sig.returnType = (some .int)) (hlocks : meth.locks = false) (hG : GK g s) (hA : ∀ q : Nat, s.heap.size ≤ q → A q) : ∀ (n : Nat), ∀ (x3 : Int32) (x4 : Int32) (F : Nat → Int32) (he : Nat → Int32) (ma : Nat → Int32), vX9_leg_c43 J al p1 p2 Q n x3 x4 F he ma → ∀ (H : Heap) (locs : List Loc), va_P g.1 vwCl [(qM, .inr (9, [.int (F 0), .ref q1, .ref q2, .ref q3, .int (F 4), .int (F 5), .int (F 6), .int (F 7), .int (F 8), .int (F 9), .long (J 10), .int (F 11), .int (F 12), .int (F 13), .ref q4, .int (F 15), .ref q5, .ref q6, .ref q7, .int (F 19), .ref q8, .int (F 21), .int (F 22), .int (F 23), .int (F 24), .ref q9, .ref q10, .ref q11, .long (J 28)])), (q1, .inl (g.2 0, 376, .inl al)), (q7, .inl (g.2 0, 200, .inl he)), (q8, .inl (g.2 0, 65, .inl ma))] H → va_D A [(qM, .inr (9, [.int (F 0), .ref q1, .ref q2, .ref q3, .int (F 4), .int (F 5), .int (F 6), .int (F 7), .int (F 8), .int (F 9), .long (J 10), .int (F 11), .int (F 12), .int (F 13), .ref q4, .int (F 15), .ref q5, .ref q6, .ref q7, .int (F 19), .ref q8, .int (F 21), .int (F 22), .int (F 23), .int (F 24), .ref q9, .ref q10, .ref q11, .long (J 28)])), (q1, .inl (g.2 0, 376, .inl al)), (q7, .inl (g.2 0, 200, .inl he)), (q8, .inl (g.2 0, 65, .inl ma))] → va_S A s.heap H locs → ∀ (ls : Array Slot), lv_has ls 6 [(0, .ref qM), (1, .int p1), (2, .int p2), (3, .int x3), (4, .int x4)] → W p l e (headSpec wsX9_leg rmX9_leg).room s m args below meth c H locs 0 0 (MQ below (va_Qi (fun (r : Int32) (u : (Nat → Int32) × (Nat → Int32) × (Nat → Int32)) => Q r u.1 u.2.1 u.2.2) (fun (u : (Nat → Int32) × (Nat → Int32) × (Nat → Int32)) t => va_P g.1 vwCl [(qM, .inr (9, [.int (u.1 0), .ref q1, .ref q2, .ref q3, .int (u.1 4), .int (u.1 5), .int (u.1 6), .int (u.1 7), .int (u.1 8), .int (u.1 9), .long (J 10), .int (u.1 11), .int (u.1 12), .int (u.1 13), .ref q4, .int (u.1 15), .ref q5, .ref q6, .ref q7, .int (u.1 19), .ref q8, .int (u.1 21), .int (u.1 22), .int (u.1 23), .int (u.1 24), .ref q9, .ref q10, .ref q11, .long (J 28)])), (q1, .inl (g.2 0, 376, .inl al)), (q7, .inl (g.2 0, 200, .inl u.2.1)), (q8, .inl (g.2 0, 65, .inl u.2.2))] t.heap ∧ va_D A [(qM, .inr (9, [.int (u.1 0), .ref q1, .ref q2, .ref q3, .int (u.1 4), .int (u.1 5), .int (u.1 6), .int (u.1 7), .int (u.1 8), .int (u.1 9), .long (J 10), .int (u.1 11), .int (u.1 12), .int (u.1 13), .ref q4, .int (u.1 15), .ref q5, .ref q6, .ref q7, .int (u.1 19), .ref q8, .int (u.1 21), .int (u.1 22), .int (u.1 23), .int (u.1 24), .ref q9, .ref q10, .ref q11, .long (J 28)])), (q1, .inl (g.2 0, 376, .inl al)), (q7, .inl (g.2 0, 200, .inl u.2.1)), (q8, .inl (g.2 0, 65, .inl u.2.2))]) A) args s 0 0 A) (F0 m 43 ls []) := by
  obtain ⟨hx, hb, hml, hown, hts⟩ := id S
  have hK := hG.1
  intro n
  induction n with
  | zero => intro x3 x4 F he ma hv; exact hv.elim
  | succ n ih =>
    intro x3 x4 F he ma hv H locs hP hD hS ls hl
    refine lv_iload hx hb dX9_leg_43 (lv_at hl 4 rfl) ?_
    refine lv_aload_n hx hb dX9_leg_45 rfl (lv_at hl 0 rfl) ?_
    refine lv_iload_n hx hb dX9_leg_46 rfl (lv_at hl 1 rfl) ?_
    refine lv_bipush (v := (6 : Int32)) hx hb dX9_leg_47 (by decide) ?_
    obtain ⟨p_49, w_49, ho_1, hv⟩ := hv
    refine vp_callSi (W.runV (As := [.int p1, .int (6 : Int32)]) (rest := [.int x4]) S (wX9_ofLeg l g qM q1 q2 q3 q4 q5 q6 q7 q8 q9 q10 q11 F J al p1 (6 : Int32) (sX9_ofLeg p_49 w_49 F J al p1 (6 : Int32) ho_1)) (cwV 2 hts gX9_leg_X9_ofLeg rfl rfl rfl (by decide +kernel) ⟨Nat.le_of_ble_eq_true rfl, Nat.le_of_ble_eq_true rfl⟩) ⟨blindRO, va_recv hK hP (ci := 9) (q0 := 0) rfl rfl, fun U hU hW => ⟨rfl, by rw [hU]; exact hP.sub (ws' := [(qM, .inr (9, [.int (F 0), .ref q1, .ref q2, .ref q3, .int (F 4), .int (F 5), .int (F 6), .int (F 7), .int (F 8), .int (F 9), .long (J 10), .int (F 11), .int (F 12), .int (F 13), .ref q4, .int (F 15), .ref q5, .ref q6, .ref q7, .int (F 19), .ref q8, .int (F 21), .int (F 22), .int (F 23), .int (F 24), .ref q9, .ref q10, .ref q11, .long (J 28)])), (q1, .inl (g.2 0, 376, .inl al))]) [0, 1] rfl, hG.warm hW⟩⟩ rfl rfl hl.1 rfl (lv_room (Nat.le_of_ble_eq_true rfl)) dX9_leg_49 ⟨Nat.le_of_ble_eq_true rfl, Nat.le_of_ble_eq_true rfl⟩) (fun r_49 hr_49 => ?_)
    have hv := hv r_49 hr_49
    obtain ⟨hvt, hvf⟩ := hv
    refine lv_icmp_ge (tgt := 124) hx hb dX9_leg_52 (by decide) (fun hc => ?_) (fun hc => ?_)
    · have hv := hvt hc
      refine lv_iload_n hx hb dX9_leg_124 rfl (lv_at hl 2 rfl) ?_
      refine lv_bipush (v := (8 : Int32)) hx hb dX9_leg_125 (by decide) ?_
      obtain ⟨hvt, hvf⟩ := hv
      refine lv_icmp_le (tgt := 190) hx hb dX9_leg_127 (by decide) (fun hc => ?_) (fun hc => ?_)
      · have hv := hvt hc
        refine lv_iload_n hx hb dX9_leg_190 rfl (lv_at hl 3 rfl) ?_
        have hP9 := hP.sub (ws' := [(qM, .inr (9, [.int (F 0), .ref q1, .ref q2, .ref q3, .int (F 4), .int (F 5), .int (F 6), .int (F 7), .int (F 8), .int (F 9), .long (J 10), .int (F 11), .int (F 12), .int (F 13), .ref q4, .int (F 15), .ref q5, .ref q6, .ref q7, .int (F 19), .ref q8, .int (F 21), .int (F 22), .int (F 23), .int (F 24), .ref q9, .ref q10, .ref q11, .long (J 28)])), (q1, .inl (g.2 0, 376, .inl al)), (q7, .inl (g.2 0, 200, .inl he)), (q8, .inl (g.2 0, 65, .inl ma))]) [0, 1, 2, 3] rfl
        have hD9 := hD.sub (ws' := [(qM, .inr (9, [.int (F 0), .ref q1, .ref q2, .ref q3, .int (F 4), .int (F 5), .int (F 6), .int (F 7), .int (F 8), .int (F 9), .long (J 10), .int (F 11), .int (F 12), .int (F 13), .ref q4, .int (F 15), .ref q5, .ref q6, .ref q7, .int (F 19), .ref q8, .int (F 21), .int (F 22), .int (F 23), .int (F 24), .ref q9, .ref q10, .ref q11, .long (J 28)])), (q1, .inl (g.2 0, 376, .inl al)), (q7, .inl (g.2 0, 200, .inl he)), (q8, .inl (g.2 0, 65, .inl ma))]) [0, 1, 2, 3] (by decide) rfl
        exact W.iret (v := x3) hx hb hr (fun t ht hW => ⟨⟨_, (F, he, ma), rfl, hv, by rw [ht]; exact hP9, hD9⟩, hS.F ht⟩) hS.2.2 dX9_leg_191
      · have hv := hvf hc
        refine lv_aload_n hx hb dX9_leg_130 rfl (lv_at hl 0 rfl) ?_
        refine lv_iload_n hx hb dX9_leg_131 rfl (lv_at hl 1 rfl) ?_
        obtain ⟨T_132, G0_132, G1_132, lg_132, lim_132, ho_2, hv⟩ := hv
        have hPc := hP.sub (ws' := [(qM, .inr (9, [.int (F 0), .ref q1, .ref q2, .ref q3, .int (F 4), .int (F 5), .int (F 6), .int (F 7), .int (F 8), .int (F 9), .long (J 10), .int (F 11), .int (F 12), .int (F 13), .ref q4, .int (F 15), .ref q5, .ref q6, .ref q7, .int (F 19), .ref q8, .int (F 21), .int (F 22), .int (F 23), .int (F 24), .ref q9, .ref q10, .ref q11, .long (J 28)])), (q1, .inl (g.2 0, 376, .inl al)), (q7, .inl (g.2 0, 200, .inl he)), (q8, .inl (g.2 0, 65, .inl ma))]) [0, 1, 2, 3] rfl
        have hDc := hD.sub (ws' := [(qM, .inr (9, [.int (F 0), .ref q1, .ref q2, .ref q3, .int (F 4), .int (F 5), .int (F 6), .int (F 7), .int (F 8), .int (F 9), .long (J 10), .int (F 11), .int (F 12), .int (F 13), .ref q4, .int (F 15), .ref q5, .ref q6, .ref q7, .int (F 19), .ref q8, .int (F 21), .int (F 22), .int (F 23), .int (F 24), .ref q9, .ref q10, .ref q11, .long (J 28)])), (q1, .inl (g.2 0, 376, .inl al)), (q7, .inl (g.2 0, 200, .inl he)), (q8, .inl (g.2 0, 65, .inl ma))]) [0, 1, 2, 3] (by decide) rfl
        have hFc := va_free (wc := [(qM, .inr (9, [.int (F 0), .ref q1, .ref q2, .ref q3, .int (F 4), .int (F 5), .int (F 6), .int (F 7), .int (F 8), .int (F 9), .long (J 10), .int (F 11), .int (F 12), .int (F 13), .ref q4, .int (F 15), .ref q5, .ref q6, .ref q7, .int (F 19), .ref q8, .int (F 21), .int (F 22), .int (F 23), .int (F 24), .ref q9, .ref q10, .ref q11, .long (J 28)])), (q1, .inl (g.2 0, 376, .inl al)), (q7, .inl (g.2 0, 200, .inl he)), (q8, .inl (g.2 0, 65, .inl ma))]) hD hS hA [0, 1, 2, 3] rfl
        refine va_callv (va_runV (As := [.int p1]) (rest := []) S (wX9_laysLeg l g qM q1 q2 q3 q4 q5 q6 q7 q8 q9 q10 q11 H.size F J al he ma p1 (sX9_laysLeg T_132 G0_132 G1_132 lg_132 lim_132 F J al he ma p1 ho_2)) (cwV 1 hts gX9_leg_X9_laysLeg rfl rfl rfl (by decide +kernel) ⟨Nat.le_of_ble_eq_true rfl, Nat.le_of_ble_eq_true rfl⟩) ⟨blindRW, va_recv hK hP (ci := 9) (q0 := 0) rfl rfl, fun U hU hW => ⟨rfl, by rw [hU], by rw [hU]; exact hPc, hG.warm hW, hDc.weaken (fun _ _ _ _ => trivial)⟩⟩ rfl rfl hl.1 rfl (lv_room (Nat.le_of_ble_eq_true rfl)) dX9_leg_132 ⟨Nat.le_of_ble_eq_true rfl, Nat.le_of_ble_eq_true rfl⟩) hS (fun q _ h => hFc q h) hFc (fun u t H1 locs ht hvm hw hB hz1 hk1 hS => ?_)
        obtain ⟨F_132, he_132, ma_132⟩ := u
        obtain ⟨hP1, hD1⟩ := hB
        rw [ht] at hP1
        have hv := hv F_132 he_132 ma_132 hw
        obtain ⟨hP, hD⟩ := va_join (wr := []) (w1 := [(qM, .inr (9, [.int (F_132 0), .ref q1, .ref q2, .ref q3, .int (F_132 4), .int (F_132 5), .int (F_132 6), .int (F_132 7), .int (F_132 8), .int (F_132 9), .long (J 10), .int (F_132 11), .int (F_132 12), .int (F_132 13), .ref q4, .int (F_132 15), .ref q5, .ref q6, .ref q7, .int (F_132 19), .ref q8, .int (F_132 21), .int (F_132 22), .int (F_132 23), .int (F_132 24), .ref q9, .ref q10, .ref q11, .long (J 28)])), (q1, .inl (g.2 0, 376, .inl al)), (q7, .inl (g.2 0, 200, .inl he_132)), (q8, .inl (g.2 0, 65, .inl ma_132))]) hP hD [0, 1, 2, 3] [] rfl rfl (by decide) (by decide) hk1 hFc hP1 hD1
        clear hP1 hD1 hPc hDc hFc hk1
        generalize H1 = H at hP hS ⊢
        have hP : va_P g.1 vwCl [(qM, .inr (9, [.int (F_132 0), .ref q1, .ref q2, .ref q3, .int (F_132 4), .int (F_132 5), .int (F_132 6), .int (F_132 7), .int (F_132 8), .int (F_132 9), .long (J 10), .int (F_132 11), .int (F_132 12), .int (F_132 13), .ref q4, .int (F_132 15), .ref q5, .ref q6, .ref q7, .int (F_132 19), .ref q8, .int (F_132 21), .int (F_132 22), .int (F_132 23), .int (F_132 24), .ref q9, .ref q10, .ref q11, .long (J 28)])), (q1, .inl (g.2 0, 376, .inl al)), (q7, .inl (g.2 0, 200, .inl he_132)), (q8, .inl (g.2 0, 65, .inl ma_132))] H := hP
        have hD : va_D A [(qM, .inr (9, [.int (F_132 0), .ref q1, .ref q2, .ref q3, .int (F_132 4), .int (F_132 5), .int (F_132 6), .int (F_132 7), .int (F_132 8), .int (F_132 9), .long (J 10), .int (F_132 11), .int (F_132 12), .int (F_132 13), .ref q4, .int (F_132 15), .ref q5, .ref q6, .ref q7, .int (F_132 19), .ref q8, .int (F_132 21), .int (F_132 22), .int (F_132 23), .int (F_132 24), .ref q9, .ref q10, .ref q11, .long (J 28)])), (q1, .inl (g.2 0, 376, .inl al)), (q7, .inl (g.2 0, 200, .inl he_132)), (q8, .inl (g.2 0, 65, .inl ma_132))] := hD
        refine lv_iconst (v := (0 : Int32)) hx hb dX9_leg_135 (by decide) ?_
        refine lv_istore (lv' := [(4, .int (0 : Int32)), (0, .ref qM), (1, .int p1), (2, .int p2), (3, .int x3)]) hx hb dX9_leg_136 hl (by decide) rfl (fun ls hl => ?_)
        obtain ⟨nn, hv⟩ := hv
        exact kX9_leg_c138 S hr hlocks hG hA nn _ _ _ _ _ hv _ _ (hP.sub (ws' := [(qM, .inr (9, [.int (F_132 0), .ref q1, .ref q2, .ref q3, .int (F_132 4), .int (F_132 5), .int (F_132 6), .int (F_132 7), .int (F_132 8), .int (F_132 9), .long (J 10), .int (F_132 11), .int (F_132 12), .int (F_132 13), .ref q4, .int (F_132 15), .ref q5, .ref q6, .ref q7, .int (F_132 19), .ref q8, .int (F_132 21), .int (F_132 22), .int (F_132 23), .int (F_132 24), .ref q9, .ref q10, .ref q11, .long (J 28)])), (q1, .inl (g.2 0, 376, .inl al)), (q7, .inl (g.2 0, 200, .inl he_132)), (q8, .inl (g.2 0, 65, .inl ma_132))]) [0, 1, 2, 3] rfl) (hD.sub (ws' := [(qM, .inr (9, [.int (F_132 0), .ref q1, .ref q2, .ref q3, .int (F_132 4), .int (F_132 5), .int (F_132 6), .int (F_132 7), .int (F_132 8), .int (F_132 9), .long (J 10), .int (F_132 11), .int (F_132 12), .int (F_132 13), .ref q4, .int (F_132 15), .ref q5, .ref q6, .ref q7, .int (F_132 19), .ref q8, .int (F_132 21), .int (F_132 22), .int (F_132 23), .int (F_132 24), .ref q9, .ref q10, .ref q11, .long (J 28)])), (q1, .inl (g.2 0, 376, .inl al)), (q7, .inl (g.2 0, 200, .inl he_132)), (q8, .inl (g.2 0, 65, .inl ma_132))]) [0, 1, 2, 3] (by decide) rfl) hS ls (lv_sub hl [1, 2, 3, 4, 0] rfl)
    · have hv := hvf hc
      refine lv_aload_n hx hb dX9_leg_55 rfl (lv_at hl 0 rfl) ?_
      refine lv_iload_n hx hb dX9_leg_56 rfl (lv_at hl 1 rfl) ?_
      refine lv_bipush (v := (7 : Int32)) hx hb dX9_leg_57 (by decide) ?_
      refine lv_iconst (v := (3 : Int32)) hx hb dX9_leg_59 (by decide) ?_
      refine lv_iload hx hb dX9_leg_60 (lv_at hl 4 rfl) ?_
      refine lv_imul hx hb dX9_leg_62 ?_
      refine lv_iadd hx hb dX9_leg_63 ?_
      obtain ⟨p_64, w_64, ho_3, hv⟩ := hv
      refine vp_callSi (W.runV (As := [.int p1, .int ((7 : Int32) + ((3 : Int32) * x4))]) (rest := []) S (wX9_ofLeg l g qM q1 q2 q3 q4 q5 q6 q7 q8 q9 q10 q11 F J al p1 ((7 : Int32) + ((3 : Int32) * x4)) (sX9_ofLeg p_64 w_64 F J al p1 ((7 : Int32) + ((3 : Int32) * x4)) ho_3)) (cwV 2 hts gX9_leg_X9_ofLeg rfl rfl rfl (by decide +kernel) ⟨Nat.le_of_ble_eq_true rfl, Nat.le_of_ble_eq_true rfl⟩) ⟨blindRO, va_recv hK hP (ci := 9) (q0 := 0) rfl rfl, fun U hU hW => ⟨rfl, by rw [hU]; exact hP.sub (ws' := [(qM, .inr (9, [.int (F 0), .ref q1, .ref q2, .ref q3, .int (F 4), .int (F 5), .int (F 6), .int (F 7), .int (F 8), .int (F 9), .long (J 10), .int (F 11), .int (F 12), .int (F 13), .ref q4, .int (F 15), .ref q5, .ref q6, .ref q7, .int (F 19), .ref q8, .int (F 21), .int (F 22), .int (F 23), .int (F 24), .ref q9, .ref q10, .ref q11, .long (J 28)])), (q1, .inl (g.2 0, 376, .inl al))]) [0, 1] rfl, hG.warm hW⟩⟩ rfl rfl hl.1 rfl (lv_room (Nat.le_of_ble_eq_true rfl)) dX9_leg_64 ⟨Nat.le_of_ble_eq_true rfl, Nat.le_of_ble_eq_true rfl⟩) (fun r_64 hr_64 => ?_)
      have hv := hv r_64 hr_64
      refine lv_istore (lv' := [(5, .int r_64), (0, .ref qM), (1, .int p1), (2, .int p2), (3, .int x3), (4, .int x4)]) hx hb dX9_leg_67 hl (by decide) rfl (fun ls hl => ?_)
      refine lv_iload_n hx hb dX9_leg_69 rfl (lv_at hl 4 rfl) ?_
      refine lv_iload_n hx hb dX9_leg_70 rfl (lv_at hl 3 rfl) ?_
      refine lv_bipush (v := (6 : Int32)) hx hb dX9_leg_71 (by decide) ?_
      obtain ⟨hvt, hvf⟩ := hv
      refine lv_icmp_ne (tgt := 81) hx hb dX9_leg_73 (by decide) (fun hc => ?_) (fun hc => ?_)
      · have hv := hvt hc
        exact kX9_leg_c81 S hr hlocks hG hA ih _ _ _ _ _ _ hv _ _ (hP.sub (ws' := [(qM, .inr (9, [.int (F 0), .ref q1, .ref q2, .ref q3, .int (F 4), .int (F 5), .int (F 6), .int (F 7), .int (F 8), .int (F 9), .long (J 10), .int (F 11), .int (F 12), .int (F 13), .ref q4, .int (F 15), .ref q5, .ref q6, .ref q7, .int (F 19), .ref q8, .int (F 21), .int (F 22), .int (F 23), .int (F 24), .ref q9, .ref q10, .ref q11, .long (J 28)])), (q1, .inl (g.2 0, 376, .inl al)), (q7, .inl (g.2 0, 200, .inl he)), (q8, .inl (g.2 0, 65, .inl ma))]) [0, 1, 2, 3] rfl) (hD.sub (ws' := [(qM, .inr (9, [.int (F 0), .ref q1, .ref q2, .ref q3, .int (F 4), .int (F 5), .int (F 6), .int (F 7), .int (F 8), .int (F 9), .long (J 10), .int (F 11), .int (F 12), .int (F 13), .ref q4, .int (F 15), .ref q5, .ref q6, .ref q7, .int (F 19), .ref q8, .int (F 21), .int (F 22), .int (F 23), .int (F 24), .ref q9, .ref q10, .ref q11, .long (J 28)])), (q1, .inl (g.2 0, 376, .inl al)), (q7, .inl (g.2 0, 200, .inl he)), (q8, .inl (g.2 0, 65, .inl ma))]) [0, 1, 2, 3] (by decide) rfl) hS ls (lv_sub hl [1, 2, 3, 5, 0] rfl)
      · have hv := hvf hc
        refine lv_iload hx hb dX9_leg_76 (lv_at hl 0 rfl) ?_
        obtain ⟨hvt, hvf⟩ := hv
        refine lv_if_eq (tgt := 111) hx hb dX9_leg_78 (by decide) (fun hc => ?_) (fun hc => ?_)
        · have hv := hvt hc
          refine lv_iconst (v := (1 : Int32)) hx hb dX9_leg_111 (by decide) ?_
          refine lv_goto (tgt := 116) hx hb dX9_leg_112 (by decide) ?_
          refine lv_iadd hx hb dX9_leg_116 ?_
          refine lv_istore_n (lv' := [(3, .int (x3 + (1 : Int32))), (5, .int r_64), (0, .ref qM), (1, .int p1), (2, .int p2), (4, .int x4)]) hx hb dX9_leg_117 rfl hl (by decide) rfl (fun ls hl => ?_)
          refine lv_iinc (v := (x4 + (1 : Int32))) (lv' := [(4, .int (x4 + (1 : Int32))), (3, .int (x3 + (1 : Int32))), (5, .int r_64), (0, .ref qM), (1, .int p1), (2, .int p2)]) hx hb dX9_leg_118 hl (k := 5) rfl rfl (by decide) rfl (fun ls hl => ?_)
          refine lv_goto (tgt := 43) hx hb dX9_leg_121 (by decide) ?_
          exact ih _ _ _ _ _ hv _ _ (hP.sub (ws' := [(qM, .inr (9, [.int (F 0), .ref q1, .ref q2, .ref q3, .int (F 4), .int (F 5), .int (F 6), .int (F 7), .int (F 8), .int (F 9), .long (J 10), .int (F 11), .int (F 12), .int (F 13), .ref q4, .int (F 15), .ref q5, .ref q6, .ref q7, .int (F 19), .ref q8, .int (F 21), .int (F 22), .int (F 23), .int (F 24), .ref q9, .ref q10, .ref q11, .long (J 28)])), (q1, .inl (g.2 0, 376, .inl al)), (q7, .inl (g.2 0, 200, .inl he)), (q8, .inl (g.2 0, 65, .inl ma))]) [0, 1, 2, 3] rfl) (hD.sub (ws' := [(qM, .inr (9, [.int (F 0), .ref q1, .ref q2, .ref q3, .int (F 4), .int (F 5), .int (F 6), .int (F 7), .int (F 8), .int (F 9), .long (J 10), .int (F 11), .int (F 12), .int (F 13), .ref q4, .int (F 15), .ref q5, .ref q6, .ref q7, .int (F 19), .ref q8, .int (F 21), .int (F 22), .int (F 23), .int (F 24), .ref q9, .ref q10, .ref q11, .long (J 28)])), (q1, .inl (g.2 0, 376, .inl al)), (q7, .inl (g.2 0, 200, .inl he)), (q8, .inl (g.2 0, 65, .inl ma))]) [0, 1, 2, 3] (by decide) rfl) hS ls (lv_sub hl [3, 4, 5, 1, 0] rfl)
        · have hv := hvf hc
          exact kX9_leg_c81 S hr hlocks hG hA ih _ _ _ _ _ _ hv _ _ (hP.sub (ws' := [(qM, .inr (9, [.int (F 0), .ref q1, .ref q2, .ref q3, .int (F 4), .int (F 5), .int (F 6), .int (F 7), .int (F 8), .int (F 9), .long (J 10), .int (F 11), .int (F 12), .int (F 13), .ref q4, .int (F 15), .ref q5, .ref q6, .ref q7, .int (F 19), .ref q8, .int (F 21), .int (F 22), .int (F 23), .int (F 24), .ref q9, .ref q10, .ref q11, .long (J 28)])), (q1, .inl (g.2 0, 376, .inl al)), (q7, .inl (g.2 0, 200, .inl he)), (q8, .inl (g.2 0, 65, .inl ma))]) [0, 1, 2, 3] rfl) (hD.sub (ws' := [(qM, .inr (9, [.int (F 0), .ref q1, .ref q2, .ref q3, .int (F 4), .int (F 5), .int (F 6), .int (F 7), .int (F 8), .int (F 9), .long (J 10), .int (F 11), .int (F 12), .int (F 13), .ref q4, .int (F 15), .ref q5, .ref q6, .ref q7, .int (F 19), .ref q8, .int (F 21), .int (F 22), .int (F 23), .int (F 24), .ref q9, .ref q10, .ref q11, .long (J 28)])), (q1, .inl (g.2 0, 376, .inl al)), (q7, .inl (g.2 0, 200, .inl he)), (q8, .inl (g.2 0, 65, .inl ma))]) [0, 1, 2, 3] (by decide) rfl) hS ls (lv_sub hl [1, 2, 3, 5, 0] rfl)
def vX9_leg (F : Nat → Int32) (J : Nat → Int64) (al : Nat → Int32) (he : Nat → Int32) (ma : Nat → Int32) (p1 : Int32) (p2 : Int32) (Q : Int32 → (Nat → Int32) → (Nat → Int32) → (Nat → Int32) → Prop) : Prop := (preX9_isLeg p1 ∧ (∀ r_6 : Int32, postX9_isLeg p1 r_6 → ((r_6 = 0 → (Q (-1000 : Int32) (upd F 0 (0 : Int32)) he ma)) ∧ (¬ r_6 = 0 → (preX9_in p2 (0 : Int32) (10 : Int32) ∧ (∀ r_16 : Int32, postX9_in p2 (0 : Int32) (10 : Int32) r_16 → ((¬ r_16 = 0 → (((5 : Int32) < p2 → (∃ nn, vX9_leg_c43 J al p1 p2 Q nn (0 : Int32) (0 : Int32) (upd F 0 (0 : Int32)) he ma)) ∧ (¬ (5 : Int32) < p2 → (∃ (p_34 : Nat) (w_34 : Nat), preX9_ofLeg p_34 w_34 (upd F 0 (0 : Int32)) J al p1 p2 ∧ (∀ r_34 : Int32, postX9_ofLeg p_34 w_34 (upd F 0 (0 : Int32)) J al p1 p2 r_34 → (Q r_34 (upd F 0 (0 : Int32)) he ma)))))) ∧ (r_16 = 0 → (Q (-1000 : Int32) (upd F 0 (0 : Int32)) he ma)))))))))
set_option maxHeartbeats 4000000 in
set_option maxRecDepth 100000 in
theorem wX9_leg (l : Launch) (g : GP) (qM : Nat) (q1 : Nat) (q2 : Nat) (q3 : Nat) (q4 : Nat) (q5 : Nat) (q6 : Nat) (q7 : Nat) (q8 : Nat) (q9 : Nat) (q10 : Nat) (q11 : Nat) (sz : Nat) (F : Nat → Int32) (J : Nat → Int64) (al : Nat → Int32) (he : Nat → Int32) (ma : Nat → Int32) (p1 : Int32) (p2 : Int32) {Q : Int32 → (Nat → Int32) → (Nat → Int32) → (Nat → Int32) → Prop} (hv : vX9_leg F J al he ma p1 p2 Q) : Met l yX9_leg wsX9_leg rmX9_leg (va_Pc [.ref qM, .int p1, .int p2] (fun U => U.heap.size = sz ∧ va_P g.1 vwCl [(qM, .inr (9, [.int (F 0), .ref q1, .ref q2, .ref q3, .int (F 4), .int (F 5), .int (F 6), .int (F 7), .int (F 8), .int (F 9), .long (J 10), .int (F 11), .int (F 12), .int (F 13), .ref q4, .int (F 15), .ref q5, .ref q6, .ref q7, .int (F 19), .ref q8, .int (F 21), .int (F 22), .int (F 23), .int (F 24), .ref q9, .ref q10, .ref q11, .long (J 28)])), (q1, .inl (g.2 0, 376, .inl al)), (q7, .inl (g.2 0, 200, .inl he)), (q8, .inl (g.2 0, 65, .inl ma))] U.heap ∧ GK g U ∧ va_D (fun _ => True) [(qM, .inr (9, [.int (F 0), .ref q1, .ref q2, .ref q3, .int (F 4), .int (F 5), .int (F 6), .int (F 7), .int (F 8), .int (F 9), .long (J 10), .int (F 11), .int (F 12), .int (F 13), .ref q4, .int (F 15), .ref q5, .ref q6, .ref q7, .int (F 19), .ref q8, .int (F 21), .int (F 22), .int (F 23), .int (F 24), .ref q9, .ref q10, .ref q11, .long (J 28)])), (q1, .inl (g.2 0, 376, .inl al)), (q7, .inl (g.2 0, 200, .inl he)), (q8, .inl (g.2 0, 65, .inl ma))])) (va_Qi (fun (r : Int32) (u : (Nat → Int32) × (Nat → Int32) × (Nat → Int32)) => Q r u.1 u.2.1 u.2.2) (fun (u : (Nat → Int32) × (Nat → Int32) × (Nat → Int32)) t => va_P g.1 vwCl [(qM, .inr (9, [.int (u.1 0), .ref q1, .ref q2, .ref q3, .int (u.1 4), .int (u.1 5), .int (u.1 6), .int (u.1 7), .int (u.1 8), .int (u.1 9), .long (J 10), .int (u.1 11), .int (u.1 12), .int (u.1 13), .ref q4, .int (u.1 15), .ref q5, .ref q6, .ref q7, .int (u.1 19), .ref q8, .int (u.1 21), .int (u.1 22), .int (u.1 23), .int (u.1 24), .ref q9, .ref q10, .ref q11, .long (J 28)])), (q1, .inl (g.2 0, 376, .inl al)), (q7, .inl (g.2 0, 200, .inl u.2.1)), (q8, .inl (g.2 0, 65, .inl u.2.2))] t.heap ∧ va_D (va_A [(qM, .inr (9, [.int (F 0), .ref q1, .ref q2, .ref q3, .int (F 4), .int (F 5), .int (F 6), .int (F 7), .int (F 8), .int (F 9), .long (J 10), .int (F 11), .int (F 12), .int (F 13), .ref q4, .int (F 15), .ref q5, .ref q6, .ref q7, .int (F 19), .ref q8, .int (F 21), .int (F 22), .int (F 23), .int (F 24), .ref q9, .ref q10, .ref q11, .long (J 28)])), (q1, .inl (g.2 0, 376, .inl al)), (q7, .inl (g.2 0, 200, .inl he)), (q8, .inl (g.2 0, 65, .inl ma))] sz) [(qM, .inr (9, [.int (u.1 0), .ref q1, .ref q2, .ref q3, .int (u.1 4), .int (u.1 5), .int (u.1 6), .int (u.1 7), .int (u.1 8), .int (u.1 9), .long (J 10), .int (u.1 11), .int (u.1 12), .int (u.1 13), .ref q4, .int (u.1 15), .ref q5, .ref q6, .ref q7, .int (u.1 19), .ref q8, .int (u.1 21), .int (u.1 22), .int (u.1 23), .int (u.1 24), .ref q9, .ref q10, .ref q11, .long (J 28)])), (q1, .inl (g.2 0, 376, .inl al)), (q7, .inl (g.2 0, 200, .inl u.2.1)), (q8, .inl (g.2 0, 65, .inl u.2.2))]) (va_A [(qM, .inr (9, [.int (F 0), .ref q1, .ref q2, .ref q3, .int (F 4), .int (F 5), .int (F 6), .int (F 7), .int (F 8), .int (F 9), .long (J 10), .int (F 11), .int (F 12), .int (F 13), .ref q4, .int (F 15), .ref q5, .ref q6, .ref q7, .int (F 19), .ref q8, .int (F 21), .int (F 22), .int (F 23), .int (F 24), .ref q9, .ref q10, .ref q11, .long (J 28)])), (q1, .inl (g.2 0, 376, .inl al)), (q7, .inl (g.2 0, 200, .inl he)), (q8, .inl (g.2 0, 65, .inl ma))] sz)) 0 0 (va_A [(qM, .inr (9, [.int (F 0), .ref q1, .ref q2, .ref q3, .int (F 4), .int (F 5), .int (F 6), .int (F 7), .int (F 8), .int (F 9), .long (J 10), .int (F 11), .int (F 12), .int (F 13), .ref q4, .int (F 15), .ref q5, .ref q6, .ref q7, .int (F 19), .ref q8, .int (F 21), .int (F 22), .int (F 23), .int (F 24), .ref q9, .ref q10, .ref q11, .long (J 28)])), (q1, .inl (g.2 0, 376, .inl al)), (q7, .inl (g.2 0, 200, .inl he)), (q8, .inl (g.2 0, 65, .inl ma))] sz) := by
  refine Met.ofW (cc := cX9_leg) (maxL := 6) (ret := (some .int)) (by decide) rfl ?_
  intro p e s m args below meth c s₁ B hml hv'
  obtain ⟨rfl, hsz, hP, hG, hD0⟩ := hv'
  have S : CallFix p m c cX9_leg 6 s _ wsX9_leg RX9 := ⟨B.exec, B.bytes, hml, findClass_of_methodNamed B.named, atoms_spec (ws := wsX9_leg) B.pre⟩
  obtain ⟨hx, hb, hml, hown, hts⟩ := id S
  have hK := hG.1
  have hr := B.returns
  have hlocks := B.notSynchronized
  subst hsz
  have hD := hD0.self (sz := s.heap.size)
  generalize hAe : va_A [(qM, .inr (9, [.int (F 0), .ref q1, .ref q2, .ref q3, .int (F 4), .int (F 5), .int (F 6), .int (F 7), .int (F 8), .int (F 9), .long (J 10), .int (F 11), .int (F 12), .int (F 13), .ref q4, .int (F 15), .ref q5, .ref q6, .ref q7, .int (F 19), .ref q8, .int (F 21), .int (F 22), .int (F 23), .int (F 24), .ref q9, .ref q10, .ref q11, .long (J 28)])), (q1, .inl (g.2 0, 376, .inl al)), (q7, .inl (g.2 0, 200, .inl he)), (q8, .inl (g.2 0, 65, .inl ma))] s.heap.size = A at hD ⊢
  have hA : ∀ q : Nat, s.heap.size ≤ q → A q := fun q h => by rw [← hAe]; exact Or.inr h
  have hS : va_S A s.heap s.heap [] := va_S.rf
  clear hD0 hAe
  have hl := lv_entry ([.ref qM, .int p1, .int p2]) (n := 6) (Nat.le_of_ble_eq_true rfl)
  rw [lg_entry_eq]
  generalize (lg_sl ([.ref qM, .int p1, .int p2]) ++ List.replicate (6 - (lg_sl ([.ref qM, .int p1, .int p2])).length) Slot.unset).toArray = ls at hl ⊢
  have hl : lv_has ls 6 [(0, .ref qM), (1, .int p1), (2, .int p2)] := hl
  unfold vX9_leg at hv
  refine lv_aload_n hx hb dX9_leg_0 rfl (lv_at hl 0 rfl) ?_
  refine lv_iconst (v := (0 : Int32)) hx hb dX9_leg_1 (by decide) ?_
  refine va_put (D := g.1) (ci := 9) (v := .int (0 : Int32)) (ty := .int) (C := RX9) (T := TX9) (N := 29) hx hb hts inX9_leg_9 tyX9 tyX9_ok nmX9 hown hK hP hD hS 0 rfl rfl 0 (by decide) (hts (.fieldLink RX9 51 "RangeCodesModel" "raised" "I") (List.mem_of_getElem? (i := 1) rfl)) (fun _ h9 => h9) rfl (by decide +kernel) rfl rfl (Nat.le_of_ble_eq_true rfl) dX9_leg_2 (fun H locs hP hD hS => ?_)
  have hP : va_P g.1 vwCl [(qM, .inr (9, [.int (0 : Int32), .ref q1, .ref q2, .ref q3, .int (F 4), .int (F 5), .int (F 6), .int (F 7), .int (F 8), .int (F 9), .long (J 10), .int (F 11), .int (F 12), .int (F 13), .ref q4, .int (F 15), .ref q5, .ref q6, .ref q7, .int (F 19), .ref q8, .int (F 21), .int (F 22), .int (F 23), .int (F 24), .ref q9, .ref q10, .ref q11, .long (J 28)])), (q1, .inl (g.2 0, 376, .inl al)), (q7, .inl (g.2 0, 200, .inl he)), (q8, .inl (g.2 0, 65, .inl ma))] H := hP
  have hD : va_D A [(qM, .inr (9, [.int (0 : Int32), .ref q1, .ref q2, .ref q3, .int (F 4), .int (F 5), .int (F 6), .int (F 7), .int (F 8), .int (F 9), .long (J 10), .int (F 11), .int (F 12), .int (F 13), .ref q4, .int (F 15), .ref q5, .ref q6, .ref q7, .int (F 19), .ref q8, .int (F 21), .int (F 22), .int (F 23), .int (F 24), .ref q9, .ref q10, .ref q11, .long (J 28)])), (q1, .inl (g.2 0, 376, .inl al)), (q7, .inl (g.2 0, 200, .inl he)), (q8, .inl (g.2 0, 65, .inl ma))] := hD
  refine lv_iload_n hx hb dX9_leg_5 rfl (lv_at hl 1 rfl) ?_
  obtain ⟨ho_1, hv⟩ := hv
  refine vp_callSi (W.runS (As := [.int p1]) (rest := []) S (wX9_isLeg l g p1 (sX9_isLeg p1 ho_1)) (va_cwS 1 hts gX9_leg_X9_isLeg rfl rfl rfl (by decide +kernel) ⟨Nat.le_of_ble_eq_true rfl, Nat.le_of_ble_eq_true rfl⟩) ⟨blindRO, fun U hU hW => ⟨rfl, by rw [hU]; exact hP.sub (ws' := []) [] rfl, hG.warm hW⟩⟩ rfl rfl hl.1 rfl (lv_room (Nat.le_of_ble_eq_true rfl)) dX9_leg_6 ⟨Nat.le_of_ble_eq_true rfl, Nat.le_of_ble_eq_true rfl⟩) (fun r_6 hr_6 => ?_)
  have hv := hv r_6 hr_6
  obtain ⟨hvt, hvf⟩ := hv
  refine lv_if_eq (tgt := 22) hx hb dX9_leg_9 (by decide) (fun hc => ?_) (fun hc => ?_)
  · have hv := hvt hc
    refine lv_sipush (v := (-1000 : Int32)) hx hb dX9_leg_22 (by decide) ?_
    have hP9 := hP.sub (ws' := [(qM, .inr (9, [.int ((upd F 0 (0 : Int32)) 0), .ref q1, .ref q2, .ref q3, .int ((upd F 0 (0 : Int32)) 4), .int ((upd F 0 (0 : Int32)) 5), .int ((upd F 0 (0 : Int32)) 6), .int ((upd F 0 (0 : Int32)) 7), .int ((upd F 0 (0 : Int32)) 8), .int ((upd F 0 (0 : Int32)) 9), .long (J 10), .int ((upd F 0 (0 : Int32)) 11), .int ((upd F 0 (0 : Int32)) 12), .int ((upd F 0 (0 : Int32)) 13), .ref q4, .int ((upd F 0 (0 : Int32)) 15), .ref q5, .ref q6, .ref q7, .int ((upd F 0 (0 : Int32)) 19), .ref q8, .int ((upd F 0 (0 : Int32)) 21), .int ((upd F 0 (0 : Int32)) 22), .int ((upd F 0 (0 : Int32)) 23), .int ((upd F 0 (0 : Int32)) 24), .ref q9, .ref q10, .ref q11, .long (J 28)])), (q1, .inl (g.2 0, 376, .inl al)), (q7, .inl (g.2 0, 200, .inl he)), (q8, .inl (g.2 0, 65, .inl ma))]) [0, 1, 2, 3] rfl
    have hD9 := hD.sub (ws' := [(qM, .inr (9, [.int ((upd F 0 (0 : Int32)) 0), .ref q1, .ref q2, .ref q3, .int ((upd F 0 (0 : Int32)) 4), .int ((upd F 0 (0 : Int32)) 5), .int ((upd F 0 (0 : Int32)) 6), .int ((upd F 0 (0 : Int32)) 7), .int ((upd F 0 (0 : Int32)) 8), .int ((upd F 0 (0 : Int32)) 9), .long (J 10), .int ((upd F 0 (0 : Int32)) 11), .int ((upd F 0 (0 : Int32)) 12), .int ((upd F 0 (0 : Int32)) 13), .ref q4, .int ((upd F 0 (0 : Int32)) 15), .ref q5, .ref q6, .ref q7, .int ((upd F 0 (0 : Int32)) 19), .ref q8, .int ((upd F 0 (0 : Int32)) 21), .int ((upd F 0 (0 : Int32)) 22), .int ((upd F 0 (0 : Int32)) 23), .int ((upd F 0 (0 : Int32)) 24), .ref q9, .ref q10, .ref q11, .long (J 28)])), (q1, .inl (g.2 0, 376, .inl al)), (q7, .inl (g.2 0, 200, .inl he)), (q8, .inl (g.2 0, 65, .inl ma))]) [0, 1, 2, 3] (by decide) rfl
    exact W.iret (v := (-1000 : Int32)) hx hb hr (fun t ht hW => ⟨⟨_, ((upd F 0 (0 : Int32)), he, ma), rfl, hv, by rw [ht]; exact hP9, hD9⟩, hS.F ht⟩) hS.2.2 dX9_leg_25
  · have hv := hvf hc
    refine lv_iload_n hx hb dX9_leg_12 rfl (lv_at hl 2 rfl) ?_
    refine lv_iconst (v := (0 : Int32)) hx hb dX9_leg_13 (by decide) ?_
    refine lv_bipush (v := (10 : Int32)) hx hb dX9_leg_14 (by decide) ?_
    obtain ⟨ho_2, hv⟩ := hv
    refine vp_callSi (W.runS (As := [.int p2, .int (0 : Int32), .int (10 : Int32)]) (rest := []) S (wX9_in l g p2 (0 : Int32) (10 : Int32) (sX9_in p2 (0 : Int32) (10 : Int32) ho_2)) (va_cwS 3 hts gX9_leg_X9_in rfl rfl rfl (by decide +kernel) ⟨Nat.le_of_ble_eq_true rfl, Nat.le_of_ble_eq_true rfl⟩) ⟨blindRO, fun U hU hW => ⟨rfl, by rw [hU]; exact hP.sub (ws' := []) [] rfl, hG.warm hW⟩⟩ rfl rfl hl.1 rfl (lv_room (Nat.le_of_ble_eq_true rfl)) dX9_leg_16 ⟨Nat.le_of_ble_eq_true rfl, Nat.le_of_ble_eq_true rfl⟩) (fun r_16 hr_16 => ?_)
    have hv := hv r_16 hr_16
    obtain ⟨hvt, hvf⟩ := hv
    refine lv_if_ne (tgt := 26) hx hb dX9_leg_19 (by decide) (fun hc => ?_) (fun hc => ?_)
    · have hv := hvt hc
      refine lv_iload_n hx hb dX9_leg_26 rfl (lv_at hl 2 rfl) ?_
      refine lv_iconst (v := (5 : Int32)) hx hb dX9_leg_27 (by decide) ?_
      obtain ⟨hvt, hvf⟩ := hv
      refine lv_icmp_gt (tgt := 38) hx hb dX9_leg_28 (by decide) (fun hc => ?_) (fun hc => ?_)
      · have hv := hvt hc
        refine lv_iconst (v := (0 : Int32)) hx hb dX9_leg_38 (by decide) ?_
        refine lv_istore_n (lv' := [(3, .int (0 : Int32)), (0, .ref qM), (1, .int p1), (2, .int p2)]) hx hb dX9_leg_39 rfl hl (by decide) rfl (fun ls hl => ?_)
        refine lv_iconst (v := (0 : Int32)) hx hb dX9_leg_40 (by decide) ?_
        refine lv_istore (lv' := [(4, .int (0 : Int32)), (3, .int (0 : Int32)), (0, .ref qM), (1, .int p1), (2, .int p2)]) hx hb dX9_leg_41 hl (by decide) rfl (fun ls hl => ?_)
        obtain ⟨nn, hv⟩ := hv
        exact kX9_leg_c43 S hr hlocks hG hA nn _ _ _ _ _ hv _ _ (hP.sub (ws' := [(qM, .inr (9, [.int ((upd F 0 (0 : Int32)) 0), .ref q1, .ref q2, .ref q3, .int ((upd F 0 (0 : Int32)) 4), .int ((upd F 0 (0 : Int32)) 5), .int ((upd F 0 (0 : Int32)) 6), .int ((upd F 0 (0 : Int32)) 7), .int ((upd F 0 (0 : Int32)) 8), .int ((upd F 0 (0 : Int32)) 9), .long (J 10), .int ((upd F 0 (0 : Int32)) 11), .int ((upd F 0 (0 : Int32)) 12), .int ((upd F 0 (0 : Int32)) 13), .ref q4, .int ((upd F 0 (0 : Int32)) 15), .ref q5, .ref q6, .ref q7, .int ((upd F 0 (0 : Int32)) 19), .ref q8, .int ((upd F 0 (0 : Int32)) 21), .int ((upd F 0 (0 : Int32)) 22), .int ((upd F 0 (0 : Int32)) 23), .int ((upd F 0 (0 : Int32)) 24), .ref q9, .ref q10, .ref q11, .long (J 28)])), (q1, .inl (g.2 0, 376, .inl al)), (q7, .inl (g.2 0, 200, .inl he)), (q8, .inl (g.2 0, 65, .inl ma))]) [0, 1, 2, 3] rfl) (hD.sub (ws' := [(qM, .inr (9, [.int ((upd F 0 (0 : Int32)) 0), .ref q1, .ref q2, .ref q3, .int ((upd F 0 (0 : Int32)) 4), .int ((upd F 0 (0 : Int32)) 5), .int ((upd F 0 (0 : Int32)) 6), .int ((upd F 0 (0 : Int32)) 7), .int ((upd F 0 (0 : Int32)) 8), .int ((upd F 0 (0 : Int32)) 9), .long (J 10), .int ((upd F 0 (0 : Int32)) 11), .int ((upd F 0 (0 : Int32)) 12), .int ((upd F 0 (0 : Int32)) 13), .ref q4, .int ((upd F 0 (0 : Int32)) 15), .ref q5, .ref q6, .ref q7, .int ((upd F 0 (0 : Int32)) 19), .ref q8, .int ((upd F 0 (0 : Int32)) 21), .int ((upd F 0 (0 : Int32)) 22), .int ((upd F 0 (0 : Int32)) 23), .int ((upd F 0 (0 : Int32)) 24), .ref q9, .ref q10, .ref q11, .long (J 28)])), (q1, .inl (g.2 0, 376, .inl al)), (q7, .inl (g.2 0, 200, .inl he)), (q8, .inl (g.2 0, 65, .inl ma))]) [0, 1, 2, 3] (by decide) rfl) hS ls (lv_sub hl [2, 3, 4, 1, 0] rfl)
      · have hv := hvf hc
        refine lv_aload_n hx hb dX9_leg_31 rfl (lv_at hl 0 rfl) ?_
        refine lv_iload_n hx hb dX9_leg_32 rfl (lv_at hl 1 rfl) ?_
        refine lv_iload_n hx hb dX9_leg_33 rfl (lv_at hl 2 rfl) ?_
        obtain ⟨p_34, w_34, ho_3, hv⟩ := hv
        refine vp_callSi (W.runV (As := [.int p1, .int p2]) (rest := []) S (wX9_ofLeg l g qM q1 q2 q3 q4 q5 q6 q7 q8 q9 q10 q11 (upd F 0 (0 : Int32)) J al p1 p2 (sX9_ofLeg p_34 w_34 (upd F 0 (0 : Int32)) J al p1 p2 ho_3)) (cwV 2 hts gX9_leg_X9_ofLeg rfl rfl rfl (by decide +kernel) ⟨Nat.le_of_ble_eq_true rfl, Nat.le_of_ble_eq_true rfl⟩) ⟨blindRO, va_recv hK hP (ci := 9) (q0 := 0) rfl rfl, fun U hU hW => ⟨rfl, by rw [hU]; exact hP.sub (ws' := [(qM, .inr (9, [.int ((upd F 0 (0 : Int32)) 0), .ref q1, .ref q2, .ref q3, .int ((upd F 0 (0 : Int32)) 4), .int ((upd F 0 (0 : Int32)) 5), .int ((upd F 0 (0 : Int32)) 6), .int ((upd F 0 (0 : Int32)) 7), .int ((upd F 0 (0 : Int32)) 8), .int ((upd F 0 (0 : Int32)) 9), .long (J 10), .int ((upd F 0 (0 : Int32)) 11), .int ((upd F 0 (0 : Int32)) 12), .int ((upd F 0 (0 : Int32)) 13), .ref q4, .int ((upd F 0 (0 : Int32)) 15), .ref q5, .ref q6, .ref q7, .int ((upd F 0 (0 : Int32)) 19), .ref q8, .int ((upd F 0 (0 : Int32)) 21), .int ((upd F 0 (0 : Int32)) 22), .int ((upd F 0 (0 : Int32)) 23), .int ((upd F 0 (0 : Int32)) 24), .ref q9, .ref q10, .ref q11, .long (J 28)])), (q1, .inl (g.2 0, 376, .inl al))]) [0, 1] rfl, hG.warm hW⟩⟩ rfl rfl hl.1 rfl (lv_room (Nat.le_of_ble_eq_true rfl)) dX9_leg_34 ⟨Nat.le_of_ble_eq_true rfl, Nat.le_of_ble_eq_true rfl⟩) (fun r_34 hr_34 => ?_)
        have hv := hv r_34 hr_34
        have hP9 := hP.sub (ws' := [(qM, .inr (9, [.int ((upd F 0 (0 : Int32)) 0), .ref q1, .ref q2, .ref q3, .int ((upd F 0 (0 : Int32)) 4), .int ((upd F 0 (0 : Int32)) 5), .int ((upd F 0 (0 : Int32)) 6), .int ((upd F 0 (0 : Int32)) 7), .int ((upd F 0 (0 : Int32)) 8), .int ((upd F 0 (0 : Int32)) 9), .long (J 10), .int ((upd F 0 (0 : Int32)) 11), .int ((upd F 0 (0 : Int32)) 12), .int ((upd F 0 (0 : Int32)) 13), .ref q4, .int ((upd F 0 (0 : Int32)) 15), .ref q5, .ref q6, .ref q7, .int ((upd F 0 (0 : Int32)) 19), .ref q8, .int ((upd F 0 (0 : Int32)) 21), .int ((upd F 0 (0 : Int32)) 22), .int ((upd F 0 (0 : Int32)) 23), .int ((upd F 0 (0 : Int32)) 24), .ref q9, .ref q10, .ref q11, .long (J 28)])), (q1, .inl (g.2 0, 376, .inl al)), (q7, .inl (g.2 0, 200, .inl he)), (q8, .inl (g.2 0, 65, .inl ma))]) [0, 1, 2, 3] rfl
        have hD9 := hD.sub (ws' := [(qM, .inr (9, [.int ((upd F 0 (0 : Int32)) 0), .ref q1, .ref q2, .ref q3, .int ((upd F 0 (0 : Int32)) 4), .int ((upd F 0 (0 : Int32)) 5), .int ((upd F 0 (0 : Int32)) 6), .int ((upd F 0 (0 : Int32)) 7), .int ((upd F 0 (0 : Int32)) 8), .int ((upd F 0 (0 : Int32)) 9), .long (J 10), .int ((upd F 0 (0 : Int32)) 11), .int ((upd F 0 (0 : Int32)) 12), .int ((upd F 0 (0 : Int32)) 13), .ref q4, .int ((upd F 0 (0 : Int32)) 15), .ref q5, .ref q6, .ref q7, .int ((upd F 0 (0 : Int32)) 19), .ref q8, .int ((upd F 0 (0 : Int32)) 21), .int ((upd F 0 (0 : Int32)) 22), .int ((upd F 0 (0 : Int32)) 23), .int ((upd F 0 (0 : Int32)) 24), .ref q9, .ref q10, .ref q11, .long (J 28)])), (q1, .inl (g.2 0, 376, .inl al)), (q7, .inl (g.2 0, 200, .inl he)), (q8, .inl (g.2 0, 65, .inl ma))]) [0, 1, 2, 3] (by decide) rfl
        exact W.iret (v := r_34) hx hb hr (fun t ht hW => ⟨⟨_, ((upd F 0 (0 : Int32)), he, ma), rfl, hv, by rw [ht]; exact hP9, hD9⟩, hS.F ht⟩) hS.2.2 dX9_leg_37
    · have hv := hvf hc
      refine lv_sipush (v := (-1000 : Int32)) hx hb dX9_leg_22 (by decide) ?_
      have hP9 := hP.sub (ws' := [(qM, .inr (9, [.int ((upd F 0 (0 : Int32)) 0), .ref q1, .ref q2, .ref q3, .int ((upd F 0 (0 : Int32)) 4), .int ((upd F 0 (0 : Int32)) 5), .int ((upd F 0 (0 : Int32)) 6), .int ((upd F 0 (0 : Int32)) 7), .int ((upd F 0 (0 : Int32)) 8), .int ((upd F 0 (0 : Int32)) 9), .long (J 10), .int ((upd F 0 (0 : Int32)) 11), .int ((upd F 0 (0 : Int32)) 12), .int ((upd F 0 (0 : Int32)) 13), .ref q4, .int ((upd F 0 (0 : Int32)) 15), .ref q5, .ref q6, .ref q7, .int ((upd F 0 (0 : Int32)) 19), .ref q8, .int ((upd F 0 (0 : Int32)) 21), .int ((upd F 0 (0 : Int32)) 22), .int ((upd F 0 (0 : Int32)) 23), .int ((upd F 0 (0 : Int32)) 24), .ref q9, .ref q10, .ref q11, .long (J 28)])), (q1, .inl (g.2 0, 376, .inl al)), (q7, .inl (g.2 0, 200, .inl he)), (q8, .inl (g.2 0, 65, .inl ma))]) [0, 1, 2, 3] rfl
      have hD9 := hD.sub (ws' := [(qM, .inr (9, [.int ((upd F 0 (0 : Int32)) 0), .ref q1, .ref q2, .ref q3, .int ((upd F 0 (0 : Int32)) 4), .int ((upd F 0 (0 : Int32)) 5), .int ((upd F 0 (0 : Int32)) 6), .int ((upd F 0 (0 : Int32)) 7), .int ((upd F 0 (0 : Int32)) 8), .int ((upd F 0 (0 : Int32)) 9), .long (J 10), .int ((upd F 0 (0 : Int32)) 11), .int ((upd F 0 (0 : Int32)) 12), .int ((upd F 0 (0 : Int32)) 13), .ref q4, .int ((upd F 0 (0 : Int32)) 15), .ref q5, .ref q6, .ref q7, .int ((upd F 0 (0 : Int32)) 19), .ref q8, .int ((upd F 0 (0 : Int32)) 21), .int ((upd F 0 (0 : Int32)) 22), .int ((upd F 0 (0 : Int32)) 23), .int ((upd F 0 (0 : Int32)) 24), .ref q9, .ref q10, .ref q11, .long (J 28)])), (q1, .inl (g.2 0, 376, .inl al)), (q7, .inl (g.2 0, 200, .inl he)), (q8, .inl (g.2 0, 65, .inl ma))]) [0, 1, 2, 3] (by decide) rfl
      exact W.iret (v := (-1000 : Int32)) hx hb hr (fun t ht hW => ⟨⟨_, ((upd F 0 (0 : Int32)), he, ma), rfl, hv, by rw [ht]; exact hP9, hD9⟩, hS.F ht⟩) hS.2.2 dX9_leg_25
def lgN (G : Lg) (w : Int) : Nat → Nat
  | 0 => 0
  | j + 1 => lgN G w j + if (w = 6 ∧ gk G j = 0) ∨ (w = 7 ∧ gk G j = 3) ∨ (w = 8 ∧ (gk G j = 1 ∨ gk G j = 2)) then 1 else 0
theorem lgN_le (G : Lg) (w : Int) : ∀ j, lgN G w j ≤ j
  | 0 => Nat.le_refl 0
  | j + 1 => by have := lgN_le G w j; rw [lgN]; split <;> omega
theorem lgN_6 (G : Lg) : ∀ j, lgN G 6 j = ctK G 0 j
  | 0 => rfl
  | j + 1 => by rw [lgN, ctK, lgN_6 G j]; simp
theorem lgN_7 (G : Lg) : ∀ j, lgN G 7 j = ctK G 3 j
  | 0 => rfl
  | j + 1 => by rw [lgN, ctK, lgN_7 G j]; simp
theorem lgN_8 (G : Lg) : ∀ j, lgN G 8 j = ctK G 1 j + ctK G 2 j
  | 0 => rfl
  | j + 1 => by
    rw [lgN, ctK, ctK, lgN_8 G j]
    by_cases a : gk G j = 1
    · simp [a]; omega
    · by_cases c : gk G j = 2
      · simp [c]; omega
      · simp [a, c]
theorem lgN_9 (G : Lg) {w : Int} (h : 8 < w) : ∀ j, lgN G w j = 0
  | 0 => rfl
  | j + 1 => by rw [lgN, lgN_9 G h j, if_neg (fun q => by rcases q with q | q | q <;> omega)]
theorem sX9_leg_138 (h : Nat → Nat) (G : Lg) (l : Nat) (F : Nat → Int32) (J : Nat → Int64) (al : Nat → Int32) (he : Nat → Int32) (ma : Nat → Int32) (p1 : Int32) (p2 : Int32) (hG : mG G l al) (e1 : p1.toInt = (l : Int)) (hl2 : l < 2) (hH : isH h (gmn G) he) (Q : Int32 → (Nat → Int32) → (Nat → Int32) → (Nat → Int32) → Prop) (hQ : ∀ r : Int32, r.toInt = ((hcN h 1 (gmn G) + (if p2.toInt = 9 then hcN h 0 (gmn G) else 0) : Nat) : Int) → Q r F he ma) : ∀ (n i : Nat) (x3 x4 : Int32), x3.toInt = ((hcN h 1 i + (if p2.toInt = 9 then hcN h 0 i else 0) : Nat) : Int) → x4.toInt = (i : Int) → i ≤ gmn G → gmn G + 1 ≤ i + n → vX9_leg_c138 J al p1 p2 Q n x3 x4 F he ma
  | 0, i, x3, x4, _, _, hi, hn => absurd hn (by omega)
  | n + 1, i, x3, x4, h3, h4, hi, hn => by
    have hmn := mG_mn hG
    have b1 := hcN_le h 1 i
    have b0 := hcN_le h 0 i
    have bb : (hcN h 1 i + (if p2.toInt = 9 then hcN h 0 i else 0)) ≤ 1000 := by split <;> omega
    have h4s := q_1 h4 (by omega)
    rw [vX9_leg_c138]
    refine ⟨l, 3, ⟨e1, rfl, by omega⟩, fun r hr => ?_⟩
    have hr : r.toInt = (gmn G : Int) := by rw [hr]; exact hmn.1
    rw [q_le hr h4]
    refine ⟨fun hc => ?_, fun hc => ⟨q_in h4 (by omega), ?_⟩⟩
    · have : i = gmn G := by omega
      subst this
      exact hQ _ h3
    · have hh := hH i (by omega)
      rw [q_cl h4, q_eq hh.1 z1, q_eq hh.1 z0, fa_eq p2, z9]
      have go : ∀ (x : Int32), x.toInt = ((hcN h 1 (i + 1) + (if p2.toInt = 9 then hcN h 0 (i + 1) else 0) : Nat) : Int) → vX9_leg_c138 J al p1 p2 Q n x (x4 + (1 : Int32)) F he ma := fun x hx => sX9_leg_138 h G l F J al he ma p1 p2 hG e1 hl2 hH Q hQ n (i + 1) _ _ hx h4s (by omega) (by omega)
      have e10 : hcN h 1 (i + 1) = hcN h 1 i + if h i = 1 then 1 else 0 := rfl
      have e00 : hcN h 0 (i + 1) = hcN h 0 i + if h i = 0 then 1 else 0 := rfl
      refine ⟨fun hq => go _ ?_, fun hq => ⟨fun h9 => go _ ?_, fun h9 => ⟨q_in h4 (by omega), fun hz => go _ ?_, fun hz => go _ ?_⟩⟩⟩
      · rw [e10, e00, if_pos (show h i = 1 by omega), if_neg (show ¬ h i = 0 by omega), q_1 h3 (by omega)]
        split <;> omega
      · rw [e10, if_neg (show ¬ h i = 1 by omega), if_neg h9, Int32.add_zero, h3, if_neg h9]
      · rw [e10, e00, if_neg (show ¬ h i = 1 by omega), if_neg (show ¬ h i = 0 by omega), Int32.add_zero, h3]; rfl
      · rw [e10, e00, if_neg (show ¬ h i = 1 by omega), if_pos (show h i = 0 by omega), q_1 h3 (by omega), if_pos h9, if_pos h9]
        omega
theorem sX9_leg_43 (T : Cd) (G0 G1 : Lg) (lim l : Nat) (F : Nat → Int32) (J : Nat → Int64) (al : Nat → Int32) (he : Nat → Int32) (ma : Nat → Int32) (p1 : Int32) (p2 : Int32) (H : fcR T G0 G1 lim al) (e1 : p1.toInt = (l : Int)) (hl2 : l < 2) (hw : 6 ≤ p2.toInt ∧ p2.toInt ≤ 10) (Q : Int32 → (Nat → Int32) → (Nat → Int32) → (Nat → Int32) → Prop) (hQ : ∀ (r : Int32) F' he' ma', r.toInt = spLeg T G0 G1 lim p1.toInt p2.toInt → Q r F' he' ma') : ∀ (n i : Nat) (x3 x4 : Int32), x3.toInt = ((lgN (pkG G0 G1 l) p2.toInt i : Nat) : Int) → x4.toInt = (i : Int) → i ≤ gm (pkG G0 G1 l) → gm (pkG G0 G1 l) + 1 ≤ i + n → vX9_leg_c43 J al p1 p2 Q n x3 x4 F he ma
  | 0, i, x3, x4, _, _, hi, hn => absurd hn (by omega)
  | n + 1, i, x3, x4, h3, h4, hi, hn => by
    obtain ⟨hT, h0, h1, hlim, hl9, hl1⟩ := id H
    have hG := pk_mG h0 h1 hl2
    have hmk := mG_mk hG
    have hll := lgN_le (pkG G0 G1 l) p2.toInt i
    have hc2 : p1.toInt = 0 ∨ p1.toInt = 1 := by omega
    have el : p1.toInt.toNat = l := by omega
    have h4s := q_1 h4 (by omega)
    rw [vX9_leg_c43]
    refine ⟨l, 6, ⟨e1, rfl, by omega⟩, fun r hr => ?_⟩
    have hr : r.toInt = (gm (pkG G0 G1 l) : Int) := by rw [hr]; exact hmk.1
    rw [q_le hr h4]
    refine ⟨fun hc => ?_, fun hc => ⟨l, 7 + 3 * i, ⟨e1, q_7 h4 (by omega), by omega⟩, fun r2 hr2 => ?_⟩⟩
    · have : i = gm (pkG G0 G1 l) := by omega
      subst this
      rw [fa_le p2, z8]
      refine ⟨fun h8 => hQ _ _ _ _ ?_, fun h8 => ⟨T, G0, G1, p1.toInt.toNat, lim, fcR_ll H _ _ _ _ hc2, fun F2 he2 ma2 hq => ?_⟩⟩
      · unfold spLeg
        rw [if_pos ⟨hc2, by omega, by omega⟩, if_neg (by omega), el, h3]
        rcases (show p2.toInt = 6 ∨ p2.toInt = 7 ∨ p2.toInt = 8 by omega) with z | z | z
        · rw [z, if_pos rfl, lgN_6]
        · rw [z, if_neg (by omega), if_pos rfl, lgN_7]
        · rw [z, if_neg (by omega), if_neg (by omega), if_pos rfl, lgN_8]
      · have h2 := rlC_of hq
        rw [el] at h2
        refine ⟨gmn (pkG G0 G1 l) + 1, sX9_leg_138 (hN T G0 G1 lim l) (pkG G0 G1 l) l F2 J al he2 ma2 p1 p2 hG e1 hl2 h2.1 Q (fun r4 hr4 => hQ _ _ _ _ ?_) _ 0 _ _ ?_ rfl (by omega) (by omega)⟩
        · unfold spLeg
          rw [if_pos ⟨hc2, by omega, by omega⟩, if_neg (by omega), el, if_neg (by omega), if_neg (by omega), if_neg (by omega), hr4]
          by_cases z : p2.toInt = 9
          · rw [if_pos z, if_pos z]
          · rw [if_neg z, if_neg z]; rfl
        · rw [h3, lgN_9 _ (by omega)]
          split <;> rfl
    · have hat := mG_at hG (j := i) (by omega)
      have hr2 : r2.toInt = (gk (pkG G0 G1 l) i : Int) := by rw [hr2]; exact hat.1
      have go : ∀ (x : Int32), x.toInt = ((lgN (pkG G0 G1 l) p2.toInt (i + 1) : Nat) : Int) → vX9_leg_c43 J al p1 p2 Q n x (x4 + (1 : Int32)) F he ma := fun x hx => sX9_leg_43 T G0 G1 lim l F J al he ma p1 p2 H e1 hl2 hw Q hQ n (i + 1) _ _ hx h4s (by omega) (by omega)
      have no : ¬ ((p2.toInt = 6 ∧ gk (pkG G0 G1 l) i = 0) ∨ (p2.toInt = 7 ∧ gk (pkG G0 G1 l) i = 3) ∨ (p2.toInt = 8 ∧ (gk (pkG G0 G1 l) i = 1 ∨ gk (pkG G0 G1 l) i = 2))) → (x3 + (0 : Int32)).toInt = ((lgN (pkG G0 G1 l) p2.toInt (i + 1) : Nat) : Int) := fun q => by
        rw [lgN, if_neg q, Int32.add_zero]; exact h3
      have yes : ((p2.toInt = 6 ∧ gk (pkG G0 G1 l) i = 0) ∨ (p2.toInt = 7 ∧ gk (pkG G0 G1 l) i = 3) ∨ (p2.toInt = 8 ∧ (gk (pkG G0 G1 l) i = 1 ∨ gk (pkG G0 G1 l) i = 2))) → (x3 + (1 : Int32)).toInt = ((lgN (pkG G0 G1 l) p2.toInt (i + 1) : Nat) : Int) := fun q => by
        rw [lgN, if_pos q]; exact q_1 h3 (by omega)
      have c93 : ¬ (p2.toInt = 6 ∧ gk (pkG G0 G1 l) i = 0) → ¬ (p2.toInt = 7 ∧ gk (pkG G0 G1 l) i = 3) → vX9_leg_c93 J al p1 p2 Q (vX9_leg_c43 J al p1 p2 Q n) x4 r2 x3 F he ma := by
        intro n6 n7
        unfold vX9_leg_c93
        rw [fa_eq p2, z8, q_eq hr2 z1, q_eq hr2 z2]
        refine ⟨fun q => go _ (no ?_), fun q => ⟨fun q1 => go _ (yes ?_), fun q1 => ⟨fun q2 => go _ (no ?_), fun q2 => go _ (yes ?_)⟩⟩⟩
        · intro z; rcases z with z | z | z
          · exact n6 z
          · exact n7 z
          · exact q z.1
        · exact Or.inr (Or.inr ⟨q, Or.inl (by omega)⟩)
        · intro z; rcases z with z | z | z
          · exact n6 z
          · exact n7 z
          · rcases z.2 with z | z <;> omega
        · exact Or.inr (Or.inr ⟨q, Or.inr (by omega)⟩)
      have c81 : ¬ (p2.toInt = 6 ∧ gk (pkG G0 G1 l) i = 0) → vX9_leg_c81 J al p1 p2 Q (vX9_leg_c43 J al p1 p2 Q n) x4 r2 x3 F he ma := by
        intro n6
        unfold vX9_leg_c81
        rw [fa_eq p2, z7, q_eq hr2 z3]
        refine ⟨fun q => c93 n6 (fun z => q z.1), fun q => ⟨fun q1 => go _ (yes (Or.inr (Or.inl ⟨q, by omega⟩))), fun q1 => c93 n6 (fun z => q1 (by omega))⟩⟩
      rw [fa_eq p2, z6, q_eq hr2 z0]
      exact ⟨fun q => c81 (fun z => q z.1), fun q => ⟨fun q0 => go _ (yes (Or.inl ⟨q, by omega⟩)), fun q0 => c81 (fun z => q0 (by omega))⟩⟩
abbrev preX9_leg (T : Cd) (G0 : Lg) (G1 : Lg) (lim : Nat) (F : Nat → Int32) (J : Nat → Int64) (al : Nat → Int32) (he : Nat → Int32) (ma : Nat → Int32) (p1 : Int32) (p2 : Int32) : Prop := fcR T G0 G1 lim al
abbrev postX9_leg (T : Cd) (G0 : Lg) (G1 : Lg) (lim : Nat) (F : Nat → Int32) (J : Nat → Int64) (al : Nat → Int32) (he : Nat → Int32) (ma : Nat → Int32) (p1 : Int32) (p2 : Int32) (r : Int32) (F' : Nat → Int32) (he' : Nat → Int32) (ma' : Nat → Int32) : Prop := r.toInt = spLeg T G0 G1 lim p1.toInt p2.toInt
theorem sX9_leg (T : Cd) (G0 : Lg) (G1 : Lg) (lim : Nat) (F : Nat → Int32) (J : Nat → Int64) (al : Nat → Int32) (he : Nat → Int32) (ma : Nat → Int32) (p1 : Int32) (p2 : Int32) (H : preX9_leg T G0 G1 lim F J al he ma p1 p2) : vX9_leg F J al he ma p1 p2 (postX9_leg T G0 G1 lim F J al he ma p1 p2) := by
  obtain ⟨hT, h0, h1, hlim, hl9, hl1⟩ := id H
  refine ⟨trivial, fun r hr => ?_⟩
  have hr : r = if p1.toInt = 0 ∨ p1.toInt = 1 then 1 else 0 := hr
  rw [hr, q_if1]
  refine ⟨fun hc => by unfold postX9_leg spLeg; rw [if_neg (fun q => hc q.1)]; rfl, fun hc => ⟨trivial, fun r2 hr2 => ?_⟩⟩
  have hc := Decidable.not_not.mp hc
  have hr2 : r2 = if 0 ≤ p2.toInt ∧ p2.toInt ≤ 10 then 1 else 0 := hr2
  rw [hr2, q_if1]
  refine ⟨fun hd => ?_, fun hd => by unfold postX9_leg spLeg; rw [if_neg (fun q => hd q.2)]; rfl⟩
  have hd := Decidable.not_not.mp hd
  have hG := pk_mG h0 h1 (l := p1.toInt.toNat) (by omega)
  rw [fa_lt _ p2, z5]
  refine ⟨fun h5 => ⟨gm (pkG G0 G1 p1.toInt.toNat) + 1, sX9_leg_43 T G0 G1 lim p1.toInt.toNat _ J al he ma p1 p2 H (by omega) (by omega) (by omega) _ (fun r4 F' he' ma' h => h) _ 0 _ _ rfl rfl (by omega) (by omega)⟩, fun h5 => ⟨p1.toInt.toNat, p2.toInt.toNat, ⟨by omega, by omega, by omega⟩, fun r3 hr3 => ?_⟩⟩
  have hr3 : r3 = al (20 + 37 * p1.toInt.toNat + p2.toInt.toNat) := hr3
  unfold postX9_leg spLeg
  rw [if_pos ⟨hc, hd⟩, if_pos (by omega), hr3]
  exact mG_nu hG (by omega)
