set_option maxRecDepth 20000 in
theorem ggX9_legLine_X9_token : GoodIn wsX9_legLine wsX9_token := goodIn_r _ [10, 11, 12, 2, 1, 13, 14, 15, 16, 17, 9, 18, 19, 20, 21, 22, 23, 65, 66, 67, 68, 69, 70, 71, 72, 73, 74, 75, 76, 77, 78, 79, 80, 81, 82, 83, 84, 85, 86, 87, 88, 89, 90, 91, 92, 93] (by decide +kernel) (by decide +kernel)
set_option maxRecDepth 20000 in
theorem gX9_legLine_X9_token : GoodIn wsX9_legLine (wsV RX9 115 RX9 yX9_token wsX9_token) := goodIn_app (goodIn_of _ (by decide +kernel)) ggX9_legLine_X9_token
set_option maxRecDepth 20000 in
theorem ggX9_legLine_X9_markOf : GoodIn wsX9_legLine wsX9_markOf := goodIn_r _ [26, 27, 28, 29, 30] (by decide +kernel) (by decide +kernel)
set_option maxRecDepth 20000 in
theorem gX9_legLine_X9_markOf : GoodIn wsX9_legLine (va_wsS RX9 147 yX9_markOf wsX9_markOf) := goodIn_app (goodIn_of _ (by decide +kernel)) ggX9_legLine_X9_markOf
set_option maxRecDepth 20000 in
theorem ggX9_legLine_X9_markLine : GoodIn wsX9_legLine wsX9_markLine := goodIn_r _ [34, 3, 12, 5, 35, 36, 37, 9, 38, 39, 40, 6, 7, 8, 10, 11, 2, 1, 13, 14, 15, 16, 17, 18, 19, 20, 21, 22, 23, 41, 42, 43, 44, 45, 46, 47, 48, 49, 65, 66, 67, 68, 69, 70, 71, 72, 73, 74, 75, 76, 77, 78, 79, 80, 81, 82, 83, 84, 85, 86, 87, 88, 89, 90, 91, 92, 93] (by decide +kernel) (by decide +kernel)
set_option maxRecDepth 20000 in
theorem gX9_legLine_X9_markLine : GoodIn wsX9_legLine (wsV RX9 151 RX9 yX9_markLine wsX9_markLine) := goodIn_app (goodIn_of _ (by decide +kernel)) ggX9_legLine_X9_markLine
set_option maxRecDepth 20000 in
theorem ggX9_legLine_X9_settingOf : GoodIn wsX9_legLine wsX9_settingOf := goodIn_r _ [52, 53, 54, 4, 55, 56, 57, 58] (by decide +kernel) (by decide +kernel)
set_option maxRecDepth 20000 in
theorem gX9_legLine_X9_settingOf : GoodIn wsX9_legLine (va_wsS RX9 154 yX9_settingOf wsX9_settingOf) := goodIn_app (goodIn_of _ (by decide +kernel)) ggX9_legLine_X9_settingOf
set_option maxRecDepth 20000 in
theorem ggX9_legLine_X9_fails : GoodIn wsX9_legLine wsX9_fails := goodIn_r _ [48, 12, 49, 65, 66, 67, 68, 69, 70, 71, 72, 73, 74, 75, 76, 77, 78, 79, 80, 81, 82, 83, 84, 85, 86, 87, 88, 89, 90, 91, 92, 93] (by decide +kernel) (by decide +kernel)
set_option maxRecDepth 20000 in
theorem gX9_legLine_X9_fails : GoodIn wsX9_legLine (wsV RX9 104 RX9 yX9_fails wsX9_fails) := goodIn_app (goodIn_of _ (by decide +kernel)) ggX9_legLine_X9_fails
set_option maxRecDepth 20000 in
theorem ggX9_legLine_X9_leastOf : GoodIn wsX9_legLine wsX9_leastOf := goodIn_r _ [61] (by decide +kernel) (by decide +kernel)
set_option maxRecDepth 20000 in
theorem gX9_legLine_X9_leastOf : GoodIn wsX9_legLine (va_wsS RX9 157 yX9_leastOf wsX9_leastOf) := goodIn_app (goodIn_of _ (by decide +kernel)) ggX9_legLine_X9_leastOf
set_option maxRecDepth 20000 in
theorem ggX9_legLine_X9_mostOf : GoodIn wsX9_legLine wsX9_mostOf := goodIn_r _ [64] (by decide +kernel) (by decide +kernel)
set_option maxRecDepth 20000 in
theorem gX9_legLine_X9_mostOf : GoodIn wsX9_legLine (va_wsS RX9 161 yX9_mostOf wsX9_mostOf) := goodIn_app (goodIn_of _ (by decide +kernel)) ggX9_legLine_X9_mostOf
set_option maxRecDepth 20000 in
theorem ggX9_legLine_X9_takes : GoodIn wsX9_legLine wsX9_takes := goodIn_r _ [44, 1, 14, 5, 12, 45, 46, 47, 9, 48, 49, 21, 22, 23, 35, 36, 37, 38, 39, 40, 6, 7, 8, 10, 11, 2, 13, 15, 16, 17, 18, 19, 20, 65, 66, 67, 68, 69, 70, 71, 72, 73, 74, 75, 76, 77, 78, 79, 80, 81, 82, 83, 84, 85, 86, 87, 88, 89, 90, 91, 92, 93] (by decide +kernel) (by decide +kernel)
set_option maxRecDepth 20000 in
theorem gX9_legLine_X9_takes : GoodIn wsX9_legLine (wsV RX9 121 RX9 yX9_takes wsX9_takes) := goodIn_app (goodIn_of _ (by decide +kernel)) ggX9_legLine_X9_takes
theorem dX9_legLine_0 : decode cX9_legLine 0 = .ok (.aload_n 0, 1) := by decide +kernel
theorem dX9_legLine_1 : decode cX9_legLine 1 = .ok (.invokevirtual 115, 3) := by decide +kernel
theorem dX9_legLine_4 : decode cX9_legLine 4 = .ok (.aload_n 0, 1) := by decide +kernel
theorem dX9_legLine_5 : decode cX9_legLine 5 = .ok (.getfield 86, 3) := by decide +kernel
theorem dX9_legLine_8 : decode cX9_legLine 8 = .ok (.iconst 2, 1) := by decide +kernel
theorem dX9_legLine_9 : decode cX9_legLine 9 = .ok (.if_icmp .ne 10, 3) := by decide +kernel
theorem dX9_legLine_12 : decode cX9_legLine 12 = .ok (.aload_n 0, 1) := by decide +kernel
theorem dX9_legLine_13 : decode cX9_legLine 13 = .ok (.getfield 82, 3) := by decide +kernel
theorem dX9_legLine_16 : decode cX9_legLine 16 = .ok (.goto 4, 3) := by decide +kernel
theorem dX9_legLine_19 : decode cX9_legLine 19 = .ok (.lconst 0, 1) := by decide +kernel
theorem dX9_legLine_20 : decode cX9_legLine 20 = .ok (.lstore_n 2, 1) := by decide +kernel
theorem dX9_legLine_21 : decode cX9_legLine 21 = .ok (.lload_n 2, 1) := by decide +kernel
theorem dX9_legLine_22 : decode cX9_legLine 22 = .ok (.invokestatic 147, 3) := by decide +kernel
theorem dX9_legLine_25 : decode cX9_legLine 25 = .ok (.iconst (-1), 1) := by decide +kernel
theorem dX9_legLine_26 : decode cX9_legLine 26 = .ok (.if_icmp .eq 13, 3) := by decide +kernel
theorem dX9_legLine_29 : decode cX9_legLine 29 = .ok (.aload_n 0, 1) := by decide +kernel
theorem dX9_legLine_30 : decode cX9_legLine 30 = .ok (.iload_n 1, 1) := by decide +kernel
theorem dX9_legLine_31 : decode cX9_legLine 31 = .ok (.lload_n 2, 1) := by decide +kernel
theorem dX9_legLine_32 : decode cX9_legLine 32 = .ok (.invokestatic 147, 3) := by decide +kernel
theorem dX9_legLine_35 : decode cX9_legLine 35 = .ok (.invokevirtual 151, 3) := by decide +kernel
theorem dX9_legLine_38 : decode cX9_legLine 38 = .ok (.ireturn, 1) := by decide +kernel
theorem dX9_legLine_39 : decode cX9_legLine 39 = .ok (.lload_n 2, 1) := by decide +kernel
theorem dX9_legLine_40 : decode cX9_legLine 40 = .ok (.invokestatic 154, 3) := by decide +kernel
theorem dX9_legLine_43 : decode cX9_legLine 43 = .ok (.istore 4, 2) := by decide +kernel
theorem dX9_legLine_45 : decode cX9_legLine 45 = .ok (.iload 4, 2) := by decide +kernel
theorem dX9_legLine_47 : decode cX9_legLine 47 = .ok (.iconst (-1), 1) := by decide +kernel
theorem dX9_legLine_48 : decode cX9_legLine 48 = .ok (.if_icmp .ne 8, 3) := by decide +kernel
theorem dX9_legLine_51 : decode cX9_legLine 51 = .ok (.aload_n 0, 1) := by decide +kernel
theorem dX9_legLine_52 : decode cX9_legLine 52 = .ok (.invokevirtual 104, 3) := by decide +kernel
theorem dX9_legLine_55 : decode cX9_legLine 55 = .ok (.ireturn, 1) := by decide +kernel
theorem dX9_legLine_56 : decode cX9_legLine 56 = .ok (.aload_n 0, 1) := by decide +kernel
theorem dX9_legLine_57 : decode cX9_legLine 57 = .ok (.invokevirtual 115, 3) := by decide +kernel
theorem dX9_legLine_60 : decode cX9_legLine 60 = .ok (.aload_n 0, 1) := by decide +kernel
theorem dX9_legLine_61 : decode cX9_legLine 61 = .ok (.iload 4, 2) := by decide +kernel
theorem dX9_legLine_63 : decode cX9_legLine 63 = .ok (.iconst 1, 1) := by decide +kernel
theorem dX9_legLine_64 : decode cX9_legLine 64 = .ok (.if_icmp .ne 7, 3) := by decide +kernel
theorem dX9_legLine_67 : decode cX9_legLine 67 = .ok (.iconst 0, 1) := by decide +kernel
theorem dX9_legLine_68 : decode cX9_legLine 68 = .ok (.goto 8, 3) := by decide +kernel
theorem dX9_legLine_71 : decode cX9_legLine 71 = .ok (.iload 4, 2) := by decide +kernel
theorem dX9_legLine_73 : decode cX9_legLine 73 = .ok (.invokestatic 157, 3) := by decide +kernel
theorem dX9_legLine_76 : decode cX9_legLine 76 = .ok (.iload 4, 2) := by decide +kernel
theorem dX9_legLine_78 : decode cX9_legLine 78 = .ok (.invokestatic 161, 3) := by decide +kernel
theorem dX9_legLine_81 : decode cX9_legLine 81 = .ok (.invokevirtual 121, 3) := by decide +kernel
theorem dX9_legLine_84 : decode cX9_legLine 84 = .ok (.ifCond .ne 5, 3) := by decide +kernel
theorem dX9_legLine_87 : decode cX9_legLine 87 = .ok (.iconst 0, 1) := by decide +kernel
theorem dX9_legLine_88 : decode cX9_legLine 88 = .ok (.ireturn, 1) := by decide +kernel
theorem dX9_legLine_89 : decode cX9_legLine 89 = .ok (.aload_n 0, 1) := by decide +kernel
theorem dX9_legLine_90 : decode cX9_legLine 90 = .ok (.getfield 21, 3) := by decide +kernel
theorem dX9_legLine_93 : decode cX9_legLine 93 = .ok (.bipush 20, 2) := by decide +kernel
theorem dX9_legLine_95 : decode cX9_legLine 95 = .ok (.bipush 37, 2) := by decide +kernel
theorem dX9_legLine_97 : decode cX9_legLine 97 = .ok (.iload_n 1, 1) := by decide +kernel
theorem dX9_legLine_98 : decode cX9_legLine 98 = .ok (.imul, 1) := by decide +kernel
theorem dX9_legLine_99 : decode cX9_legLine 99 = .ok (.iadd, 1) := by decide +kernel
theorem dX9_legLine_100 : decode cX9_legLine 100 = .ok (.iload 4, 2) := by decide +kernel
theorem dX9_legLine_102 : decode cX9_legLine 102 = .ok (.iadd, 1) := by decide +kernel
theorem dX9_legLine_103 : decode cX9_legLine 103 = .ok (.lload_n 2, 1) := by decide +kernel
theorem dX9_legLine_104 : decode cX9_legLine 104 = .ok (.ldc2_w 129, 3) := by decide +kernel
theorem dX9_legLine_107 : decode cX9_legLine 107 = .ok (.lcmp, 1) := by decide +kernel
theorem dX9_legLine_108 : decode cX9_legLine 108 = .ok (.ifCond .ne 11, 3) := by decide +kernel
theorem dX9_legLine_111 : decode cX9_legLine 111 = .ok (.aload_n 0, 1) := by decide +kernel
theorem dX9_legLine_112 : decode cX9_legLine 112 = .ok (.getfield 108, 3) := by decide +kernel
theorem dX9_legLine_115 : decode cX9_legLine 115 = .ok (.ineg, 1) := by decide +kernel
theorem dX9_legLine_116 : decode cX9_legLine 116 = .ok (.goto 7, 3) := by decide +kernel
theorem dX9_legLine_119 : decode cX9_legLine 119 = .ok (.aload_n 0, 1) := by decide +kernel
theorem dX9_legLine_120 : decode cX9_legLine 120 = .ok (.getfield 108, 3) := by decide +kernel
theorem dX9_legLine_123 : decode cX9_legLine 123 = .ok (.iastore, 1) := by decide +kernel
theorem dX9_legLine_124 : decode cX9_legLine 124 = .ok (.iconst 1, 1) := by decide +kernel
theorem dX9_legLine_125 : decode cX9_legLine 125 = .ok (.ireturn, 1) := by decide +kernel
abbrev rmX9_legLine : Room := { frames := 4, cells := 0, slots := 0, locals := 91 }
theorem inX9_legLine_9 : ∀ w ∈ wsX90, w ∈ wsX9_legLine := by decide +kernel
def vX9_legLine_c76 (tx : Nat → Int32) (p1 : Int32) (Q : Int32 → (Nat → Int32) → (Nat → Int64) → (Nat → Int32) → Prop) (x2 : Int64) (x4 : Int32) (s0 : Int32) (F : Nat → Int32) (J : Nat → Int64) (td : Nat → Int32) : Prop := (preX9_mostOf x4 ∧ (∀ r_78 : Int32, postX9_mostOf x4 r_78 → (∃ (b_81 : Nat → Int32) (nb_81 : Nat) (i_81 : Nat) (f_81 : Int × Int), preX9_takes b_81 nb_81 i_81 f_81 F J tx s0 r_78 ∧ (∀ (r_81 : Int32) (F_81 : Nat → Int32) (J_81 : Nat → Int64), postX9_takes b_81 nb_81 i_81 f_81 F J tx s0 r_78 r_81 F_81 J_81 → ((¬ r_81 = 0 → ((¬ (lg_cmp x2 (126892433305195 : Int64)) = 0 → (vp_in (((20 : Int32) + ((37 : Int32) * p1)) + x4) 94 ∧ (Q (1 : Int32) F_81 J_81 (upd td (((20 : Int32) + ((37 : Int32) * p1)) + x4).toNatClampNeg (F_81 15))))) ∧ ((lg_cmp x2 (126892433305195 : Int64)) = 0 → (vp_in (((20 : Int32) + ((37 : Int32) * p1)) + x4) 94 ∧ (Q (1 : Int32) F_81 J_81 (upd td (((20 : Int32) + ((37 : Int32) * p1)) + x4).toNatClampNeg (-(F_81 15)))))))) ∧ (r_81 = 0 → (Q (0 : Int32) F_81 J_81 td)))))))
set_option maxHeartbeats 4000000 in
set_option maxRecDepth 100000 in
theorem kX9_legLine_c76 {p : Program} {l : Launch} {e : Env} {s : State} {m : MethodId} {args : Array Value} {below : List Frame} {meth : Method} {c : Code} {g : GP} {qM : Nat} {q1 : Nat} {q2 : Nat} {q3 : Nat} {q4 : Nat} {q5 : Nat} {q6 : Nat} {q7 : Nat} {q8 : Nat} {q9 : Nat} {q10 : Nat} {q11 : Nat} {tx : Nat → Int32} {p1 : Int32} {Q : Int32 → (Nat → Int32) → (Nat → Int64) → (Nat → Int32) → Prop} {A : Nat → Prop} (S : CallFix p m c cX9_legLine 5 s args wsX9_legLine RX9) (hr : meth.sig.returnType = (some .boolean)) (hlocks : meth.locks = false) (hG : GK g s) (hA : ∀ q : Nat, s.heap.size ≤ q → A q) : ∀ (x2 : Int64) (x4 : Int32) (s0 : Int32) (F : Nat → Int32) (J : Nat → Int64) (td : Nat → Int32), vX9_legLine_c76 tx p1 Q x2 x4 s0 F J td → ∀ (H : Heap) (locs : List Loc), va_P g.1 vwCl [(qM, .inr (9, [.int (F 0), .ref q1, .ref q2, .ref q3, .int (F 4), .int (F 5), .int (F 6), .int (F 7), .int (F 8), .int (F 9), .long (J 10), .int (F 11), .int (F 12), .int (F 13), .ref q4, .int (F 15), .ref q5, .ref q6, .ref q7, .int (F 19), .ref q8, .int (F 21), .int (F 22), .int (F 23), .int (F 24), .ref q9, .ref q10, .ref q11, .long (J 28)])), (q2, .inl (g.2 1, 2000, .inl tx)), (q4, .inl (g.2 0, 94, .inl td))] H → va_D A [(qM, .inr (9, [.int (F 0), .ref q1, .ref q2, .ref q3, .int (F 4), .int (F 5), .int (F 6), .int (F 7), .int (F 8), .int (F 9), .long (J 10), .int (F 11), .int (F 12), .int (F 13), .ref q4, .int (F 15), .ref q5, .ref q6, .ref q7, .int (F 19), .ref q8, .int (F 21), .int (F 22), .int (F 23), .int (F 24), .ref q9, .ref q10, .ref q11, .long (J 28)])), (q2, .inl (g.2 1, 2000, .inl tx)), (q4, .inl (g.2 0, 94, .inl td))] → va_S A s.heap H locs → ∀ (ls : Array Slot), lv_has ls 5 [(0, .ref qM), (1, .int p1), (2, .long x2), (4, .int x4)] → W p l e (headSpec wsX9_legLine rmX9_legLine).room s m args below meth c H locs 0 0 (MQ below (va_Qi (fun (r : Int32) (u : (Nat → Int32) × (Nat → Int64) × (Nat → Int32)) => Q r u.1 u.2.1 u.2.2) (fun (u : (Nat → Int32) × (Nat → Int64) × (Nat → Int32)) t => va_P g.1 vwCl [(qM, .inr (9, [.int (u.1 0), .ref q1, .ref q2, .ref q3, .int (u.1 4), .int (u.1 5), .int (u.1 6), .int (u.1 7), .int (u.1 8), .int (u.1 9), .long (u.2.1 10), .int (u.1 11), .int (u.1 12), .int (u.1 13), .ref q4, .int (u.1 15), .ref q5, .ref q6, .ref q7, .int (u.1 19), .ref q8, .int (u.1 21), .int (u.1 22), .int (u.1 23), .int (u.1 24), .ref q9, .ref q10, .ref q11, .long (u.2.1 28)])), (q2, .inl (g.2 1, 2000, .inl tx)), (q4, .inl (g.2 0, 94, .inl u.2.2))] t.heap ∧ va_D A [(qM, .inr (9, [.int (u.1 0), .ref q1, .ref q2, .ref q3, .int (u.1 4), .int (u.1 5), .int (u.1 6), .int (u.1 7), .int (u.1 8), .int (u.1 9), .long (u.2.1 10), .int (u.1 11), .int (u.1 12), .int (u.1 13), .ref q4, .int (u.1 15), .ref q5, .ref q6, .ref q7, .int (u.1 19), .ref q8, .int (u.1 21), .int (u.1 22), .int (u.1 23), .int (u.1 24), .ref q9, .ref q10, .ref q11, .long (u.2.1 28)])), (q2, .inl (g.2 1, 2000, .inl tx)), (q4, .inl (g.2 0, 94, .inl u.2.2))]) A) args s 0 0 A) (F0 m 76 ls [.int s0, .ref qM]) := by
  obtain ⟨hx, hb, hml, hown, hts⟩ := id S
  have hK := hG.1
  intro x2 x4 s0 F J td hv H locs hP hD hS ls hl
  unfold vX9_legLine_c76 at hv
  refine lv_iload hx hb dX9_legLine_76 (lv_at hl 3 rfl) ?_
  obtain ⟨ho_1, hv⟩ := hv
  refine vp_callSi (W.runS (As := [.int x4]) (rest := [.int s0, .ref qM]) S (wX9_mostOf l g x4 (sX9_mostOf x4 ho_1)) (va_cwS 1 hts gX9_legLine_X9_mostOf rfl rfl rfl (by decide +kernel) ⟨Nat.le_of_ble_eq_true rfl, Nat.le_of_ble_eq_true rfl⟩) ⟨blindRO, fun U hU hW => ⟨rfl, by rw [hU]; exact hP.sub (ws' := []) [] rfl, hG.warm hW⟩⟩ rfl rfl hl.1 rfl (lv_room (Nat.le_of_ble_eq_true rfl)) dX9_legLine_78 ⟨Nat.le_of_ble_eq_true rfl, Nat.le_of_ble_eq_true rfl⟩) (fun r_78 hr_78 => ?_)
  have hv := hv r_78 hr_78
  obtain ⟨b_81, nb_81, i_81, f_81, ho_2, hv⟩ := hv
  have hPc := hP.sub (ws' := [(qM, .inr (9, [.int (F 0), .ref q1, .ref q2, .ref q3, .int (F 4), .int (F 5), .int (F 6), .int (F 7), .int (F 8), .int (F 9), .long (J 10), .int (F 11), .int (F 12), .int (F 13), .ref q4, .int (F 15), .ref q5, .ref q6, .ref q7, .int (F 19), .ref q8, .int (F 21), .int (F 22), .int (F 23), .int (F 24), .ref q9, .ref q10, .ref q11, .long (J 28)])), (q2, .inl (g.2 1, 2000, .inl tx))]) [0, 1] rfl
  have hDc := hD.sub (ws' := [(qM, .inr (9, [.int (F 0), .ref q1, .ref q2, .ref q3, .int (F 4), .int (F 5), .int (F 6), .int (F 7), .int (F 8), .int (F 9), .long (J 10), .int (F 11), .int (F 12), .int (F 13), .ref q4, .int (F 15), .ref q5, .ref q6, .ref q7, .int (F 19), .ref q8, .int (F 21), .int (F 22), .int (F 23), .int (F 24), .ref q9, .ref q10, .ref q11, .long (J 28)])), (q2, .inl (g.2 1, 2000, .inl tx))]) [0, 1] (by decide) rfl
  have hFc := va_free (wc := [(qM, .inr (9, [.int (F 0), .ref q1, .ref q2, .ref q3, .int (F 4), .int (F 5), .int (F 6), .int (F 7), .int (F 8), .int (F 9), .long (J 10), .int (F 11), .int (F 12), .int (F 13), .ref q4, .int (F 15), .ref q5, .ref q6, .ref q7, .int (F 19), .ref q8, .int (F 21), .int (F 22), .int (F 23), .int (F 24), .ref q9, .ref q10, .ref q11, .long (J 28)])), (q2, .inl (g.2 1, 2000, .inl tx))]) hD hS hA [0, 1] rfl
  refine va_calli (va_runV (As := [.int s0, .int r_78]) (rest := []) S (wX9_takes l g qM q1 q2 q3 q4 q5 q6 q7 q8 q9 q10 q11 H.size F J tx s0 r_78 (sX9_takes b_81 nb_81 i_81 f_81 F J tx s0 r_78 ho_2)) (cwV 2 hts gX9_legLine_X9_takes rfl rfl rfl (by decide +kernel) ⟨Nat.le_of_ble_eq_true rfl, Nat.le_of_ble_eq_true rfl⟩) ⟨blindRW, va_recv hK hP (ci := 9) (q0 := 0) rfl rfl, fun U hU hW => ⟨rfl, by rw [hU], by rw [hU]; exact hPc, hG.warm hW, hDc.weaken (fun _ _ _ _ => trivial)⟩⟩ rfl rfl hl.1 rfl (lv_room (Nat.le_of_ble_eq_true rfl)) dX9_legLine_81 ⟨Nat.le_of_ble_eq_true rfl, Nat.le_of_ble_eq_true rfl⟩) hS (fun q _ h => hFc q h) hFc (fun r_81 u t H1 locs ht hvm hw hB hz1 hk1 hS => ?_)
  obtain ⟨F_81, J_81⟩ := u
  obtain ⟨hP1, hD1⟩ := hB
  rw [ht] at hP1
  have hv := hv r_81 F_81 J_81 hw
  obtain ⟨hP, hD⟩ := va_join (wr := [(q4, .inl (g.2 0, 94, .inl td))]) (w1 := [(qM, .inr (9, [.int (F_81 0), .ref q1, .ref q2, .ref q3, .int (F_81 4), .int (F_81 5), .int (F_81 6), .int (F_81 7), .int (F_81 8), .int (F_81 9), .long (J_81 10), .int (F_81 11), .int (F_81 12), .int (F_81 13), .ref q4, .int (F_81 15), .ref q5, .ref q6, .ref q7, .int (F_81 19), .ref q8, .int (F_81 21), .int (F_81 22), .int (F_81 23), .int (F_81 24), .ref q9, .ref q10, .ref q11, .long (J_81 28)])), (q2, .inl (g.2 1, 2000, .inl tx))]) hP hD [0, 1] [2] rfl rfl (by decide) (by decide) hk1 hFc hP1 hD1
  clear hP1 hD1 hPc hDc hFc hk1
  generalize H1 = H at hP hS ⊢
  have hP : va_P g.1 vwCl [(q4, .inl (g.2 0, 94, .inl td)), (qM, .inr (9, [.int (F_81 0), .ref q1, .ref q2, .ref q3, .int (F_81 4), .int (F_81 5), .int (F_81 6), .int (F_81 7), .int (F_81 8), .int (F_81 9), .long (J_81 10), .int (F_81 11), .int (F_81 12), .int (F_81 13), .ref q4, .int (F_81 15), .ref q5, .ref q6, .ref q7, .int (F_81 19), .ref q8, .int (F_81 21), .int (F_81 22), .int (F_81 23), .int (F_81 24), .ref q9, .ref q10, .ref q11, .long (J_81 28)])), (q2, .inl (g.2 1, 2000, .inl tx))] H := hP
  have hD : va_D A [(q4, .inl (g.2 0, 94, .inl td)), (qM, .inr (9, [.int (F_81 0), .ref q1, .ref q2, .ref q3, .int (F_81 4), .int (F_81 5), .int (F_81 6), .int (F_81 7), .int (F_81 8), .int (F_81 9), .long (J_81 10), .int (F_81 11), .int (F_81 12), .int (F_81 13), .ref q4, .int (F_81 15), .ref q5, .ref q6, .ref q7, .int (F_81 19), .ref q8, .int (F_81 21), .int (F_81 22), .int (F_81 23), .int (F_81 24), .ref q9, .ref q10, .ref q11, .long (J_81 28)])), (q2, .inl (g.2 1, 2000, .inl tx))] := hD
  obtain ⟨hvt, hvf⟩ := hv
  refine lv_if_ne (tgt := 89) hx hb dX9_legLine_84 (by decide) (fun hc => ?_) (fun hc => ?_)
  · have hv := hvt hc
    refine lv_aload_n hx hb dX9_legLine_89 rfl (lv_at hl 0 rfl) ?_
    refine va_get (D := g.1) (ci := 9) (v := .ref q4) (C := RX9) (T := TX9) (N := 29) hx hb hts inX9_legLine_9 hown hK hP 1 rfl rfl 14 (by decide) (hts (.fieldLink RX9 21 "RangeCodesModel" "told" "[I") (List.mem_of_getElem? (i := 3) rfl)) (fun _ h9 => h9) rfl dX9_legLine_90 ?_
    refine lv_bipush (v := (20 : Int32)) hx hb dX9_legLine_93 (by decide) ?_
    refine lv_bipush (v := (37 : Int32)) hx hb dX9_legLine_95 (by decide) ?_
    refine lv_iload_n hx hb dX9_legLine_97 rfl (lv_at hl 1 rfl) ?_
    refine lv_imul hx hb dX9_legLine_98 ?_
    refine lv_iadd hx hb dX9_legLine_99 ?_
    refine lv_iload hx hb dX9_legLine_100 (lv_at hl 3 rfl) ?_
    refine lv_iadd hx hb dX9_legLine_102 ?_
    refine lv_lload_n hx hb dX9_legLine_103 rfl (lv_at hl 2 rfl) ?_
    refine lv_ldc2 (v := (126892433305195 : Int64)) hx hb hown (hts (.constantLong RX9 129 (126892433305195)) (List.mem_of_getElem? (i := 4) rfl)) dX9_legLine_104 ?_
    refine W.lcmp hx hb dX9_legLine_107 ?_
    obtain ⟨hvt, hvf⟩ := hv
    refine lv_if_ne (tgt := 119) hx hb dX9_legLine_108 (by decide) (fun hc => ?_) (fun hc => ?_)
    · have hv := hvt hc
      refine lv_aload_n hx hb dX9_legLine_119 rfl (lv_at hl 0 rfl) ?_
      refine va_get (D := g.1) (ci := 9) (v := .int (F_81 15)) (C := RX9) (T := TX9) (N := 29) hx hb hts inX9_legLine_9 hown hK hP 1 rfl rfl 15 (by decide) (hts (.fieldLink RX9 108 "RangeCodesModel" "read" "I") (List.mem_of_getElem? (i := 5) rfl)) (fun _ h9 => h9) rfl dX9_legLine_120 ?_
      obtain ⟨ho_3, hv⟩ := hv
      refine va_iast hx hb hK hP hD hS 0 0 rfl rfl ho_3 dX9_legLine_123 (fun H locs hP hD hS => ?_)
      have hP : va_P g.1 vwCl [(q4, .inl (g.2 0, 94, .inl (upd td (((20 : Int32) + ((37 : Int32) * p1)) + x4).toNatClampNeg (F_81 15)))), (qM, .inr (9, [.int (F_81 0), .ref q1, .ref q2, .ref q3, .int (F_81 4), .int (F_81 5), .int (F_81 6), .int (F_81 7), .int (F_81 8), .int (F_81 9), .long (J_81 10), .int (F_81 11), .int (F_81 12), .int (F_81 13), .ref q4, .int (F_81 15), .ref q5, .ref q6, .ref q7, .int (F_81 19), .ref q8, .int (F_81 21), .int (F_81 22), .int (F_81 23), .int (F_81 24), .ref q9, .ref q10, .ref q11, .long (J_81 28)])), (q2, .inl (g.2 1, 2000, .inl tx))] H := hP
      have hD : va_D A [(q4, .inl (g.2 0, 94, .inl (upd td (((20 : Int32) + ((37 : Int32) * p1)) + x4).toNatClampNeg (F_81 15)))), (qM, .inr (9, [.int (F_81 0), .ref q1, .ref q2, .ref q3, .int (F_81 4), .int (F_81 5), .int (F_81 6), .int (F_81 7), .int (F_81 8), .int (F_81 9), .long (J_81 10), .int (F_81 11), .int (F_81 12), .int (F_81 13), .ref q4, .int (F_81 15), .ref q5, .ref q6, .ref q7, .int (F_81 19), .ref q8, .int (F_81 21), .int (F_81 22), .int (F_81 23), .int (F_81 24), .ref q9, .ref q10, .ref q11, .long (J_81 28)])), (q2, .inl (g.2 1, 2000, .inl tx))] := hD
      refine lv_iconst (v := (1 : Int32)) hx hb dX9_legLine_124 (by decide) ?_
      have hP9 := hP.sub (ws' := [(qM, .inr (9, [.int (F_81 0), .ref q1, .ref q2, .ref q3, .int (F_81 4), .int (F_81 5), .int (F_81 6), .int (F_81 7), .int (F_81 8), .int (F_81 9), .long (J_81 10), .int (F_81 11), .int (F_81 12), .int (F_81 13), .ref q4, .int (F_81 15), .ref q5, .ref q6, .ref q7, .int (F_81 19), .ref q8, .int (F_81 21), .int (F_81 22), .int (F_81 23), .int (F_81 24), .ref q9, .ref q10, .ref q11, .long (J_81 28)])), (q2, .inl (g.2 1, 2000, .inl tx)), (q4, .inl (g.2 0, 94, .inl (upd td (((20 : Int32) + ((37 : Int32) * p1)) + x4).toNatClampNeg (F_81 15))))]) [1, 2, 0] rfl
      have hD9 := hD.sub (ws' := [(qM, .inr (9, [.int (F_81 0), .ref q1, .ref q2, .ref q3, .int (F_81 4), .int (F_81 5), .int (F_81 6), .int (F_81 7), .int (F_81 8), .int (F_81 9), .long (J_81 10), .int (F_81 11), .int (F_81 12), .int (F_81 13), .ref q4, .int (F_81 15), .ref q5, .ref q6, .ref q7, .int (F_81 19), .ref q8, .int (F_81 21), .int (F_81 22), .int (F_81 23), .int (F_81 24), .ref q9, .ref q10, .ref q11, .long (J_81 28)])), (q2, .inl (g.2 1, 2000, .inl tx)), (q4, .inl (g.2 0, 94, .inl (upd td (((20 : Int32) + ((37 : Int32) * p1)) + x4).toNatClampNeg (F_81 15))))]) [1, 2, 0] (by decide) rfl
      exact W.zret (v := (1 : Int32)) (ty := .boolean) hx hb hr rfl (fun t ht hW => ⟨⟨_, (F_81, J_81, (upd td (((20 : Int32) + ((37 : Int32) * p1)) + x4).toNatClampNeg (F_81 15))), rfl, hv, by rw [ht]; exact hP9, hD9⟩, hS.F ht⟩) hS.2.2 dX9_legLine_125
    · have hv := hvf hc
      refine lv_aload_n hx hb dX9_legLine_111 rfl (lv_at hl 0 rfl) ?_
      refine va_get (D := g.1) (ci := 9) (v := .int (F_81 15)) (C := RX9) (T := TX9) (N := 29) hx hb hts inX9_legLine_9 hown hK hP 1 rfl rfl 15 (by decide) (hts (.fieldLink RX9 108 "RangeCodesModel" "read" "I") (List.mem_of_getElem? (i := 5) rfl)) (fun _ h9 => h9) rfl dX9_legLine_112 ?_
      refine lv_ineg hx hb dX9_legLine_115 ?_
      refine lv_goto (tgt := 123) hx hb dX9_legLine_116 (by decide) ?_
      obtain ⟨ho_4, hv⟩ := hv
      refine va_iast hx hb hK hP hD hS 0 0 rfl rfl ho_4 dX9_legLine_123 (fun H locs hP hD hS => ?_)
      have hP : va_P g.1 vwCl [(q4, .inl (g.2 0, 94, .inl (upd td (((20 : Int32) + ((37 : Int32) * p1)) + x4).toNatClampNeg (-(F_81 15))))), (qM, .inr (9, [.int (F_81 0), .ref q1, .ref q2, .ref q3, .int (F_81 4), .int (F_81 5), .int (F_81 6), .int (F_81 7), .int (F_81 8), .int (F_81 9), .long (J_81 10), .int (F_81 11), .int (F_81 12), .int (F_81 13), .ref q4, .int (F_81 15), .ref q5, .ref q6, .ref q7, .int (F_81 19), .ref q8, .int (F_81 21), .int (F_81 22), .int (F_81 23), .int (F_81 24), .ref q9, .ref q10, .ref q11, .long (J_81 28)])), (q2, .inl (g.2 1, 2000, .inl tx))] H := hP
      have hD : va_D A [(q4, .inl (g.2 0, 94, .inl (upd td (((20 : Int32) + ((37 : Int32) * p1)) + x4).toNatClampNeg (-(F_81 15))))), (qM, .inr (9, [.int (F_81 0), .ref q1, .ref q2, .ref q3, .int (F_81 4), .int (F_81 5), .int (F_81 6), .int (F_81 7), .int (F_81 8), .int (F_81 9), .long (J_81 10), .int (F_81 11), .int (F_81 12), .int (F_81 13), .ref q4, .int (F_81 15), .ref q5, .ref q6, .ref q7, .int (F_81 19), .ref q8, .int (F_81 21), .int (F_81 22), .int (F_81 23), .int (F_81 24), .ref q9, .ref q10, .ref q11, .long (J_81 28)])), (q2, .inl (g.2 1, 2000, .inl tx))] := hD
      refine lv_iconst (v := (1 : Int32)) hx hb dX9_legLine_124 (by decide) ?_
      have hP9 := hP.sub (ws' := [(qM, .inr (9, [.int (F_81 0), .ref q1, .ref q2, .ref q3, .int (F_81 4), .int (F_81 5), .int (F_81 6), .int (F_81 7), .int (F_81 8), .int (F_81 9), .long (J_81 10), .int (F_81 11), .int (F_81 12), .int (F_81 13), .ref q4, .int (F_81 15), .ref q5, .ref q6, .ref q7, .int (F_81 19), .ref q8, .int (F_81 21), .int (F_81 22), .int (F_81 23), .int (F_81 24), .ref q9, .ref q10, .ref q11, .long (J_81 28)])), (q2, .inl (g.2 1, 2000, .inl tx)), (q4, .inl (g.2 0, 94, .inl (upd td (((20 : Int32) + ((37 : Int32) * p1)) + x4).toNatClampNeg (-(F_81 15)))))]) [1, 2, 0] rfl
      have hD9 := hD.sub (ws' := [(qM, .inr (9, [.int (F_81 0), .ref q1, .ref q2, .ref q3, .int (F_81 4), .int (F_81 5), .int (F_81 6), .int (F_81 7), .int (F_81 8), .int (F_81 9), .long (J_81 10), .int (F_81 11), .int (F_81 12), .int (F_81 13), .ref q4, .int (F_81 15), .ref q5, .ref q6, .ref q7, .int (F_81 19), .ref q8, .int (F_81 21), .int (F_81 22), .int (F_81 23), .int (F_81 24), .ref q9, .ref q10, .ref q11, .long (J_81 28)])), (q2, .inl (g.2 1, 2000, .inl tx)), (q4, .inl (g.2 0, 94, .inl (upd td (((20 : Int32) + ((37 : Int32) * p1)) + x4).toNatClampNeg (-(F_81 15)))))]) [1, 2, 0] (by decide) rfl
      exact W.zret (v := (1 : Int32)) (ty := .boolean) hx hb hr rfl (fun t ht hW => ⟨⟨_, (F_81, J_81, (upd td (((20 : Int32) + ((37 : Int32) * p1)) + x4).toNatClampNeg (-(F_81 15)))), rfl, hv, by rw [ht]; exact hP9, hD9⟩, hS.F ht⟩) hS.2.2 dX9_legLine_125
  · have hv := hvf hc
    refine lv_iconst (v := (0 : Int32)) hx hb dX9_legLine_87 (by decide) ?_
    have hP9 := hP.sub (ws' := [(qM, .inr (9, [.int (F_81 0), .ref q1, .ref q2, .ref q3, .int (F_81 4), .int (F_81 5), .int (F_81 6), .int (F_81 7), .int (F_81 8), .int (F_81 9), .long (J_81 10), .int (F_81 11), .int (F_81 12), .int (F_81 13), .ref q4, .int (F_81 15), .ref q5, .ref q6, .ref q7, .int (F_81 19), .ref q8, .int (F_81 21), .int (F_81 22), .int (F_81 23), .int (F_81 24), .ref q9, .ref q10, .ref q11, .long (J_81 28)])), (q2, .inl (g.2 1, 2000, .inl tx)), (q4, .inl (g.2 0, 94, .inl td))]) [1, 2, 0] rfl
    have hD9 := hD.sub (ws' := [(qM, .inr (9, [.int (F_81 0), .ref q1, .ref q2, .ref q3, .int (F_81 4), .int (F_81 5), .int (F_81 6), .int (F_81 7), .int (F_81 8), .int (F_81 9), .long (J_81 10), .int (F_81 11), .int (F_81 12), .int (F_81 13), .ref q4, .int (F_81 15), .ref q5, .ref q6, .ref q7, .int (F_81 19), .ref q8, .int (F_81 21), .int (F_81 22), .int (F_81 23), .int (F_81 24), .ref q9, .ref q10, .ref q11, .long (J_81 28)])), (q2, .inl (g.2 1, 2000, .inl tx)), (q4, .inl (g.2 0, 94, .inl td))]) [1, 2, 0] (by decide) rfl
    exact W.zret (v := (0 : Int32)) (ty := .boolean) hx hb hr rfl (fun t ht hW => ⟨⟨_, (F_81, J_81, td), rfl, hv, by rw [ht]; exact hP9, hD9⟩, hS.F ht⟩) hS.2.2 dX9_legLine_88
def vX9_legLine_c20 (tx : Nat → Int32) (p1 : Int32) (Q : Int32 → (Nat → Int32) → (Nat → Int64) → (Nat → Int32) → Prop) (s0 : Int64) (F : Nat → Int32) (J : Nat → Int64) (td : Nat → Int32) : Prop := (∃ (b_22 : Nat → Int32) (nb_22 : Nat) (i_22 : Nat), preX9_markOf b_22 nb_22 i_22 s0 ∧ (∀ r_22 : Int32, postX9_markOf b_22 nb_22 i_22 s0 r_22 → ((r_22 = (-1 : Int32) → (∃ (b_40 : Nat → Int32) (nb_40 : Nat) (i_40 : Nat), preX9_settingOf b_40 nb_40 i_40 s0 ∧ (∀ r_40 : Int32, postX9_settingOf b_40 nb_40 i_40 s0 r_40 → ((¬ r_40 = (-1 : Int32) → (∃ (b_57 : Nat → Int32) (nb_57 : Nat) (i_57 : Nat), preX9_token b_57 nb_57 i_57 F J tx ∧ (∀ (F_57 : Nat → Int32) (J_57 : Nat → Int64), postX9_token b_57 nb_57 i_57 F J tx F_57 J_57 → ((¬ r_40 = (1 : Int32) → (preX9_leastOf r_40 ∧ (∀ r_73 : Int32, postX9_leastOf r_40 r_73 → (vX9_legLine_c76 tx p1 Q s0 r_40 r_73 F_57 J_57 td)))) ∧ (r_40 = (1 : Int32) → (vX9_legLine_c76 tx p1 Q s0 r_40 (0 : Int32) F_57 J_57 td)))))) ∧ (r_40 = (-1 : Int32) → (preX9_fails F J ∧ (∀ (r_52 : Int32) (F_52 : Nat → Int32), postX9_fails F J r_52 F_52 → (narrow .boolean (.int r_52) = .int r_52 ∧ (Q r_52 F_52 J td))))))))) ∧ (¬ r_22 = (-1 : Int32) → (∃ (b_32 : Nat → Int32) (nb_32 : Nat) (i_32 : Nat), preX9_markOf b_32 nb_32 i_32 s0 ∧ (∀ r_32 : Int32, postX9_markOf b_32 nb_32 i_32 s0 r_32 → (∃ (b_35 : Nat → Int32) (nb_35 : Nat) (i_35 : Nat) (f_35 : Int × Int) (G_35 : Lg) (w_35 : Nat), preX9_markLine b_35 nb_35 i_35 f_35 G_35 w_35 F J tx td p1 r_32 ∧ (∀ (r_35 : Int32) (F_35 : Nat → Int32) (J_35 : Nat → Int64) (td_35 : Nat → Int32), postX9_markLine b_35 nb_35 i_35 f_35 G_35 w_35 F J tx td p1 r_32 r_35 F_35 J_35 td_35 → (narrow .boolean (.int r_35) = .int r_35 ∧ (Q r_35 F_35 J_35 td_35))))))))))
set_option maxHeartbeats 4000000 in
set_option maxRecDepth 100000 in
theorem kX9_legLine_c20 {p : Program} {l : Launch} {e : Env} {s : State} {m : MethodId} {args : Array Value} {below : List Frame} {meth : Method} {c : Code} {g : GP} {qM : Nat} {q1 : Nat} {q2 : Nat} {q3 : Nat} {q4 : Nat} {q5 : Nat} {q6 : Nat} {q7 : Nat} {q8 : Nat} {q9 : Nat} {q10 : Nat} {q11 : Nat} {tx : Nat → Int32} {p1 : Int32} {Q : Int32 → (Nat → Int32) → (Nat → Int64) → (Nat → Int32) → Prop} {A : Nat → Prop} (S : CallFix p m c cX9_legLine 5 s args wsX9_legLine RX9) (hr : meth.sig.returnType = (some .boolean)) (hlocks : meth.locks = false) (hG : GK g s) (hA : ∀ q : Nat, s.heap.size ≤ q → A q) : ∀ (s0 : Int64) (F : Nat → Int32) (J : Nat → Int64) (td : Nat → Int32), vX9_legLine_c20 tx p1 Q s0 F J td → ∀ (H : Heap) (locs : List Loc), va_P g.1 vwCl [(qM, .inr (9, [.int (F 0), .ref q1, .ref q2, .ref q3, .int (F 4), .int (F 5), .int (F 6), .int (F 7), .int (F 8), .int (F 9), .long (J 10), .int (F 11), .int (F 12), .int (F 13), .ref q4, .int (F 15), .ref q5, .ref q6, .ref q7, .int (F 19), .ref q8, .int (F 21), .int (F 22), .int (F 23), .int (F 24), .ref q9, .ref q10, .ref q11, .long (J 28)])), (q2, .inl (g.2 1, 2000, .inl tx)), (q4, .inl (g.2 0, 94, .inl td))] H → va_D A [(qM, .inr (9, [.int (F 0), .ref q1, .ref q2, .ref q3, .int (F 4), .int (F 5), .int (F 6), .int (F 7), .int (F 8), .int (F 9), .long (J 10), .int (F 11), .int (F 12), .int (F 13), .ref q4, .int (F 15), .ref q5, .ref q6, .ref q7, .int (F 19), .ref q8, .int (F 21), .int (F 22), .int (F 23), .int (F 24), .ref q9, .ref q10, .ref q11, .long (J 28)])), (q2, .inl (g.2 1, 2000, .inl tx)), (q4, .inl (g.2 0, 94, .inl td))] → va_S A s.heap H locs → ∀ (ls : Array Slot), lv_has ls 5 [(0, .ref qM), (1, .int p1)] → W p l e (headSpec wsX9_legLine rmX9_legLine).room s m args below meth c H locs 0 0 (MQ below (va_Qi (fun (r : Int32) (u : (Nat → Int32) × (Nat → Int64) × (Nat → Int32)) => Q r u.1 u.2.1 u.2.2) (fun (u : (Nat → Int32) × (Nat → Int64) × (Nat → Int32)) t => va_P g.1 vwCl [(qM, .inr (9, [.int (u.1 0), .ref q1, .ref q2, .ref q3, .int (u.1 4), .int (u.1 5), .int (u.1 6), .int (u.1 7), .int (u.1 8), .int (u.1 9), .long (u.2.1 10), .int (u.1 11), .int (u.1 12), .int (u.1 13), .ref q4, .int (u.1 15), .ref q5, .ref q6, .ref q7, .int (u.1 19), .ref q8, .int (u.1 21), .int (u.1 22), .int (u.1 23), .int (u.1 24), .ref q9, .ref q10, .ref q11, .long (u.2.1 28)])), (q2, .inl (g.2 1, 2000, .inl tx)), (q4, .inl (g.2 0, 94, .inl u.2.2))] t.heap ∧ va_D A [(qM, .inr (9, [.int (u.1 0), .ref q1, .ref q2, .ref q3, .int (u.1 4), .int (u.1 5), .int (u.1 6), .int (u.1 7), .int (u.1 8), .int (u.1 9), .long (u.2.1 10), .int (u.1 11), .int (u.1 12), .int (u.1 13), .ref q4, .int (u.1 15), .ref q5, .ref q6, .ref q7, .int (u.1 19), .ref q8, .int (u.1 21), .int (u.1 22), .int (u.1 23), .int (u.1 24), .ref q9, .ref q10, .ref q11, .long (u.2.1 28)])), (q2, .inl (g.2 1, 2000, .inl tx)), (q4, .inl (g.2 0, 94, .inl u.2.2))]) A) args s 0 0 A) (F0 m 20 ls [.long s0]) := by
  obtain ⟨hx, hb, hml, hown, hts⟩ := id S
  have hK := hG.1
  intro s0 F J td hv H locs hP hD hS ls hl
  unfold vX9_legLine_c20 at hv
  refine lv_lstore_n (lv' := [(2, .long s0), (0, .ref qM), (1, .int p1)]) hx hb dX9_legLine_20 rfl hl (by decide) rfl (fun ls hl => ?_)
  refine lv_lload_n hx hb dX9_legLine_21 rfl (lv_at hl 0 rfl) ?_
  obtain ⟨b_22, nb_22, i_22, ho_1, hv⟩ := hv
  refine vp_callSi (W.runS (As := [.long s0]) (rest := []) S (wX9_markOf l g s0 (sX9_markOf b_22 nb_22 i_22 s0 ho_1)) (va_cwS 1 hts gX9_legLine_X9_markOf rfl rfl rfl (by decide +kernel) ⟨Nat.le_of_ble_eq_true rfl, Nat.le_of_ble_eq_true rfl⟩) ⟨blindRO, fun U hU hW => ⟨rfl, by rw [hU]; exact hP.sub (ws' := []) [] rfl, hG.warm hW⟩⟩ rfl rfl hl.1 rfl (lv_room (Nat.le_of_ble_eq_true rfl)) dX9_legLine_22 ⟨Nat.le_of_ble_eq_true rfl, Nat.le_of_ble_eq_true rfl⟩) (fun r_22 hr_22 => ?_)
  have hv := hv r_22 hr_22
  refine lv_iconst (v := (-1 : Int32)) hx hb dX9_legLine_25 (by decide) ?_
  obtain ⟨hvt, hvf⟩ := hv
  refine lv_icmp_eq (tgt := 39) hx hb dX9_legLine_26 (by decide) (fun hc => ?_) (fun hc => ?_)
  · have hv := hvt hc
    refine lv_lload_n hx hb dX9_legLine_39 rfl (lv_at hl 0 rfl) ?_
    obtain ⟨b_40, nb_40, i_40, ho_2, hv⟩ := hv
    refine vp_callSi (W.runS (As := [.long s0]) (rest := []) S (wX9_settingOf l g s0 (sX9_settingOf b_40 nb_40 i_40 s0 ho_2)) (va_cwS 1 hts gX9_legLine_X9_settingOf rfl rfl rfl (by decide +kernel) ⟨Nat.le_of_ble_eq_true rfl, Nat.le_of_ble_eq_true rfl⟩) ⟨blindRO, fun U hU hW => ⟨rfl, by rw [hU]; exact hP.sub (ws' := []) [] rfl, hG.warm hW⟩⟩ rfl rfl hl.1 rfl (lv_room (Nat.le_of_ble_eq_true rfl)) dX9_legLine_40 ⟨Nat.le_of_ble_eq_true rfl, Nat.le_of_ble_eq_true rfl⟩) (fun r_40 hr_40 => ?_)
    have hv := hv r_40 hr_40
    refine lv_istore (lv' := [(4, .int r_40), (2, .long s0), (0, .ref qM), (1, .int p1)]) hx hb dX9_legLine_43 hl (by decide) rfl (fun ls hl => ?_)
    refine lv_iload hx hb dX9_legLine_45 (lv_at hl 0 rfl) ?_
    refine lv_iconst (v := (-1 : Int32)) hx hb dX9_legLine_47 (by decide) ?_
    obtain ⟨hvt, hvf⟩ := hv
    refine lv_icmp_ne (tgt := 56) hx hb dX9_legLine_48 (by decide) (fun hc => ?_) (fun hc => ?_)
    · have hv := hvt hc
      refine lv_aload_n hx hb dX9_legLine_56 rfl (lv_at hl 2 rfl) ?_
      obtain ⟨b_57, nb_57, i_57, ho_3, hv⟩ := hv
      have hPc := hP.sub (ws' := [(qM, .inr (9, [.int (F 0), .ref q1, .ref q2, .ref q3, .int (F 4), .int (F 5), .int (F 6), .int (F 7), .int (F 8), .int (F 9), .long (J 10), .int (F 11), .int (F 12), .int (F 13), .ref q4, .int (F 15), .ref q5, .ref q6, .ref q7, .int (F 19), .ref q8, .int (F 21), .int (F 22), .int (F 23), .int (F 24), .ref q9, .ref q10, .ref q11, .long (J 28)])), (q2, .inl (g.2 1, 2000, .inl tx))]) [0, 1] rfl
      have hDc := hD.sub (ws' := [(qM, .inr (9, [.int (F 0), .ref q1, .ref q2, .ref q3, .int (F 4), .int (F 5), .int (F 6), .int (F 7), .int (F 8), .int (F 9), .long (J 10), .int (F 11), .int (F 12), .int (F 13), .ref q4, .int (F 15), .ref q5, .ref q6, .ref q7, .int (F 19), .ref q8, .int (F 21), .int (F 22), .int (F 23), .int (F 24), .ref q9, .ref q10, .ref q11, .long (J 28)])), (q2, .inl (g.2 1, 2000, .inl tx))]) [0, 1] (by decide) rfl
      have hFc := va_free (wc := [(qM, .inr (9, [.int (F 0), .ref q1, .ref q2, .ref q3, .int (F 4), .int (F 5), .int (F 6), .int (F 7), .int (F 8), .int (F 9), .long (J 10), .int (F 11), .int (F 12), .int (F 13), .ref q4, .int (F 15), .ref q5, .ref q6, .ref q7, .int (F 19), .ref q8, .int (F 21), .int (F 22), .int (F 23), .int (F 24), .ref q9, .ref q10, .ref q11, .long (J 28)])), (q2, .inl (g.2 1, 2000, .inl tx))]) hD hS hA [0, 1] rfl
      refine va_callv (va_runV (As := []) (rest := []) S (wX9_token l g qM q1 q2 q3 q4 q5 q6 q7 q8 q9 q10 q11 H.size F J tx (sX9_token b_57 nb_57 i_57 F J tx ho_3)) (cwV 0 hts gX9_legLine_X9_token rfl rfl rfl (by decide +kernel) ⟨Nat.le_of_ble_eq_true rfl, Nat.le_of_ble_eq_true rfl⟩) ⟨blindRW, va_recv hK hP (ci := 9) (q0 := 0) rfl rfl, fun U hU hW => ⟨rfl, by rw [hU], by rw [hU]; exact hPc, hG.warm hW, hDc.weaken (fun _ _ _ _ => trivial)⟩⟩ rfl rfl hl.1 rfl (lv_room (Nat.le_of_ble_eq_true rfl)) dX9_legLine_57 ⟨Nat.le_of_ble_eq_true rfl, Nat.le_of_ble_eq_true rfl⟩) hS (fun q _ h => hFc q h) hFc (fun u t H1 locs ht hvm hw hB hz1 hk1 hS => ?_)
      obtain ⟨F_57, J_57⟩ := u
      obtain ⟨hP1, hD1⟩ := hB
      rw [ht] at hP1
      have hv := hv F_57 J_57 hw
      obtain ⟨hP, hD⟩ := va_join (wr := [(q4, .inl (g.2 0, 94, .inl td))]) (w1 := [(qM, .inr (9, [.int (F_57 0), .ref q1, .ref q2, .ref q3, .int (F_57 4), .int (F_57 5), .int (F_57 6), .int (F_57 7), .int (F_57 8), .int (F_57 9), .long (J_57 10), .int (F_57 11), .int (F_57 12), .int (F_57 13), .ref q4, .int (F_57 15), .ref q5, .ref q6, .ref q7, .int (F_57 19), .ref q8, .int (F_57 21), .int (F_57 22), .int (F_57 23), .int (F_57 24), .ref q9, .ref q10, .ref q11, .long (J_57 28)])), (q2, .inl (g.2 1, 2000, .inl tx))]) hP hD [0, 1] [2] rfl rfl (by decide) (by decide) hk1 hFc hP1 hD1
      clear hP1 hD1 hPc hDc hFc hk1
      generalize H1 = H at hP hS ⊢
      have hP : va_P g.1 vwCl [(q4, .inl (g.2 0, 94, .inl td)), (qM, .inr (9, [.int (F_57 0), .ref q1, .ref q2, .ref q3, .int (F_57 4), .int (F_57 5), .int (F_57 6), .int (F_57 7), .int (F_57 8), .int (F_57 9), .long (J_57 10), .int (F_57 11), .int (F_57 12), .int (F_57 13), .ref q4, .int (F_57 15), .ref q5, .ref q6, .ref q7, .int (F_57 19), .ref q8, .int (F_57 21), .int (F_57 22), .int (F_57 23), .int (F_57 24), .ref q9, .ref q10, .ref q11, .long (J_57 28)])), (q2, .inl (g.2 1, 2000, .inl tx))] H := hP
      have hD : va_D A [(q4, .inl (g.2 0, 94, .inl td)), (qM, .inr (9, [.int (F_57 0), .ref q1, .ref q2, .ref q3, .int (F_57 4), .int (F_57 5), .int (F_57 6), .int (F_57 7), .int (F_57 8), .int (F_57 9), .long (J_57 10), .int (F_57 11), .int (F_57 12), .int (F_57 13), .ref q4, .int (F_57 15), .ref q5, .ref q6, .ref q7, .int (F_57 19), .ref q8, .int (F_57 21), .int (F_57 22), .int (F_57 23), .int (F_57 24), .ref q9, .ref q10, .ref q11, .long (J_57 28)])), (q2, .inl (g.2 1, 2000, .inl tx))] := hD
      refine lv_aload_n hx hb dX9_legLine_60 rfl (lv_at hl 2 rfl) ?_
      refine lv_iload hx hb dX9_legLine_61 (lv_at hl 0 rfl) ?_
      refine lv_iconst (v := (1 : Int32)) hx hb dX9_legLine_63 (by decide) ?_
      obtain ⟨hvt, hvf⟩ := hv
      refine lv_icmp_ne (tgt := 71) hx hb dX9_legLine_64 (by decide) (fun hc => ?_) (fun hc => ?_)
      · have hv := hvt hc
        refine lv_iload hx hb dX9_legLine_71 (lv_at hl 0 rfl) ?_
        obtain ⟨ho_4, hv⟩ := hv
        refine vp_callSi (W.runS (As := [.int r_40]) (rest := [.ref qM]) S (wX9_leastOf l g r_40 (sX9_leastOf r_40 ho_4)) (va_cwS 1 hts gX9_legLine_X9_leastOf rfl rfl rfl (by decide +kernel) ⟨Nat.le_of_ble_eq_true rfl, Nat.le_of_ble_eq_true rfl⟩) ⟨blindRO, fun U hU hW => ⟨rfl, by rw [hU]; exact hP.sub (ws' := []) [] rfl, hG.warm hW⟩⟩ rfl rfl hl.1 rfl (lv_room (Nat.le_of_ble_eq_true rfl)) dX9_legLine_73 ⟨Nat.le_of_ble_eq_true rfl, Nat.le_of_ble_eq_true rfl⟩) (fun r_73 hr_73 => ?_)
        have hv := hv r_73 hr_73
        exact kX9_legLine_c76 S hr hlocks hG hA _ _ _ _ _ _ hv _ _ (hP.sub (ws' := [(qM, .inr (9, [.int (F_57 0), .ref q1, .ref q2, .ref q3, .int (F_57 4), .int (F_57 5), .int (F_57 6), .int (F_57 7), .int (F_57 8), .int (F_57 9), .long (J_57 10), .int (F_57 11), .int (F_57 12), .int (F_57 13), .ref q4, .int (F_57 15), .ref q5, .ref q6, .ref q7, .int (F_57 19), .ref q8, .int (F_57 21), .int (F_57 22), .int (F_57 23), .int (F_57 24), .ref q9, .ref q10, .ref q11, .long (J_57 28)])), (q2, .inl (g.2 1, 2000, .inl tx)), (q4, .inl (g.2 0, 94, .inl td))]) [1, 2, 0] rfl) (hD.sub (ws' := [(qM, .inr (9, [.int (F_57 0), .ref q1, .ref q2, .ref q3, .int (F_57 4), .int (F_57 5), .int (F_57 6), .int (F_57 7), .int (F_57 8), .int (F_57 9), .long (J_57 10), .int (F_57 11), .int (F_57 12), .int (F_57 13), .ref q4, .int (F_57 15), .ref q5, .ref q6, .ref q7, .int (F_57 19), .ref q8, .int (F_57 21), .int (F_57 22), .int (F_57 23), .int (F_57 24), .ref q9, .ref q10, .ref q11, .long (J_57 28)])), (q2, .inl (g.2 1, 2000, .inl tx)), (q4, .inl (g.2 0, 94, .inl td))]) [1, 2, 0] (by decide) rfl) hS ls (lv_sub hl [2, 3, 1, 0] rfl)
      · have hv := hvf hc
        refine lv_iconst (v := (0 : Int32)) hx hb dX9_legLine_67 (by decide) ?_
        refine lv_goto (tgt := 76) hx hb dX9_legLine_68 (by decide) ?_
        exact kX9_legLine_c76 S hr hlocks hG hA _ _ _ _ _ _ hv _ _ (hP.sub (ws' := [(qM, .inr (9, [.int (F_57 0), .ref q1, .ref q2, .ref q3, .int (F_57 4), .int (F_57 5), .int (F_57 6), .int (F_57 7), .int (F_57 8), .int (F_57 9), .long (J_57 10), .int (F_57 11), .int (F_57 12), .int (F_57 13), .ref q4, .int (F_57 15), .ref q5, .ref q6, .ref q7, .int (F_57 19), .ref q8, .int (F_57 21), .int (F_57 22), .int (F_57 23), .int (F_57 24), .ref q9, .ref q10, .ref q11, .long (J_57 28)])), (q2, .inl (g.2 1, 2000, .inl tx)), (q4, .inl (g.2 0, 94, .inl td))]) [1, 2, 0] rfl) (hD.sub (ws' := [(qM, .inr (9, [.int (F_57 0), .ref q1, .ref q2, .ref q3, .int (F_57 4), .int (F_57 5), .int (F_57 6), .int (F_57 7), .int (F_57 8), .int (F_57 9), .long (J_57 10), .int (F_57 11), .int (F_57 12), .int (F_57 13), .ref q4, .int (F_57 15), .ref q5, .ref q6, .ref q7, .int (F_57 19), .ref q8, .int (F_57 21), .int (F_57 22), .int (F_57 23), .int (F_57 24), .ref q9, .ref q10, .ref q11, .long (J_57 28)])), (q2, .inl (g.2 1, 2000, .inl tx)), (q4, .inl (g.2 0, 94, .inl td))]) [1, 2, 0] (by decide) rfl) hS ls (lv_sub hl [2, 3, 1, 0] rfl)
    · have hv := hvf hc
      refine lv_aload_n hx hb dX9_legLine_51 rfl (lv_at hl 2 rfl) ?_
      obtain ⟨ho_5, hv⟩ := hv
      have hPc := hP.sub (ws' := [(qM, .inr (9, [.int (F 0), .ref q1, .ref q2, .ref q3, .int (F 4), .int (F 5), .int (F 6), .int (F 7), .int (F 8), .int (F 9), .long (J 10), .int (F 11), .int (F 12), .int (F 13), .ref q4, .int (F 15), .ref q5, .ref q6, .ref q7, .int (F 19), .ref q8, .int (F 21), .int (F 22), .int (F 23), .int (F 24), .ref q9, .ref q10, .ref q11, .long (J 28)]))]) [0] rfl
      have hDc := hD.sub (ws' := [(qM, .inr (9, [.int (F 0), .ref q1, .ref q2, .ref q3, .int (F 4), .int (F 5), .int (F 6), .int (F 7), .int (F 8), .int (F 9), .long (J 10), .int (F 11), .int (F 12), .int (F 13), .ref q4, .int (F 15), .ref q5, .ref q6, .ref q7, .int (F 19), .ref q8, .int (F 21), .int (F 22), .int (F 23), .int (F 24), .ref q9, .ref q10, .ref q11, .long (J 28)]))]) [0] (by decide) rfl
      have hFc := va_free (wc := [(qM, .inr (9, [.int (F 0), .ref q1, .ref q2, .ref q3, .int (F 4), .int (F 5), .int (F 6), .int (F 7), .int (F 8), .int (F 9), .long (J 10), .int (F 11), .int (F 12), .int (F 13), .ref q4, .int (F 15), .ref q5, .ref q6, .ref q7, .int (F 19), .ref q8, .int (F 21), .int (F 22), .int (F 23), .int (F 24), .ref q9, .ref q10, .ref q11, .long (J 28)]))]) hD hS hA [0] rfl
      refine va_calli (va_runV (As := []) (rest := []) S (wX9_fails l g qM q1 q2 q3 q4 q5 q6 q7 q8 q9 q10 q11 H.size F J (sX9_fails F J ho_5)) (cwV 0 hts gX9_legLine_X9_fails rfl rfl rfl (by decide +kernel) ⟨Nat.le_of_ble_eq_true rfl, Nat.le_of_ble_eq_true rfl⟩) ⟨blindRW, va_recv hK hP (ci := 9) (q0 := 0) rfl rfl, fun U hU hW => ⟨rfl, by rw [hU], by rw [hU]; exact hPc, hG.warm hW, hDc.weaken (fun _ _ _ _ => trivial)⟩⟩ rfl rfl hl.1 rfl (lv_room (Nat.le_of_ble_eq_true rfl)) dX9_legLine_52 ⟨Nat.le_of_ble_eq_true rfl, Nat.le_of_ble_eq_true rfl⟩) hS (fun q _ h => hFc q h) hFc (fun r_52 u t H1 locs ht hvm hw hB hz1 hk1 hS => ?_)
      obtain ⟨F_52, rfl⟩ : ∃ z, z = u := ⟨_, rfl⟩
      obtain ⟨hP1, hD1⟩ := hB
      rw [ht] at hP1
      have hv := hv r_52 F_52 hw
      obtain ⟨hP, hD⟩ := va_join (wr := [(q2, .inl (g.2 1, 2000, .inl tx)), (q4, .inl (g.2 0, 94, .inl td))]) (w1 := [(qM, .inr (9, [.int (F_52 0), .ref q1, .ref q2, .ref q3, .int (F_52 4), .int (F_52 5), .int (F_52 6), .int (F_52 7), .int (F_52 8), .int (F_52 9), .long (J 10), .int (F_52 11), .int (F_52 12), .int (F_52 13), .ref q4, .int (F_52 15), .ref q5, .ref q6, .ref q7, .int (F_52 19), .ref q8, .int (F_52 21), .int (F_52 22), .int (F_52 23), .int (F_52 24), .ref q9, .ref q10, .ref q11, .long (J 28)]))]) hP hD [0] [1, 2] rfl rfl (by decide) (by decide) hk1 hFc hP1 hD1
      clear hP1 hD1 hPc hDc hFc hk1
      generalize H1 = H at hP hS ⊢
      have hP : va_P g.1 vwCl [(q2, .inl (g.2 1, 2000, .inl tx)), (q4, .inl (g.2 0, 94, .inl td)), (qM, .inr (9, [.int (F_52 0), .ref q1, .ref q2, .ref q3, .int (F_52 4), .int (F_52 5), .int (F_52 6), .int (F_52 7), .int (F_52 8), .int (F_52 9), .long (J 10), .int (F_52 11), .int (F_52 12), .int (F_52 13), .ref q4, .int (F_52 15), .ref q5, .ref q6, .ref q7, .int (F_52 19), .ref q8, .int (F_52 21), .int (F_52 22), .int (F_52 23), .int (F_52 24), .ref q9, .ref q10, .ref q11, .long (J 28)]))] H := hP
      have hD : va_D A [(q2, .inl (g.2 1, 2000, .inl tx)), (q4, .inl (g.2 0, 94, .inl td)), (qM, .inr (9, [.int (F_52 0), .ref q1, .ref q2, .ref q3, .int (F_52 4), .int (F_52 5), .int (F_52 6), .int (F_52 7), .int (F_52 8), .int (F_52 9), .long (J 10), .int (F_52 11), .int (F_52 12), .int (F_52 13), .ref q4, .int (F_52 15), .ref q5, .ref q6, .ref q7, .int (F_52 19), .ref q8, .int (F_52 21), .int (F_52 22), .int (F_52 23), .int (F_52 24), .ref q9, .ref q10, .ref q11, .long (J 28)]))] := hD
      have hP9 := hP.sub (ws' := [(qM, .inr (9, [.int (F_52 0), .ref q1, .ref q2, .ref q3, .int (F_52 4), .int (F_52 5), .int (F_52 6), .int (F_52 7), .int (F_52 8), .int (F_52 9), .long (J 10), .int (F_52 11), .int (F_52 12), .int (F_52 13), .ref q4, .int (F_52 15), .ref q5, .ref q6, .ref q7, .int (F_52 19), .ref q8, .int (F_52 21), .int (F_52 22), .int (F_52 23), .int (F_52 24), .ref q9, .ref q10, .ref q11, .long (J 28)])), (q2, .inl (g.2 1, 2000, .inl tx)), (q4, .inl (g.2 0, 94, .inl td))]) [2, 0, 1] rfl
      have hD9 := hD.sub (ws' := [(qM, .inr (9, [.int (F_52 0), .ref q1, .ref q2, .ref q3, .int (F_52 4), .int (F_52 5), .int (F_52 6), .int (F_52 7), .int (F_52 8), .int (F_52 9), .long (J 10), .int (F_52 11), .int (F_52 12), .int (F_52 13), .ref q4, .int (F_52 15), .ref q5, .ref q6, .ref q7, .int (F_52 19), .ref q8, .int (F_52 21), .int (F_52 22), .int (F_52 23), .int (F_52 24), .ref q9, .ref q10, .ref q11, .long (J 28)])), (q2, .inl (g.2 1, 2000, .inl tx)), (q4, .inl (g.2 0, 94, .inl td))]) [2, 0, 1] (by decide) rfl
      obtain ⟨hn, hv⟩ := hv
      exact W.zret (v := r_52) (ty := .boolean) hx hb hr hn (fun t ht hW => ⟨⟨_, (F_52, J, td), rfl, hv, by rw [ht]; exact hP9, hD9⟩, hS.F ht⟩) hS.2.2 dX9_legLine_55
  · have hv := hvf hc
    refine lv_aload_n hx hb dX9_legLine_29 rfl (lv_at hl 1 rfl) ?_
    refine lv_iload_n hx hb dX9_legLine_30 rfl (lv_at hl 2 rfl) ?_
    refine lv_lload_n hx hb dX9_legLine_31 rfl (lv_at hl 0 rfl) ?_
    obtain ⟨b_32, nb_32, i_32, ho_6, hv⟩ := hv
    refine vp_callSi (W.runS (As := [.long s0]) (rest := [.int p1, .ref qM]) S (wX9_markOf l g s0 (sX9_markOf b_32 nb_32 i_32 s0 ho_6)) (va_cwS 1 hts gX9_legLine_X9_markOf rfl rfl rfl (by decide +kernel) ⟨Nat.le_of_ble_eq_true rfl, Nat.le_of_ble_eq_true rfl⟩) ⟨blindRO, fun U hU hW => ⟨rfl, by rw [hU]; exact hP.sub (ws' := []) [] rfl, hG.warm hW⟩⟩ rfl rfl hl.1 rfl (lv_room (Nat.le_of_ble_eq_true rfl)) dX9_legLine_32 ⟨Nat.le_of_ble_eq_true rfl, Nat.le_of_ble_eq_true rfl⟩) (fun r_32 hr_32 => ?_)
    have hv := hv r_32 hr_32
    obtain ⟨b_35, nb_35, i_35, f_35, G_35, w_35, ho_7, hv⟩ := hv
    have hPc := hP.sub (ws' := [(qM, .inr (9, [.int (F 0), .ref q1, .ref q2, .ref q3, .int (F 4), .int (F 5), .int (F 6), .int (F 7), .int (F 8), .int (F 9), .long (J 10), .int (F 11), .int (F 12), .int (F 13), .ref q4, .int (F 15), .ref q5, .ref q6, .ref q7, .int (F 19), .ref q8, .int (F 21), .int (F 22), .int (F 23), .int (F 24), .ref q9, .ref q10, .ref q11, .long (J 28)])), (q2, .inl (g.2 1, 2000, .inl tx)), (q4, .inl (g.2 0, 94, .inl td))]) [0, 1, 2] rfl
    have hDc := hD.sub (ws' := [(qM, .inr (9, [.int (F 0), .ref q1, .ref q2, .ref q3, .int (F 4), .int (F 5), .int (F 6), .int (F 7), .int (F 8), .int (F 9), .long (J 10), .int (F 11), .int (F 12), .int (F 13), .ref q4, .int (F 15), .ref q5, .ref q6, .ref q7, .int (F 19), .ref q8, .int (F 21), .int (F 22), .int (F 23), .int (F 24), .ref q9, .ref q10, .ref q11, .long (J 28)])), (q2, .inl (g.2 1, 2000, .inl tx)), (q4, .inl (g.2 0, 94, .inl td))]) [0, 1, 2] (by decide) rfl
    have hFc := va_free (wc := [(qM, .inr (9, [.int (F 0), .ref q1, .ref q2, .ref q3, .int (F 4), .int (F 5), .int (F 6), .int (F 7), .int (F 8), .int (F 9), .long (J 10), .int (F 11), .int (F 12), .int (F 13), .ref q4, .int (F 15), .ref q5, .ref q6, .ref q7, .int (F 19), .ref q8, .int (F 21), .int (F 22), .int (F 23), .int (F 24), .ref q9, .ref q10, .ref q11, .long (J 28)])), (q2, .inl (g.2 1, 2000, .inl tx)), (q4, .inl (g.2 0, 94, .inl td))]) hD hS hA [0, 1, 2] rfl
    refine va_calli (va_runV (As := [.int p1, .int r_32]) (rest := []) S (wX9_markLine l g qM q1 q2 q3 q4 q5 q6 q7 q8 q9 q10 q11 H.size F J tx td p1 r_32 (sX9_markLine b_35 nb_35 i_35 f_35 G_35 w_35 F J tx td p1 r_32 ho_7)) (cwV 2 hts gX9_legLine_X9_markLine rfl rfl rfl (by decide +kernel) ⟨Nat.le_of_ble_eq_true rfl, Nat.le_of_ble_eq_true rfl⟩) ⟨blindRW, va_recv hK hP (ci := 9) (q0 := 0) rfl rfl, fun U hU hW => ⟨rfl, by rw [hU], by rw [hU]; exact hPc, hG.warm hW, hDc.weaken (fun _ _ _ _ => trivial)⟩⟩ rfl rfl hl.1 rfl (lv_room (Nat.le_of_ble_eq_true rfl)) dX9_legLine_35 ⟨Nat.le_of_ble_eq_true rfl, Nat.le_of_ble_eq_true rfl⟩) hS (fun q _ h => hFc q h) hFc (fun r_35 u t H1 locs ht hvm hw hB hz1 hk1 hS => ?_)
    obtain ⟨F_35, J_35, td_35⟩ := u
    obtain ⟨hP1, hD1⟩ := hB
    rw [ht] at hP1
    have hv := hv r_35 F_35 J_35 td_35 hw
    obtain ⟨hP, hD⟩ := va_join (wr := []) (w1 := [(qM, .inr (9, [.int (F_35 0), .ref q1, .ref q2, .ref q3, .int (F_35 4), .int (F_35 5), .int (F_35 6), .int (F_35 7), .int (F_35 8), .int (F_35 9), .long (J_35 10), .int (F_35 11), .int (F_35 12), .int (F_35 13), .ref q4, .int (F_35 15), .ref q5, .ref q6, .ref q7, .int (F_35 19), .ref q8, .int (F_35 21), .int (F_35 22), .int (F_35 23), .int (F_35 24), .ref q9, .ref q10, .ref q11, .long (J_35 28)])), (q2, .inl (g.2 1, 2000, .inl tx)), (q4, .inl (g.2 0, 94, .inl td_35))]) hP hD [0, 1, 2] [] rfl rfl (by decide) (by decide) hk1 hFc hP1 hD1
    clear hP1 hD1 hPc hDc hFc hk1
    generalize H1 = H at hP hS ⊢
    have hP : va_P g.1 vwCl [(qM, .inr (9, [.int (F_35 0), .ref q1, .ref q2, .ref q3, .int (F_35 4), .int (F_35 5), .int (F_35 6), .int (F_35 7), .int (F_35 8), .int (F_35 9), .long (J_35 10), .int (F_35 11), .int (F_35 12), .int (F_35 13), .ref q4, .int (F_35 15), .ref q5, .ref q6, .ref q7, .int (F_35 19), .ref q8, .int (F_35 21), .int (F_35 22), .int (F_35 23), .int (F_35 24), .ref q9, .ref q10, .ref q11, .long (J_35 28)])), (q2, .inl (g.2 1, 2000, .inl tx)), (q4, .inl (g.2 0, 94, .inl td_35))] H := hP
    have hD : va_D A [(qM, .inr (9, [.int (F_35 0), .ref q1, .ref q2, .ref q3, .int (F_35 4), .int (F_35 5), .int (F_35 6), .int (F_35 7), .int (F_35 8), .int (F_35 9), .long (J_35 10), .int (F_35 11), .int (F_35 12), .int (F_35 13), .ref q4, .int (F_35 15), .ref q5, .ref q6, .ref q7, .int (F_35 19), .ref q8, .int (F_35 21), .int (F_35 22), .int (F_35 23), .int (F_35 24), .ref q9, .ref q10, .ref q11, .long (J_35 28)])), (q2, .inl (g.2 1, 2000, .inl tx)), (q4, .inl (g.2 0, 94, .inl td_35))] := hD
    have hP9 := hP.sub (ws' := [(qM, .inr (9, [.int (F_35 0), .ref q1, .ref q2, .ref q3, .int (F_35 4), .int (F_35 5), .int (F_35 6), .int (F_35 7), .int (F_35 8), .int (F_35 9), .long (J_35 10), .int (F_35 11), .int (F_35 12), .int (F_35 13), .ref q4, .int (F_35 15), .ref q5, .ref q6, .ref q7, .int (F_35 19), .ref q8, .int (F_35 21), .int (F_35 22), .int (F_35 23), .int (F_35 24), .ref q9, .ref q10, .ref q11, .long (J_35 28)])), (q2, .inl (g.2 1, 2000, .inl tx)), (q4, .inl (g.2 0, 94, .inl td_35))]) [0, 1, 2] rfl
    have hD9 := hD.sub (ws' := [(qM, .inr (9, [.int (F_35 0), .ref q1, .ref q2, .ref q3, .int (F_35 4), .int (F_35 5), .int (F_35 6), .int (F_35 7), .int (F_35 8), .int (F_35 9), .long (J_35 10), .int (F_35 11), .int (F_35 12), .int (F_35 13), .ref q4, .int (F_35 15), .ref q5, .ref q6, .ref q7, .int (F_35 19), .ref q8, .int (F_35 21), .int (F_35 22), .int (F_35 23), .int (F_35 24), .ref q9, .ref q10, .ref q11, .long (J_35 28)])), (q2, .inl (g.2 1, 2000, .inl tx)), (q4, .inl (g.2 0, 94, .inl td_35))]) [0, 1, 2] (by decide) rfl
    obtain ⟨hn, hv⟩ := hv
    exact W.zret (v := r_35) (ty := .boolean) hx hb hr hn (fun t ht hW => ⟨⟨_, (F_35, J_35, td_35), rfl, hv, by rw [ht]; exact hP9, hD9⟩, hS.F ht⟩) hS.2.2 dX9_legLine_38
def vX9_legLine (F : Nat → Int32) (J : Nat → Int64) (tx : Nat → Int32) (td : Nat → Int32) (p1 : Int32) (Q : Int32 → (Nat → Int32) → (Nat → Int64) → (Nat → Int32) → Prop) : Prop := (∃ (b_1 : Nat → Int32) (nb_1 : Nat) (i_1 : Nat), preX9_token b_1 nb_1 i_1 F J tx ∧ (∀ (F_1 : Nat → Int32) (J_1 : Nat → Int64), postX9_token b_1 nb_1 i_1 F J tx F_1 J_1 → ((¬ (F_1 7) = (2 : Int32) → (vX9_legLine_c20 tx p1 Q (0 : Int64) F_1 J_1 td)) ∧ ((F_1 7) = (2 : Int32) → (vX9_legLine_c20 tx p1 Q (J_1 10) F_1 J_1 td)))))
set_option maxHeartbeats 4000000 in
set_option maxRecDepth 100000 in
theorem wX9_legLine (l : Launch) (g : GP) (qM : Nat) (q1 : Nat) (q2 : Nat) (q3 : Nat) (q4 : Nat) (q5 : Nat) (q6 : Nat) (q7 : Nat) (q8 : Nat) (q9 : Nat) (q10 : Nat) (q11 : Nat) (sz : Nat) (F : Nat → Int32) (J : Nat → Int64) (tx : Nat → Int32) (td : Nat → Int32) (p1 : Int32) {Q : Int32 → (Nat → Int32) → (Nat → Int64) → (Nat → Int32) → Prop} (hv : vX9_legLine F J tx td p1 Q) : Met l yX9_legLine wsX9_legLine rmX9_legLine (va_Pc [.ref qM, .int p1] (fun U => U.heap.size = sz ∧ va_P g.1 vwCl [(qM, .inr (9, [.int (F 0), .ref q1, .ref q2, .ref q3, .int (F 4), .int (F 5), .int (F 6), .int (F 7), .int (F 8), .int (F 9), .long (J 10), .int (F 11), .int (F 12), .int (F 13), .ref q4, .int (F 15), .ref q5, .ref q6, .ref q7, .int (F 19), .ref q8, .int (F 21), .int (F 22), .int (F 23), .int (F 24), .ref q9, .ref q10, .ref q11, .long (J 28)])), (q2, .inl (g.2 1, 2000, .inl tx)), (q4, .inl (g.2 0, 94, .inl td))] U.heap ∧ GK g U ∧ va_D (fun _ => True) [(qM, .inr (9, [.int (F 0), .ref q1, .ref q2, .ref q3, .int (F 4), .int (F 5), .int (F 6), .int (F 7), .int (F 8), .int (F 9), .long (J 10), .int (F 11), .int (F 12), .int (F 13), .ref q4, .int (F 15), .ref q5, .ref q6, .ref q7, .int (F 19), .ref q8, .int (F 21), .int (F 22), .int (F 23), .int (F 24), .ref q9, .ref q10, .ref q11, .long (J 28)])), (q2, .inl (g.2 1, 2000, .inl tx)), (q4, .inl (g.2 0, 94, .inl td))])) (va_Qi (fun (r : Int32) (u : (Nat → Int32) × (Nat → Int64) × (Nat → Int32)) => Q r u.1 u.2.1 u.2.2) (fun (u : (Nat → Int32) × (Nat → Int64) × (Nat → Int32)) t => va_P g.1 vwCl [(qM, .inr (9, [.int (u.1 0), .ref q1, .ref q2, .ref q3, .int (u.1 4), .int (u.1 5), .int (u.1 6), .int (u.1 7), .int (u.1 8), .int (u.1 9), .long (u.2.1 10), .int (u.1 11), .int (u.1 12), .int (u.1 13), .ref q4, .int (u.1 15), .ref q5, .ref q6, .ref q7, .int (u.1 19), .ref q8, .int (u.1 21), .int (u.1 22), .int (u.1 23), .int (u.1 24), .ref q9, .ref q10, .ref q11, .long (u.2.1 28)])), (q2, .inl (g.2 1, 2000, .inl tx)), (q4, .inl (g.2 0, 94, .inl u.2.2))] t.heap ∧ va_D (va_A [(qM, .inr (9, [.int (F 0), .ref q1, .ref q2, .ref q3, .int (F 4), .int (F 5), .int (F 6), .int (F 7), .int (F 8), .int (F 9), .long (J 10), .int (F 11), .int (F 12), .int (F 13), .ref q4, .int (F 15), .ref q5, .ref q6, .ref q7, .int (F 19), .ref q8, .int (F 21), .int (F 22), .int (F 23), .int (F 24), .ref q9, .ref q10, .ref q11, .long (J 28)])), (q2, .inl (g.2 1, 2000, .inl tx)), (q4, .inl (g.2 0, 94, .inl td))] sz) [(qM, .inr (9, [.int (u.1 0), .ref q1, .ref q2, .ref q3, .int (u.1 4), .int (u.1 5), .int (u.1 6), .int (u.1 7), .int (u.1 8), .int (u.1 9), .long (u.2.1 10), .int (u.1 11), .int (u.1 12), .int (u.1 13), .ref q4, .int (u.1 15), .ref q5, .ref q6, .ref q7, .int (u.1 19), .ref q8, .int (u.1 21), .int (u.1 22), .int (u.1 23), .int (u.1 24), .ref q9, .ref q10, .ref q11, .long (u.2.1 28)])), (q2, .inl (g.2 1, 2000, .inl tx)), (q4, .inl (g.2 0, 94, .inl u.2.2))]) (va_A [(qM, .inr (9, [.int (F 0), .ref q1, .ref q2, .ref q3, .int (F 4), .int (F 5), .int (F 6), .int (F 7), .int (F 8), .int (F 9), .long (J 10), .int (F 11), .int (F 12), .int (F 13), .ref q4, .int (F 15), .ref q5, .ref q6, .ref q7, .int (F 19), .ref q8, .int (F 21), .int (F 22), .int (F 23), .int (F 24), .ref q9, .ref q10, .ref q11, .long (J 28)])), (q2, .inl (g.2 1, 2000, .inl tx)), (q4, .inl (g.2 0, 94, .inl td))] sz)) 0 0 (va_A [(qM, .inr (9, [.int (F 0), .ref q1, .ref q2, .ref q3, .int (F 4), .int (F 5), .int (F 6), .int (F 7), .int (F 8), .int (F 9), .long (J 10), .int (F 11), .int (F 12), .int (F 13), .ref q4, .int (F 15), .ref q5, .ref q6, .ref q7, .int (F 19), .ref q8, .int (F 21), .int (F 22), .int (F 23), .int (F 24), .ref q9, .ref q10, .ref q11, .long (J 28)])), (q2, .inl (g.2 1, 2000, .inl tx)), (q4, .inl (g.2 0, 94, .inl td))] sz) := by
  refine Met.ofW (cc := cX9_legLine) (maxL := 5) (ret := (some .boolean)) (by decide) rfl ?_
  intro p e s m args below meth c s₁ B hml hv'
  obtain ⟨rfl, hsz, hP, hG, hD0⟩ := hv'
  have S : CallFix p m c cX9_legLine 5 s _ wsX9_legLine RX9 := ⟨B.exec, B.bytes, hml, findClass_of_methodNamed B.named, atoms_spec (ws := wsX9_legLine) B.pre⟩
  obtain ⟨hx, hb, hml, hown, hts⟩ := id S
  have hK := hG.1
  have hr := B.returns
  have hlocks := B.notSynchronized
  subst hsz
  have hD := hD0.self (sz := s.heap.size)
  generalize hAe : va_A [(qM, .inr (9, [.int (F 0), .ref q1, .ref q2, .ref q3, .int (F 4), .int (F 5), .int (F 6), .int (F 7), .int (F 8), .int (F 9), .long (J 10), .int (F 11), .int (F 12), .int (F 13), .ref q4, .int (F 15), .ref q5, .ref q6, .ref q7, .int (F 19), .ref q8, .int (F 21), .int (F 22), .int (F 23), .int (F 24), .ref q9, .ref q10, .ref q11, .long (J 28)])), (q2, .inl (g.2 1, 2000, .inl tx)), (q4, .inl (g.2 0, 94, .inl td))] s.heap.size = A at hD ⊢
  have hA : ∀ q : Nat, s.heap.size ≤ q → A q := fun q h => by rw [← hAe]; exact Or.inr h
  have hS : va_S A s.heap s.heap [] := va_S.rf
  clear hD0 hAe
  have hl := lv_entry ([.ref qM, .int p1]) (n := 5) (Nat.le_of_ble_eq_true rfl)
  rw [lg_entry_eq]
  generalize (lg_sl ([.ref qM, .int p1]) ++ List.replicate (5 - (lg_sl ([.ref qM, .int p1])).length) Slot.unset).toArray = ls at hl ⊢
  have hl : lv_has ls 5 [(0, .ref qM), (1, .int p1)] := hl
  unfold vX9_legLine at hv
  refine lv_aload_n hx hb dX9_legLine_0 rfl (lv_at hl 0 rfl) ?_
  obtain ⟨b_1, nb_1, i_1, ho_1, hv⟩ := hv
  have hPc := hP.sub (ws' := [(qM, .inr (9, [.int (F 0), .ref q1, .ref q2, .ref q3, .int (F 4), .int (F 5), .int (F 6), .int (F 7), .int (F 8), .int (F 9), .long (J 10), .int (F 11), .int (F 12), .int (F 13), .ref q4, .int (F 15), .ref q5, .ref q6, .ref q7, .int (F 19), .ref q8, .int (F 21), .int (F 22), .int (F 23), .int (F 24), .ref q9, .ref q10, .ref q11, .long (J 28)])), (q2, .inl (g.2 1, 2000, .inl tx))]) [0, 1] rfl
  have hDc := hD.sub (ws' := [(qM, .inr (9, [.int (F 0), .ref q1, .ref q2, .ref q3, .int (F 4), .int (F 5), .int (F 6), .int (F 7), .int (F 8), .int (F 9), .long (J 10), .int (F 11), .int (F 12), .int (F 13), .ref q4, .int (F 15), .ref q5, .ref q6, .ref q7, .int (F 19), .ref q8, .int (F 21), .int (F 22), .int (F 23), .int (F 24), .ref q9, .ref q10, .ref q11, .long (J 28)])), (q2, .inl (g.2 1, 2000, .inl tx))]) [0, 1] (by decide) rfl
  have hFc := va_free (wc := [(qM, .inr (9, [.int (F 0), .ref q1, .ref q2, .ref q3, .int (F 4), .int (F 5), .int (F 6), .int (F 7), .int (F 8), .int (F 9), .long (J 10), .int (F 11), .int (F 12), .int (F 13), .ref q4, .int (F 15), .ref q5, .ref q6, .ref q7, .int (F 19), .ref q8, .int (F 21), .int (F 22), .int (F 23), .int (F 24), .ref q9, .ref q10, .ref q11, .long (J 28)])), (q2, .inl (g.2 1, 2000, .inl tx))]) hD hS hA [0, 1] rfl
  refine va_callv (va_runV (As := []) (rest := []) S (wX9_token l g qM q1 q2 q3 q4 q5 q6 q7 q8 q9 q10 q11 s.heap.size F J tx (sX9_token b_1 nb_1 i_1 F J tx ho_1)) (cwV 0 hts gX9_legLine_X9_token rfl rfl rfl (by decide +kernel) ⟨Nat.le_of_ble_eq_true rfl, Nat.le_of_ble_eq_true rfl⟩) ⟨blindRW, va_recv hK hP (ci := 9) (q0 := 0) rfl rfl, fun U hU hW => ⟨rfl, by rw [hU], by rw [hU]; exact hPc, hG.warm hW, hDc.weaken (fun _ _ _ _ => trivial)⟩⟩ rfl rfl hl.1 rfl (lv_room (Nat.le_of_ble_eq_true rfl)) dX9_legLine_1 ⟨Nat.le_of_ble_eq_true rfl, Nat.le_of_ble_eq_true rfl⟩) hS (fun q _ h => hFc q h) hFc (fun u t H1 locs ht hvm hw hB hz1 hk1 hS => ?_)
  obtain ⟨F_1, J_1⟩ := u
  obtain ⟨hP1, hD1⟩ := hB
  rw [ht] at hP1
  have hv := hv F_1 J_1 hw
  obtain ⟨hP, hD⟩ := va_join (wr := [(q4, .inl (g.2 0, 94, .inl td))]) (w1 := [(qM, .inr (9, [.int (F_1 0), .ref q1, .ref q2, .ref q3, .int (F_1 4), .int (F_1 5), .int (F_1 6), .int (F_1 7), .int (F_1 8), .int (F_1 9), .long (J_1 10), .int (F_1 11), .int (F_1 12), .int (F_1 13), .ref q4, .int (F_1 15), .ref q5, .ref q6, .ref q7, .int (F_1 19), .ref q8, .int (F_1 21), .int (F_1 22), .int (F_1 23), .int (F_1 24), .ref q9, .ref q10, .ref q11, .long (J_1 28)])), (q2, .inl (g.2 1, 2000, .inl tx))]) hP hD [0, 1] [2] rfl rfl (by decide) (by decide) hk1 hFc hP1 hD1
  clear hP1 hD1 hPc hDc hFc hk1
  generalize H1 = H at hP hS ⊢
  have hP : va_P g.1 vwCl [(q4, .inl (g.2 0, 94, .inl td)), (qM, .inr (9, [.int (F_1 0), .ref q1, .ref q2, .ref q3, .int (F_1 4), .int (F_1 5), .int (F_1 6), .int (F_1 7), .int (F_1 8), .int (F_1 9), .long (J_1 10), .int (F_1 11), .int (F_1 12), .int (F_1 13), .ref q4, .int (F_1 15), .ref q5, .ref q6, .ref q7, .int (F_1 19), .ref q8, .int (F_1 21), .int (F_1 22), .int (F_1 23), .int (F_1 24), .ref q9, .ref q10, .ref q11, .long (J_1 28)])), (q2, .inl (g.2 1, 2000, .inl tx))] H := hP
  have hD : va_D A [(q4, .inl (g.2 0, 94, .inl td)), (qM, .inr (9, [.int (F_1 0), .ref q1, .ref q2, .ref q3, .int (F_1 4), .int (F_1 5), .int (F_1 6), .int (F_1 7), .int (F_1 8), .int (F_1 9), .long (J_1 10), .int (F_1 11), .int (F_1 12), .int (F_1 13), .ref q4, .int (F_1 15), .ref q5, .ref q6, .ref q7, .int (F_1 19), .ref q8, .int (F_1 21), .int (F_1 22), .int (F_1 23), .int (F_1 24), .ref q9, .ref q10, .ref q11, .long (J_1 28)])), (q2, .inl (g.2 1, 2000, .inl tx))] := hD
  refine lv_aload_n hx hb dX9_legLine_4 rfl (lv_at hl 0 rfl) ?_
  refine va_get (D := g.1) (ci := 9) (v := .int (F_1 7)) (C := RX9) (T := TX9) (N := 29) hx hb hts inX9_legLine_9 hown hK hP 1 rfl rfl 7 (by decide) (hts (.fieldLink RX9 86 "RangeCodesModel" "sort" "I") (List.mem_of_getElem? (i := 1) rfl)) (fun _ h9 => h9) rfl dX9_legLine_5 ?_
  refine lv_iconst (v := (2 : Int32)) hx hb dX9_legLine_8 (by decide) ?_
  obtain ⟨hvt, hvf⟩ := hv
  refine lv_icmp_ne (tgt := 19) hx hb dX9_legLine_9 (by decide) (fun hc => ?_) (fun hc => ?_)
  · have hv := hvt hc
    refine lv_lconst (v := (0 : Int64)) hx hb dX9_legLine_19 (by decide) ?_
    exact kX9_legLine_c20 S hr hlocks hG hA _ _ _ _ hv _ _ (hP.sub (ws' := [(qM, .inr (9, [.int (F_1 0), .ref q1, .ref q2, .ref q3, .int (F_1 4), .int (F_1 5), .int (F_1 6), .int (F_1 7), .int (F_1 8), .int (F_1 9), .long (J_1 10), .int (F_1 11), .int (F_1 12), .int (F_1 13), .ref q4, .int (F_1 15), .ref q5, .ref q6, .ref q7, .int (F_1 19), .ref q8, .int (F_1 21), .int (F_1 22), .int (F_1 23), .int (F_1 24), .ref q9, .ref q10, .ref q11, .long (J_1 28)])), (q2, .inl (g.2 1, 2000, .inl tx)), (q4, .inl (g.2 0, 94, .inl td))]) [1, 2, 0] rfl) (hD.sub (ws' := [(qM, .inr (9, [.int (F_1 0), .ref q1, .ref q2, .ref q3, .int (F_1 4), .int (F_1 5), .int (F_1 6), .int (F_1 7), .int (F_1 8), .int (F_1 9), .long (J_1 10), .int (F_1 11), .int (F_1 12), .int (F_1 13), .ref q4, .int (F_1 15), .ref q5, .ref q6, .ref q7, .int (F_1 19), .ref q8, .int (F_1 21), .int (F_1 22), .int (F_1 23), .int (F_1 24), .ref q9, .ref q10, .ref q11, .long (J_1 28)])), (q2, .inl (g.2 1, 2000, .inl tx)), (q4, .inl (g.2 0, 94, .inl td))]) [1, 2, 0] (by decide) rfl) hS ls (lv_sub hl [0, 1] rfl)
  · have hv := hvf hc
    refine lv_aload_n hx hb dX9_legLine_12 rfl (lv_at hl 0 rfl) ?_
    refine va_get (D := g.1) (ci := 9) (v := .long (J_1 10)) (C := RX9) (T := TX9) (N := 29) hx hb hts inX9_legLine_9 hown hK hP 1 rfl rfl 10 (by decide) (hts (.fieldLink RX9 82 "RangeCodesModel" "word" "J") (List.mem_of_getElem? (i := 2) rfl)) (fun _ h9 => h9) rfl dX9_legLine_13 ?_
    refine lv_goto (tgt := 20) hx hb dX9_legLine_16 (by decide) ?_
    exact kX9_legLine_c20 S hr hlocks hG hA _ _ _ _ hv _ _ (hP.sub (ws' := [(qM, .inr (9, [.int (F_1 0), .ref q1, .ref q2, .ref q3, .int (F_1 4), .int (F_1 5), .int (F_1 6), .int (F_1 7), .int (F_1 8), .int (F_1 9), .long (J_1 10), .int (F_1 11), .int (F_1 12), .int (F_1 13), .ref q4, .int (F_1 15), .ref q5, .ref q6, .ref q7, .int (F_1 19), .ref q8, .int (F_1 21), .int (F_1 22), .int (F_1 23), .int (F_1 24), .ref q9, .ref q10, .ref q11, .long (J_1 28)])), (q2, .inl (g.2 1, 2000, .inl tx)), (q4, .inl (g.2 0, 94, .inl td))]) [1, 2, 0] rfl) (hD.sub (ws' := [(qM, .inr (9, [.int (F_1 0), .ref q1, .ref q2, .ref q3, .int (F_1 4), .int (F_1 5), .int (F_1 6), .int (F_1 7), .int (F_1 8), .int (F_1 9), .long (J_1 10), .int (F_1 11), .int (F_1 12), .int (F_1 13), .ref q4, .int (F_1 15), .ref q5, .ref q6, .ref q7, .int (F_1 19), .ref q8, .int (F_1 21), .int (F_1 22), .int (F_1 23), .int (F_1 24), .ref q9, .ref q10, .ref q11, .long (J_1 28)])), (q2, .inl (g.2 1, 2000, .inl tx)), (q4, .inl (g.2 0, 94, .inl td))]) [1, 2, 0] (by decide) rfl) hS ls (lv_sub hl [0, 1] rfl)
theorem stS_ref : ∀ w, w < 11 → 4 ≤ w → (if (stJ w : Int) = 1 then 0 else leastS (stJ w)) = stL w ∧ mostS (stJ w) = stM w ∧ stJ w < 6 := by decide
abbrev preX9_legLine (b : Nat → Int32) (nb : Nat) (i : Nat) (f : Int × Int) (G : Lg) (F : Nat → Int32) (J : Nat → Int64) (tx : Nat → Int32) (td : Nat → Int32) (p1 : Int32) : Prop := rdM b nb i F J ∧ isTx b nb tx ∧ fm F = f ∧ flB f (tS b nb i) ∧ tK b nb i ≠ 0 ∧ (p1.toInt = 0 ∨ p1.toInt = 1) ∧ (f.1 = 0 → mG G p1.toInt.toNat td) ∧ 0 ≤ (td (26 + 37 * p1.toInt.toNat)).toInt ∧ (td (26 + 37 * p1.toInt.toNat)).toInt ≤ 10
abbrev postX9_legLine (b : Nat → Int32) (nb : Nat) (i : Nat) (f : Int × Int) (G : Lg) (F : Nat → Int32) (J : Nat → Int64) (tx : Nat → Int32) (td : Nat → Int32) (p1 : Int32) (r : Int32) (F' : Nat → Int32) (J' : Nat → Int64) (td' : Nat → Int32) : Prop := rmA b nb (legS b nb (tE b nb i) G f) r F' J' ∧ ((legS b nb (tE b nb i) G f).2.2.1 = 0 → mG (legG b nb (tE b nb i) G) p1.toInt.toNat td') ∧ 0 ≤ (td' (26 + 37 * p1.toInt.toNat)).toInt ∧ (td' (26 + 37 * p1.toInt.toNat)).toInt ≤ 10 ∧ ∀ k, k < 20 + 37 * p1.toInt.toNat ∨ 57 + 37 * p1.toInt.toNat ≤ k → td' k = td k
theorem sX9_legLine_76 (b : Nat → Int32) (nb : Nat) (i : Nat) (f : Int × Int) (G : Lg) (F : Nat → Int32) (J : Nat → Int64) (tx : Nat → Int32) (td : Nat → Int32) (p1 : Int32) (H : preX9_legLine b nb i f G F J tx td p1) (w : Nat) (hw : wI b nb (tE b nb i) = w) (hw1 : 4 ≤ w) (hw2 : w ≤ 10) (F1 : Nat → Int32) (J1 : Nat → Int64) (hr : rdM b nb (tE b nb (tE b nb i)) F1 J1) (hf1 : fm F1 = f) (hfl1 : flB f (tS b nb (tE b nb (tE b nb i)))) (x4 s0 : Int32) (h4 : x4.toInt = (stJ w : Int)) (hs0 : s0.toInt = stL w) : vX9_legLine_c76 tx p1 (postX9_legLine b nb i f G F J tx td p1) (wdL b nb (tE b nb i)) x4 s0 F1 J1 td := by
  obtain ⟨hr0, htx, hf, hfl, hk0, hl, hG, ht0, ht10⟩ := id H
  obtain ⟨a1, a2, a3⟩ := stS_ref w (by omega) hw1
  have e1 : p1.toInt = (p1.toInt.toNat : Int) := by omega
  have eo : legS b nb (tE b nb i) G f = numS b nb (tE b nb (tE b nb i)) (stL w) (stM w) f := by unfold legS; rw [hw, if_pos ⟨hw1, hw2⟩]
  have eg : legG b nb (tE b nb i) G = stG b nb (tE b nb (tE b nb i)) w G := by unfold legG; rw [hw, if_pos ⟨hw1, hw2⟩]
  refine ⟨trivial, fun r2 h2 => ⟨b, nb, tE b nb (tE b nb i), f, ⟨hr, htx, hf1, hfl1⟩, fun r3 F3 J3 h3 => ?_⟩⟩
  have h2 : r2.toInt = stM w := by rw [show r2.toInt = mostS x4.toInt from h2, h4, a2]
  obtain ⟨⟨h3a, h3b, h3c⟩, h3d⟩ := h3
  rw [h2, hs0, ← eo] at h3a h3b h3c h3d
  have hx : (((20 : Int32) + ((37 : Int32) * p1)) + x4).toInt = ((20 + 37 * p1.toInt.toNat + stJ w : Nat) : Int) := ix_ofLeg e1 h4 (by omega)
  rw [h3a, q_if1, br_d (b := b) (nb := nb) (i := tE b nb i) _ (k := 6) (by decide) rfl (126892433305195 : Int64) rfl, q_cl hx, hw]
  refine ⟨fun c => ?_, fun c => ⟨⟨by rw [if_neg c], h3b, h3c⟩, fun z => absurd z (legS_n (by simpa using c)), ht0, ht10, fun _ _ => rfl⟩⟩
  have c := Decidable.not_not.mp c
  have e15 := h3d c
  have hk := numS_t.mp (by rw [eo] at c; exact c)
  have hv := tV_le hr.2.2.1 hk
  have en : ∀ y : Int32, y.toInt = stV w (tV b nb (tE b nb (tE b nb i))) → postX9_legLine b nb i f G F J tx td p1 1 F3 J3 (upd td (20 + 37 * p1.toInt.toNat + stJ w) y) := fun y hy => by
    refine ⟨⟨by rw [if_pos c], h3b, h3c⟩, fun z => ?_, ?_, ?_, fun k hk => by rw [upd_ne (by omega)]⟩
    · rw [eo] at z
      have q := numS_0 z
      rw [eg]
      have hg := hG q.2.1
      exact mG_g hg a3 (okG_st hg.1 ⟨hw1, hw2⟩ q.2.2.1 q.2.2.2.1 (by omega)) hy
    · rw [upd_ne (by omega)]; exact ht0
    · rw [upd_ne (by omega)]; exact ht10
  refine ⟨fun d => ⟨q_in hx (by omega), en _ ?_⟩, fun d => ⟨q_in hx (by omega), en _ ?_⟩⟩
  · unfold stV; rw [if_neg d]; exact e15
  · unfold stV
    rw [if_pos d, ← e15]
    have e0 : (0 : Int32) - F3 15 = -(F3 15) := Int32.zero_sub _
    rw [← e0, q_sub z0 rfl (by omega) (by omega)]; omega
theorem sX9_legLine_20 (b : Nat → Int32) (nb : Nat) (i : Nat) (f : Int × Int) (G : Lg) (F : Nat → Int32) (J : Nat → Int64) (tx : Nat → Int32) (td : Nat → Int32) (p1 : Int32) (H : preX9_legLine b nb i f G F J tx td p1) (F1 : Nat → Int32) (J1 : Nat → Int64) (hr : rdM b nb (tE b nb i) F1 J1) (hf1 : fm F1 = f) : vX9_legLine_c20 tx p1 (postX9_legLine b nb i f G F J tx td p1) (wdL b nb (tE b nb i)) F1 J1 td := by
  obtain ⟨hr0, htx, hf, hfl, hk0, hl, hG, ht0, ht10⟩ := id H
  have hi := hr0.2.2.1
  have hgt := tE_gt b hi hk0
  have he1 := tE_le b hi
  have hs1 := tS_le b he1.2
  have he2 := tE_le b he1.2
  have hs2 := tS_le b he2.2
  refine ⟨b, nb, tE b nb i, rfl, fun r2 h2 => ?_⟩
  have h2 : r2.toInt = mkI (wI b nb (tE b nb i)) := h2
  rw [fa_eq r2, zm1, h2, mkI_m]
  refine ⟨fun c => ⟨b, nb, tE b nb i, rfl, fun r3 h3 => ?_⟩, fun c => ⟨b, nb, tE b nb i, rfl, fun r3 h3 => ?_⟩⟩
  · have h3 : r3.toInt = soI (wI b nb (tE b nb i)) := h3
    have e3 : (r3 = (-1 : Int32)) = ¬ (4 ≤ wI b nb (tE b nb i) ∧ wI b nb (tE b nb i) ≤ 10) := by
      rw [fa_eq, zm1, h3]
      unfold soI
      by_cases d : 4 ≤ wI b nb (tE b nb i) ∧ wI b nb (tE b nb i) ≤ 10
      · rw [if_pos d]; exact propext ⟨fun q => absurd q (by omega), fun q => absurd d q⟩
      · rw [if_neg d]; exact propext ⟨fun _ => d, fun _ => rfl⟩
    rw [e3]
    refine ⟨fun d => ?_, fun d => ⟨trivial, fun r4 F4 h4 => ?_⟩⟩
    · have d := Decidable.not_not.mp d
      unfold soI at h3
      rw [if_pos d] at h3
      obtain ⟨a1, a2, a3⟩ := stS_ref _ (by omega) d.1
      refine ⟨b, nb, tE b nb (tE b nb i), rdM_at hr htx, fun F4 J4 h4 => ?_⟩
      have hf4 : fm F4 = f := by rw [fm_kp h4.2]; exact hf1
      rw [fa_eq r3, h3, z1]
      refine ⟨fun e => ⟨trivial, fun r5 h5 => ?_⟩, fun e => ?_⟩
      · have h5 : r5.toInt = leastS (stJ (wI b nb (tE b nb i)) : Int) := by rw [← h3]; exact h5
        exact sX9_legLine_76 b nb i f G F J tx td p1 H _ rfl d.1 d.2 F4 J4 h4.1 hf4 (flB_w hfl (by omega)) r3 r5 h3 (by rw [h5, ← a1, if_neg e])
      · exact sX9_legLine_76 b nb i f G F J tx td p1 H _ rfl d.1 d.2 F4 J4 h4.1 hf4 (flB_w hfl (by omega)) r3 _ h3 (by rw [← a1, if_pos e]; rfl)
    · obtain ⟨e1, e2⟩ := h4
      subst e1 e2
      have eo : legS b nb (tE b nb i) G f = rfS (tS b nb (tE b nb i)) := by unfold legS; rw [if_neg d, if_neg c]
      unfold postX9_legLine
      rw [eo]
      exact ⟨rfl, ⟨rfl, fun q => absurd q rfS_1, fun _ => hr.2.2.2.1⟩, fun z => absurd z rfS_2, ht0, ht10, fun _ _ => rfl⟩
  · have c := Decidable.not_not.mp c
    have h3 : r3.toInt = mkI (wI b nb (tE b nb i)) := h3
    have eo : legS b nb (tE b nb i) G f = mkS b nb (tE b nb (tE b nb i)) (tS b nb (tE b nb i)) (wI b nb (tE b nb i)) (gm G) f := by unfold legS; rw [if_neg (by omega), if_pos c]
    have eg : legG b nb (tE b nb i) G = mkG b nb (tE b nb (tE b nb i)) (wI b nb (tE b nb i)) G := by unfold legG; rw [if_neg (by omega)]
    have hk1 := wI_1 (b := b) (nb := nb) (i := tE b nb i) (by omega)
    refine ⟨b, nb, tE b nb i, f, G, wI b nb (tE b nb i), ⟨hr, htx, hf1, flB_w hfl (by omega), by omega, hl, c.1, c.2, by rw [h3, mkI_e c], hG, ht0, ht10⟩, fun r4 F4 J4 td4 h4 => ⟨nar_if h4.1.1, ?_⟩⟩
    unfold postX9_legLine
    rw [eo, eg]
    exact h4
theorem sX9_legLine (b : Nat → Int32) (nb : Nat) (i : Nat) (f : Int × Int) (G : Lg) (F : Nat → Int32) (J : Nat → Int64) (tx : Nat → Int32) (td : Nat → Int32) (p1 : Int32) (H : preX9_legLine b nb i f G F J tx td p1) : vX9_legLine F J tx td p1 (postX9_legLine b nb i f G F J tx td p1) := by
  obtain ⟨hr0, htx, hf, hfl, hk0, hl, hG, ht0, ht10⟩ := id H
  refine ⟨b, nb, tE b nb i, rdM_at hr0 htx, fun F1 J1 h1 => ?_⟩
  have q := sX9_legLine_20 b nb i f G F J tx td p1 H F1 J1 h1.1 (by rw [fm_kp h1.2]; exact hf)
  rw [fa_eq (F1 7), h1.1.2.2.2.2.2.1, z2, soK_2 (tK_le _ _ _)]
  refine ⟨fun c => ?_, fun c => ?_⟩
  · rw [← wd_0 c]; exact q
  · rw [(h1.1.2.2.2.2.2.2.2 c).2]; exact q
set_option maxRecDepth 20000 in
theorem ggX9_line_X9_partLine : GoodIn wsX9_line wsX9_partLine := goodIn_r _ [13, 7, 14, 1, 15, 8, 16, 17, 18, 12, 19, 20, 21, 22, 23, 24, 25, 26, 2, 27, 28, 29, 30, 31, 32, 33, 34, 35, 36, 37, 38, 39, 40, 41, 42, 43, 44, 45, 46, 47, 48, 49, 81, 82, 83, 84, 85, 86, 87, 88, 89, 90, 91, 92, 93, 94, 95, 96, 97, 98, 99, 100, 101, 102, 103, 104, 105, 106, 107, 108, 109] (by decide +kernel) (by decide +kernel)
set_option maxRecDepth 20000 in
theorem gX9_line_X9_partLine : GoodIn wsX9_line (wsV RX9 166 RX9 yX9_partLine wsX9_partLine) := goodIn_app (goodIn_of _ (by decide +kernel)) ggX9_line_X9_partLine
set_option maxRecDepth 20000 in
theorem ggX9_line_X9_legLine : GoodIn wsX9_line wsX9_legLine := goodIn_r _ [53, 1, 2, 7, 54, 8, 22, 23, 24, 12, 25, 26, 14, 15, 27, 28, 29, 30, 31, 32, 33, 34, 35, 36, 55, 56, 57, 58, 59, 60, 61, 62, 63, 64, 65, 16, 17, 18, 19, 20, 21, 46, 47, 48, 49, 41, 42, 43, 44, 45, 66, 67, 68, 69, 70, 71, 72, 73, 74, 75, 76, 77, 78, 79, 80, 81, 82, 83, 84, 85, 86, 87, 88, 89, 90, 91, 92, 93, 94, 95, 96, 97, 98, 99, 100, 101, 102, 103, 104, 105, 106, 107, 108, 109] (by decide +kernel) (by decide +kernel)
set_option maxRecDepth 20000 in
theorem gX9_line_X9_legLine : GoodIn wsX9_line (wsV RX9 173 RX9 yX9_legLine wsX9_legLine) := goodIn_app (goodIn_of _ (by decide +kernel)) ggX9_line_X9_legLine
set_option maxRecDepth 20000 in
theorem ggX9_line_X9_fails : GoodIn wsX9_line wsX9_fails := goodIn_r _ [44, 14, 45, 81, 82, 83, 84, 85, 86, 87, 88, 89, 90, 91, 92, 93, 94, 95, 96, 97, 98, 99, 100, 101, 102, 103, 104, 105, 106, 107, 108, 109] (by decide +kernel) (by decide +kernel)
set_option maxRecDepth 20000 in
theorem gX9_line_X9_fails : GoodIn wsX9_line (wsV RX9 104 RX9 yX9_fails wsX9_fails) := goodIn_app (goodIn_of _ (by decide +kernel)) ggX9_line_X9_fails
set_option maxRecDepth 20000 in
theorem ggX9_line_X9_token : GoodIn wsX9_line wsX9_token := goodIn_r _ [25, 26, 14, 2, 1, 15, 27, 28, 29, 30, 12, 31, 32, 33, 34, 35, 36, 81, 82, 83, 84, 85, 86, 87, 88, 89, 90, 91, 92, 93, 94, 95, 96, 97, 98, 99, 100, 101, 102, 103, 104, 105, 106, 107, 108, 109] (by decide +kernel) (by decide +kernel)
set_option maxRecDepth 20000 in
theorem gX9_line_X9_token : GoodIn wsX9_line (wsV RX9 115 RX9 yX9_token wsX9_token) := goodIn_app (goodIn_of _ (by decide +kernel)) ggX9_line_X9_token
set_option maxRecDepth 20000 in
theorem ggX9_line_X9_takes : GoodIn wsX9_line wsX9_takes := goodIn_r _ [49, 1, 27, 8, 14, 41, 42, 43, 12, 44, 45, 34, 35, 36, 16, 17, 18, 19, 20, 21, 22, 23, 24, 25, 26, 2, 15, 28, 29, 30, 31, 32, 33, 81, 82, 83, 84, 85, 86, 87, 88, 89, 90, 91, 92, 93, 94, 95, 96, 97, 98, 99, 100, 101, 102, 103, 104, 105, 106, 107, 108, 109] (by decide +kernel) (by decide +kernel)
set_option maxRecDepth 20000 in
theorem gX9_line_X9_takes : GoodIn wsX9_line (wsV RX9 121 RX9 yX9_takes wsX9_takes) := goodIn_app (goodIn_of _ (by decide +kernel)) ggX9_line_X9_takes
theorem dX9_line_0 : decode cX9_line 0 = .ok (.aload_n 0, 1) := by decide +kernel
theorem dX9_line_1 : decode cX9_line 1 = .ok (.getfield 86, 3) := by decide +kernel
theorem dX9_line_4 : decode cX9_line 4 = .ok (.iconst 2, 1) := by decide +kernel
theorem dX9_line_5 : decode cX9_line 5 = .ok (.if_icmp .ne 10, 3) := by decide +kernel
theorem dX9_line_8 : decode cX9_line 8 = .ok (.aload_n 0, 1) := by decide +kernel
theorem dX9_line_9 : decode cX9_line 9 = .ok (.getfield 82, 3) := by decide +kernel
theorem dX9_line_12 : decode cX9_line 12 = .ok (.goto 4, 3) := by decide +kernel
theorem dX9_line_15 : decode cX9_line 15 = .ok (.lconst 0, 1) := by decide +kernel
theorem dX9_line_16 : decode cX9_line 16 = .ok (.lstore_n 1, 1) := by decide +kernel
theorem dX9_line_17 : decode cX9_line 17 = .ok (.lload_n 1, 1) := by decide +kernel
theorem dX9_line_18 : decode cX9_line 18 = .ok (.ldc2_w 164, 3) := by decide +kernel
theorem dX9_line_21 : decode cX9_line 21 = .ok (.lcmp, 1) := by decide +kernel
theorem dX9_line_22 : decode cX9_line 22 = .ok (.ifCond .ne 8, 3) := by decide +kernel
theorem dX9_line_25 : decode cX9_line 25 = .ok (.aload_n 0, 1) := by decide +kernel
theorem dX9_line_26 : decode cX9_line 26 = .ok (.invokevirtual 166, 3) := by decide +kernel
theorem dX9_line_29 : decode cX9_line 29 = .ok (.ireturn, 1) := by decide +kernel
theorem dX9_line_30 : decode cX9_line 30 = .ok (.lload_n 1, 1) := by decide +kernel
theorem dX9_line_31 : decode cX9_line 31 = .ok (.ldc2_w 169, 3) := by decide +kernel
theorem dX9_line_34 : decode cX9_line 34 = .ok (.lcmp, 1) := by decide +kernel
theorem dX9_line_35 : decode cX9_line 35 = .ok (.ifCond .eq 11, 3) := by decide +kernel
theorem dX9_line_38 : decode cX9_line 38 = .ok (.lload_n 1, 1) := by decide +kernel
theorem dX9_line_39 : decode cX9_line 39 = .ok (.ldc2_w 171, 3) := by decide +kernel
theorem dX9_line_42 : decode cX9_line 42 = .ok (.lcmp, 1) := by decide +kernel
theorem dX9_line_43 : decode cX9_line 43 = .ok (.ifCond .ne 21, 3) := by decide +kernel
theorem dX9_line_46 : decode cX9_line 46 = .ok (.aload_n 0, 1) := by decide +kernel
theorem dX9_line_47 : decode cX9_line 47 = .ok (.lload_n 1, 1) := by decide +kernel
theorem dX9_line_48 : decode cX9_line 48 = .ok (.ldc2_w 169, 3) := by decide +kernel
theorem dX9_line_51 : decode cX9_line 51 = .ok (.lcmp, 1) := by decide +kernel
theorem dX9_line_52 : decode cX9_line 52 = .ok (.ifCond .ne 7, 3) := by decide +kernel
theorem dX9_line_55 : decode cX9_line 55 = .ok (.iconst 0, 1) := by decide +kernel
theorem dX9_line_56 : decode cX9_line 56 = .ok (.goto 4, 3) := by decide +kernel
theorem dX9_line_59 : decode cX9_line 59 = .ok (.iconst 1, 1) := by decide +kernel
theorem dX9_line_60 : decode cX9_line 60 = .ok (.invokevirtual 173, 3) := by decide +kernel
theorem dX9_line_63 : decode cX9_line 63 = .ok (.ireturn, 1) := by decide +kernel
theorem dX9_line_64 : decode cX9_line 64 = .ok (.lload_n 1, 1) := by decide +kernel
theorem dX9_line_65 : decode cX9_line 65 = .ok (.ldc2_w 177, 3) := by decide +kernel
theorem dX9_line_68 : decode cX9_line 68 = .ok (.lcmp, 1) := by decide +kernel
theorem dX9_line_69 : decode cX9_line 69 = .ok (.ifCond .eq 8, 3) := by decide +kernel
theorem dX9_line_72 : decode cX9_line 72 = .ok (.aload_n 0, 1) := by decide +kernel
theorem dX9_line_73 : decode cX9_line 73 = .ok (.invokevirtual 104, 3) := by decide +kernel
theorem dX9_line_76 : decode cX9_line 76 = .ok (.ireturn, 1) := by decide +kernel
theorem dX9_line_77 : decode cX9_line 77 = .ok (.aload_n 0, 1) := by decide +kernel
theorem dX9_line_78 : decode cX9_line 78 = .ok (.invokevirtual 115, 3) := by decide +kernel
theorem dX9_line_81 : decode cX9_line 81 = .ok (.aload_n 0, 1) := by decide +kernel
theorem dX9_line_82 : decode cX9_line 82 = .ok (.iconst 1, 1) := by decide +kernel
theorem dX9_line_83 : decode cX9_line 83 = .ok (.sipush 9999, 3) := by decide +kernel
theorem dX9_line_86 : decode cX9_line 86 = .ok (.invokevirtual 121, 3) := by decide +kernel
theorem dX9_line_89 : decode cX9_line 89 = .ok (.istore_n 3, 1) := by decide +kernel
theorem dX9_line_90 : decode cX9_line 90 = .ok (.aload_n 0, 1) := by decide +kernel
theorem dX9_line_91 : decode cX9_line 91 = .ok (.getfield 21, 3) := by decide +kernel
theorem dX9_line_94 : decode cX9_line 94 = .ok (.iconst 1, 1) := by decide +kernel
theorem dX9_line_95 : decode cX9_line 95 = .ok (.aload_n 0, 1) := by decide +kernel
theorem dX9_line_96 : decode cX9_line 96 = .ok (.getfield 108, 3) := by decide +kernel
theorem dX9_line_99 : decode cX9_line 99 = .ok (.iastore, 1) := by decide +kernel
theorem dX9_line_100 : decode cX9_line 100 = .ok (.iload_n 3, 1) := by decide +kernel
theorem dX9_line_101 : decode cX9_line 101 = .ok (.ireturn, 1) := by decide +kernel
abbrev rmX9_line : Room := { frames := 5, cells := 0, slots := 0, locals := 115 }
theorem inX9_line_9 : ∀ w ∈ wsX90, w ∈ wsX9_line := by decide +kernel
def vX9_line_c46 (tx : Nat → Int32) (Q : Int32 → (Nat → Int32) → (Nat → Int64) → (Nat → Int32) → Prop) (x1 : Int64) (F : Nat → Int32) (J : Nat → Int64) (td : Nat → Int32) : Prop := ((¬ (lg_cmp x1 (7304564 : Int64)) = 0 → (∃ (b_60 : Nat → Int32) (nb_60 : Nat) (i_60 : Nat) (f_60 : Int × Int) (G_60 : Lg), preX9_legLine b_60 nb_60 i_60 f_60 G_60 F J tx td (1 : Int32) ∧ (∀ (r_60 : Int32) (F_60 : Nat → Int32) (J_60 : Nat → Int64) (td_60 : Nat → Int32), postX9_legLine b_60 nb_60 i_60 f_60 G_60 F J tx td (1 : Int32) r_60 F_60 J_60 td_60 → (narrow .boolean (.int r_60) = .int r_60 ∧ (Q r_60 F_60 J_60 td_60))))) ∧ ((lg_cmp x1 (7304564 : Int64)) = 0 → (∃ (b_60 : Nat → Int32) (nb_60 : Nat) (i_60 : Nat) (f_60 : Int × Int) (G_60 : Lg), preX9_legLine b_60 nb_60 i_60 f_60 G_60 F J tx td (0 : Int32) ∧ (∀ (r_60 : Int32) (F_60 : Nat → Int32) (J_60 : Nat → Int64) (td_60 : Nat → Int32), postX9_legLine b_60 nb_60 i_60 f_60 G_60 F J tx td (0 : Int32) r_60 F_60 J_60 td_60 → (narrow .boolean (.int r_60) = .int r_60 ∧ (Q r_60 F_60 J_60 td_60))))))
set_option maxHeartbeats 4000000 in
set_option maxRecDepth 100000 in
theorem kX9_line_c46 {p : Program} {l : Launch} {e : Env} {s : State} {m : MethodId} {args : Array Value} {below : List Frame} {meth : Method} {c : Code} {g : GP} {qM : Nat} {q1 : Nat} {q2 : Nat} {q3 : Nat} {q4 : Nat} {q5 : Nat} {q6 : Nat} {q7 : Nat} {q8 : Nat} {q9 : Nat} {q10 : Nat} {q11 : Nat} {tx : Nat → Int32}  {Q : Int32 → (Nat → Int32) → (Nat → Int64) → (Nat → Int32) → Prop} {A : Nat → Prop} (S : CallFix p m c cX9_line 4 s args wsX9_line RX9) (hr : meth.sig.returnType = (some .boolean)) (hlocks : meth.locks = false) (hG : GK g s) (hA : ∀ q : Nat, s.heap.size ≤ q → A q) : ∀ (x1 : Int64) (F : Nat → Int32) (J : Nat → Int64) (td : Nat → Int32), vX9_line_c46 tx Q x1 F J td → ∀ (H : Heap) (locs : List Loc), va_P g.1 vwCl [(qM, .inr (9, [.int (F 0), .ref q1, .ref q2, .ref q3, .int (F 4), .int (F 5), .int (F 6), .int (F 7), .int (F 8), .int (F 9), .long (J 10), .int (F 11), .int (F 12), .int (F 13), .ref q4, .int (F 15), .ref q5, .ref q6, .ref q7, .int (F 19), .ref q8, .int (F 21), .int (F 22), .int (F 23), .int (F 24), .ref q9, .ref q10, .ref q11, .long (J 28)])), (q2, .inl (g.2 1, 2000, .inl tx)), (q4, .inl (g.2 0, 94, .inl td))] H → va_D A [(qM, .inr (9, [.int (F 0), .ref q1, .ref q2, .ref q3, .int (F 4), .int (F 5), .int (F 6), .int (F 7), .int (F 8), .int (F 9), .long (J 10), .int (F 11), .int (F 12), .int (F 13), .ref q4, .int (F 15), .ref q5, .ref q6, .ref q7, .int (F 19), .ref q8, .int (F 21), .int (F 22), .int (F 23), .int (F 24), .ref q9, .ref q10, .ref q11, .long (J 28)])), (q2, .inl (g.2 1, 2000, .inl tx)), (q4, .inl (g.2 0, 94, .inl td))] → va_S A s.heap H locs → ∀ (ls : Array Slot), lv_has ls 4 [(0, .ref qM), (1, .long x1)] → W p l e (headSpec wsX9_line rmX9_line).room s m args below meth c H locs 0 0 (MQ below (va_Qi (fun (r : Int32) (u : (Nat → Int32) × (Nat → Int64) × (Nat → Int32)) => Q r u.1 u.2.1 u.2.2) (fun (u : (Nat → Int32) × (Nat → Int64) × (Nat → Int32)) t => va_P g.1 vwCl [(qM, .inr (9, [.int (u.1 0), .ref q1, .ref q2, .ref q3, .int (u.1 4), .int (u.1 5), .int (u.1 6), .int (u.1 7), .int (u.1 8), .int (u.1 9), .long (u.2.1 10), .int (u.1 11), .int (u.1 12), .int (u.1 13), .ref q4, .int (u.1 15), .ref q5, .ref q6, .ref q7, .int (u.1 19), .ref q8, .int (u.1 21), .int (u.1 22), .int (u.1 23), .int (u.1 24), .ref q9, .ref q10, .ref q11, .long (u.2.1 28)])), (q2, .inl (g.2 1, 2000, .inl tx)), (q4, .inl (g.2 0, 94, .inl u.2.2))] t.heap ∧ va_D A [(qM, .inr (9, [.int (u.1 0), .ref q1, .ref q2, .ref q3, .int (u.1 4), .int (u.1 5), .int (u.1 6), .int (u.1 7), .int (u.1 8), .int (u.1 9), .long (u.2.1 10), .int (u.1 11), .int (u.1 12), .int (u.1 13), .ref q4, .int (u.1 15), .ref q5, .ref q6, .ref q7, .int (u.1 19), .ref q8, .int (u.1 21), .int (u.1 22), .int (u.1 23), .int (u.1 24), .ref q9, .ref q10, .ref q11, .long (u.2.1 28)])), (q2, .inl (g.2 1, 2000, .inl tx)), (q4, .inl (g.2 0, 94, .inl u.2.2))]) A) args s 0 0 A) (F0 m 46 ls []) := by
  obtain ⟨hx, hb, hml, hown, hts⟩ := id S
  have hK := hG.1
  intro x1 F J td hv H locs hP hD hS ls hl
  unfold vX9_line_c46 at hv
  refine lv_aload_n hx hb dX9_line_46 rfl (lv_at hl 0 rfl) ?_
  refine lv_lload_n hx hb dX9_line_47 rfl (lv_at hl 1 rfl) ?_
  refine lv_ldc2 (v := (7304564 : Int64)) hx hb hown (hts (.constantLong RX9 169 (7304564)) (List.mem_of_getElem? (i := 4) rfl)) dX9_line_48 ?_
  refine W.lcmp hx hb dX9_line_51 ?_
  obtain ⟨hvt, hvf⟩ := hv
  refine lv_if_ne (tgt := 59) hx hb dX9_line_52 (by decide) (fun hc => ?_) (fun hc => ?_)
  · have hv := hvt hc
    refine lv_iconst (v := (1 : Int32)) hx hb dX9_line_59 (by decide) ?_
    obtain ⟨b_60, nb_60, i_60, f_60, G_60, ho_1, hv⟩ := hv
    have hPc := hP.sub (ws' := [(qM, .inr (9, [.int (F 0), .ref q1, .ref q2, .ref q3, .int (F 4), .int (F 5), .int (F 6), .int (F 7), .int (F 8), .int (F 9), .long (J 10), .int (F 11), .int (F 12), .int (F 13), .ref q4, .int (F 15), .ref q5, .ref q6, .ref q7, .int (F 19), .ref q8, .int (F 21), .int (F 22), .int (F 23), .int (F 24), .ref q9, .ref q10, .ref q11, .long (J 28)])), (q2, .inl (g.2 1, 2000, .inl tx)), (q4, .inl (g.2 0, 94, .inl td))]) [0, 1, 2] rfl
    have hDc := hD.sub (ws' := [(qM, .inr (9, [.int (F 0), .ref q1, .ref q2, .ref q3, .int (F 4), .int (F 5), .int (F 6), .int (F 7), .int (F 8), .int (F 9), .long (J 10), .int (F 11), .int (F 12), .int (F 13), .ref q4, .int (F 15), .ref q5, .ref q6, .ref q7, .int (F 19), .ref q8, .int (F 21), .int (F 22), .int (F 23), .int (F 24), .ref q9, .ref q10, .ref q11, .long (J 28)])), (q2, .inl (g.2 1, 2000, .inl tx)), (q4, .inl (g.2 0, 94, .inl td))]) [0, 1, 2] (by decide) rfl
    have hFc := va_free (wc := [(qM, .inr (9, [.int (F 0), .ref q1, .ref q2, .ref q3, .int (F 4), .int (F 5), .int (F 6), .int (F 7), .int (F 8), .int (F 9), .long (J 10), .int (F 11), .int (F 12), .int (F 13), .ref q4, .int (F 15), .ref q5, .ref q6, .ref q7, .int (F 19), .ref q8, .int (F 21), .int (F 22), .int (F 23), .int (F 24), .ref q9, .ref q10, .ref q11, .long (J 28)])), (q2, .inl (g.2 1, 2000, .inl tx)), (q4, .inl (g.2 0, 94, .inl td))]) hD hS hA [0, 1, 2] rfl
    refine va_calli (va_runV (As := [.int (1 : Int32)]) (rest := []) S (wX9_legLine l g qM q1 q2 q3 q4 q5 q6 q7 q8 q9 q10 q11 H.size F J tx td (1 : Int32) (sX9_legLine b_60 nb_60 i_60 f_60 G_60 F J tx td (1 : Int32) ho_1)) (cwV 1 hts gX9_line_X9_legLine rfl rfl rfl (by decide +kernel) ⟨Nat.le_of_ble_eq_true rfl, Nat.le_of_ble_eq_true rfl⟩) ⟨blindRW, va_recv hK hP (ci := 9) (q0 := 0) rfl rfl, fun U hU hW => ⟨rfl, by rw [hU], by rw [hU]; exact hPc, hG.warm hW, hDc.weaken (fun _ _ _ _ => trivial)⟩⟩ rfl rfl hl.1 rfl (lv_room (Nat.le_of_ble_eq_true rfl)) dX9_line_60 ⟨Nat.le_of_ble_eq_true rfl, Nat.le_of_ble_eq_true rfl⟩) hS (fun q _ h => hFc q h) hFc (fun r_60 u t H1 locs ht hvm hw hB hz1 hk1 hS => ?_)
    obtain ⟨F_60, J_60, td_60⟩ := u
    obtain ⟨hP1, hD1⟩ := hB
    rw [ht] at hP1
    have hv := hv r_60 F_60 J_60 td_60 hw
    obtain ⟨hP, hD⟩ := va_join (wr := []) (w1 := [(qM, .inr (9, [.int (F_60 0), .ref q1, .ref q2, .ref q3, .int (F_60 4), .int (F_60 5), .int (F_60 6), .int (F_60 7), .int (F_60 8), .int (F_60 9), .long (J_60 10), .int (F_60 11), .int (F_60 12), .int (F_60 13), .ref q4, .int (F_60 15), .ref q5, .ref q6, .ref q7, .int (F_60 19), .ref q8, .int (F_60 21), .int (F_60 22), .int (F_60 23), .int (F_60 24), .ref q9, .ref q10, .ref q11, .long (J_60 28)])), (q2, .inl (g.2 1, 2000, .inl tx)), (q4, .inl (g.2 0, 94, .inl td_60))]) hP hD [0, 1, 2] [] rfl rfl (by decide) (by decide) hk1 hFc hP1 hD1
    clear hP1 hD1 hPc hDc hFc hk1
    generalize H1 = H at hP hS ⊢
    have hP : va_P g.1 vwCl [(qM, .inr (9, [.int (F_60 0), .ref q1, .ref q2, .ref q3, .int (F_60 4), .int (F_60 5), .int (F_60 6), .int (F_60 7), .int (F_60 8), .int (F_60 9), .long (J_60 10), .int (F_60 11), .int (F_60 12), .int (F_60 13), .ref q4, .int (F_60 15), .ref q5, .ref q6, .ref q7, .int (F_60 19), .ref q8, .int (F_60 21), .int (F_60 22), .int (F_60 23), .int (F_60 24), .ref q9, .ref q10, .ref q11, .long (J_60 28)])), (q2, .inl (g.2 1, 2000, .inl tx)), (q4, .inl (g.2 0, 94, .inl td_60))] H := hP
    have hD : va_D A [(qM, .inr (9, [.int (F_60 0), .ref q1, .ref q2, .ref q3, .int (F_60 4), .int (F_60 5), .int (F_60 6), .int (F_60 7), .int (F_60 8), .int (F_60 9), .long (J_60 10), .int (F_60 11), .int (F_60 12), .int (F_60 13), .ref q4, .int (F_60 15), .ref q5, .ref q6, .ref q7, .int (F_60 19), .ref q8, .int (F_60 21), .int (F_60 22), .int (F_60 23), .int (F_60 24), .ref q9, .ref q10, .ref q11, .long (J_60 28)])), (q2, .inl (g.2 1, 2000, .inl tx)), (q4, .inl (g.2 0, 94, .inl td_60))] := hD
    have hP9 := hP.sub (ws' := [(qM, .inr (9, [.int (F_60 0), .ref q1, .ref q2, .ref q3, .int (F_60 4), .int (F_60 5), .int (F_60 6), .int (F_60 7), .int (F_60 8), .int (F_60 9), .long (J_60 10), .int (F_60 11), .int (F_60 12), .int (F_60 13), .ref q4, .int (F_60 15), .ref q5, .ref q6, .ref q7, .int (F_60 19), .ref q8, .int (F_60 21), .int (F_60 22), .int (F_60 23), .int (F_60 24), .ref q9, .ref q10, .ref q11, .long (J_60 28)])), (q2, .inl (g.2 1, 2000, .inl tx)), (q4, .inl (g.2 0, 94, .inl td_60))]) [0, 1, 2] rfl
    have hD9 := hD.sub (ws' := [(qM, .inr (9, [.int (F_60 0), .ref q1, .ref q2, .ref q3, .int (F_60 4), .int (F_60 5), .int (F_60 6), .int (F_60 7), .int (F_60 8), .int (F_60 9), .long (J_60 10), .int (F_60 11), .int (F_60 12), .int (F_60 13), .ref q4, .int (F_60 15), .ref q5, .ref q6, .ref q7, .int (F_60 19), .ref q8, .int (F_60 21), .int (F_60 22), .int (F_60 23), .int (F_60 24), .ref q9, .ref q10, .ref q11, .long (J_60 28)])), (q2, .inl (g.2 1, 2000, .inl tx)), (q4, .inl (g.2 0, 94, .inl td_60))]) [0, 1, 2] (by decide) rfl
    obtain ⟨hn, hv⟩ := hv
    exact W.zret (v := r_60) (ty := .boolean) hx hb hr hn (fun t ht hW => ⟨⟨_, (F_60, J_60, td_60), rfl, hv, by rw [ht]; exact hP9, hD9⟩, hS.F ht⟩) hS.2.2 dX9_line_63
  · have hv := hvf hc
    refine lv_iconst (v := (0 : Int32)) hx hb dX9_line_55 (by decide) ?_
    refine lv_goto (tgt := 60) hx hb dX9_line_56 (by decide) ?_
    obtain ⟨b_60, nb_60, i_60, f_60, G_60, ho_2, hv⟩ := hv
    have hPc := hP.sub (ws' := [(qM, .inr (9, [.int (F 0), .ref q1, .ref q2, .ref q3, .int (F 4), .int (F 5), .int (F 6), .int (F 7), .int (F 8), .int (F 9), .long (J 10), .int (F 11), .int (F 12), .int (F 13), .ref q4, .int (F 15), .ref q5, .ref q6, .ref q7, .int (F 19), .ref q8, .int (F 21), .int (F 22), .int (F 23), .int (F 24), .ref q9, .ref q10, .ref q11, .long (J 28)])), (q2, .inl (g.2 1, 2000, .inl tx)), (q4, .inl (g.2 0, 94, .inl td))]) [0, 1, 2] rfl
    have hDc := hD.sub (ws' := [(qM, .inr (9, [.int (F 0), .ref q1, .ref q2, .ref q3, .int (F 4), .int (F 5), .int (F 6), .int (F 7), .int (F 8), .int (F 9), .long (J 10), .int (F 11), .int (F 12), .int (F 13), .ref q4, .int (F 15), .ref q5, .ref q6, .ref q7, .int (F 19), .ref q8, .int (F 21), .int (F 22), .int (F 23), .int (F 24), .ref q9, .ref q10, .ref q11, .long (J 28)])), (q2, .inl (g.2 1, 2000, .inl tx)), (q4, .inl (g.2 0, 94, .inl td))]) [0, 1, 2] (by decide) rfl
    have hFc := va_free (wc := [(qM, .inr (9, [.int (F 0), .ref q1, .ref q2, .ref q3, .int (F 4), .int (F 5), .int (F 6), .int (F 7), .int (F 8), .int (F 9), .long (J 10), .int (F 11), .int (F 12), .int (F 13), .ref q4, .int (F 15), .ref q5, .ref q6, .ref q7, .int (F 19), .ref q8, .int (F 21), .int (F 22), .int (F 23), .int (F 24), .ref q9, .ref q10, .ref q11, .long (J 28)])), (q2, .inl (g.2 1, 2000, .inl tx)), (q4, .inl (g.2 0, 94, .inl td))]) hD hS hA [0, 1, 2] rfl
    refine va_calli (va_runV (As := [.int (0 : Int32)]) (rest := []) S (wX9_legLine l g qM q1 q2 q3 q4 q5 q6 q7 q8 q9 q10 q11 H.size F J tx td (0 : Int32) (sX9_legLine b_60 nb_60 i_60 f_60 G_60 F J tx td (0 : Int32) ho_2)) (cwV 1 hts gX9_line_X9_legLine rfl rfl rfl (by decide +kernel) ⟨Nat.le_of_ble_eq_true rfl, Nat.le_of_ble_eq_true rfl⟩) ⟨blindRW, va_recv hK hP (ci := 9) (q0 := 0) rfl rfl, fun U hU hW => ⟨rfl, by rw [hU], by rw [hU]; exact hPc, hG.warm hW, hDc.weaken (fun _ _ _ _ => trivial)⟩⟩ rfl rfl hl.1 rfl (lv_room (Nat.le_of_ble_eq_true rfl)) dX9_line_60 ⟨Nat.le_of_ble_eq_true rfl, Nat.le_of_ble_eq_true rfl⟩) hS (fun q _ h => hFc q h) hFc (fun r_60 u t H1 locs ht hvm hw hB hz1 hk1 hS => ?_)
    obtain ⟨F_60, J_60, td_60⟩ := u
    obtain ⟨hP1, hD1⟩ := hB
    rw [ht] at hP1
    have hv := hv r_60 F_60 J_60 td_60 hw
    obtain ⟨hP, hD⟩ := va_join (wr := []) (w1 := [(qM, .inr (9, [.int (F_60 0), .ref q1, .ref q2, .ref q3, .int (F_60 4), .int (F_60 5), .int (F_60 6), .int (F_60 7), .int (F_60 8), .int (F_60 9), .long (J_60 10), .int (F_60 11), .int (F_60 12), .int (F_60 13), .ref q4, .int (F_60 15), .ref q5, .ref q6, .ref q7, .int (F_60 19), .ref q8, .int (F_60 21), .int (F_60 22), .int (F_60 23), .int (F_60 24), .ref q9, .ref q10, .ref q11, .long (J_60 28)])), (q2, .inl (g.2 1, 2000, .inl tx)), (q4, .inl (g.2 0, 94, .inl td_60))]) hP hD [0, 1, 2] [] rfl rfl (by decide) (by decide) hk1 hFc hP1 hD1
    clear hP1 hD1 hPc hDc hFc hk1
    generalize H1 = H at hP hS ⊢
    have hP : va_P g.1 vwCl [(qM, .inr (9, [.int (F_60 0), .ref q1, .ref q2, .ref q3, .int (F_60 4), .int (F_60 5), .int (F_60 6), .int (F_60 7), .int (F_60 8), .int (F_60 9), .long (J_60 10), .int (F_60 11), .int (F_60 12), .int (F_60 13), .ref q4, .int (F_60 15), .ref q5, .ref q6, .ref q7, .int (F_60 19), .ref q8, .int (F_60 21), .int (F_60 22), .int (F_60 23), .int (F_60 24), .ref q9, .ref q10, .ref q11, .long (J_60 28)])), (q2, .inl (g.2 1, 2000, .inl tx)), (q4, .inl (g.2 0, 94, .inl td_60))] H := hP
    have hD : va_D A [(qM, .inr (9, [.int (F_60 0), .ref q1, .ref q2, .ref q3, .int (F_60 4), .int (F_60 5), .int (F_60 6), .int (F_60 7), .int (F_60 8), .int (F_60 9), .long (J_60 10), .int (F_60 11), .int (F_60 12), .int (F_60 13), .ref q4, .int (F_60 15), .ref q5, .ref q6, .ref q7, .int (F_60 19), .ref q8, .int (F_60 21), .int (F_60 22), .int (F_60 23), .int (F_60 24), .ref q9, .ref q10, .ref q11, .long (J_60 28)])), (q2, .inl (g.2 1, 2000, .inl tx)), (q4, .inl (g.2 0, 94, .inl td_60))] := hD
    have hP9 := hP.sub (ws' := [(qM, .inr (9, [.int (F_60 0), .ref q1, .ref q2, .ref q3, .int (F_60 4), .int (F_60 5), .int (F_60 6), .int (F_60 7), .int (F_60 8), .int (F_60 9), .long (J_60 10), .int (F_60 11), .int (F_60 12), .int (F_60 13), .ref q4, .int (F_60 15), .ref q5, .ref q6, .ref q7, .int (F_60 19), .ref q8, .int (F_60 21), .int (F_60 22), .int (F_60 23), .int (F_60 24), .ref q9, .ref q10, .ref q11, .long (J_60 28)])), (q2, .inl (g.2 1, 2000, .inl tx)), (q4, .inl (g.2 0, 94, .inl td_60))]) [0, 1, 2] rfl
    have hD9 := hD.sub (ws' := [(qM, .inr (9, [.int (F_60 0), .ref q1, .ref q2, .ref q3, .int (F_60 4), .int (F_60 5), .int (F_60 6), .int (F_60 7), .int (F_60 8), .int (F_60 9), .long (J_60 10), .int (F_60 11), .int (F_60 12), .int (F_60 13), .ref q4, .int (F_60 15), .ref q5, .ref q6, .ref q7, .int (F_60 19), .ref q8, .int (F_60 21), .int (F_60 22), .int (F_60 23), .int (F_60 24), .ref q9, .ref q10, .ref q11, .long (J_60 28)])), (q2, .inl (g.2 1, 2000, .inl tx)), (q4, .inl (g.2 0, 94, .inl td_60))]) [0, 1, 2] (by decide) rfl
    obtain ⟨hn, hv⟩ := hv
    exact W.zret (v := r_60) (ty := .boolean) hx hb hr hn (fun t ht hW => ⟨⟨_, (F_60, J_60, td_60), rfl, hv, by rw [ht]; exact hP9, hD9⟩, hS.F ht⟩) hS.2.2 dX9_line_63
def vX9_line_c16 (tx : Nat → Int32) (Q : Int32 → (Nat → Int32) → (Nat → Int64) → (Nat → Int32) → Prop) (s0 : Int64) (F : Nat → Int32) (J : Nat → Int64) (td : Nat → Int32) : Prop := ((¬ (lg_cmp s0 (1885434484 : Int64)) = 0 → (((lg_cmp s0 (7304564 : Int64)) = 0 → (vX9_line_c46 tx Q s0 F J td)) ∧ (¬ (lg_cmp s0 (7304564 : Int64)) = 0 → ((¬ (lg_cmp s0 (1650549611 : Int64)) = 0 → (((lg_cmp s0 (465625246068 : Int64)) = 0 → (∃ (b_78 : Nat → Int32) (nb_78 : Nat) (i_78 : Nat), preX9_token b_78 nb_78 i_78 F J tx ∧ (∀ (F_78 : Nat → Int32) (J_78 : Nat → Int64), postX9_token b_78 nb_78 i_78 F J tx F_78 J_78 → (∃ (b_86 : Nat → Int32) (nb_86 : Nat) (i_86 : Nat) (f_86 : Int × Int), preX9_takes b_86 nb_86 i_86 f_86 F_78 J_78 tx (1 : Int32) (9999 : Int32) ∧ (∀ (r_86 : Int32) (F_86 : Nat → Int32) (J_86 : Nat → Int64), postX9_takes b_86 nb_86 i_86 f_86 F_78 J_78 tx (1 : Int32) (9999 : Int32) r_86 F_86 J_86 → (narrow .boolean (.int r_86) = .int r_86 ∧ (Q r_86 F_86 J_86 (upd td 1 (F_86 15))))))))) ∧ (¬ (lg_cmp s0 (465625246068 : Int64)) = 0 → (preX9_fails F J ∧ (∀ (r_73 : Int32) (F_73 : Nat → Int32), postX9_fails F J r_73 F_73 → (narrow .boolean (.int r_73) = .int r_73 ∧ (Q r_73 F_73 J td))))))) ∧ ((lg_cmp s0 (1650549611 : Int64)) = 0 → (vX9_line_c46 tx Q s0 F J td)))))) ∧ ((lg_cmp s0 (1885434484 : Int64)) = 0 → (∃ (b_26 : Nat → Int32) (nb_26 : Nat) (i_26 : Nat) (f_26 : Int × Int) (T_26 : Cd), preX9_partLine b_26 nb_26 i_26 f_26 T_26 F J tx td ∧ (∀ (r_26 : Int32) (F_26 : Nat → Int32) (J_26 : Nat → Int64) (td_26 : Nat → Int32), postX9_partLine b_26 nb_26 i_26 f_26 T_26 F J tx td r_26 F_26 J_26 td_26 → (narrow .boolean (.int r_26) = .int r_26 ∧ (Q r_26 F_26 J_26 td_26))))))
set_option maxHeartbeats 4000000 in
set_option maxRecDepth 100000 in
theorem kX9_line_c16 {p : Program} {l : Launch} {e : Env} {s : State} {m : MethodId} {args : Array Value} {below : List Frame} {meth : Method} {c : Code} {g : GP} {qM : Nat} {q1 : Nat} {q2 : Nat} {q3 : Nat} {q4 : Nat} {q5 : Nat} {q6 : Nat} {q7 : Nat} {q8 : Nat} {q9 : Nat} {q10 : Nat} {q11 : Nat} {tx : Nat → Int32}  {Q : Int32 → (Nat → Int32) → (Nat → Int64) → (Nat → Int32) → Prop} {A : Nat → Prop} (S : CallFix p m c cX9_line 4 s args wsX9_line RX9) (hr : meth.sig.returnType = (some .boolean)) (hlocks : meth.locks = false) (hG : GK g s) (hA : ∀ q : Nat, s.heap.size ≤ q → A q) : ∀ (s0 : Int64) (F : Nat → Int32) (J : Nat → Int64) (td : Nat → Int32), vX9_line_c16 tx Q s0 F J td → ∀ (H : Heap) (locs : List Loc), va_P g.1 vwCl [(qM, .inr (9, [.int (F 0), .ref q1, .ref q2, .ref q3, .int (F 4), .int (F 5), .int (F 6), .int (F 7), .int (F 8), .int (F 9), .long (J 10), .int (F 11), .int (F 12), .int (F 13), .ref q4, .int (F 15), .ref q5, .ref q6, .ref q7, .int (F 19), .ref q8, .int (F 21), .int (F 22), .int (F 23), .int (F 24), .ref q9, .ref q10, .ref q11, .long (J 28)])), (q2, .inl (g.2 1, 2000, .inl tx)), (q4, .inl (g.2 0, 94, .inl td))] H → va_D A [(qM, .inr (9, [.int (F 0), .ref q1, .ref q2, .ref q3, .int (F 4), .int (F 5), .int (F 6), .int (F 7), .int (F 8), .int (F 9), .long (J 10), .int (F 11), .int (F 12), .int (F 13), .ref q4, .int (F 15), .ref q5, .ref q6, .ref q7, .int (F 19), .ref q8, .int (F 21), .int (F 22), .int (F 23), .int (F 24), .ref q9, .ref q10, .ref q11, .long (J 28)])), (q2, .inl (g.2 1, 2000, .inl tx)), (q4, .inl (g.2 0, 94, .inl td))] → va_S A s.heap H locs → ∀ (ls : Array Slot), lv_has ls 4 [(0, .ref qM)] → W p l e (headSpec wsX9_line rmX9_line).room s m args below meth c H locs 0 0 (MQ below (va_Qi (fun (r : Int32) (u : (Nat → Int32) × (Nat → Int64) × (Nat → Int32)) => Q r u.1 u.2.1 u.2.2) (fun (u : (Nat → Int32) × (Nat → Int64) × (Nat → Int32)) t => va_P g.1 vwCl [(qM, .inr (9, [.int (u.1 0), .ref q1, .ref q2, .ref q3, .int (u.1 4), .int (u.1 5), .int (u.1 6), .int (u.1 7), .int (u.1 8), .int (u.1 9), .long (u.2.1 10), .int (u.1 11), .int (u.1 12), .int (u.1 13), .ref q4, .int (u.1 15), .ref q5, .ref q6, .ref q7, .int (u.1 19), .ref q8, .int (u.1 21), .int (u.1 22), .int (u.1 23), .int (u.1 24), .ref q9, .ref q10, .ref q11, .long (u.2.1 28)])), (q2, .inl (g.2 1, 2000, .inl tx)), (q4, .inl (g.2 0, 94, .inl u.2.2))] t.heap ∧ va_D A [(qM, .inr (9, [.int (u.1 0), .ref q1, .ref q2, .ref q3, .int (u.1 4), .int (u.1 5), .int (u.1 6), .int (u.1 7), .int (u.1 8), .int (u.1 9), .long (u.2.1 10), .int (u.1 11), .int (u.1 12), .int (u.1 13), .ref q4, .int (u.1 15), .ref q5, .ref q6, .ref q7, .int (u.1 19), .ref q8, .int (u.1 21), .int (u.1 22), .int (u.1 23), .int (u.1 24), .ref q9, .ref q10, .ref q11, .long (u.2.1 28)])), (q2, .inl (g.2 1, 2000, .inl tx)), (q4, .inl (g.2 0, 94, .inl u.2.2))]) A) args s 0 0 A) (F0 m 16 ls [.long s0]) := by
  obtain ⟨hx, hb, hml, hown, hts⟩ := id S
  have hK := hG.1
  intro s0 F J td hv H locs hP hD hS ls hl
  unfold vX9_line_c16 at hv
  refine lv_lstore_n (lv' := [(1, .long s0), (0, .ref qM)]) hx hb dX9_line_16 rfl hl (by decide) rfl (fun ls hl => ?_)
  refine lv_lload_n hx hb dX9_line_17 rfl (lv_at hl 0 rfl) ?_
  refine lv_ldc2 (v := (1885434484 : Int64)) hx hb hown (hts (.constantLong RX9 164 (1885434484)) (List.mem_of_getElem? (i := 3) rfl)) dX9_line_18 ?_
  refine W.lcmp hx hb dX9_line_21 ?_
  obtain ⟨hvt, hvf⟩ := hv
  refine lv_if_ne (tgt := 30) hx hb dX9_line_22 (by decide) (fun hc => ?_) (fun hc => ?_)
  · have hv := hvt hc
    refine lv_lload_n hx hb dX9_line_30 rfl (lv_at hl 0 rfl) ?_
    refine lv_ldc2 (v := (7304564 : Int64)) hx hb hown (hts (.constantLong RX9 169 (7304564)) (List.mem_of_getElem? (i := 4) rfl)) dX9_line_31 ?_
    refine W.lcmp hx hb dX9_line_34 ?_
    obtain ⟨hvt, hvf⟩ := hv
    refine lv_if_eq (tgt := 46) hx hb dX9_line_35 (by decide) (fun hc => ?_) (fun hc => ?_)
    · have hv := hvt hc
      exact kX9_line_c46 S hr hlocks hG hA _ _ _ _ hv _ _ (hP.sub (ws' := [(qM, .inr (9, [.int (F 0), .ref q1, .ref q2, .ref q3, .int (F 4), .int (F 5), .int (F 6), .int (F 7), .int (F 8), .int (F 9), .long (J 10), .int (F 11), .int (F 12), .int (F 13), .ref q4, .int (F 15), .ref q5, .ref q6, .ref q7, .int (F 19), .ref q8, .int (F 21), .int (F 22), .int (F 23), .int (F 24), .ref q9, .ref q10, .ref q11, .long (J 28)])), (q2, .inl (g.2 1, 2000, .inl tx)), (q4, .inl (g.2 0, 94, .inl td))]) [0, 1, 2] rfl) (hD.sub (ws' := [(qM, .inr (9, [.int (F 0), .ref q1, .ref q2, .ref q3, .int (F 4), .int (F 5), .int (F 6), .int (F 7), .int (F 8), .int (F 9), .long (J 10), .int (F 11), .int (F 12), .int (F 13), .ref q4, .int (F 15), .ref q5, .ref q6, .ref q7, .int (F 19), .ref q8, .int (F 21), .int (F 22), .int (F 23), .int (F 24), .ref q9, .ref q10, .ref q11, .long (J 28)])), (q2, .inl (g.2 1, 2000, .inl tx)), (q4, .inl (g.2 0, 94, .inl td))]) [0, 1, 2] (by decide) rfl) hS ls (lv_sub hl [1, 0] rfl)
    · have hv := hvf hc
      refine lv_lload_n hx hb dX9_line_38 rfl (lv_at hl 0 rfl) ?_
      refine lv_ldc2 (v := (1650549611 : Int64)) hx hb hown (hts (.constantLong RX9 171 (1650549611)) (List.mem_of_getElem? (i := 5) rfl)) dX9_line_39 ?_
      refine W.lcmp hx hb dX9_line_42 ?_
      obtain ⟨hvt, hvf⟩ := hv
      refine lv_if_ne (tgt := 64) hx hb dX9_line_43 (by decide) (fun hc => ?_) (fun hc => ?_)
      · have hv := hvt hc
        refine lv_lload_n hx hb dX9_line_64 rfl (lv_at hl 0 rfl) ?_
        refine lv_ldc2 (v := (465625246068 : Int64)) hx hb hown (hts (.constantLong RX9 177 (465625246068)) (List.mem_of_getElem? (i := 6) rfl)) dX9_line_65 ?_
        refine W.lcmp hx hb dX9_line_68 ?_
        obtain ⟨hvt, hvf⟩ := hv
        refine lv_if_eq (tgt := 77) hx hb dX9_line_69 (by decide) (fun hc => ?_) (fun hc => ?_)
        · have hv := hvt hc
          refine lv_aload_n hx hb dX9_line_77 rfl (lv_at hl 1 rfl) ?_
          obtain ⟨b_78, nb_78, i_78, ho_1, hv⟩ := hv
          have hPc := hP.sub (ws' := [(qM, .inr (9, [.int (F 0), .ref q1, .ref q2, .ref q3, .int (F 4), .int (F 5), .int (F 6), .int (F 7), .int (F 8), .int (F 9), .long (J 10), .int (F 11), .int (F 12), .int (F 13), .ref q4, .int (F 15), .ref q5, .ref q6, .ref q7, .int (F 19), .ref q8, .int (F 21), .int (F 22), .int (F 23), .int (F 24), .ref q9, .ref q10, .ref q11, .long (J 28)])), (q2, .inl (g.2 1, 2000, .inl tx))]) [0, 1] rfl
          have hDc := hD.sub (ws' := [(qM, .inr (9, [.int (F 0), .ref q1, .ref q2, .ref q3, .int (F 4), .int (F 5), .int (F 6), .int (F 7), .int (F 8), .int (F 9), .long (J 10), .int (F 11), .int (F 12), .int (F 13), .ref q4, .int (F 15), .ref q5, .ref q6, .ref q7, .int (F 19), .ref q8, .int (F 21), .int (F 22), .int (F 23), .int (F 24), .ref q9, .ref q10, .ref q11, .long (J 28)])), (q2, .inl (g.2 1, 2000, .inl tx))]) [0, 1] (by decide) rfl
          have hFc := va_free (wc := [(qM, .inr (9, [.int (F 0), .ref q1, .ref q2, .ref q3, .int (F 4), .int (F 5), .int (F 6), .int (F 7), .int (F 8), .int (F 9), .long (J 10), .int (F 11), .int (F 12), .int (F 13), .ref q4, .int (F 15), .ref q5, .ref q6, .ref q7, .int (F 19), .ref q8, .int (F 21), .int (F 22), .int (F 23), .int (F 24), .ref q9, .ref q10, .ref q11, .long (J 28)])), (q2, .inl (g.2 1, 2000, .inl tx))]) hD hS hA [0, 1] rfl
          refine va_callv (va_runV (As := []) (rest := []) S (wX9_token l g qM q1 q2 q3 q4 q5 q6 q7 q8 q9 q10 q11 H.size F J tx (sX9_token b_78 nb_78 i_78 F J tx ho_1)) (cwV 0 hts gX9_line_X9_token rfl rfl rfl (by decide +kernel) ⟨Nat.le_of_ble_eq_true rfl, Nat.le_of_ble_eq_true rfl⟩) ⟨blindRW, va_recv hK hP (ci := 9) (q0 := 0) rfl rfl, fun U hU hW => ⟨rfl, by rw [hU], by rw [hU]; exact hPc, hG.warm hW, hDc.weaken (fun _ _ _ _ => trivial)⟩⟩ rfl rfl hl.1 rfl (lv_room (Nat.le_of_ble_eq_true rfl)) dX9_line_78 ⟨Nat.le_of_ble_eq_true rfl, Nat.le_of_ble_eq_true rfl⟩) hS (fun q _ h => hFc q h) hFc (fun u t H1 locs ht hvm hw hB hz1 hk1 hS => ?_)
          obtain ⟨F_78, J_78⟩ := u
          obtain ⟨hP1, hD1⟩ := hB
          rw [ht] at hP1
          have hv := hv F_78 J_78 hw
          obtain ⟨hP, hD⟩ := va_join (wr := [(q4, .inl (g.2 0, 94, .inl td))]) (w1 := [(qM, .inr (9, [.int (F_78 0), .ref q1, .ref q2, .ref q3, .int (F_78 4), .int (F_78 5), .int (F_78 6), .int (F_78 7), .int (F_78 8), .int (F_78 9), .long (J_78 10), .int (F_78 11), .int (F_78 12), .int (F_78 13), .ref q4, .int (F_78 15), .ref q5, .ref q6, .ref q7, .int (F_78 19), .ref q8, .int (F_78 21), .int (F_78 22), .int (F_78 23), .int (F_78 24), .ref q9, .ref q10, .ref q11, .long (J_78 28)])), (q2, .inl (g.2 1, 2000, .inl tx))]) hP hD [0, 1] [2] rfl rfl (by decide) (by decide) hk1 hFc hP1 hD1
          clear hP1 hD1 hPc hDc hFc hk1
          generalize H1 = H at hP hS ⊢
          have hP : va_P g.1 vwCl [(q4, .inl (g.2 0, 94, .inl td)), (qM, .inr (9, [.int (F_78 0), .ref q1, .ref q2, .ref q3, .int (F_78 4), .int (F_78 5), .int (F_78 6), .int (F_78 7), .int (F_78 8), .int (F_78 9), .long (J_78 10), .int (F_78 11), .int (F_78 12), .int (F_78 13), .ref q4, .int (F_78 15), .ref q5, .ref q6, .ref q7, .int (F_78 19), .ref q8, .int (F_78 21), .int (F_78 22), .int (F_78 23), .int (F_78 24), .ref q9, .ref q10, .ref q11, .long (J_78 28)])), (q2, .inl (g.2 1, 2000, .inl tx))] H := hP
          have hD : va_D A [(q4, .inl (g.2 0, 94, .inl td)), (qM, .inr (9, [.int (F_78 0), .ref q1, .ref q2, .ref q3, .int (F_78 4), .int (F_78 5), .int (F_78 6), .int (F_78 7), .int (F_78 8), .int (F_78 9), .long (J_78 10), .int (F_78 11), .int (F_78 12), .int (F_78 13), .ref q4, .int (F_78 15), .ref q5, .ref q6, .ref q7, .int (F_78 19), .ref q8, .int (F_78 21), .int (F_78 22), .int (F_78 23), .int (F_78 24), .ref q9, .ref q10, .ref q11, .long (J_78 28)])), (q2, .inl (g.2 1, 2000, .inl tx))] := hD
          refine lv_aload_n hx hb dX9_line_81 rfl (lv_at hl 1 rfl) ?_
          refine lv_iconst (v := (1 : Int32)) hx hb dX9_line_82 (by decide) ?_
          refine lv_sipush (v := (9999 : Int32)) hx hb dX9_line_83 (by decide) ?_
          obtain ⟨b_86, nb_86, i_86, f_86, ho_2, hv⟩ := hv
          have hPc := hP.sub (ws' := [(qM, .inr (9, [.int (F_78 0), .ref q1, .ref q2, .ref q3, .int (F_78 4), .int (F_78 5), .int (F_78 6), .int (F_78 7), .int (F_78 8), .int (F_78 9), .long (J_78 10), .int (F_78 11), .int (F_78 12), .int (F_78 13), .ref q4, .int (F_78 15), .ref q5, .ref q6, .ref q7, .int (F_78 19), .ref q8, .int (F_78 21), .int (F_78 22), .int (F_78 23), .int (F_78 24), .ref q9, .ref q10, .ref q11, .long (J_78 28)])), (q2, .inl (g.2 1, 2000, .inl tx))]) [1, 2] rfl
          have hDc := hD.sub (ws' := [(qM, .inr (9, [.int (F_78 0), .ref q1, .ref q2, .ref q3, .int (F_78 4), .int (F_78 5), .int (F_78 6), .int (F_78 7), .int (F_78 8), .int (F_78 9), .long (J_78 10), .int (F_78 11), .int (F_78 12), .int (F_78 13), .ref q4, .int (F_78 15), .ref q5, .ref q6, .ref q7, .int (F_78 19), .ref q8, .int (F_78 21), .int (F_78 22), .int (F_78 23), .int (F_78 24), .ref q9, .ref q10, .ref q11, .long (J_78 28)])), (q2, .inl (g.2 1, 2000, .inl tx))]) [1, 2] (by decide) rfl
          have hFc := va_free (wc := [(qM, .inr (9, [.int (F_78 0), .ref q1, .ref q2, .ref q3, .int (F_78 4), .int (F_78 5), .int (F_78 6), .int (F_78 7), .int (F_78 8), .int (F_78 9), .long (J_78 10), .int (F_78 11), .int (F_78 12), .int (F_78 13), .ref q4, .int (F_78 15), .ref q5, .ref q6, .ref q7, .int (F_78 19), .ref q8, .int (F_78 21), .int (F_78 22), .int (F_78 23), .int (F_78 24), .ref q9, .ref q10, .ref q11, .long (J_78 28)])), (q2, .inl (g.2 1, 2000, .inl tx))]) hD hS hA [1, 2] rfl
          refine va_calli (va_runV (As := [.int (1 : Int32), .int (9999 : Int32)]) (rest := []) S (wX9_takes l g qM q1 q2 q3 q4 q5 q6 q7 q8 q9 q10 q11 H.size F_78 J_78 tx (1 : Int32) (9999 : Int32) (sX9_takes b_86 nb_86 i_86 f_86 F_78 J_78 tx (1 : Int32) (9999 : Int32) ho_2)) (cwV 2 hts gX9_line_X9_takes rfl rfl rfl (by decide +kernel) ⟨Nat.le_of_ble_eq_true rfl, Nat.le_of_ble_eq_true rfl⟩) ⟨blindRW, va_recv hK hP (ci := 9) (q0 := 1) rfl rfl, fun U hU hW => ⟨rfl, by rw [hU], by rw [hU]; exact hPc, hG.warm hW, hDc.weaken (fun _ _ _ _ => trivial)⟩⟩ rfl rfl hl.1 rfl (lv_room (Nat.le_of_ble_eq_true rfl)) dX9_line_86 ⟨Nat.le_of_ble_eq_true rfl, Nat.le_of_ble_eq_true rfl⟩) hS (fun q _ h => hFc q h) hFc (fun r_86 u t H1 locs ht hvm hw hB hz1 hk1 hS => ?_)
          obtain ⟨F_86, J_86⟩ := u
          obtain ⟨hP1, hD1⟩ := hB
          rw [ht] at hP1
          have hv := hv r_86 F_86 J_86 hw
          obtain ⟨hP, hD⟩ := va_join (wr := [(q4, .inl (g.2 0, 94, .inl td))]) (w1 := [(qM, .inr (9, [.int (F_86 0), .ref q1, .ref q2, .ref q3, .int (F_86 4), .int (F_86 5), .int (F_86 6), .int (F_86 7), .int (F_86 8), .int (F_86 9), .long (J_86 10), .int (F_86 11), .int (F_86 12), .int (F_86 13), .ref q4, .int (F_86 15), .ref q5, .ref q6, .ref q7, .int (F_86 19), .ref q8, .int (F_86 21), .int (F_86 22), .int (F_86 23), .int (F_86 24), .ref q9, .ref q10, .ref q11, .long (J_86 28)])), (q2, .inl (g.2 1, 2000, .inl tx))]) hP hD [1, 2] [0] rfl rfl (by decide) (by decide) hk1 hFc hP1 hD1
          clear hP1 hD1 hPc hDc hFc hk1
          generalize H1 = H at hP hS ⊢
          have hP : va_P g.1 vwCl [(q4, .inl (g.2 0, 94, .inl td)), (qM, .inr (9, [.int (F_86 0), .ref q1, .ref q2, .ref q3, .int (F_86 4), .int (F_86 5), .int (F_86 6), .int (F_86 7), .int (F_86 8), .int (F_86 9), .long (J_86 10), .int (F_86 11), .int (F_86 12), .int (F_86 13), .ref q4, .int (F_86 15), .ref q5, .ref q6, .ref q7, .int (F_86 19), .ref q8, .int (F_86 21), .int (F_86 22), .int (F_86 23), .int (F_86 24), .ref q9, .ref q10, .ref q11, .long (J_86 28)])), (q2, .inl (g.2 1, 2000, .inl tx))] H := hP
          have hD : va_D A [(q4, .inl (g.2 0, 94, .inl td)), (qM, .inr (9, [.int (F_86 0), .ref q1, .ref q2, .ref q3, .int (F_86 4), .int (F_86 5), .int (F_86 6), .int (F_86 7), .int (F_86 8), .int (F_86 9), .long (J_86 10), .int (F_86 11), .int (F_86 12), .int (F_86 13), .ref q4, .int (F_86 15), .ref q5, .ref q6, .ref q7, .int (F_86 19), .ref q8, .int (F_86 21), .int (F_86 22), .int (F_86 23), .int (F_86 24), .ref q9, .ref q10, .ref q11, .long (J_86 28)])), (q2, .inl (g.2 1, 2000, .inl tx))] := hD
          refine lv_istore_n (lv' := [(3, .int r_86), (1, .long s0), (0, .ref qM)]) hx hb dX9_line_89 rfl hl (by decide) rfl (fun ls hl => ?_)
          refine lv_aload_n hx hb dX9_line_90 rfl (lv_at hl 2 rfl) ?_
          refine va_get (D := g.1) (ci := 9) (v := .ref q4) (C := RX9) (T := TX9) (N := 29) hx hb hts inX9_line_9 hown hK hP 1 rfl rfl 14 (by decide) (hts (.fieldLink RX9 21 "RangeCodesModel" "told" "[I") (List.mem_of_getElem? (i := 7) rfl)) (fun _ h9 => h9) rfl dX9_line_91 ?_
          refine lv_iconst (v := (1 : Int32)) hx hb dX9_line_94 (by decide) ?_
          refine lv_aload_n hx hb dX9_line_95 rfl (lv_at hl 2 rfl) ?_
          refine va_get (D := g.1) (ci := 9) (v := .int (F_86 15)) (C := RX9) (T := TX9) (N := 29) hx hb hts inX9_line_9 hown hK hP 1 rfl rfl 15 (by decide) (hts (.fieldLink RX9 108 "RangeCodesModel" "read" "I") (List.mem_of_getElem? (i := 8) rfl)) (fun _ h9 => h9) rfl dX9_line_96 ?_
          refine va_iast hx hb hK hP hD hS 0 0 rfl rfl (by unfold vp_in; decide) dX9_line_99 (fun H locs hP hD hS => ?_)
          have hP : va_P g.1 vwCl [(q4, .inl (g.2 0, 94, .inl (upd td 1 (F_86 15)))), (qM, .inr (9, [.int (F_86 0), .ref q1, .ref q2, .ref q3, .int (F_86 4), .int (F_86 5), .int (F_86 6), .int (F_86 7), .int (F_86 8), .int (F_86 9), .long (J_86 10), .int (F_86 11), .int (F_86 12), .int (F_86 13), .ref q4, .int (F_86 15), .ref q5, .ref q6, .ref q7, .int (F_86 19), .ref q8, .int (F_86 21), .int (F_86 22), .int (F_86 23), .int (F_86 24), .ref q9, .ref q10, .ref q11, .long (J_86 28)])), (q2, .inl (g.2 1, 2000, .inl tx))] H := hP
          have hD : va_D A [(q4, .inl (g.2 0, 94, .inl (upd td 1 (F_86 15)))), (qM, .inr (9, [.int (F_86 0), .ref q1, .ref q2, .ref q3, .int (F_86 4), .int (F_86 5), .int (F_86 6), .int (F_86 7), .int (F_86 8), .int (F_86 9), .long (J_86 10), .int (F_86 11), .int (F_86 12), .int (F_86 13), .ref q4, .int (F_86 15), .ref q5, .ref q6, .ref q7, .int (F_86 19), .ref q8, .int (F_86 21), .int (F_86 22), .int (F_86 23), .int (F_86 24), .ref q9, .ref q10, .ref q11, .long (J_86 28)])), (q2, .inl (g.2 1, 2000, .inl tx))] := hD
          refine lv_iload_n hx hb dX9_line_100 rfl (lv_at hl 0 rfl) ?_
          have hP9 := hP.sub (ws' := [(qM, .inr (9, [.int (F_86 0), .ref q1, .ref q2, .ref q3, .int (F_86 4), .int (F_86 5), .int (F_86 6), .int (F_86 7), .int (F_86 8), .int (F_86 9), .long (J_86 10), .int (F_86 11), .int (F_86 12), .int (F_86 13), .ref q4, .int (F_86 15), .ref q5, .ref q6, .ref q7, .int (F_86 19), .ref q8, .int (F_86 21), .int (F_86 22), .int (F_86 23), .int (F_86 24), .ref q9, .ref q10, .ref q11, .long (J_86 28)])), (q2, .inl (g.2 1, 2000, .inl tx)), (q4, .inl (g.2 0, 94, .inl (upd td 1 (F_86 15))))]) [1, 2, 0] rfl
          have hD9 := hD.sub (ws' := [(qM, .inr (9, [.int (F_86 0), .ref q1, .ref q2, .ref q3, .int (F_86 4), .int (F_86 5), .int (F_86 6), .int (F_86 7), .int (F_86 8), .int (F_86 9), .long (J_86 10), .int (F_86 11), .int (F_86 12), .int (F_86 13), .ref q4, .int (F_86 15), .ref q5, .ref q6, .ref q7, .int (F_86 19), .ref q8, .int (F_86 21), .int (F_86 22), .int (F_86 23), .int (F_86 24), .ref q9, .ref q10, .ref q11, .long (J_86 28)])), (q2, .inl (g.2 1, 2000, .inl tx)), (q4, .inl (g.2 0, 94, .inl (upd td 1 (F_86 15))))]) [1, 2, 0] (by decide) rfl
          obtain ⟨hn, hv⟩ := hv
          exact W.zret (v := r_86) (ty := .boolean) hx hb hr hn (fun t ht hW => ⟨⟨_, (F_86, J_86, (upd td 1 (F_86 15))), rfl, hv, by rw [ht]; exact hP9, hD9⟩, hS.F ht⟩) hS.2.2 dX9_line_101
        · have hv := hvf hc
          refine lv_aload_n hx hb dX9_line_72 rfl (lv_at hl 1 rfl) ?_
          obtain ⟨ho_3, hv⟩ := hv
          have hPc := hP.sub (ws' := [(qM, .inr (9, [.int (F 0), .ref q1, .ref q2, .ref q3, .int (F 4), .int (F 5), .int (F 6), .int (F 7), .int (F 8), .int (F 9), .long (J 10), .int (F 11), .int (F 12), .int (F 13), .ref q4, .int (F 15), .ref q5, .ref q6, .ref q7, .int (F 19), .ref q8, .int (F 21), .int (F 22), .int (F 23), .int (F 24), .ref q9, .ref q10, .ref q11, .long (J 28)]))]) [0] rfl
          have hDc := hD.sub (ws' := [(qM, .inr (9, [.int (F 0), .ref q1, .ref q2, .ref q3, .int (F 4), .int (F 5), .int (F 6), .int (F 7), .int (F 8), .int (F 9), .long (J 10), .int (F 11), .int (F 12), .int (F 13), .ref q4, .int (F 15), .ref q5, .ref q6, .ref q7, .int (F 19), .ref q8, .int (F 21), .int (F 22), .int (F 23), .int (F 24), .ref q9, .ref q10, .ref q11, .long (J 28)]))]) [0] (by decide) rfl
          have hFc := va_free (wc := [(qM, .inr (9, [.int (F 0), .ref q1, .ref q2, .ref q3, .int (F 4), .int (F 5), .int (F 6), .int (F 7), .int (F 8), .int (F 9), .long (J 10), .int (F 11), .int (F 12), .int (F 13), .ref q4, .int (F 15), .ref q5, .ref q6, .ref q7, .int (F 19), .ref q8, .int (F 21), .int (F 22), .int (F 23), .int (F 24), .ref q9, .ref q10, .ref q11, .long (J 28)]))]) hD hS hA [0] rfl
          refine va_calli (va_runV (As := []) (rest := []) S (wX9_fails l g qM q1 q2 q3 q4 q5 q6 q7 q8 q9 q10 q11 H.size F J (sX9_fails F J ho_3)) (cwV 0 hts gX9_line_X9_fails rfl rfl rfl (by decide +kernel) ⟨Nat.le_of_ble_eq_true rfl, Nat.le_of_ble_eq_true rfl⟩) ⟨blindRW, va_recv hK hP (ci := 9) (q0 := 0) rfl rfl, fun U hU hW => ⟨rfl, by rw [hU], by rw [hU]; exact hPc, hG.warm hW, hDc.weaken (fun _ _ _ _ => trivial)⟩⟩ rfl rfl hl.1 rfl (lv_room (Nat.le_of_ble_eq_true rfl)) dX9_line_73 ⟨Nat.le_of_ble_eq_true rfl, Nat.le_of_ble_eq_true rfl⟩) hS (fun q _ h => hFc q h) hFc (fun r_73 u t H1 locs ht hvm hw hB hz1 hk1 hS => ?_)
          obtain ⟨F_73, rfl⟩ : ∃ z, z = u := ⟨_, rfl⟩
          obtain ⟨hP1, hD1⟩ := hB
          rw [ht] at hP1
          have hv := hv r_73 F_73 hw
          obtain ⟨hP, hD⟩ := va_join (wr := [(q2, .inl (g.2 1, 2000, .inl tx)), (q4, .inl (g.2 0, 94, .inl td))]) (w1 := [(qM, .inr (9, [.int (F_73 0), .ref q1, .ref q2, .ref q3, .int (F_73 4), .int (F_73 5), .int (F_73 6), .int (F_73 7), .int (F_73 8), .int (F_73 9), .long (J 10), .int (F_73 11), .int (F_73 12), .int (F_73 13), .ref q4, .int (F_73 15), .ref q5, .ref q6, .ref q7, .int (F_73 19), .ref q8, .int (F_73 21), .int (F_73 22), .int (F_73 23), .int (F_73 24), .ref q9, .ref q10, .ref q11, .long (J 28)]))]) hP hD [0] [1, 2] rfl rfl (by decide) (by decide) hk1 hFc hP1 hD1
          clear hP1 hD1 hPc hDc hFc hk1
          generalize H1 = H at hP hS ⊢
          have hP : va_P g.1 vwCl [(q2, .inl (g.2 1, 2000, .inl tx)), (q4, .inl (g.2 0, 94, .inl td)), (qM, .inr (9, [.int (F_73 0), .ref q1, .ref q2, .ref q3, .int (F_73 4), .int (F_73 5), .int (F_73 6), .int (F_73 7), .int (F_73 8), .int (F_73 9), .long (J 10), .int (F_73 11), .int (F_73 12), .int (F_73 13), .ref q4, .int (F_73 15), .ref q5, .ref q6, .ref q7, .int (F_73 19), .ref q8, .int (F_73 21), .int (F_73 22), .int (F_73 23), .int (F_73 24), .ref q9, .ref q10, .ref q11, .long (J 28)]))] H := hP
          have hD : va_D A [(q2, .inl (g.2 1, 2000, .inl tx)), (q4, .inl (g.2 0, 94, .inl td)), (qM, .inr (9, [.int (F_73 0), .ref q1, .ref q2, .ref q3, .int (F_73 4), .int (F_73 5), .int (F_73 6), .int (F_73 7), .int (F_73 8), .int (F_73 9), .long (J 10), .int (F_73 11), .int (F_73 12), .int (F_73 13), .ref q4, .int (F_73 15), .ref q5, .ref q6, .ref q7, .int (F_73 19), .ref q8, .int (F_73 21), .int (F_73 22), .int (F_73 23), .int (F_73 24), .ref q9, .ref q10, .ref q11, .long (J 28)]))] := hD
          have hP9 := hP.sub (ws' := [(qM, .inr (9, [.int (F_73 0), .ref q1, .ref q2, .ref q3, .int (F_73 4), .int (F_73 5), .int (F_73 6), .int (F_73 7), .int (F_73 8), .int (F_73 9), .long (J 10), .int (F_73 11), .int (F_73 12), .int (F_73 13), .ref q4, .int (F_73 15), .ref q5, .ref q6, .ref q7, .int (F_73 19), .ref q8, .int (F_73 21), .int (F_73 22), .int (F_73 23), .int (F_73 24), .ref q9, .ref q10, .ref q11, .long (J 28)])), (q2, .inl (g.2 1, 2000, .inl tx)), (q4, .inl (g.2 0, 94, .inl td))]) [2, 0, 1] rfl
          have hD9 := hD.sub (ws' := [(qM, .inr (9, [.int (F_73 0), .ref q1, .ref q2, .ref q3, .int (F_73 4), .int (F_73 5), .int (F_73 6), .int (F_73 7), .int (F_73 8), .int (F_73 9), .long (J 10), .int (F_73 11), .int (F_73 12), .int (F_73 13), .ref q4, .int (F_73 15), .ref q5, .ref q6, .ref q7, .int (F_73 19), .ref q8, .int (F_73 21), .int (F_73 22), .int (F_73 23), .int (F_73 24), .ref q9, .ref q10, .ref q11, .long (J 28)])), (q2, .inl (g.2 1, 2000, .inl tx)), (q4, .inl (g.2 0, 94, .inl td))]) [2, 0, 1] (by decide) rfl
          obtain ⟨hn, hv⟩ := hv
          exact W.zret (v := r_73) (ty := .boolean) hx hb hr hn (fun t ht hW => ⟨⟨_, (F_73, J, td), rfl, hv, by rw [ht]; exact hP9, hD9⟩, hS.F ht⟩) hS.2.2 dX9_line_76
      · have hv := hvf hc
        exact kX9_line_c46 S hr hlocks hG hA _ _ _ _ hv _ _ (hP.sub (ws' := [(qM, .inr (9, [.int (F 0), .ref q1, .ref q2, .ref q3, .int (F 4), .int (F 5), .int (F 6), .int (F 7), .int (F 8), .int (F 9), .long (J 10), .int (F 11), .int (F 12), .int (F 13), .ref q4, .int (F 15), .ref q5, .ref q6, .ref q7, .int (F 19), .ref q8, .int (F 21), .int (F 22), .int (F 23), .int (F 24), .ref q9, .ref q10, .ref q11, .long (J 28)])), (q2, .inl (g.2 1, 2000, .inl tx)), (q4, .inl (g.2 0, 94, .inl td))]) [0, 1, 2] rfl) (hD.sub (ws' := [(qM, .inr (9, [.int (F 0), .ref q1, .ref q2, .ref q3, .int (F 4), .int (F 5), .int (F 6), .int (F 7), .int (F 8), .int (F 9), .long (J 10), .int (F 11), .int (F 12), .int (F 13), .ref q4, .int (F 15), .ref q5, .ref q6, .ref q7, .int (F 19), .ref q8, .int (F 21), .int (F 22), .int (F 23), .int (F 24), .ref q9, .ref q10, .ref q11, .long (J 28)])), (q2, .inl (g.2 1, 2000, .inl tx)), (q4, .inl (g.2 0, 94, .inl td))]) [0, 1, 2] (by decide) rfl) hS ls (lv_sub hl [1, 0] rfl)
  · have hv := hvf hc
    refine lv_aload_n hx hb dX9_line_25 rfl (lv_at hl 1 rfl) ?_
    obtain ⟨b_26, nb_26, i_26, f_26, T_26, ho_4, hv⟩ := hv
    have hPc := hP.sub (ws' := [(qM, .inr (9, [.int (F 0), .ref q1, .ref q2, .ref q3, .int (F 4), .int (F 5), .int (F 6), .int (F 7), .int (F 8), .int (F 9), .long (J 10), .int (F 11), .int (F 12), .int (F 13), .ref q4, .int (F 15), .ref q5, .ref q6, .ref q7, .int (F 19), .ref q8, .int (F 21), .int (F 22), .int (F 23), .int (F 24), .ref q9, .ref q10, .ref q11, .long (J 28)])), (q2, .inl (g.2 1, 2000, .inl tx)), (q4, .inl (g.2 0, 94, .inl td))]) [0, 1, 2] rfl
    have hDc := hD.sub (ws' := [(qM, .inr (9, [.int (F 0), .ref q1, .ref q2, .ref q3, .int (F 4), .int (F 5), .int (F 6), .int (F 7), .int (F 8), .int (F 9), .long (J 10), .int (F 11), .int (F 12), .int (F 13), .ref q4, .int (F 15), .ref q5, .ref q6, .ref q7, .int (F 19), .ref q8, .int (F 21), .int (F 22), .int (F 23), .int (F 24), .ref q9, .ref q10, .ref q11, .long (J 28)])), (q2, .inl (g.2 1, 2000, .inl tx)), (q4, .inl (g.2 0, 94, .inl td))]) [0, 1, 2] (by decide) rfl
    have hFc := va_free (wc := [(qM, .inr (9, [.int (F 0), .ref q1, .ref q2, .ref q3, .int (F 4), .int (F 5), .int (F 6), .int (F 7), .int (F 8), .int (F 9), .long (J 10), .int (F 11), .int (F 12), .int (F 13), .ref q4, .int (F 15), .ref q5, .ref q6, .ref q7, .int (F 19), .ref q8, .int (F 21), .int (F 22), .int (F 23), .int (F 24), .ref q9, .ref q10, .ref q11, .long (J 28)])), (q2, .inl (g.2 1, 2000, .inl tx)), (q4, .inl (g.2 0, 94, .inl td))]) hD hS hA [0, 1, 2] rfl
    refine va_calli (va_runV (As := []) (rest := []) S (wX9_partLine l g qM q1 q2 q3 q4 q5 q6 q7 q8 q9 q10 q11 H.size F J tx td (sX9_partLine b_26 nb_26 i_26 f_26 T_26 F J tx td ho_4)) (cwV 0 hts gX9_line_X9_partLine rfl rfl rfl (by decide +kernel) ⟨Nat.le_of_ble_eq_true rfl, Nat.le_of_ble_eq_true rfl⟩) ⟨blindRW, va_recv hK hP (ci := 9) (q0 := 0) rfl rfl, fun U hU hW => ⟨rfl, by rw [hU], by rw [hU]; exact hPc, hG.warm hW, hDc.weaken (fun _ _ _ _ => trivial)⟩⟩ rfl rfl hl.1 rfl (lv_room (Nat.le_of_ble_eq_true rfl)) dX9_line_26 ⟨Nat.le_of_ble_eq_true rfl, Nat.le_of_ble_eq_true rfl⟩) hS (fun q _ h => hFc q h) hFc (fun r_26 u t H1 locs ht hvm hw hB hz1 hk1 hS => ?_)
    obtain ⟨F_26, J_26, td_26⟩ := u
    obtain ⟨hP1, hD1⟩ := hB
    rw [ht] at hP1
    have hv := hv r_26 F_26 J_26 td_26 hw
    obtain ⟨hP, hD⟩ := va_join (wr := []) (w1 := [(qM, .inr (9, [.int (F_26 0), .ref q1, .ref q2, .ref q3, .int (F_26 4), .int (F_26 5), .int (F_26 6), .int (F_26 7), .int (F_26 8), .int (F_26 9), .long (J_26 10), .int (F_26 11), .int (F_26 12), .int (F_26 13), .ref q4, .int (F_26 15), .ref q5, .ref q6, .ref q7, .int (F_26 19), .ref q8, .int (F_26 21), .int (F_26 22), .int (F_26 23), .int (F_26 24), .ref q9, .ref q10, .ref q11, .long (J_26 28)])), (q2, .inl (g.2 1, 2000, .inl tx)), (q4, .inl (g.2 0, 94, .inl td_26))]) hP hD [0, 1, 2] [] rfl rfl (by decide) (by decide) hk1 hFc hP1 hD1
    clear hP1 hD1 hPc hDc hFc hk1
    generalize H1 = H at hP hS ⊢
    have hP : va_P g.1 vwCl [(qM, .inr (9, [.int (F_26 0), .ref q1, .ref q2, .ref q3, .int (F_26 4), .int (F_26 5), .int (F_26 6), .int (F_26 7), .int (F_26 8), .int (F_26 9), .long (J_26 10), .int (F_26 11), .int (F_26 12), .int (F_26 13), .ref q4, .int (F_26 15), .ref q5, .ref q6, .ref q7, .int (F_26 19), .ref q8, .int (F_26 21), .int (F_26 22), .int (F_26 23), .int (F_26 24), .ref q9, .ref q10, .ref q11, .long (J_26 28)])), (q2, .inl (g.2 1, 2000, .inl tx)), (q4, .inl (g.2 0, 94, .inl td_26))] H := hP
    have hD : va_D A [(qM, .inr (9, [.int (F_26 0), .ref q1, .ref q2, .ref q3, .int (F_26 4), .int (F_26 5), .int (F_26 6), .int (F_26 7), .int (F_26 8), .int (F_26 9), .long (J_26 10), .int (F_26 11), .int (F_26 12), .int (F_26 13), .ref q4, .int (F_26 15), .ref q5, .ref q6, .ref q7, .int (F_26 19), .ref q8, .int (F_26 21), .int (F_26 22), .int (F_26 23), .int (F_26 24), .ref q9, .ref q10, .ref q11, .long (J_26 28)])), (q2, .inl (g.2 1, 2000, .inl tx)), (q4, .inl (g.2 0, 94, .inl td_26))] := hD
    have hP9 := hP.sub (ws' := [(qM, .inr (9, [.int (F_26 0), .ref q1, .ref q2, .ref q3, .int (F_26 4), .int (F_26 5), .int (F_26 6), .int (F_26 7), .int (F_26 8), .int (F_26 9), .long (J_26 10), .int (F_26 11), .int (F_26 12), .int (F_26 13), .ref q4, .int (F_26 15), .ref q5, .ref q6, .ref q7, .int (F_26 19), .ref q8, .int (F_26 21), .int (F_26 22), .int (F_26 23), .int (F_26 24), .ref q9, .ref q10, .ref q11, .long (J_26 28)])), (q2, .inl (g.2 1, 2000, .inl tx)), (q4, .inl (g.2 0, 94, .inl td_26))]) [0, 1, 2] rfl
    have hD9 := hD.sub (ws' := [(qM, .inr (9, [.int (F_26 0), .ref q1, .ref q2, .ref q3, .int (F_26 4), .int (F_26 5), .int (F_26 6), .int (F_26 7), .int (F_26 8), .int (F_26 9), .long (J_26 10), .int (F_26 11), .int (F_26 12), .int (F_26 13), .ref q4, .int (F_26 15), .ref q5, .ref q6, .ref q7, .int (F_26 19), .ref q8, .int (F_26 21), .int (F_26 22), .int (F_26 23), .int (F_26 24), .ref q9, .ref q10, .ref q11, .long (J_26 28)])), (q2, .inl (g.2 1, 2000, .inl tx)), (q4, .inl (g.2 0, 94, .inl td_26))]) [0, 1, 2] (by decide) rfl
    obtain ⟨hn, hv⟩ := hv
    exact W.zret (v := r_26) (ty := .boolean) hx hb hr hn (fun t ht hW => ⟨⟨_, (F_26, J_26, td_26), rfl, hv, by rw [ht]; exact hP9, hD9⟩, hS.F ht⟩) hS.2.2 dX9_line_29
def vX9_line (F : Nat → Int32) (J : Nat → Int64) (tx : Nat → Int32) (td : Nat → Int32) (Q : Int32 → (Nat → Int32) → (Nat → Int64) → (Nat → Int32) → Prop) : Prop := ((¬ (F 7) = (2 : Int32) → (vX9_line_c16 tx Q (0 : Int64) F J td)) ∧ ((F 7) = (2 : Int32) → (vX9_line_c16 tx Q (J 10) F J td)))
set_option maxHeartbeats 4000000 in
set_option maxRecDepth 100000 in
theorem wX9_line (l : Launch) (g : GP) (qM : Nat) (q1 : Nat) (q2 : Nat) (q3 : Nat) (q4 : Nat) (q5 : Nat) (q6 : Nat) (q7 : Nat) (q8 : Nat) (q9 : Nat) (q10 : Nat) (q11 : Nat) (sz : Nat) (F : Nat → Int32) (J : Nat → Int64) (tx : Nat → Int32) (td : Nat → Int32) {Q : Int32 → (Nat → Int32) → (Nat → Int64) → (Nat → Int32) → Prop} (hv : vX9_line F J tx td Q) : Met l yX9_line wsX9_line rmX9_line (va_Pc [.ref qM] (fun U => U.heap.size = sz ∧ va_P g.1 vwCl [(qM, .inr (9, [.int (F 0), .ref q1, .ref q2, .ref q3, .int (F 4), .int (F 5), .int (F 6), .int (F 7), .int (F 8), .int (F 9), .long (J 10), .int (F 11), .int (F 12), .int (F 13), .ref q4, .int (F 15), .ref q5, .ref q6, .ref q7, .int (F 19), .ref q8, .int (F 21), .int (F 22), .int (F 23), .int (F 24), .ref q9, .ref q10, .ref q11, .long (J 28)])), (q2, .inl (g.2 1, 2000, .inl tx)), (q4, .inl (g.2 0, 94, .inl td))] U.heap ∧ GK g U ∧ va_D (fun _ => True) [(qM, .inr (9, [.int (F 0), .ref q1, .ref q2, .ref q3, .int (F 4), .int (F 5), .int (F 6), .int (F 7), .int (F 8), .int (F 9), .long (J 10), .int (F 11), .int (F 12), .int (F 13), .ref q4, .int (F 15), .ref q5, .ref q6, .ref q7, .int (F 19), .ref q8, .int (F 21), .int (F 22), .int (F 23), .int (F 24), .ref q9, .ref q10, .ref q11, .long (J 28)])), (q2, .inl (g.2 1, 2000, .inl tx)), (q4, .inl (g.2 0, 94, .inl td))])) (va_Qi (fun (r : Int32) (u : (Nat → Int32) × (Nat → Int64) × (Nat → Int32)) => Q r u.1 u.2.1 u.2.2) (fun (u : (Nat → Int32) × (Nat → Int64) × (Nat → Int32)) t => va_P g.1 vwCl [(qM, .inr (9, [.int (u.1 0), .ref q1, .ref q2, .ref q3, .int (u.1 4), .int (u.1 5), .int (u.1 6), .int (u.1 7), .int (u.1 8), .int (u.1 9), .long (u.2.1 10), .int (u.1 11), .int (u.1 12), .int (u.1 13), .ref q4, .int (u.1 15), .ref q5, .ref q6, .ref q7, .int (u.1 19), .ref q8, .int (u.1 21), .int (u.1 22), .int (u.1 23), .int (u.1 24), .ref q9, .ref q10, .ref q11, .long (u.2.1 28)])), (q2, .inl (g.2 1, 2000, .inl tx)), (q4, .inl (g.2 0, 94, .inl u.2.2))] t.heap ∧ va_D (va_A [(qM, .inr (9, [.int (F 0), .ref q1, .ref q2, .ref q3, .int (F 4), .int (F 5), .int (F 6), .int (F 7), .int (F 8), .int (F 9), .long (J 10), .int (F 11), .int (F 12), .int (F 13), .ref q4, .int (F 15), .ref q5, .ref q6, .ref q7, .int (F 19), .ref q8, .int (F 21), .int (F 22), .int (F 23), .int (F 24), .ref q9, .ref q10, .ref q11, .long (J 28)])), (q2, .inl (g.2 1, 2000, .inl tx)), (q4, .inl (g.2 0, 94, .inl td))] sz) [(qM, .inr (9, [.int (u.1 0), .ref q1, .ref q2, .ref q3, .int (u.1 4), .int (u.1 5), .int (u.1 6), .int (u.1 7), .int (u.1 8), .int (u.1 9), .long (u.2.1 10), .int (u.1 11), .int (u.1 12), .int (u.1 13), .ref q4, .int (u.1 15), .ref q5, .ref q6, .ref q7, .int (u.1 19), .ref q8, .int (u.1 21), .int (u.1 22), .int (u.1 23), .int (u.1 24), .ref q9, .ref q10, .ref q11, .long (u.2.1 28)])), (q2, .inl (g.2 1, 2000, .inl tx)), (q4, .inl (g.2 0, 94, .inl u.2.2))]) (va_A [(qM, .inr (9, [.int (F 0), .ref q1, .ref q2, .ref q3, .int (F 4), .int (F 5), .int (F 6), .int (F 7), .int (F 8), .int (F 9), .long (J 10), .int (F 11), .int (F 12), .int (F 13), .ref q4, .int (F 15), .ref q5, .ref q6, .ref q7, .int (F 19), .ref q8, .int (F 21), .int (F 22), .int (F 23), .int (F 24), .ref q9, .ref q10, .ref q11, .long (J 28)])), (q2, .inl (g.2 1, 2000, .inl tx)), (q4, .inl (g.2 0, 94, .inl td))] sz)) 0 0 (va_A [(qM, .inr (9, [.int (F 0), .ref q1, .ref q2, .ref q3, .int (F 4), .int (F 5), .int (F 6), .int (F 7), .int (F 8), .int (F 9), .long (J 10), .int (F 11), .int (F 12), .int (F 13), .ref q4, .int (F 15), .ref q5, .ref q6, .ref q7, .int (F 19), .ref q8, .int (F 21), .int (F 22), .int (F 23), .int (F 24), .ref q9, .ref q10, .ref q11, .long (J 28)])), (q2, .inl (g.2 1, 2000, .inl tx)), (q4, .inl (g.2 0, 94, .inl td))] sz) := by
  refine Met.ofW (cc := cX9_line) (maxL := 4) (ret := (some .boolean)) (by decide) rfl ?_
  intro p e s m args below meth c s₁ B hml hv'
  obtain ⟨rfl, hsz, hP, hG, hD0⟩ := hv'
  have S : CallFix p m c cX9_line 4 s _ wsX9_line RX9 := ⟨B.exec, B.bytes, hml, findClass_of_methodNamed B.named, atoms_spec (ws := wsX9_line) B.pre⟩
  obtain ⟨hx, hb, hml, hown, hts⟩ := id S
  have hK := hG.1
  have hr := B.returns
  have hlocks := B.notSynchronized
  subst hsz
  have hD := hD0.self (sz := s.heap.size)
  generalize hAe : va_A [(qM, .inr (9, [.int (F 0), .ref q1, .ref q2, .ref q3, .int (F 4), .int (F 5), .int (F 6), .int (F 7), .int (F 8), .int (F 9), .long (J 10), .int (F 11), .int (F 12), .int (F 13), .ref q4, .int (F 15), .ref q5, .ref q6, .ref q7, .int (F 19), .ref q8, .int (F 21), .int (F 22), .int (F 23), .int (F 24), .ref q9, .ref q10, .ref q11, .long (J 28)])), (q2, .inl (g.2 1, 2000, .inl tx)), (q4, .inl (g.2 0, 94, .inl td))] s.heap.size = A at hD ⊢
  have hA : ∀ q : Nat, s.heap.size ≤ q → A q := fun q h => by rw [← hAe]; exact Or.inr h
  have hS : va_S A s.heap s.heap [] := va_S.rf
  clear hD0 hAe
  have hl := lv_entry ([.ref qM]) (n := 4) (Nat.le_of_ble_eq_true rfl)
  rw [lg_entry_eq]
  generalize (lg_sl ([.ref qM]) ++ List.replicate (4 - (lg_sl ([.ref qM])).length) Slot.unset).toArray = ls at hl ⊢
  have hl : lv_has ls 4 [(0, .ref qM)] := hl
  unfold vX9_line at hv
  refine lv_aload_n hx hb dX9_line_0 rfl (lv_at hl 0 rfl) ?_
  refine va_get (D := g.1) (ci := 9) (v := .int (F 7)) (C := RX9) (T := TX9) (N := 29) hx hb hts inX9_line_9 hown hK hP 0 rfl rfl 7 (by decide) (hts (.fieldLink RX9 86 "RangeCodesModel" "sort" "I") (List.mem_of_getElem? (i := 1) rfl)) (fun _ h9 => h9) rfl dX9_line_1 ?_
  refine lv_iconst (v := (2 : Int32)) hx hb dX9_line_4 (by decide) ?_
  obtain ⟨hvt, hvf⟩ := hv
  refine lv_icmp_ne (tgt := 15) hx hb dX9_line_5 (by decide) (fun hc => ?_) (fun hc => ?_)
  · have hv := hvt hc
    refine lv_lconst (v := (0 : Int64)) hx hb dX9_line_15 (by decide) ?_
    exact kX9_line_c16 S hr hlocks hG hA _ _ _ _ hv _ _ (hP.sub (ws' := [(qM, .inr (9, [.int (F 0), .ref q1, .ref q2, .ref q3, .int (F 4), .int (F 5), .int (F 6), .int (F 7), .int (F 8), .int (F 9), .long (J 10), .int (F 11), .int (F 12), .int (F 13), .ref q4, .int (F 15), .ref q5, .ref q6, .ref q7, .int (F 19), .ref q8, .int (F 21), .int (F 22), .int (F 23), .int (F 24), .ref q9, .ref q10, .ref q11, .long (J 28)])), (q2, .inl (g.2 1, 2000, .inl tx)), (q4, .inl (g.2 0, 94, .inl td))]) [0, 1, 2] rfl) (hD.sub (ws' := [(qM, .inr (9, [.int (F 0), .ref q1, .ref q2, .ref q3, .int (F 4), .int (F 5), .int (F 6), .int (F 7), .int (F 8), .int (F 9), .long (J 10), .int (F 11), .int (F 12), .int (F 13), .ref q4, .int (F 15), .ref q5, .ref q6, .ref q7, .int (F 19), .ref q8, .int (F 21), .int (F 22), .int (F 23), .int (F 24), .ref q9, .ref q10, .ref q11, .long (J 28)])), (q2, .inl (g.2 1, 2000, .inl tx)), (q4, .inl (g.2 0, 94, .inl td))]) [0, 1, 2] (by decide) rfl) hS ls (lv_sub hl [0] rfl)
  · have hv := hvf hc
    refine lv_aload_n hx hb dX9_line_8 rfl (lv_at hl 0 rfl) ?_
    refine va_get (D := g.1) (ci := 9) (v := .long (J 10)) (C := RX9) (T := TX9) (N := 29) hx hb hts inX9_line_9 hown hK hP 0 rfl rfl 10 (by decide) (hts (.fieldLink RX9 82 "RangeCodesModel" "word" "J") (List.mem_of_getElem? (i := 2) rfl)) (fun _ h9 => h9) rfl dX9_line_9 ?_
    refine lv_goto (tgt := 16) hx hb dX9_line_12 (by decide) ?_
    exact kX9_line_c16 S hr hlocks hG hA _ _ _ _ hv _ _ (hP.sub (ws' := [(qM, .inr (9, [.int (F 0), .ref q1, .ref q2, .ref q3, .int (F 4), .int (F 5), .int (F 6), .int (F 7), .int (F 8), .int (F 9), .long (J 10), .int (F 11), .int (F 12), .int (F 13), .ref q4, .int (F 15), .ref q5, .ref q6, .ref q7, .int (F 19), .ref q8, .int (F 21), .int (F 22), .int (F 23), .int (F 24), .ref q9, .ref q10, .ref q11, .long (J 28)])), (q2, .inl (g.2 1, 2000, .inl tx)), (q4, .inl (g.2 0, 94, .inl td))]) [0, 1, 2] rfl) (hD.sub (ws' := [(qM, .inr (9, [.int (F 0), .ref q1, .ref q2, .ref q3, .int (F 4), .int (F 5), .int (F 6), .int (F 7), .int (F 8), .int (F 9), .long (J 10), .int (F 11), .int (F 12), .int (F 13), .ref q4, .int (F 15), .ref q5, .ref q6, .ref q7, .int (F 19), .ref q8, .int (F 21), .int (F 22), .int (F 23), .int (F 24), .ref q9, .ref q10, .ref q11, .long (J 28)])), (q2, .inl (g.2 1, 2000, .inl tx)), (q4, .inl (g.2 0, 94, .inl td))]) [0, 1, 2] (by decide) rfl) hS ls (lv_sub hl [0] rfl)
/-- what the reference has read -/
def rmT (T : Cd) (G0 G1 : Lg) (lim : Nat) (f : Ft) (td : Nat → Int32) : Prop := (f.1 = 0 → fcR T G0 G1 lim td) ∧ (0 ≤ (td 0).toInt ∧ (td 0).toInt ≤ 5) ∧ (0 ≤ (td 26).toInt ∧ (td 26).toInt ≤ 10) ∧ (0 ≤ (td 63).toInt ∧ (td 63).toInt ≤ 10)
abbrev preX9_line (b : Nat → Int32) (nb : Nat) (i : Nat) (f : Int × Int) (T : Cd) (G0 : Lg) (G1 : Lg) (lim : Nat) (F : Nat → Int32) (J : Nat → Int64) (tx : Nat → Int32) (td : Nat → Int32) : Prop := rdM b nb i F J ∧ isTx b nb tx ∧ fm F = f ∧ flB f (tS b nb i) ∧ tK b nb i ≠ 0 ∧ rmT T G0 G1 lim f td
abbrev postX9_line (b : Nat → Int32) (nb : Nat) (i : Nat) (f : Int × Int) (T : Cd) (G0 : Lg) (G1 : Lg) (lim : Nat) (F : Nat → Int32) (J : Nat → Int64) (tx : Nat → Int32) (td : Nat → Int32) (r : Int32) (F' : Nat → Int32) (J' : Nat → Int64) (td' : Nat → Int32) : Prop := rmA b nb (lineS b nb i T G0 G1 f) r F' J' ∧ ((lineS b nb i T G0 G1 f).1 = true → rmT (liT b nb i T) (li0 b nb i G0) (li1 b nb i G1) (liL b nb i lim) (lineS b nb i T G0 G1 f).2.2 td')
theorem sX9_line_46 (b : Nat → Int32) (nb : Nat) (i : Nat) (f : Int × Int) (T : Cd) (G0 : Lg) (G1 : Lg) (lim : Nat) (F : Nat → Int32) (J : Nat → Int64) (tx : Nat → Int32) (td : Nat → Int32) (H : preX9_line b nb i f T G0 G1 lim F J tx td) (hw : wI b nb i = 2 ∨ wI b nb i = 3) : vX9_line_c46 tx (postX9_line b nb i f T G0 G1 lim F J tx td) (wdL b nb i) F J td := by
  obtain ⟨hr, htx, hf, hfl, hk0, hT, b0, b1, b2⟩ := id H
  unfold vX9_line_c46
  rw [br_d (b := b) (nb := nb) (i := i) _ (k := 2) (by decide) rfl (7304564 : Int64) rfl]
  refine ⟨fun c => ⟨b, nb, i, f, G1, ⟨hr, htx, hf, hfl, hk0, Or.inr rfl, fun z => (hT z).2.2.1, b2⟩, fun r F2 J2 td2 h2 => ⟨nar_if h2.1.1, ?_⟩⟩, fun c => ⟨b, nb, i, f, G0, ⟨hr, htx, hf, hfl, hk0, Or.inl rfl, fun z => (hT z).2.1, b1⟩, fun r F2 J2 td2 h2 => ⟨nar_if h2.1.1, ?_⟩⟩⟩
  · have h3 : wI b nb i = 3 := by omega
    have eo : lineS b nb i T G0 G1 f = legS b nb (tE b nb i) G1 f := by unfold lineS; rw [if_neg (by omega), if_neg (by omega), if_neg (by omega), if_pos h3]
    unfold postX9_line liT li0 li1 liL
    rw [eo, if_neg (by omega), if_neg (by omega), if_pos h3, if_neg (by omega)]
    obtain ⟨k1, k2, k3, k4, k5⟩ := h2
    have k5 : ∀ k, k < 57 ∨ 94 ≤ k → td2 k = td k := fun k hk => k5 k (by show k < 20 + 37 * 1 ∨ 57 + 37 * 1 ≤ k; omega)
    refine ⟨k1, fun _ => ⟨fun z => ?_, by rw [k5 0 (by omega)]; exact b0, by rw [k5 26 (by omega)]; exact b1, ⟨k3, k4⟩⟩⟩
    obtain ⟨f1, f2, f3, f4, f5, f6⟩ := hT (legS_f z)
    exact ⟨mT_cong f1 (fun k hk => k5 k (by omega)), mG_cong f2 (fun k _ hk => k5 k (by omega)), k2 z, by rw [k5 1 (by omega)]; exact f4, f5, f6⟩
  · have eo : lineS b nb i T G0 G1 f = legS b nb (tE b nb i) G0 f := by unfold lineS; rw [if_neg (by omega), if_neg (by omega), if_pos c]
    unfold postX9_line liT li0 li1 liL
    rw [eo, if_neg (by omega), if_pos c, if_neg (by omega), if_neg (by omega)]
    obtain ⟨k1, k2, k3, k4, k5⟩ := h2
    have k5 : ∀ k, k < 20 ∨ 57 ≤ k → td2 k = td k := fun k hk => k5 k (by show k < 20 + 37 * 0 ∨ 57 + 37 * 0 ≤ k; omega)
    refine ⟨k1, fun _ => ⟨fun z => ?_, by rw [k5 0 (by omega)]; exact b0, ⟨k3, k4⟩, by rw [k5 63 (by omega)]; exact b2⟩⟩
    obtain ⟨f1, f2, f3, f4, f5, f6⟩ := hT (legS_f z)
    exact ⟨mT_cong f1 (fun k hk => k5 k (by omega)), k2 z, mG_cong f3 (fun k hk _ => k5 k (by omega)), by rw [k5 1 (by omega)]; exact f4, f5, f6⟩
theorem sX9_line_16 (b : Nat → Int32) (nb : Nat) (i : Nat) (f : Int × Int) (T : Cd) (G0 : Lg) (G1 : Lg) (lim : Nat) (F : Nat → Int32) (J : Nat → Int64) (tx : Nat → Int32) (td : Nat → Int32) (H : preX9_line b nb i f T G0 G1 lim F J tx td) : vX9_line_c16 tx (postX9_line b nb i f T G0 G1 lim F J tx td) (wdL b nb i) F J td := by
  obtain ⟨hr, htx, hf, hfl, hk0, hT, b0, b1, b2⟩ := id H
  have hi := hr.2.2.1
  have hgt := tE_gt b hi hk0
  have he1 := tE_le b hi
  have hs1 := tS_le b he1.2
  unfold vX9_line_c16
  rw [br_d (b := b) (nb := nb) (i := i) _ (k := 0) (by decide) rfl (1885434484 : Int64) rfl, br_d (b := b) (nb := nb) (i := i) _ (k := 1) (by decide) rfl (465625246068 : Int64) rfl, br_d (b := b) (nb := nb) (i := i) _ (k := 2) (by decide) rfl (7304564 : Int64) rfl, br_d (b := b) (nb := nb) (i := i) _ (k := 3) (by decide) rfl (1650549611 : Int64) rfl]
  refine ⟨fun n0 => ⟨fun c => sX9_line_46 b nb i f T G0 G1 lim F J tx td H (Or.inl c), fun n2 => ⟨fun n3 => ⟨fun c => ?_, fun n1 => ⟨trivial, fun r F2 h2 => ?_⟩⟩, fun c => sX9_line_46 b nb i f T G0 G1 lim F J tx td H (Or.inr c)⟩⟩, fun c => ⟨b, nb, i, f, T, ⟨hr, htx, hf, hfl, hk0, fun z => (hT z).1, b0⟩, fun r F2 J2 td2 h2 => ⟨nar_if h2.1.1, ?_⟩⟩⟩
  · have eo : lineS b nb i T G0 G1 f = numS b nb (tE b nb i) 1 9999 f := by unfold lineS; rw [if_neg n0, if_pos c]
    refine ⟨b, nb, tE b nb i, rdM_at hr htx, fun F2 J2 h2 => ⟨b, nb, tE b nb i, f, ⟨h2.1, htx, by rw [fm_kp h2.2]; exact hf, flB_w hfl (by omega)⟩, fun r F3 J3 h3 => ⟨nar_if h3.1.1, ?_⟩⟩⟩
    obtain ⟨h3a, h3d⟩ := h3
    rw [z1, z9999] at h3a h3d
    unfold postX9_line liT li0 li1 liL
    rw [eo, if_neg n0, if_neg n2, if_neg n3, if_pos c]
    refine ⟨h3a, fun o => ⟨fun z => ?_, by rw [upd_ne (by omega)]; exact b0, by rw [upd_ne (by omega)]; exact b1, by rw [upd_ne (by omega)]; exact b2⟩⟩
    have q := numS_0 z
    obtain ⟨f1, f2, f3, f4, f5, f6⟩ := hT q.2.1
    have e15 := h3d o
    have u1 := q.2.2.1
    have u2 := q.2.2.2.1
    have kk : ∀ k, k ≠ 1 → upd td 1 (F3 15) k = td k := fun k hk => upd_ne hk
    refine ⟨⟨by rw [kk 0 (by omega)]; exact f1.1, fun p hp => ?_, fun p hp => ?_, fun p hp => ?_⟩, mG_cong f2 (fun k hk _ => kk k (by omega)), mG_cong f3 (fun k hk _ => kk k (by omega)), by rw [upd_eq]; exact e15, by omega, by omega⟩
    · show (upd td 1 (F3 15) (5 + 3 * p)).toInt = _ ∧ _
      rw [kk _ (by omega)]; exact f1.2.1 p hp
    · show (upd td 1 (F3 15) (6 + 3 * p)).toInt = _ ∧ _
      rw [kk _ (by omega)]; exact f1.2.2.1 p hp
    · show (upd td 1 (F3 15) (7 + 3 * p)).toInt = _ ∧ _
      rw [kk _ (by omega)]; exact f1.2.2.2 p hp
  · obtain ⟨e1, e2⟩ := h2
    subst e1 e2
    have eo : lineS b nb i T G0 G1 f = rfS (tS b nb i) := by unfold lineS; rw [if_neg n0, if_neg n1, if_neg n2, if_neg n3]
    unfold postX9_line
    rw [eo]
    exact ⟨rfl, ⟨rfl, fun q => absurd q rfS_1, fun _ => hr.2.2.2.1⟩, fun q => absurd q rfS_1⟩
  · have eo : lineS b nb i T G0 G1 f = partS b nb (tE b nb i) (tS b nb i) (cn T) f := by unfold lineS; rw [if_pos c]
    unfold postX9_line liT li0 li1 liL
    rw [eo, if_pos c, if_neg (by omega), if_neg (by omega), if_neg (by omega)]
    obtain ⟨k1, k2, k3, k4, k5⟩ := h2
    refine ⟨k1, fun _ => ⟨fun z => ?_, ⟨k3, k4⟩, by rw [k5 26 (by omega)]; exact b1, by rw [k5 63 (by omega)]; exact b2⟩⟩
    obtain ⟨f1, f2, f3, f4, f5, f6⟩ := hT (partS_f z)
    exact ⟨k2 z, mG_cong f2 (fun k hk _ => k5 k (by omega)), mG_cong f3 (fun k hk _ => k5 k (by omega)), by rw [k5 1 (by omega)]; exact f4, f5, f6⟩
theorem sX9_line (b : Nat → Int32) (nb : Nat) (i : Nat) (f : Int × Int) (T : Cd) (G0 : Lg) (G1 : Lg) (lim : Nat) (F : Nat → Int32) (J : Nat → Int64) (tx : Nat → Int32) (td : Nat → Int32) (H : preX9_line b nb i f T G0 G1 lim F J tx td) : vX9_line F J tx td (postX9_line b nb i f T G0 G1 lim F J tx td) := by
  obtain ⟨hr, -⟩ := id H
  have q := sX9_line_16 b nb i f T G0 G1 lim F J tx td H
  unfold vX9_line
  rw [fa_eq (F 7), hr.2.2.2.2.2.1, z2, soK_2 (tK_le _ _ _)]
  refine ⟨fun c => ?_, fun c => ?_⟩
  · rw [← wd_0 c]; exact q
  · rw [(hr.2.2.2.2.2.2.2 c).2]; exact q
