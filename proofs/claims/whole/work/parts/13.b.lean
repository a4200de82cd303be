set_option maxRecDepth 20000 in
theorem ggX0_settle_X7_allParts : GoodIn wsX0_settle wsX7_allParts := goodIn_r _ [16, 17, 57, 58, 59, 60, 61, 62] (by decide +kernel) (by decide +kernel)
set_option maxRecDepth 20000 in
theorem gX0_settle_X7_allParts : GoodIn wsX0_settle (wsV RX0 151 RX7 yX7_allParts wsX7_allParts) := goodIn_app (goodIn_of _ (by decide +kernel)) ggX0_settle_X7_allParts
set_option maxRecDepth 20000 in
theorem ggX0_settle_J6_bitCount_0f7a4 : GoodIn wsX0_settle wsJ6_bitCount_0f7a4 := goodIn_r _ [21, 22, 23, 24] (by decide +kernel) (by decide +kernel)
set_option maxRecDepth 20000 in
theorem gX0_settle_J6_bitCount_0f7a4 : GoodIn wsX0_settle (va_wsS RX0 160 yJ6_bitCount_0f7a4 wsJ6_bitCount_0f7a4) := goodIn_app (goodIn_of _ (by decide +kernel)) ggX0_settle_J6_bitCount_0f7a4
set_option maxRecDepth 20000 in
theorem ggX0_settle_X0_join : GoodIn wsX0_settle wsX0_join := goodIn_r _ [29, 5, 6, 30, 31, 32, 33, 34, 35, 36, 37, 38, 39, 45, 46, 47, 48, 49, 50, 51, 52, 53, 54, 55, 56, 57, 58, 59, 60, 61, 62] (by decide +kernel) (by decide +kernel)
set_option maxRecDepth 20000 in
theorem gX0_settle_X0_join : GoodIn wsX0_settle (wsV RX0 165 RX0 yX0_join wsX0_join) := goodIn_app (goodIn_of _ (by decide +kernel)) ggX0_settle_X0_join
set_option maxRecDepth 20000 in
theorem ggX0_settle_X7_periodOf : GoodIn wsX0_settle wsX7_periodOf := goodIn_r _ [43, 17, 44, 35, 33, 36, 37, 38, 39, 57, 58, 59, 60, 61, 62] (by decide +kernel) (by decide +kernel)
set_option maxRecDepth 20000 in
theorem gX0_settle_X7_periodOf : GoodIn wsX0_settle (wsV RX0 171 RX7 yX7_periodOf wsX7_periodOf) := goodIn_app (goodIn_of _ (by decide +kernel)) ggX0_settle_X7_periodOf
theorem dX0_settle_0 : decode cX0_settle 0 = .ok (.aload_n 0, 1) := by decide +kernel
theorem dX0_settle_1 : decode cX0_settle 1 = .ok (.iconst (-1), 1) := by decide +kernel
theorem dX0_settle_2 : decode cX0_settle 2 = .ok (.putfield 57, 3) := by decide +kernel
theorem dX0_settle_5 : decode cX0_settle 5 = .ok (.aload_n 0, 1) := by decide +kernel
theorem dX0_settle_6 : decode cX0_settle 6 = .ok (.iconst 0, 1) := by decide +kernel
theorem dX0_settle_7 : decode cX0_settle 7 = .ok (.putfield 142, 3) := by decide +kernel
theorem dX0_settle_10 : decode cX0_settle 10 = .ok (.aload_n 0, 1) := by decide +kernel
theorem dX0_settle_11 : decode cX0_settle 11 = .ok (.iconst 0, 1) := by decide +kernel
theorem dX0_settle_12 : decode cX0_settle 12 = .ok (.putfield 145, 3) := by decide +kernel
theorem dX0_settle_15 : decode cX0_settle 15 = .ok (.aload_n 0, 1) := by decide +kernel
theorem dX0_settle_16 : decode cX0_settle 16 = .ok (.iconst 0, 1) := by decide +kernel
theorem dX0_settle_17 : decode cX0_settle 17 = .ok (.putfield 148, 3) := by decide +kernel
theorem dX0_settle_20 : decode cX0_settle 20 = .ok (.aload_n 0, 1) := by decide +kernel
theorem dX0_settle_21 : decode cX0_settle 21 = .ok (.getfield 26, 3) := by decide +kernel
theorem dX0_settle_24 : decode cX0_settle 24 = .ok (.invokevirtual 151, 3) := by decide +kernel
theorem dX0_settle_27 : decode cX0_settle 27 = .ok (.istore_n 1, 1) := by decide +kernel
theorem dX0_settle_28 : decode cX0_settle 28 = .ok (.aload_n 0, 1) := by decide +kernel
theorem dX0_settle_29 : decode cX0_settle 29 = .ok (.getfield 26, 3) := by decide +kernel
theorem dX0_settle_32 : decode cX0_settle 32 = .ok (.getfield 70, 3) := by decide +kernel
theorem dX0_settle_35 : decode cX0_settle 35 = .ok (.iconst 1, 1) := by decide +kernel
theorem dX0_settle_36 : decode cX0_settle 36 = .ok (.isub, 1) := by decide +kernel
theorem dX0_settle_37 : decode cX0_settle 37 = .ok (.iconst 0, 1) := by decide +kernel
theorem dX0_settle_38 : decode cX0_settle 38 = .ok (.invokestatic 155, 3) := by decide +kernel
theorem dX0_settle_41 : decode cX0_settle 41 = .ok (.istore_n 2, 1) := by decide +kernel
theorem dX0_settle_42 : decode cX0_settle 42 = .ok (.iconst 0, 1) := by decide +kernel
theorem dX0_settle_43 : decode cX0_settle 43 = .ok (.istore_n 3, 1) := by decide +kernel
theorem dX0_settle_44 : decode cX0_settle 44 = .ok (.iload_n 3, 1) := by decide +kernel
theorem dX0_settle_45 : decode cX0_settle 45 = .ok (.iload_n 2, 1) := by decide +kernel
theorem dX0_settle_46 : decode cX0_settle 46 = .ok (.if_icmp .gt 103, 3) := by decide +kernel
theorem dX0_settle_49 : decode cX0_settle 49 = .ok (.aload_n 0, 1) := by decide +kernel
theorem dX0_settle_50 : decode cX0_settle 50 = .ok (.getfield 148, 3) := by decide +kernel
theorem dX0_settle_53 : decode cX0_settle 53 = .ok (.ifCond .ne 96, 3) := by decide +kernel
theorem dX0_settle_56 : decode cX0_settle 56 = .ok (.iconst 0, 1) := by decide +kernel
theorem dX0_settle_57 : decode cX0_settle 57 = .ok (.istore 4, 2) := by decide +kernel
theorem dX0_settle_59 : decode cX0_settle 59 = .ok (.iload 4, 2) := by decide +kernel
theorem dX0_settle_61 : decode cX0_settle 61 = .ok (.iload_n 1, 1) := by decide +kernel
theorem dX0_settle_62 : decode cX0_settle 62 = .ok (.if_icmp .gt 81, 3) := by decide +kernel
theorem dX0_settle_65 : decode cX0_settle 65 = .ok (.iload 4, 2) := by decide +kernel
theorem dX0_settle_67 : decode cX0_settle 67 = .ok (.invokestatic 160, 3) := by decide +kernel
theorem dX0_settle_70 : decode cX0_settle 70 = .ok (.iload_n 3, 1) := by decide +kernel
theorem dX0_settle_71 : decode cX0_settle 71 = .ok (.if_icmp .ne 16, 3) := by decide +kernel
theorem dX0_settle_74 : decode cX0_settle 74 = .ok (.aload_n 0, 1) := by decide +kernel
theorem dX0_settle_75 : decode cX0_settle 75 = .ok (.iload_n 1, 1) := by decide +kernel
theorem dX0_settle_76 : decode cX0_settle 76 = .ok (.iload 4, 2) := by decide +kernel
theorem dX0_settle_78 : decode cX0_settle 78 = .ok (.iconst (-1), 1) := by decide +kernel
theorem dX0_settle_79 : decode cX0_settle 79 = .ok (.ixor, 1) := by decide +kernel
theorem dX0_settle_80 : decode cX0_settle 80 = .ok (.iand, 1) := by decide +kernel
theorem dX0_settle_81 : decode cX0_settle 81 = .ok (.invokevirtual 165, 3) := by decide +kernel
theorem dX0_settle_84 : decode cX0_settle 84 = .ok (.goto 4, 3) := by decide +kernel
theorem dX0_settle_87 : decode cX0_settle 87 = .ok (.iconst (-1), 1) := by decide +kernel
theorem dX0_settle_88 : decode cX0_settle 88 = .ok (.istore 5, 2) := by decide +kernel
theorem dX0_settle_90 : decode cX0_settle 90 = .ok (.iload 5, 2) := by decide +kernel
theorem dX0_settle_92 : decode cX0_settle 92 = .ok (.iconst (-1), 1) := by decide +kernel
theorem dX0_settle_93 : decode cX0_settle 93 = .ok (.if_icmp .eq 44, 3) := by decide +kernel
theorem dX0_settle_96 : decode cX0_settle 96 = .ok (.iload 5, 2) := by decide +kernel
theorem dX0_settle_98 : decode cX0_settle 98 = .ok (.aload_n 0, 1) := by decide +kernel
theorem dX0_settle_99 : decode cX0_settle 99 = .ok (.getfield 26, 3) := by decide +kernel
theorem dX0_settle_102 : decode cX0_settle 102 = .ok (.getfield 168, 3) := by decide +kernel
theorem dX0_settle_105 : decode cX0_settle 105 = .ok (.if_icmp .ge 32, 3) := by decide +kernel
theorem dX0_settle_108 : decode cX0_settle 108 = .ok (.aload_n 0, 1) := by decide +kernel
theorem dX0_settle_109 : decode cX0_settle 109 = .ok (.getfield 148, 3) := by decide +kernel
theorem dX0_settle_112 : decode cX0_settle 112 = .ok (.ifCond .ne 15, 3) := by decide +kernel
theorem dX0_settle_115 : decode cX0_settle 115 = .ok (.aload_n 0, 1) := by decide +kernel
theorem dX0_settle_116 : decode cX0_settle 116 = .ok (.iload 5, 2) := by decide +kernel
theorem dX0_settle_118 : decode cX0_settle 118 = .ok (.putfield 57, 3) := by decide +kernel
theorem dX0_settle_121 : decode cX0_settle 121 = .ok (.aload_n 0, 1) := by decide +kernel
theorem dX0_settle_122 : decode cX0_settle 122 = .ok (.iload 4, 2) := by decide +kernel
theorem dX0_settle_124 : decode cX0_settle 124 = .ok (.putfield 142, 3) := by decide +kernel
theorem dX0_settle_127 : decode cX0_settle 127 = .ok (.aload_n 0, 1) := by decide +kernel
theorem dX0_settle_128 : decode cX0_settle 128 = .ok (.dup, 1) := by decide +kernel
theorem dX0_settle_129 : decode cX0_settle 129 = .ok (.getfield 148, 3) := by decide +kernel
theorem dX0_settle_132 : decode cX0_settle 132 = .ok (.iconst 1, 1) := by decide +kernel
theorem dX0_settle_133 : decode cX0_settle 133 = .ok (.iadd, 1) := by decide +kernel
theorem dX0_settle_134 : decode cX0_settle 134 = .ok (.putfield 148, 3) := by decide +kernel
theorem dX0_settle_137 : decode cX0_settle 137 = .ok (.iinc 4 1, 3) := by decide +kernel
theorem dX0_settle_140 : decode cX0_settle 140 = .ok (.goto (-81), 3) := by decide +kernel
theorem dX0_settle_143 : decode cX0_settle 143 = .ok (.iinc 3 1, 3) := by decide +kernel
theorem dX0_settle_146 : decode cX0_settle 146 = .ok (.goto (-102), 3) := by decide +kernel
theorem dX0_settle_149 : decode cX0_settle 149 = .ok (.aload_n 0, 1) := by decide +kernel
theorem dX0_settle_150 : decode cX0_settle 150 = .ok (.getfield 148, 3) := by decide +kernel
theorem dX0_settle_153 : decode cX0_settle 153 = .ok (.ifCond .le 22, 3) := by decide +kernel
theorem dX0_settle_156 : decode cX0_settle 156 = .ok (.aload_n 0, 1) := by decide +kernel
theorem dX0_settle_157 : decode cX0_settle 157 = .ok (.aload_n 0, 1) := by decide +kernel
theorem dX0_settle_158 : decode cX0_settle 158 = .ok (.getfield 26, 3) := by decide +kernel
theorem dX0_settle_161 : decode cX0_settle 161 = .ok (.iload_n 1, 1) := by decide +kernel
theorem dX0_settle_162 : decode cX0_settle 162 = .ok (.aload_n 0, 1) := by decide +kernel
theorem dX0_settle_163 : decode cX0_settle 163 = .ok (.getfield 142, 3) := by decide +kernel
theorem dX0_settle_166 : decode cX0_settle 166 = .ok (.iconst (-1), 1) := by decide +kernel
theorem dX0_settle_167 : decode cX0_settle 167 = .ok (.ixor, 1) := by decide +kernel
theorem dX0_settle_168 : decode cX0_settle 168 = .ok (.iand, 1) := by decide +kernel
theorem dX0_settle_169 : decode cX0_settle 169 = .ok (.invokevirtual 171, 3) := by decide +kernel
theorem dX0_settle_172 : decode cX0_settle 172 = .ok (.putfield 145, 3) := by decide +kernel
theorem dX0_settle_175 : decode cX0_settle 175 = .ok (.return_, 1) := by decide +kernel
abbrev rmX0_settle : Room := { frames := 3, cells := 0, slots := 0, locals := 78 }
theorem inX0_settle_0 : ∀ w ∈ wsX00, w ∈ wsX0_settle := by decide +kernel
theorem inX0_settle_7 : ∀ w ∈ wsX70, w ∈ wsX0_settle := by decide +kernel
def vX0_settle_c149 (be : Nat → Int32) (parts : Int32) (limit : Int32) (len : Nat → Int32) (Q : (Nat → Int32) → Prop) (x1 : Int32) (E : Nat → Int32) : Prop := (((E 11) ≤ 0 → (Q E)) ∧ (¬ (E 11) ≤ 0 → (∃ (T_169 : Cd) (s_169 : Nat), preX7_periodOf T_169 s_169 parts limit len (x1 &&& ((E 9) ^^^ (-1 : Int32))) ∧ (∀ r_169 : Int32, postX7_periodOf T_169 s_169 parts limit len (x1 &&& ((E 9) ^^^ (-1 : Int32))) r_169 → (Q (upd E 10 r_169))))))
set_option maxHeartbeats 4000000 in
set_option maxRecDepth 100000 in
theorem kX0_settle_c149 {p : Program} {l : Launch} {e : Env} {s : State} {m : MethodId} {args : Array Value} {below : List Frame} {meth : Method} {c : Code} {g : GP} {qe : Nat} {qt : Nat} {qh : Nat} {qm : Nat} {qb : Nat} {qx : Nat} {ql : Nat} {qr : Nat} {qv : Nat} {qg : Nat} {be : Nat → Int32} {parts : Int32} {limit : Int32} {len : Nat → Int32}  {Q : (Nat → Int32) → Prop} {A : Nat → Prop} (S : CallFix p m c cX0_settle 6 s args wsX0_settle RX0) (hr : meth.sig.returnType = none) (hlocks : meth.locks = false) (hG : GK g s) (hA : ∀ q : Nat, s.heap.size ≤ q → A q) : ∀ (x1 : Int32) (E : Nat → Int32), vX0_settle_c149 be parts limit len Q x1 E → ∀ (H : Heap) (locs : List Loc), va_P g.1 vwCl [(qe, .inr (0, [.ref qt, .ref qh, .ref qm, .ref qb, .ref qx, .int (E 5), .int (E 6), .int (E 7), .int (E 8), .int (E 9), .int (E 10), .int (E 11)])), (qb, .inl (g.2 0, 5, .inl be)), (qt, .inr (7, [.ref ql, .ref qr, .ref qv, .ref qg, .int parts, .int limit])), (ql, .inl (g.2 0, 5, .inl len))] H → va_D A [(qe, .inr (0, [.ref qt, .ref qh, .ref qm, .ref qb, .ref qx, .int (E 5), .int (E 6), .int (E 7), .int (E 8), .int (E 9), .int (E 10), .int (E 11)])), (qb, .inl (g.2 0, 5, .inl be)), (qt, .inr (7, [.ref ql, .ref qr, .ref qv, .ref qg, .int parts, .int limit])), (ql, .inl (g.2 0, 5, .inl len))] → va_S A s.heap H locs → ∀ (ls : Array Slot), lv_has ls 6 [(0, .ref qe), (1, .int x1)] → W p l e (headSpec wsX0_settle rmX0_settle).room s m args below meth c H locs 0 0 (MQ below (va_Qv (fun (u : (Nat → Int32)) => Q u) (fun (u : (Nat → Int32)) t => va_P g.1 vwCl [(qe, .inr (0, [.ref qt, .ref qh, .ref qm, .ref qb, .ref qx, .int (u 5), .int (u 6), .int (u 7), .int (u 8), .int (u 9), .int (u 10), .int (u 11)])), (qb, .inl (g.2 0, 5, .inl be)), (qt, .inr (7, [.ref ql, .ref qr, .ref qv, .ref qg, .int parts, .int limit])), (ql, .inl (g.2 0, 5, .inl len))] t.heap ∧ va_D A [(qe, .inr (0, [.ref qt, .ref qh, .ref qm, .ref qb, .ref qx, .int (u 5), .int (u 6), .int (u 7), .int (u 8), .int (u 9), .int (u 10), .int (u 11)])), (qb, .inl (g.2 0, 5, .inl be)), (qt, .inr (7, [.ref ql, .ref qr, .ref qv, .ref qg, .int parts, .int limit])), (ql, .inl (g.2 0, 5, .inl len))]) A) args s 0 0 A) (F0 m 149 ls []) := by
  obtain ⟨hx, hb, hml, hown, hts⟩ := id S
  have hK := hG.1
  intro x1 E hv H locs hP hD hS ls hl
  unfold vX0_settle_c149 at hv
  refine lv_aload_n hx hb dX0_settle_149 rfl (lv_at hl 0 rfl) ?_
  refine va_get (D := g.1) (ci := 0) (v := .int (E 11)) (C := RX0) (T := TX0) (N := 12) hx hb hts inX0_settle_0 hown hK hP 0 rfl rfl 11 (by decide) (hts (.fieldLink RX0 148 "RangeCodes$Ear" "sets" "I") (List.mem_of_getElem? (i := 4) rfl)) (fun _ h9 => h9) rfl dX0_settle_150 ?_
  obtain ⟨hvt, hvf⟩ := hv
  refine lv_if_le (tgt := 175) hx hb dX0_settle_153 (by decide) (fun hc => ?_) (fun hc => ?_)
  · have hv := hvt hc
    have hP9 := hP.sub (ws' := [(qe, .inr (0, [.ref qt, .ref qh, .ref qm, .ref qb, .ref qx, .int (E 5), .int (E 6), .int (E 7), .int (E 8), .int (E 9), .int (E 10), .int (E 11)])), (qb, .inl (g.2 0, 5, .inl be)), (qt, .inr (7, [.ref ql, .ref qr, .ref qv, .ref qg, .int parts, .int limit])), (ql, .inl (g.2 0, 5, .inl len))]) [0, 1, 2, 3] rfl
    have hD9 := hD.sub (ws' := [(qe, .inr (0, [.ref qt, .ref qh, .ref qm, .ref qb, .ref qx, .int (E 5), .int (E 6), .int (E 7), .int (E 8), .int (E 9), .int (E 10), .int (E 11)])), (qb, .inl (g.2 0, 5, .inl be)), (qt, .inr (7, [.ref ql, .ref qr, .ref qv, .ref qg, .int parts, .int limit])), (ql, .inl (g.2 0, 5, .inl len))]) [0, 1, 2, 3] (by decide) rfl
    exact W.vret hx hb hr (fun t ht hW => ⟨⟨(E), rfl, hv, by rw [ht]; exact hP9, hD9⟩, hS.F ht⟩) hS.2.2 dX0_settle_175
  · have hv := hvf hc
    refine lv_aload_n hx hb dX0_settle_156 rfl (lv_at hl 0 rfl) ?_
    refine lv_aload_n hx hb dX0_settle_157 rfl (lv_at hl 0 rfl) ?_
    refine va_get (D := g.1) (ci := 0) (v := .ref qt) (C := RX0) (T := TX0) (N := 12) hx hb hts inX0_settle_0 hown hK hP 0 rfl rfl 0 (by decide) (hts (.fieldLink RX0 26 "RangeCodes$Ear" "told" "LRangeCodes$Told;") (List.mem_of_getElem? (i := 5) rfl)) (fun _ h9 => h9) rfl dX0_settle_158 ?_
    refine lv_iload_n hx hb dX0_settle_161 rfl (lv_at hl 1 rfl) ?_
    refine lv_aload_n hx hb dX0_settle_162 rfl (lv_at hl 0 rfl) ?_
    refine va_get (D := g.1) (ci := 0) (v := .int (E 9)) (C := RX0) (T := TX0) (N := 12) hx hb hts inX0_settle_0 hown hK hP 0 rfl rfl 9 (by decide) (hts (.fieldLink RX0 142 "RangeCodes$Ear" "wrong" "I") (List.mem_of_getElem? (i := 2) rfl)) (fun _ h9 => h9) rfl dX0_settle_163 ?_
    refine lv_iconst (v := (-1 : Int32)) hx hb dX0_settle_166 (by decide) ?_
    refine lv_ixor hx hb dX0_settle_167 ?_
    refine lv_iand hx hb dX0_settle_168 ?_
    obtain ⟨T_169, s_169, ho_1, hv⟩ := hv
    refine vp_callSi (W.runV (As := [.int (x1 &&& ((E 9) ^^^ (-1 : Int32)))]) (rest := [.ref qe]) S (wX7_periodOf l g qt ql qr qv qg parts limit len (x1 &&& ((E 9) ^^^ (-1 : Int32))) (sX7_periodOf T_169 s_169 parts limit len (x1 &&& ((E 9) ^^^ (-1 : Int32))) ho_1)) (cwV 1 hts gX0_settle_X7_periodOf rfl rfl rfl (by decide +kernel) ⟨Nat.le_of_ble_eq_true rfl, Nat.le_of_ble_eq_true rfl⟩) ⟨blindRO, va_recv hK hP (ci := 7) (q0 := 2) rfl rfl, fun U hU hW => ⟨rfl, by rw [hU]; exact hP.sub (ws' := [(qt, .inr (7, [.ref ql, .ref qr, .ref qv, .ref qg, .int parts, .int limit])), (ql, .inl (g.2 0, 5, .inl len))]) [2, 3] rfl, hG.warm hW⟩⟩ rfl rfl hl.1 rfl (lv_room (Nat.le_of_ble_eq_true rfl)) dX0_settle_169 ⟨Nat.le_of_ble_eq_true rfl, Nat.le_of_ble_eq_true rfl⟩) (fun r_169 hr_169 => ?_)
    have hv := hv r_169 hr_169
    refine va_put (D := g.1) (ci := 0) (v := .int r_169) (ty := .int) (C := RX0) (T := TX0) (N := 12) hx hb hts inX0_settle_0 tyX0 tyX0_ok nmX0 hown hK hP hD hS 0 rfl rfl 10 (by decide) (hts (.fieldLink RX0 145 "RangeCodes$Ear" "step" "I") (List.mem_of_getElem? (i := 3) rfl)) (fun _ h9 => h9) rfl (by decide +kernel) rfl rfl (Nat.le_of_ble_eq_true rfl) dX0_settle_172 (fun H locs hP hD hS => ?_)
    have hP : va_P g.1 vwCl [(qe, .inr (0, [.ref qt, .ref qh, .ref qm, .ref qb, .ref qx, .int (E 5), .int (E 6), .int (E 7), .int (E 8), .int (E 9), .int r_169, .int (E 11)])), (qb, .inl (g.2 0, 5, .inl be)), (qt, .inr (7, [.ref ql, .ref qr, .ref qv, .ref qg, .int parts, .int limit])), (ql, .inl (g.2 0, 5, .inl len))] H := hP
    have hD : va_D A [(qe, .inr (0, [.ref qt, .ref qh, .ref qm, .ref qb, .ref qx, .int (E 5), .int (E 6), .int (E 7), .int (E 8), .int (E 9), .int r_169, .int (E 11)])), (qb, .inl (g.2 0, 5, .inl be)), (qt, .inr (7, [.ref ql, .ref qr, .ref qv, .ref qg, .int parts, .int limit])), (ql, .inl (g.2 0, 5, .inl len))] := hD
    have hP9 := hP.sub (ws' := [(qe, .inr (0, [.ref qt, .ref qh, .ref qm, .ref qb, .ref qx, .int ((upd E 10 r_169) 5), .int ((upd E 10 r_169) 6), .int ((upd E 10 r_169) 7), .int ((upd E 10 r_169) 8), .int ((upd E 10 r_169) 9), .int ((upd E 10 r_169) 10), .int ((upd E 10 r_169) 11)])), (qb, .inl (g.2 0, 5, .inl be)), (qt, .inr (7, [.ref ql, .ref qr, .ref qv, .ref qg, .int parts, .int limit])), (ql, .inl (g.2 0, 5, .inl len))]) [0, 1, 2, 3] rfl
    have hD9 := hD.sub (ws' := [(qe, .inr (0, [.ref qt, .ref qh, .ref qm, .ref qb, .ref qx, .int ((upd E 10 r_169) 5), .int ((upd E 10 r_169) 6), .int ((upd E 10 r_169) 7), .int ((upd E 10 r_169) 8), .int ((upd E 10 r_169) 9), .int ((upd E 10 r_169) 10), .int ((upd E 10 r_169) 11)])), (qb, .inl (g.2 0, 5, .inl be)), (qt, .inr (7, [.ref ql, .ref qr, .ref qv, .ref qg, .int parts, .int limit])), (ql, .inl (g.2 0, 5, .inl len))]) [0, 1, 2, 3] (by decide) rfl
    exact W.vret hx hb hr (fun t ht hW => ⟨⟨((upd E 10 r_169)), rfl, hv, by rw [ht]; exact hP9, hD9⟩, hS.F ht⟩) hS.2.2 dX0_settle_175
def vX0_settle_c127 (be : Nat → Int32) (parts : Int32) (limit : Int32) (len : Nat → Int32) (Q : (Nat → Int32) → Prop) (K44 : Int32 → Int32 → Int32 → (Nat → Int32) → Prop) (K59 : Int32 → Int32 → Int32 → Int32 → (Nat → Int32) → Prop) (x1 : Int32) (x2 : Int32) (x3 : Int32) (x4 : Int32) (E : Nat → Int32) : Prop := (K59 x1 x2 x3 (x4 + (1 : Int32)) (upd E 11 ((E 11) + (1 : Int32))))
set_option maxHeartbeats 4000000 in
set_option maxRecDepth 100000 in
theorem kX0_settle_c127 {p : Program} {l : Launch} {e : Env} {s : State} {m : MethodId} {args : Array Value} {below : List Frame} {meth : Method} {c : Code} {g : GP} {qe : Nat} {qt : Nat} {qh : Nat} {qm : Nat} {qb : Nat} {qx : Nat} {ql : Nat} {qr : Nat} {qv : Nat} {qg : Nat} {be : Nat → Int32} {parts : Int32} {limit : Int32} {len : Nat → Int32}  {Q : (Nat → Int32) → Prop} {A : Nat → Prop} {K44 : Int32 → Int32 → Int32 → (Nat → Int32) → Prop} {K59 : Int32 → Int32 → Int32 → Int32 → (Nat → Int32) → Prop} (S : CallFix p m c cX0_settle 6 s args wsX0_settle RX0) (hr : meth.sig.returnType = none) (hlocks : meth.locks = false) (hG : GK g s) (hA : ∀ q : Nat, s.heap.size ≤ q → A q) (kk44 : ∀ (x1 : Int32) (x2 : Int32) (x3 : Int32) (E : Nat → Int32), K44 x1 x2 x3 E → ∀ (H : Heap) (locs : List Loc), va_P g.1 vwCl [(qe, .inr (0, [.ref qt, .ref qh, .ref qm, .ref qb, .ref qx, .int (E 5), .int (E 6), .int (E 7), .int (E 8), .int (E 9), .int (E 10), .int (E 11)])), (qb, .inl (g.2 0, 5, .inl be)), (qt, .inr (7, [.ref ql, .ref qr, .ref qv, .ref qg, .int parts, .int limit])), (ql, .inl (g.2 0, 5, .inl len))] H → va_D A [(qe, .inr (0, [.ref qt, .ref qh, .ref qm, .ref qb, .ref qx, .int (E 5), .int (E 6), .int (E 7), .int (E 8), .int (E 9), .int (E 10), .int (E 11)])), (qb, .inl (g.2 0, 5, .inl be)), (qt, .inr (7, [.ref ql, .ref qr, .ref qv, .ref qg, .int parts, .int limit])), (ql, .inl (g.2 0, 5, .inl len))] → va_S A s.heap H locs → ∀ (ls : Array Slot), lv_has ls 6 [(0, .ref qe), (1, .int x1), (2, .int x2), (3, .int x3)] → W p l e (headSpec wsX0_settle rmX0_settle).room s m args below meth c H locs 0 0 (MQ below (va_Qv (fun (u : (Nat → Int32)) => Q u) (fun (u : (Nat → Int32)) t => va_P g.1 vwCl [(qe, .inr (0, [.ref qt, .ref qh, .ref qm, .ref qb, .ref qx, .int (u 5), .int (u 6), .int (u 7), .int (u 8), .int (u 9), .int (u 10), .int (u 11)])), (qb, .inl (g.2 0, 5, .inl be)), (qt, .inr (7, [.ref ql, .ref qr, .ref qv, .ref qg, .int parts, .int limit])), (ql, .inl (g.2 0, 5, .inl len))] t.heap ∧ va_D A [(qe, .inr (0, [.ref qt, .ref qh, .ref qm, .ref qb, .ref qx, .int (u 5), .int (u 6), .int (u 7), .int (u 8), .int (u 9), .int (u 10), .int (u 11)])), (qb, .inl (g.2 0, 5, .inl be)), (qt, .inr (7, [.ref ql, .ref qr, .ref qv, .ref qg, .int parts, .int limit])), (ql, .inl (g.2 0, 5, .inl len))]) A) args s 0 0 A) (F0 m 44 ls [])) (kk59 : ∀ (x1 : Int32) (x2 : Int32) (x3 : Int32) (x4 : Int32) (E : Nat → Int32), K59 x1 x2 x3 x4 E → ∀ (H : Heap) (locs : List Loc), va_P g.1 vwCl [(qe, .inr (0, [.ref qt, .ref qh, .ref qm, .ref qb, .ref qx, .int (E 5), .int (E 6), .int (E 7), .int (E 8), .int (E 9), .int (E 10), .int (E 11)])), (qb, .inl (g.2 0, 5, .inl be)), (qt, .inr (7, [.ref ql, .ref qr, .ref qv, .ref qg, .int parts, .int limit])), (ql, .inl (g.2 0, 5, .inl len))] H → va_D A [(qe, .inr (0, [.ref qt, .ref qh, .ref qm, .ref qb, .ref qx, .int (E 5), .int (E 6), .int (E 7), .int (E 8), .int (E 9), .int (E 10), .int (E 11)])), (qb, .inl (g.2 0, 5, .inl be)), (qt, .inr (7, [.ref ql, .ref qr, .ref qv, .ref qg, .int parts, .int limit])), (ql, .inl (g.2 0, 5, .inl len))] → va_S A s.heap H locs → ∀ (ls : Array Slot), lv_has ls 6 [(0, .ref qe), (1, .int x1), (2, .int x2), (3, .int x3), (4, .int x4)] → W p l e (headSpec wsX0_settle rmX0_settle).room s m args below meth c H locs 0 0 (MQ below (va_Qv (fun (u : (Nat → Int32)) => Q u) (fun (u : (Nat → Int32)) t => va_P g.1 vwCl [(qe, .inr (0, [.ref qt, .ref qh, .ref qm, .ref qb, .ref qx, .int (u 5), .int (u 6), .int (u 7), .int (u 8), .int (u 9), .int (u 10), .int (u 11)])), (qb, .inl (g.2 0, 5, .inl be)), (qt, .inr (7, [.ref ql, .ref qr, .ref qv, .ref qg, .int parts, .int limit])), (ql, .inl (g.2 0, 5, .inl len))] t.heap ∧ va_D A [(qe, .inr (0, [.ref qt, .ref qh, .ref qm, .ref qb, .ref qx, .int (u 5), .int (u 6), .int (u 7), .int (u 8), .int (u 9), .int (u 10), .int (u 11)])), (qb, .inl (g.2 0, 5, .inl be)), (qt, .inr (7, [.ref ql, .ref qr, .ref qv, .ref qg, .int parts, .int limit])), (ql, .inl (g.2 0, 5, .inl len))]) A) args s 0 0 A) (F0 m 59 ls [])) : ∀ (x1 : Int32) (x2 : Int32) (x3 : Int32) (x4 : Int32) (E : Nat → Int32), vX0_settle_c127 be parts limit len Q K44 K59 x1 x2 x3 x4 E → ∀ (H : Heap) (locs : List Loc), va_P g.1 vwCl [(qe, .inr (0, [.ref qt, .ref qh, .ref qm, .ref qb, .ref qx, .int (E 5), .int (E 6), .int (E 7), .int (E 8), .int (E 9), .int (E 10), .int (E 11)])), (qb, .inl (g.2 0, 5, .inl be)), (qt, .inr (7, [.ref ql, .ref qr, .ref qv, .ref qg, .int parts, .int limit])), (ql, .inl (g.2 0, 5, .inl len))] H → va_D A [(qe, .inr (0, [.ref qt, .ref qh, .ref qm, .ref qb, .ref qx, .int (E 5), .int (E 6), .int (E 7), .int (E 8), .int (E 9), .int (E 10), .int (E 11)])), (qb, .inl (g.2 0, 5, .inl be)), (qt, .inr (7, [.ref ql, .ref qr, .ref qv, .ref qg, .int parts, .int limit])), (ql, .inl (g.2 0, 5, .inl len))] → va_S A s.heap H locs → ∀ (ls : Array Slot), lv_has ls 6 [(0, .ref qe), (1, .int x1), (2, .int x2), (3, .int x3), (4, .int x4)] → W p l e (headSpec wsX0_settle rmX0_settle).room s m args below meth c H locs 0 0 (MQ below (va_Qv (fun (u : (Nat → Int32)) => Q u) (fun (u : (Nat → Int32)) t => va_P g.1 vwCl [(qe, .inr (0, [.ref qt, .ref qh, .ref qm, .ref qb, .ref qx, .int (u 5), .int (u 6), .int (u 7), .int (u 8), .int (u 9), .int (u 10), .int (u 11)])), (qb, .inl (g.2 0, 5, .inl be)), (qt, .inr (7, [.ref ql, .ref qr, .ref qv, .ref qg, .int parts, .int limit])), (ql, .inl (g.2 0, 5, .inl len))] t.heap ∧ va_D A [(qe, .inr (0, [.ref qt, .ref qh, .ref qm, .ref qb, .ref qx, .int (u 5), .int (u 6), .int (u 7), .int (u 8), .int (u 9), .int (u 10), .int (u 11)])), (qb, .inl (g.2 0, 5, .inl be)), (qt, .inr (7, [.ref ql, .ref qr, .ref qv, .ref qg, .int parts, .int limit])), (ql, .inl (g.2 0, 5, .inl len))]) A) args s 0 0 A) (F0 m 127 ls []) := by
  obtain ⟨hx, hb, hml, hown, hts⟩ := id S
  have hK := hG.1
  intro x1 x2 x3 x4 E hv H locs hP hD hS ls hl
  unfold vX0_settle_c127 at hv
  refine lv_aload_n hx hb dX0_settle_127 rfl (lv_at hl 0 rfl) ?_
  refine lv_dup hx hb dX0_settle_128 rfl ?_
  refine va_get (D := g.1) (ci := 0) (v := .int (E 11)) (C := RX0) (T := TX0) (N := 12) hx hb hts inX0_settle_0 hown hK hP 0 rfl rfl 11 (by decide) (hts (.fieldLink RX0 148 "RangeCodes$Ear" "sets" "I") (List.mem_of_getElem? (i := 4) rfl)) (fun _ h9 => h9) rfl dX0_settle_129 ?_
  refine lv_iconst (v := (1 : Int32)) hx hb dX0_settle_132 (by decide) ?_
  refine lv_iadd hx hb dX0_settle_133 ?_
  refine va_put (D := g.1) (ci := 0) (v := .int ((E 11) + (1 : Int32))) (ty := .int) (C := RX0) (T := TX0) (N := 12) hx hb hts inX0_settle_0 tyX0 tyX0_ok nmX0 hown hK hP hD hS 0 rfl rfl 11 (by decide) (hts (.fieldLink RX0 148 "RangeCodes$Ear" "sets" "I") (List.mem_of_getElem? (i := 4) rfl)) (fun _ h9 => h9) rfl (by decide +kernel) rfl rfl (Nat.le_of_ble_eq_true rfl) dX0_settle_134 (fun H locs hP hD hS => ?_)
  have hP : va_P g.1 vwCl [(qe, .inr (0, [.ref qt, .ref qh, .ref qm, .ref qb, .ref qx, .int (E 5), .int (E 6), .int (E 7), .int (E 8), .int (E 9), .int (E 10), .int ((E 11) + (1 : Int32))])), (qb, .inl (g.2 0, 5, .inl be)), (qt, .inr (7, [.ref ql, .ref qr, .ref qv, .ref qg, .int parts, .int limit])), (ql, .inl (g.2 0, 5, .inl len))] H := hP
  have hD : va_D A [(qe, .inr (0, [.ref qt, .ref qh, .ref qm, .ref qb, .ref qx, .int (E 5), .int (E 6), .int (E 7), .int (E 8), .int (E 9), .int (E 10), .int ((E 11) + (1 : Int32))])), (qb, .inl (g.2 0, 5, .inl be)), (qt, .inr (7, [.ref ql, .ref qr, .ref qv, .ref qg, .int parts, .int limit])), (ql, .inl (g.2 0, 5, .inl len))] := hD
  refine lv_iinc (v := (x4 + (1 : Int32))) (lv' := [(4, .int (x4 + (1 : Int32))), (0, .ref qe), (1, .int x1), (2, .int x2), (3, .int x3)]) hx hb dX0_settle_137 hl (k := 4) rfl rfl (by decide) rfl (fun ls hl => ?_)
  refine lv_goto (tgt := 59) hx hb dX0_settle_140 (by decide) ?_
  exact kk59 _ _ _ _ _ hv _ _ (hP.sub (ws' := [(qe, .inr (0, [.ref qt, .ref qh, .ref qm, .ref qb, .ref qx, .int ((upd E 11 ((E 11) + (1 : Int32))) 5), .int ((upd E 11 ((E 11) + (1 : Int32))) 6), .int ((upd E 11 ((E 11) + (1 : Int32))) 7), .int ((upd E 11 ((E 11) + (1 : Int32))) 8), .int ((upd E 11 ((E 11) + (1 : Int32))) 9), .int ((upd E 11 ((E 11) + (1 : Int32))) 10), .int ((upd E 11 ((E 11) + (1 : Int32))) 11)])), (qb, .inl (g.2 0, 5, .inl be)), (qt, .inr (7, [.ref ql, .ref qr, .ref qv, .ref qg, .int parts, .int limit])), (ql, .inl (g.2 0, 5, .inl len))]) [0, 1, 2, 3] rfl) (hD.sub (ws' := [(qe, .inr (0, [.ref qt, .ref qh, .ref qm, .ref qb, .ref qx, .int ((upd E 11 ((E 11) + (1 : Int32))) 5), .int ((upd E 11 ((E 11) + (1 : Int32))) 6), .int ((upd E 11 ((E 11) + (1 : Int32))) 7), .int ((upd E 11 ((E 11) + (1 : Int32))) 8), .int ((upd E 11 ((E 11) + (1 : Int32))) 9), .int ((upd E 11 ((E 11) + (1 : Int32))) 10), .int ((upd E 11 ((E 11) + (1 : Int32))) 11)])), (qb, .inl (g.2 0, 5, .inl be)), (qt, .inr (7, [.ref ql, .ref qr, .ref qv, .ref qg, .int parts, .int limit])), (ql, .inl (g.2 0, 5, .inl len))]) [0, 1, 2, 3] (by decide) rfl) hS ls (lv_sub hl [1, 2, 3, 4, 0] rfl)
def vX0_settle_c88 (be : Nat → Int32) (parts : Int32) (limit : Int32) (len : Nat → Int32) (Q : (Nat → Int32) → Prop) (K44 : Int32 → Int32 → Int32 → (Nat → Int32) → Prop) (K59 : Int32 → Int32 → Int32 → Int32 → (Nat → Int32) → Prop) (x1 : Int32) (x2 : Int32) (x3 : Int32) (x4 : Int32) (s0 : Int32) (E : Nat → Int32) : Prop := ((s0 = (-1 : Int32) → (K59 x1 x2 x3 (x4 + (1 : Int32)) E)) ∧ (¬ s0 = (-1 : Int32) → ((limit ≤ s0 → (K59 x1 x2 x3 (x4 + (1 : Int32)) E)) ∧ (¬ limit ≤ s0 → ((¬ (E 11) = 0 → (vX0_settle_c127 be parts limit len Q K44 K59 x1 x2 x3 x4 E)) ∧ ((E 11) = 0 → (vX0_settle_c127 be parts limit len Q K44 K59 x1 x2 x3 x4 (upd (upd E 8 s0) 9 x4))))))))
set_option maxHeartbeats 4000000 in
set_option maxRecDepth 100000 in
theorem kX0_settle_c88 {p : Program} {l : Launch} {e : Env} {s : State} {m : MethodId} {args : Array Value} {below : List Frame} {meth : Method} {c : Code} {g : GP} {qe : Nat} {qt : Nat} {qh : Nat} {qm : Nat} {qb : Nat} {qx : Nat} {ql : Nat} {qr : Nat} {qv : Nat} {qg : Nat} {be : Nat → Int32} {parts : Int32} {limit : Int32} {len : Nat → Int32}  {Q : (Nat → Int32) → Prop} {A : Nat → Prop} {K44 : Int32 → Int32 → Int32 → (Nat → Int32) → Prop} {K59 : Int32 → Int32 → Int32 → Int32 → (Nat → Int32) → Prop} (S : CallFix p m c cX0_settle 6 s args wsX0_settle RX0) (hr : meth.sig.returnType = none) (hlocks : meth.locks = false) (hG : GK g s) (hA : ∀ q : Nat, s.heap.size ≤ q → A q) (kk44 : ∀ (x1 : Int32) (x2 : Int32) (x3 : Int32) (E : Nat → Int32), K44 x1 x2 x3 E → ∀ (H : Heap) (locs : List Loc), va_P g.1 vwCl [(qe, .inr (0, [.ref qt, .ref qh, .ref qm, .ref qb, .ref qx, .int (E 5), .int (E 6), .int (E 7), .int (E 8), .int (E 9), .int (E 10), .int (E 11)])), (qb, .inl (g.2 0, 5, .inl be)), (qt, .inr (7, [.ref ql, .ref qr, .ref qv, .ref qg, .int parts, .int limit])), (ql, .inl (g.2 0, 5, .inl len))] H → va_D A [(qe, .inr (0, [.ref qt, .ref qh, .ref qm, .ref qb, .ref qx, .int (E 5), .int (E 6), .int (E 7), .int (E 8), .int (E 9), .int (E 10), .int (E 11)])), (qb, .inl (g.2 0, 5, .inl be)), (qt, .inr (7, [.ref ql, .ref qr, .ref qv, .ref qg, .int parts, .int limit])), (ql, .inl (g.2 0, 5, .inl len))] → va_S A s.heap H locs → ∀ (ls : Array Slot), lv_has ls 6 [(0, .ref qe), (1, .int x1), (2, .int x2), (3, .int x3)] → W p l e (headSpec wsX0_settle rmX0_settle).room s m args below meth c H locs 0 0 (MQ below (va_Qv (fun (u : (Nat → Int32)) => Q u) (fun (u : (Nat → Int32)) t => va_P g.1 vwCl [(qe, .inr (0, [.ref qt, .ref qh, .ref qm, .ref qb, .ref qx, .int (u 5), .int (u 6), .int (u 7), .int (u 8), .int (u 9), .int (u 10), .int (u 11)])), (qb, .inl (g.2 0, 5, .inl be)), (qt, .inr (7, [.ref ql, .ref qr, .ref qv, .ref qg, .int parts, .int limit])), (ql, .inl (g.2 0, 5, .inl len))] t.heap ∧ va_D A [(qe, .inr (0, [.ref qt, .ref qh, .ref qm, .ref qb, .ref qx, .int (u 5), .int (u 6), .int (u 7), .int (u 8), .int (u 9), .int (u 10), .int (u 11)])), (qb, .inl (g.2 0, 5, .inl be)), (qt, .inr (7, [.ref ql, .ref qr, .ref qv, .ref qg, .int parts, .int limit])), (ql, .inl (g.2 0, 5, .inl len))]) A) args s 0 0 A) (F0 m 44 ls [])) (kk59 : ∀ (x1 : Int32) (x2 : Int32) (x3 : Int32) (x4 : Int32) (E : Nat → Int32), K59 x1 x2 x3 x4 E → ∀ (H : Heap) (locs : List Loc), va_P g.1 vwCl [(qe, .inr (0, [.ref qt, .ref qh, .ref qm, .ref qb, .ref qx, .int (E 5), .int (E 6), .int (E 7), .int (E 8), .int (E 9), .int (E 10), .int (E 11)])), (qb, .inl (g.2 0, 5, .inl be)), (qt, .inr (7, [.ref ql, .ref qr, .ref qv, .ref qg, .int parts, .int limit])), (ql, .inl (g.2 0, 5, .inl len))] H → va_D A [(qe, .inr (0, [.ref qt, .ref qh, .ref qm, .ref qb, .ref qx, .int (E 5), .int (E 6), .int (E 7), .int (E 8), .int (E 9), .int (E 10), .int (E 11)])), (qb, .inl (g.2 0, 5, .inl be)), (qt, .inr (7, [.ref ql, .ref qr, .ref qv, .ref qg, .int parts, .int limit])), (ql, .inl (g.2 0, 5, .inl len))] → va_S A s.heap H locs → ∀ (ls : Array Slot), lv_has ls 6 [(0, .ref qe), (1, .int x1), (2, .int x2), (3, .int x3), (4, .int x4)] → W p l e (headSpec wsX0_settle rmX0_settle).room s m args below meth c H locs 0 0 (MQ below (va_Qv (fun (u : (Nat → Int32)) => Q u) (fun (u : (Nat → Int32)) t => va_P g.1 vwCl [(qe, .inr (0, [.ref qt, .ref qh, .ref qm, .ref qb, .ref qx, .int (u 5), .int (u 6), .int (u 7), .int (u 8), .int (u 9), .int (u 10), .int (u 11)])), (qb, .inl (g.2 0, 5, .inl be)), (qt, .inr (7, [.ref ql, .ref qr, .ref qv, .ref qg, .int parts, .int limit])), (ql, .inl (g.2 0, 5, .inl len))] t.heap ∧ va_D A [(qe, .inr (0, [.ref qt, .ref qh, .ref qm, .ref qb, .ref qx, .int (u 5), .int (u 6), .int (u 7), .int (u 8), .int (u 9), .int (u 10), .int (u 11)])), (qb, .inl (g.2 0, 5, .inl be)), (qt, .inr (7, [.ref ql, .ref qr, .ref qv, .ref qg, .int parts, .int limit])), (ql, .inl (g.2 0, 5, .inl len))]) A) args s 0 0 A) (F0 m 59 ls [])) : ∀ (x1 : Int32) (x2 : Int32) (x3 : Int32) (x4 : Int32) (s0 : Int32) (E : Nat → Int32), vX0_settle_c88 be parts limit len Q K44 K59 x1 x2 x3 x4 s0 E → ∀ (H : Heap) (locs : List Loc), va_P g.1 vwCl [(qe, .inr (0, [.ref qt, .ref qh, .ref qm, .ref qb, .ref qx, .int (E 5), .int (E 6), .int (E 7), .int (E 8), .int (E 9), .int (E 10), .int (E 11)])), (qb, .inl (g.2 0, 5, .inl be)), (qt, .inr (7, [.ref ql, .ref qr, .ref qv, .ref qg, .int parts, .int limit])), (ql, .inl (g.2 0, 5, .inl len))] H → va_D A [(qe, .inr (0, [.ref qt, .ref qh, .ref qm, .ref qb, .ref qx, .int (E 5), .int (E 6), .int (E 7), .int (E 8), .int (E 9), .int (E 10), .int (E 11)])), (qb, .inl (g.2 0, 5, .inl be)), (qt, .inr (7, [.ref ql, .ref qr, .ref qv, .ref qg, .int parts, .int limit])), (ql, .inl (g.2 0, 5, .inl len))] → va_S A s.heap H locs → ∀ (ls : Array Slot), lv_has ls 6 [(0, .ref qe), (1, .int x1), (2, .int x2), (3, .int x3), (4, .int x4)] → W p l e (headSpec wsX0_settle rmX0_settle).room s m args below meth c H locs 0 0 (MQ below (va_Qv (fun (u : (Nat → Int32)) => Q u) (fun (u : (Nat → Int32)) t => va_P g.1 vwCl [(qe, .inr (0, [.ref qt, .ref qh, .ref qm, .ref qb, .ref qx, .int (u 5), .int (u 6), .int (u 7), .int (u 8), .int (u 9), .int (u 10), .int (u 11)])), (qb, .inl (g.2 0, 5, .inl be)), (qt, .inr (7, [.ref ql, .ref qr, .ref qv, .ref qg, .int parts, .int limit])), (ql, .inl (g.2 0, 5, .inl len))] t.heap ∧ va_D A [(qe, .inr (0, [.ref qt, .ref qh, .ref qm, .ref qb, .ref qx, .int (u 5), .int (u 6), .int (u 7), .int (u 8), .int (u 9), .int (u 10), .int (u 11)])), (qb, .inl (g.2 0, 5, .inl be)), (qt, .inr (7, [.ref ql, .ref qr, .ref qv, .ref qg, .int parts, .int limit])), (ql, .inl (g.2 0, 5, .inl len))]) A) args s 0 0 A) (F0 m 88 ls [.int s0]) := by
  obtain ⟨hx, hb, hml, hown, hts⟩ := id S
  have hK := hG.1
  intro x1 x2 x3 x4 s0 E hv H locs hP hD hS ls hl
  unfold vX0_settle_c88 at hv
  refine lv_istore (lv' := [(5, .int s0), (0, .ref qe), (1, .int x1), (2, .int x2), (3, .int x3), (4, .int x4)]) hx hb dX0_settle_88 hl (by decide) rfl (fun ls hl => ?_)
  refine lv_iload hx hb dX0_settle_90 (lv_at hl 0 rfl) ?_
  refine lv_iconst (v := (-1 : Int32)) hx hb dX0_settle_92 (by decide) ?_
  obtain ⟨hvt, hvf⟩ := hv
  refine lv_icmp_eq (tgt := 137) hx hb dX0_settle_93 (by decide) (fun hc => ?_) (fun hc => ?_)
  · have hv := hvt hc
    refine lv_iinc (v := (x4 + (1 : Int32))) (lv' := [(4, .int (x4 + (1 : Int32))), (5, .int s0), (0, .ref qe), (1, .int x1), (2, .int x2), (3, .int x3)]) hx hb dX0_settle_137 hl (k := 5) rfl rfl (by decide) rfl (fun ls hl => ?_)
    refine lv_goto (tgt := 59) hx hb dX0_settle_140 (by decide) ?_
    exact kk59 _ _ _ _ _ hv _ _ (hP.sub (ws' := [(qe, .inr (0, [.ref qt, .ref qh, .ref qm, .ref qb, .ref qx, .int (E 5), .int (E 6), .int (E 7), .int (E 8), .int (E 9), .int (E 10), .int (E 11)])), (qb, .inl (g.2 0, 5, .inl be)), (qt, .inr (7, [.ref ql, .ref qr, .ref qv, .ref qg, .int parts, .int limit])), (ql, .inl (g.2 0, 5, .inl len))]) [0, 1, 2, 3] rfl) (hD.sub (ws' := [(qe, .inr (0, [.ref qt, .ref qh, .ref qm, .ref qb, .ref qx, .int (E 5), .int (E 6), .int (E 7), .int (E 8), .int (E 9), .int (E 10), .int (E 11)])), (qb, .inl (g.2 0, 5, .inl be)), (qt, .inr (7, [.ref ql, .ref qr, .ref qv, .ref qg, .int parts, .int limit])), (ql, .inl (g.2 0, 5, .inl len))]) [0, 1, 2, 3] (by decide) rfl) hS ls (lv_sub hl [2, 3, 4, 5, 0] rfl)
  · have hv := hvf hc
    refine lv_iload hx hb dX0_settle_96 (lv_at hl 0 rfl) ?_
    refine lv_aload_n hx hb dX0_settle_98 rfl (lv_at hl 1 rfl) ?_
    refine va_get (D := g.1) (ci := 0) (v := .ref qt) (C := RX0) (T := TX0) (N := 12) hx hb hts inX0_settle_0 hown hK hP 0 rfl rfl 0 (by decide) (hts (.fieldLink RX0 26 "RangeCodes$Ear" "told" "LRangeCodes$Told;") (List.mem_of_getElem? (i := 5) rfl)) (fun _ h9 => h9) rfl dX0_settle_99 ?_
    refine va_get (D := g.1) (ci := 7) (v := .int limit) (C := RX7) (T := TX7) (N := 6) hx hb hts inX0_settle_7 hown hK hP 2 rfl rfl 5 (by decide) (hts (.fieldLink RX0 168 "RangeCodes$Told" "limit" "I") (List.mem_of_getElem? (i := 11) rfl)) (fun _ h9 => h9) rfl dX0_settle_102 ?_
    obtain ⟨hvt, hvf⟩ := hv
    refine lv_icmp_ge (tgt := 137) hx hb dX0_settle_105 (by decide) (fun hc => ?_) (fun hc => ?_)
    · have hv := hvt hc
      refine lv_iinc (v := (x4 + (1 : Int32))) (lv' := [(4, .int (x4 + (1 : Int32))), (5, .int s0), (0, .ref qe), (1, .int x1), (2, .int x2), (3, .int x3)]) hx hb dX0_settle_137 hl (k := 5) rfl rfl (by decide) rfl (fun ls hl => ?_)
      refine lv_goto (tgt := 59) hx hb dX0_settle_140 (by decide) ?_
      exact kk59 _ _ _ _ _ hv _ _ (hP.sub (ws' := [(qe, .inr (0, [.ref qt, .ref qh, .ref qm, .ref qb, .ref qx, .int (E 5), .int (E 6), .int (E 7), .int (E 8), .int (E 9), .int (E 10), .int (E 11)])), (qb, .inl (g.2 0, 5, .inl be)), (qt, .inr (7, [.ref ql, .ref qr, .ref qv, .ref qg, .int parts, .int limit])), (ql, .inl (g.2 0, 5, .inl len))]) [0, 1, 2, 3] rfl) (hD.sub (ws' := [(qe, .inr (0, [.ref qt, .ref qh, .ref qm, .ref qb, .ref qx, .int (E 5), .int (E 6), .int (E 7), .int (E 8), .int (E 9), .int (E 10), .int (E 11)])), (qb, .inl (g.2 0, 5, .inl be)), (qt, .inr (7, [.ref ql, .ref qr, .ref qv, .ref qg, .int parts, .int limit])), (ql, .inl (g.2 0, 5, .inl len))]) [0, 1, 2, 3] (by decide) rfl) hS ls (lv_sub hl [2, 3, 4, 5, 0] rfl)
    · have hv := hvf hc
      refine lv_aload_n hx hb dX0_settle_108 rfl (lv_at hl 1 rfl) ?_
      refine va_get (D := g.1) (ci := 0) (v := .int (E 11)) (C := RX0) (T := TX0) (N := 12) hx hb hts inX0_settle_0 hown hK hP 0 rfl rfl 11 (by decide) (hts (.fieldLink RX0 148 "RangeCodes$Ear" "sets" "I") (List.mem_of_getElem? (i := 4) rfl)) (fun _ h9 => h9) rfl dX0_settle_109 ?_
      obtain ⟨hvt, hvf⟩ := hv
      refine lv_if_ne (tgt := 127) hx hb dX0_settle_112 (by decide) (fun hc => ?_) (fun hc => ?_)
      · have hv := hvt hc
        exact kX0_settle_c127 S hr hlocks hG hA kk44 kk59 _ _ _ _ _ hv _ _ (hP.sub (ws' := [(qe, .inr (0, [.ref qt, .ref qh, .ref qm, .ref qb, .ref qx, .int (E 5), .int (E 6), .int (E 7), .int (E 8), .int (E 9), .int (E 10), .int (E 11)])), (qb, .inl (g.2 0, 5, .inl be)), (qt, .inr (7, [.ref ql, .ref qr, .ref qv, .ref qg, .int parts, .int limit])), (ql, .inl (g.2 0, 5, .inl len))]) [0, 1, 2, 3] rfl) (hD.sub (ws' := [(qe, .inr (0, [.ref qt, .ref qh, .ref qm, .ref qb, .ref qx, .int (E 5), .int (E 6), .int (E 7), .int (E 8), .int (E 9), .int (E 10), .int (E 11)])), (qb, .inl (g.2 0, 5, .inl be)), (qt, .inr (7, [.ref ql, .ref qr, .ref qv, .ref qg, .int parts, .int limit])), (ql, .inl (g.2 0, 5, .inl len))]) [0, 1, 2, 3] (by decide) rfl) hS ls (lv_sub hl [1, 2, 3, 4, 5] rfl)
      · have hv := hvf hc
        refine lv_aload_n hx hb dX0_settle_115 rfl (lv_at hl 1 rfl) ?_
        refine lv_iload hx hb dX0_settle_116 (lv_at hl 0 rfl) ?_
        refine va_put (D := g.1) (ci := 0) (v := .int s0) (ty := .int) (C := RX0) (T := TX0) (N := 12) hx hb hts inX0_settle_0 tyX0 tyX0_ok nmX0 hown hK hP hD hS 0 rfl rfl 8 (by decide) (hts (.fieldLink RX0 57 "RangeCodes$Ear" "distance" "I") (List.mem_of_getElem? (i := 1) rfl)) (fun _ h9 => h9) rfl (by decide +kernel) rfl rfl (Nat.le_of_ble_eq_true rfl) dX0_settle_118 (fun H locs hP hD hS => ?_)
        have hP : va_P g.1 vwCl [(qe, .inr (0, [.ref qt, .ref qh, .ref qm, .ref qb, .ref qx, .int (E 5), .int (E 6), .int (E 7), .int s0, .int (E 9), .int (E 10), .int (E 11)])), (qb, .inl (g.2 0, 5, .inl be)), (qt, .inr (7, [.ref ql, .ref qr, .ref qv, .ref qg, .int parts, .int limit])), (ql, .inl (g.2 0, 5, .inl len))] H := hP
        have hD : va_D A [(qe, .inr (0, [.ref qt, .ref qh, .ref qm, .ref qb, .ref qx, .int (E 5), .int (E 6), .int (E 7), .int s0, .int (E 9), .int (E 10), .int (E 11)])), (qb, .inl (g.2 0, 5, .inl be)), (qt, .inr (7, [.ref ql, .ref qr, .ref qv, .ref qg, .int parts, .int limit])), (ql, .inl (g.2 0, 5, .inl len))] := hD
        refine lv_aload_n hx hb dX0_settle_121 rfl (lv_at hl 1 rfl) ?_
        refine lv_iload hx hb dX0_settle_122 (lv_at hl 5 rfl) ?_
        refine va_put (D := g.1) (ci := 0) (v := .int x4) (ty := .int) (C := RX0) (T := TX0) (N := 12) hx hb hts inX0_settle_0 tyX0 tyX0_ok nmX0 hown hK hP hD hS 0 rfl rfl 9 (by decide) (hts (.fieldLink RX0 142 "RangeCodes$Ear" "wrong" "I") (List.mem_of_getElem? (i := 2) rfl)) (fun _ h9 => h9) rfl (by decide +kernel) rfl rfl (Nat.le_of_ble_eq_true rfl) dX0_settle_124 (fun H locs hP hD hS => ?_)
        have hP : va_P g.1 vwCl [(qe, .inr (0, [.ref qt, .ref qh, .ref qm, .ref qb, .ref qx, .int (E 5), .int (E 6), .int (E 7), .int s0, .int x4, .int (E 10), .int (E 11)])), (qb, .inl (g.2 0, 5, .inl be)), (qt, .inr (7, [.ref ql, .ref qr, .ref qv, .ref qg, .int parts, .int limit])), (ql, .inl (g.2 0, 5, .inl len))] H := hP
        have hD : va_D A [(qe, .inr (0, [.ref qt, .ref qh, .ref qm, .ref qb, .ref qx, .int (E 5), .int (E 6), .int (E 7), .int s0, .int x4, .int (E 10), .int (E 11)])), (qb, .inl (g.2 0, 5, .inl be)), (qt, .inr (7, [.ref ql, .ref qr, .ref qv, .ref qg, .int parts, .int limit])), (ql, .inl (g.2 0, 5, .inl len))] := hD
        exact kX0_settle_c127 S hr hlocks hG hA kk44 kk59 _ _ _ _ _ hv _ _ (hP.sub (ws' := [(qe, .inr (0, [.ref qt, .ref qh, .ref qm, .ref qb, .ref qx, .int ((upd (upd E 8 s0) 9 x4) 5), .int ((upd (upd E 8 s0) 9 x4) 6), .int ((upd (upd E 8 s0) 9 x4) 7), .int ((upd (upd E 8 s0) 9 x4) 8), .int ((upd (upd E 8 s0) 9 x4) 9), .int ((upd (upd E 8 s0) 9 x4) 10), .int ((upd (upd E 8 s0) 9 x4) 11)])), (qb, .inl (g.2 0, 5, .inl be)), (qt, .inr (7, [.ref ql, .ref qr, .ref qv, .ref qg, .int parts, .int limit])), (ql, .inl (g.2 0, 5, .inl len))]) [0, 1, 2, 3] rfl) (hD.sub (ws' := [(qe, .inr (0, [.ref qt, .ref qh, .ref qm, .ref qb, .ref qx, .int ((upd (upd E 8 s0) 9 x4) 5), .int ((upd (upd E 8 s0) 9 x4) 6), .int ((upd (upd E 8 s0) 9 x4) 7), .int ((upd (upd E 8 s0) 9 x4) 8), .int ((upd (upd E 8 s0) 9 x4) 9), .int ((upd (upd E 8 s0) 9 x4) 10), .int ((upd (upd E 8 s0) 9 x4) 11)])), (qb, .inl (g.2 0, 5, .inl be)), (qt, .inr (7, [.ref ql, .ref qr, .ref qv, .ref qg, .int parts, .int limit])), (ql, .inl (g.2 0, 5, .inl len))]) [0, 1, 2, 3] (by decide) rfl) hS ls (lv_sub hl [1, 2, 3, 4, 5] rfl)
def vX0_settle_c59 (be : Nat → Int32) (parts : Int32) (limit : Int32) (len : Nat → Int32) (Q : (Nat → Int32) → Prop) (K44 : Int32 → Int32 → Int32 → (Nat → Int32) → Prop) : Nat → Int32 → Int32 → Int32 → Int32 → (Nat → Int32) → Prop
  | 0, _, _, _, _, _ => False
  | n + 1, x1, x2, x3, x4, E => ((x1 < x4 → (K44 x1 x2 (x3 + (1 : Int32)) E)) ∧ (¬ x1 < x4 → (∃ (s_67 : Nat), preJ6_bitCount_0f7a4 s_67 x4 ∧ (∀ r_67 : Int32, postJ6_bitCount_0f7a4 s_67 x4 r_67 → ((¬ r_67 = x3 → (vX0_settle_c88 be parts limit len Q K44 (vX0_settle_c59 be parts limit len Q K44 n) x1 x2 x3 x4 (-1 : Int32) E)) ∧ (r_67 = x3 → (∃ (T_81 : Cd) (b_81 : Nat → Nat) (s_81 : Nat), preX0_join T_81 b_81 s_81 E be parts limit len (x1 &&& (x4 ^^^ (-1 : Int32))) ∧ (∀ r_81 : Int32, postX0_join T_81 b_81 s_81 E be parts limit len (x1 &&& (x4 ^^^ (-1 : Int32))) r_81 → (vX0_settle_c88 be parts limit len Q K44 (vX0_settle_c59 be parts limit len Q K44 n) x1 x2 x3 x4 r_81 E)))))))))
set_option maxHeartbeats 4000000 in
set_option maxRecDepth 100000 in
theorem kX0_settle_c59 {p : Program} {l : Launch} {e : Env} {s : State} {m : MethodId} {args : Array Value} {below : List Frame} {meth : Method} {c : Code} {g : GP} {qe : Nat} {qt : Nat} {qh : Nat} {qm : Nat} {qb : Nat} {qx : Nat} {ql : Nat} {qr : Nat} {qv : Nat} {qg : Nat} {be : Nat → Int32} {parts : Int32} {limit : Int32} {len : Nat → Int32}  {Q : (Nat → Int32) → Prop} {A : Nat → Prop} {K44 : Int32 → Int32 → Int32 → (Nat → Int32) → Prop} (S : CallFix p m c cX0_settle 6 s args wsX0_settle RX0) (hr : meth.sig.returnType = none) (hlocks : meth.locks = false) (hG : GK g s) (hA : ∀ q : Nat, s.heap.size ≤ q → A q) (kk44 : ∀ (x1 : Int32) (x2 : Int32) (x3 : Int32) (E : Nat → Int32), K44 x1 x2 x3 E → ∀ (H : Heap) (locs : List Loc), va_P g.1 vwCl [(qe, .inr (0, [.ref qt, .ref qh, .ref qm, .ref qb, .ref qx, .int (E 5), .int (E 6), .int (E 7), .int (E 8), .int (E 9), .int (E 10), .int (E 11)])), (qb, .inl (g.2 0, 5, .inl be)), (qt, .inr (7, [.ref ql, .ref qr, .ref qv, .ref qg, .int parts, .int limit])), (ql, .inl (g.2 0, 5, .inl len))] H → va_D A [(qe, .inr (0, [.ref qt, .ref qh, .ref qm, .ref qb, .ref qx, .int (E 5), .int (E 6), .int (E 7), .int (E 8), .int (E 9), .int (E 10), .int (E 11)])), (qb, .inl (g.2 0, 5, .inl be)), (qt, .inr (7, [.ref ql, .ref qr, .ref qv, .ref qg, .int parts, .int limit])), (ql, .inl (g.2 0, 5, .inl len))] → va_S A s.heap H locs → ∀ (ls : Array Slot), lv_has ls 6 [(0, .ref qe), (1, .int x1), (2, .int x2), (3, .int x3)] → W p l e (headSpec wsX0_settle rmX0_settle).room s m args below meth c H locs 0 0 (MQ below (va_Qv (fun (u : (Nat → Int32)) => Q u) (fun (u : (Nat → Int32)) t => va_P g.1 vwCl [(qe, .inr (0, [.ref qt, .ref qh, .ref qm, .ref qb, .ref qx, .int (u 5), .int (u 6), .int (u 7), .int (u 8), .int (u 9), .int (u 10), .int (u 11)])), (qb, .inl (g.2 0, 5, .inl be)), (qt, .inr (7, [.ref ql, .ref qr, .ref qv, .ref qg, .int parts, .int limit])), (ql, .inl (g.2 0, 5, .inl len))] t.heap ∧ va_D A [(qe, .inr (0, [.ref qt, .ref qh, .ref qm, .ref qb, .ref qx, .int (u 5), .int (u 6), .int (u 7), .int (u 8), .int (u 9), .int (u 10), .int (u 11)])), (qb, .inl (g.2 0, 5, .inl be)), (qt, .inr (7, [.ref ql, .ref qr, .ref qv, .ref qg, .int parts, .int limit])), (ql, .inl (g.2 0, 5, .inl len))]) A) args s 0 0 A) (F0 m 44 ls [])) : ∀ (n : Nat), ∀ (x1 : Int32) (x2 : Int32) (x3 : Int32) (x4 : Int32) (E : Nat → Int32), vX0_settle_c59 be parts limit len Q K44 n x1 x2 x3 x4 E → ∀ (H : Heap) (locs : List Loc), va_P g.1 vwCl [(qe, .inr (0, [.ref qt, .ref qh, .ref qm, .ref qb, .ref qx, .int (E 5), .int (E 6), .int (E 7), .int (E 8), .int (E 9), .int (E 10), .int (E 11)])), (qb, .inl (g.2 0, 5, .inl be)), (qt, .inr (7, [.ref ql, .ref qr, .ref qv, .ref qg, .int parts, .int limit])), (ql, .inl (g.2 0, 5, .inl len))] H → va_D A [(qe, .inr (0, [.ref qt, .ref qh, .ref qm, .ref qb, .ref qx, .int (E 5), .int (E 6), .int (E 7), .int (E 8), .int (E 9), .int (E 10), .int (E 11)])), (qb, .inl (g.2 0, 5, .inl be)), (qt, .inr (7, [.ref ql, .ref qr, .ref qv, .ref qg, .int parts, .int limit])), (ql, .inl (g.2 0, 5, .inl len))] → va_S A s.heap H locs → ∀ (ls : Array Slot), lv_has ls 6 [(0, .ref qe), (1, .int x1), (2, .int x2), (3, .int x3), (4, .int x4)] → W p l e (headSpec wsX0_settle rmX0_settle).room s m args below meth c H locs 0 0 (MQ below (va_Qv (fun (u : (Nat → Int32)) => Q u) (fun (u : (Nat → Int32)) t => va_P g.1 vwCl [(qe, .inr (0, [.ref qt, .ref qh, .ref qm, .ref qb, .ref qx, .int (u 5), .int (u 6), .int (u 7), .int (u 8), .int (u 9), .int (u 10), .int (u 11)])), (qb, .inl (g.2 0, 5, .inl be)), (qt, .inr (7, [.ref ql, .ref qr, .ref qv, .ref qg, .int parts, .int limit])), (ql, .inl (g.2 0, 5, .inl len))] t.heap ∧ va_D A [(qe, .inr (0, [.ref qt, .ref qh, .ref qm, .ref qb, .ref qx, .int (u 5), .int (u 6), .int (u 7), .int (u 8), .int (u 9), .int (u 10), .int (u 11)])), (qb, .inl (g.2 0, 5, .inl be)), (qt, .inr (7, [.ref ql, .ref qr, .ref qv, .ref qg, .int parts, .int limit])), (ql, .inl (g.2 0, 5, .inl len))]) A) args s 0 0 A) (F0 m 59 ls []) := by
  obtain ⟨hx, hb, hml, hown, hts⟩ := id S
  have hK := hG.1
  intro n
  induction n with
  | zero => intro x1 x2 x3 x4 E hv; exact hv.elim
  | succ n ih =>
    intro x1 x2 x3 x4 E hv H locs hP hD hS ls hl
    refine lv_iload hx hb dX0_settle_59 (lv_at hl 4 rfl) ?_
    refine lv_iload_n hx hb dX0_settle_61 rfl (lv_at hl 1 rfl) ?_
    obtain ⟨hvt, hvf⟩ := hv
    refine lv_icmp_gt (tgt := 143) hx hb dX0_settle_62 (by decide) (fun hc => ?_) (fun hc => ?_)
    · have hv := hvt hc
      refine lv_iinc (v := (x3 + (1 : Int32))) (lv' := [(3, .int (x3 + (1 : Int32))), (0, .ref qe), (1, .int x1), (2, .int x2), (4, .int x4)]) hx hb dX0_settle_143 hl (k := 3) rfl rfl (by decide) rfl (fun ls hl => ?_)
      refine lv_goto (tgt := 44) hx hb dX0_settle_146 (by decide) ?_
      exact kk44 _ _ _ _ hv _ _ (hP.sub (ws' := [(qe, .inr (0, [.ref qt, .ref qh, .ref qm, .ref qb, .ref qx, .int (E 5), .int (E 6), .int (E 7), .int (E 8), .int (E 9), .int (E 10), .int (E 11)])), (qb, .inl (g.2 0, 5, .inl be)), (qt, .inr (7, [.ref ql, .ref qr, .ref qv, .ref qg, .int parts, .int limit])), (ql, .inl (g.2 0, 5, .inl len))]) [0, 1, 2, 3] rfl) (hD.sub (ws' := [(qe, .inr (0, [.ref qt, .ref qh, .ref qm, .ref qb, .ref qx, .int (E 5), .int (E 6), .int (E 7), .int (E 8), .int (E 9), .int (E 10), .int (E 11)])), (qb, .inl (g.2 0, 5, .inl be)), (qt, .inr (7, [.ref ql, .ref qr, .ref qv, .ref qg, .int parts, .int limit])), (ql, .inl (g.2 0, 5, .inl len))]) [0, 1, 2, 3] (by decide) rfl) hS ls (lv_sub hl [1, 2, 3, 0] rfl)
    · have hv := hvf hc
      refine lv_iload hx hb dX0_settle_65 (lv_at hl 4 rfl) ?_
      obtain ⟨s_67, ho_1, hv⟩ := hv
      refine vp_callSi (W.runS (As := [.int x4]) (rest := []) S (wJ6_bitCount_0f7a4 l g x4 (sJ6_bitCount_0f7a4 s_67 x4 ho_1)) (va_cwS 1 hts gX0_settle_J6_bitCount_0f7a4 rfl rfl rfl (by decide +kernel) ⟨Nat.le_of_ble_eq_true rfl, Nat.le_of_ble_eq_true rfl⟩) ⟨blindRO, fun U hU hW => ⟨rfl, by rw [hU]; exact hP.sub (ws' := []) [] rfl, hG.warm hW⟩⟩ rfl rfl hl.1 rfl (lv_room (Nat.le_of_ble_eq_true rfl)) dX0_settle_67 ⟨Nat.le_of_ble_eq_true rfl, Nat.le_of_ble_eq_true rfl⟩) (fun r_67 hr_67 => ?_)
      have hv := hv r_67 hr_67
      refine lv_iload_n hx hb dX0_settle_70 rfl (lv_at hl 3 rfl) ?_
      obtain ⟨hvt, hvf⟩ := hv
      refine lv_icmp_ne (tgt := 87) hx hb dX0_settle_71 (by decide) (fun hc => ?_) (fun hc => ?_)
      · have hv := hvt hc
        refine lv_iconst (v := (-1 : Int32)) hx hb dX0_settle_87 (by decide) ?_
        exact kX0_settle_c88 S hr hlocks hG hA kk44 ih _ _ _ _ _ _ hv _ _ (hP.sub (ws' := [(qe, .inr (0, [.ref qt, .ref qh, .ref qm, .ref qb, .ref qx, .int (E 5), .int (E 6), .int (E 7), .int (E 8), .int (E 9), .int (E 10), .int (E 11)])), (qb, .inl (g.2 0, 5, .inl be)), (qt, .inr (7, [.ref ql, .ref qr, .ref qv, .ref qg, .int parts, .int limit])), (ql, .inl (g.2 0, 5, .inl len))]) [0, 1, 2, 3] rfl) (hD.sub (ws' := [(qe, .inr (0, [.ref qt, .ref qh, .ref qm, .ref qb, .ref qx, .int (E 5), .int (E 6), .int (E 7), .int (E 8), .int (E 9), .int (E 10), .int (E 11)])), (qb, .inl (g.2 0, 5, .inl be)), (qt, .inr (7, [.ref ql, .ref qr, .ref qv, .ref qg, .int parts, .int limit])), (ql, .inl (g.2 0, 5, .inl len))]) [0, 1, 2, 3] (by decide) rfl) hS ls (lv_sub hl [0, 1, 2, 3, 4] rfl)
      · have hv := hvf hc
        refine lv_aload_n hx hb dX0_settle_74 rfl (lv_at hl 0 rfl) ?_
        refine lv_iload_n hx hb dX0_settle_75 rfl (lv_at hl 1 rfl) ?_
        refine lv_iload hx hb dX0_settle_76 (lv_at hl 4 rfl) ?_
        refine lv_iconst (v := (-1 : Int32)) hx hb dX0_settle_78 (by decide) ?_
        refine lv_ixor hx hb dX0_settle_79 ?_
        refine lv_iand hx hb dX0_settle_80 ?_
        obtain ⟨T_81, b_81, s_81, ho_2, hv⟩ := hv
        refine vp_callSi (W.runV (As := [.int (x1 &&& (x4 ^^^ (-1 : Int32)))]) (rest := []) S (wX0_join l g qe qt qh qm qb qx ql qr qv qg E be parts limit len (x1 &&& (x4 ^^^ (-1 : Int32))) (sX0_join T_81 b_81 s_81 E be parts limit len (x1 &&& (x4 ^^^ (-1 : Int32))) ho_2)) (cwV 1 hts gX0_settle_X0_join rfl rfl rfl (by decide +kernel) ⟨Nat.le_of_ble_eq_true rfl, Nat.le_of_ble_eq_true rfl⟩) ⟨blindRO, va_recv hK hP (ci := 0) (q0 := 0) rfl rfl, fun U hU hW => ⟨rfl, by rw [hU]; exact hP.sub (ws' := [(qe, .inr (0, [.ref qt, .ref qh, .ref qm, .ref qb, .ref qx, .int (E 5), .int (E 6), .int (E 7), .int (E 8), .int (E 9), .int (E 10), .int (E 11)])), (qb, .inl (g.2 0, 5, .inl be)), (qt, .inr (7, [.ref ql, .ref qr, .ref qv, .ref qg, .int parts, .int limit])), (ql, .inl (g.2 0, 5, .inl len))]) [0, 1, 2, 3] rfl, hG.warm hW⟩⟩ rfl rfl hl.1 rfl (lv_room (Nat.le_of_ble_eq_true rfl)) dX0_settle_81 ⟨Nat.le_of_ble_eq_true rfl, Nat.le_of_ble_eq_true rfl⟩) (fun r_81 hr_81 => ?_)
        have hv := hv r_81 hr_81
        refine lv_goto (tgt := 88) hx hb dX0_settle_84 (by decide) ?_
        exact kX0_settle_c88 S hr hlocks hG hA kk44 ih _ _ _ _ _ _ hv _ _ (hP.sub (ws' := [(qe, .inr (0, [.ref qt, .ref qh, .ref qm, .ref qb, .ref qx, .int (E 5), .int (E 6), .int (E 7), .int (E 8), .int (E 9), .int (E 10), .int (E 11)])), (qb, .inl (g.2 0, 5, .inl be)), (qt, .inr (7, [.ref ql, .ref qr, .ref qv, .ref qg, .int parts, .int limit])), (ql, .inl (g.2 0, 5, .inl len))]) [0, 1, 2, 3] rfl) (hD.sub (ws' := [(qe, .inr (0, [.ref qt, .ref qh, .ref qm, .ref qb, .ref qx, .int (E 5), .int (E 6), .int (E 7), .int (E 8), .int (E 9), .int (E 10), .int (E 11)])), (qb, .inl (g.2 0, 5, .inl be)), (qt, .inr (7, [.ref ql, .ref qr, .ref qv, .ref qg, .int parts, .int limit])), (ql, .inl (g.2 0, 5, .inl len))]) [0, 1, 2, 3] (by decide) rfl) hS ls (lv_sub hl [0, 1, 2, 3, 4] rfl)
def vX0_settle_c44 (be : Nat → Int32) (parts : Int32) (limit : Int32) (len : Nat → Int32) (Q : (Nat → Int32) → Prop) : Nat → Int32 → Int32 → Int32 → (Nat → Int32) → Prop
  | 0, _, _, _, _ => False
  | n + 1, x1, x2, x3, E => ((x2 < x3 → (vX0_settle_c149 be parts limit len Q x1 E)) ∧ (¬ x2 < x3 → ((¬ (E 11) = 0 → (vX0_settle_c149 be parts limit len Q x1 E)) ∧ ((E 11) = 0 → (∃ nn, vX0_settle_c59 be parts limit len Q (vX0_settle_c44 be parts limit len Q n) nn x1 x2 x3 (0 : Int32) E)))))
set_option maxHeartbeats 4000000 in
set_option maxRecDepth 100000 in
theorem kX0_settle_c44 {p : Program} {l : Launch} {e : Env} {s : State} {m : MethodId} {args : Array Value} {below : List Frame} {meth : Method} {c : Code} {g : GP} {qe : Nat} {qt : Nat} {qh : Nat} {qm : Nat} {qb : Nat} {qx : Nat} {ql : Nat} {qr : Nat} {qv : Nat} {qg : Nat} {be : Nat → Int32} {parts : Int32} {limit : Int32} {len : Nat → Int32}  {Q : (Nat → Int32) → Prop} {A : Nat → Prop} (S : CallFix p m c cX0_settle 6 s args wsX0_settle RX0) (hr : meth.sig.returnType = none) (hlocks : meth.locks = false) (hG : GK g s) (hA : ∀ q : Nat, s.heap.size ≤ q → A q) : ∀ (n : Nat), ∀ (x1 : Int32) (x2 : Int32) (x3 : Int32) (E : Nat → Int32), vX0_settle_c44 be parts limit len Q n x1 x2 x3 E → ∀ (H : Heap) (locs : List Loc), va_P g.1 vwCl [(qe, .inr (0, [.ref qt, .ref qh, .ref qm, .ref qb, .ref qx, .int (E 5), .int (E 6), .int (E 7), .int (E 8), .int (E 9), .int (E 10), .int (E 11)])), (qb, .inl (g.2 0, 5, .inl be)), (qt, .inr (7, [.ref ql, .ref qr, .ref qv, .ref qg, .int parts, .int limit])), (ql, .inl (g.2 0, 5, .inl len))] H → va_D A [(qe, .inr (0, [.ref qt, .ref qh, .ref qm, .ref qb, .ref qx, .int (E 5), .int (E 6), .int (E 7), .int (E 8), .int (E 9), .int (E 10), .int (E 11)])), (qb, .inl (g.2 0, 5, .inl be)), (qt, .inr (7, [.ref ql, .ref qr, .ref qv, .ref qg, .int parts, .int limit])), (ql, .inl (g.2 0, 5, .inl len))] → va_S A s.heap H locs → ∀ (ls : Array Slot), lv_has ls 6 [(0, .ref qe), (1, .int x1), (2, .int x2), (3, .int x3)] → W p l e (headSpec wsX0_settle rmX0_settle).room s m args below meth c H locs 0 0 (MQ below (va_Qv (fun (u : (Nat → Int32)) => Q u) (fun (u : (Nat → Int32)) t => va_P g.1 vwCl [(qe, .inr (0, [.ref qt, .ref qh, .ref qm, .ref qb, .ref qx, .int (u 5), .int (u 6), .int (u 7), .int (u 8), .int (u 9), .int (u 10), .int (u 11)])), (qb, .inl (g.2 0, 5, .inl be)), (qt, .inr (7, [.ref ql, .ref qr, .ref qv, .ref qg, .int parts, .int limit])), (ql, .inl (g.2 0, 5, .inl len))] t.heap ∧ va_D A [(qe, .inr (0, [.ref qt, .ref qh, .ref qm, .ref qb, .ref qx, .int (u 5), .int (u 6), .int (u 7), .int (u 8), .int (u 9), .int (u 10), .int (u 11)])), (qb, .inl (g.2 0, 5, .inl be)), (qt, .inr (7, [.ref ql, .ref qr, .ref qv, .ref qg, .int parts, .int limit])), (ql, .inl (g.2 0, 5, .inl len))]) A) args s 0 0 A) (F0 m 44 ls []) := by
  obtain ⟨hx, hb, hml, hown, hts⟩ := id S
  have hK := hG.1
  intro n
  induction n with
  | zero => intro x1 x2 x3 E hv; exact hv.elim
  | succ n ih =>
    intro x1 x2 x3 E hv H locs hP hD hS ls hl
    refine lv_iload_n hx hb dX0_settle_44 rfl (lv_at hl 3 rfl) ?_
    refine lv_iload_n hx hb dX0_settle_45 rfl (lv_at hl 2 rfl) ?_
    obtain ⟨hvt, hvf⟩ := hv
    refine lv_icmp_gt (tgt := 149) hx hb dX0_settle_46 (by decide) (fun hc => ?_) (fun hc => ?_)
    · have hv := hvt hc
      exact kX0_settle_c149 S hr hlocks hG hA _ _ hv _ _ (hP.sub (ws' := [(qe, .inr (0, [.ref qt, .ref qh, .ref qm, .ref qb, .ref qx, .int (E 5), .int (E 6), .int (E 7), .int (E 8), .int (E 9), .int (E 10), .int (E 11)])), (qb, .inl (g.2 0, 5, .inl be)), (qt, .inr (7, [.ref ql, .ref qr, .ref qv, .ref qg, .int parts, .int limit])), (ql, .inl (g.2 0, 5, .inl len))]) [0, 1, 2, 3] rfl) (hD.sub (ws' := [(qe, .inr (0, [.ref qt, .ref qh, .ref qm, .ref qb, .ref qx, .int (E 5), .int (E 6), .int (E 7), .int (E 8), .int (E 9), .int (E 10), .int (E 11)])), (qb, .inl (g.2 0, 5, .inl be)), (qt, .inr (7, [.ref ql, .ref qr, .ref qv, .ref qg, .int parts, .int limit])), (ql, .inl (g.2 0, 5, .inl len))]) [0, 1, 2, 3] (by decide) rfl) hS ls (lv_sub hl [0, 1] rfl)
    · have hv := hvf hc
      refine lv_aload_n hx hb dX0_settle_49 rfl (lv_at hl 0 rfl) ?_
      refine va_get (D := g.1) (ci := 0) (v := .int (E 11)) (C := RX0) (T := TX0) (N := 12) hx hb hts inX0_settle_0 hown hK hP 0 rfl rfl 11 (by decide) (hts (.fieldLink RX0 148 "RangeCodes$Ear" "sets" "I") (List.mem_of_getElem? (i := 4) rfl)) (fun _ h9 => h9) rfl dX0_settle_50 ?_
      obtain ⟨hvt, hvf⟩ := hv
      refine lv_if_ne (tgt := 149) hx hb dX0_settle_53 (by decide) (fun hc => ?_) (fun hc => ?_)
      · have hv := hvt hc
        exact kX0_settle_c149 S hr hlocks hG hA _ _ hv _ _ (hP.sub (ws' := [(qe, .inr (0, [.ref qt, .ref qh, .ref qm, .ref qb, .ref qx, .int (E 5), .int (E 6), .int (E 7), .int (E 8), .int (E 9), .int (E 10), .int (E 11)])), (qb, .inl (g.2 0, 5, .inl be)), (qt, .inr (7, [.ref ql, .ref qr, .ref qv, .ref qg, .int parts, .int limit])), (ql, .inl (g.2 0, 5, .inl len))]) [0, 1, 2, 3] rfl) (hD.sub (ws' := [(qe, .inr (0, [.ref qt, .ref qh, .ref qm, .ref qb, .ref qx, .int (E 5), .int (E 6), .int (E 7), .int (E 8), .int (E 9), .int (E 10), .int (E 11)])), (qb, .inl (g.2 0, 5, .inl be)), (qt, .inr (7, [.ref ql, .ref qr, .ref qv, .ref qg, .int parts, .int limit])), (ql, .inl (g.2 0, 5, .inl len))]) [0, 1, 2, 3] (by decide) rfl) hS ls (lv_sub hl [0, 1] rfl)
      · have hv := hvf hc
        refine lv_iconst (v := (0 : Int32)) hx hb dX0_settle_56 (by decide) ?_
        refine lv_istore (lv' := [(4, .int (0 : Int32)), (0, .ref qe), (1, .int x1), (2, .int x2), (3, .int x3)]) hx hb dX0_settle_57 hl (by decide) rfl (fun ls hl => ?_)
        obtain ⟨nn, hv⟩ := hv
        exact kX0_settle_c59 S hr hlocks hG hA ih nn _ _ _ _ _ hv _ _ (hP.sub (ws' := [(qe, .inr (0, [.ref qt, .ref qh, .ref qm, .ref qb, .ref qx, .int (E 5), .int (E 6), .int (E 7), .int (E 8), .int (E 9), .int (E 10), .int (E 11)])), (qb, .inl (g.2 0, 5, .inl be)), (qt, .inr (7, [.ref ql, .ref qr, .ref qv, .ref qg, .int parts, .int limit])), (ql, .inl (g.2 0, 5, .inl len))]) [0, 1, 2, 3] rfl) (hD.sub (ws' := [(qe, .inr (0, [.ref qt, .ref qh, .ref qm, .ref qb, .ref qx, .int (E 5), .int (E 6), .int (E 7), .int (E 8), .int (E 9), .int (E 10), .int (E 11)])), (qb, .inl (g.2 0, 5, .inl be)), (qt, .inr (7, [.ref ql, .ref qr, .ref qv, .ref qg, .int parts, .int limit])), (ql, .inl (g.2 0, 5, .inl len))]) [0, 1, 2, 3] (by decide) rfl) hS ls (lv_sub hl [1, 2, 3, 4, 0] rfl)
def vX0_settle (E : Nat → Int32) (be : Nat → Int32) (parts : Int32) (limit : Int32) (len : Nat → Int32) (Q : (Nat → Int32) → Prop) : Prop := (∃ (T_24 : Cd), preX7_allParts T_24 parts limit ∧ (∀ r_24 : Int32, postX7_allParts T_24 parts limit r_24 → (∀ y_41 : Int32, y_41 = (if (parts - (1 : Int32)) < (0 : Int32) then (0 : Int32) else (parts - (1 : Int32))) → (∃ nn, vX0_settle_c44 be parts limit len Q nn r_24 y_41 (0 : Int32) (upd (upd (upd (upd E 8 (-1 : Int32)) 9 (0 : Int32)) 10 (0 : Int32)) 11 (0 : Int32))))))
set_option maxHeartbeats 4000000 in
set_option maxRecDepth 100000 in
theorem wX0_settle (l : Launch) (g : GP) (qe : Nat) (qt : Nat) (qh : Nat) (qm : Nat) (qb : Nat) (qx : Nat) (ql : Nat) (qr : Nat) (qv : Nat) (qg : Nat) (sz : Nat) (E : Nat → Int32) (be : Nat → Int32) (parts : Int32) (limit : Int32) (len : Nat → Int32) {Q : (Nat → Int32) → Prop} (hv : vX0_settle E be parts limit len Q) : Met l yX0_settle wsX0_settle rmX0_settle (va_Pc [.ref qe] (fun U => U.heap.size = sz ∧ va_P g.1 vwCl [(qe, .inr (0, [.ref qt, .ref qh, .ref qm, .ref qb, .ref qx, .int (E 5), .int (E 6), .int (E 7), .int (E 8), .int (E 9), .int (E 10), .int (E 11)])), (qb, .inl (g.2 0, 5, .inl be)), (qt, .inr (7, [.ref ql, .ref qr, .ref qv, .ref qg, .int parts, .int limit])), (ql, .inl (g.2 0, 5, .inl len))] U.heap ∧ GK g U ∧ va_D (fun _ => True) [(qe, .inr (0, [.ref qt, .ref qh, .ref qm, .ref qb, .ref qx, .int (E 5), .int (E 6), .int (E 7), .int (E 8), .int (E 9), .int (E 10), .int (E 11)])), (qb, .inl (g.2 0, 5, .inl be)), (qt, .inr (7, [.ref ql, .ref qr, .ref qv, .ref qg, .int parts, .int limit])), (ql, .inl (g.2 0, 5, .inl len))])) (va_Qv (fun (u : (Nat → Int32)) => Q u) (fun (u : (Nat → Int32)) t => va_P g.1 vwCl [(qe, .inr (0, [.ref qt, .ref qh, .ref qm, .ref qb, .ref qx, .int (u 5), .int (u 6), .int (u 7), .int (u 8), .int (u 9), .int (u 10), .int (u 11)])), (qb, .inl (g.2 0, 5, .inl be)), (qt, .inr (7, [.ref ql, .ref qr, .ref qv, .ref qg, .int parts, .int limit])), (ql, .inl (g.2 0, 5, .inl len))] t.heap ∧ va_D (va_A [(qe, .inr (0, [.ref qt, .ref qh, .ref qm, .ref qb, .ref qx, .int (E 5), .int (E 6), .int (E 7), .int (E 8), .int (E 9), .int (E 10), .int (E 11)])), (qb, .inl (g.2 0, 5, .inl be)), (qt, .inr (7, [.ref ql, .ref qr, .ref qv, .ref qg, .int parts, .int limit])), (ql, .inl (g.2 0, 5, .inl len))] sz) [(qe, .inr (0, [.ref qt, .ref qh, .ref qm, .ref qb, .ref qx, .int (u 5), .int (u 6), .int (u 7), .int (u 8), .int (u 9), .int (u 10), .int (u 11)])), (qb, .inl (g.2 0, 5, .inl be)), (qt, .inr (7, [.ref ql, .ref qr, .ref qv, .ref qg, .int parts, .int limit])), (ql, .inl (g.2 0, 5, .inl len))]) (va_A [(qe, .inr (0, [.ref qt, .ref qh, .ref qm, .ref qb, .ref qx, .int (E 5), .int (E 6), .int (E 7), .int (E 8), .int (E 9), .int (E 10), .int (E 11)])), (qb, .inl (g.2 0, 5, .inl be)), (qt, .inr (7, [.ref ql, .ref qr, .ref qv, .ref qg, .int parts, .int limit])), (ql, .inl (g.2 0, 5, .inl len))] sz)) 0 0 (va_A [(qe, .inr (0, [.ref qt, .ref qh, .ref qm, .ref qb, .ref qx, .int (E 5), .int (E 6), .int (E 7), .int (E 8), .int (E 9), .int (E 10), .int (E 11)])), (qb, .inl (g.2 0, 5, .inl be)), (qt, .inr (7, [.ref ql, .ref qr, .ref qv, .ref qg, .int parts, .int limit])), (ql, .inl (g.2 0, 5, .inl len))] sz) := by
  refine Met.ofW (cc := cX0_settle) (maxL := 6) (ret := none) (by decide) rfl ?_
  intro p e s m args below meth c s₁ B hml hv'
  obtain ⟨rfl, hsz, hP, hG, hD0⟩ := hv'
  have S : CallFix p m c cX0_settle 6 s _ wsX0_settle RX0 := ⟨B.exec, B.bytes, hml, findClass_of_methodNamed B.named, atoms_spec (ws := wsX0_settle) B.pre⟩
  obtain ⟨hx, hb, hml, hown, hts⟩ := id S
  have hK := hG.1
  have hr := B.returns
  have hlocks := B.notSynchronized
  subst hsz
  have hD := hD0.self (sz := s.heap.size)
  generalize hAe : va_A [(qe, .inr (0, [.ref qt, .ref qh, .ref qm, .ref qb, .ref qx, .int (E 5), .int (E 6), .int (E 7), .int (E 8), .int (E 9), .int (E 10), .int (E 11)])), (qb, .inl (g.2 0, 5, .inl be)), (qt, .inr (7, [.ref ql, .ref qr, .ref qv, .ref qg, .int parts, .int limit])), (ql, .inl (g.2 0, 5, .inl len))] s.heap.size = A at hD ⊢
  have hA : ∀ q : Nat, s.heap.size ≤ q → A q := fun q h => by rw [← hAe]; exact Or.inr h
  have hS : va_S A s.heap s.heap [] := va_S.rf
  clear hD0 hAe
  have hl := lv_entry ([.ref qe]) (n := 6) (Nat.le_of_ble_eq_true rfl)
  rw [lg_entry_eq]
  generalize (lg_sl ([.ref qe]) ++ List.replicate (6 - (lg_sl ([.ref qe])).length) Slot.unset).toArray = ls at hl ⊢
  have hl : lv_has ls 6 [(0, .ref qe)] := hl
  unfold vX0_settle at hv
  refine lv_aload_n hx hb dX0_settle_0 rfl (lv_at hl 0 rfl) ?_
  refine lv_iconst (v := (-1 : Int32)) hx hb dX0_settle_1 (by decide) ?_
  refine va_put (D := g.1) (ci := 0) (v := .int (-1 : Int32)) (ty := .int) (C := RX0) (T := TX0) (N := 12) hx hb hts inX0_settle_0 tyX0 tyX0_ok nmX0 hown hK hP hD hS 0 rfl rfl 8 (by decide) (hts (.fieldLink RX0 57 "RangeCodes$Ear" "distance" "I") (List.mem_of_getElem? (i := 1) rfl)) (fun _ h9 => h9) rfl (by decide +kernel) rfl rfl (Nat.le_of_ble_eq_true rfl) dX0_settle_2 (fun H locs hP hD hS => ?_)
  have hP : va_P g.1 vwCl [(qe, .inr (0, [.ref qt, .ref qh, .ref qm, .ref qb, .ref qx, .int (E 5), .int (E 6), .int (E 7), .int (-1 : Int32), .int (E 9), .int (E 10), .int (E 11)])), (qb, .inl (g.2 0, 5, .inl be)), (qt, .inr (7, [.ref ql, .ref qr, .ref qv, .ref qg, .int parts, .int limit])), (ql, .inl (g.2 0, 5, .inl len))] H := hP
  have hD : va_D A [(qe, .inr (0, [.ref qt, .ref qh, .ref qm, .ref qb, .ref qx, .int (E 5), .int (E 6), .int (E 7), .int (-1 : Int32), .int (E 9), .int (E 10), .int (E 11)])), (qb, .inl (g.2 0, 5, .inl be)), (qt, .inr (7, [.ref ql, .ref qr, .ref qv, .ref qg, .int parts, .int limit])), (ql, .inl (g.2 0, 5, .inl len))] := hD
  refine lv_aload_n hx hb dX0_settle_5 rfl (lv_at hl 0 rfl) ?_
  refine lv_iconst (v := (0 : Int32)) hx hb dX0_settle_6 (by decide) ?_
  refine va_put (D := g.1) (ci := 0) (v := .int (0 : Int32)) (ty := .int) (C := RX0) (T := TX0) (N := 12) hx hb hts inX0_settle_0 tyX0 tyX0_ok nmX0 hown hK hP hD hS 0 rfl rfl 9 (by decide) (hts (.fieldLink RX0 142 "RangeCodes$Ear" "wrong" "I") (List.mem_of_getElem? (i := 2) rfl)) (fun _ h9 => h9) rfl (by decide +kernel) rfl rfl (Nat.le_of_ble_eq_true rfl) dX0_settle_7 (fun H locs hP hD hS => ?_)
  have hP : va_P g.1 vwCl [(qe, .inr (0, [.ref qt, .ref qh, .ref qm, .ref qb, .ref qx, .int (E 5), .int (E 6), .int (E 7), .int (-1 : Int32), .int (0 : Int32), .int (E 10), .int (E 11)])), (qb, .inl (g.2 0, 5, .inl be)), (qt, .inr (7, [.ref ql, .ref qr, .ref qv, .ref qg, .int parts, .int limit])), (ql, .inl (g.2 0, 5, .inl len))] H := hP
  have hD : va_D A [(qe, .inr (0, [.ref qt, .ref qh, .ref qm, .ref qb, .ref qx, .int (E 5), .int (E 6), .int (E 7), .int (-1 : Int32), .int (0 : Int32), .int (E 10), .int (E 11)])), (qb, .inl (g.2 0, 5, .inl be)), (qt, .inr (7, [.ref ql, .ref qr, .ref qv, .ref qg, .int parts, .int limit])), (ql, .inl (g.2 0, 5, .inl len))] := hD
  refine lv_aload_n hx hb dX0_settle_10 rfl (lv_at hl 0 rfl) ?_
  refine lv_iconst (v := (0 : Int32)) hx hb dX0_settle_11 (by decide) ?_
  refine va_put (D := g.1) (ci := 0) (v := .int (0 : Int32)) (ty := .int) (C := RX0) (T := TX0) (N := 12) hx hb hts inX0_settle_0 tyX0 tyX0_ok nmX0 hown hK hP hD hS 0 rfl rfl 10 (by decide) (hts (.fieldLink RX0 145 "RangeCodes$Ear" "step" "I") (List.mem_of_getElem? (i := 3) rfl)) (fun _ h9 => h9) rfl (by decide +kernel) rfl rfl (Nat.le_of_ble_eq_true rfl) dX0_settle_12 (fun H locs hP hD hS => ?_)
  have hP : va_P g.1 vwCl [(qe, .inr (0, [.ref qt, .ref qh, .ref qm, .ref qb, .ref qx, .int (E 5), .int (E 6), .int (E 7), .int (-1 : Int32), .int (0 : Int32), .int (0 : Int32), .int (E 11)])), (qb, .inl (g.2 0, 5, .inl be)), (qt, .inr (7, [.ref ql, .ref qr, .ref qv, .ref qg, .int parts, .int limit])), (ql, .inl (g.2 0, 5, .inl len))] H := hP
  have hD : va_D A [(qe, .inr (0, [.ref qt, .ref qh, .ref qm, .ref qb, .ref qx, .int (E 5), .int (E 6), .int (E 7), .int (-1 : Int32), .int (0 : Int32), .int (0 : Int32), .int (E 11)])), (qb, .inl (g.2 0, 5, .inl be)), (qt, .inr (7, [.ref ql, .ref qr, .ref qv, .ref qg, .int parts, .int limit])), (ql, .inl (g.2 0, 5, .inl len))] := hD
  refine lv_aload_n hx hb dX0_settle_15 rfl (lv_at hl 0 rfl) ?_
  refine lv_iconst (v := (0 : Int32)) hx hb dX0_settle_16 (by decide) ?_
  refine va_put (D := g.1) (ci := 0) (v := .int (0 : Int32)) (ty := .int) (C := RX0) (T := TX0) (N := 12) hx hb hts inX0_settle_0 tyX0 tyX0_ok nmX0 hown hK hP hD hS 0 rfl rfl 11 (by decide) (hts (.fieldLink RX0 148 "RangeCodes$Ear" "sets" "I") (List.mem_of_getElem? (i := 4) rfl)) (fun _ h9 => h9) rfl (by decide +kernel) rfl rfl (Nat.le_of_ble_eq_true rfl) dX0_settle_17 (fun H locs hP hD hS => ?_)
  have hP : va_P g.1 vwCl [(qe, .inr (0, [.ref qt, .ref qh, .ref qm, .ref qb, .ref qx, .int (E 5), .int (E 6), .int (E 7), .int (-1 : Int32), .int (0 : Int32), .int (0 : Int32), .int (0 : Int32)])), (qb, .inl (g.2 0, 5, .inl be)), (qt, .inr (7, [.ref ql, .ref qr, .ref qv, .ref qg, .int parts, .int limit])), (ql, .inl (g.2 0, 5, .inl len))] H := hP
  have hD : va_D A [(qe, .inr (0, [.ref qt, .ref qh, .ref qm, .ref qb, .ref qx, .int (E 5), .int (E 6), .int (E 7), .int (-1 : Int32), .int (0 : Int32), .int (0 : Int32), .int (0 : Int32)])), (qb, .inl (g.2 0, 5, .inl be)), (qt, .inr (7, [.ref ql, .ref qr, .ref qv, .ref qg, .int parts, .int limit])), (ql, .inl (g.2 0, 5, .inl len))] := hD
  refine lv_aload_n hx hb dX0_settle_20 rfl (lv_at hl 0 rfl) ?_
  refine va_get (D := g.1) (ci := 0) (v := .ref qt) (C := RX0) (T := TX0) (N := 12) hx hb hts inX0_settle_0 hown hK hP 0 rfl rfl 0 (by decide) (hts (.fieldLink RX0 26 "RangeCodes$Ear" "told" "LRangeCodes$Told;") (List.mem_of_getElem? (i := 5) rfl)) (fun _ h9 => h9) rfl dX0_settle_21 ?_
  obtain ⟨T_24, ho_1, hv⟩ := hv
  refine vp_callSi (W.runV (As := []) (rest := []) S (wX7_allParts l g qt ql qr qv qg parts limit (sX7_allParts T_24 parts limit ho_1)) (cwV 0 hts gX0_settle_X7_allParts rfl rfl rfl (by decide +kernel) ⟨Nat.le_of_ble_eq_true rfl, Nat.le_of_ble_eq_true rfl⟩) ⟨blindRO, va_recv hK hP (ci := 7) (q0 := 2) rfl rfl, fun U hU hW => ⟨rfl, by rw [hU]; exact hP.sub (ws' := [(qt, .inr (7, [.ref ql, .ref qr, .ref qv, .ref qg, .int parts, .int limit]))]) [2] rfl, hG.warm hW⟩⟩ rfl rfl hl.1 rfl (lv_room (Nat.le_of_ble_eq_true rfl)) dX0_settle_24 ⟨Nat.le_of_ble_eq_true rfl, Nat.le_of_ble_eq_true rfl⟩) (fun r_24 hr_24 => ?_)
  have hv := hv r_24 hr_24
  refine lv_istore_n (lv' := [(1, .int r_24), (0, .ref qe)]) hx hb dX0_settle_27 rfl hl (by decide) rfl (fun ls hl => ?_)
  refine lv_aload_n hx hb dX0_settle_28 rfl (lv_at hl 1 rfl) ?_
  refine va_get (D := g.1) (ci := 0) (v := .ref qt) (C := RX0) (T := TX0) (N := 12) hx hb hts inX0_settle_0 hown hK hP 0 rfl rfl 0 (by decide) (hts (.fieldLink RX0 26 "RangeCodes$Ear" "told" "LRangeCodes$Told;") (List.mem_of_getElem? (i := 5) rfl)) (fun _ h9 => h9) rfl dX0_settle_29 ?_
  refine va_get (D := g.1) (ci := 7) (v := .int parts) (C := RX7) (T := TX7) (N := 6) hx hb hts inX0_settle_7 hown hK hP 2 rfl rfl 4 (by decide) (hts (.fieldLink RX0 70 "RangeCodes$Told" "parts" "I") (List.mem_of_getElem? (i := 6) rfl)) (fun _ h9 => h9) rfl dX0_settle_32 ?_
  refine lv_iconst (v := (1 : Int32)) hx hb dX0_settle_35 (by decide) ?_
  refine lv_isub hx hb dX0_settle_36 ?_
  refine lv_iconst (v := (0 : Int32)) hx hb dX0_settle_37 (by decide) ?_
  refine va_mmax hx hb (by rw [hml]; exact hl.1.symm) hown (hts (.methodLink RX0 155 Lib.Math.max.name) (List.mem_of_getElem? (i := 7) rfl)) (hts (.static Lib.Math.max.name) (List.mem_of_getElem? (i := 8) rfl)) (hts (.initialized "java/lang/Math") (List.mem_of_getElem? (i := 9) rfl)) (hts (.code Lib.Math.max.name Lib.Math.max.code 2 (some .int)) (List.mem_of_getElem? (i := 10) rfl)) (Nat.le_of_ble_eq_true rfl) (Nat.le_of_ble_eq_true rfl) (Nat.zero_le _) (Nat.zero_le _) dX0_settle_38 ?_
  refine lv_topi (fun y_41 ey_41 => ?_)
  have hv := hv y_41 ey_41
  refine lv_istore_n (lv' := [(2, .int y_41), (1, .int r_24), (0, .ref qe)]) hx hb dX0_settle_41 rfl hl (by decide) rfl (fun ls hl => ?_)
  refine lv_iconst (v := (0 : Int32)) hx hb dX0_settle_42 (by decide) ?_
  refine lv_istore_n (lv' := [(3, .int (0 : Int32)), (2, .int y_41), (1, .int r_24), (0, .ref qe)]) hx hb dX0_settle_43 rfl hl (by decide) rfl (fun ls hl => ?_)
  obtain ⟨nn, hv⟩ := hv
  exact kX0_settle_c44 S hr hlocks hG hA nn _ _ _ _ hv _ _ (hP.sub (ws' := [(qe, .inr (0, [.ref qt, .ref qh, .ref qm, .ref qb, .ref qx, .int ((upd (upd (upd (upd E 8 (-1 : Int32)) 9 (0 : Int32)) 10 (0 : Int32)) 11 (0 : Int32)) 5), .int ((upd (upd (upd (upd E 8 (-1 : Int32)) 9 (0 : Int32)) 10 (0 : Int32)) 11 (0 : Int32)) 6), .int ((upd (upd (upd (upd E 8 (-1 : Int32)) 9 (0 : Int32)) 10 (0 : Int32)) 11 (0 : Int32)) 7), .int ((upd (upd (upd (upd E 8 (-1 : Int32)) 9 (0 : Int32)) 10 (0 : Int32)) 11 (0 : Int32)) 8), .int ((upd (upd (upd (upd E 8 (-1 : Int32)) 9 (0 : Int32)) 10 (0 : Int32)) 11 (0 : Int32)) 9), .int ((upd (upd (upd (upd E 8 (-1 : Int32)) 9 (0 : Int32)) 10 (0 : Int32)) 11 (0 : Int32)) 10), .int ((upd (upd (upd (upd E 8 (-1 : Int32)) 9 (0 : Int32)) 10 (0 : Int32)) 11 (0 : Int32)) 11)])), (qb, .inl (g.2 0, 5, .inl be)), (qt, .inr (7, [.ref ql, .ref qr, .ref qv, .ref qg, .int parts, .int limit])), (ql, .inl (g.2 0, 5, .inl len))]) [0, 1, 2, 3] rfl) (hD.sub (ws' := [(qe, .inr (0, [.ref qt, .ref qh, .ref qm, .ref qb, .ref qx, .int ((upd (upd (upd (upd E 8 (-1 : Int32)) 9 (0 : Int32)) 10 (0 : Int32)) 11 (0 : Int32)) 5), .int ((upd (upd (upd (upd E 8 (-1 : Int32)) 9 (0 : Int32)) 10 (0 : Int32)) 11 (0 : Int32)) 6), .int ((upd (upd (upd (upd E 8 (-1 : Int32)) 9 (0 : Int32)) 10 (0 : Int32)) 11 (0 : Int32)) 7), .int ((upd (upd (upd (upd E 8 (-1 : Int32)) 9 (0 : Int32)) 10 (0 : Int32)) 11 (0 : Int32)) 8), .int ((upd (upd (upd (upd E 8 (-1 : Int32)) 9 (0 : Int32)) 10 (0 : Int32)) 11 (0 : Int32)) 9), .int ((upd (upd (upd (upd E 8 (-1 : Int32)) 9 (0 : Int32)) 10 (0 : Int32)) 11 (0 : Int32)) 10), .int ((upd (upd (upd (upd E 8 (-1 : Int32)) 9 (0 : Int32)) 10 (0 : Int32)) 11 (0 : Int32)) 11)])), (qb, .inl (g.2 0, 5, .inl be)), (qt, .inr (7, [.ref ql, .ref qr, .ref qv, .ref qg, .int parts, .int limit])), (ql, .inl (g.2 0, 5, .inl len))]) [0, 1, 2, 3] (by decide) rfl) hS ls (lv_sub hl [3, 2, 1, 0] rfl)
abbrev preX0_settle (T : Cd) (b : Nat → Nat) (lim : Nat) (_ be : Nat → Int32) (parts limit : Int32) (len : Nat → Int32) : Prop := isN T parts ∧ isL T len ∧ isB T b be ∧ limit.toInt = (lim : Int)
def keepE (E E' : Nat → Int32) : Prop := ∀ k, k ≠ 8 → k ≠ 9 → k ≠ 10 → k ≠ 11 → E' k = E k
theorem keepE_u {E E' : Nat → Int32} (h : keepE E E') {k : Nat} (hk : k = 8 ∨ k = 9 ∨ k = 10 ∨ k = 11) (v : Int32) : keepE E (upd E' k v) := by
  intro j h1 h2 h3 h4
  unfold upd
  rw [if_neg (by omega)]
  exact h j h1 h2 h3 h4
abbrev postX0_settle (T : Cd) (b : Nat → Nat) (lim : Nat) (E _ : Nat → Int32) (_ _ : Int32) (_ : Nat → Int32) (E' : Nat → Int32) : Prop := isD T b lim (E' 8) (E' 9) (E' 10) (E' 11) ∧ keepE E E'
theorem sX0_settle_149 (T : Cd) (b : Nat → Nat) (lim : Nat) (E0 be : Nat → Int32) (parts limit : Int32) (len : Nat → Int32) (H : preX0_settle T b lim E0 be parts limit len) (x1 : Int32) (hx1 : x1.toInt = ((2 ^ cn T - 1 : Nat) : Int)) (E : Nat → Int32) (hk : keepE E0 E)
    (h : (hasD T b lim ∧ (∃ d, dsO T b lim = some d ∧ (E 8).toInt = (d : Int)) ∧ (E 9).toInt = (wrW T b lim : Int) ∧ (E 11).toInt = (fa_cnt (okW T b lim (fewW T b lim)) (2 ^ cn T) : Int)) ∨ (¬ hasD T b lim ∧ (E 8).toInt = -1 ∧ (E 9).toInt = 0 ∧ (E 10).toInt = 0 ∧ (E 11).toInt = 0)) : vX0_settle_c149 be parts limit len (postX0_settle T b lim E0 be parts limit len) x1 E := by
  obtain ⟨hN, hL, hB, hlim⟩ := id H
  unfold vX0_settle_c149
  rw [fa_le (E 11), z0]
  rcases h with ⟨hd, h8, h9, h11⟩ | ⟨hd, h8, h9, h10, h11⟩
  · obtain ⟨d, e1, e2, e3, e4⟩ := dsO_some hd
    have hpos : 0 < fa_cnt (okW T b lim (fewW T b lim)) (2 ^ cn T) := (ff_iff _ _).mpr e4
    refine ⟨fun q => absurd q (by omega), fun _ => ?_⟩
    have er := q_rest hN.2 hx1 h9 e4
    exact ⟨T, _, ⟨hN, hL, er⟩, fun r4 hr4 => ⟨Or.inl ⟨hd, h8, h9, hr4, h11⟩, keepE_u hk (by omega) _⟩⟩
  · exact ⟨fun _ => ⟨Or.inr ⟨hd, h8, h9, h10, h11⟩, hk⟩, fun q => absurd (by omega) q⟩
def inE (T : Cd) (b : Nat → Nat) (lim few i : Nat) (E : Nat → Int32) : Prop := (E 11).toInt = (fa_cnt (okW T b lim few) i : Int) ∧ (E 10).toInt = 0 ∧ ((fa_first (okW T b lim few) i < i ∧ (E 9).toInt = (fa_first (okW T b lim few) i : Int) ∧ isO (joS T b (2 ^ cn T - 1 - fa_first (okW T b lim few) i) (cn T)) (E 8)) ∨ (fa_first (okW T b lim few) i = i ∧ (E 9).toInt = 0 ∧ (E 8).toInt = -1))
theorem sX0_settle_59 (T : Cd) (b : Nat → Nat) (lim : Nat) (E0 be : Nat → Int32) (parts limit : Int32) (len : Nat → Int32) (H : preX0_settle T b lim E0 be parts limit len) (Q : (Nat → Int32) → Prop) (K : Int32 → Int32 → Int32 → (Nat → Int32) → Prop) (few : Nat) (x1 x2 x3 : Int32) (hx1 : x1.toInt = ((2 ^ cn T - 1 : Nat) : Int)) (h3 : x3.toInt = (few : Int)) (hK : ∀ E : Nat → Int32, keepE E0 E → inE T b lim few (2 ^ cn T) E → K x1 x2 (x3 + (1 : Int32)) E) : ∀ (n i : Nat) (x4 : Int32) (E : Nat → Int32), x4.toInt = (i : Int) → i ≤ 2 ^ cn T → 2 ^ cn T + 1 ≤ i + n → keepE E0 E → inE T b lim few i E → vX0_settle_c59 be parts limit len Q K n x1 x2 x3 x4 E
  | 0, i, x4, E, _, hi, hn, _, _ => absurd hn (by omega)
  | n + 1, i, x4, E, h4, hi, hn, hk, hI => by
    obtain ⟨hN, hL, hB, hlim⟩ := id H
    have h32 := p32_le hN.2
    have hpos := Nat.two_pow_pos (cn T)
    rw [vX0_settle_c59, q_lt hx1 h4]
    refine ⟨fun hc => ?_, fun hc => ?_⟩
    · have e : i = 2 ^ cn T := by omega
      rw [e] at hI
      exact hK E hk hI
    · have hi2 : i < 2 ^ cn T := by omega
      have h4s := q_1 h4 (by omega)
      have skip : okW T b lim few i = false → vX0_settle_c59 be parts limit len Q K n x1 x2 x3 (x4 + (1 : Int32)) E := by
        intro hno
        refine sX0_settle_59 T b lim E0 be parts limit len H Q K few x1 x2 x3 hx1 h3 hK n (i + 1) _ E h4s hi2 (by omega) hk ?_
        obtain ⟨a1, a2, a4⟩ := hI
        refine ⟨by rw [fa_cnt_no hno]; exact a1, a2, ?_⟩
        rcases a4 with ⟨b1, b2, b3⟩ | ⟨b1, b2, b3⟩
        · rw [ff_grow b1 (show i ≤ i + 1 by omega)]; exact Or.inl ⟨by omega, b2, b3⟩
        · refine Or.inr ⟨ff_none (fun j hj => ?_), b2, b3⟩
          rcases Nat.lt_or_ge j i with z | z
          · exact fa_first_no _ i j (by omega)
          · have : j = i := by omega
            subst this; exact hno
      refine ⟨i, ⟨h4, by omega⟩, fun r2 hr2 => ?_⟩
      have hr2 : r2.toInt = ((bcn i 13 : Nat) : Int) := hr2
      rw [q_eq hr2 h3]
      refine ⟨fun hq => ?_, fun hq => ?_⟩
      · have hno : okW T b lim few i = false := by unfold okW; rw [decide_eq_false (by omega)]; rfl
        exact ⟨fun _ => skip hno, fun q => absurd rfl q⟩
      · have er := q_rest hN.2 hx1 h4 hi2
        refine ⟨T, b, _, ⟨hN, hL, hB, er⟩, fun r hr => ?_⟩
        have hr : isO (joS T b (2 ^ cn T - 1 - i) (cn T)) r := hr
        have hok : okW T b lim few i = neB T b lim (2 ^ cn T - 1 - i) := by
          unfold okW; rw [decide_eq_true (by omega)]; rfl
        unfold vX0_settle_c88
        rw [fa_eq r, zm1, fa_le limit, hlim]
        cases hj : joS T b (2 ^ cn T - 1 - i) (cn T) with
        | none =>
          rw [hj] at hr
          have hr : r.toInt = -1 := hr
          have hno : okW T b lim few i = false := by rw [hok]; unfold neB; rw [hj]
          exact ⟨fun _ => skip hno, fun q => absurd hr q⟩
        | some d =>
          have hr0 := hr
          rw [hj] at hr
          have hr : r.toInt = (d : Int) := hr
          refine ⟨fun q => absurd q (by omega), fun _ => ⟨fun q => skip ?_, fun q => ?_⟩⟩
          · rw [hok]; unfold neB; rw [hj]; exact decide_eq_false (by omega)
          · have hyes : okW T b lim few i = true := by rw [hok]; unfold neB; rw [hj]; exact decide_eq_true (by omega)
            obtain ⟨a1, a2, a4⟩ := hI
            have hcl := fa_cnt_le (okW T b lim few) i
            have fin : ∀ E2 : Nat → Int32, keepE E0 E2 → E2 11 = E 11 → (E2 10).toInt = 0 → (E2 9).toInt = (fa_first (okW T b lim few) (i + 1) : Int) → isO (joS T b (2 ^ cn T - 1 - fa_first (okW T b lim few) (i + 1)) (cn T)) (E2 8) → fa_first (okW T b lim few) (i + 1) < i + 1 → vX0_settle_c127 be parts limit len Q K (vX0_settle_c59 be parts limit len Q K n) x1 x2 x3 x4 E2 := by
              intro E2 hk2 c11 c10 c9 c8 hlt
              unfold vX0_settle_c127
              refine sX0_settle_59 T b lim E0 be parts limit len H Q K few x1 x2 x3 hx1 h3 hK n (i + 1) _ _ h4s hi2 (by omega) (keepE_u hk2 (by omega) _) ⟨?_, c10, Or.inl ⟨hlt, c9, c8⟩⟩
              show ((E2 11) + (1 : Int32)).toInt = _
              rw [c11, q_add a1 z1 (by omega) (by omega), fa_cnt_yes hyes]
              omega
            have hff := ff_iff (okW T b lim few) i
            rw [fa_eq (E 11), z0, a1]
            refine ⟨fun hc2 => ?_, fun hc2 => ?_⟩
            · have hlt := hff.mp (by omega)
              rcases a4 with ⟨b1, b2, b3⟩ | ⟨b1, b2, b3⟩
              · have e := ff_grow b1 (show i ≤ i + 1 by omega)
                exact fin E hk rfl a2 (by rw [e]; exact b2) (by rw [e]; exact b3) (by omega)
              · omega
            · have hnl : ¬ fa_first (okW T b lim few) i < i := fun q => by have := hff.mpr q; omega
              have hle := fa_first_le (okW T b lim few) i
              have e : fa_first (okW T b lim few) (i + 1) = i := ff_eq (by omega) hyes (fun j hj => fa_first_no _ i j (by omega))
              exact fin _ (keepE_u (keepE_u hk (by omega) _) (by omega) _) rfl a2 (by rw [e]; exact h4) (by rw [e]; exact hr0) (by omega)
theorem sX0_settle_44 (T : Cd) (b : Nat → Nat) (lim : Nat) (E0 be : Nat → Int32) (parts limit : Int32) (len : Nat → Int32) (H : preX0_settle T b lim E0 be parts limit len) (x1 x2 : Int32) (hx1 : x1.toInt = ((2 ^ cn T - 1 : Nat) : Int)) (h2 : x2.toInt = (moW T : Int)) : ∀ (n few : Nat) (x3 : Int32) (E : Nat → Int32), x3.toInt = (few : Int) → few ≤ moW T + 1 → moW T + 2 ≤ few + n → keepE E0 E → (∀ f, f < few → fa_first (okW T b lim f) (2 ^ cn T) = 2 ^ cn T) → (E 8).toInt = -1 → (E 9).toInt = 0 → (E 10).toInt = 0 → (E 11).toInt = 0 → vX0_settle_c44 be parts limit len (postX0_settle T b lim E0 be parts limit len) n x1 x2 x3 E
  | 0, few, x3, E, _, hi, hn, _, _, _, _, _, _ => absurd hn (by omega)
  | n + 1, few, x3, E, h3, hi, hn, hk, hno, h8, h9, h10, h11 => by
    obtain ⟨hN, hL, hB, hlim⟩ := id H
    have h32 := p32_le hN.2
    have hn5 := hN.2
    have hmo : moW T ≤ 4 := by unfold moW; split <;> omega
    rw [vX0_settle_c44, q_lt h2 h3, fa_eq (E 11), z0]
    refine ⟨fun hc => ?_, fun hc => ⟨fun q => absurd h11 q, fun _ => ⟨2 ^ cn T + 1, ?_⟩⟩⟩
    · have e : few = moW T + 1 := by omega
      have hd : ¬ hasD T b lim := by
        unfold hasD fewW
        rw [ff_none (fun f hf => by simp; have := hno f (by omega); omega)]
        omega
      exact sX0_settle_149 T b lim E0 be parts limit len H x1 hx1 E hk (Or.inr ⟨hd, h8, h9, h10, h11⟩)
    · refine sX0_settle_59 T b lim E0 be parts limit len H _ _ few x1 x2 x3 hx1 h3 (fun E2 hk2 hI => ?_) (2 ^ cn T + 1) 0 0 E rfl (Nat.zero_le _) (by omega) hk ⟨by rw [h11]; rfl, h10, Or.inr ⟨rfl, h9, h8⟩⟩
      obtain ⟨a1, a2, a4⟩ := hI
      have h3s := q_1 h3 (by omega)
      rcases a4 with ⟨b1, b2, b3⟩ | ⟨b1, b2, b3⟩
      · have hf : fewW T b lim = few := by
          unfold fewW
          exact ff_eq (by omega) (by simp; exact b1) (fun f hf => by simp; have := hno f hf; omega)
        have hd : hasD T b lim := by unfold hasD; omega
        have hw : wrW T b lim = fa_first (okW T b lim few) (2 ^ cn T) := by unfold wrW; rw [hf]
        obtain ⟨d, e1, e2, e3, e4⟩ := dsO_some hd
        rw [← hw, e2] at b3
        have hfin := sX0_settle_149 T b lim E0 be parts limit len H x1 hx1 E2 hk2 (Or.inl ⟨hd, ⟨d, e1, b3⟩, by rw [hw]; exact b2, by rw [hf]; exact a1⟩)
        have hpos := (ff_iff _ _).mpr b1
        cases n with
        | zero => omega
        | succ n =>
          rw [vX0_settle_c44, fa_eq (E2 11), z0, a1]
          exact ⟨fun _ => hfin, fun _ => ⟨fun _ => hfin, fun q => absurd q (by omega)⟩⟩
      · have hz : fa_cnt (okW T b lim few) (2 ^ cn T) = 0 := by
          rcases Nat.eq_zero_or_pos (fa_cnt (okW T b lim few) (2 ^ cn T)) with z | z
          · exact z
          · have := (ff_iff _ _).mp z; omega
        exact sX0_settle_44 T b lim E0 be parts limit len H x1 x2 hx1 h2 n (few + 1) _ E2 h3s (by omega) (by omega) hk2 (fun f hf => by
          rcases Nat.lt_or_ge f few with z | z
          · exact hno f z
          · have : f = few := by omega
            subst this; exact b1) b3 b2 a2 (by rw [a1, hz]; rfl)
theorem sX0_settle (T : Cd) (b : Nat → Nat) (lim : Nat) (E be : Nat → Int32) (parts limit : Int32) (len : Nat → Int32) (H : preX0_settle T b lim E be parts limit len) : vX0_settle E be parts limit len (postX0_settle T b lim E be parts limit len) := by
  obtain ⟨hN, hL, hB, hlim⟩ := id H
  have hn5 := hN.2
  have hmo : moW T ≤ 4 := by unfold moW; split <;> omega
  have hk : keepE E (upd (upd (upd (upd E 8 (-1 : Int32)) 9 (0 : Int32)) 10 (0 : Int32)) 11 (0 : Int32)) := keepE_u (keepE_u (keepE_u (keepE_u (fun _ _ _ _ _ => rfl) (by omega) _) (by omega) _) (by omega) _) (by omega) _
  refine ⟨T, hN, fun r hr y hy => ⟨moW T + 2, ?_⟩⟩
  have e1 : (parts - (1 : Int32)).toInt = (cn T : Int) - 1 := q_sub hN.1 z1 (by omega) (by omega)
  have hy2 : y.toInt = (moW T : Int) := by
    rw [hy]
    unfold moW
    by_cases hc : (parts - (1 : Int32)) < (0 : Int32)
    · rw [if_pos hc]
      rw [fa_lt, e1, z0] at hc
      rw [if_pos (by omega)]; rfl
    · rw [if_neg hc]
      rw [fa_lt, e1, z0] at hc
      rw [if_neg (by omega), e1]; omega
  exact sX0_settle_44 T b lim E be parts limit len H r y hr hy2 (moW T + 2) 0 0 _ rfl (by omega) (by omega) hk (fun f hf => absurd hf (by omega)) rfl rfl rfl rfl
theorem dX0_guesses_0 : decode cX0_guesses 0 = .ok (.aload_n 0, 1) := by decide +kernel
theorem dX0_guesses_1 : decode cX0_guesses 1 = .ok (.getfield 57, 3) := by decide +kernel
theorem dX0_guesses_4 : decode cX0_guesses 4 = .ok (.iconst (-1), 1) := by decide +kernel
theorem dX0_guesses_5 : decode cX0_guesses 5 = .ok (.if_icmp .eq 11, 3) := by decide +kernel
theorem dX0_guesses_8 : decode cX0_guesses 8 = .ok (.aload_n 0, 1) := by decide +kernel
theorem dX0_guesses_9 : decode cX0_guesses 9 = .ok (.getfield 145, 3) := by decide +kernel
theorem dX0_guesses_12 : decode cX0_guesses 12 = .ok (.iconst 1, 1) := by decide +kernel
theorem dX0_guesses_13 : decode cX0_guesses 13 = .ok (.if_icmp .ge 5, 3) := by decide +kernel
theorem dX0_guesses_16 : decode cX0_guesses 16 = .ok (.iconst 0, 1) := by decide +kernel
theorem dX0_guesses_17 : decode cX0_guesses 17 = .ok (.ireturn, 1) := by decide +kernel
theorem dX0_guesses_18 : decode cX0_guesses 18 = .ok (.aload_n 0, 1) := by decide +kernel
theorem dX0_guesses_19 : decode cX0_guesses 19 = .ok (.getfield 26, 3) := by decide +kernel
theorem dX0_guesses_22 : decode cX0_guesses 22 = .ok (.getfield 168, 3) := by decide +kernel
theorem dX0_guesses_25 : decode cX0_guesses 25 = .ok (.iconst 1, 1) := by decide +kernel
theorem dX0_guesses_26 : decode cX0_guesses 26 = .ok (.isub, 1) := by decide +kernel
theorem dX0_guesses_27 : decode cX0_guesses 27 = .ok (.aload_n 0, 1) := by decide +kernel
theorem dX0_guesses_28 : decode cX0_guesses 28 = .ok (.getfield 57, 3) := by decide +kernel
theorem dX0_guesses_31 : decode cX0_guesses 31 = .ok (.isub, 1) := by decide +kernel
theorem dX0_guesses_32 : decode cX0_guesses 32 = .ok (.aload_n 0, 1) := by decide +kernel
theorem dX0_guesses_33 : decode cX0_guesses 33 = .ok (.getfield 145, 3) := by decide +kernel
theorem dX0_guesses_36 : decode cX0_guesses 36 = .ok (.idiv, 1) := by decide +kernel
theorem dX0_guesses_37 : decode cX0_guesses 37 = .ok (.iconst 1, 1) := by decide +kernel
theorem dX0_guesses_38 : decode cX0_guesses 38 = .ok (.iadd, 1) := by decide +kernel
theorem dX0_guesses_39 : decode cX0_guesses 39 = .ok (.ireturn, 1) := by decide +kernel
abbrev rmX0_guesses : Room := { frames := 0, cells := 0, slots := 0, locals := 0 }
theorem inX0_guesses_0 : ∀ w ∈ wsX00, w ∈ wsX0_guesses := by decide +kernel
theorem inX0_guesses_7 : ∀ w ∈ wsX70, w ∈ wsX0_guesses := by decide +kernel
def vX0_guesses (E : Nat → Int32) (parts : Int32) (limit : Int32) (Q : Int32 → Prop) : Prop := (((E 8) = (-1 : Int32) → (Q (0 : Int32))) ∧ (¬ (E 8) = (-1 : Int32) → (((1 : Int32) ≤ (E 10) → (¬ (E 10) = 0 ∧ (Q ((((limit - (1 : Int32)) - (E 8)) / (E 10)) + (1 : Int32))))) ∧ (¬ (1 : Int32) ≤ (E 10) → (Q (0 : Int32))))))
set_option maxHeartbeats 4000000 in
set_option maxRecDepth 100000 in
theorem wX0_guesses (l : Launch) (g : GP) (qe : Nat) (qt : Nat) (qh : Nat) (qm : Nat) (qb : Nat) (qx : Nat) (ql : Nat) (qr : Nat) (qv : Nat) (qg : Nat) (E : Nat → Int32) (parts : Int32) (limit : Int32) {Q : Int32 → Prop} (hv : vX0_guesses E parts limit Q) : Met l yX0_guesses wsX0_guesses rmX0_guesses (va_Pc [.ref qe] (fun U => va_P g.1 vwCl [(qe, .inr (0, [.ref qt, .ref qh, .ref qm, .ref qb, .ref qx, .int (E 5), .int (E 6), .int (E 7), .int (E 8), .int (E 9), .int (E 10), .int (E 11)])), (qt, .inr (7, [.ref ql, .ref qr, .ref qv, .ref qg, .int parts, .int limit]))] U.heap ∧ GK g U)) (vp_Si Q) 0 0 (fun _ => False) := by
  refine Met.ofW (cc := cX0_guesses) (maxL := 1) (ret := (some .int)) (by decide) rfl ?_
  intro p e s m args below meth c s₁ B hml hv'
  obtain ⟨rfl, hP, hG⟩ := hv'
  have S : CallFix p m c cX0_guesses 1 s _ wsX0_guesses RX0 := ⟨B.exec, B.bytes, hml, findClass_of_methodNamed B.named, atoms_spec (ws := wsX0_guesses) B.pre⟩
  obtain ⟨hx, hb, hml, hown, hts⟩ := id S
  have hK := hG.1
  have hr := B.returns
  have hlocks := B.notSynchronized
  have hl := lv_entry ([.ref qe]) (n := 1) (Nat.le_of_ble_eq_true rfl)
  rw [lg_entry_eq]
  generalize (lg_sl ([.ref qe]) ++ List.replicate (1 - (lg_sl ([.ref qe])).length) Slot.unset).toArray = ls at hl ⊢
  have hl : lv_has ls 1 [(0, .ref qe)] := hl
  unfold vX0_guesses at hv
  refine lv_aload_n hx hb dX0_guesses_0 rfl (lv_at hl 0 rfl) ?_
  refine va_get (D := g.1) (ci := 0) (v := .int (E 8)) (C := RX0) (T := TX0) (N := 12) hx hb hts inX0_guesses_0 hown hK hP 0 rfl rfl 8 (by decide) (hts (.fieldLink RX0 57 "RangeCodes$Ear" "distance" "I") (List.mem_of_getElem? (i := 1) rfl)) (fun _ h9 => h9) rfl dX0_guesses_1 ?_
  refine lv_iconst (v := (-1 : Int32)) hx hb dX0_guesses_4 (by decide) ?_
  obtain ⟨hvt, hvf⟩ := hv
  refine lv_icmp_eq (tgt := 16) hx hb dX0_guesses_5 (by decide) (fun hc => ?_) (fun hc => ?_)
  · have hv := hvt hc
    refine lv_iconst (v := (0 : Int32)) hx hb dX0_guesses_16 (by decide) ?_
    exact W.iret (v := (0 : Int32)) hx hb hr (fun t ht hW => ⟨_, rfl, hv, ht⟩) (fun _ h => by cases h) dX0_guesses_17
  · have hv := hvf hc
    refine lv_aload_n hx hb dX0_guesses_8 rfl (lv_at hl 0 rfl) ?_
    refine va_get (D := g.1) (ci := 0) (v := .int (E 10)) (C := RX0) (T := TX0) (N := 12) hx hb hts inX0_guesses_0 hown hK hP 0 rfl rfl 10 (by decide) (hts (.fieldLink RX0 145 "RangeCodes$Ear" "step" "I") (List.mem_of_getElem? (i := 2) rfl)) (fun _ h9 => h9) rfl dX0_guesses_9 ?_
    refine lv_iconst (v := (1 : Int32)) hx hb dX0_guesses_12 (by decide) ?_
    obtain ⟨hvt, hvf⟩ := hv
    refine lv_icmp_ge (tgt := 18) hx hb dX0_guesses_13 (by decide) (fun hc => ?_) (fun hc => ?_)
    · have hv := hvt hc
      refine lv_aload_n hx hb dX0_guesses_18 rfl (lv_at hl 0 rfl) ?_
      refine va_get (D := g.1) (ci := 0) (v := .ref qt) (C := RX0) (T := TX0) (N := 12) hx hb hts inX0_guesses_0 hown hK hP 0 rfl rfl 0 (by decide) (hts (.fieldLink RX0 26 "RangeCodes$Ear" "told" "LRangeCodes$Told;") (List.mem_of_getElem? (i := 3) rfl)) (fun _ h9 => h9) rfl dX0_guesses_19 ?_
      refine va_get (D := g.1) (ci := 7) (v := .int limit) (C := RX7) (T := TX7) (N := 6) hx hb hts inX0_guesses_7 hown hK hP 1 rfl rfl 5 (by decide) (hts (.fieldLink RX0 168 "RangeCodes$Told" "limit" "I") (List.mem_of_getElem? (i := 4) rfl)) (fun _ h9 => h9) rfl dX0_guesses_22 ?_
      refine lv_iconst (v := (1 : Int32)) hx hb dX0_guesses_25 (by decide) ?_
      refine lv_isub hx hb dX0_guesses_26 ?_
      refine lv_aload_n hx hb dX0_guesses_27 rfl (lv_at hl 0 rfl) ?_
      refine va_get (D := g.1) (ci := 0) (v := .int (E 8)) (C := RX0) (T := TX0) (N := 12) hx hb hts inX0_guesses_0 hown hK hP 0 rfl rfl 8 (by decide) (hts (.fieldLink RX0 57 "RangeCodes$Ear" "distance" "I") (List.mem_of_getElem? (i := 1) rfl)) (fun _ h9 => h9) rfl dX0_guesses_28 ?_
      refine lv_isub hx hb dX0_guesses_31 ?_
      refine lv_aload_n hx hb dX0_guesses_32 rfl (lv_at hl 0 rfl) ?_
      refine va_get (D := g.1) (ci := 0) (v := .int (E 10)) (C := RX0) (T := TX0) (N := 12) hx hb hts inX0_guesses_0 hown hK hP 0 rfl rfl 10 (by decide) (hts (.fieldLink RX0 145 "RangeCodes$Ear" "step" "I") (List.mem_of_getElem? (i := 2) rfl)) (fun _ h9 => h9) rfl dX0_guesses_33 ?_
      obtain ⟨ho_1, hv⟩ := hv
      refine lv_idiv hx hb dX0_guesses_36 ho_1 ?_
      refine lv_iconst (v := (1 : Int32)) hx hb dX0_guesses_37 (by decide) ?_
      refine lv_iadd hx hb dX0_guesses_38 ?_
      exact W.iret (v := ((((limit - (1 : Int32)) - (E 8)) / (E 10)) + (1 : Int32))) hx hb hr (fun t ht hW => ⟨_, rfl, hv, ht⟩) (fun _ h => by cases h) dX0_guesses_39
    · have hv := hvf hc
      refine lv_iconst (v := (0 : Int32)) hx hb dX0_guesses_16 (by decide) ?_
      exact W.iret (v := (0 : Int32)) hx hb hr (fun t ht hW => ⟨_, rfl, hv, ht⟩) (fun _ h => by cases h) dX0_guesses_17
def guN (o : Option Nat) (st lim : Nat) : Nat := match o with
  | none => 0
  | some d => (lim - 1 - d) / st + 1
theorem guN_le {o : Option Nat} {st lim : Nat} (h : lim ≤ 9999) : guN o st lim ≤ 10000 := by
  cases o with
  | none => show 0 ≤ 10000; omega
  | some d =>
    show (lim - 1 - d) / st + 1 ≤ 10000
    have := Nat.div_le_self (lim - 1 - d) st
    omega
abbrev preX0_guesses (o : Option Nat) (st lim : Nat) (E : Nat → Int32) (_ limit : Int32) : Prop := isO o (E 8) ∧ (∀ d, o = some d → d < lim ∧ 1 ≤ st ∧ (E 10).toInt = (st : Int)) ∧ limit.toInt = (lim : Int) ∧ lim ≤ 9999
abbrev postX0_guesses (o : Option Nat) (st lim : Nat) (_ : Nat → Int32) (_ _ r : Int32) : Prop := r.toInt = ((guN o st lim : Nat) : Int)
theorem sX0_guesses (o : Option Nat) (st lim : Nat) (E : Nat → Int32) (parts limit : Int32) (H : preX0_guesses o st lim E parts limit) : vX0_guesses E parts limit (postX0_guesses o st lim E parts limit) := by
  obtain ⟨h8, h10, hlim, hl9⟩ := H
  unfold vX0_guesses
  rw [fa_eq (E 8), zm1]
  cases o with
  | none =>
    have h8 : (E 8).toInt = -1 := h8
    exact ⟨fun _ => rfl, fun q => absurd h8 q⟩
  | some d =>
    have h8 : (E 8).toInt = (d : Int) := h8
    obtain ⟨hd, hs, he⟩ := h10 d rfl
    refine ⟨fun q => absurd q (by omega), fun _ => ?_⟩
    rw [fa_le _ (E 10), he, z1]
    refine ⟨fun _ => ⟨fun q => by rw [fa_eq, z0] at q; omega, ?_⟩, fun q => absurd (by omega) q⟩
    have e1 : (limit - (1 : Int32)).toInt = ((lim - 1 : Nat) : Int) := q_subN hlim z1 (b := 1) (by omega) (by omega)
    have e2 : ((limit - (1 : Int32)) - (E 8)).toInt = ((lim - 1 - d : Nat) : Int) := q_subN e1 h8 (by omega) (by omega)
    have e3 := q_divN e2 he (by omega)
    have hdl := Nat.div_le_self (lim - 1 - d) st
    exact q_addN e3 z1 (b := 1) (by omega)
set_option maxRecDepth 20000 in
theorem ggX0_finding_X0_guesses : GoodIn wsX0_finding wsX0_guesses := goodIn_r _ [9, 1, 3, 10, 11, 12, 13, 14, 15, 16, 17, 18, 19, 20, 21, 22, 23, 24, 25, 26, 27, 28, 29] (by decide +kernel) (by decide +kernel)
set_option maxRecDepth 20000 in
theorem gX0_finding_X0_guesses : GoodIn wsX0_finding (wsV RX0 174 RX0 yX0_guesses wsX0_guesses) := goodIn_app (goodIn_of _ (by decide +kernel)) ggX0_finding_X0_guesses
theorem dX0_finding_0 : decode cX0_finding 0 = .ok (.aload_n 0, 1) := by decide +kernel
theorem dX0_finding_1 : decode cX0_finding 1 = .ok (.getfield 57, 3) := by decide +kernel
theorem dX0_finding_4 : decode cX0_finding 4 = .ok (.iconst (-1), 1) := by decide +kernel
theorem dX0_finding_5 : decode cX0_finding 5 = .ok (.if_icmp .eq 7, 3) := by decide +kernel
theorem dX0_finding_8 : decode cX0_finding 8 = .ok (.iconst 1, 1) := by decide +kernel
theorem dX0_finding_9 : decode cX0_finding 9 = .ok (.goto 4, 3) := by decide +kernel
theorem dX0_finding_12 : decode cX0_finding 12 = .ok (.iconst 0, 1) := by decide +kernel
theorem dX0_finding_13 : decode cX0_finding 13 = .ok (.istore_n 2, 1) := by decide +kernel
theorem dX0_finding_14 : decode cX0_finding 14 = .ok (.iload_n 1, 1) := by decide +kernel
theorem dX0_finding_15 : decode cX0_finding 15 = .ok (.tableswitch 95 0 5 #[37, 42, 55, 68, 73, 90], 37) := by decide +kernel
theorem dX0_finding_52 : decode cX0_finding 52 = .ok (.aload_n 0, 1) := by decide +kernel
theorem dX0_finding_53 : decode cX0_finding 53 = .ok (.getfield 57, 3) := by decide +kernel
theorem dX0_finding_56 : decode cX0_finding 56 = .ok (.ireturn, 1) := by decide +kernel
theorem dX0_finding_57 : decode cX0_finding 57 = .ok (.iload_n 2, 1) := by decide +kernel
theorem dX0_finding_58 : decode cX0_finding 58 = .ok (.ifCond .eq 10, 3) := by decide +kernel
theorem dX0_finding_61 : decode cX0_finding 61 = .ok (.aload_n 0, 1) := by decide +kernel
theorem dX0_finding_62 : decode cX0_finding 62 = .ok (.getfield 142, 3) := by decide +kernel
theorem dX0_finding_65 : decode cX0_finding 65 = .ok (.goto 4, 3) := by decide +kernel
theorem dX0_finding_68 : decode cX0_finding 68 = .ok (.iconst (-1), 1) := by decide +kernel
theorem dX0_finding_69 : decode cX0_finding 69 = .ok (.ireturn, 1) := by decide +kernel
theorem dX0_finding_70 : decode cX0_finding 70 = .ok (.iload_n 2, 1) := by decide +kernel
theorem dX0_finding_71 : decode cX0_finding 71 = .ok (.ifCond .eq 10, 3) := by decide +kernel
theorem dX0_finding_74 : decode cX0_finding 74 = .ok (.aload_n 0, 1) := by decide +kernel
theorem dX0_finding_75 : decode cX0_finding 75 = .ok (.getfield 145, 3) := by decide +kernel
theorem dX0_finding_78 : decode cX0_finding 78 = .ok (.goto 4, 3) := by decide +kernel
theorem dX0_finding_81 : decode cX0_finding 81 = .ok (.iconst (-1), 1) := by decide +kernel
theorem dX0_finding_82 : decode cX0_finding 82 = .ok (.ireturn, 1) := by decide +kernel
theorem dX0_finding_83 : decode cX0_finding 83 = .ok (.aload_n 0, 1) := by decide +kernel
theorem dX0_finding_84 : decode cX0_finding 84 = .ok (.invokevirtual 174, 3) := by decide +kernel
theorem dX0_finding_87 : decode cX0_finding 87 = .ok (.ireturn, 1) := by decide +kernel
theorem dX0_finding_88 : decode cX0_finding 88 = .ok (.iload_n 2, 1) := by decide +kernel
theorem dX0_finding_89 : decode cX0_finding 89 = .ok (.ifCond .eq 14, 3) := by decide +kernel
theorem dX0_finding_92 : decode cX0_finding 92 = .ok (.aload_n 0, 1) := by decide +kernel
theorem dX0_finding_93 : decode cX0_finding 93 = .ok (.getfield 142, 3) := by decide +kernel
theorem dX0_finding_96 : decode cX0_finding 96 = .ok (.ifCond .ne 7, 3) := by decide +kernel
theorem dX0_finding_99 : decode cX0_finding 99 = .ok (.iconst 1, 1) := by decide +kernel
theorem dX0_finding_100 : decode cX0_finding 100 = .ok (.goto 4, 3) := by decide +kernel
theorem dX0_finding_103 : decode cX0_finding 103 = .ok (.iconst 0, 1) := by decide +kernel
theorem dX0_finding_104 : decode cX0_finding 104 = .ok (.ireturn, 1) := by decide +kernel
theorem dX0_finding_105 : decode cX0_finding 105 = .ok (.aload_n 0, 1) := by decide +kernel
theorem dX0_finding_106 : decode cX0_finding 106 = .ok (.getfield 148, 3) := by decide +kernel
theorem dX0_finding_109 : decode cX0_finding 109 = .ok (.ireturn, 1) := by decide +kernel
theorem dX0_finding_110 : decode cX0_finding 110 = .ok (.iconst (-1), 1) := by decide +kernel
theorem dX0_finding_111 : decode cX0_finding 111 = .ok (.ireturn, 1) := by decide +kernel
abbrev rmX0_finding : Room := { frames := 1, cells := 0, slots := 0, locals := 20 }
theorem inX0_finding_0 : ∀ w ∈ wsX00, w ∈ wsX0_finding := by decide +kernel
def vX0_finding_c13 (E : Nat → Int32) (parts : Int32) (limit : Int32) (p1 : Int32) (Q : Int32 → Prop) (s0 : Int32) : Prop := ((p1 = (0 : Int32) → (Q (E 8))) ∧ ((p1 = (1 : Int32) → ((s0 = 0 → (Q (-1 : Int32))) ∧ (¬ s0 = 0 → (Q (E 9))))) ∧ ((p1 = (2 : Int32) → ((s0 = 0 → (Q (-1 : Int32))) ∧ (¬ s0 = 0 → (Q (E 10))))) ∧ ((p1 = (3 : Int32) → (∃ (o_84 : Option Nat) (st_84 : Nat) (lim_84 : Nat), preX0_guesses o_84 st_84 lim_84 E parts limit ∧ (∀ r_84 : Int32, postX0_guesses o_84 st_84 lim_84 E parts limit r_84 → (Q r_84)))) ∧ ((p1 = (4 : Int32) → ((s0 = 0 → (Q (0 : Int32))) ∧ (¬ s0 = 0 → ((¬ (E 9) = 0 → (Q (0 : Int32))) ∧ ((E 9) = 0 → (Q (1 : Int32))))))) ∧ ((p1 = (5 : Int32) → (Q (E 11))) ∧ (¬ p1 = (0 : Int32) → ¬ p1 = (1 : Int32) → ¬ p1 = (2 : Int32) → ¬ p1 = (3 : Int32) → ¬ p1 = (4 : Int32) → ¬ p1 = (5 : Int32) → (Q (-1 : Int32)))))))))
set_option maxHeartbeats 4000000 in
set_option maxRecDepth 100000 in
theorem kX0_finding_c13 {p : Program} {l : Launch} {e : Env} {s : State} {m : MethodId} {args : Array Value} {below : List Frame} {meth : Method} {c : Code} {g : GP} {qe : Nat} {qt : Nat} {qh : Nat} {qm : Nat} {qb : Nat} {qx : Nat} {ql : Nat} {qr : Nat} {qv : Nat} {qg : Nat} {E : Nat → Int32} {parts : Int32} {limit : Int32} {p1 : Int32} {Q : Int32 → Prop} (S : CallFix p m c cX0_finding 3 s args wsX0_finding RX0) (hr : meth.sig.returnType = (some .int)) (hlocks : meth.locks = false) (hG : GK g s) (hP : va_P g.1 vwCl [(qe, .inr (0, [.ref qt, .ref qh, .ref qm, .ref qb, .ref qx, .int (E 5), .int (E 6), .int (E 7), .int (E 8), .int (E 9), .int (E 10), .int (E 11)])), (qt, .inr (7, [.ref ql, .ref qr, .ref qv, .ref qg, .int parts, .int limit]))] s.heap) : ∀ (s0 : Int32), vX0_finding_c13 E parts limit p1 Q s0 → ∀ (ls : Array Slot), lv_has ls 3 [(0, .ref qe), (1, .int p1)] → W p l e (headSpec wsX0_finding rmX0_finding).room s m args below meth c s.heap [] 0 0 (MQ below (vp_Si Q) args s 0 0 (fun _ => False)) (F0 m 13 ls [.int s0]) := by
  obtain ⟨hx, hb, hml, hown, hts⟩ := id S
  have hK := hG.1
  intro s0 hv ls hl
  unfold vX0_finding_c13 at hv
  refine lv_istore_n (lv' := [(2, .int s0), (0, .ref qe), (1, .int p1)]) hx hb dX0_finding_13 rfl hl (by decide) rfl (fun ls hl => ?_)
  refine lv_iload_n hx hb dX0_finding_14 rfl (lv_at hl 2 rfl) ?_
  obtain ⟨hvc, hv⟩ := hv
  by_cases hs0 : p1 = (0 : Int32)
  · have hv := hvc hs0
    refine lv_tableIn (tgt := 52) hx hb dX0_finding_15 (by rw [hs0]; decide) (by rw [hs0]; decide) (by rw [hs0]; rfl) (by decide) ?_
    refine lv_aload_n hx hb dX0_finding_52 rfl (lv_at hl 1 rfl) ?_
    refine va_get (D := g.1) (ci := 0) (v := .int (E 8)) (C := RX0) (T := TX0) (N := 12) hx hb hts inX0_finding_0 hown hK hP 0 rfl rfl 8 (by decide) (hts (.fieldLink RX0 57 "RangeCodes$Ear" "distance" "I") (List.mem_of_getElem? (i := 1) rfl)) (fun _ h9 => h9) rfl dX0_finding_53 ?_
    exact W.iret (v := (E 8)) hx hb hr (fun t ht hW => ⟨_, rfl, hv, ht⟩) (fun _ h => by cases h) dX0_finding_56
  obtain ⟨hvc, hv⟩ := hv
  by_cases hs1 : p1 = (1 : Int32)
  · have hv := hvc hs1
    refine lv_tableIn (tgt := 57) hx hb dX0_finding_15 (by rw [hs1]; decide) (by rw [hs1]; decide) (by rw [hs1]; rfl) (by decide) ?_
    refine lv_iload_n hx hb dX0_finding_57 rfl (lv_at hl 0 rfl) ?_
    obtain ⟨hvt, hvf⟩ := hv
    refine lv_if_eq (tgt := 68) hx hb dX0_finding_58 (by decide) (fun hc => ?_) (fun hc => ?_)
    · have hv := hvt hc
      refine lv_iconst (v := (-1 : Int32)) hx hb dX0_finding_68 (by decide) ?_
      exact W.iret (v := (-1 : Int32)) hx hb hr (fun t ht hW => ⟨_, rfl, hv, ht⟩) (fun _ h => by cases h) dX0_finding_69
    · have hv := hvf hc
      refine lv_aload_n hx hb dX0_finding_61 rfl (lv_at hl 1 rfl) ?_
      refine va_get (D := g.1) (ci := 0) (v := .int (E 9)) (C := RX0) (T := TX0) (N := 12) hx hb hts inX0_finding_0 hown hK hP 0 rfl rfl 9 (by decide) (hts (.fieldLink RX0 142 "RangeCodes$Ear" "wrong" "I") (List.mem_of_getElem? (i := 2) rfl)) (fun _ h9 => h9) rfl dX0_finding_62 ?_
      refine lv_goto (tgt := 69) hx hb dX0_finding_65 (by decide) ?_
      exact W.iret (v := (E 9)) hx hb hr (fun t ht hW => ⟨_, rfl, hv, ht⟩) (fun _ h => by cases h) dX0_finding_69
  obtain ⟨hvc, hv⟩ := hv
  by_cases hs2 : p1 = (2 : Int32)
  · have hv := hvc hs2
    refine lv_tableIn (tgt := 70) hx hb dX0_finding_15 (by rw [hs2]; decide) (by rw [hs2]; decide) (by rw [hs2]; rfl) (by decide) ?_
    refine lv_iload_n hx hb dX0_finding_70 rfl (lv_at hl 0 rfl) ?_
    obtain ⟨hvt, hvf⟩ := hv
    refine lv_if_eq (tgt := 81) hx hb dX0_finding_71 (by decide) (fun hc => ?_) (fun hc => ?_)
    · have hv := hvt hc
      refine lv_iconst (v := (-1 : Int32)) hx hb dX0_finding_81 (by decide) ?_
      exact W.iret (v := (-1 : Int32)) hx hb hr (fun t ht hW => ⟨_, rfl, hv, ht⟩) (fun _ h => by cases h) dX0_finding_82
    · have hv := hvf hc
      refine lv_aload_n hx hb dX0_finding_74 rfl (lv_at hl 1 rfl) ?_
      refine va_get (D := g.1) (ci := 0) (v := .int (E 10)) (C := RX0) (T := TX0) (N := 12) hx hb hts inX0_finding_0 hown hK hP 0 rfl rfl 10 (by decide) (hts (.fieldLink RX0 145 "RangeCodes$Ear" "step" "I") (List.mem_of_getElem? (i := 3) rfl)) (fun _ h9 => h9) rfl dX0_finding_75 ?_
      refine lv_goto (tgt := 82) hx hb dX0_finding_78 (by decide) ?_
      exact W.iret (v := (E 10)) hx hb hr (fun t ht hW => ⟨_, rfl, hv, ht⟩) (fun _ h => by cases h) dX0_finding_82
  obtain ⟨hvc, hv⟩ := hv
  by_cases hs3 : p1 = (3 : Int32)
  · have hv := hvc hs3
    refine lv_tableIn (tgt := 83) hx hb dX0_finding_15 (by rw [hs3]; decide) (by rw [hs3]; decide) (by rw [hs3]; rfl) (by decide) ?_
    refine lv_aload_n hx hb dX0_finding_83 rfl (lv_at hl 1 rfl) ?_
    obtain ⟨o_84, st_84, lim_84, ho_1, hv⟩ := hv
    refine vp_callSi (W.runV (As := []) (rest := []) S (wX0_guesses l g qe qt qh qm qb qx ql qr qv qg E parts limit (sX0_guesses o_84 st_84 lim_84 E parts limit ho_1)) (cwV 0 hts gX0_finding_X0_guesses rfl rfl rfl (by decide +kernel) ⟨Nat.le_of_ble_eq_true rfl, Nat.le_of_ble_eq_true rfl⟩) ⟨blindRO, va_recv hK hP (ci := 0) (q0 := 0) rfl rfl, fun U hU hW => ⟨rfl, by rw [hU]; exact hP.sub (ws' := [(qe, .inr (0, [.ref qt, .ref qh, .ref qm, .ref qb, .ref qx, .int (E 5), .int (E 6), .int (E 7), .int (E 8), .int (E 9), .int (E 10), .int (E 11)])), (qt, .inr (7, [.ref ql, .ref qr, .ref qv, .ref qg, .int parts, .int limit]))]) [0, 1] rfl, hG.warm hW⟩⟩ rfl rfl hl.1 rfl (lv_room (Nat.le_of_ble_eq_true rfl)) dX0_finding_84 ⟨Nat.le_of_ble_eq_true rfl, Nat.le_of_ble_eq_true rfl⟩) (fun r_84 hr_84 => ?_)
    have hv := hv r_84 hr_84
    exact W.iret (v := r_84) hx hb hr (fun t ht hW => ⟨_, rfl, hv, ht⟩) (fun _ h => by cases h) dX0_finding_87
  obtain ⟨hvc, hv⟩ := hv
  by_cases hs4 : p1 = (4 : Int32)
  · have hv := hvc hs4
    refine lv_tableIn (tgt := 88) hx hb dX0_finding_15 (by rw [hs4]; decide) (by rw [hs4]; decide) (by rw [hs4]; rfl) (by decide) ?_
    refine lv_iload_n hx hb dX0_finding_88 rfl (lv_at hl 0 rfl) ?_
    obtain ⟨hvt, hvf⟩ := hv
    refine lv_if_eq (tgt := 103) hx hb dX0_finding_89 (by decide) (fun hc => ?_) (fun hc => ?_)
    · have hv := hvt hc
      refine lv_iconst (v := (0 : Int32)) hx hb dX0_finding_103 (by decide) ?_
      exact W.iret (v := (0 : Int32)) hx hb hr (fun t ht hW => ⟨_, rfl, hv, ht⟩) (fun _ h => by cases h) dX0_finding_104
    · have hv := hvf hc
      refine lv_aload_n hx hb dX0_finding_92 rfl (lv_at hl 1 rfl) ?_
      refine va_get (D := g.1) (ci := 0) (v := .int (E 9)) (C := RX0) (T := TX0) (N := 12) hx hb hts inX0_finding_0 hown hK hP 0 rfl rfl 9 (by decide) (hts (.fieldLink RX0 142 "RangeCodes$Ear" "wrong" "I") (List.mem_of_getElem? (i := 2) rfl)) (fun _ h9 => h9) rfl dX0_finding_93 ?_
      obtain ⟨hvt, hvf⟩ := hv
      refine lv_if_ne (tgt := 103) hx hb dX0_finding_96 (by decide) (fun hc => ?_) (fun hc => ?_)
      · have hv := hvt hc
        refine lv_iconst (v := (0 : Int32)) hx hb dX0_finding_103 (by decide) ?_
        exact W.iret (v := (0 : Int32)) hx hb hr (fun t ht hW => ⟨_, rfl, hv, ht⟩) (fun _ h => by cases h) dX0_finding_104
      · have hv := hvf hc
        refine lv_iconst (v := (1 : Int32)) hx hb dX0_finding_99 (by decide) ?_
        refine lv_goto (tgt := 104) hx hb dX0_finding_100 (by decide) ?_
        exact W.iret (v := (1 : Int32)) hx hb hr (fun t ht hW => ⟨_, rfl, hv, ht⟩) (fun _ h => by cases h) dX0_finding_104
  obtain ⟨hvc, hv⟩ := hv
  by_cases hs5 : p1 = (5 : Int32)
  · have hv := hvc hs5
    refine lv_tableIn (tgt := 105) hx hb dX0_finding_15 (by rw [hs5]; decide) (by rw [hs5]; decide) (by rw [hs5]; rfl) (by decide) ?_
    refine lv_aload_n hx hb dX0_finding_105 rfl (lv_at hl 1 rfl) ?_
    refine va_get (D := g.1) (ci := 0) (v := .int (E 11)) (C := RX0) (T := TX0) (N := 12) hx hb hts inX0_finding_0 hown hK hP 0 rfl rfl 11 (by decide) (hts (.fieldLink RX0 148 "RangeCodes$Ear" "sets" "I") (List.mem_of_getElem? (i := 4) rfl)) (fun _ h9 => h9) rfl dX0_finding_106 ?_
    exact W.iret (v := (E 11)) hx hb hr (fun t ht hW => ⟨_, rfl, hv, ht⟩) (fun _ h => by cases h) dX0_finding_109
  have hv := hv hs0 hs1 hs2 hs3 hs4 hs5
  have hsT : p1.toInt < 0 ∨ 5 < p1.toInt := by
    have ht0 := lv_neT (a := 0) hs0 (by decide)
    have ht1 := lv_neT (a := 1) hs1 (by decide)
    have ht2 := lv_neT (a := 2) hs2 (by decide)
    have ht3 := lv_neT (a := 3) hs3 (by decide)
    have ht4 := lv_neT (a := 4) hs4 (by decide)
    have ht5 := lv_neT (a := 5) hs5 (by decide)
    omega
  refine lv_tableOut (tgt := 110) hx hb dX0_finding_15 hsT (by decide) ?_
  refine lv_iconst (v := (-1 : Int32)) hx hb dX0_finding_110 (by decide) ?_
  exact W.iret (v := (-1 : Int32)) hx hb hr (fun t ht hW => ⟨_, rfl, hv, ht⟩) (fun _ h => by cases h) dX0_finding_111
def vX0_finding (E : Nat → Int32) (parts : Int32) (limit : Int32) (p1 : Int32) (Q : Int32 → Prop) : Prop := (((E 8) = (-1 : Int32) → (vX0_finding_c13 E parts limit p1 Q (0 : Int32))) ∧ (¬ (E 8) = (-1 : Int32) → (vX0_finding_c13 E parts limit p1 Q (1 : Int32))))
set_option maxHeartbeats 4000000 in
set_option maxRecDepth 100000 in
theorem wX0_finding (l : Launch) (g : GP) (qe : Nat) (qt : Nat) (qh : Nat) (qm : Nat) (qb : Nat) (qx : Nat) (ql : Nat) (qr : Nat) (qv : Nat) (qg : Nat) (E : Nat → Int32) (parts : Int32) (limit : Int32) (p1 : Int32) {Q : Int32 → Prop} (hv : vX0_finding E parts limit p1 Q) : Met l yX0_finding wsX0_finding rmX0_finding (va_Pc [.ref qe, .int p1] (fun U => va_P g.1 vwCl [(qe, .inr (0, [.ref qt, .ref qh, .ref qm, .ref qb, .ref qx, .int (E 5), .int (E 6), .int (E 7), .int (E 8), .int (E 9), .int (E 10), .int (E 11)])), (qt, .inr (7, [.ref ql, .ref qr, .ref qv, .ref qg, .int parts, .int limit]))] U.heap ∧ GK g U)) (vp_Si Q) 0 0 (fun _ => False) := by
  refine Met.ofW (cc := cX0_finding) (maxL := 3) (ret := (some .int)) (by decide) rfl ?_
  intro p e s m args below meth c s₁ B hml hv'
  obtain ⟨rfl, hP, hG⟩ := hv'
  have S : CallFix p m c cX0_finding 3 s _ wsX0_finding RX0 := ⟨B.exec, B.bytes, hml, findClass_of_methodNamed B.named, atoms_spec (ws := wsX0_finding) B.pre⟩
  obtain ⟨hx, hb, hml, hown, hts⟩ := id S
  have hK := hG.1
  have hr := B.returns
  have hlocks := B.notSynchronized
  have hl := lv_entry ([.ref qe, .int p1]) (n := 3) (Nat.le_of_ble_eq_true rfl)
  rw [lg_entry_eq]
  generalize (lg_sl ([.ref qe, .int p1]) ++ List.replicate (3 - (lg_sl ([.ref qe, .int p1])).length) Slot.unset).toArray = ls at hl ⊢
  have hl : lv_has ls 3 [(0, .ref qe), (1, .int p1)] := hl
  unfold vX0_finding at hv
  refine lv_aload_n hx hb dX0_finding_0 rfl (lv_at hl 0 rfl) ?_
  refine va_get (D := g.1) (ci := 0) (v := .int (E 8)) (C := RX0) (T := TX0) (N := 12) hx hb hts inX0_finding_0 hown hK hP 0 rfl rfl 8 (by decide) (hts (.fieldLink RX0 57 "RangeCodes$Ear" "distance" "I") (List.mem_of_getElem? (i := 1) rfl)) (fun _ h9 => h9) rfl dX0_finding_1 ?_
  refine lv_iconst (v := (-1 : Int32)) hx hb dX0_finding_4 (by decide) ?_
  obtain ⟨hvt, hvf⟩ := hv
  refine lv_icmp_eq (tgt := 12) hx hb dX0_finding_5 (by decide) (fun hc => ?_) (fun hc => ?_)
  · have hv := hvt hc
    refine lv_iconst (v := (0 : Int32)) hx hb dX0_finding_12 (by decide) ?_
    exact kX0_finding_c13 S hr hlocks hG hP _ hv ls (lv_sub hl [0, 1] rfl)
  · have hv := hvf hc
    refine lv_iconst (v := (1 : Int32)) hx hb dX0_finding_8 (by decide) ?_
    refine lv_goto (tgt := 13) hx hb dX0_finding_9 (by decide) ?_
    exact kX0_finding_c13 S hr hlocks hG hP _ hv ls (lv_sub hl [0, 1] rfl)
/-- what found() tells -/
def fdZ (T : Cd) (b : Nat → Nat) (lim : Nat) (w : Int) : Int :=
  if w = 0 then (match dsO T b lim with | none => -1 | some d => (d : Int))
  else if w = 1 then (match dsO T b lim with | none => -1 | some _ => (wrW T b lim : Int))
  else if w = 2 then (match dsO T b lim with | none => -1 | some _ => (lcS T (2 ^ cn T - 1 - wrW T b lim) (cn T) : Int))
  else if w = 3 then (guN (dsO T b lim) (lcS T (2 ^ cn T - 1 - wrW T b lim) (cn T)) lim : Int)
  else if w = 4 then (match dsO T b lim with | none => 0 | some _ => if wrW T b lim = 0 then 1 else 0)
  else if w = 5 then (match dsO T b lim with | none => 0 | some _ => (fa_cnt (okW T b lim (fewW T b lim)) (2 ^ cn T) : Int))
  else -1
abbrev preX0_finding (T : Cd) (b : Nat → Nat) (lim : Nat) (E : Nat → Int32) (_ limit _ : Int32) : Prop := (∀ p, p < cn T → 2 ≤ cL T p) ∧ isD T b lim (E 8) (E 9) (E 10) (E 11) ∧ limit.toInt = (lim : Int) ∧ lim ≤ 9999
abbrev postX0_finding (T : Cd) (b : Nat → Nat) (lim : Nat) (_ : Nat → Int32) (_ _ p1 r : Int32) : Prop := r.toInt = fdZ T b lim p1.toInt
theorem isD_O {T : Cd} {b : Nat → Nat} {lim : Nat} {ds wr st se : Int32} (h : isD T b lim ds wr st se) : isO (dsO T b lim) ds := by
  rcases h with ⟨-, ⟨d, h2, h3⟩, -⟩ | ⟨h1, h2, -⟩
  · rw [h2]; exact h3
  · rw [dsO_none h1]; exact h2
theorem isD_S {T : Cd} {b : Nat → Nat} {lim d : Nat} {ds wr st se : Int32} (h : isD T b lim ds wr st se) (hd : dsO T b lim = some d) : ds.toInt = (d : Int) ∧ wr.toInt = (wrW T b lim : Int) ∧ st.toInt = (lcS T (2 ^ cn T - 1 - wrW T b lim) (cn T) : Int) ∧ se.toInt = (fa_cnt (okW T b lim (fewW T b lim)) (2 ^ cn T) : Int) := by
  rcases h with ⟨-, ⟨d2, h2, h3⟩, h4, h5, h6⟩ | ⟨h1, -⟩
  · rw [hd] at h2; cases h2; exact ⟨h3, h4, h5, h6⟩
  · rw [dsO_none h1] at hd; cases hd
theorem isD_N {T : Cd} {b : Nat → Nat} {lim : Nat} {ds wr st se : Int32} (h : isD T b lim ds wr st se) (hd : dsO T b lim = none) : ds.toInt = -1 ∧ wr.toInt = 0 ∧ st.toInt = 0 ∧ se.toInt = 0 := by
  rcases h with ⟨-, ⟨d2, h2, -⟩, -⟩ | ⟨-, h1, h2, h3, h4⟩
  · rw [hd] at h2; cases h2
  · exact ⟨h1, h2, h3, h4⟩
theorem sX0_finding_13 (T : Cd) (b : Nat → Nat) (lim : Nat) (E : Nat → Int32) (parts limit p1 : Int32) (H : preX0_finding T b lim E parts limit p1) (s0 : Int32) (hs : s0 = if (dsO T b lim).isSome then 1 else 0) : vX0_finding_c13 E parts limit p1 (postX0_finding T b lim E parts limit p1) s0 := by
  obtain ⟨hL, hD, hlim, hl9⟩ := H
  unfold vX0_finding_c13
  rw [hs, q_ifB]
  unfold postX0_finding fdZ
  simp only [fa_eq p1, z0, z1, z2, z3, z4, z5]
  have hO := isD_O hD
  have hgu : ∃ (o : Option Nat) (st l2 : Nat), preX0_guesses o st l2 E parts limit ∧ ∀ r : Int32, postX0_guesses o st l2 E parts limit r → r.toInt = ((guN (dsO T b lim) (lcS T (2 ^ cn T - 1 - wrW T b lim) (cn T)) lim : Nat) : Int) := by
    refine ⟨dsO T b lim, lcS T (2 ^ cn T - 1 - wrW T b lim) (cn T), lim, ⟨hO, fun d hd => ⟨dsO_lt hd, lcS_pos hL _ _ (Nat.le_refl _), (isD_S hD hd).2.2.1⟩, hlim, hl9⟩, fun r hr => hr⟩
  cases hd : dsO T b lim with
  | none =>
    obtain ⟨e1, e2, e3, e4⟩ := isD_N hD hd
    rw [hd] at hgu
    refine ⟨fun q => ?_, fun q => ⟨fun _ => ?_, fun z => absurd rfl z⟩, fun q => ⟨fun _ => ?_, fun z => absurd rfl z⟩, fun q => ?_, fun q => ⟨fun _ => ?_, fun z => absurd rfl z⟩, fun q => ?_, fun q0 q1 q2 q3 q4 q5 => ?_⟩
    · rw [if_pos q]; exact e1
    · simp [q]
    · simp [q]
    · simpa [q] using hgu
    · simp [q]
    · simp [q]; exact e4
    · simp [q0, q1, q2, q3, q4, q5]
  | some d =>
    obtain ⟨e1, e2, e3, e4⟩ := isD_S hD hd
    rw [hd] at hgu
    refine ⟨fun q => ?_, fun q => ⟨fun z => absurd z (by simp), fun _ => ?_⟩, fun q => ⟨fun z => absurd z (by simp), fun _ => ?_⟩, fun q => ?_, fun q => ⟨fun z => absurd z (by simp), fun _ => ⟨fun z => ?_, fun z => ?_⟩⟩, fun q => ?_, fun q0 q1 q2 q3 q4 q5 => ?_⟩
    · rw [if_pos q]; exact e1
    · simp [q]; exact e2
    · simp [q]; exact e3
    · simpa [q] using hgu
    · rw [fa_eq, z0, e2] at z
      simp [q, show ¬ wrW T b lim = 0 by omega]
    · rw [fa_eq, z0, e2] at z
      simp [q, show wrW T b lim = 0 by omega]
    · simp [q]; exact e4
    · simp [q0, q1, q2, q3, q4, q5]
theorem sX0_finding (T : Cd) (b : Nat → Nat) (lim : Nat) (E : Nat → Int32) (parts limit p1 : Int32) (H : preX0_finding T b lim E parts limit p1) : vX0_finding E parts limit p1 (postX0_finding T b lim E parts limit p1) := by
  have hO := isD_O H.2.1
  unfold vX0_finding
  rw [fa_eq (E 8), zm1]
  cases hd : dsO T b lim with
  | none =>
    rw [hd] at hO
    have hO : (E 8).toInt = -1 := hO
    exact ⟨fun _ => sX0_finding_13 T b lim E parts limit p1 H _ (by rw [hd]; rfl), fun q => absurd hO q⟩
  | some d =>
    rw [hd] at hO
    have hO : (E 8).toInt = (d : Int) := hO
    exact ⟨fun q => absurd q (by omega), fun _ => sX0_finding_13 T b lim E parts limit p1 H _ (by rw [hd]; rfl)⟩
