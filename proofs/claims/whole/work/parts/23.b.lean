set_option maxRecDepth 20000 in
theorem ggX6_kinOf_X8_commonDivisor : GoodIn wsX6_kinOf wsX8_commonDivisor := goodIn_r _ [5] (by decide +kernel) (by decide +kernel)
set_option maxRecDepth 20000 in
theorem gX6_kinOf_X8_commonDivisor_n63 : GoodIn wsX6_kinOf (wsX8_commonDivisor) := ggX6_kinOf_X8_commonDivisor
set_option maxRecDepth 20000 in
theorem ggX6_kinOf_X8_commonMultiple : GoodIn wsX6_kinOf wsX8_commonMultiple := goodIn_r _ [7, 8, 3, 4, 5] (by decide +kernel) (by decide +kernel)
set_option maxRecDepth 20000 in
theorem gX6_kinOf_X8_commonMultiple_n67 : GoodIn wsX6_kinOf (wsX8_commonMultiple) := ggX6_kinOf_X8_commonMultiple
theorem dX6_kinOf_0 : decode cX6_kinOf 0 = .ok (.iconst 1, 1) := by decide +kernel
theorem dX6_kinOf_1 : decode cX6_kinOf 1 = .ok (.iload_n 1, 1) := by decide +kernel
theorem dX6_kinOf_2 : decode cX6_kinOf 2 = .ok (.ishl, 1) := by decide +kernel
theorem dX6_kinOf_3 : decode cX6_kinOf 3 = .ok (.istore_n 2, 1) := by decide +kernel
theorem dX6_kinOf_4 : decode cX6_kinOf 4 = .ok (.aload_n 0, 1) := by decide +kernel
theorem dX6_kinOf_5 : decode cX6_kinOf 5 = .ok (.getfield 11, 3) := by decide +kernel
theorem dX6_kinOf_8 : decode cX6_kinOf 8 = .ok (.iload_n 1, 1) := by decide +kernel
theorem dX6_kinOf_9 : decode cX6_kinOf 9 = .ok (.iaload, 1) := by decide +kernel
theorem dX6_kinOf_10 : decode cX6_kinOf 10 = .ok (.istore_n 3, 1) := by decide +kernel
theorem dX6_kinOf_11 : decode cX6_kinOf 11 = .ok (.iconst 0, 1) := by decide +kernel
theorem dX6_kinOf_12 : decode cX6_kinOf 12 = .ok (.istore 4, 2) := by decide +kernel
theorem dX6_kinOf_14 : decode cX6_kinOf 14 = .ok (.iload 4, 2) := by decide +kernel
theorem dX6_kinOf_16 : decode cX6_kinOf 16 = .ok (.aload_n 0, 1) := by decide +kernel
theorem dX6_kinOf_17 : decode cX6_kinOf 17 = .ok (.getfield 34, 3) := by decide +kernel
theorem dX6_kinOf_20 : decode cX6_kinOf 20 = .ok (.if_icmp .ge 64, 3) := by decide +kernel
theorem dX6_kinOf_23 : decode cX6_kinOf 23 = .ok (.iconst 0, 1) := by decide +kernel
theorem dX6_kinOf_24 : decode cX6_kinOf 24 = .ok (.istore 5, 2) := by decide +kernel
theorem dX6_kinOf_26 : decode cX6_kinOf 26 = .ok (.iload 5, 2) := by decide +kernel
theorem dX6_kinOf_28 : decode cX6_kinOf 28 = .ok (.aload_n 0, 1) := by decide +kernel
theorem dX6_kinOf_29 : decode cX6_kinOf 29 = .ok (.getfield 34, 3) := by decide +kernel
theorem dX6_kinOf_32 : decode cX6_kinOf 32 = .ok (.if_icmp .ge 46, 3) := by decide +kernel
theorem dX6_kinOf_35 : decode cX6_kinOf 35 = .ok (.iload_n 3, 1) := by decide +kernel
theorem dX6_kinOf_36 : decode cX6_kinOf 36 = .ok (.i2l, 1) := by decide +kernel
theorem dX6_kinOf_37 : decode cX6_kinOf 37 = .ok (.aload_n 0, 1) := by decide +kernel
theorem dX6_kinOf_38 : decode cX6_kinOf 38 = .ok (.getfield 11, 3) := by decide +kernel
theorem dX6_kinOf_41 : decode cX6_kinOf 41 = .ok (.iload 5, 2) := by decide +kernel
theorem dX6_kinOf_43 : decode cX6_kinOf 43 = .ok (.iaload, 1) := by decide +kernel
theorem dX6_kinOf_44 : decode cX6_kinOf 44 = .ok (.i2l, 1) := by decide +kernel
theorem dX6_kinOf_45 : decode cX6_kinOf 45 = .ok (.invokestatic 63, 3) := by decide +kernel
theorem dX6_kinOf_48 : decode cX6_kinOf 48 = .ok (.lconst 1, 1) := by decide +kernel
theorem dX6_kinOf_49 : decode cX6_kinOf 49 = .ok (.lcmp, 1) := by decide +kernel
theorem dX6_kinOf_50 : decode cX6_kinOf 50 = .ok (.ifCond .le 22, 3) := by decide +kernel
theorem dX6_kinOf_53 : decode cX6_kinOf 53 = .ok (.iload_n 2, 1) := by decide +kernel
theorem dX6_kinOf_54 : decode cX6_kinOf 54 = .ok (.iconst 1, 1) := by decide +kernel
theorem dX6_kinOf_55 : decode cX6_kinOf 55 = .ok (.iload 5, 2) := by decide +kernel
theorem dX6_kinOf_57 : decode cX6_kinOf 57 = .ok (.ishl, 1) := by decide +kernel
theorem dX6_kinOf_58 : decode cX6_kinOf 58 = .ok (.ior, 1) := by decide +kernel
theorem dX6_kinOf_59 : decode cX6_kinOf 59 = .ok (.istore_n 2, 1) := by decide +kernel
theorem dX6_kinOf_60 : decode cX6_kinOf 60 = .ok (.iload_n 3, 1) := by decide +kernel
theorem dX6_kinOf_61 : decode cX6_kinOf 61 = .ok (.aload_n 0, 1) := by decide +kernel
theorem dX6_kinOf_62 : decode cX6_kinOf 62 = .ok (.getfield 11, 3) := by decide +kernel
theorem dX6_kinOf_65 : decode cX6_kinOf 65 = .ok (.iload 5, 2) := by decide +kernel
theorem dX6_kinOf_67 : decode cX6_kinOf 67 = .ok (.iaload, 1) := by decide +kernel
theorem dX6_kinOf_68 : decode cX6_kinOf 68 = .ok (.invokestatic 67, 3) := by decide +kernel
theorem dX6_kinOf_71 : decode cX6_kinOf 71 = .ok (.istore_n 3, 1) := by decide +kernel
theorem dX6_kinOf_72 : decode cX6_kinOf 72 = .ok (.iinc 5 1, 3) := by decide +kernel
theorem dX6_kinOf_75 : decode cX6_kinOf 75 = .ok (.goto (-49), 3) := by decide +kernel
theorem dX6_kinOf_78 : decode cX6_kinOf 78 = .ok (.iinc 4 1, 3) := by decide +kernel
theorem dX6_kinOf_81 : decode cX6_kinOf 81 = .ok (.goto (-67), 3) := by decide +kernel
theorem dX6_kinOf_84 : decode cX6_kinOf 84 = .ok (.iload_n 2, 1) := by decide +kernel
theorem dX6_kinOf_85 : decode cX6_kinOf 85 = .ok (.ireturn, 1) := by decide +kernel
abbrev rmX6_kinOf : Room := { frames := 2, cells := 0, slots := 0, locals := 52 }
theorem inX6_kinOf_6 : ∀ w ∈ wsX60, w ∈ wsX6_kinOf := by decide +kernel
def vX6_kinOf_c26 (pa6 : Int32) (rw6 : Int32) (le6 : Nat → Int32) (p1 : Int32) (Q : Int32 → Prop) (K14 : Int32 → Int32 → Int32 → Prop) : Nat → Int32 → Int32 → Int32 → Int32 → Prop
  | 0, _, _, _, _ => False
  | n + 1, x2, x3, x4, x5 => ((rw6 ≤ x5 → (K14 x2 x3 (x4 + (1 : Int32)))) ∧ (¬ rw6 ≤ x5 → (vp_in x5 6 ∧ (∃ (a_45 : Nat) (b_45 : Nat), preX8_commonDivisor a_45 b_45 (x3.toInt64) ((le6 x5.toNatClampNeg).toInt64) ∧ (∀ r_45 : Int64, postX8_commonDivisor a_45 b_45 (x3.toInt64) ((le6 x5.toNatClampNeg).toInt64) r_45 → (((lg_cmp r_45 (1 : Int64)) ≤ 0 → (vX6_kinOf_c26 pa6 rw6 le6 p1 Q K14 n x2 x3 x4 (x5 + (1 : Int32)))) ∧ (¬ (lg_cmp r_45 (1 : Int64)) ≤ 0 → (∀ y_59 : Int32, y_59 = (x2 ||| ((1 : Int32) <<< (x5 &&& 31))) → (vp_in x5 6 ∧ (∃ (a_68 : Nat) (b_68 : Nat), preX8_commonMultiple a_68 b_68 x3 (le6 x5.toNatClampNeg) ∧ (∀ r_68 : Int32, postX8_commonMultiple a_68 b_68 x3 (le6 x5.toNatClampNeg) r_68 → (vX6_kinOf_c26 pa6 rw6 le6 p1 Q K14 n y_59 r_68 x4 (x5 + (1 : Int32))))))))))))))
set_option maxHeartbeats 4000000 in
set_option maxRecDepth 100000 in
theorem kX6_kinOf_c26 {p : Program} {l : Launch} {e : Env} {s : State} {m : MethodId} {args : Array Value} {below : List Frame} {meth : Method} {c : Code} {g : GP} {qty : Nat} {ql6 : Nat} {qb6 : Nat} {qc6 : Nat} {qk6 : Nat} {qm6 : Nat} {pa6 : Int32} {rw6 : Int32} {le6 : Nat → Int32} {p1 : Int32} {Q : Int32 → Prop} {K14 : Int32 → Int32 → Int32 → Prop} (S : CallFix p m c cX6_kinOf 6 s args wsX6_kinOf RX6) (hr : meth.sig.returnType = (some .int)) (hlocks : meth.locks = false) (hG : GK g s) (hP : va_P g.1 vwCl [(qty, .inr (6, [.ref ql6, .ref qb6, .ref qc6, .ref qk6, .ref qm6, .int pa6, .int rw6])), (ql6, .inl (g.2 0, 6, .inl le6))] s.heap) (kk14 : ∀ (x2 : Int32) (x3 : Int32) (x4 : Int32), K14 x2 x3 x4 → ∀ (ls : Array Slot), lv_has ls 6 [(0, .ref qty), (2, .int x2), (3, .int x3), (4, .int x4)] → W p l e (headSpec wsX6_kinOf rmX6_kinOf).room s m args below meth c s.heap [] 0 0 (MQ below (vp_Si Q) args s 0 0 (fun _ => False)) (F0 m 14 ls [])) : ∀ (n : Nat), ∀ (x2 : Int32) (x3 : Int32) (x4 : Int32) (x5 : Int32), vX6_kinOf_c26 pa6 rw6 le6 p1 Q K14 n x2 x3 x4 x5 → ∀ (ls : Array Slot), lv_has ls 6 [(0, .ref qty), (2, .int x2), (3, .int x3), (4, .int x4), (5, .int x5)] → W p l e (headSpec wsX6_kinOf rmX6_kinOf).room s m args below meth c s.heap [] 0 0 (MQ below (vp_Si Q) args s 0 0 (fun _ => False)) (F0 m 26 ls []) := by
  obtain ⟨hx, hb, hml, hown, hts⟩ := id S
  have hK := hG.1
  intro n
  induction n with
  | zero => intro x2 x3 x4 x5 hv; exact hv.elim
  | succ n ih =>
    intro x2 x3 x4 x5 hv ls hl
    refine lv_iload hx hb dX6_kinOf_26 (lv_at hl 4 rfl) ?_
    refine lv_aload_n hx hb dX6_kinOf_28 rfl (lv_at hl 0 rfl) ?_
    refine va_get (D := g.1) (ci := 6) (v := .int rw6) (C := RX6) (T := TX6) (N := 7) hx hb hts inX6_kinOf_6 hown hK hP 0 rfl rfl 6 (by decide) (hts (.fieldLink RX6 34 "RangeCodes$Tally" "rows" "I") (List.mem_of_getElem? (i := 2) rfl)) (fun _ h9 => h9) rfl dX6_kinOf_29 ?_
    obtain ⟨hvt, hvf⟩ := hv
    refine lv_icmp_ge (tgt := 78) hx hb dX6_kinOf_32 (by decide) (fun hc => ?_) (fun hc => ?_)
    · have hv := hvt hc
      refine lv_iinc (v := (x4 + (1 : Int32))) (lv' := [(4, .int (x4 + (1 : Int32))), (0, .ref qty), (2, .int x2), (3, .int x3), (5, .int x5)]) hx hb dX6_kinOf_78 hl (k := 3) rfl rfl (by decide) rfl (fun ls hl => ?_)
      refine lv_goto (tgt := 14) hx hb dX6_kinOf_81 (by decide) ?_
      exact kk14 _ _ _ hv ls (lv_sub hl [1, 2, 3, 0] rfl)
    · have hv := hvf hc
      refine lv_iload_n hx hb dX6_kinOf_35 rfl (lv_at hl 2 rfl) ?_
      refine lv_i2l (v := (x3.toInt64)) hx hb dX6_kinOf_36 rfl ?_
      refine lv_aload_n hx hb dX6_kinOf_37 rfl (lv_at hl 0 rfl) ?_
      refine va_get (D := g.1) (ci := 6) (v := .ref ql6) (C := RX6) (T := TX6) (N := 7) hx hb hts inX6_kinOf_6 hown hK hP 0 rfl rfl 0 (by decide) (hts (.fieldLink RX6 11 "RangeCodes$Tally" "lengths" "[I") (List.mem_of_getElem? (i := 1) rfl)) (fun _ h9 => h9) rfl dX6_kinOf_38 ?_
      refine lv_iload hx hb dX6_kinOf_41 (lv_at hl 4 rfl) ?_
      obtain ⟨ho_1, hv⟩ := hv
      refine va_iald hx hb hK hP 1 0 rfl rfl ho_1 dX6_kinOf_43 ?_
      refine lv_i2l (v := ((le6 x5.toNatClampNeg).toInt64)) hx hb dX6_kinOf_44 rfl ?_
      obtain ⟨a_45, b_45, ho_2, hv⟩ := hv
      refine vp_callSl (run_of (va_runSN (As := [.long (x3.toInt64), .long ((le6 x5.toNatClampNeg).toInt64)]) (rest := []) S (wX8_commonDivisor l g (x3.toInt64) ((le6 x5.toNatClampNeg).toInt64) (sX8_commonDivisor a_45 b_45 (x3.toInt64) ((le6 x5.toNatClampNeg).toInt64) ho_2)) ⟨va_cnB 2 hts gX6_kinOf_X8_commonDivisor_n63 rfl rfl rfl (hG.2 _ (List.mem_of_getElem? (i := 5) rfl)) (hts (.initialized RX8) (List.mem_of_getElem? (i := 4) rfl)) (by decide +kernel) ⟨Nat.le_of_ble_eq_true rfl, Nat.le_of_ble_eq_true rfl⟩, (hts (.static yX8_commonDivisor) (List.mem_of_getElem? (i := 3) rfl)), trivial⟩ ⟨blindRO, fun U hU hW => ⟨rfl, by rw [hU]; exact hP.sub (ws' := []) [] rfl, hG.warm hW⟩⟩ rfl rfl hl.1 rfl (lv_room (Nat.le_of_ble_eq_true rfl)) dX6_kinOf_45 ⟨Nat.le_of_ble_eq_true rfl, Nat.le_of_ble_eq_true rfl⟩)) (fun r_45 hr_45 => ?_)
      have hv := hv r_45 hr_45
      refine lv_lconst (v := (1 : Int64)) hx hb dX6_kinOf_48 (by decide) ?_
      refine W.lcmp hx hb dX6_kinOf_49 ?_
      obtain ⟨hvt, hvf⟩ := hv
      refine lv_if_le (tgt := 72) hx hb dX6_kinOf_50 (by decide) (fun hc => ?_) (fun hc => ?_)
      · have hv := hvt hc
        refine lv_iinc (v := (x5 + (1 : Int32))) (lv' := [(5, .int (x5 + (1 : Int32))), (0, .ref qty), (2, .int x2), (3, .int x3), (4, .int x4)]) hx hb dX6_kinOf_72 hl (k := 4) rfl rfl (by decide) rfl (fun ls hl => ?_)
        refine lv_goto (tgt := 26) hx hb dX6_kinOf_75 (by decide) ?_
        exact ih _ _ _ _ hv ls (lv_sub hl [1, 2, 3, 4, 0] rfl)
      · have hv := hvf hc
        refine lv_iload_n hx hb dX6_kinOf_53 rfl (lv_at hl 1 rfl) ?_
        refine lv_iconst (v := (1 : Int32)) hx hb dX6_kinOf_54 (by decide) ?_
        refine lv_iload hx hb dX6_kinOf_55 (lv_at hl 4 rfl) ?_
        refine lv_ishl hx hb dX6_kinOf_57 ?_
        refine lv_ior hx hb dX6_kinOf_58 ?_
        refine lv_topi (fun y_59 ey_59 => ?_)
        have hv := hv y_59 ey_59
        refine lv_istore_n (lv' := [(2, .int y_59), (0, .ref qty), (3, .int x3), (4, .int x4), (5, .int x5)]) hx hb dX6_kinOf_59 rfl hl (by decide) rfl (fun ls hl => ?_)
        refine lv_iload_n hx hb dX6_kinOf_60 rfl (lv_at hl 2 rfl) ?_
        refine lv_aload_n hx hb dX6_kinOf_61 rfl (lv_at hl 1 rfl) ?_
        refine va_get (D := g.1) (ci := 6) (v := .ref ql6) (C := RX6) (T := TX6) (N := 7) hx hb hts inX6_kinOf_6 hown hK hP 0 rfl rfl 0 (by decide) (hts (.fieldLink RX6 11 "RangeCodes$Tally" "lengths" "[I") (List.mem_of_getElem? (i := 1) rfl)) (fun _ h9 => h9) rfl dX6_kinOf_62 ?_
        refine lv_iload hx hb dX6_kinOf_65 (lv_at hl 4 rfl) ?_
        obtain ⟨ho_3, hv⟩ := hv
        refine va_iald hx hb hK hP 1 0 rfl rfl ho_3 dX6_kinOf_67 ?_
        obtain ⟨a_68, b_68, ho_4, hv⟩ := hv
        refine vp_callSi (run_of (va_runSN (As := [.int x3, .int (le6 x5.toNatClampNeg)]) (rest := []) S (wX8_commonMultiple l g x3 (le6 x5.toNatClampNeg) (sX8_commonMultiple a_68 b_68 x3 (le6 x5.toNatClampNeg) ho_4)) ⟨va_cnB 2 hts gX6_kinOf_X8_commonMultiple_n67 rfl rfl rfl (hG.2 _ (List.mem_of_getElem? (i := 6) rfl)) (hts (.initialized RX8) (List.mem_of_getElem? (i := 4) rfl)) (by decide +kernel) ⟨Nat.le_of_ble_eq_true rfl, Nat.le_of_ble_eq_true rfl⟩, (hts (.static yX8_commonMultiple) (List.mem_of_getElem? (i := 6) rfl)), trivial⟩ ⟨blindRO, fun U hU hW => ⟨rfl, by rw [hU]; exact hP.sub (ws' := []) [] rfl, hG.warm hW⟩⟩ rfl rfl hl.1 rfl (lv_room (Nat.le_of_ble_eq_true rfl)) dX6_kinOf_68 ⟨Nat.le_of_ble_eq_true rfl, Nat.le_of_ble_eq_true rfl⟩)) (fun r_68 hr_68 => ?_)
        have hv := hv r_68 hr_68
        refine lv_istore_n (lv' := [(3, .int r_68), (2, .int y_59), (0, .ref qty), (4, .int x4), (5, .int x5)]) hx hb dX6_kinOf_71 rfl hl (by decide) rfl (fun ls hl => ?_)
        refine lv_iinc (v := (x5 + (1 : Int32))) (lv' := [(5, .int (x5 + (1 : Int32))), (3, .int r_68), (2, .int y_59), (0, .ref qty), (4, .int x4)]) hx hb dX6_kinOf_72 hl (k := 4) rfl rfl (by decide) rfl (fun ls hl => ?_)
        refine lv_goto (tgt := 26) hx hb dX6_kinOf_75 (by decide) ?_
        exact ih _ _ _ _ hv ls (lv_sub hl [3, 2, 1, 4, 0] rfl)
def vX6_kinOf_c14 (pa6 : Int32) (rw6 : Int32) (le6 : Nat → Int32) (p1 : Int32) (Q : Int32 → Prop) : Nat → Int32 → Int32 → Int32 → Prop
  | 0, _, _, _ => False
  | n + 1, x2, x3, x4 => ((rw6 ≤ x4 → (Q x2)) ∧ (¬ rw6 ≤ x4 → (∃ nn, vX6_kinOf_c26 pa6 rw6 le6 p1 Q (vX6_kinOf_c14 pa6 rw6 le6 p1 Q n) nn x2 x3 x4 (0 : Int32))))
set_option maxHeartbeats 4000000 in
set_option maxRecDepth 100000 in
theorem kX6_kinOf_c14 {p : Program} {l : Launch} {e : Env} {s : State} {m : MethodId} {args : Array Value} {below : List Frame} {meth : Method} {c : Code} {g : GP} {qty : Nat} {ql6 : Nat} {qb6 : Nat} {qc6 : Nat} {qk6 : Nat} {qm6 : Nat} {pa6 : Int32} {rw6 : Int32} {le6 : Nat → Int32} {p1 : Int32} {Q : Int32 → Prop} (S : CallFix p m c cX6_kinOf 6 s args wsX6_kinOf RX6) (hr : meth.sig.returnType = (some .int)) (hlocks : meth.locks = false) (hG : GK g s) (hP : va_P g.1 vwCl [(qty, .inr (6, [.ref ql6, .ref qb6, .ref qc6, .ref qk6, .ref qm6, .int pa6, .int rw6])), (ql6, .inl (g.2 0, 6, .inl le6))] s.heap) : ∀ (n : Nat), ∀ (x2 : Int32) (x3 : Int32) (x4 : Int32), vX6_kinOf_c14 pa6 rw6 le6 p1 Q n x2 x3 x4 → ∀ (ls : Array Slot), lv_has ls 6 [(0, .ref qty), (2, .int x2), (3, .int x3), (4, .int x4)] → W p l e (headSpec wsX6_kinOf rmX6_kinOf).room s m args below meth c s.heap [] 0 0 (MQ below (vp_Si Q) args s 0 0 (fun _ => False)) (F0 m 14 ls []) := by
  obtain ⟨hx, hb, hml, hown, hts⟩ := id S
  have hK := hG.1
  intro n
  induction n with
  | zero => intro x2 x3 x4 hv; exact hv.elim
  | succ n ih =>
    intro x2 x3 x4 hv ls hl
    refine lv_iload hx hb dX6_kinOf_14 (lv_at hl 3 rfl) ?_
    refine lv_aload_n hx hb dX6_kinOf_16 rfl (lv_at hl 0 rfl) ?_
    refine va_get (D := g.1) (ci := 6) (v := .int rw6) (C := RX6) (T := TX6) (N := 7) hx hb hts inX6_kinOf_6 hown hK hP 0 rfl rfl 6 (by decide) (hts (.fieldLink RX6 34 "RangeCodes$Tally" "rows" "I") (List.mem_of_getElem? (i := 2) rfl)) (fun _ h9 => h9) rfl dX6_kinOf_17 ?_
    obtain ⟨hvt, hvf⟩ := hv
    refine lv_icmp_ge (tgt := 84) hx hb dX6_kinOf_20 (by decide) (fun hc => ?_) (fun hc => ?_)
    · have hv := hvt hc
      refine lv_iload_n hx hb dX6_kinOf_84 rfl (lv_at hl 1 rfl) ?_
      exact W.iret (v := x2) hx hb hr (fun t ht hW => ⟨_, rfl, hv, ht⟩) (fun _ h => by cases h) dX6_kinOf_85
    · have hv := hvf hc
      refine lv_iconst (v := (0 : Int32)) hx hb dX6_kinOf_23 (by decide) ?_
      refine lv_istore (lv' := [(5, .int (0 : Int32)), (0, .ref qty), (2, .int x2), (3, .int x3), (4, .int x4)]) hx hb dX6_kinOf_24 hl (by decide) rfl (fun ls hl => ?_)
      obtain ⟨nn, hv⟩ := hv
      exact kX6_kinOf_c26 S hr hlocks hG hP ih nn _ _ _ _ hv ls (lv_sub hl [1, 2, 3, 4, 0] rfl)
def vX6_kinOf (pa6 : Int32) (rw6 : Int32) (le6 : Nat → Int32) (p1 : Int32) (Q : Int32 → Prop) : Prop := (∀ y_3 : Int32, y_3 = ((1 : Int32) <<< (p1 &&& 31)) → (vp_in p1 6 ∧ (∃ nn, vX6_kinOf_c14 pa6 rw6 le6 p1 Q nn y_3 (le6 p1.toNatClampNeg) (0 : Int32))))
set_option maxHeartbeats 4000000 in
set_option maxRecDepth 100000 in
theorem wX6_kinOf (l : Launch) (g : GP) (qty : Nat) (ql6 : Nat) (qb6 : Nat) (qc6 : Nat) (qk6 : Nat) (qm6 : Nat) (pa6 : Int32) (rw6 : Int32) (le6 : Nat → Int32) (p1 : Int32) {Q : Int32 → Prop} (hv : vX6_kinOf pa6 rw6 le6 p1 Q) : Met l yX6_kinOf wsX6_kinOf rmX6_kinOf (va_Pc [.ref qty, .int p1] (fun U => va_P g.1 vwCl [(qty, .inr (6, [.ref ql6, .ref qb6, .ref qc6, .ref qk6, .ref qm6, .int pa6, .int rw6])), (ql6, .inl (g.2 0, 6, .inl le6))] U.heap ∧ GK g U)) (vp_Si Q) 0 0 (fun _ => False) := by
  refine Met.ofW (cc := cX6_kinOf) (maxL := 6) (ret := (some .int)) (by decide) rfl ?_
  intro p e s m args below meth c s₁ B hml hv'
  obtain ⟨rfl, hP, hG⟩ := hv'
  have S : CallFix p m c cX6_kinOf 6 s _ wsX6_kinOf RX6 := ⟨B.exec, B.bytes, hml, findClass_of_methodNamed B.named, atoms_spec (ws := wsX6_kinOf) B.pre⟩
  obtain ⟨hx, hb, hml, hown, hts⟩ := id S
  have hK := hG.1
  have hr := B.returns
  have hlocks := B.notSynchronized
  have hl := lv_entry ([.ref qty, .int p1]) (n := 6) (Nat.le_of_ble_eq_true rfl)
  rw [lg_entry_eq]
  generalize (lg_sl ([.ref qty, .int p1]) ++ List.replicate (6 - (lg_sl ([.ref qty, .int p1])).length) Slot.unset).toArray = ls at hl ⊢
  have hl : lv_has ls 6 [(0, .ref qty), (1, .int p1)] := hl
  unfold vX6_kinOf at hv
  refine lv_iconst (v := (1 : Int32)) hx hb dX6_kinOf_0 (by decide) ?_
  refine lv_iload_n hx hb dX6_kinOf_1 rfl (lv_at hl 1 rfl) ?_
  refine lv_ishl hx hb dX6_kinOf_2 ?_
  refine lv_topi (fun y_3 ey_3 => ?_)
  have hv := hv y_3 ey_3
  refine lv_istore_n (lv' := [(2, .int y_3), (0, .ref qty), (1, .int p1)]) hx hb dX6_kinOf_3 rfl hl (by decide) rfl (fun ls hl => ?_)
  refine lv_aload_n hx hb dX6_kinOf_4 rfl (lv_at hl 1 rfl) ?_
  refine va_get (D := g.1) (ci := 6) (v := .ref ql6) (C := RX6) (T := TX6) (N := 7) hx hb hts inX6_kinOf_6 hown hK hP 0 rfl rfl 0 (by decide) (hts (.fieldLink RX6 11 "RangeCodes$Tally" "lengths" "[I") (List.mem_of_getElem? (i := 1) rfl)) (fun _ h9 => h9) rfl dX6_kinOf_5 ?_
  refine lv_iload_n hx hb dX6_kinOf_8 rfl (lv_at hl 2 rfl) ?_
  obtain ⟨ho_1, hv⟩ := hv
  refine va_iald hx hb hK hP 1 0 rfl rfl ho_1 dX6_kinOf_9 ?_
  refine lv_istore_n (lv' := [(3, .int (le6 p1.toNatClampNeg)), (2, .int y_3), (0, .ref qty), (1, .int p1)]) hx hb dX6_kinOf_10 rfl hl (by decide) rfl (fun ls hl => ?_)
  refine lv_iconst (v := (0 : Int32)) hx hb dX6_kinOf_11 (by decide) ?_
  refine lv_istore (lv' := [(4, .int (0 : Int32)), (3, .int (le6 p1.toNatClampNeg)), (2, .int y_3), (0, .ref qty), (1, .int p1)]) hx hb dX6_kinOf_12 hl (by decide) rfl (fun ls hl => ?_)
  obtain ⟨nn, hv⟩ := hv
  exact kX6_kinOf_c14 S hr hlocks hG hP nn _ _ _ hv ls (lv_sub hl [3, 2, 1, 0] rfl)
def kiI (R : Cd) (r0 K M : Nat) : Prop := K < 64 ∧ K.testBit r0 = true ∧ (∀ r, K.testBit r = true → r < cn R ∧ cL R r ∣ M) ∧ M ∣ 360360 ∧ 0 < M ∧ ∀ N, Nat.Coprime N (cL R r0) → (∀ r, r < cn R → Nat.Coprime N (cL R r) ∨ cL R r ∣ N) → Nat.Coprime N M
def kiC (R : Cd) (K M : Nat) : Prop := ∀ r, r < cn R → K.testBit r = true ∨ Nat.Coprime M (cL R r)
def kiN (R : Cd) (K : Nat) : Nat := fa_cnt (fun r => K.testBit r) (cn R)
theorem cnt_le2 {p q : Nat → Bool} (h : ∀ r, p r = true → q r = true) : ∀ n, fa_cnt p n ≤ fa_cnt q n
  | 0 => Nat.le_refl _
  | n + 1 => by
    have ih := cnt_le2 h n
    cases e : p n
    · rw [fa_cnt_no e]
      cases e2 : q n
      · rw [fa_cnt_no e2]; exact ih
      · rw [fa_cnt_yes e2]; omega
    · rw [fa_cnt_yes e, fa_cnt_yes (h n e)]; omega
theorem cnt_lt {p q : Nat → Bool} (h : ∀ r, p r = true → q r = true) {o : Nat} (hq : q o = true) (hp : p o = false) : ∀ n, o < n → fa_cnt p n + 1 ≤ fa_cnt q n
  | 0, ho => absurd ho (by omega)
  | n + 1, ho => by
    by_cases e : o = n
    · subst e
      have := cnt_le2 h o
      rw [fa_cnt_no hp, fa_cnt_yes hq]; omega
    · have ih := cnt_lt h hq hp n (by omega)
      cases e1 : p n
      · rw [fa_cnt_no e1]
        cases e2 : q n
        · rw [fa_cnt_no e2]; exact ih
        · rw [fa_cnt_yes e2]; omega
      · rw [fa_cnt_yes e1, fa_cnt_yes (h n e1)]; omega
theorem or_bit (K o r : Nat) : (K ||| 2 ^ o).testBit r = (K.testBit r || decide (o = r)) := by
  rw [Nat.testBit_or, Nat.testBit_two_pow]
abbrev preX6_kinOf (R : Cd) (r0 : Nat) (pa6 : Int32) (rw6 : Int32) (le6 : Nat → Int32) (p1 : Int32) : Prop := rw6.toInt = (cn R : Int) ∧ cn R ≤ 6 ∧ isL R le6 ∧ p1.toInt = (r0 : Int) ∧ r0 < cn R
abbrev postX6_kinOf (R : Cd) (r0 : Nat) (pa6 : Int32) (rw6 : Int32) (le6 : Nat → Int32) (p1 : Int32) (r : Int32) : Prop := ∃ K : Nat, r.toInt = (K : Int) ∧ K < 64 ∧ K.testBit r0 = true ∧ (∀ x, K.testBit x = true → x < cn R) ∧ (∀ x, x < cn R → K.testBit x = true ∨ Nat.Coprime (lcS R K (cn R)) (cL R x)) ∧ ∀ N, Nat.Coprime N (cL R r0) → (∀ x, x < cn R → Nat.Coprime N (cL R x) ∨ cL R x ∣ N) → Nat.Coprime N (lcS R K (cn R))
theorem lcS_to {R : Cd} {M : Nat} (s : Nat) : ∀ k, (∀ p, p < k → s.testBit p = true → cL R p ∣ M) → lcS R s k ∣ M
  | 0, _ => by rw [lcS]; exact Nat.one_dvd _
  | k + 1, h => by
    have ih := lcS_to (R := R) s k (fun p hp hs => h p (by omega) hs)
    rw [lcS]
    split
    · exact Nat.lcm_dvd ih (h k (by omega) (by assumption))
    · exact ih
theorem sX6_kinOf_26 (R : Cd) (r0 : Nat) (pa6 : Int32) (rw6 : Int32) (le6 : Nat → Int32) (p1 : Int32) (H : preX6_kinOf R r0 pa6 rw6 le6 p1) (Q : Int32 → Prop) (K14 : Int32 → Int32 → Int32 → Prop) (x4 : Int32) (K0 M0 : Nat) (hK14 : ∀ (x2 x3 : Int32) (K M : Nat), x2.toInt = (K : Int) → x3.toInt = (M : Int) → kiI R r0 K M → (kiC R K M ∨ (¬ kiC R K0 M0 ∧ kiN R K0 + 1 ≤ kiN R K)) → K14 x2 x3 (x4 + (1 : Int32))) : ∀ (f o : Nat) (x2 x3 x5 : Int32) (K M : Nat), x2.toInt = (K : Int) → x3.toInt = (M : Int) → x5.toInt = (o : Int) → o ≤ cn R → kiI R r0 K M → ((K = K0 ∧ M = M0 ∧ ∀ r, r < o → K0.testBit r = true ∨ Nat.Coprime M0 (cL R r)) ∨ (¬ kiC R K0 M0 ∧ kiN R K0 + 1 ≤ kiN R K)) → cn R + 1 ≤ o + f → vX6_kinOf_c26 pa6 rw6 le6 p1 Q K14 f x2 x3 x4 x5
  | 0, o, x2, x3, x5, K, M, _, _, _, _, _, _, hf => absurd hf (by omega)
  | f + 1, o, x2, x3, x5, K, M, h2, h3, h5, ho, hI, hD, hf => by
    obtain ⟨a1, a2, a3, hp1, hr0⟩ := id H
    obtain ⟨i1, i2, i3, i4, i5, i6⟩ := id hI
    have hM := Nat.le_of_dvd (by decide) i4
    rw [vX6_kinOf_c26, q_le a1 h5]
    refine ⟨fun c => ?_, fun c => ⟨q_in h5 (by omega), ?_⟩⟩
    · refine hK14 x2 x3 K M h2 h3 hI ?_
      rcases hD with ⟨e1, e2, e3⟩ | d
      · subst e1 e2
        exact Or.inl (fun r hr => e3 r (by omega))
      · exact Or.inr d
    · have hL := a3 o (by omega)
      rw [q_cl h5]
      refine ⟨M, cL R o, ⟨q_i2l h3, q_i2l hL.1⟩, fun g hg => ?_⟩
      have hg : g.toInt = ((Nat.gcd M (cL R o) : Nat) : Int) := hg
      have hgp := Nat.gcd_pos_of_pos_left (cL R o) i5
      have z1l : (1 : Int64).toInt = 1 := rfl
      rw [lg_cmp_le, Int64.le_iff_toInt_le, hg, z1l]
      refine ⟨fun d => ?_, fun d y ey => ⟨q_in h5 (by omega), ?_⟩⟩
      · have hco : Nat.Coprime M (cL R o) := by
          show Nat.gcd M (cL R o) = 1
          omega
        refine sX6_kinOf_26 R r0 pa6 rw6 le6 p1 H Q K14 x4 K0 M0 hK14 f (o + 1) _ _ _ K M h2 h3 (q_1 h5 (by omega)) (by omega) hI ?_ (by omega)
        rcases hD with ⟨e1, e2, e3⟩ | dd
        · refine Or.inl ⟨e1, e2, fun r hr => ?_⟩
          by_cases e : r = o
          · subst e; subst e2; exact Or.inr hco
          · exact e3 r (by omega)
        · exact Or.inr dd
      · have hmm : M * cL R o ≤ 360360 * 13 := Nat.mul_le_mul hM hL.2.2
        refine ⟨M, cL R o, ⟨h3, hL.1, i5, by omega, by omega⟩, fun r hr => ?_⟩
        have hr : r.toInt = ((Nat.lcm M (cL R o) : Nat) : Int) := hr
        have e1 := q_shlN (x := (1 : Int32)) (a := 1) rfl h5 (by omega) (by have : 2 ^ o ≤ 2 ^ 5 := Nat.pow_le_pow_right (by decide) (by omega); omega)
        have h2o : 2 ^ o < 64 := Nat.lt_of_le_of_lt (Nat.pow_le_pow_right (by decide) (show o ≤ 5 by omega)) (by decide)
        have hy : y.toInt = ((K ||| 2 ^ o : Nat) : Int) := by rw [ey]; exact q_or h2 (by rw [e1]; omega) i1 h2o
        have hLd : cL R o ∣ 360360 := by
          have : ∀ x, x < 14 → 2 ≤ x → x ∣ 360360 := by decide
          exact this _ (by omega) hL.2.1
        have hI2 : kiI R r0 (K ||| 2 ^ o) (Nat.lcm M (cL R o)) := by
          refine ⟨or_lt i1 h2o, by rw [or_bit, i2]; rfl, fun x hx => ?_, Nat.lcm_dvd i4 hLd, Nat.lcm_pos i5 (by omega), fun N n1 n2 => ?_⟩
          · rw [or_bit] at hx
            by_cases e : o = x
            · subst e; exact ⟨by omega, Nat.dvd_lcm_right _ _⟩
            · have hx : K.testBit x = true := by simpa [e] using hx
              exact ⟨(i3 x hx).1, Nat.dvd_trans (i3 x hx).2 (Nat.dvd_lcm_left _ _)⟩
          · have nm := i6 N n1 n2
            rcases n2 o (by omega) with q | q
            · exact Nat.Coprime.coprime_dvd_right (Nat.lcm_dvd_mul _ _) (Nat.Coprime.mul_right nm q)
            · have : Nat.gcd M (cL R o) ∣ Nat.gcd N M := Nat.dvd_gcd (Nat.dvd_trans (Nat.gcd_dvd_right _ _) q) (Nat.gcd_dvd_left _ _)
              rw [show Nat.gcd N M = 1 from nm] at this
              have := Nat.le_of_dvd (by decide) this
              omega
        refine sX6_kinOf_26 R r0 pa6 rw6 le6 p1 H Q K14 x4 K0 M0 hK14 f (o + 1) _ _ _ (K ||| 2 ^ o) (Nat.lcm M (cL R o)) hy hr (q_1 h5 (by omega)) (by omega) hI2 ?_ (by omega)
        rcases hD with ⟨w1, w2, w3⟩ | ⟨d1, d2⟩
        · cases e : K.testBit o
          · refine Or.inr ⟨fun q => ?_, ?_⟩
            · rcases q o (by omega) with z | z
              · rw [← w1, e] at z; exact absurd z (by decide)
              · rw [← w2] at z
                have z : Nat.gcd M (cL R o) = 1 := z
                omega
            · rw [← w1]
              exact cnt_lt (p := fun r => K.testBit r) (q := fun r => (K ||| 2 ^ o).testBit r) (fun r hr => by show (K ||| 2 ^ o).testBit r = true; rw [or_bit]; have hr : K.testBit r = true := hr; rw [hr]; rfl) (o := o) (by show (K ||| 2 ^ o).testBit o = true; rw [or_bit]; simp) e _ (by omega)
          · have ek : K ||| 2 ^ o = K := by
              apply Nat.eq_of_testBit_eq
              intro r
              rw [or_bit]
              by_cases er : o = r
              · subst er; rw [e]; rfl
              · simp [er]
            have em : Nat.lcm M (cL R o) = M := Nat.lcm_eq_left (i3 o e).2
            rw [ek, em]
            refine Or.inl ⟨w1, w2, fun r hr => ?_⟩
            by_cases er : r = o
            · subst er; rw [← w1]; exact Or.inl e
            · exact w3 r (by omega)
        · refine Or.inr ⟨d1, Nat.le_trans d2 ?_⟩
          exact cnt_le2 (fun r hr => by show (K ||| 2 ^ o).testBit r = true; rw [or_bit]; have hr : K.testBit r = true := hr; rw [hr]; rfl) _
theorem sX6_kinOf_14 (R : Cd) (r0 : Nat) (pa6 : Int32) (rw6 : Int32) (le6 : Nat → Int32) (p1 : Int32) (H : preX6_kinOf R r0 pa6 rw6 le6 p1) : ∀ (f j : Nat) (x2 x3 x4 : Int32) (K M : Nat), x2.toInt = (K : Int) → x3.toInt = (M : Int) → x4.toInt = (j : Int) → j ≤ cn R → kiI R r0 K M → (kiC R K M ∨ j + 1 ≤ kiN R K) → cn R + 1 ≤ j + f → vX6_kinOf_c14 pa6 rw6 le6 p1 (postX6_kinOf R r0 pa6 rw6 le6 p1) f x2 x3 x4
  | 0, j, x2, x3, x4, K, M, _, _, _, _, _, _, hf => absurd hf (by omega)
  | f + 1, j, x2, x3, x4, K, M, h2, h3, h4, hj, hI, hC, hf => by
    obtain ⟨a1, a2, a3, hp1, hr0⟩ := id H
    rw [vX6_kinOf_c14, q_le a1 h4]
    refine ⟨fun c => ?_, fun c => ⟨cn R + 1, sX6_kinOf_26 R r0 pa6 rw6 le6 p1 H _ _ x4 K M (fun y2 y3 K2 M2 k2 k3 kI kD => sX6_kinOf_14 R r0 pa6 rw6 le6 p1 H f (j + 1) y2 y3 _ K2 M2 k2 k3 (q_1 h4 (by omega)) (by omega) kI ?_ (by omega)) _ 0 x2 x3 0 K M h2 h3 rfl (by omega) hI (Or.inl ⟨rfl, rfl, fun r hr => absurd hr (by omega)⟩) (by omega)⟩⟩
    · have hC : kiC R K M := by
        rcases hC with q | q
        · exact q
        · have : kiN R K ≤ cn R := fa_cnt_le _ _
          omega
      obtain ⟨i1, i2, i3, i4, i5, i6⟩ := hI
      have hd : lcS R K (cn R) ∣ M := lcS_to K (cn R) (fun p hp hs => (i3 p hs).2)
      exact ⟨K, h2, i1, i2, fun x hx => (i3 x hx).1, fun x hx => (hC x hx).imp id (fun q => Nat.Coprime.coprime_dvd_left hd q), fun N n1 n2 => Nat.Coprime.coprime_dvd_right hd (i6 N n1 n2)⟩
    · rcases kD with q | ⟨q1, q2⟩
      · exact Or.inl q
      · rcases hC with z | z
        · exact absurd z q1
        · exact Or.inr (by omega)
theorem sX6_kinOf (R : Cd) (r0 : Nat) (pa6 : Int32) (rw6 : Int32) (le6 : Nat → Int32) (p1 : Int32) (H : preX6_kinOf R r0 pa6 rw6 le6 p1) : vX6_kinOf pa6 rw6 le6 p1 (postX6_kinOf R r0 pa6 rw6 le6 p1) := by
  obtain ⟨a1, a2, a3, hp1, hr0⟩ := id H
  have hL := a3 r0 hr0
  intro y ey
  have h2o : 2 ^ r0 < 64 := Nat.lt_of_le_of_lt (Nat.pow_le_pow_right (by decide) (show r0 ≤ 5 by omega)) (by decide)
  have e1 := q_shlN (x := (1 : Int32)) (a := 1) rfl hp1 (by omega) (by omega)
  have hy : y.toInt = ((2 ^ r0 : Nat) : Int) := by rw [ey, e1]; omega
  have hLd : cL R r0 ∣ 360360 := by
    have : ∀ x, x < 14 → 2 ≤ x → x ∣ 360360 := by decide
    exact this _ (by omega) hL.2.1
  rw [q_cl hp1]
  refine ⟨q_in hp1 (by omega), cn R + 1, sX6_kinOf_14 R r0 pa6 rw6 le6 p1 H _ 0 y _ 0 (2 ^ r0) (cL R r0) hy hL.1 rfl (by omega) ⟨h2o, by rw [Nat.testBit_two_pow]; simp, fun x hx => ?_, hLd, by omega, fun N n1 _ => n1⟩ (Or.inr ?_) (by omega)⟩
  · rw [Nat.testBit_two_pow] at hx
    have hx : r0 = x := of_decide_eq_true hx
    subst hx
    exact ⟨hr0, Nat.dvd_refl _⟩
  · exact Nat.le_trans (Nat.succ_le_succ (Nat.zero_le _)) (cnt_lt (p := fun _ => false) (q := fun r => (2 ^ r0).testBit r) (fun r hr => absurd hr (by decide)) (o := r0) (by show (2 ^ r0).testBit r0 = true; rw [Nat.testBit_two_pow]; simp) rfl _ hr0)
set_option maxRecDepth 20000 in
theorem ggX6_countKin_X8_commonMultiple : GoodIn wsX6_countKin wsX8_commonMultiple := goodIn_r _ [6, 7, 8, 5, 9] (by decide +kernel) (by decide +kernel)
set_option maxRecDepth 20000 in
theorem gX6_countKin_X8_commonMultiple_n67 : GoodIn wsX6_countKin (wsX8_commonMultiple) := ggX6_countKin_X8_commonMultiple
set_option maxRecDepth 20000 in
theorem ggX6_countKin_J7_fill_53178 : GoodIn wsX6_countKin wsJ7_fill_53178 := goodIn_r _ [13] (by decide +kernel) (by decide +kernel)
set_option maxRecDepth 20000 in
theorem gX6_countKin_J7_fill_53178 : GoodIn wsX6_countKin (va_wsS RX6 46 yJ7_fill_53178 wsJ7_fill_53178) := goodIn_app (goodIn_of _ (by decide +kernel)) ggX6_countKin_J7_fill_53178
set_option maxRecDepth 20000 in
theorem ggX6_countKin_X6_yesAt : GoodIn wsX6_countKin wsX6_yesAt := goodIn_r _ [18, 1, 19, 2, 20, 5, 21, 22, 23, 24, 25, 26, 27, 28] (by decide +kernel) (by decide +kernel)
set_option maxRecDepth 20000 in
theorem gX6_countKin_X6_yesAt : GoodIn wsX6_countKin (wsV RX6 71 RX6 yX6_yesAt wsX6_yesAt) := goodIn_app (goodIn_of _ (by decide +kernel)) ggX6_countKin_X6_yesAt
theorem dX6_countKin_0 : decode cX6_countKin 0 = .ok (.iconst 1, 1) := by decide +kernel
theorem dX6_countKin_1 : decode cX6_countKin 1 = .ok (.istore_n 2, 1) := by decide +kernel
theorem dX6_countKin_2 : decode cX6_countKin 2 = .ok (.iconst 0, 1) := by decide +kernel
theorem dX6_countKin_3 : decode cX6_countKin 3 = .ok (.istore_n 3, 1) := by decide +kernel
theorem dX6_countKin_4 : decode cX6_countKin 4 = .ok (.iload_n 3, 1) := by decide +kernel
theorem dX6_countKin_5 : decode cX6_countKin 5 = .ok (.aload_n 0, 1) := by decide +kernel
theorem dX6_countKin_6 : decode cX6_countKin 6 = .ok (.getfield 34, 3) := by decide +kernel
theorem dX6_countKin_9 : decode cX6_countKin 9 = .ok (.if_icmp .ge 29, 3) := by decide +kernel
theorem dX6_countKin_12 : decode cX6_countKin 12 = .ok (.iload_n 1, 1) := by decide +kernel
theorem dX6_countKin_13 : decode cX6_countKin 13 = .ok (.iload_n 3, 1) := by decide +kernel
theorem dX6_countKin_14 : decode cX6_countKin 14 = .ok (.ishr, 1) := by decide +kernel
theorem dX6_countKin_15 : decode cX6_countKin 15 = .ok (.iconst 1, 1) := by decide +kernel
theorem dX6_countKin_16 : decode cX6_countKin 16 = .ok (.iand, 1) := by decide +kernel
theorem dX6_countKin_17 : decode cX6_countKin 17 = .ok (.iconst 1, 1) := by decide +kernel
theorem dX6_countKin_18 : decode cX6_countKin 18 = .ok (.if_icmp .ne 14, 3) := by decide +kernel
theorem dX6_countKin_21 : decode cX6_countKin 21 = .ok (.iload_n 2, 1) := by decide +kernel
theorem dX6_countKin_22 : decode cX6_countKin 22 = .ok (.aload_n 0, 1) := by decide +kernel
theorem dX6_countKin_23 : decode cX6_countKin 23 = .ok (.getfield 11, 3) := by decide +kernel
theorem dX6_countKin_26 : decode cX6_countKin 26 = .ok (.iload_n 3, 1) := by decide +kernel
theorem dX6_countKin_27 : decode cX6_countKin 27 = .ok (.iaload, 1) := by decide +kernel
theorem dX6_countKin_28 : decode cX6_countKin 28 = .ok (.invokestatic 67, 3) := by decide +kernel
theorem dX6_countKin_31 : decode cX6_countKin 31 = .ok (.istore_n 2, 1) := by decide +kernel
theorem dX6_countKin_32 : decode cX6_countKin 32 = .ok (.iinc 3 1, 3) := by decide +kernel
theorem dX6_countKin_35 : decode cX6_countKin 35 = .ok (.goto (-31), 3) := by decide +kernel
theorem dX6_countKin_38 : decode cX6_countKin 38 = .ok (.aload_n 0, 1) := by decide +kernel
theorem dX6_countKin_39 : decode cX6_countKin 39 = .ok (.getfield 21, 3) := by decide +kernel
theorem dX6_countKin_42 : decode cX6_countKin 42 = .ok (.iconst 0, 1) := by decide +kernel
theorem dX6_countKin_43 : decode cX6_countKin 43 = .ok (.invokestatic 46, 3) := by decide +kernel
theorem dX6_countKin_46 : decode cX6_countKin 46 = .ok (.iconst 0, 1) := by decide +kernel
theorem dX6_countKin_47 : decode cX6_countKin 47 = .ok (.istore_n 3, 1) := by decide +kernel
theorem dX6_countKin_48 : decode cX6_countKin 48 = .ok (.iload_n 3, 1) := by decide +kernel
theorem dX6_countKin_49 : decode cX6_countKin 49 = .ok (.iload_n 2, 1) := by decide +kernel
theorem dX6_countKin_50 : decode cX6_countKin 50 = .ok (.if_icmp .ge 24, 3) := by decide +kernel
theorem dX6_countKin_53 : decode cX6_countKin 53 = .ok (.aload_n 0, 1) := by decide +kernel
theorem dX6_countKin_54 : decode cX6_countKin 54 = .ok (.getfield 21, 3) := by decide +kernel
theorem dX6_countKin_57 : decode cX6_countKin 57 = .ok (.aload_n 0, 1) := by decide +kernel
theorem dX6_countKin_58 : decode cX6_countKin 58 = .ok (.iload_n 3, 1) := by decide +kernel
theorem dX6_countKin_59 : decode cX6_countKin 59 = .ok (.iload_n 1, 1) := by decide +kernel
theorem dX6_countKin_60 : decode cX6_countKin 60 = .ok (.invokevirtual 71, 3) := by decide +kernel
theorem dX6_countKin_63 : decode cX6_countKin 63 = .ok (.dup2, 1) := by decide +kernel
theorem dX6_countKin_64 : decode cX6_countKin 64 = .ok (.iaload, 1) := by decide +kernel
theorem dX6_countKin_65 : decode cX6_countKin 65 = .ok (.iconst 1, 1) := by decide +kernel
theorem dX6_countKin_66 : decode cX6_countKin 66 = .ok (.iadd, 1) := by decide +kernel
theorem dX6_countKin_67 : decode cX6_countKin 67 = .ok (.iastore, 1) := by decide +kernel
theorem dX6_countKin_68 : decode cX6_countKin 68 = .ok (.iinc 3 1, 3) := by decide +kernel
theorem dX6_countKin_71 : decode cX6_countKin 71 = .ok (.goto (-23), 3) := by decide +kernel
theorem dX6_countKin_74 : decode cX6_countKin 74 = .ok (.return_, 1) := by decide +kernel
abbrev rmX6_countKin : Room := { frames := 2, cells := 0, slots := 0, locals := 52 }
theorem inX6_countKin_6 : ∀ w ∈ wsX60, w ∈ wsX6_countKin := by decide +kernel
def vX6_countKin_c48 (pa6 : Int32) (rw6 : Int32) (le6 : Nat → Int32) (bi6 : Nat → Int32) (p1 : Int32) (Q : (Nat → Int32) → Prop) : Nat → Int32 → Int32 → (Nat → Int32) → Prop
  | 0, _, _, _ => False
  | n + 1, x2, x3, ki6 => ((x2 ≤ x3 → (Q ki6)) ∧ (¬ x2 ≤ x3 → (∃ (R_60 : Cd) (t_60 : Nat) (K_60 : Nat), preX6_yesAt R_60 t_60 K_60 pa6 rw6 le6 bi6 x3 p1 ∧ (∀ r_60 : Int32, postX6_yesAt R_60 t_60 K_60 pa6 rw6 le6 bi6 x3 p1 r_60 → (vp_in r_60 64 ∧ (∀ a_67 : Int32, a_67 = ((ki6 r_60.toNatClampNeg) + (1 : Int32)) → (vp_in r_60 64 ∧ (vX6_countKin_c48 pa6 rw6 le6 bi6 p1 Q n x2 (x3 + (1 : Int32)) (upd ki6 r_60.toNatClampNeg a_67)))))))))
set_option maxHeartbeats 4000000 in
set_option maxRecDepth 100000 in
theorem kX6_countKin_c48 {p : Program} {l : Launch} {e : Env} {s : State} {m : MethodId} {args : Array Value} {below : List Frame} {meth : Method} {c : Code} {g : GP} {qty : Nat} {ql6 : Nat} {qb6 : Nat} {qc6 : Nat} {qk6 : Nat} {qm6 : Nat} {pa6 : Int32} {rw6 : Int32} {le6 : Nat → Int32} {bi6 : Nat → Int32} {p1 : Int32} {Q : (Nat → Int32) → Prop} {A : Nat → Prop} (S : CallFix p m c cX6_countKin 4 s args wsX6_countKin RX6) (hr : meth.sig.returnType = none) (hlocks : meth.locks = false) (hG : GK g s) (hA : ∀ q : Nat, s.heap.size ≤ q → A q) : ∀ (n : Nat), ∀ (x2 : Int32) (x3 : Int32) (ki6 : Nat → Int32), vX6_countKin_c48 pa6 rw6 le6 bi6 p1 Q n x2 x3 ki6 → ∀ (H : Heap) (locs : List Loc), va_P g.1 vwCl [(qty, .inr (6, [.ref ql6, .ref qb6, .ref qc6, .ref qk6, .ref qm6, .int pa6, .int rw6])), (ql6, .inl (g.2 0, 6, .inl le6)), (qb6, .inl (g.2 0, 6, .inl bi6)), (qk6, .inl (g.2 0, 64, .inl ki6))] H → va_D A [(qty, .inr (6, [.ref ql6, .ref qb6, .ref qc6, .ref qk6, .ref qm6, .int pa6, .int rw6])), (ql6, .inl (g.2 0, 6, .inl le6)), (qb6, .inl (g.2 0, 6, .inl bi6)), (qk6, .inl (g.2 0, 64, .inl ki6))] → va_S A s.heap H locs → ∀ (ls : Array Slot), lv_has ls 4 [(0, .ref qty), (1, .int p1), (2, .int x2), (3, .int x3)] → W p l e (headSpec wsX6_countKin rmX6_countKin).room s m args below meth c H locs 0 0 (MQ below (va_Qv (fun (u : (Nat → Int32)) => Q u) (fun (u : (Nat → Int32)) t => va_P g.1 vwCl [(qty, .inr (6, [.ref ql6, .ref qb6, .ref qc6, .ref qk6, .ref qm6, .int pa6, .int rw6])), (ql6, .inl (g.2 0, 6, .inl le6)), (qb6, .inl (g.2 0, 6, .inl bi6)), (qk6, .inl (g.2 0, 64, .inl u))] t.heap ∧ va_D A [(qty, .inr (6, [.ref ql6, .ref qb6, .ref qc6, .ref qk6, .ref qm6, .int pa6, .int rw6])), (ql6, .inl (g.2 0, 6, .inl le6)), (qb6, .inl (g.2 0, 6, .inl bi6)), (qk6, .inl (g.2 0, 64, .inl u))]) A) args s 0 0 A) (F0 m 48 ls []) := by
  obtain ⟨hx, hb, hml, hown, hts⟩ := id S
  have hK := hG.1
  intro n
  induction n with
  | zero => intro x2 x3 ki6 hv; exact hv.elim
  | succ n ih =>
    intro x2 x3 ki6 hv H locs hP hD hS ls hl
    refine lv_iload_n hx hb dX6_countKin_48 rfl (lv_at hl 3 rfl) ?_
    refine lv_iload_n hx hb dX6_countKin_49 rfl (lv_at hl 2 rfl) ?_
    obtain ⟨hvt, hvf⟩ := hv
    refine lv_icmp_ge (tgt := 74) hx hb dX6_countKin_50 (by decide) (fun hc => ?_) (fun hc => ?_)
    · have hv := hvt hc
      have hP9 := hP.sub (ws' := [(qty, .inr (6, [.ref ql6, .ref qb6, .ref qc6, .ref qk6, .ref qm6, .int pa6, .int rw6])), (ql6, .inl (g.2 0, 6, .inl le6)), (qb6, .inl (g.2 0, 6, .inl bi6)), (qk6, .inl (g.2 0, 64, .inl ki6))]) [0, 1, 2, 3] rfl
      have hD9 := hD.sub (ws' := [(qty, .inr (6, [.ref ql6, .ref qb6, .ref qc6, .ref qk6, .ref qm6, .int pa6, .int rw6])), (ql6, .inl (g.2 0, 6, .inl le6)), (qb6, .inl (g.2 0, 6, .inl bi6)), (qk6, .inl (g.2 0, 64, .inl ki6))]) [0, 1, 2, 3] (by decide) rfl
      exact W.vret hx hb hr (fun t ht hW => ⟨⟨(ki6), rfl, hv, by rw [ht]; exact hP9, hD9⟩, hS.F ht⟩) hS.2.2 dX6_countKin_74
    · have hv := hvf hc
      refine lv_aload_n hx hb dX6_countKin_53 rfl (lv_at hl 0 rfl) ?_
      refine va_get (D := g.1) (ci := 6) (v := .ref qk6) (C := RX6) (T := TX6) (N := 7) hx hb hts inX6_countKin_6 hown hK hP 0 rfl rfl 3 (by decide) (hts (.fieldLink RX6 21 "RangeCodes$Tally" "kinCounts" "[I") (List.mem_of_getElem? (i := 3) rfl)) (fun _ h9 => h9) rfl dX6_countKin_54 ?_
      refine lv_aload_n hx hb dX6_countKin_57 rfl (lv_at hl 0 rfl) ?_
      refine lv_iload_n hx hb dX6_countKin_58 rfl (lv_at hl 3 rfl) ?_
      refine lv_iload_n hx hb dX6_countKin_59 rfl (lv_at hl 1 rfl) ?_
      obtain ⟨R_60, t_60, K_60, ho_1, hv⟩ := hv
      refine vp_callSi (W.runV (As := [.int x3, .int p1]) (rest := [.ref qk6]) S (wX6_yesAt l g qty ql6 qb6 qc6 qk6 qm6 pa6 rw6 le6 bi6 x3 p1 (sX6_yesAt R_60 t_60 K_60 pa6 rw6 le6 bi6 x3 p1 ho_1)) (cwV 2 hts gX6_countKin_X6_yesAt rfl rfl rfl (by decide +kernel) ⟨Nat.le_of_ble_eq_true rfl, Nat.le_of_ble_eq_true rfl⟩) ⟨blindRO, va_recv hK hP (ci := 6) (q0 := 0) rfl rfl, fun U hU hW => ⟨rfl, by rw [hU]; exact hP.sub (ws' := [(qty, .inr (6, [.ref ql6, .ref qb6, .ref qc6, .ref qk6, .ref qm6, .int pa6, .int rw6])), (ql6, .inl (g.2 0, 6, .inl le6)), (qb6, .inl (g.2 0, 6, .inl bi6))]) [0, 1, 2] rfl, hG.warm hW⟩⟩ rfl rfl hl.1 rfl (lv_room (Nat.le_of_ble_eq_true rfl)) dX6_countKin_60 ⟨Nat.le_of_ble_eq_true rfl, Nat.le_of_ble_eq_true rfl⟩) (fun r_60 hr_60 => ?_)
      have hv := hv r_60 hr_60
      refine lv_dup2_11 hx hb dX6_countKin_63 rfl rfl ?_
      obtain ⟨ho_2, hv⟩ := hv
      refine va_iald hx hb hK hP 3 0 rfl rfl ho_2 dX6_countKin_64 ?_
      refine lv_iconst (v := (1 : Int32)) hx hb dX6_countKin_65 (by decide) ?_
      refine lv_iadd hx hb dX6_countKin_66 ?_
      refine lv_topi (fun a_67 ea_67 => ?_)
      have hv := hv a_67 ea_67
      obtain ⟨ho_3, hv⟩ := hv
      refine va_iast hx hb hK hP hD hS 3 0 rfl rfl ho_3 dX6_countKin_67 (fun H locs hP hD hS => ?_)
      have hP : va_P g.1 vwCl [(qty, .inr (6, [.ref ql6, .ref qb6, .ref qc6, .ref qk6, .ref qm6, .int pa6, .int rw6])), (ql6, .inl (g.2 0, 6, .inl le6)), (qb6, .inl (g.2 0, 6, .inl bi6)), (qk6, .inl (g.2 0, 64, .inl (upd ki6 r_60.toNatClampNeg a_67)))] H := hP
      have hD : va_D A [(qty, .inr (6, [.ref ql6, .ref qb6, .ref qc6, .ref qk6, .ref qm6, .int pa6, .int rw6])), (ql6, .inl (g.2 0, 6, .inl le6)), (qb6, .inl (g.2 0, 6, .inl bi6)), (qk6, .inl (g.2 0, 64, .inl (upd ki6 r_60.toNatClampNeg a_67)))] := hD
      refine lv_iinc (v := (x3 + (1 : Int32))) (lv' := [(3, .int (x3 + (1 : Int32))), (0, .ref qty), (1, .int p1), (2, .int x2)]) hx hb dX6_countKin_68 hl (k := 3) rfl rfl (by decide) rfl (fun ls hl => ?_)
      refine lv_goto (tgt := 48) hx hb dX6_countKin_71 (by decide) ?_
      exact ih _ _ _ hv _ _ (hP.sub (ws' := [(qty, .inr (6, [.ref ql6, .ref qb6, .ref qc6, .ref qk6, .ref qm6, .int pa6, .int rw6])), (ql6, .inl (g.2 0, 6, .inl le6)), (qb6, .inl (g.2 0, 6, .inl bi6)), (qk6, .inl (g.2 0, 64, .inl (upd ki6 r_60.toNatClampNeg a_67)))]) [0, 1, 2, 3] rfl) (hD.sub (ws' := [(qty, .inr (6, [.ref ql6, .ref qb6, .ref qc6, .ref qk6, .ref qm6, .int pa6, .int rw6])), (ql6, .inl (g.2 0, 6, .inl le6)), (qb6, .inl (g.2 0, 6, .inl bi6)), (qk6, .inl (g.2 0, 64, .inl (upd ki6 r_60.toNatClampNeg a_67)))]) [0, 1, 2, 3] (by decide) rfl) hS ls (lv_sub hl [1, 2, 3, 0] rfl)
def vX6_countKin_c4 (pa6 : Int32) (rw6 : Int32) (le6 : Nat → Int32) (bi6 : Nat → Int32) (p1 : Int32) (Q : (Nat → Int32) → Prop) : Nat → Int32 → Int32 → (Nat → Int32) → Prop
  | 0, _, _, _ => False
  | n + 1, x2, x3, ki6 => ((rw6 ≤ x3 → (preJ7_fill_53178 64 ki6 (0 : Int32) ∧ (∀ (fA_43 : Nat → Int32), postJ7_fill_53178 64 ki6 (0 : Int32) fA_43 → (∃ nn, vX6_countKin_c48 pa6 rw6 le6 bi6 p1 Q nn x2 (0 : Int32) fA_43)))) ∧ (¬ rw6 ≤ x3 → ((¬ ((p1 >>> (x3 &&& 31)) &&& (1 : Int32)) = (1 : Int32) → (vX6_countKin_c4 pa6 rw6 le6 bi6 p1 Q n x2 (x3 + (1 : Int32)) ki6)) ∧ (((p1 >>> (x3 &&& 31)) &&& (1 : Int32)) = (1 : Int32) → (vp_in x3 6 ∧ (∃ (a_28 : Nat) (b_28 : Nat), preX8_commonMultiple a_28 b_28 x2 (le6 x3.toNatClampNeg) ∧ (∀ r_28 : Int32, postX8_commonMultiple a_28 b_28 x2 (le6 x3.toNatClampNeg) r_28 → (vX6_countKin_c4 pa6 rw6 le6 bi6 p1 Q n r_28 (x3 + (1 : Int32)) ki6))))))))
set_option maxHeartbeats 4000000 in
set_option maxRecDepth 100000 in
theorem kX6_countKin_c4 {p : Program} {l : Launch} {e : Env} {s : State} {m : MethodId} {args : Array Value} {below : List Frame} {meth : Method} {c : Code} {g : GP} {qty : Nat} {ql6 : Nat} {qb6 : Nat} {qc6 : Nat} {qk6 : Nat} {qm6 : Nat} {pa6 : Int32} {rw6 : Int32} {le6 : Nat → Int32} {bi6 : Nat → Int32} {p1 : Int32} {Q : (Nat → Int32) → Prop} {A : Nat → Prop} (S : CallFix p m c cX6_countKin 4 s args wsX6_countKin RX6) (hr : meth.sig.returnType = none) (hlocks : meth.locks = false) (hG : GK g s) (hA : ∀ q : Nat, s.heap.size ≤ q → A q) : ∀ (n : Nat), ∀ (x2 : Int32) (x3 : Int32) (ki6 : Nat → Int32), vX6_countKin_c4 pa6 rw6 le6 bi6 p1 Q n x2 x3 ki6 → ∀ (H : Heap) (locs : List Loc), va_P g.1 vwCl [(qty, .inr (6, [.ref ql6, .ref qb6, .ref qc6, .ref qk6, .ref qm6, .int pa6, .int rw6])), (ql6, .inl (g.2 0, 6, .inl le6)), (qb6, .inl (g.2 0, 6, .inl bi6)), (qk6, .inl (g.2 0, 64, .inl ki6))] H → va_D A [(qty, .inr (6, [.ref ql6, .ref qb6, .ref qc6, .ref qk6, .ref qm6, .int pa6, .int rw6])), (ql6, .inl (g.2 0, 6, .inl le6)), (qb6, .inl (g.2 0, 6, .inl bi6)), (qk6, .inl (g.2 0, 64, .inl ki6))] → va_S A s.heap H locs → ∀ (ls : Array Slot), lv_has ls 4 [(0, .ref qty), (1, .int p1), (2, .int x2), (3, .int x3)] → W p l e (headSpec wsX6_countKin rmX6_countKin).room s m args below meth c H locs 0 0 (MQ below (va_Qv (fun (u : (Nat → Int32)) => Q u) (fun (u : (Nat → Int32)) t => va_P g.1 vwCl [(qty, .inr (6, [.ref ql6, .ref qb6, .ref qc6, .ref qk6, .ref qm6, .int pa6, .int rw6])), (ql6, .inl (g.2 0, 6, .inl le6)), (qb6, .inl (g.2 0, 6, .inl bi6)), (qk6, .inl (g.2 0, 64, .inl u))] t.heap ∧ va_D A [(qty, .inr (6, [.ref ql6, .ref qb6, .ref qc6, .ref qk6, .ref qm6, .int pa6, .int rw6])), (ql6, .inl (g.2 0, 6, .inl le6)), (qb6, .inl (g.2 0, 6, .inl bi6)), (qk6, .inl (g.2 0, 64, .inl u))]) A) args s 0 0 A) (F0 m 4 ls []) := by
  obtain ⟨hx, hb, hml, hown, hts⟩ := id S
  have hK := hG.1
  intro n
  induction n with
  | zero => intro x2 x3 ki6 hv; exact hv.elim
  | succ n ih =>
    intro x2 x3 ki6 hv H locs hP hD hS ls hl
    refine lv_iload_n hx hb dX6_countKin_4 rfl (lv_at hl 3 rfl) ?_
    refine lv_aload_n hx hb dX6_countKin_5 rfl (lv_at hl 0 rfl) ?_
    refine va_get (D := g.1) (ci := 6) (v := .int rw6) (C := RX6) (T := TX6) (N := 7) hx hb hts inX6_countKin_6 hown hK hP 0 rfl rfl 6 (by decide) (hts (.fieldLink RX6 34 "RangeCodes$Tally" "rows" "I") (List.mem_of_getElem? (i := 1) rfl)) (fun _ h9 => h9) rfl dX6_countKin_6 ?_
    obtain ⟨hvt, hvf⟩ := hv
    refine lv_icmp_ge (tgt := 38) hx hb dX6_countKin_9 (by decide) (fun hc => ?_) (fun hc => ?_)
    · have hv := hvt hc
      refine lv_aload_n hx hb dX6_countKin_38 rfl (lv_at hl 0 rfl) ?_
      refine va_get (D := g.1) (ci := 6) (v := .ref qk6) (C := RX6) (T := TX6) (N := 7) hx hb hts inX6_countKin_6 hown hK hP 0 rfl rfl 3 (by decide) (hts (.fieldLink RX6 21 "RangeCodes$Tally" "kinCounts" "[I") (List.mem_of_getElem? (i := 3) rfl)) (fun _ h9 => h9) rfl dX6_countKin_39 ?_
      refine lv_iconst (v := (0 : Int32)) hx hb dX6_countKin_42 (by decide) ?_
      obtain ⟨ho_1, hv⟩ := hv
      have hPc := hP.sub (ws' := [(qk6, .inl (g.2 0, 64, .inl ki6))]) [3] rfl
      have hDc := hD.sub (ws' := [(qk6, .inl (g.2 0, 64, .inl ki6))]) [3] (by decide) rfl
      have hFc := va_free (wc := [(qk6, .inl (g.2 0, 64, .inl ki6))]) hD hS hA [3] rfl
      refine va_callv (va_runS (As := [.ref qk6, .int (0 : Int32)]) (rest := []) S (wJ7_fill_53178 l g qk6 H.size 64 ki6 (0 : Int32) (sJ7_fill_53178 64 ki6 (0 : Int32) ho_1)) (va_cwS 2 hts gX6_countKin_J7_fill_53178 rfl rfl rfl (by decide +kernel) ⟨Nat.le_of_ble_eq_true rfl, Nat.le_of_ble_eq_true rfl⟩) ⟨blindRW, fun U hU hW => ⟨rfl, by rw [hU], by rw [hU]; exact hPc, hG.warm hW, hDc.weaken (fun _ _ _ _ => trivial)⟩⟩ rfl rfl hl.1 rfl (lv_room (Nat.le_of_ble_eq_true rfl)) dX6_countKin_43 ⟨Nat.le_of_ble_eq_true rfl, Nat.le_of_ble_eq_true rfl⟩) hS (fun q _ h => hFc q h) hFc (fun u t H1 locs ht hvm hw hB hz1 hk1 hS => ?_)
      obtain ⟨fA_43, rfl⟩ : ∃ z, z = u := ⟨_, rfl⟩
      obtain ⟨hP1, hD1⟩ := hB
      rw [ht] at hP1
      have hv := hv fA_43 hw
      obtain ⟨hP, hD⟩ := va_join (wr := [(qty, .inr (6, [.ref ql6, .ref qb6, .ref qc6, .ref qk6, .ref qm6, .int pa6, .int rw6])), (ql6, .inl (g.2 0, 6, .inl le6)), (qb6, .inl (g.2 0, 6, .inl bi6))]) (w1 := [(qk6, .inl (g.2 0, 64, .inl fA_43))]) hP hD [3] [0, 1, 2] rfl rfl (by decide) (by decide) hk1 hFc hP1 hD1
      clear hP1 hD1 hPc hDc hFc hk1
      generalize H1 = H at hP hS ⊢
      have hP : va_P g.1 vwCl [(qty, .inr (6, [.ref ql6, .ref qb6, .ref qc6, .ref qk6, .ref qm6, .int pa6, .int rw6])), (ql6, .inl (g.2 0, 6, .inl le6)), (qb6, .inl (g.2 0, 6, .inl bi6)), (qk6, .inl (g.2 0, 64, .inl fA_43))] H := hP
      have hD : va_D A [(qty, .inr (6, [.ref ql6, .ref qb6, .ref qc6, .ref qk6, .ref qm6, .int pa6, .int rw6])), (ql6, .inl (g.2 0, 6, .inl le6)), (qb6, .inl (g.2 0, 6, .inl bi6)), (qk6, .inl (g.2 0, 64, .inl fA_43))] := hD
      refine lv_iconst (v := (0 : Int32)) hx hb dX6_countKin_46 (by decide) ?_
      refine lv_istore_n (lv' := [(3, .int (0 : Int32)), (0, .ref qty), (1, .int p1), (2, .int x2)]) hx hb dX6_countKin_47 rfl hl (by decide) rfl (fun ls hl => ?_)
      obtain ⟨nn, hv⟩ := hv
      exact kX6_countKin_c48 S hr hlocks hG hA nn _ _ _ hv _ _ (hP.sub (ws' := [(qty, .inr (6, [.ref ql6, .ref qb6, .ref qc6, .ref qk6, .ref qm6, .int pa6, .int rw6])), (ql6, .inl (g.2 0, 6, .inl le6)), (qb6, .inl (g.2 0, 6, .inl bi6)), (qk6, .inl (g.2 0, 64, .inl fA_43))]) [0, 1, 2, 3] rfl) (hD.sub (ws' := [(qty, .inr (6, [.ref ql6, .ref qb6, .ref qc6, .ref qk6, .ref qm6, .int pa6, .int rw6])), (ql6, .inl (g.2 0, 6, .inl le6)), (qb6, .inl (g.2 0, 6, .inl bi6)), (qk6, .inl (g.2 0, 64, .inl fA_43))]) [0, 1, 2, 3] (by decide) rfl) hS ls (lv_sub hl [1, 2, 3, 0] rfl)
    · have hv := hvf hc
      refine lv_iload_n hx hb dX6_countKin_12 rfl (lv_at hl 1 rfl) ?_
      refine lv_iload_n hx hb dX6_countKin_13 rfl (lv_at hl 3 rfl) ?_
      refine lv_ishr hx hb dX6_countKin_14 ?_
      refine lv_iconst (v := (1 : Int32)) hx hb dX6_countKin_15 (by decide) ?_
      refine lv_iand hx hb dX6_countKin_16 ?_
      refine lv_iconst (v := (1 : Int32)) hx hb dX6_countKin_17 (by decide) ?_
      obtain ⟨hvt, hvf⟩ := hv
      refine lv_icmp_ne (tgt := 32) hx hb dX6_countKin_18 (by decide) (fun hc => ?_) (fun hc => ?_)
      · have hv := hvt hc
        refine lv_iinc (v := (x3 + (1 : Int32))) (lv' := [(3, .int (x3 + (1 : Int32))), (0, .ref qty), (1, .int p1), (2, .int x2)]) hx hb dX6_countKin_32 hl (k := 3) rfl rfl (by decide) rfl (fun ls hl => ?_)
        refine lv_goto (tgt := 4) hx hb dX6_countKin_35 (by decide) ?_
        exact ih _ _ _ hv _ _ (hP.sub (ws' := [(qty, .inr (6, [.ref ql6, .ref qb6, .ref qc6, .ref qk6, .ref qm6, .int pa6, .int rw6])), (ql6, .inl (g.2 0, 6, .inl le6)), (qb6, .inl (g.2 0, 6, .inl bi6)), (qk6, .inl (g.2 0, 64, .inl ki6))]) [0, 1, 2, 3] rfl) (hD.sub (ws' := [(qty, .inr (6, [.ref ql6, .ref qb6, .ref qc6, .ref qk6, .ref qm6, .int pa6, .int rw6])), (ql6, .inl (g.2 0, 6, .inl le6)), (qb6, .inl (g.2 0, 6, .inl bi6)), (qk6, .inl (g.2 0, 64, .inl ki6))]) [0, 1, 2, 3] (by decide) rfl) hS ls (lv_sub hl [1, 2, 3, 0] rfl)
      · have hv := hvf hc
        refine lv_iload_n hx hb dX6_countKin_21 rfl (lv_at hl 2 rfl) ?_
        refine lv_aload_n hx hb dX6_countKin_22 rfl (lv_at hl 0 rfl) ?_
        refine va_get (D := g.1) (ci := 6) (v := .ref ql6) (C := RX6) (T := TX6) (N := 7) hx hb hts inX6_countKin_6 hown hK hP 0 rfl rfl 0 (by decide) (hts (.fieldLink RX6 11 "RangeCodes$Tally" "lengths" "[I") (List.mem_of_getElem? (i := 2) rfl)) (fun _ h9 => h9) rfl dX6_countKin_23 ?_
        refine lv_iload_n hx hb dX6_countKin_26 rfl (lv_at hl 3 rfl) ?_
        obtain ⟨ho_2, hv⟩ := hv
        refine va_iald hx hb hK hP 1 0 rfl rfl ho_2 dX6_countKin_27 ?_
        obtain ⟨a_28, b_28, ho_3, hv⟩ := hv
        refine vp_callSi (run_of (va_runSN (As := [.int x2, .int (le6 x3.toNatClampNeg)]) (rest := []) S (wX8_commonMultiple l g x2 (le6 x3.toNatClampNeg) (sX8_commonMultiple a_28 b_28 x2 (le6 x3.toNatClampNeg) ho_3)) ⟨va_cnB 2 hts gX6_countKin_X8_commonMultiple_n67 rfl rfl rfl (hG.2 _ (List.mem_of_getElem? (i := 6) rfl)) (hts (.initialized RX8) (List.mem_of_getElem? (i := 5) rfl)) (by decide +kernel) ⟨Nat.le_of_ble_eq_true rfl, Nat.le_of_ble_eq_true rfl⟩, (hts (.static yX8_commonMultiple) (List.mem_of_getElem? (i := 4) rfl)), trivial⟩ ⟨blindRO, fun U hU hW => ⟨rfl, by rw [hU]; exact hP.sub (ws' := []) [] rfl, hG.warm hW⟩⟩ rfl rfl hl.1 rfl (lv_room (Nat.le_of_ble_eq_true rfl)) dX6_countKin_28 ⟨Nat.le_of_ble_eq_true rfl, Nat.le_of_ble_eq_true rfl⟩)) (fun r_28 hr_28 => ?_)
        have hv := hv r_28 hr_28
        refine lv_istore_n (lv' := [(2, .int r_28), (0, .ref qty), (1, .int p1), (3, .int x3)]) hx hb dX6_countKin_31 rfl hl (by decide) rfl (fun ls hl => ?_)
        refine lv_iinc (v := (x3 + (1 : Int32))) (lv' := [(3, .int (x3 + (1 : Int32))), (2, .int r_28), (0, .ref qty), (1, .int p1)]) hx hb dX6_countKin_32 hl (k := 3) rfl rfl (by decide) rfl (fun ls hl => ?_)
        refine lv_goto (tgt := 4) hx hb dX6_countKin_35 (by decide) ?_
        exact ih _ _ _ hv _ _ (hP.sub (ws' := [(qty, .inr (6, [.ref ql6, .ref qb6, .ref qc6, .ref qk6, .ref qm6, .int pa6, .int rw6])), (ql6, .inl (g.2 0, 6, .inl le6)), (qb6, .inl (g.2 0, 6, .inl bi6)), (qk6, .inl (g.2 0, 64, .inl ki6))]) [0, 1, 2, 3] rfl) (hD.sub (ws' := [(qty, .inr (6, [.ref ql6, .ref qb6, .ref qc6, .ref qk6, .ref qm6, .int pa6, .int rw6])), (ql6, .inl (g.2 0, 6, .inl le6)), (qb6, .inl (g.2 0, 6, .inl bi6)), (qk6, .inl (g.2 0, 64, .inl ki6))]) [0, 1, 2, 3] (by decide) rfl) hS ls (lv_sub hl [2, 3, 1, 0] rfl)
def vX6_countKin (pa6 : Int32) (rw6 : Int32) (le6 : Nat → Int32) (bi6 : Nat → Int32) (ki6 : Nat → Int32) (p1 : Int32) (Q : (Nat → Int32) → Prop) : Prop := (∃ nn, vX6_countKin_c4 pa6 rw6 le6 bi6 p1 Q nn (1 : Int32) (0 : Int32) ki6)
set_option maxHeartbeats 4000000 in
set_option maxRecDepth 100000 in
theorem wX6_countKin (l : Launch) (g : GP) (qty : Nat) (ql6 : Nat) (qb6 : Nat) (qc6 : Nat) (qk6 : Nat) (qm6 : Nat) (sz : Nat) (pa6 : Int32) (rw6 : Int32) (le6 : Nat → Int32) (bi6 : Nat → Int32) (ki6 : Nat → Int32) (p1 : Int32) {Q : (Nat → Int32) → Prop} (hv : vX6_countKin pa6 rw6 le6 bi6 ki6 p1 Q) : Met l yX6_countKin wsX6_countKin rmX6_countKin (va_Pc [.ref qty, .int p1] (fun U => U.heap.size = sz ∧ va_P g.1 vwCl [(qty, .inr (6, [.ref ql6, .ref qb6, .ref qc6, .ref qk6, .ref qm6, .int pa6, .int rw6])), (ql6, .inl (g.2 0, 6, .inl le6)), (qb6, .inl (g.2 0, 6, .inl bi6)), (qk6, .inl (g.2 0, 64, .inl ki6))] U.heap ∧ GK g U ∧ va_D (fun _ => True) [(qty, .inr (6, [.ref ql6, .ref qb6, .ref qc6, .ref qk6, .ref qm6, .int pa6, .int rw6])), (ql6, .inl (g.2 0, 6, .inl le6)), (qb6, .inl (g.2 0, 6, .inl bi6)), (qk6, .inl (g.2 0, 64, .inl ki6))])) (va_Qv (fun (u : (Nat → Int32)) => Q u) (fun (u : (Nat → Int32)) t => va_P g.1 vwCl [(qty, .inr (6, [.ref ql6, .ref qb6, .ref qc6, .ref qk6, .ref qm6, .int pa6, .int rw6])), (ql6, .inl (g.2 0, 6, .inl le6)), (qb6, .inl (g.2 0, 6, .inl bi6)), (qk6, .inl (g.2 0, 64, .inl u))] t.heap ∧ va_D (va_A [(qty, .inr (6, [.ref ql6, .ref qb6, .ref qc6, .ref qk6, .ref qm6, .int pa6, .int rw6])), (ql6, .inl (g.2 0, 6, .inl le6)), (qb6, .inl (g.2 0, 6, .inl bi6)), (qk6, .inl (g.2 0, 64, .inl ki6))] sz) [(qty, .inr (6, [.ref ql6, .ref qb6, .ref qc6, .ref qk6, .ref qm6, .int pa6, .int rw6])), (ql6, .inl (g.2 0, 6, .inl le6)), (qb6, .inl (g.2 0, 6, .inl bi6)), (qk6, .inl (g.2 0, 64, .inl u))]) (va_A [(qty, .inr (6, [.ref ql6, .ref qb6, .ref qc6, .ref qk6, .ref qm6, .int pa6, .int rw6])), (ql6, .inl (g.2 0, 6, .inl le6)), (qb6, .inl (g.2 0, 6, .inl bi6)), (qk6, .inl (g.2 0, 64, .inl ki6))] sz)) 0 0 (va_A [(qty, .inr (6, [.ref ql6, .ref qb6, .ref qc6, .ref qk6, .ref qm6, .int pa6, .int rw6])), (ql6, .inl (g.2 0, 6, .inl le6)), (qb6, .inl (g.2 0, 6, .inl bi6)), (qk6, .inl (g.2 0, 64, .inl ki6))] sz) := by
  refine Met.ofW (cc := cX6_countKin) (maxL := 4) (ret := none) (by decide) rfl ?_
  intro p e s m args below meth c s₁ B hml hv'
  obtain ⟨rfl, hsz, hP, hG, hD0⟩ := hv'
  have S : CallFix p m c cX6_countKin 4 s _ wsX6_countKin RX6 := ⟨B.exec, B.bytes, hml, findClass_of_methodNamed B.named, atoms_spec (ws := wsX6_countKin) B.pre⟩
  obtain ⟨hx, hb, hml, hown, hts⟩ := id S
  have hK := hG.1
  have hr := B.returns
  have hlocks := B.notSynchronized
  subst hsz
  have hD := hD0.self (sz := s.heap.size)
  generalize hAe : va_A [(qty, .inr (6, [.ref ql6, .ref qb6, .ref qc6, .ref qk6, .ref qm6, .int pa6, .int rw6])), (ql6, .inl (g.2 0, 6, .inl le6)), (qb6, .inl (g.2 0, 6, .inl bi6)), (qk6, .inl (g.2 0, 64, .inl ki6))] s.heap.size = A at hD ⊢
  have hA : ∀ q : Nat, s.heap.size ≤ q → A q := fun q h => by rw [← hAe]; exact Or.inr h
  have hS : va_S A s.heap s.heap [] := va_S.rf
  clear hD0 hAe
  have hl := lv_entry ([.ref qty, .int p1]) (n := 4) (Nat.le_of_ble_eq_true rfl)
  rw [lg_entry_eq]
  generalize (lg_sl ([.ref qty, .int p1]) ++ List.replicate (4 - (lg_sl ([.ref qty, .int p1])).length) Slot.unset).toArray = ls at hl ⊢
  have hl : lv_has ls 4 [(0, .ref qty), (1, .int p1)] := hl
  unfold vX6_countKin at hv
  refine lv_iconst (v := (1 : Int32)) hx hb dX6_countKin_0 (by decide) ?_
  refine lv_istore_n (lv' := [(2, .int (1 : Int32)), (0, .ref qty), (1, .int p1)]) hx hb dX6_countKin_1 rfl hl (by decide) rfl (fun ls hl => ?_)
  refine lv_iconst (v := (0 : Int32)) hx hb dX6_countKin_2 (by decide) ?_
  refine lv_istore_n (lv' := [(3, .int (0 : Int32)), (2, .int (1 : Int32)), (0, .ref qty), (1, .int p1)]) hx hb dX6_countKin_3 rfl hl (by decide) rfl (fun ls hl => ?_)
  obtain ⟨nn, hv⟩ := hv
  exact kX6_countKin_c4 S hr hlocks hG hA nn _ _ _ hv _ _ (hP.sub (ws' := [(qty, .inr (6, [.ref ql6, .ref qb6, .ref qc6, .ref qk6, .ref qm6, .int pa6, .int rw6])), (ql6, .inl (g.2 0, 6, .inl le6)), (qb6, .inl (g.2 0, 6, .inl bi6)), (qk6, .inl (g.2 0, 64, .inl ki6))]) [0, 1, 2, 3] rfl) (hD.sub (ws' := [(qty, .inr (6, [.ref ql6, .ref qb6, .ref qc6, .ref qk6, .ref qm6, .int pa6, .int rw6])), (ql6, .inl (g.2 0, 6, .inl le6)), (qb6, .inl (g.2 0, 6, .inl bi6)), (qk6, .inl (g.2 0, 64, .inl ki6))]) [0, 1, 2, 3] (by decide) rfl) hS ls (lv_sub hl [2, 3, 1, 0] rfl)
abbrev preX6_countKin (R : Cd) (K : Nat) (pa6 : Int32) (rw6 : Int32) (le6 : Nat → Int32) (bi6 : Nat → Int32) (ki6 : Nat → Int32) (p1 : Int32) : Prop := tyR R rw6 le6 bi6 ∧ p1.toInt = (K : Int)
abbrev postX6_countKin (R : Cd) (K : Nat) (pa6 : Int32) (rw6 : Int32) (le6 : Nat → Int32) (bi6 : Nat → Int32) (ki6 : Nat → Int32) (p1 : Int32) (ki6' : Nat → Int32) : Prop := isC (yS R K) (lcS R K (cn R)) ki6'
theorem sX6_countKin_48 (R : Cd) (K : Nat) (pa6 : Int32) (rw6 : Int32) (le6 : Nat → Int32) (bi6 : Nat → Int32) (ki6 : Nat → Int32) (p1 : Int32) (H : preX6_countKin R K pa6 rw6 le6 bi6 ki6 p1) (P : Nat) (hPl : P ≤ 360360) (hP : P = lcS R K (cn R)) (x2 : Int32) (h2 : x2.toInt = (P : Int)) : ∀ (f t : Nat) (x3 : Int32) (ki' : Nat → Int32), x3.toInt = (t : Int) → t ≤ P → isC (yS R K) t ki' → P + 1 ≤ t + f → vX6_countKin_c48 pa6 rw6 le6 bi6 p1 (postX6_countKin R K pa6 rw6 le6 bi6 ki6 p1) f x2 x3 ki'
  | 0, t, x3, ki', _, _, _, hf => absurd hf (by omega)
  | f + 1, t, x3, ki', h3, ht, hc, hf => by
    obtain ⟨hR, hp⟩ := id H
    rw [vX6_countKin_c48, q_le h2 h3]
    refine ⟨fun c => ?_, fun c => ⟨R, t, K, ⟨hR, h3, hp⟩, fun r hr => ?_⟩⟩
    · have e : t = P := by omega
      rw [e, hP] at hc; exact hc
    · have hr : r.toInt = (yS R K t : Int) := hr
      have hy := yS_lt (R := R) K t hR.2.1
      have hin := q_in (N := 64) hr hy
      refine ⟨hin, fun a ea => ⟨hin, ?_⟩⟩
      rw [q_cl hr] at ea
      rw [q_cl hr]
      have hle := cnF_le (yS R K) (yS R K t) t
      refine sX6_countKin_48 R K pa6 rw6 le6 bi6 ki6 p1 H P hPl hP x2 h2 f (t + 1) _ _ (q_1 h3 (by omega)) (by omega) (fun S hS => ?_) (by omega)
      have es : cnF (yS R K) (t + 1) S = cnF (yS R K) t S + if yS R K t = S then 1 else 0 := rfl
      rw [es]
      by_cases q : S = yS R K t
      · subst q; rw [upd_eq, if_pos rfl, ea]; exact q_1 (hc _ hS) (by omega)
      · rw [upd_ne q, if_neg (fun z => q z.symm), Nat.add_zero]; exact hc S hS
theorem sX6_countKin_4 (R : Cd) (K : Nat) (pa6 : Int32) (rw6 : Int32) (le6 : Nat → Int32) (bi6 : Nat → Int32) (ki6 : Nat → Int32) (p1 : Int32) (H : preX6_countKin R K pa6 rw6 le6 bi6 ki6 p1) : ∀ (f k : Nat) (x2 x3 : Int32), x2.toInt = (lcS R K k : Int) → x3.toInt = (k : Int) → k ≤ cn R → cn R + 1 ≤ k + f → vX6_countKin_c4 pa6 rw6 le6 bi6 p1 (postX6_countKin R K pa6 rw6 le6 bi6 ki6 p1) f x2 x3 ki6
  | 0, k, x2, x3, _, _, _, hf => absurd hf (by omega)
  | f + 1, k, x2, x3, h2, h3, hk, hf => by
    obtain ⟨⟨a1, a2, a3, a4⟩, hp⟩ := id H
    have hLL : ∀ p, p < cn R → 2 ≤ cL R p ∧ cL R p ≤ 13 := fun p hq => (a3 p hq).2
    have hM := Nat.le_of_dvd (by decide) (lcS_dvd hLL K k hk)
    have hM0 := lcS_pos (fun p hq => (hLL p hq).1) K k hk
    rw [vX6_countKin_c4, q_le a1 h3, q_bitB hp h3 (by omega)]
    refine ⟨fun c => ⟨by show 64 < 2147483647; decide, fun fA hA => ?_⟩, fun c => ⟨fun d => sX6_countKin_4 R K pa6 rw6 le6 bi6 ki6 p1 H f (k + 1) _ _ ?_ (q_1 h3 (by omega)) (by omega) (by omega), fun d => ⟨q_in h3 (by omega), ?_⟩⟩⟩
    · have e : k = cn R := by omega
      subst e
      exact ⟨lcS R K (cn R) + 1, sX6_countKin_48 R K pa6 rw6 le6 bi6 ki6 p1 H (lcS R K (cn R)) hM rfl x2 h2 _ 0 0 fA rfl (by omega) (fun S hS => by rw [hA S, if_pos hS]; rfl) (by omega)⟩
    · rw [lcS, if_neg d]; exact h2
    · have hL := a3 k (by omega)
      rw [q_cl h3]
      have hmm : lcS R K k * cL R k ≤ 360360 * 13 := Nat.mul_le_mul hM hL.2.2
      refine ⟨lcS R K k, cL R k, ⟨h2, hL.1, hM0, by omega, by omega⟩, fun r hr => sX6_countKin_4 R K pa6 rw6 le6 bi6 ki6 p1 H f (k + 1) _ _ ?_ (q_1 h3 (by omega)) (by omega) (by omega)⟩
      rw [lcS, if_pos d]; exact hr
theorem sX6_countKin (R : Cd) (K : Nat) (pa6 : Int32) (rw6 : Int32) (le6 : Nat → Int32) (bi6 : Nat → Int32) (ki6 : Nat → Int32) (p1 : Int32) (H : preX6_countKin R K pa6 rw6 le6 bi6 ki6 p1) : vX6_countKin pa6 rw6 le6 bi6 ki6 p1 (postX6_countKin R K pa6 rw6 le6 bi6 ki6 p1) := ⟨cn R + 1, sX6_countKin_4 R K pa6 rw6 le6 bi6 ki6 p1 H _ 0 1 0 rfl rfl (by omega) (by omega)⟩
