set_option maxRecDepth 20000 in
theorem ggX9_alike_X9_ofLeg : GoodIn wsX9_alike wsX9_ofLeg := goodIn_r _ [6, 7, 22, 23, 24, 25, 26, 27, 28, 29, 30, 31, 32, 33, 34, 35, 36, 37, 38, 39, 40, 41, 42, 43, 44, 45, 46, 47, 48, 49, 50] (by decide +kernel) (by decide +kernel)
set_option maxRecDepth 20000 in
theorem gX9_alike_X9_ofLeg : GoodIn wsX9_alike (wsV RX9 185 RX9 yX9_ofLeg wsX9_ofLeg) := goodIn_app (goodIn_of _ (by decide +kernel)) ggX9_alike_X9_ofLeg
set_option maxRecDepth 20000 in
theorem ggX9_alike_X9_chipOf : GoodIn wsX9_alike wsX9_chipOf := goodIn_r _ [11, 12, 13, 14, 5, 15, 7, 16, 17, 18, 19, 20, 21, 22, 23, 24, 25, 26, 27, 28, 29, 30, 31, 32, 33, 34, 35, 36, 37, 38, 39, 40, 41, 42, 43, 44, 45, 46, 47, 48, 49, 50] (by decide +kernel) (by decide +kernel)
set_option maxRecDepth 20000 in
theorem gX9_alike_X9_chipOf : GoodIn wsX9_alike (wsV RX9 207 RX9 yX9_chipOf wsX9_chipOf) := goodIn_app (goodIn_of _ (by decide +kernel)) ggX9_alike_X9_chipOf
theorem dX9_alike_0 : decode cX9_alike 0 = .ok (.aload_n 0, 1) := by decide +kernel
theorem dX9_alike_1 : decode cX9_alike 1 = .ok (.getfield 30, 3) := by decide +kernel
theorem dX9_alike_4 : decode cX9_alike 4 = .ok (.iload_n 2, 1) := by decide +kernel
theorem dX9_alike_5 : decode cX9_alike 5 = .ok (.iaload, 1) := by decide +kernel
theorem dX9_alike_6 : decode cX9_alike 6 = .ok (.iconst 2, 1) := by decide +kernel
theorem dX9_alike_7 : decode cX9_alike 7 = .ok (.if_icmp .ne 7, 3) := by decide +kernel
theorem dX9_alike_10 : decode cX9_alike 10 = .ok (.iconst 0, 1) := by decide +kernel
theorem dX9_alike_11 : decode cX9_alike 11 = .ok (.goto 42, 3) := by decide +kernel
theorem dX9_alike_14 : decode cX9_alike 14 = .ok (.aload_n 0, 1) := by decide +kernel
theorem dX9_alike_15 : decode cX9_alike 15 = .ok (.getfield 30, 3) := by decide +kernel
theorem dX9_alike_18 : decode cX9_alike 18 = .ok (.iload_n 2, 1) := by decide +kernel
theorem dX9_alike_19 : decode cX9_alike 19 = .ok (.iaload, 1) := by decide +kernel
theorem dX9_alike_20 : decode cX9_alike 20 = .ok (.iconst 1, 1) := by decide +kernel
theorem dX9_alike_21 : decode cX9_alike 21 = .ok (.if_icmp .ne 7, 3) := by decide +kernel
theorem dX9_alike_24 : decode cX9_alike 24 = .ok (.iconst 1, 1) := by decide +kernel
theorem dX9_alike_25 : decode cX9_alike 25 = .ok (.goto 4, 3) := by decide +kernel
theorem dX9_alike_28 : decode cX9_alike 28 = .ok (.iconst 0, 1) := by decide +kernel
theorem dX9_alike_29 : decode cX9_alike 29 = .ok (.aload_n 0, 1) := by decide +kernel
theorem dX9_alike_30 : decode cX9_alike 30 = .ok (.iload_n 3, 1) := by decide +kernel
theorem dX9_alike_31 : decode cX9_alike 31 = .ok (.aload_n 0, 1) := by decide +kernel
theorem dX9_alike_32 : decode cX9_alike 32 = .ok (.iload_n 1, 1) := by decide +kernel
theorem dX9_alike_33 : decode cX9_alike 33 = .ok (.iconst 2, 1) := by decide +kernel
theorem dX9_alike_34 : decode cX9_alike 34 = .ok (.invokevirtual 185, 3) := by decide +kernel
theorem dX9_alike_37 : decode cX9_alike 37 = .ok (.iload_n 2, 1) := by decide +kernel
theorem dX9_alike_38 : decode cX9_alike 38 = .ok (.iadd, 1) := by decide +kernel
theorem dX9_alike_39 : decode cX9_alike 39 = .ok (.iload 4, 2) := by decide +kernel
theorem dX9_alike_41 : decode cX9_alike 41 = .ok (.isub, 1) := by decide +kernel
theorem dX9_alike_42 : decode cX9_alike 42 = .ok (.invokevirtual 207, 3) := by decide +kernel
theorem dX9_alike_45 : decode cX9_alike 45 = .ok (.if_icmp .ne 7, 3) := by decide +kernel
theorem dX9_alike_48 : decode cX9_alike 48 = .ok (.iconst 1, 1) := by decide +kernel
theorem dX9_alike_49 : decode cX9_alike 49 = .ok (.goto 4, 3) := by decide +kernel
theorem dX9_alike_52 : decode cX9_alike 52 = .ok (.iconst (-1), 1) := by decide +kernel
theorem dX9_alike_53 : decode cX9_alike 53 = .ok (.ireturn, 1) := by decide +kernel
abbrev rmX9_alike : Room := { frames := 2, cells := 0, slots := 0, locals := 44 }
theorem inX9_alike_9 : ∀ w ∈ wsX90, w ∈ wsX9_alike := by decide +kernel
def vX9_alike_c29 (F : Nat → Int32) (J : Nat → Int64) (al : Nat → Int32) (he : Nat → Int32) (p1 : Int32) (p2 : Int32) (p3 : Int32) (p4 : Int32) (Q : Int32 → Prop) (s0 : Int32) : Prop := (∃ (p_34 : Nat) (w_34 : Nat), preX9_ofLeg p_34 w_34 F J al p1 (2 : Int32) ∧ (∀ r_34 : Int32, postX9_ofLeg p_34 w_34 F J al p1 (2 : Int32) r_34 → (∃ (T_42 : Cd) (p_42 : Nat), preX9_chipOf T_42 p_42 F J al p3 ((r_34 + p2) - p4) ∧ (∀ r_42 : Int32, postX9_chipOf T_42 p_42 F J al p3 ((r_34 + p2) - p4) r_42 → ((¬ s0 = r_42 → (Q (-1 : Int32))) ∧ (s0 = r_42 → (Q (1 : Int32))))))))
set_option maxHeartbeats 4000000 in
set_option maxRecDepth 100000 in
theorem kX9_alike_c29 {p : Program} {l : Launch} {e : Env} {s : State} {m : MethodId} {args : Array Value} {below : List Frame} {meth : Method} {c : Code} {g : GP} {qM q1 q2 q3 q4 q5 q6 q7 q8 q9 q10 q11 : Nat} {F : Nat → Int32} {J : Nat → Int64} {al : Nat → Int32} {he : Nat → Int32} {p1 : Int32} {p2 : Int32} {p3 : Int32} {p4 : Int32} {Q : Int32 → Prop} (S : CallFix p m c cX9_alike 5 s args wsX9_alike RX9) (hr : meth.sig.returnType = (some .int)) (hlocks : meth.locks = false) (hG : GK g s) (hP : va_P g.1 vwCl [(qM, .inr (9, [.int (F 0), .ref q1, .ref q2, .ref q3, .int (F 4), .int (F 5), .int (F 6), .int (F 7), .int (F 8), .int (F 9), .long (J 10), .int (F 11), .int (F 12), .int (F 13), .ref q4, .int (F 15), .ref q5, .ref q6, .ref q7, .int (F 19), .ref q8, .int (F 21), .int (F 22), .int (F 23), .int (F 24), .ref q9, .ref q10, .ref q11, .long (J 28)])), (q1, .inl (g.2 0, 376, .inl al)), (q7, .inl (g.2 0, 200, .inl he))] s.heap) : ∀ (s0 : Int32), vX9_alike_c29 F J al he p1 p2 p3 p4 Q s0 → ∀ (ls : Array Slot), lv_has ls 5 [(0, .ref qM), (1, .int p1), (2, .int p2), (3, .int p3), (4, .int p4)] → W p l e (headSpec wsX9_alike rmX9_alike).room s m args below meth c s.heap [] 0 0 (MQ below (vp_Si Q) args s 0 0 (fun _ => False)) (F0 m 29 ls [.int s0]) := by
  obtain ⟨hx, hb, hml, hown, hts⟩ := id S
  have hK := hG.1
  intro s0 hv ls hl
  unfold vX9_alike_c29 at hv
  refine lv_aload_n hx hb dX9_alike_29 rfl (lv_at hl 0 rfl) ?_
  refine lv_iload_n hx hb dX9_alike_30 rfl (lv_at hl 3 rfl) ?_
  refine lv_aload_n hx hb dX9_alike_31 rfl (lv_at hl 0 rfl) ?_
  refine lv_iload_n hx hb dX9_alike_32 rfl (lv_at hl 1 rfl) ?_
  refine lv_iconst (v := (2 : Int32)) hx hb dX9_alike_33 (by decide) ?_
  obtain ⟨p_34, w_34, ho_1, hv⟩ := hv
  refine vp_callSi (W.runV (As := [.int p1, .int (2 : Int32)]) (rest := [.int p3, .ref qM, .int s0]) S (wX9_ofLeg l g qM q1 q2 q3 q4 q5 q6 q7 q8 q9 q10 q11 F J al p1 (2 : Int32) (sX9_ofLeg p_34 w_34 F J al p1 (2 : Int32) ho_1)) (cwV 2 hts gX9_alike_X9_ofLeg rfl rfl rfl (by decide +kernel) ⟨Nat.le_of_ble_eq_true rfl, Nat.le_of_ble_eq_true rfl⟩) ⟨blindRO, va_recv hK hP (ci := 9) (q0 := 0) rfl rfl, fun U hU hW => ⟨rfl, by rw [hU]; exact hP.sub (ws' := [(qM, .inr (9, [.int (F 0), .ref q1, .ref q2, .ref q3, .int (F 4), .int (F 5), .int (F 6), .int (F 7), .int (F 8), .int (F 9), .long (J 10), .int (F 11), .int (F 12), .int (F 13), .ref q4, .int (F 15), .ref q5, .ref q6, .ref q7, .int (F 19), .ref q8, .int (F 21), .int (F 22), .int (F 23), .int (F 24), .ref q9, .ref q10, .ref q11, .long (J 28)])), (q1, .inl (g.2 0, 376, .inl al))]) [0, 1] rfl, hG.warm hW⟩⟩ rfl rfl hl.1 rfl (lv_room (Nat.le_of_ble_eq_true rfl)) dX9_alike_34 ⟨Nat.le_of_ble_eq_true rfl, Nat.le_of_ble_eq_true rfl⟩) (fun r_34 hr_34 => ?_)
  have hv := hv r_34 hr_34
  refine lv_iload_n hx hb dX9_alike_37 rfl (lv_at hl 2 rfl) ?_
  refine lv_iadd hx hb dX9_alike_38 ?_
  refine lv_iload hx hb dX9_alike_39 (lv_at hl 4 rfl) ?_
  refine lv_isub hx hb dX9_alike_41 ?_
  obtain ⟨T_42, p_42, ho_2, hv⟩ := hv
  refine vp_callSi (W.runV (As := [.int p3, .int ((r_34 + p2) - p4)]) (rest := [.int s0]) S (wX9_chipOf l g qM q1 q2 q3 q4 q5 q6 q7 q8 q9 q10 q11 F J al p3 ((r_34 + p2) - p4) (sX9_chipOf T_42 p_42 F J al p3 ((r_34 + p2) - p4) ho_2)) (cwV 2 hts gX9_alike_X9_chipOf rfl rfl rfl (by decide +kernel) ⟨Nat.le_of_ble_eq_true rfl, Nat.le_of_ble_eq_true rfl⟩) ⟨blindRO, va_recv hK hP (ci := 9) (q0 := 0) rfl rfl, fun U hU hW => ⟨rfl, by rw [hU]; exact hP.sub (ws' := [(qM, .inr (9, [.int (F 0), .ref q1, .ref q2, .ref q3, .int (F 4), .int (F 5), .int (F 6), .int (F 7), .int (F 8), .int (F 9), .long (J 10), .int (F 11), .int (F 12), .int (F 13), .ref q4, .int (F 15), .ref q5, .ref q6, .ref q7, .int (F 19), .ref q8, .int (F 21), .int (F 22), .int (F 23), .int (F 24), .ref q9, .ref q10, .ref q11, .long (J 28)])), (q1, .inl (g.2 0, 376, .inl al))]) [0, 1] rfl, hG.warm hW⟩⟩ rfl rfl hl.1 rfl (lv_room (Nat.le_of_ble_eq_true rfl)) dX9_alike_42 ⟨Nat.le_of_ble_eq_true rfl, Nat.le_of_ble_eq_true rfl⟩) (fun r_42 hr_42 => ?_)
  have hv := hv r_42 hr_42
  obtain ⟨hvt, hvf⟩ := hv
  refine lv_icmp_ne (tgt := 52) hx hb dX9_alike_45 (by decide) (fun hc => ?_) (fun hc => ?_)
  · have hv := hvt hc
    refine lv_iconst (v := (-1 : Int32)) hx hb dX9_alike_52 (by decide) ?_
    exact W.iret (v := (-1 : Int32)) hx hb hr (fun t ht hW => ⟨_, rfl, hv, ht⟩) (fun _ h => by cases h) dX9_alike_53
  · have hv := hvf hc
    refine lv_iconst (v := (1 : Int32)) hx hb dX9_alike_48 (by decide) ?_
    refine lv_goto (tgt := 53) hx hb dX9_alike_49 (by decide) ?_
    exact W.iret (v := (1 : Int32)) hx hb hr (fun t ht hW => ⟨_, rfl, hv, ht⟩) (fun _ h => by cases h) dX9_alike_53
def vX9_alike (F : Nat → Int32) (J : Nat → Int64) (al : Nat → Int32) (he : Nat → Int32) (p1 : Int32) (p2 : Int32) (p3 : Int32) (p4 : Int32) (Q : Int32 → Prop) : Prop := (vp_in p2 200 ∧ ((¬ (he p2.toNatClampNeg) = (2 : Int32) → (vp_in p2 200 ∧ ((¬ (he p2.toNatClampNeg) = (1 : Int32) → (vX9_alike_c29 F J al he p1 p2 p3 p4 Q (0 : Int32))) ∧ ((he p2.toNatClampNeg) = (1 : Int32) → (vX9_alike_c29 F J al he p1 p2 p3 p4 Q (1 : Int32)))))) ∧ ((he p2.toNatClampNeg) = (2 : Int32) → (Q (0 : Int32)))))
set_option maxHeartbeats 4000000 in
set_option maxRecDepth 100000 in
theorem wX9_alike (l : Launch) (g : GP) (qM : Nat) (q1 : Nat) (q2 : Nat) (q3 : Nat) (q4 : Nat) (q5 : Nat) (q6 : Nat) (q7 : Nat) (q8 : Nat) (q9 : Nat) (q10 : Nat) (q11 : Nat) (F : Nat → Int32) (J : Nat → Int64) (al : Nat → Int32) (he : Nat → Int32) (p1 : Int32) (p2 : Int32) (p3 : Int32) (p4 : Int32) {Q : Int32 → Prop} (hv : vX9_alike F J al he p1 p2 p3 p4 Q) : Met l yX9_alike wsX9_alike rmX9_alike (va_Pc [.ref qM, .int p1, .int p2, .int p3, .int p4] (fun U => va_P g.1 vwCl [(qM, .inr (9, [.int (F 0), .ref q1, .ref q2, .ref q3, .int (F 4), .int (F 5), .int (F 6), .int (F 7), .int (F 8), .int (F 9), .long (J 10), .int (F 11), .int (F 12), .int (F 13), .ref q4, .int (F 15), .ref q5, .ref q6, .ref q7, .int (F 19), .ref q8, .int (F 21), .int (F 22), .int (F 23), .int (F 24), .ref q9, .ref q10, .ref q11, .long (J 28)])), (q1, .inl (g.2 0, 376, .inl al)), (q7, .inl (g.2 0, 200, .inl he))] U.heap ∧ GK g U)) (vp_Si Q) 0 0 (fun _ => False) := by
  refine Met.ofW (cc := cX9_alike) (maxL := 5) (ret := (some .int)) (by decide) rfl ?_
  intro p e s m args below meth c s₁ B hml hv'
  obtain ⟨rfl, hP, hG⟩ := hv'
  have S : CallFix p m c cX9_alike 5 s _ wsX9_alike RX9 := ⟨B.exec, B.bytes, hml, findClass_of_methodNamed B.named, atoms_spec (ws := wsX9_alike) B.pre⟩
  obtain ⟨hx, hb, hml, hown, hts⟩ := id S
  have hK := hG.1
  have hr := B.returns
  have hlocks := B.notSynchronized
  have hl := lv_entry ([.ref qM, .int p1, .int p2, .int p3, .int p4]) (n := 5) (Nat.le_of_ble_eq_true rfl)
  rw [lg_entry_eq]
  generalize (lg_sl ([.ref qM, .int p1, .int p2, .int p3, .int p4]) ++ List.replicate (5 - (lg_sl ([.ref qM, .int p1, .int p2, .int p3, .int p4])).length) Slot.unset).toArray = ls at hl ⊢
  have hl : lv_has ls 5 [(0, .ref qM), (1, .int p1), (2, .int p2), (3, .int p3), (4, .int p4)] := hl
  unfold vX9_alike at hv
  refine lv_aload_n hx hb dX9_alike_0 rfl (lv_at hl 0 rfl) ?_
  refine va_get (D := g.1) (ci := 9) (v := .ref q7) (C := RX9) (T := TX9) (N := 29) hx hb hts inX9_alike_9 hown hK hP 0 rfl rfl 18 (by decide) (hts (.fieldLink RX9 30 "RangeCodesModel" "heard" "[I") (List.mem_of_getElem? (i := 1) rfl)) (fun _ h9 => h9) rfl dX9_alike_1 ?_
  refine lv_iload_n hx hb dX9_alike_4 rfl (lv_at hl 2 rfl) ?_
  obtain ⟨ho_1, hv⟩ := hv
  refine va_iald hx hb hK hP 2 0 rfl rfl ho_1 dX9_alike_5 ?_
  refine lv_iconst (v := (2 : Int32)) hx hb dX9_alike_6 (by decide) ?_
  obtain ⟨hvt, hvf⟩ := hv
  refine lv_icmp_ne (tgt := 14) hx hb dX9_alike_7 (by decide) (fun hc => ?_) (fun hc => ?_)
  · have hv := hvt hc
    refine lv_aload_n hx hb dX9_alike_14 rfl (lv_at hl 0 rfl) ?_
    refine va_get (D := g.1) (ci := 9) (v := .ref q7) (C := RX9) (T := TX9) (N := 29) hx hb hts inX9_alike_9 hown hK hP 0 rfl rfl 18 (by decide) (hts (.fieldLink RX9 30 "RangeCodesModel" "heard" "[I") (List.mem_of_getElem? (i := 1) rfl)) (fun _ h9 => h9) rfl dX9_alike_15 ?_
    refine lv_iload_n hx hb dX9_alike_18 rfl (lv_at hl 2 rfl) ?_
    obtain ⟨ho_2, hv⟩ := hv
    refine va_iald hx hb hK hP 2 0 rfl rfl ho_2 dX9_alike_19 ?_
    refine lv_iconst (v := (1 : Int32)) hx hb dX9_alike_20 (by decide) ?_
    obtain ⟨hvt, hvf⟩ := hv
    refine lv_icmp_ne (tgt := 28) hx hb dX9_alike_21 (by decide) (fun hc => ?_) (fun hc => ?_)
    · have hv := hvt hc
      refine lv_iconst (v := (0 : Int32)) hx hb dX9_alike_28 (by decide) ?_
      exact kX9_alike_c29 S hr hlocks hG hP _ hv ls (lv_sub hl [0, 1, 2, 3, 4] rfl)
    · have hv := hvf hc
      refine lv_iconst (v := (1 : Int32)) hx hb dX9_alike_24 (by decide) ?_
      refine lv_goto (tgt := 29) hx hb dX9_alike_25 (by decide) ?_
      exact kX9_alike_c29 S hr hlocks hG hP _ hv ls (lv_sub hl [0, 1, 2, 3, 4] rfl)
  · have hv := hvf hc
    refine lv_iconst (v := (0 : Int32)) hx hb dX9_alike_10 (by decide) ?_
    refine lv_goto (tgt := 53) hx hb dX9_alike_11 (by decide) ?_
    exact W.iret (v := (0 : Int32)) hx hb hr (fun t ht hW => ⟨_, rfl, hv, ht⟩) (fun _ h => by cases h) dX9_alike_53
abbrev preX9_alike (T : Cd) (G : Lg) (l i p pl : Nat) (h : Nat → Nat) (_ : Nat → Int32) (_ : Nat → Int64) (al he : Nat → Int32) (p1 p2 p3 p4 : Int32) : Prop := mT T al ∧ mG G l al ∧ l < 2 ∧ p1.toInt = (l : Int) ∧ p2.toInt = (i : Int) ∧ i < 200 ∧ p3.toInt = (p : Int) ∧ p < cn T ∧ p4.toInt = (pl : Int) ∧ pl ≤ 13 ∧ (he i).toInt = (h i : Int) ∧ h i ≤ 2
abbrev postX9_alike (T : Cd) (G : Lg) (_ i p pl : Nat) (h : Nat → Nat) (_ : Nat → Int32) (_ : Nat → Int64) (_ _ : Nat → Int32) (_ _ _ _ r : Int32) : Prop := r.toInt = alZ T h (gfr G) p pl i
theorem sX9_alike_29 (T : Cd) (G : Lg) (l i p pl : Nat) (h : Nat → Nat) (F : Nat → Int32) (J : Nat → Int64) (al he : Nat → Int32) (p1 p2 p3 p4 : Int32) (H : preX9_alike T G l i p pl h F J al he p1 p2 p3 p4) (s0 : Int32) (hs : s0 = if decide (h i = 1) then 1 else 0) (h2 : h i ≠ 2) : vX9_alike_c29 F J al he p1 p2 p3 p4 (postX9_alike T G l i p pl h F J al he p1 p2 p3 p4) s0 := by
  obtain ⟨hT, hG, hl, h1, hi, hi2, h3, hp, h4, hpl, hh, hh2⟩ := H
  have hfr := mG_fr hG
  refine ⟨l, 2, ⟨h1, rfl, by omega⟩, fun r hr => ?_⟩
  have hr : r.toInt = (gfr G : Int) := by rw [hr]; exact hfr.1
  have et : (r + p2).toInt = ((gfr G + i : Nat) : Int) := q_addN hr hi (by omega)
  have e : ((r + p2) - p4).toInt = ((gfr G + i : Nat) : Int) - (pl : Int) := q_sub et h4 (by omega) (by omega)
  refine ⟨T, p, ⟨hT.1.2, hT.2.1, hT.2.2.2, h3, hp⟩, fun r2 hr2 => ?_⟩
  have hr2 : r2 = if chB T p ((r + p2) - p4).toInt then 1 else 0 := hr2
  rw [e] at hr2
  have key : (s0 = r2) ↔ (decide (h i = 1) = chB T p (((gfr G + i : Nat) : Int) - (pl : Int))) := by
    rw [hs, hr2]
    cases decide (h i = 1) <;> cases chB T p (((gfr G + i : Nat) : Int) - (pl : Int)) <;> simp
  rw [key]
  unfold postX9_alike alZ
  rw [if_neg h2]
  refine ⟨fun q => ?_, fun q => ?_⟩
  · rw [if_neg q]; rfl
  · rw [if_pos q]; rfl
theorem sX9_alike (T : Cd) (G : Lg) (l i p pl : Nat) (h : Nat → Nat) (F : Nat → Int32) (J : Nat → Int64) (al he : Nat → Int32) (p1 p2 p3 p4 : Int32) (H : preX9_alike T G l i p pl h F J al he p1 p2 p3 p4) : vX9_alike F J al he p1 p2 p3 p4 (postX9_alike T G l i p pl h F J al he p1 p2 p3 p4) := by
  obtain ⟨hT, hG, hl, h1, hi, hi2, h3, hp, h4, hpl, hh, hh2⟩ := id H
  refine ⟨q_in hi hi2, ?_⟩
  rw [q_cl hi, q_eq hh z2]
  refine ⟨fun hc => ⟨q_in hi hi2, ?_⟩, fun hc => ?_⟩
  · rw [q_eq hh z1]
    refine ⟨fun hd => sX9_alike_29 T G l i p pl h F J al he p1 p2 p3 p4 H _ ?_ (by omega), fun hd => sX9_alike_29 T G l i p pl h F J al he p1 p2 p3 p4 H _ ?_ (by omega)⟩
    · simp [show ¬ h i = 1 by omega]
    · simp [show h i = 1 by omega]
  · show (0 : Int32).toInt = _
    unfold alZ
    rw [if_pos (by omega)]
    rfl
set_option maxRecDepth 20000 in
theorem ggX9_bestOf_X9_of : GoodIn wsX9_bestOf wsX9_of := goodIn_r _ [6, 7, 8, 9, 10, 11, 12, 13, 14, 15, 16, 17, 18, 19, 20, 21, 22, 23, 24, 25, 26, 27, 28, 29, 30, 31, 32, 33, 34, 35, 36] (by decide +kernel) (by decide +kernel)
set_option maxRecDepth 20000 in
theorem gX9_bestOf_X9_of : GoodIn wsX9_bestOf (wsV RX9 195 RX9 yX9_of wsX9_of) := goodIn_app (goodIn_of _ (by decide +kernel)) ggX9_bestOf_X9_of
theorem dX9_bestOf_0 : decode cX9_bestOf 0 = .ok (.iconst 0, 1) := by decide +kernel
theorem dX9_bestOf_1 : decode cX9_bestOf 1 = .ok (.istore_n 2, 1) := by decide +kernel
theorem dX9_bestOf_2 : decode cX9_bestOf 2 = .ok (.iconst 1, 1) := by decide +kernel
theorem dX9_bestOf_3 : decode cX9_bestOf 3 = .ok (.istore_n 3, 1) := by decide +kernel
theorem dX9_bestOf_4 : decode cX9_bestOf 4 = .ok (.iload_n 3, 1) := by decide +kernel
theorem dX9_bestOf_5 : decode cX9_bestOf 5 = .ok (.aload_n 0, 1) := by decide +kernel
theorem dX9_bestOf_6 : decode cX9_bestOf 6 = .ok (.iload_n 1, 1) := by decide +kernel
theorem dX9_bestOf_7 : decode cX9_bestOf 7 = .ok (.iconst 0, 1) := by decide +kernel
theorem dX9_bestOf_8 : decode cX9_bestOf 8 = .ok (.invokevirtual 195, 3) := by decide +kernel
theorem dX9_bestOf_11 : decode cX9_bestOf 11 = .ok (.if_icmp .ge 40, 3) := by decide +kernel
theorem dX9_bestOf_14 : decode cX9_bestOf 14 = .ok (.aload_n 0, 1) := by decide +kernel
theorem dX9_bestOf_15 : decode cX9_bestOf 15 = .ok (.getfield 33, 3) := by decide +kernel
theorem dX9_bestOf_18 : decode cX9_bestOf 18 = .ok (.bipush 13, 2) := by decide +kernel
theorem dX9_bestOf_20 : decode cX9_bestOf 20 = .ok (.iload_n 1, 1) := by decide +kernel
theorem dX9_bestOf_21 : decode cX9_bestOf 21 = .ok (.imul, 1) := by decide +kernel
theorem dX9_bestOf_22 : decode cX9_bestOf 22 = .ok (.iload_n 3, 1) := by decide +kernel
theorem dX9_bestOf_23 : decode cX9_bestOf 23 = .ok (.iadd, 1) := by decide +kernel
theorem dX9_bestOf_24 : decode cX9_bestOf 24 = .ok (.iaload, 1) := by decide +kernel
theorem dX9_bestOf_25 : decode cX9_bestOf 25 = .ok (.aload_n 0, 1) := by decide +kernel
theorem dX9_bestOf_26 : decode cX9_bestOf 26 = .ok (.getfield 33, 3) := by decide +kernel
theorem dX9_bestOf_29 : decode cX9_bestOf 29 = .ok (.bipush 13, 2) := by decide +kernel
theorem dX9_bestOf_31 : decode cX9_bestOf 31 = .ok (.iload_n 1, 1) := by decide +kernel
theorem dX9_bestOf_32 : decode cX9_bestOf 32 = .ok (.imul, 1) := by decide +kernel
theorem dX9_bestOf_33 : decode cX9_bestOf 33 = .ok (.iload_n 2, 1) := by decide +kernel
theorem dX9_bestOf_34 : decode cX9_bestOf 34 = .ok (.iadd, 1) := by decide +kernel
theorem dX9_bestOf_35 : decode cX9_bestOf 35 = .ok (.iaload, 1) := by decide +kernel
theorem dX9_bestOf_36 : decode cX9_bestOf 36 = .ok (.if_icmp .le 7, 3) := by decide +kernel
theorem dX9_bestOf_39 : decode cX9_bestOf 39 = .ok (.iload_n 3, 1) := by decide +kernel
theorem dX9_bestOf_40 : decode cX9_bestOf 40 = .ok (.goto 4, 3) := by decide +kernel
theorem dX9_bestOf_43 : decode cX9_bestOf 43 = .ok (.iload_n 2, 1) := by decide +kernel
theorem dX9_bestOf_44 : decode cX9_bestOf 44 = .ok (.istore_n 2, 1) := by decide +kernel
theorem dX9_bestOf_45 : decode cX9_bestOf 45 = .ok (.iinc 3 1, 3) := by decide +kernel
theorem dX9_bestOf_48 : decode cX9_bestOf 48 = .ok (.goto (-44), 3) := by decide +kernel
theorem dX9_bestOf_51 : decode cX9_bestOf 51 = .ok (.iload_n 2, 1) := by decide +kernel
theorem dX9_bestOf_52 : decode cX9_bestOf 52 = .ok (.ireturn, 1) := by decide +kernel
abbrev rmX9_bestOf : Room := { frames := 1, cells := 0, slots := 0, locals := 22 }
theorem inX9_bestOf_9 : ∀ w ∈ wsX90, w ∈ wsX9_bestOf := by decide +kernel
def vX9_bestOf_c4 (F : Nat → Int32) (J : Nat → Int64) (al : Nat → Int32) (ma : Nat → Int32) (p1 : Int32) (Q : Int32 → Prop) : Nat → Int32 → Int32 → Prop
  | 0, _, _ => False
  | n + 1, x2, x3 => (∃ (p_8 : Nat) (w_8 : Nat), preX9_of p_8 w_8 F J al p1 (0 : Int32) ∧ (∀ r_8 : Int32, postX9_of p_8 w_8 F J al p1 (0 : Int32) r_8 → ((r_8 ≤ x3 → (Q x2)) ∧ (¬ r_8 ≤ x3 → (vp_in (((13 : Int32) * p1) + x3) 65 ∧ (vp_in (((13 : Int32) * p1) + x2) 65 ∧ (((ma (((13 : Int32) * p1) + x3).toNatClampNeg) ≤ (ma (((13 : Int32) * p1) + x2).toNatClampNeg) → (vX9_bestOf_c4 F J al ma p1 Q n x2 (x3 + (1 : Int32)))) ∧ (¬ (ma (((13 : Int32) * p1) + x3).toNatClampNeg) ≤ (ma (((13 : Int32) * p1) + x2).toNatClampNeg) → (vX9_bestOf_c4 F J al ma p1 Q n x3 (x3 + (1 : Int32)))))))))))
set_option maxHeartbeats 4000000 in
set_option maxRecDepth 100000 in
theorem kX9_bestOf_c4 {p : Program} {l : Launch} {e : Env} {s : State} {m : MethodId} {args : Array Value} {below : List Frame} {meth : Method} {c : Code} {g : GP} {qM q1 q2 q3 q4 q5 q6 q7 q8 q9 q10 q11 : Nat} {F : Nat → Int32} {J : Nat → Int64} {al : Nat → Int32} {ma : Nat → Int32} {p1 : Int32} {Q : Int32 → Prop} (S : CallFix p m c cX9_bestOf 4 s args wsX9_bestOf RX9) (hr : meth.sig.returnType = (some .int)) (hlocks : meth.locks = false) (hG : GK g s) (hP : va_P g.1 vwCl [(qM, .inr (9, [.int (F 0), .ref q1, .ref q2, .ref q3, .int (F 4), .int (F 5), .int (F 6), .int (F 7), .int (F 8), .int (F 9), .long (J 10), .int (F 11), .int (F 12), .int (F 13), .ref q4, .int (F 15), .ref q5, .ref q6, .ref q7, .int (F 19), .ref q8, .int (F 21), .int (F 22), .int (F 23), .int (F 24), .ref q9, .ref q10, .ref q11, .long (J 28)])), (q1, .inl (g.2 0, 376, .inl al)), (q8, .inl (g.2 0, 65, .inl ma))] s.heap) : ∀ (n : Nat), ∀ (x2 : Int32) (x3 : Int32), vX9_bestOf_c4 F J al ma p1 Q n x2 x3 → ∀ (ls : Array Slot), lv_has ls 4 [(0, .ref qM), (1, .int p1), (2, .int x2), (3, .int x3)] → W p l e (headSpec wsX9_bestOf rmX9_bestOf).room s m args below meth c s.heap [] 0 0 (MQ below (vp_Si Q) args s 0 0 (fun _ => False)) (F0 m 4 ls []) := by
  obtain ⟨hx, hb, hml, hown, hts⟩ := id S
  have hK := hG.1
  intro n
  induction n with
  | zero => intro x2 x3 hv; exact hv.elim
  | succ n ih =>
    intro x2 x3 hv ls hl
    refine lv_iload_n hx hb dX9_bestOf_4 rfl (lv_at hl 3 rfl) ?_
    refine lv_aload_n hx hb dX9_bestOf_5 rfl (lv_at hl 0 rfl) ?_
    refine lv_iload_n hx hb dX9_bestOf_6 rfl (lv_at hl 1 rfl) ?_
    refine lv_iconst (v := (0 : Int32)) hx hb dX9_bestOf_7 (by decide) ?_
    obtain ⟨p_8, w_8, ho_1, hv⟩ := hv
    refine vp_callSi (W.runV (As := [.int p1, .int (0 : Int32)]) (rest := [.int x3]) S (wX9_of l g qM q1 q2 q3 q4 q5 q6 q7 q8 q9 q10 q11 F J al p1 (0 : Int32) (sX9_of p_8 w_8 F J al p1 (0 : Int32) ho_1)) (cwV 2 hts gX9_bestOf_X9_of rfl rfl rfl (by decide +kernel) ⟨Nat.le_of_ble_eq_true rfl, Nat.le_of_ble_eq_true rfl⟩) ⟨blindRO, va_recv hK hP (ci := 9) (q0 := 0) rfl rfl, fun U hU hW => ⟨rfl, by rw [hU]; exact hP.sub (ws' := [(qM, .inr (9, [.int (F 0), .ref q1, .ref q2, .ref q3, .int (F 4), .int (F 5), .int (F 6), .int (F 7), .int (F 8), .int (F 9), .long (J 10), .int (F 11), .int (F 12), .int (F 13), .ref q4, .int (F 15), .ref q5, .ref q6, .ref q7, .int (F 19), .ref q8, .int (F 21), .int (F 22), .int (F 23), .int (F 24), .ref q9, .ref q10, .ref q11, .long (J 28)])), (q1, .inl (g.2 0, 376, .inl al))]) [0, 1] rfl, hG.warm hW⟩⟩ rfl rfl hl.1 rfl (lv_room (Nat.le_of_ble_eq_true rfl)) dX9_bestOf_8 ⟨Nat.le_of_ble_eq_true rfl, Nat.le_of_ble_eq_true rfl⟩) (fun r_8 hr_8 => ?_)
    have hv := hv r_8 hr_8
    obtain ⟨hvt, hvf⟩ := hv
    refine lv_icmp_ge (tgt := 51) hx hb dX9_bestOf_11 (by decide) (fun hc => ?_) (fun hc => ?_)
    · have hv := hvt hc
      refine lv_iload_n hx hb dX9_bestOf_51 rfl (lv_at hl 2 rfl) ?_
      exact W.iret (v := x2) hx hb hr (fun t ht hW => ⟨_, rfl, hv, ht⟩) (fun _ h => by cases h) dX9_bestOf_52
    · have hv := hvf hc
      refine lv_aload_n hx hb dX9_bestOf_14 rfl (lv_at hl 0 rfl) ?_
      refine va_get (D := g.1) (ci := 9) (v := .ref q8) (C := RX9) (T := TX9) (N := 29) hx hb hts inX9_bestOf_9 hown hK hP 0 rfl rfl 20 (by decide) (hts (.fieldLink RX9 33 "RangeCodesModel" "matches" "[I") (List.mem_of_getElem? (i := 1) rfl)) (fun _ h9 => h9) rfl dX9_bestOf_15 ?_
      refine lv_bipush (v := (13 : Int32)) hx hb dX9_bestOf_18 (by decide) ?_
      refine lv_iload_n hx hb dX9_bestOf_20 rfl (lv_at hl 1 rfl) ?_
      refine lv_imul hx hb dX9_bestOf_21 ?_
      refine lv_iload_n hx hb dX9_bestOf_22 rfl (lv_at hl 3 rfl) ?_
      refine lv_iadd hx hb dX9_bestOf_23 ?_
      obtain ⟨ho_2, hv⟩ := hv
      refine va_iald hx hb hK hP 2 0 rfl rfl ho_2 dX9_bestOf_24 ?_
      refine lv_aload_n hx hb dX9_bestOf_25 rfl (lv_at hl 0 rfl) ?_
      refine va_get (D := g.1) (ci := 9) (v := .ref q8) (C := RX9) (T := TX9) (N := 29) hx hb hts inX9_bestOf_9 hown hK hP 0 rfl rfl 20 (by decide) (hts (.fieldLink RX9 33 "RangeCodesModel" "matches" "[I") (List.mem_of_getElem? (i := 1) rfl)) (fun _ h9 => h9) rfl dX9_bestOf_26 ?_
      refine lv_bipush (v := (13 : Int32)) hx hb dX9_bestOf_29 (by decide) ?_
      refine lv_iload_n hx hb dX9_bestOf_31 rfl (lv_at hl 1 rfl) ?_
      refine lv_imul hx hb dX9_bestOf_32 ?_
      refine lv_iload_n hx hb dX9_bestOf_33 rfl (lv_at hl 2 rfl) ?_
      refine lv_iadd hx hb dX9_bestOf_34 ?_
      obtain ⟨ho_3, hv⟩ := hv
      refine va_iald hx hb hK hP 2 0 rfl rfl ho_3 dX9_bestOf_35 ?_
      obtain ⟨hvt, hvf⟩ := hv
      refine lv_icmp_le (tgt := 43) hx hb dX9_bestOf_36 (by decide) (fun hc => ?_) (fun hc => ?_)
      · have hv := hvt hc
        refine lv_iload_n hx hb dX9_bestOf_43 rfl (lv_at hl 2 rfl) ?_
        refine lv_istore_n (lv' := [(2, .int x2), (0, .ref qM), (1, .int p1), (3, .int x3)]) hx hb dX9_bestOf_44 rfl hl (by decide) rfl (fun ls hl => ?_)
        refine lv_iinc (v := (x3 + (1 : Int32))) (lv' := [(3, .int (x3 + (1 : Int32))), (2, .int x2), (0, .ref qM), (1, .int p1)]) hx hb dX9_bestOf_45 hl (k := 3) rfl rfl (by decide) rfl (fun ls hl => ?_)
        refine lv_goto (tgt := 4) hx hb dX9_bestOf_48 (by decide) ?_
        exact ih _ _ hv ls (lv_sub hl [2, 3, 1, 0] rfl)
      · have hv := hvf hc
        refine lv_iload_n hx hb dX9_bestOf_39 rfl (lv_at hl 3 rfl) ?_
        refine lv_goto (tgt := 44) hx hb dX9_bestOf_40 (by decide) ?_
        refine lv_istore_n (lv' := [(2, .int x3), (0, .ref qM), (1, .int p1), (3, .int x3)]) hx hb dX9_bestOf_44 rfl hl (by decide) rfl (fun ls hl => ?_)
        refine lv_iinc (v := (x3 + (1 : Int32))) (lv' := [(3, .int (x3 + (1 : Int32))), (2, .int x3), (0, .ref qM), (1, .int p1)]) hx hb dX9_bestOf_45 hl (k := 3) rfl rfl (by decide) rfl (fun ls hl => ?_)
        refine lv_goto (tgt := 4) hx hb dX9_bestOf_48 (by decide) ?_
        exact ih _ _ hv ls (lv_sub hl [2, 3, 1, 0] rfl)
def vX9_bestOf (F : Nat → Int32) (J : Nat → Int64) (al : Nat → Int32) (ma : Nat → Int32) (p1 : Int32) (Q : Int32 → Prop) : Prop := (∃ nn, vX9_bestOf_c4 F J al ma p1 Q nn (0 : Int32) (1 : Int32))
set_option maxHeartbeats 4000000 in
set_option maxRecDepth 100000 in
theorem wX9_bestOf (l : Launch) (g : GP) (qM : Nat) (q1 : Nat) (q2 : Nat) (q3 : Nat) (q4 : Nat) (q5 : Nat) (q6 : Nat) (q7 : Nat) (q8 : Nat) (q9 : Nat) (q10 : Nat) (q11 : Nat) (F : Nat → Int32) (J : Nat → Int64) (al : Nat → Int32) (ma : Nat → Int32) (p1 : Int32) {Q : Int32 → Prop} (hv : vX9_bestOf F J al ma p1 Q) : Met l yX9_bestOf wsX9_bestOf rmX9_bestOf (va_Pc [.ref qM, .int p1] (fun U => va_P g.1 vwCl [(qM, .inr (9, [.int (F 0), .ref q1, .ref q2, .ref q3, .int (F 4), .int (F 5), .int (F 6), .int (F 7), .int (F 8), .int (F 9), .long (J 10), .int (F 11), .int (F 12), .int (F 13), .ref q4, .int (F 15), .ref q5, .ref q6, .ref q7, .int (F 19), .ref q8, .int (F 21), .int (F 22), .int (F 23), .int (F 24), .ref q9, .ref q10, .ref q11, .long (J 28)])), (q1, .inl (g.2 0, 376, .inl al)), (q8, .inl (g.2 0, 65, .inl ma))] U.heap ∧ GK g U)) (vp_Si Q) 0 0 (fun _ => False) := by
  refine Met.ofW (cc := cX9_bestOf) (maxL := 4) (ret := (some .int)) (by decide) rfl ?_
  intro p e s m args below meth c s₁ B hml hv'
  obtain ⟨rfl, hP, hG⟩ := hv'
  have S : CallFix p m c cX9_bestOf 4 s _ wsX9_bestOf RX9 := ⟨B.exec, B.bytes, hml, findClass_of_methodNamed B.named, atoms_spec (ws := wsX9_bestOf) B.pre⟩
  obtain ⟨hx, hb, hml, hown, hts⟩ := id S
  have hK := hG.1
  have hr := B.returns
  have hlocks := B.notSynchronized
  have hl := lv_entry ([.ref qM, .int p1]) (n := 4) (Nat.le_of_ble_eq_true rfl)
  rw [lg_entry_eq]
  generalize (lg_sl ([.ref qM, .int p1]) ++ List.replicate (4 - (lg_sl ([.ref qM, .int p1])).length) Slot.unset).toArray = ls at hl ⊢
  have hl : lv_has ls 4 [(0, .ref qM), (1, .int p1)] := hl
  unfold vX9_bestOf at hv
  refine lv_iconst (v := (0 : Int32)) hx hb dX9_bestOf_0 (by decide) ?_
  refine lv_istore_n (lv' := [(2, .int (0 : Int32)), (0, .ref qM), (1, .int p1)]) hx hb dX9_bestOf_1 rfl hl (by decide) rfl (fun ls hl => ?_)
  refine lv_iconst (v := (1 : Int32)) hx hb dX9_bestOf_2 (by decide) ?_
  refine lv_istore_n (lv' := [(3, .int (1 : Int32)), (2, .int (0 : Int32)), (0, .ref qM), (1, .int p1)]) hx hb dX9_bestOf_3 rfl hl (by decide) rfl (fun ls hl => ?_)
  obtain ⟨nn, hv⟩ := hv
  exact kX9_bestOf_c4 S hr hlocks hG hP nn _ _ hv ls (lv_sub hl [2, 3, 1, 0] rfl)
abbrev isM (m : Nat → Nat → Int) (p L : Nat) (ma : Nat → Int32) : Prop := ∀ w, w < L → (ma (13 * p + w)).toInt = m p w
abbrev preX9_bestOf (T : Cd) (p : Nat) (m : Nat → Nat → Int) (_ : Nat → Int32) (_ : Nat → Int64) (al ma : Nat → Int32) (p1 : Int32) : Prop := cn T ≤ 5 ∧ isL T (aL al) ∧ p1.toInt = (p : Int) ∧ p < cn T ∧ isM m p (cL T p) ma
abbrev postX9_bestOf (T : Cd) (p : Nat) (m : Nat → Nat → Int) (_ : Nat → Int32) (_ : Nat → Int64) (_ _ : Nat → Int32) (_ r : Int32) : Prop := r.toInt = ((bst (m p) (cL T p) : Nat) : Int)
theorem sX9_bestOf_1 (T : Cd) (p : Nat) (m : Nat → Nat → Int) (F : Nat → Int32) (J : Nat → Int64) (al ma : Nat → Int32) (p1 : Int32) (h : preX9_bestOf T p m F J al ma p1) : ∀ (n i : Nat) (x2 x3 : Int32), x2.toInt = ((bst (m p) i : Nat) : Int) → x3.toInt = (i : Int) → 1 ≤ i → i ≤ cL T p → cL T p + 1 ≤ i + n → vX9_bestOf_c4 F J al ma p1 (postX9_bestOf T p m F J al ma p1) n x2 x3
  | 0, i, x2, x3, _, _, _, hi, hn => absurd hn (by omega)
  | n + 1, i, x2, x3, h2, h3, hi1, hi, hn => by
    obtain ⟨hn5, hL, h1, hp, hM⟩ := id h
    have hl := hL p hp
    have hb := bst_lt (m p) i (by omega)
    rw [vX9_bestOf_c4]
    refine ⟨p, 0, ⟨h1, rfl, by omega⟩, fun r hr => ?_⟩
    have hr : r = aL al p := hr
    rw [hr, q_le hl.1 h3]
    refine ⟨fun hc => ?_, fun hc => ?_⟩
    · have : i = cL T p := by omega
      subst this
      exact h2
    · have e3 := q_13 h1 h3 (by omega) (by omega)
      have e2 := q_13 h1 h2 (by omega) (by omega)
      have h3s := q_1 h3 (by omega)
      refine ⟨q_in e3 (by omega), q_in e2 (by omega), ?_⟩
      rw [q_cl e3, q_cl e2, fa_le, hM i (by omega), hM _ (by omega)]
      refine ⟨fun hq => sX9_bestOf_1 T p m F J al ma p1 h n (i + 1) _ _ ?_ h3s (by omega) (by omega) (by omega), fun hq => sX9_bestOf_1 T p m F J al ma p1 h n (i + 1) _ _ ?_ h3s (by omega) (by omega) (by omega)⟩
      · rw [bst, if_neg (by omega)]; exact h2
      · rw [bst, if_pos (by omega)]; exact h3
theorem sX9_bestOf (T : Cd) (p : Nat) (m : Nat → Nat → Int) (F : Nat → Int32) (J : Nat → Int64) (al ma : Nat → Int32) (p1 : Int32) (h : preX9_bestOf T p m F J al ma p1) : vX9_bestOf F J al ma p1 (postX9_bestOf T p m F J al ma p1) := by
  have hl := h.2.1 p h.2.2.2.1
  exact ⟨cL T p + 1, sX9_bestOf_1 T p m F J al ma p1 h (cL T p + 1) 1 0 1 (by rw [bst_1]; rfl) rfl (by omega) (by omega) (by omega)⟩
set_option maxRecDepth 20000 in
theorem ggX9_matchOf_X9_bestOf : GoodIn wsX9_matchOf wsX9_bestOf := goodIn_r _ [6, 1, 7, 8, 9, 5, 10, 11, 12, 13, 14, 15, 16, 17, 18, 19, 20, 21, 22, 23, 24, 25, 26, 27, 28, 29, 30, 31, 32, 33, 34, 35, 36, 37, 38, 39, 40] (by decide +kernel) (by decide +kernel)
set_option maxRecDepth 20000 in
theorem gX9_matchOf_X9_bestOf : GoodIn wsX9_matchOf (wsV RX9 260 RX9 yX9_bestOf wsX9_bestOf) := goodIn_app (goodIn_of _ (by decide +kernel)) ggX9_matchOf_X9_bestOf
theorem dX9_matchOf_0 : decode cX9_matchOf 0 = .ok (.aload_n 0, 1) := by decide +kernel
theorem dX9_matchOf_1 : decode cX9_matchOf 1 = .ok (.getfield 33, 3) := by decide +kernel
theorem dX9_matchOf_4 : decode cX9_matchOf 4 = .ok (.bipush 13, 2) := by decide +kernel
theorem dX9_matchOf_6 : decode cX9_matchOf 6 = .ok (.iload_n 1, 1) := by decide +kernel
theorem dX9_matchOf_7 : decode cX9_matchOf 7 = .ok (.imul, 1) := by decide +kernel
theorem dX9_matchOf_8 : decode cX9_matchOf 8 = .ok (.aload_n 0, 1) := by decide +kernel
theorem dX9_matchOf_9 : decode cX9_matchOf 9 = .ok (.iload_n 1, 1) := by decide +kernel
theorem dX9_matchOf_10 : decode cX9_matchOf 10 = .ok (.invokevirtual 260, 3) := by decide +kernel
theorem dX9_matchOf_13 : decode cX9_matchOf 13 = .ok (.iadd, 1) := by decide +kernel
theorem dX9_matchOf_14 : decode cX9_matchOf 14 = .ok (.iaload, 1) := by decide +kernel
theorem dX9_matchOf_15 : decode cX9_matchOf 15 = .ok (.ireturn, 1) := by decide +kernel
abbrev rmX9_matchOf : Room := { frames := 2, cells := 0, slots := 0, locals := 45 }
theorem inX9_matchOf_9 : ∀ w ∈ wsX90, w ∈ wsX9_matchOf := by decide +kernel
def vX9_matchOf (F : Nat → Int32) (J : Nat → Int64) (al : Nat → Int32) (ma : Nat → Int32) (p1 : Int32) (Q : Int32 → Prop) : Prop := (∃ (T_10 : Cd) (p_10 : Nat) (m_10 : Nat → Nat → Int), preX9_bestOf T_10 p_10 m_10 F J al ma p1 ∧ (∀ r_10 : Int32, postX9_bestOf T_10 p_10 m_10 F J al ma p1 r_10 → (vp_in (((13 : Int32) * p1) + r_10) 65 ∧ (Q (ma (((13 : Int32) * p1) + r_10).toNatClampNeg)))))
set_option maxHeartbeats 4000000 in
set_option maxRecDepth 100000 in
theorem wX9_matchOf (l : Launch) (g : GP) (qM : Nat) (q1 : Nat) (q2 : Nat) (q3 : Nat) (q4 : Nat) (q5 : Nat) (q6 : Nat) (q7 : Nat) (q8 : Nat) (q9 : Nat) (q10 : Nat) (q11 : Nat) (F : Nat → Int32) (J : Nat → Int64) (al : Nat → Int32) (ma : Nat → Int32) (p1 : Int32) {Q : Int32 → Prop} (hv : vX9_matchOf F J al ma p1 Q) : Met l yX9_matchOf wsX9_matchOf rmX9_matchOf (va_Pc [.ref qM, .int p1] (fun U => va_P g.1 vwCl [(qM, .inr (9, [.int (F 0), .ref q1, .ref q2, .ref q3, .int (F 4), .int (F 5), .int (F 6), .int (F 7), .int (F 8), .int (F 9), .long (J 10), .int (F 11), .int (F 12), .int (F 13), .ref q4, .int (F 15), .ref q5, .ref q6, .ref q7, .int (F 19), .ref q8, .int (F 21), .int (F 22), .int (F 23), .int (F 24), .ref q9, .ref q10, .ref q11, .long (J 28)])), (q1, .inl (g.2 0, 376, .inl al)), (q8, .inl (g.2 0, 65, .inl ma))] U.heap ∧ GK g U)) (vp_Si Q) 0 0 (fun _ => False) := by
  refine Met.ofW (cc := cX9_matchOf) (maxL := 2) (ret := (some .int)) (by decide) rfl ?_
  intro p e s m args below meth c s₁ B hml hv'
  obtain ⟨rfl, hP, hG⟩ := hv'
  have S : CallFix p m c cX9_matchOf 2 s _ wsX9_matchOf RX9 := ⟨B.exec, B.bytes, hml, findClass_of_methodNamed B.named, atoms_spec (ws := wsX9_matchOf) B.pre⟩
  obtain ⟨hx, hb, hml, hown, hts⟩ := id S
  have hK := hG.1
  have hr := B.returns
  have hlocks := B.notSynchronized
  have hl := lv_entry ([.ref qM, .int p1]) (n := 2) (Nat.le_of_ble_eq_true rfl)
  rw [lg_entry_eq]
  generalize (lg_sl ([.ref qM, .int p1]) ++ List.replicate (2 - (lg_sl ([.ref qM, .int p1])).length) Slot.unset).toArray = ls at hl ⊢
  have hl : lv_has ls 2 [(0, .ref qM), (1, .int p1)] := hl
  unfold vX9_matchOf at hv
  refine lv_aload_n hx hb dX9_matchOf_0 rfl (lv_at hl 0 rfl) ?_
  refine va_get (D := g.1) (ci := 9) (v := .ref q8) (C := RX9) (T := TX9) (N := 29) hx hb hts inX9_matchOf_9 hown hK hP 0 rfl rfl 20 (by decide) (hts (.fieldLink RX9 33 "RangeCodesModel" "matches" "[I") (List.mem_of_getElem? (i := 1) rfl)) (fun _ h9 => h9) rfl dX9_matchOf_1 ?_
  refine lv_bipush (v := (13 : Int32)) hx hb dX9_matchOf_4 (by decide) ?_
  refine lv_iload_n hx hb dX9_matchOf_6 rfl (lv_at hl 1 rfl) ?_
  refine lv_imul hx hb dX9_matchOf_7 ?_
  refine lv_aload_n hx hb dX9_matchOf_8 rfl (lv_at hl 0 rfl) ?_
  refine lv_iload_n hx hb dX9_matchOf_9 rfl (lv_at hl 1 rfl) ?_
  obtain ⟨T_10, p_10, m_10, ho_1, hv⟩ := hv
  refine vp_callSi (W.runV (As := [.int p1]) (rest := [.int ((13 : Int32) * p1), .ref q8]) S (wX9_bestOf l g qM q1 q2 q3 q4 q5 q6 q7 q8 q9 q10 q11 F J al ma p1 (sX9_bestOf T_10 p_10 m_10 F J al ma p1 ho_1)) (cwV 1 hts gX9_matchOf_X9_bestOf rfl rfl rfl (by decide +kernel) ⟨Nat.le_of_ble_eq_true rfl, Nat.le_of_ble_eq_true rfl⟩) ⟨blindRO, va_recv hK hP (ci := 9) (q0 := 0) rfl rfl, fun U hU hW => ⟨rfl, by rw [hU]; exact hP.sub (ws' := [(qM, .inr (9, [.int (F 0), .ref q1, .ref q2, .ref q3, .int (F 4), .int (F 5), .int (F 6), .int (F 7), .int (F 8), .int (F 9), .long (J 10), .int (F 11), .int (F 12), .int (F 13), .ref q4, .int (F 15), .ref q5, .ref q6, .ref q7, .int (F 19), .ref q8, .int (F 21), .int (F 22), .int (F 23), .int (F 24), .ref q9, .ref q10, .ref q11, .long (J 28)])), (q1, .inl (g.2 0, 376, .inl al)), (q8, .inl (g.2 0, 65, .inl ma))]) [0, 1, 2] rfl, hG.warm hW⟩⟩ rfl rfl hl.1 rfl (lv_room (Nat.le_of_ble_eq_true rfl)) dX9_matchOf_10 ⟨Nat.le_of_ble_eq_true rfl, Nat.le_of_ble_eq_true rfl⟩) (fun r_10 hr_10 => ?_)
  have hv := hv r_10 hr_10
  refine lv_iadd hx hb dX9_matchOf_13 ?_
  obtain ⟨ho_2, hv⟩ := hv
  refine va_iald hx hb hK hP 2 0 rfl rfl ho_2 dX9_matchOf_14 ?_
  exact W.iret (v := (ma (((13 : Int32) * p1) + r_10).toNatClampNeg)) hx hb hr (fun t ht hW => ⟨_, rfl, hv, ht⟩) (fun _ h => by cases h) dX9_matchOf_15
abbrev preX9_matchOf (T : Cd) (p : Nat) (m : Nat → Nat → Int) (F : Nat → Int32) (J : Nat → Int64) (al ma : Nat → Int32) (p1 : Int32) : Prop := preX9_bestOf T p m F J al ma p1
abbrev postX9_matchOf (T : Cd) (p : Nat) (m : Nat → Nat → Int) (_ : Nat → Int32) (_ : Nat → Int64) (_ _ : Nat → Int32) (_ r : Int32) : Prop := r.toInt = m p (bst (m p) (cL T p))
theorem sX9_matchOf (T : Cd) (p : Nat) (m : Nat → Nat → Int) (F : Nat → Int32) (J : Nat → Int64) (al ma : Nat → Int32) (p1 : Int32) (h : preX9_matchOf T p m F J al ma p1) : vX9_matchOf F J al ma p1 (postX9_matchOf T p m F J al ma p1) := by
  obtain ⟨hn5, hL, h1, hp, hM⟩ := id h
  have hl := hL p hp
  have hb := bst_lt (m p) (cL T p) (by omega)
  refine ⟨T, p, m, h, fun r hr => ?_⟩
  have hr : r.toInt = ((bst (m p) (cL T p) : Nat) : Int) := hr
  have e := q_13 h1 hr (by omega) (by omega)
  refine ⟨q_in e (by omega), ?_⟩
  show (ma _).toInt = _
  rw [q_cl e]
  exact hM _ hb
set_option maxRecDepth 20000 in
theorem ggX9_laysMatches_X9_of : GoodIn wsX9_laysMatches wsX9_of := goodIn_r _ [7, 1, 27, 28, 29, 30, 31, 32, 33, 34, 35, 36, 37, 38, 39, 40, 41, 42, 43, 44, 45, 46, 47, 48, 49, 50, 51, 52, 53, 54, 55] (by decide +kernel) (by decide +kernel)
set_option maxRecDepth 20000 in
theorem gX9_laysMatches_X9_of : GoodIn wsX9_laysMatches (wsV RX9 195 RX9 yX9_of wsX9_of) := goodIn_app (goodIn_of _ (by decide +kernel)) ggX9_laysMatches_X9_of
set_option maxRecDepth 20000 in
theorem ggX9_laysMatches_X9_ofLeg : GoodIn wsX9_laysMatches wsX9_ofLeg := goodIn_r _ [11, 1, 27, 28, 29, 30, 31, 32, 33, 34, 35, 36, 37, 38, 39, 40, 41, 42, 43, 44, 45, 46, 47, 48, 49, 50, 51, 52, 53, 54, 55] (by decide +kernel) (by decide +kernel)
set_option maxRecDepth 20000 in
theorem gX9_laysMatches_X9_ofLeg : GoodIn wsX9_laysMatches (wsV RX9 185 RX9 yX9_ofLeg wsX9_ofLeg) := goodIn_app (goodIn_of _ (by decide +kernel)) ggX9_laysMatches_X9_ofLeg
set_option maxRecDepth 20000 in
theorem ggX9_laysMatches_X9_alike : GoodIn wsX9_laysMatches wsX9_alike := goodIn_r _ [15, 16, 8, 9, 10, 6, 11, 1, 17, 18, 19, 20, 3, 4, 5, 7, 21, 22, 23, 24, 25, 26, 27, 28, 29, 30, 31, 32, 33, 34, 35, 36, 37, 38, 39, 40, 41, 42, 43, 44, 45, 46, 47, 48, 49, 50, 51, 52, 53, 54, 55] (by decide +kernel) (by decide +kernel)
set_option maxRecDepth 20000 in
theorem gX9_laysMatches_X9_alike : GoodIn wsX9_laysMatches (wsV RX9 256 RX9 yX9_alike wsX9_alike) := goodIn_app (goodIn_of _ (by decide +kernel)) ggX9_laysMatches_X9_alike
theorem dX9_laysMatches_0 : decode cX9_laysMatches 0 = .ok (.iconst 0, 1) := by decide +kernel
theorem dX9_laysMatches_1 : decode cX9_laysMatches 1 = .ok (.istore_n 2, 1) := by decide +kernel
theorem dX9_laysMatches_2 : decode cX9_laysMatches 2 = .ok (.iload_n 2, 1) := by decide +kernel
theorem dX9_laysMatches_3 : decode cX9_laysMatches 3 = .ok (.aload_n 0, 1) := by decide +kernel
theorem dX9_laysMatches_4 : decode cX9_laysMatches 4 = .ok (.getfield 7, 3) := by decide +kernel
theorem dX9_laysMatches_7 : decode cX9_laysMatches 7 = .ok (.iconst 0, 1) := by decide +kernel
theorem dX9_laysMatches_8 : decode cX9_laysMatches 8 = .ok (.iaload, 1) := by decide +kernel
theorem dX9_laysMatches_9 : decode cX9_laysMatches 9 = .ok (.if_icmp .ge 77, 3) := by decide +kernel
theorem dX9_laysMatches_12 : decode cX9_laysMatches 12 = .ok (.iconst 0, 1) := by decide +kernel
theorem dX9_laysMatches_13 : decode cX9_laysMatches 13 = .ok (.istore_n 3, 1) := by decide +kernel
theorem dX9_laysMatches_14 : decode cX9_laysMatches 14 = .ok (.iload_n 3, 1) := by decide +kernel
theorem dX9_laysMatches_15 : decode cX9_laysMatches 15 = .ok (.aload_n 0, 1) := by decide +kernel
theorem dX9_laysMatches_16 : decode cX9_laysMatches 16 = .ok (.iload_n 2, 1) := by decide +kernel
theorem dX9_laysMatches_17 : decode cX9_laysMatches 17 = .ok (.iconst 0, 1) := by decide +kernel
theorem dX9_laysMatches_18 : decode cX9_laysMatches 18 = .ok (.invokevirtual 195, 3) := by decide +kernel
theorem dX9_laysMatches_21 : decode cX9_laysMatches 21 = .ok (.if_icmp .ge 59, 3) := by decide +kernel
theorem dX9_laysMatches_24 : decode cX9_laysMatches 24 = .ok (.iconst 0, 1) := by decide +kernel
theorem dX9_laysMatches_25 : decode cX9_laysMatches 25 = .ok (.istore 4, 2) := by decide +kernel
theorem dX9_laysMatches_27 : decode cX9_laysMatches 27 = .ok (.iconst 0, 1) := by decide +kernel
theorem dX9_laysMatches_28 : decode cX9_laysMatches 28 = .ok (.istore 5, 2) := by decide +kernel
theorem dX9_laysMatches_30 : decode cX9_laysMatches 30 = .ok (.iload 5, 2) := by decide +kernel
theorem dX9_laysMatches_32 : decode cX9_laysMatches 32 = .ok (.aload_n 0, 1) := by decide +kernel
theorem dX9_laysMatches_33 : decode cX9_laysMatches 33 = .ok (.iload_n 1, 1) := by decide +kernel
theorem dX9_laysMatches_34 : decode cX9_laysMatches 34 = .ok (.iconst 3, 1) := by decide +kernel
theorem dX9_laysMatches_35 : decode cX9_laysMatches 35 = .ok (.invokevirtual 185, 3) := by decide +kernel
theorem dX9_laysMatches_38 : decode cX9_laysMatches 38 = .ok (.if_icmp .ge 23, 3) := by decide +kernel
theorem dX9_laysMatches_41 : decode cX9_laysMatches 41 = .ok (.iload 4, 2) := by decide +kernel
theorem dX9_laysMatches_43 : decode cX9_laysMatches 43 = .ok (.aload_n 0, 1) := by decide +kernel
theorem dX9_laysMatches_44 : decode cX9_laysMatches 44 = .ok (.iload_n 1, 1) := by decide +kernel
theorem dX9_laysMatches_45 : decode cX9_laysMatches 45 = .ok (.iload 5, 2) := by decide +kernel
theorem dX9_laysMatches_47 : decode cX9_laysMatches 47 = .ok (.iload_n 2, 1) := by decide +kernel
theorem dX9_laysMatches_48 : decode cX9_laysMatches 48 = .ok (.iload_n 3, 1) := by decide +kernel
theorem dX9_laysMatches_49 : decode cX9_laysMatches 49 = .ok (.invokevirtual 256, 3) := by decide +kernel
theorem dX9_laysMatches_52 : decode cX9_laysMatches 52 = .ok (.iadd, 1) := by decide +kernel
theorem dX9_laysMatches_53 : decode cX9_laysMatches 53 = .ok (.istore 4, 2) := by decide +kernel
theorem dX9_laysMatches_55 : decode cX9_laysMatches 55 = .ok (.iinc 5 1, 3) := by decide +kernel
theorem dX9_laysMatches_58 : decode cX9_laysMatches 58 = .ok (.goto (-28), 3) := by decide +kernel
theorem dX9_laysMatches_61 : decode cX9_laysMatches 61 = .ok (.aload_n 0, 1) := by decide +kernel
theorem dX9_laysMatches_62 : decode cX9_laysMatches 62 = .ok (.getfield 33, 3) := by decide +kernel
theorem dX9_laysMatches_65 : decode cX9_laysMatches 65 = .ok (.bipush 13, 2) := by decide +kernel
theorem dX9_laysMatches_67 : decode cX9_laysMatches 67 = .ok (.iload_n 2, 1) := by decide +kernel
theorem dX9_laysMatches_68 : decode cX9_laysMatches 68 = .ok (.imul, 1) := by decide +kernel
theorem dX9_laysMatches_69 : decode cX9_laysMatches 69 = .ok (.iload_n 3, 1) := by decide +kernel
theorem dX9_laysMatches_70 : decode cX9_laysMatches 70 = .ok (.iadd, 1) := by decide +kernel
theorem dX9_laysMatches_71 : decode cX9_laysMatches 71 = .ok (.iload 4, 2) := by decide +kernel
theorem dX9_laysMatches_73 : decode cX9_laysMatches 73 = .ok (.iastore, 1) := by decide +kernel
theorem dX9_laysMatches_74 : decode cX9_laysMatches 74 = .ok (.iinc 3 1, 3) := by decide +kernel
theorem dX9_laysMatches_77 : decode cX9_laysMatches 77 = .ok (.goto (-63), 3) := by decide +kernel
theorem dX9_laysMatches_80 : decode cX9_laysMatches 80 = .ok (.iinc 2 1, 3) := by decide +kernel
theorem dX9_laysMatches_83 : decode cX9_laysMatches 83 = .ok (.goto (-81), 3) := by decide +kernel
theorem dX9_laysMatches_86 : decode cX9_laysMatches 86 = .ok (.return_, 1) := by decide +kernel
abbrev rmX9_laysMatches : Room := { frames := 3, cells := 0, slots := 0, locals := 68 }
theorem inX9_laysMatches_9 : ∀ w ∈ wsX90, w ∈ wsX9_laysMatches := by decide +kernel
def vX9_laysMatches_c30 (F : Nat → Int32) (J : Nat → Int64) (al : Nat → Int32) (he : Nat → Int32) (p1 : Int32) (Q : (Nat → Int32) → Prop) (K2 : Int32 → (Nat → Int32) → Prop) (K14 : Int32 → Int32 → (Nat → Int32) → Prop) : Nat → Int32 → Int32 → Int32 → Int32 → (Nat → Int32) → Prop
  | 0, _, _, _, _, _ => False
  | n + 1, x2, x3, x4, x5, ma => (∃ (p_35 : Nat) (w_35 : Nat), preX9_ofLeg p_35 w_35 F J al p1 (3 : Int32) ∧ (∀ r_35 : Int32, postX9_ofLeg p_35 w_35 F J al p1 (3 : Int32) r_35 → ((r_35 ≤ x5 → (vp_in (((13 : Int32) * x2) + x3) 65 ∧ (K14 x2 (x3 + (1 : Int32)) (upd ma (((13 : Int32) * x2) + x3).toNatClampNeg x4)))) ∧ (¬ r_35 ≤ x5 → (∃ (T_49 : Cd) (G_49 : Lg) (lg_49 : Nat) (i_49 : Nat) (p_49 : Nat) (pl_49 : Nat) (h_49 : Nat → Nat), preX9_alike T_49 G_49 lg_49 i_49 p_49 pl_49 h_49 F J al he p1 x5 x2 x3 ∧ (∀ r_49 : Int32, postX9_alike T_49 G_49 lg_49 i_49 p_49 pl_49 h_49 F J al he p1 x5 x2 x3 r_49 → (vX9_laysMatches_c30 F J al he p1 Q K2 K14 n x2 x3 (x4 + r_49) (x5 + (1 : Int32)) ma)))))))
set_option maxHeartbeats 4000000 in
set_option maxRecDepth 100000 in
theorem kX9_laysMatches_c30 {p : Program} {l : Launch} {e : Env} {s : State} {m : MethodId} {args : Array Value} {below : List Frame} {meth : Method} {c : Code} {g : GP} {qM q1 q2 q3 q4 q5 q6 q7 q8 q9 q10 q11 : Nat} {F : Nat → Int32} {J : Nat → Int64} {al : Nat → Int32} {he : Nat → Int32} {p1 : Int32} {Q : (Nat → Int32) → Prop} {A : Nat → Prop} {K2 : Int32 → (Nat → Int32) → Prop} {K14 : Int32 → Int32 → (Nat → Int32) → Prop} (S : CallFix p m c cX9_laysMatches 6 s args wsX9_laysMatches RX9) (hr : meth.sig.returnType = none) (hlocks : meth.locks = false) (hG : GK g s) (hA : ∀ q : Nat, s.heap.size ≤ q → A q) (kk2 : ∀ (x2 : Int32) (ma : Nat → Int32), K2 x2 ma → ∀ (H : Heap) (locs : List Loc), va_P g.1 vwCl [(qM, .inr (9, [.int (F 0), .ref q1, .ref q2, .ref q3, .int (F 4), .int (F 5), .int (F 6), .int (F 7), .int (F 8), .int (F 9), .long (J 10), .int (F 11), .int (F 12), .int (F 13), .ref q4, .int (F 15), .ref q5, .ref q6, .ref q7, .int (F 19), .ref q8, .int (F 21), .int (F 22), .int (F 23), .int (F 24), .ref q9, .ref q10, .ref q11, .long (J 28)])), (q1, .inl (g.2 0, 376, .inl al)), (q7, .inl (g.2 0, 200, .inl he)), (q8, .inl (g.2 0, 65, .inl ma))] H → va_D A [(qM, .inr (9, [.int (F 0), .ref q1, .ref q2, .ref q3, .int (F 4), .int (F 5), .int (F 6), .int (F 7), .int (F 8), .int (F 9), .long (J 10), .int (F 11), .int (F 12), .int (F 13), .ref q4, .int (F 15), .ref q5, .ref q6, .ref q7, .int (F 19), .ref q8, .int (F 21), .int (F 22), .int (F 23), .int (F 24), .ref q9, .ref q10, .ref q11, .long (J 28)])), (q1, .inl (g.2 0, 376, .inl al)), (q7, .inl (g.2 0, 200, .inl he)), (q8, .inl (g.2 0, 65, .inl ma))] → va_S A s.heap H locs → ∀ (ls : Array Slot), lv_has ls 6 [(0, .ref qM), (1, .int p1), (2, .int x2)] → W p l e (headSpec wsX9_laysMatches rmX9_laysMatches).room s m args below meth c H locs 0 0 (MQ below (va_Qv (fun (u : (Nat → Int32)) => Q u) (fun (u : (Nat → Int32)) t => va_P g.1 vwCl [(qM, .inr (9, [.int (F 0), .ref q1, .ref q2, .ref q3, .int (F 4), .int (F 5), .int (F 6), .int (F 7), .int (F 8), .int (F 9), .long (J 10), .int (F 11), .int (F 12), .int (F 13), .ref q4, .int (F 15), .ref q5, .ref q6, .ref q7, .int (F 19), .ref q8, .int (F 21), .int (F 22), .int (F 23), .int (F 24), .ref q9, .ref q10, .ref q11, .long (J 28)])), (q1, .inl (g.2 0, 376, .inl al)), (q7, .inl (g.2 0, 200, .inl he)), (q8, .inl (g.2 0, 65, .inl u))] t.heap ∧ va_D A [(qM, .inr (9, [.int (F 0), .ref q1, .ref q2, .ref q3, .int (F 4), .int (F 5), .int (F 6), .int (F 7), .int (F 8), .int (F 9), .long (J 10), .int (F 11), .int (F 12), .int (F 13), .ref q4, .int (F 15), .ref q5, .ref q6, .ref q7, .int (F 19), .ref q8, .int (F 21), .int (F 22), .int (F 23), .int (F 24), .ref q9, .ref q10, .ref q11, .long (J 28)])), (q1, .inl (g.2 0, 376, .inl al)), (q7, .inl (g.2 0, 200, .inl he)), (q8, .inl (g.2 0, 65, .inl u))]) A) args s 0 0 A) (F0 m 2 ls [])) (kk14 : ∀ (x2 : Int32) (x3 : Int32) (ma : Nat → Int32), K14 x2 x3 ma → ∀ (H : Heap) (locs : List Loc), va_P g.1 vwCl [(qM, .inr (9, [.int (F 0), .ref q1, .ref q2, .ref q3, .int (F 4), .int (F 5), .int (F 6), .int (F 7), .int (F 8), .int (F 9), .long (J 10), .int (F 11), .int (F 12), .int (F 13), .ref q4, .int (F 15), .ref q5, .ref q6, .ref q7, .int (F 19), .ref q8, .int (F 21), .int (F 22), .int (F 23), .int (F 24), .ref q9, .ref q10, .ref q11, .long (J 28)])), (q1, .inl (g.2 0, 376, .inl al)), (q7, .inl (g.2 0, 200, .inl he)), (q8, .inl (g.2 0, 65, .inl ma))] H → va_D A [(qM, .inr (9, [.int (F 0), .ref q1, .ref q2, .ref q3, .int (F 4), .int (F 5), .int (F 6), .int (F 7), .int (F 8), .int (F 9), .long (J 10), .int (F 11), .int (F 12), .int (F 13), .ref q4, .int (F 15), .ref q5, .ref q6, .ref q7, .int (F 19), .ref q8, .int (F 21), .int (F 22), .int (F 23), .int (F 24), .ref q9, .ref q10, .ref q11, .long (J 28)])), (q1, .inl (g.2 0, 376, .inl al)), (q7, .inl (g.2 0, 200, .inl he)), (q8, .inl (g.2 0, 65, .inl ma))] → va_S A s.heap H locs → ∀ (ls : Array Slot), lv_has ls 6 [(0, .ref qM), (1, .int p1), (2, .int x2), (3, .int x3)] → W p l e (headSpec wsX9_laysMatches rmX9_laysMatches).room s m args below meth c H locs 0 0 (MQ below (va_Qv (fun (u : (Nat → Int32)) => Q u) (fun (u : (Nat → Int32)) t => va_P g.1 vwCl [(qM, .inr (9, [.int (F 0), .ref q1, .ref q2, .ref q3, .int (F 4), .int (F 5), .int (F 6), .int (F 7), .int (F 8), .int (F 9), .long (J 10), .int (F 11), .int (F 12), .int (F 13), .ref q4, .int (F 15), .ref q5, .ref q6, .ref q7, .int (F 19), .ref q8, .int (F 21), .int (F 22), .int (F 23), .int (F 24), .ref q9, .ref q10, .ref q11, .long (J 28)])), (q1, .inl (g.2 0, 376, .inl al)), (q7, .inl (g.2 0, 200, .inl he)), (q8, .inl (g.2 0, 65, .inl u))] t.heap ∧ va_D A [(qM, .inr (9, [.int (F 0), .ref q1, .ref q2, .ref q3, .int (F 4), .int (F 5), .int (F 6), .int (F 7), .int (F 8), .int (F 9), .long (J 10), .int (F 11), .int (F 12), .int (F 13), .ref q4, .int (F 15), .ref q5, .ref q6, .ref q7, .int (F 19), .ref q8, .int (F 21), .int (F 22), .int (F 23), .int (F 24), .ref q9, .ref q10, .ref q11, .long (J 28)])), (q1, .inl (g.2 0, 376, .inl al)), (q7, .inl (g.2 0, 200, .inl he)), (q8, .inl (g.2 0, 65, .inl u))]) A) args s 0 0 A) (F0 m 14 ls [])) : ∀ (n : Nat), ∀ (x2 : Int32) (x3 : Int32) (x4 : Int32) (x5 : Int32) (ma : Nat → Int32), vX9_laysMatches_c30 F J al he p1 Q K2 K14 n x2 x3 x4 x5 ma → ∀ (H : Heap) (locs : List Loc), va_P g.1 vwCl [(qM, .inr (9, [.int (F 0), .ref q1, .ref q2, .ref q3, .int (F 4), .int (F 5), .int (F 6), .int (F 7), .int (F 8), .int (F 9), .long (J 10), .int (F 11), .int (F 12), .int (F 13), .ref q4, .int (F 15), .ref q5, .ref q6, .ref q7, .int (F 19), .ref q8, .int (F 21), .int (F 22), .int (F 23), .int (F 24), .ref q9, .ref q10, .ref q11, .long (J 28)])), (q1, .inl (g.2 0, 376, .inl al)), (q7, .inl (g.2 0, 200, .inl he)), (q8, .inl (g.2 0, 65, .inl ma))] H → va_D A [(qM, .inr (9, [.int (F 0), .ref q1, .ref q2, .ref q3, .int (F 4), .int (F 5), .int (F 6), .int (F 7), .int (F 8), .int (F 9), .long (J 10), .int (F 11), .int (F 12), .int (F 13), .ref q4, .int (F 15), .ref q5, .ref q6, .ref q7, .int (F 19), .ref q8, .int (F 21), .int (F 22), .int (F 23), .int (F 24), .ref q9, .ref q10, .ref q11, .long (J 28)])), (q1, .inl (g.2 0, 376, .inl al)), (q7, .inl (g.2 0, 200, .inl he)), (q8, .inl (g.2 0, 65, .inl ma))] → va_S A s.heap H locs → ∀ (ls : Array Slot), lv_has ls 6 [(0, .ref qM), (1, .int p1), (2, .int x2), (3, .int x3), (4, .int x4), (5, .int x5)] → W p l e (headSpec wsX9_laysMatches rmX9_laysMatches).room s m args below meth c H locs 0 0 (MQ below (va_Qv (fun (u : (Nat → Int32)) => Q u) (fun (u : (Nat → Int32)) t => va_P g.1 vwCl [(qM, .inr (9, [.int (F 0), .ref q1, .ref q2, .ref q3, .int (F 4), .int (F 5), .int (F 6), .int (F 7), .int (F 8), .int (F 9), .long (J 10), .int (F 11), .int (F 12), .int (F 13), .ref q4, .int (F 15), .ref q5, .ref q6, .ref q7, .int (F 19), .ref q8, .int (F 21), .int (F 22), .int (F 23), .int (F 24), .ref q9, .ref q10, .ref q11, .long (J 28)])), (q1, .inl (g.2 0, 376, .inl al)), (q7, .inl (g.2 0, 200, .inl he)), (q8, .inl (g.2 0, 65, .inl u))] t.heap ∧ va_D A [(qM, .inr (9, [.int (F 0), .ref q1, .ref q2, .ref q3, .int (F 4), .int (F 5), .int (F 6), .int (F 7), .int (F 8), .int (F 9), .long (J 10), .int (F 11), .int (F 12), .int (F 13), .ref q4, .int (F 15), .ref q5, .ref q6, .ref q7, .int (F 19), .ref q8, .int (F 21), .int (F 22), .int (F 23), .int (F 24), .ref q9, .ref q10, .ref q11, .long (J 28)])), (q1, .inl (g.2 0, 376, .inl al)), (q7, .inl (g.2 0, 200, .inl he)), (q8, .inl (g.2 0, 65, .inl u))]) A) args s 0 0 A) (F0 m 30 ls []) := by
  obtain ⟨hx, hb, hml, hown, hts⟩ := id S
  have hK := hG.1
  intro n
  induction n with
  | zero => intro x2 x3 x4 x5 ma hv; exact hv.elim
  | succ n ih =>
    intro x2 x3 x4 x5 ma hv H locs hP hD hS ls hl
    refine lv_iload hx hb dX9_laysMatches_30 (lv_at hl 5 rfl) ?_
    refine lv_aload_n hx hb dX9_laysMatches_32 rfl (lv_at hl 0 rfl) ?_
    refine lv_iload_n hx hb dX9_laysMatches_33 rfl (lv_at hl 1 rfl) ?_
    refine lv_iconst (v := (3 : Int32)) hx hb dX9_laysMatches_34 (by decide) ?_
    obtain ⟨p_35, w_35, ho_1, hv⟩ := hv
    refine vp_callSi (W.runV (As := [.int p1, .int (3 : Int32)]) (rest := [.int x5]) S (wX9_ofLeg l g qM q1 q2 q3 q4 q5 q6 q7 q8 q9 q10 q11 F J al p1 (3 : Int32) (sX9_ofLeg p_35 w_35 F J al p1 (3 : Int32) ho_1)) (cwV 2 hts gX9_laysMatches_X9_ofLeg rfl rfl rfl (by decide +kernel) ⟨Nat.le_of_ble_eq_true rfl, Nat.le_of_ble_eq_true rfl⟩) ⟨blindRO, va_recv hK hP (ci := 9) (q0 := 0) rfl rfl, fun U hU hW => ⟨rfl, by rw [hU]; exact hP.sub (ws' := [(qM, .inr (9, [.int (F 0), .ref q1, .ref q2, .ref q3, .int (F 4), .int (F 5), .int (F 6), .int (F 7), .int (F 8), .int (F 9), .long (J 10), .int (F 11), .int (F 12), .int (F 13), .ref q4, .int (F 15), .ref q5, .ref q6, .ref q7, .int (F 19), .ref q8, .int (F 21), .int (F 22), .int (F 23), .int (F 24), .ref q9, .ref q10, .ref q11, .long (J 28)])), (q1, .inl (g.2 0, 376, .inl al))]) [0, 1] rfl, hG.warm hW⟩⟩ rfl rfl hl.1 rfl (lv_room (Nat.le_of_ble_eq_true rfl)) dX9_laysMatches_35 ⟨Nat.le_of_ble_eq_true rfl, Nat.le_of_ble_eq_true rfl⟩) (fun r_35 hr_35 => ?_)
    have hv := hv r_35 hr_35
    obtain ⟨hvt, hvf⟩ := hv
    refine lv_icmp_ge (tgt := 61) hx hb dX9_laysMatches_38 (by decide) (fun hc => ?_) (fun hc => ?_)
    · have hv := hvt hc
      refine lv_aload_n hx hb dX9_laysMatches_61 rfl (lv_at hl 0 rfl) ?_
      refine va_get (D := g.1) (ci := 9) (v := .ref q8) (C := RX9) (T := TX9) (N := 29) hx hb hts inX9_laysMatches_9 hown hK hP 0 rfl rfl 20 (by decide) (hts (.fieldLink RX9 33 "RangeCodesModel" "matches" "[I") (List.mem_of_getElem? (i := 2) rfl)) (fun _ h9 => h9) rfl dX9_laysMatches_62 ?_
      refine lv_bipush (v := (13 : Int32)) hx hb dX9_laysMatches_65 (by decide) ?_
      refine lv_iload_n hx hb dX9_laysMatches_67 rfl (lv_at hl 2 rfl) ?_
      refine lv_imul hx hb dX9_laysMatches_68 ?_
      refine lv_iload_n hx hb dX9_laysMatches_69 rfl (lv_at hl 3 rfl) ?_
      refine lv_iadd hx hb dX9_laysMatches_70 ?_
      refine lv_iload hx hb dX9_laysMatches_71 (lv_at hl 4 rfl) ?_
      obtain ⟨ho_2, hv⟩ := hv
      refine va_iast hx hb hK hP hD hS 3 0 rfl rfl ho_2 dX9_laysMatches_73 (fun H locs hP hD hS => ?_)
      have hP : va_P g.1 vwCl [(qM, .inr (9, [.int (F 0), .ref q1, .ref q2, .ref q3, .int (F 4), .int (F 5), .int (F 6), .int (F 7), .int (F 8), .int (F 9), .long (J 10), .int (F 11), .int (F 12), .int (F 13), .ref q4, .int (F 15), .ref q5, .ref q6, .ref q7, .int (F 19), .ref q8, .int (F 21), .int (F 22), .int (F 23), .int (F 24), .ref q9, .ref q10, .ref q11, .long (J 28)])), (q1, .inl (g.2 0, 376, .inl al)), (q7, .inl (g.2 0, 200, .inl he)), (q8, .inl (g.2 0, 65, .inl (upd ma (((13 : Int32) * x2) + x3).toNatClampNeg x4)))] H := hP
      have hD : va_D A [(qM, .inr (9, [.int (F 0), .ref q1, .ref q2, .ref q3, .int (F 4), .int (F 5), .int (F 6), .int (F 7), .int (F 8), .int (F 9), .long (J 10), .int (F 11), .int (F 12), .int (F 13), .ref q4, .int (F 15), .ref q5, .ref q6, .ref q7, .int (F 19), .ref q8, .int (F 21), .int (F 22), .int (F 23), .int (F 24), .ref q9, .ref q10, .ref q11, .long (J 28)])), (q1, .inl (g.2 0, 376, .inl al)), (q7, .inl (g.2 0, 200, .inl he)), (q8, .inl (g.2 0, 65, .inl (upd ma (((13 : Int32) * x2) + x3).toNatClampNeg x4)))] := hD
      refine lv_iinc (v := (x3 + (1 : Int32))) (lv' := [(3, .int (x3 + (1 : Int32))), (0, .ref qM), (1, .int p1), (2, .int x2), (4, .int x4), (5, .int x5)]) hx hb dX9_laysMatches_74 hl (k := 3) rfl rfl (by decide) rfl (fun ls hl => ?_)
      refine lv_goto (tgt := 14) hx hb dX9_laysMatches_77 (by decide) ?_
      exact kk14 _ _ _ hv _ _ (hP.sub (ws' := [(qM, .inr (9, [.int (F 0), .ref q1, .ref q2, .ref q3, .int (F 4), .int (F 5), .int (F 6), .int (F 7), .int (F 8), .int (F 9), .long (J 10), .int (F 11), .int (F 12), .int (F 13), .ref q4, .int (F 15), .ref q5, .ref q6, .ref q7, .int (F 19), .ref q8, .int (F 21), .int (F 22), .int (F 23), .int (F 24), .ref q9, .ref q10, .ref q11, .long (J 28)])), (q1, .inl (g.2 0, 376, .inl al)), (q7, .inl (g.2 0, 200, .inl he)), (q8, .inl (g.2 0, 65, .inl (upd ma (((13 : Int32) * x2) + x3).toNatClampNeg x4)))]) [0, 1, 2, 3] rfl) (hD.sub (ws' := [(qM, .inr (9, [.int (F 0), .ref q1, .ref q2, .ref q3, .int (F 4), .int (F 5), .int (F 6), .int (F 7), .int (F 8), .int (F 9), .long (J 10), .int (F 11), .int (F 12), .int (F 13), .ref q4, .int (F 15), .ref q5, .ref q6, .ref q7, .int (F 19), .ref q8, .int (F 21), .int (F 22), .int (F 23), .int (F 24), .ref q9, .ref q10, .ref q11, .long (J 28)])), (q1, .inl (g.2 0, 376, .inl al)), (q7, .inl (g.2 0, 200, .inl he)), (q8, .inl (g.2 0, 65, .inl (upd ma (((13 : Int32) * x2) + x3).toNatClampNeg x4)))]) [0, 1, 2, 3] (by decide) rfl) hS ls (lv_sub hl [1, 2, 3, 0] rfl)
    · have hv := hvf hc
      refine lv_iload hx hb dX9_laysMatches_41 (lv_at hl 4 rfl) ?_
      refine lv_aload_n hx hb dX9_laysMatches_43 rfl (lv_at hl 0 rfl) ?_
      refine lv_iload_n hx hb dX9_laysMatches_44 rfl (lv_at hl 1 rfl) ?_
      refine lv_iload hx hb dX9_laysMatches_45 (lv_at hl 5 rfl) ?_
      refine lv_iload_n hx hb dX9_laysMatches_47 rfl (lv_at hl 2 rfl) ?_
      refine lv_iload_n hx hb dX9_laysMatches_48 rfl (lv_at hl 3 rfl) ?_
      obtain ⟨T_49, G_49, lg_49, i_49, p_49, pl_49, h_49, ho_3, hv⟩ := hv
      refine vp_callSi (W.runV (As := [.int p1, .int x5, .int x2, .int x3]) (rest := [.int x4]) S (wX9_alike l g qM q1 q2 q3 q4 q5 q6 q7 q8 q9 q10 q11 F J al he p1 x5 x2 x3 (sX9_alike T_49 G_49 lg_49 i_49 p_49 pl_49 h_49 F J al he p1 x5 x2 x3 ho_3)) (cwV 4 hts gX9_laysMatches_X9_alike rfl rfl rfl (by decide +kernel) ⟨Nat.le_of_ble_eq_true rfl, Nat.le_of_ble_eq_true rfl⟩) ⟨blindRO, va_recv hK hP (ci := 9) (q0 := 0) rfl rfl, fun U hU hW => ⟨rfl, by rw [hU]; exact hP.sub (ws' := [(qM, .inr (9, [.int (F 0), .ref q1, .ref q2, .ref q3, .int (F 4), .int (F 5), .int (F 6), .int (F 7), .int (F 8), .int (F 9), .long (J 10), .int (F 11), .int (F 12), .int (F 13), .ref q4, .int (F 15), .ref q5, .ref q6, .ref q7, .int (F 19), .ref q8, .int (F 21), .int (F 22), .int (F 23), .int (F 24), .ref q9, .ref q10, .ref q11, .long (J 28)])), (q1, .inl (g.2 0, 376, .inl al)), (q7, .inl (g.2 0, 200, .inl he))]) [0, 1, 2] rfl, hG.warm hW⟩⟩ rfl rfl hl.1 rfl (lv_room (Nat.le_of_ble_eq_true rfl)) dX9_laysMatches_49 ⟨Nat.le_of_ble_eq_true rfl, Nat.le_of_ble_eq_true rfl⟩) (fun r_49 hr_49 => ?_)
      have hv := hv r_49 hr_49
      refine lv_iadd hx hb dX9_laysMatches_52 ?_
      refine lv_istore (lv' := [(4, .int (x4 + r_49)), (0, .ref qM), (1, .int p1), (2, .int x2), (3, .int x3), (5, .int x5)]) hx hb dX9_laysMatches_53 hl (by decide) rfl (fun ls hl => ?_)
      refine lv_iinc (v := (x5 + (1 : Int32))) (lv' := [(5, .int (x5 + (1 : Int32))), (4, .int (x4 + r_49)), (0, .ref qM), (1, .int p1), (2, .int x2), (3, .int x3)]) hx hb dX9_laysMatches_55 hl (k := 5) rfl rfl (by decide) rfl (fun ls hl => ?_)
      refine lv_goto (tgt := 30) hx hb dX9_laysMatches_58 (by decide) ?_
      exact ih _ _ _ _ _ hv _ _ (hP.sub (ws' := [(qM, .inr (9, [.int (F 0), .ref q1, .ref q2, .ref q3, .int (F 4), .int (F 5), .int (F 6), .int (F 7), .int (F 8), .int (F 9), .long (J 10), .int (F 11), .int (F 12), .int (F 13), .ref q4, .int (F 15), .ref q5, .ref q6, .ref q7, .int (F 19), .ref q8, .int (F 21), .int (F 22), .int (F 23), .int (F 24), .ref q9, .ref q10, .ref q11, .long (J 28)])), (q1, .inl (g.2 0, 376, .inl al)), (q7, .inl (g.2 0, 200, .inl he)), (q8, .inl (g.2 0, 65, .inl ma))]) [0, 1, 2, 3] rfl) (hD.sub (ws' := [(qM, .inr (9, [.int (F 0), .ref q1, .ref q2, .ref q3, .int (F 4), .int (F 5), .int (F 6), .int (F 7), .int (F 8), .int (F 9), .long (J 10), .int (F 11), .int (F 12), .int (F 13), .ref q4, .int (F 15), .ref q5, .ref q6, .ref q7, .int (F 19), .ref q8, .int (F 21), .int (F 22), .int (F 23), .int (F 24), .ref q9, .ref q10, .ref q11, .long (J 28)])), (q1, .inl (g.2 0, 376, .inl al)), (q7, .inl (g.2 0, 200, .inl he)), (q8, .inl (g.2 0, 65, .inl ma))]) [0, 1, 2, 3] (by decide) rfl) hS ls (lv_sub hl [2, 3, 4, 5, 1, 0] rfl)
def vX9_laysMatches_c14 (F : Nat → Int32) (J : Nat → Int64) (al : Nat → Int32) (he : Nat → Int32) (p1 : Int32) (Q : (Nat → Int32) → Prop) (K2 : Int32 → (Nat → Int32) → Prop) : Nat → Int32 → Int32 → (Nat → Int32) → Prop
  | 0, _, _, _ => False
  | n + 1, x2, x3, ma => (∃ (p_18 : Nat) (w_18 : Nat), preX9_of p_18 w_18 F J al x2 (0 : Int32) ∧ (∀ r_18 : Int32, postX9_of p_18 w_18 F J al x2 (0 : Int32) r_18 → ((r_18 ≤ x3 → (K2 (x2 + (1 : Int32)) ma)) ∧ (¬ r_18 ≤ x3 → (∃ nn, vX9_laysMatches_c30 F J al he p1 Q K2 (vX9_laysMatches_c14 F J al he p1 Q K2 n) nn x2 x3 (0 : Int32) (0 : Int32) ma)))))
set_option maxHeartbeats 4000000 in
set_option maxRecDepth 100000 in
theorem kX9_laysMatches_c14 {p : Program} {l : Launch} {e : Env} {s : State} {m : MethodId} {args : Array Value} {below : List Frame} {meth : Method} {c : Code} {g : GP} {qM q1 q2 q3 q4 q5 q6 q7 q8 q9 q10 q11 : Nat} {F : Nat → Int32} {J : Nat → Int64} {al : Nat → Int32} {he : Nat → Int32} {p1 : Int32} {Q : (Nat → Int32) → Prop} {A : Nat → Prop} {K2 : Int32 → (Nat → Int32) → Prop} (S : CallFix p m c cX9_laysMatches 6 s args wsX9_laysMatches RX9) (hr : meth.sig.returnType = none) (hlocks : meth.locks = false) (hG : GK g s) (hA : ∀ q : Nat, s.heap.size ≤ q → A q) (kk2 : ∀ (x2 : Int32) (ma : Nat → Int32), K2 x2 ma → ∀ (H : Heap) (locs : List Loc), va_P g.1 vwCl [(qM, .inr (9, [.int (F 0), .ref q1, .ref q2, .ref q3, .int (F 4), .int (F 5), .int (F 6), .int (F 7), .int (F 8), .int (F 9), .long (J 10), .int (F 11), .int (F 12), .int (F 13), .ref q4, .int (F 15), .ref q5, .ref q6, .ref q7, .int (F 19), .ref q8, .int (F 21), .int (F 22), .int (F 23), .int (F 24), .ref q9, .ref q10, .ref q11, .long (J 28)])), (q1, .inl (g.2 0, 376, .inl al)), (q7, .inl (g.2 0, 200, .inl he)), (q8, .inl (g.2 0, 65, .inl ma))] H → va_D A [(qM, .inr (9, [.int (F 0), .ref q1, .ref q2, .ref q3, .int (F 4), .int (F 5), .int (F 6), .int (F 7), .int (F 8), .int (F 9), .long (J 10), .int (F 11), .int (F 12), .int (F 13), .ref q4, .int (F 15), .ref q5, .ref q6, .ref q7, .int (F 19), .ref q8, .int (F 21), .int (F 22), .int (F 23), .int (F 24), .ref q9, .ref q10, .ref q11, .long (J 28)])), (q1, .inl (g.2 0, 376, .inl al)), (q7, .inl (g.2 0, 200, .inl he)), (q8, .inl (g.2 0, 65, .inl ma))] → va_S A s.heap H locs → ∀ (ls : Array Slot), lv_has ls 6 [(0, .ref qM), (1, .int p1), (2, .int x2)] → W p l e (headSpec wsX9_laysMatches rmX9_laysMatches).room s m args below meth c H locs 0 0 (MQ below (va_Qv (fun (u : (Nat → Int32)) => Q u) (fun (u : (Nat → Int32)) t => va_P g.1 vwCl [(qM, .inr (9, [.int (F 0), .ref q1, .ref q2, .ref q3, .int (F 4), .int (F 5), .int (F 6), .int (F 7), .int (F 8), .int (F 9), .long (J 10), .int (F 11), .int (F 12), .int (F 13), .ref q4, .int (F 15), .ref q5, .ref q6, .ref q7, .int (F 19), .ref q8, .int (F 21), .int (F 22), .int (F 23), .int (F 24), .ref q9, .ref q10, .ref q11, .long (J 28)])), (q1, .inl (g.2 0, 376, .inl al)), (q7, .inl (g.2 0, 200, .inl he)), (q8, .inl (g.2 0, 65, .inl u))] t.heap ∧ va_D A [(qM, .inr (9, [.int (F 0), .ref q1, .ref q2, .ref q3, .int (F 4), .int (F 5), .int (F 6), .int (F 7), .int (F 8), .int (F 9), .long (J 10), .int (F 11), .int (F 12), .int (F 13), .ref q4, .int (F 15), .ref q5, .ref q6, .ref q7, .int (F 19), .ref q8, .int (F 21), .int (F 22), .int (F 23), .int (F 24), .ref q9, .ref q10, .ref q11, .long (J 28)])), (q1, .inl (g.2 0, 376, .inl al)), (q7, .inl (g.2 0, 200, .inl he)), (q8, .inl (g.2 0, 65, .inl u))]) A) args s 0 0 A) (F0 m 2 ls [])) : ∀ (n : Nat), ∀ (x2 : Int32) (x3 : Int32) (ma : Nat → Int32), vX9_laysMatches_c14 F J al he p1 Q K2 n x2 x3 ma → ∀ (H : Heap) (locs : List Loc), va_P g.1 vwCl [(qM, .inr (9, [.int (F 0), .ref q1, .ref q2, .ref q3, .int (F 4), .int (F 5), .int (F 6), .int (F 7), .int (F 8), .int (F 9), .long (J 10), .int (F 11), .int (F 12), .int (F 13), .ref q4, .int (F 15), .ref q5, .ref q6, .ref q7, .int (F 19), .ref q8, .int (F 21), .int (F 22), .int (F 23), .int (F 24), .ref q9, .ref q10, .ref q11, .long (J 28)])), (q1, .inl (g.2 0, 376, .inl al)), (q7, .inl (g.2 0, 200, .inl he)), (q8, .inl (g.2 0, 65, .inl ma))] H → va_D A [(qM, .inr (9, [.int (F 0), .ref q1, .ref q2, .ref q3, .int (F 4), .int (F 5), .int (F 6), .int (F 7), .int (F 8), .int (F 9), .long (J 10), .int (F 11), .int (F 12), .int (F 13), .ref q4, .int (F 15), .ref q5, .ref q6, .ref q7, .int (F 19), .ref q8, .int (F 21), .int (F 22), .int (F 23), .int (F 24), .ref q9, .ref q10, .ref q11, .long (J 28)])), (q1, .inl (g.2 0, 376, .inl al)), (q7, .inl (g.2 0, 200, .inl he)), (q8, .inl (g.2 0, 65, .inl ma))] → va_S A s.heap H locs → ∀ (ls : Array Slot), lv_has ls 6 [(0, .ref qM), (1, .int p1), (2, .int x2), (3, .int x3)] → W p l e (headSpec wsX9_laysMatches rmX9_laysMatches).room s m args below meth c H locs 0 0 (MQ below (va_Qv (fun (u : (Nat → Int32)) => Q u) (fun (u : (Nat → Int32)) t => va_P g.1 vwCl [(qM, .inr (9, [.int (F 0), .ref q1, .ref q2, .ref q3, .int (F 4), .int (F 5), .int (F 6), .int (F 7), .int (F 8), .int (F 9), .long (J 10), .int (F 11), .int (F 12), .int (F 13), .ref q4, .int (F 15), .ref q5, .ref q6, .ref q7, .int (F 19), .ref q8, .int (F 21), .int (F 22), .int (F 23), .int (F 24), .ref q9, .ref q10, .ref q11, .long (J 28)])), (q1, .inl (g.2 0, 376, .inl al)), (q7, .inl (g.2 0, 200, .inl he)), (q8, .inl (g.2 0, 65, .inl u))] t.heap ∧ va_D A [(qM, .inr (9, [.int (F 0), .ref q1, .ref q2, .ref q3, .int (F 4), .int (F 5), .int (F 6), .int (F 7), .int (F 8), .int (F 9), .long (J 10), .int (F 11), .int (F 12), .int (F 13), .ref q4, .int (F 15), .ref q5, .ref q6, .ref q7, .int (F 19), .ref q8, .int (F 21), .int (F 22), .int (F 23), .int (F 24), .ref q9, .ref q10, .ref q11, .long (J 28)])), (q1, .inl (g.2 0, 376, .inl al)), (q7, .inl (g.2 0, 200, .inl he)), (q8, .inl (g.2 0, 65, .inl u))]) A) args s 0 0 A) (F0 m 14 ls []) := by
  obtain ⟨hx, hb, hml, hown, hts⟩ := id S
  have hK := hG.1
  intro n
  induction n with
  | zero => intro x2 x3 ma hv; exact hv.elim
  | succ n ih =>
    intro x2 x3 ma hv H locs hP hD hS ls hl
    refine lv_iload_n hx hb dX9_laysMatches_14 rfl (lv_at hl 3 rfl) ?_
    refine lv_aload_n hx hb dX9_laysMatches_15 rfl (lv_at hl 0 rfl) ?_
    refine lv_iload_n hx hb dX9_laysMatches_16 rfl (lv_at hl 2 rfl) ?_
    refine lv_iconst (v := (0 : Int32)) hx hb dX9_laysMatches_17 (by decide) ?_
    obtain ⟨p_18, w_18, ho_1, hv⟩ := hv
    refine vp_callSi (W.runV (As := [.int x2, .int (0 : Int32)]) (rest := [.int x3]) S (wX9_of l g qM q1 q2 q3 q4 q5 q6 q7 q8 q9 q10 q11 F J al x2 (0 : Int32) (sX9_of p_18 w_18 F J al x2 (0 : Int32) ho_1)) (cwV 2 hts gX9_laysMatches_X9_of rfl rfl rfl (by decide +kernel) ⟨Nat.le_of_ble_eq_true rfl, Nat.le_of_ble_eq_true rfl⟩) ⟨blindRO, va_recv hK hP (ci := 9) (q0 := 0) rfl rfl, fun U hU hW => ⟨rfl, by rw [hU]; exact hP.sub (ws' := [(qM, .inr (9, [.int (F 0), .ref q1, .ref q2, .ref q3, .int (F 4), .int (F 5), .int (F 6), .int (F 7), .int (F 8), .int (F 9), .long (J 10), .int (F 11), .int (F 12), .int (F 13), .ref q4, .int (F 15), .ref q5, .ref q6, .ref q7, .int (F 19), .ref q8, .int (F 21), .int (F 22), .int (F 23), .int (F 24), .ref q9, .ref q10, .ref q11, .long (J 28)])), (q1, .inl (g.2 0, 376, .inl al))]) [0, 1] rfl, hG.warm hW⟩⟩ rfl rfl hl.1 rfl (lv_room (Nat.le_of_ble_eq_true rfl)) dX9_laysMatches_18 ⟨Nat.le_of_ble_eq_true rfl, Nat.le_of_ble_eq_true rfl⟩) (fun r_18 hr_18 => ?_)
    have hv := hv r_18 hr_18
    obtain ⟨hvt, hvf⟩ := hv
    refine lv_icmp_ge (tgt := 80) hx hb dX9_laysMatches_21 (by decide) (fun hc => ?_) (fun hc => ?_)
    · have hv := hvt hc
      refine lv_iinc (v := (x2 + (1 : Int32))) (lv' := [(2, .int (x2 + (1 : Int32))), (0, .ref qM), (1, .int p1), (3, .int x3)]) hx hb dX9_laysMatches_80 hl (k := 2) rfl rfl (by decide) rfl (fun ls hl => ?_)
      refine lv_goto (tgt := 2) hx hb dX9_laysMatches_83 (by decide) ?_
      exact kk2 _ _ hv _ _ (hP.sub (ws' := [(qM, .inr (9, [.int (F 0), .ref q1, .ref q2, .ref q3, .int (F 4), .int (F 5), .int (F 6), .int (F 7), .int (F 8), .int (F 9), .long (J 10), .int (F 11), .int (F 12), .int (F 13), .ref q4, .int (F 15), .ref q5, .ref q6, .ref q7, .int (F 19), .ref q8, .int (F 21), .int (F 22), .int (F 23), .int (F 24), .ref q9, .ref q10, .ref q11, .long (J 28)])), (q1, .inl (g.2 0, 376, .inl al)), (q7, .inl (g.2 0, 200, .inl he)), (q8, .inl (g.2 0, 65, .inl ma))]) [0, 1, 2, 3] rfl) (hD.sub (ws' := [(qM, .inr (9, [.int (F 0), .ref q1, .ref q2, .ref q3, .int (F 4), .int (F 5), .int (F 6), .int (F 7), .int (F 8), .int (F 9), .long (J 10), .int (F 11), .int (F 12), .int (F 13), .ref q4, .int (F 15), .ref q5, .ref q6, .ref q7, .int (F 19), .ref q8, .int (F 21), .int (F 22), .int (F 23), .int (F 24), .ref q9, .ref q10, .ref q11, .long (J 28)])), (q1, .inl (g.2 0, 376, .inl al)), (q7, .inl (g.2 0, 200, .inl he)), (q8, .inl (g.2 0, 65, .inl ma))]) [0, 1, 2, 3] (by decide) rfl) hS ls (lv_sub hl [1, 2, 0] rfl)
    · have hv := hvf hc
      refine lv_iconst (v := (0 : Int32)) hx hb dX9_laysMatches_24 (by decide) ?_
      refine lv_istore (lv' := [(4, .int (0 : Int32)), (0, .ref qM), (1, .int p1), (2, .int x2), (3, .int x3)]) hx hb dX9_laysMatches_25 hl (by decide) rfl (fun ls hl => ?_)
      refine lv_iconst (v := (0 : Int32)) hx hb dX9_laysMatches_27 (by decide) ?_
      refine lv_istore (lv' := [(5, .int (0 : Int32)), (4, .int (0 : Int32)), (0, .ref qM), (1, .int p1), (2, .int x2), (3, .int x3)]) hx hb dX9_laysMatches_28 hl (by decide) rfl (fun ls hl => ?_)
      obtain ⟨nn, hv⟩ := hv
      exact kX9_laysMatches_c30 S hr hlocks hG hA kk2 ih nn _ _ _ _ _ hv _ _ (hP.sub (ws' := [(qM, .inr (9, [.int (F 0), .ref q1, .ref q2, .ref q3, .int (F 4), .int (F 5), .int (F 6), .int (F 7), .int (F 8), .int (F 9), .long (J 10), .int (F 11), .int (F 12), .int (F 13), .ref q4, .int (F 15), .ref q5, .ref q6, .ref q7, .int (F 19), .ref q8, .int (F 21), .int (F 22), .int (F 23), .int (F 24), .ref q9, .ref q10, .ref q11, .long (J 28)])), (q1, .inl (g.2 0, 376, .inl al)), (q7, .inl (g.2 0, 200, .inl he)), (q8, .inl (g.2 0, 65, .inl ma))]) [0, 1, 2, 3] rfl) (hD.sub (ws' := [(qM, .inr (9, [.int (F 0), .ref q1, .ref q2, .ref q3, .int (F 4), .int (F 5), .int (F 6), .int (F 7), .int (F 8), .int (F 9), .long (J 10), .int (F 11), .int (F 12), .int (F 13), .ref q4, .int (F 15), .ref q5, .ref q6, .ref q7, .int (F 19), .ref q8, .int (F 21), .int (F 22), .int (F 23), .int (F 24), .ref q9, .ref q10, .ref q11, .long (J 28)])), (q1, .inl (g.2 0, 376, .inl al)), (q7, .inl (g.2 0, 200, .inl he)), (q8, .inl (g.2 0, 65, .inl ma))]) [0, 1, 2, 3] (by decide) rfl) hS ls (lv_sub hl [2, 3, 4, 5, 1, 0] rfl)
def vX9_laysMatches_c2 (F : Nat → Int32) (J : Nat → Int64) (al : Nat → Int32) (he : Nat → Int32) (p1 : Int32) (Q : (Nat → Int32) → Prop) : Nat → Int32 → (Nat → Int32) → Prop
  | 0, _, _ => False
  | n + 1, x2, ma => (((al 0) ≤ x2 → (Q ma)) ∧ (¬ (al 0) ≤ x2 → (∃ nn, vX9_laysMatches_c14 F J al he p1 Q (vX9_laysMatches_c2 F J al he p1 Q n) nn x2 (0 : Int32) ma)))
set_option maxHeartbeats 4000000 in
set_option maxRecDepth 100000 in
theorem kX9_laysMatches_c2 {p : Program} {l : Launch} {e : Env} {s : State} {m : MethodId} {args : Array Value} {below : List Frame} {meth : Method} {c : Code} {g : GP} {qM q1 q2 q3 q4 q5 q6 q7 q8 q9 q10 q11 : Nat} {F : Nat → Int32} {J : Nat → Int64} {al : Nat → Int32} {he : Nat → Int32} {p1 : Int32} {Q : (Nat → Int32) → Prop} {A : Nat → Prop} (S : CallFix p m c cX9_laysMatches 6 s args wsX9_laysMatches RX9) (hr : meth.sig.returnType = none) (hlocks : meth.locks = false) (hG : GK g s) (hA : ∀ q : Nat, s.heap.size ≤ q → A q) : ∀ (n : Nat), ∀ (x2 : Int32) (ma : Nat → Int32), vX9_laysMatches_c2 F J al he p1 Q n x2 ma → ∀ (H : Heap) (locs : List Loc), va_P g.1 vwCl [(qM, .inr (9, [.int (F 0), .ref q1, .ref q2, .ref q3, .int (F 4), .int (F 5), .int (F 6), .int (F 7), .int (F 8), .int (F 9), .long (J 10), .int (F 11), .int (F 12), .int (F 13), .ref q4, .int (F 15), .ref q5, .ref q6, .ref q7, .int (F 19), .ref q8, .int (F 21), .int (F 22), .int (F 23), .int (F 24), .ref q9, .ref q10, .ref q11, .long (J 28)])), (q1, .inl (g.2 0, 376, .inl al)), (q7, .inl (g.2 0, 200, .inl he)), (q8, .inl (g.2 0, 65, .inl ma))] H → va_D A [(qM, .inr (9, [.int (F 0), .ref q1, .ref q2, .ref q3, .int (F 4), .int (F 5), .int (F 6), .int (F 7), .int (F 8), .int (F 9), .long (J 10), .int (F 11), .int (F 12), .int (F 13), .ref q4, .int (F 15), .ref q5, .ref q6, .ref q7, .int (F 19), .ref q8, .int (F 21), .int (F 22), .int (F 23), .int (F 24), .ref q9, .ref q10, .ref q11, .long (J 28)])), (q1, .inl (g.2 0, 376, .inl al)), (q7, .inl (g.2 0, 200, .inl he)), (q8, .inl (g.2 0, 65, .inl ma))] → va_S A s.heap H locs → ∀ (ls : Array Slot), lv_has ls 6 [(0, .ref qM), (1, .int p1), (2, .int x2)] → W p l e (headSpec wsX9_laysMatches rmX9_laysMatches).room s m args below meth c H locs 0 0 (MQ below (va_Qv (fun (u : (Nat → Int32)) => Q u) (fun (u : (Nat → Int32)) t => va_P g.1 vwCl [(qM, .inr (9, [.int (F 0), .ref q1, .ref q2, .ref q3, .int (F 4), .int (F 5), .int (F 6), .int (F 7), .int (F 8), .int (F 9), .long (J 10), .int (F 11), .int (F 12), .int (F 13), .ref q4, .int (F 15), .ref q5, .ref q6, .ref q7, .int (F 19), .ref q8, .int (F 21), .int (F 22), .int (F 23), .int (F 24), .ref q9, .ref q10, .ref q11, .long (J 28)])), (q1, .inl (g.2 0, 376, .inl al)), (q7, .inl (g.2 0, 200, .inl he)), (q8, .inl (g.2 0, 65, .inl u))] t.heap ∧ va_D A [(qM, .inr (9, [.int (F 0), .ref q1, .ref q2, .ref q3, .int (F 4), .int (F 5), .int (F 6), .int (F 7), .int (F 8), .int (F 9), .long (J 10), .int (F 11), .int (F 12), .int (F 13), .ref q4, .int (F 15), .ref q5, .ref q6, .ref q7, .int (F 19), .ref q8, .int (F 21), .int (F 22), .int (F 23), .int (F 24), .ref q9, .ref q10, .ref q11, .long (J 28)])), (q1, .inl (g.2 0, 376, .inl al)), (q7, .inl (g.2 0, 200, .inl he)), (q8, .inl (g.2 0, 65, .inl u))]) A) args s 0 0 A) (F0 m 2 ls []) := by
  obtain ⟨hx, hb, hml, hown, hts⟩ := id S
  have hK := hG.1
  intro n
  induction n with
  | zero => intro x2 ma hv; exact hv.elim
  | succ n ih =>
    intro x2 ma hv H locs hP hD hS ls hl
    refine lv_iload_n hx hb dX9_laysMatches_2 rfl (lv_at hl 2 rfl) ?_
    refine lv_aload_n hx hb dX9_laysMatches_3 rfl (lv_at hl 0 rfl) ?_
    refine va_get (D := g.1) (ci := 9) (v := .ref q1) (C := RX9) (T := TX9) (N := 29) hx hb hts inX9_laysMatches_9 hown hK hP 0 rfl rfl 1 (by decide) (hts (.fieldLink RX9 7 "RangeCodesModel" "all" "[I") (List.mem_of_getElem? (i := 1) rfl)) (fun _ h9 => h9) rfl dX9_laysMatches_4 ?_
    refine lv_iconst (v := (0 : Int32)) hx hb dX9_laysMatches_7 (by decide) ?_
    refine va_iald hx hb hK hP 1 0 rfl rfl (by unfold vp_in; decide) dX9_laysMatches_8 ?_
    obtain ⟨hvt, hvf⟩ := hv
    refine lv_icmp_ge (tgt := 86) hx hb dX9_laysMatches_9 (by decide) (fun hc => ?_) (fun hc => ?_)
    · have hv := hvt hc
      have hP9 := hP.sub (ws' := [(qM, .inr (9, [.int (F 0), .ref q1, .ref q2, .ref q3, .int (F 4), .int (F 5), .int (F 6), .int (F 7), .int (F 8), .int (F 9), .long (J 10), .int (F 11), .int (F 12), .int (F 13), .ref q4, .int (F 15), .ref q5, .ref q6, .ref q7, .int (F 19), .ref q8, .int (F 21), .int (F 22), .int (F 23), .int (F 24), .ref q9, .ref q10, .ref q11, .long (J 28)])), (q1, .inl (g.2 0, 376, .inl al)), (q7, .inl (g.2 0, 200, .inl he)), (q8, .inl (g.2 0, 65, .inl ma))]) [0, 1, 2, 3] rfl
      have hD9 := hD.sub (ws' := [(qM, .inr (9, [.int (F 0), .ref q1, .ref q2, .ref q3, .int (F 4), .int (F 5), .int (F 6), .int (F 7), .int (F 8), .int (F 9), .long (J 10), .int (F 11), .int (F 12), .int (F 13), .ref q4, .int (F 15), .ref q5, .ref q6, .ref q7, .int (F 19), .ref q8, .int (F 21), .int (F 22), .int (F 23), .int (F 24), .ref q9, .ref q10, .ref q11, .long (J 28)])), (q1, .inl (g.2 0, 376, .inl al)), (q7, .inl (g.2 0, 200, .inl he)), (q8, .inl (g.2 0, 65, .inl ma))]) [0, 1, 2, 3] (by decide) rfl
      exact W.vret hx hb hr (fun t ht hW => ⟨⟨(ma), rfl, hv, by rw [ht]; exact hP9, hD9⟩, hS.F ht⟩) hS.2.2 dX9_laysMatches_86
    · have hv := hvf hc
      refine lv_iconst (v := (0 : Int32)) hx hb dX9_laysMatches_12 (by decide) ?_
      refine lv_istore_n (lv' := [(3, .int (0 : Int32)), (0, .ref qM), (1, .int p1), (2, .int x2)]) hx hb dX9_laysMatches_13 rfl hl (by decide) rfl (fun ls hl => ?_)
      obtain ⟨nn, hv⟩ := hv
      exact kX9_laysMatches_c14 S hr hlocks hG hA ih nn _ _ _ hv _ _ (hP.sub (ws' := [(qM, .inr (9, [.int (F 0), .ref q1, .ref q2, .ref q3, .int (F 4), .int (F 5), .int (F 6), .int (F 7), .int (F 8), .int (F 9), .long (J 10), .int (F 11), .int (F 12), .int (F 13), .ref q4, .int (F 15), .ref q5, .ref q6, .ref q7, .int (F 19), .ref q8, .int (F 21), .int (F 22), .int (F 23), .int (F 24), .ref q9, .ref q10, .ref q11, .long (J 28)])), (q1, .inl (g.2 0, 376, .inl al)), (q7, .inl (g.2 0, 200, .inl he)), (q8, .inl (g.2 0, 65, .inl ma))]) [0, 1, 2, 3] rfl) (hD.sub (ws' := [(qM, .inr (9, [.int (F 0), .ref q1, .ref q2, .ref q3, .int (F 4), .int (F 5), .int (F 6), .int (F 7), .int (F 8), .int (F 9), .long (J 10), .int (F 11), .int (F 12), .int (F 13), .ref q4, .int (F 15), .ref q5, .ref q6, .ref q7, .int (F 19), .ref q8, .int (F 21), .int (F 22), .int (F 23), .int (F 24), .ref q9, .ref q10, .ref q11, .long (J 28)])), (q1, .inl (g.2 0, 376, .inl al)), (q7, .inl (g.2 0, 200, .inl he)), (q8, .inl (g.2 0, 65, .inl ma))]) [0, 1, 2, 3] (by decide) rfl) hS ls (lv_sub hl [1, 2, 3, 0] rfl)
def vX9_laysMatches (F : Nat → Int32) (J : Nat → Int64) (al : Nat → Int32) (he : Nat → Int32) (ma : Nat → Int32) (p1 : Int32) (Q : (Nat → Int32) → Prop) : Prop := (∃ nn, vX9_laysMatches_c2 F J al he p1 Q nn (0 : Int32) ma)
set_option maxHeartbeats 4000000 in
set_option maxRecDepth 100000 in
theorem wX9_laysMatches (l : Launch) (g : GP) (qM : Nat) (q1 : Nat) (q2 : Nat) (q3 : Nat) (q4 : Nat) (q5 : Nat) (q6 : Nat) (q7 : Nat) (q8 : Nat) (q9 : Nat) (q10 : Nat) (q11 : Nat) (sz : Nat) (F : Nat → Int32) (J : Nat → Int64) (al : Nat → Int32) (he : Nat → Int32) (ma : Nat → Int32) (p1 : Int32) {Q : (Nat → Int32) → Prop} (hv : vX9_laysMatches F J al he ma p1 Q) : Met l yX9_laysMatches wsX9_laysMatches rmX9_laysMatches (va_Pc [.ref qM, .int p1] (fun U => U.heap.size = sz ∧ va_P g.1 vwCl [(qM, .inr (9, [.int (F 0), .ref q1, .ref q2, .ref q3, .int (F 4), .int (F 5), .int (F 6), .int (F 7), .int (F 8), .int (F 9), .long (J 10), .int (F 11), .int (F 12), .int (F 13), .ref q4, .int (F 15), .ref q5, .ref q6, .ref q7, .int (F 19), .ref q8, .int (F 21), .int (F 22), .int (F 23), .int (F 24), .ref q9, .ref q10, .ref q11, .long (J 28)])), (q1, .inl (g.2 0, 376, .inl al)), (q7, .inl (g.2 0, 200, .inl he)), (q8, .inl (g.2 0, 65, .inl ma))] U.heap ∧ GK g U ∧ va_D (fun _ => True) [(qM, .inr (9, [.int (F 0), .ref q1, .ref q2, .ref q3, .int (F 4), .int (F 5), .int (F 6), .int (F 7), .int (F 8), .int (F 9), .long (J 10), .int (F 11), .int (F 12), .int (F 13), .ref q4, .int (F 15), .ref q5, .ref q6, .ref q7, .int (F 19), .ref q8, .int (F 21), .int (F 22), .int (F 23), .int (F 24), .ref q9, .ref q10, .ref q11, .long (J 28)])), (q1, .inl (g.2 0, 376, .inl al)), (q7, .inl (g.2 0, 200, .inl he)), (q8, .inl (g.2 0, 65, .inl ma))])) (va_Qv (fun (u : (Nat → Int32)) => Q u) (fun (u : (Nat → Int32)) t => va_P g.1 vwCl [(qM, .inr (9, [.int (F 0), .ref q1, .ref q2, .ref q3, .int (F 4), .int (F 5), .int (F 6), .int (F 7), .int (F 8), .int (F 9), .long (J 10), .int (F 11), .int (F 12), .int (F 13), .ref q4, .int (F 15), .ref q5, .ref q6, .ref q7, .int (F 19), .ref q8, .int (F 21), .int (F 22), .int (F 23), .int (F 24), .ref q9, .ref q10, .ref q11, .long (J 28)])), (q1, .inl (g.2 0, 376, .inl al)), (q7, .inl (g.2 0, 200, .inl he)), (q8, .inl (g.2 0, 65, .inl u))] t.heap ∧ va_D (va_A [(qM, .inr (9, [.int (F 0), .ref q1, .ref q2, .ref q3, .int (F 4), .int (F 5), .int (F 6), .int (F 7), .int (F 8), .int (F 9), .long (J 10), .int (F 11), .int (F 12), .int (F 13), .ref q4, .int (F 15), .ref q5, .ref q6, .ref q7, .int (F 19), .ref q8, .int (F 21), .int (F 22), .int (F 23), .int (F 24), .ref q9, .ref q10, .ref q11, .long (J 28)])), (q1, .inl (g.2 0, 376, .inl al)), (q7, .inl (g.2 0, 200, .inl he)), (q8, .inl (g.2 0, 65, .inl ma))] sz) [(qM, .inr (9, [.int (F 0), .ref q1, .ref q2, .ref q3, .int (F 4), .int (F 5), .int (F 6), .int (F 7), .int (F 8), .int (F 9), .long (J 10), .int (F 11), .int (F 12), .int (F 13), .ref q4, .int (F 15), .ref q5, .ref q6, .ref q7, .int (F 19), .ref q8, .int (F 21), .int (F 22), .int (F 23), .int (F 24), .ref q9, .ref q10, .ref q11, .long (J 28)])), (q1, .inl (g.2 0, 376, .inl al)), (q7, .inl (g.2 0, 200, .inl he)), (q8, .inl (g.2 0, 65, .inl u))]) (va_A [(qM, .inr (9, [.int (F 0), .ref q1, .ref q2, .ref q3, .int (F 4), .int (F 5), .int (F 6), .int (F 7), .int (F 8), .int (F 9), .long (J 10), .int (F 11), .int (F 12), .int (F 13), .ref q4, .int (F 15), .ref q5, .ref q6, .ref q7, .int (F 19), .ref q8, .int (F 21), .int (F 22), .int (F 23), .int (F 24), .ref q9, .ref q10, .ref q11, .long (J 28)])), (q1, .inl (g.2 0, 376, .inl al)), (q7, .inl (g.2 0, 200, .inl he)), (q8, .inl (g.2 0, 65, .inl ma))] sz)) 0 0 (va_A [(qM, .inr (9, [.int (F 0), .ref q1, .ref q2, .ref q3, .int (F 4), .int (F 5), .int (F 6), .int (F 7), .int (F 8), .int (F 9), .long (J 10), .int (F 11), .int (F 12), .int (F 13), .ref q4, .int (F 15), .ref q5, .ref q6, .ref q7, .int (F 19), .ref q8, .int (F 21), .int (F 22), .int (F 23), .int (F 24), .ref q9, .ref q10, .ref q11, .long (J 28)])), (q1, .inl (g.2 0, 376, .inl al)), (q7, .inl (g.2 0, 200, .inl he)), (q8, .inl (g.2 0, 65, .inl ma))] sz) := by
  refine Met.ofW (cc := cX9_laysMatches) (maxL := 6) (ret := none) (by decide) rfl ?_
  intro p e s m args below meth c s₁ B hml hv'
  obtain ⟨rfl, hsz, hP, hG, hD0⟩ := hv'
  have S : CallFix p m c cX9_laysMatches 6 s _ wsX9_laysMatches RX9 := ⟨B.exec, B.bytes, hml, findClass_of_methodNamed B.named, atoms_spec (ws := wsX9_laysMatches) B.pre⟩
  obtain ⟨hx, hb, hml, hown, hts⟩ := id S
  have hK := hG.1
  have hr := B.returns
  have hlocks := B.notSynchronized
  subst hsz
  have hD := hD0.self (sz := s.heap.size)
  generalize hAe : va_A [(qM, .inr (9, [.int (F 0), .ref q1, .ref q2, .ref q3, .int (F 4), .int (F 5), .int (F 6), .int (F 7), .int (F 8), .int (F 9), .long (J 10), .int (F 11), .int (F 12), .int (F 13), .ref q4, .int (F 15), .ref q5, .ref q6, .ref q7, .int (F 19), .ref q8, .int (F 21), .int (F 22), .int (F 23), .int (F 24), .ref q9, .ref q10, .ref q11, .long (J 28)])), (q1, .inl (g.2 0, 376, .inl al)), (q7, .inl (g.2 0, 200, .inl he)), (q8, .inl (g.2 0, 65, .inl ma))] s.heap.size = A at hD ⊢
  have hA : ∀ q : Nat, s.heap.size ≤ q → A q := fun q h => by rw [← hAe]; exact Or.inr h
  have hS : va_S A s.heap s.heap [] := va_S.rf
  clear hD0 hAe
  have hl := lv_entry ([.ref qM, .int p1]) (n := 6) (Nat.le_of_ble_eq_true rfl)
  rw [lg_entry_eq]
  generalize (lg_sl ([.ref qM, .int p1]) ++ List.replicate (6 - (lg_sl ([.ref qM, .int p1])).length) Slot.unset).toArray = ls at hl ⊢
  have hl : lv_has ls 6 [(0, .ref qM), (1, .int p1)] := hl
  unfold vX9_laysMatches at hv
  refine lv_iconst (v := (0 : Int32)) hx hb dX9_laysMatches_0 (by decide) ?_
  refine lv_istore_n (lv' := [(2, .int (0 : Int32)), (0, .ref qM), (1, .int p1)]) hx hb dX9_laysMatches_1 rfl hl (by decide) rfl (fun ls hl => ?_)
  obtain ⟨nn, hv⟩ := hv
  exact kX9_laysMatches_c2 S hr hlocks hG hA nn _ _ hv _ _ (hP.sub (ws' := [(qM, .inr (9, [.int (F 0), .ref q1, .ref q2, .ref q3, .int (F 4), .int (F 5), .int (F 6), .int (F 7), .int (F 8), .int (F 9), .long (J 10), .int (F 11), .int (F 12), .int (F 13), .ref q4, .int (F 15), .ref q5, .ref q6, .ref q7, .int (F 19), .ref q8, .int (F 21), .int (F 22), .int (F 23), .int (F 24), .ref q9, .ref q10, .ref q11, .long (J 28)])), (q1, .inl (g.2 0, 376, .inl al)), (q7, .inl (g.2 0, 200, .inl he)), (q8, .inl (g.2 0, 65, .inl ma))]) [0, 1, 2, 3] rfl) (hD.sub (ws' := [(qM, .inr (9, [.int (F 0), .ref q1, .ref q2, .ref q3, .int (F 4), .int (F 5), .int (F 6), .int (F 7), .int (F 8), .int (F 9), .long (J 10), .int (F 11), .int (F 12), .int (F 13), .ref q4, .int (F 15), .ref q5, .ref q6, .ref q7, .int (F 19), .ref q8, .int (F 21), .int (F 22), .int (F 23), .int (F 24), .ref q9, .ref q10, .ref q11, .long (J 28)])), (q1, .inl (g.2 0, 376, .inl al)), (q7, .inl (g.2 0, 200, .inl he)), (q8, .inl (g.2 0, 65, .inl ma))]) [0, 1, 2, 3] (by decide) rfl) hS ls (lv_sub hl [1, 2, 0] rfl)
abbrev isH (h : Nat → Nat) (n : Nat) (he : Nat → Int32) : Prop := ∀ i, i < n → (he i).toInt = (h i : Int) ∧ h i ≤ 2
abbrev preX9_laysMatches (T : Cd) (G : Lg) (l : Nat) (h : Nat → Nat) (_ : Nat → Int32) (_ : Nat → Int64) (al he _ : Nat → Int32) (p1 : Int32) : Prop := mT T al ∧ mG G l al ∧ l < 2 ∧ p1.toInt = (l : Int) ∧ isH h (gmn G) he
abbrev postX9_laysMatches (T : Cd) (G : Lg) (_ : Nat) (h : Nat → Nat) (_ : Nat → Int32) (_ : Nat → Int64) (_ _ _ : Nat → Int32) (_ : Int32) (ma' : Nat → Int32) : Prop := ∀ p, p < cn T → ∀ w, w < cL T p → (ma' (13 * p + w)).toInt = mtZ T h (gfr G) p w (gmn G)
theorem sX9_laysMatches_30 (T : Cd) (G : Lg) (l : Nat) (h : Nat → Nat) (F : Nat → Int32) (J : Nat → Int64) (al he ma0 : Nat → Int32) (p1 : Int32) (H : preX9_laysMatches T G l h F J al he ma0 p1) (Q : (Nat → Int32) → Prop) (K2 : Int32 → (Nat → Int32) → Prop) (K14 : Int32 → Int32 → (Nat → Int32) → Prop) (p w : Nat) (x2 x3 : Int32) (h2 : x2.toInt = (p : Int)) (hp : p < cn T) (h3 : x3.toInt = (w : Int)) (hw : w < cL T p) (ma : Nat → Int32) (hK : ∀ v : Int32, v.toInt = mtZ T h (gfr G) p w (gmn G) → K14 x2 (x3 + (1 : Int32)) (upd ma (13 * p + w) v)) : ∀ (n i : Nat) (x4 x5 : Int32), x4.toInt = mtZ T h (gfr G) p w i → x5.toInt = (i : Int) → i ≤ gmn G → gmn G + 1 ≤ i + n → vX9_laysMatches_c30 F J al he p1 Q K2 K14 n x2 x3 x4 x5 ma
  | 0, i, x4, x5, _, _, hi, hn => absurd hn (by omega)
  | n + 1, i, x4, x5, h4, h5, hi, hn => by
    obtain ⟨hT, hG, hl, h1, hH⟩ := id H
    have hmn := mG_mn hG
    have hL := hT.2.1 p hp
    have hn5 := hT.1.2
    have hle := mtZ_le T h (gfr G) p w i
    have ha := alZ_le T h (gfr G) p w i
    rw [vX9_laysMatches_c30]
    refine ⟨l, 3, ⟨h1, rfl, by omega⟩, fun r hr => ?_⟩
    have hr : r = al (20 + 37 * l + 3) := hr
    rw [hr, q_le hmn.1 h5]
    refine ⟨fun hc => ?_, fun hc => ?_⟩
    · have : i = gmn G := by omega
      subst this
      have e := q_13 h2 h3 (by omega) (by omega)
      refine ⟨q_in e (by omega), ?_⟩
      rw [q_cl e]
      exact hK _ h4
    · have hh := hH i (by omega)
      refine ⟨T, G, l, i, p, w, h, ⟨hT, hG, hl, h1, h5, by omega, h2, hp, h3, by omega, hh.1, hh.2⟩, fun r2 hr2 => ?_⟩
      refine sX9_laysMatches_30 T G l h F J al he ma0 p1 H Q K2 K14 p w x2 x3 h2 hp h3 hw ma hK n (i + 1) _ _ ?_ (q_1 h5 (by omega)) (by omega) (by omega)
      rw [q_add h4 hr2 (by omega) (by omega), mtZ]
theorem sX9_laysMatches_14 (T : Cd) (G : Lg) (l : Nat) (h : Nat → Nat) (F : Nat → Int32) (J : Nat → Int64) (al he ma0 : Nat → Int32) (p1 : Int32) (H : preX9_laysMatches T G l h F J al he ma0 p1) (Q : (Nat → Int32) → Prop) (K2 : Int32 → (Nat → Int32) → Prop) (p : Nat) (x2 : Int32) (h2 : x2.toInt = (p : Int)) (hp : p < cn T) (hK : ∀ ma : Nat → Int32, (∀ q, q < p + 1 → ∀ w, w < cL T q → (ma (13 * q + w)).toInt = mtZ T h (gfr G) q w (gmn G)) → K2 (x2 + (1 : Int32)) ma) : ∀ (n i : Nat) (x3 : Int32) (ma : Nat → Int32), x3.toInt = (i : Int) → i ≤ cL T p → cL T p + 1 ≤ i + n → (∀ q, q < p → ∀ w, w < cL T q → (ma (13 * q + w)).toInt = mtZ T h (gfr G) q w (gmn G)) → (∀ w, w < i → (ma (13 * p + w)).toInt = mtZ T h (gfr G) p w (gmn G)) → vX9_laysMatches_c14 F J al he p1 Q K2 n x2 x3 ma
  | 0, i, x3, ma, _, hi, hn, _, _ => absurd hn (by omega)
  | n + 1, i, x3, ma, h3, hi, hn, ho, hm => by
    obtain ⟨hT, hG, hl, h1, hH⟩ := id H
    have hL := hT.2.1 p hp
    have hn5 := hT.1.2
    rw [vX9_laysMatches_c14]
    refine ⟨p, 0, ⟨h2, rfl, by omega⟩, fun r hr => ?_⟩
    have hr : r = aL al p := hr
    rw [hr, q_le hL.1 h3]
    refine ⟨fun hc => hK ma (fun q hq w hw => ?_), fun hc => ⟨gmn G + 1, ?_⟩⟩
    · rcases Nat.lt_or_ge q p with z | z
      · exact ho q z w hw
      · have : q = p := by omega
        subst this
        exact hm w (by omega)
    · refine sX9_laysMatches_30 T G l h F J al he ma0 p1 H Q K2 _ p i x2 x3 h2 hp h3 (by omega) ma (fun v hv => ?_) (gmn G + 1) 0 0 0 rfl rfl (by omega) (by omega)
      refine sX9_laysMatches_14 T G l h F J al he ma0 p1 H Q K2 p x2 h2 hp hK n (i + 1) _ _ (q_1 h3 (by omega)) (by omega) (by omega) (fun q hq w hw => ?_) (fun w hw => ?_)
      · have hLq := hT.2.1 q (by omega)
        unfold upd
        rw [if_neg (by omega)]
        exact ho q hq w hw
      · unfold upd
        by_cases e : w = i
        · subst e; rw [if_pos rfl]; exact hv
        · rw [if_neg (by omega)]; exact hm w (by omega)
theorem sX9_laysMatches_2 (T : Cd) (G : Lg) (l : Nat) (h : Nat → Nat) (F : Nat → Int32) (J : Nat → Int64) (al he ma0 : Nat → Int32) (p1 : Int32) (H : preX9_laysMatches T G l h F J al he ma0 p1) : ∀ (n p : Nat) (x2 : Int32) (ma : Nat → Int32), x2.toInt = (p : Int) → p ≤ cn T → cn T + 1 ≤ p + n → (∀ q, q < p → ∀ w, w < cL T q → (ma (13 * q + w)).toInt = mtZ T h (gfr G) q w (gmn G)) → vX9_laysMatches_c2 F J al he p1 (postX9_laysMatches T G l h F J al he ma0 p1) n x2 ma
  | 0, p, x2, ma, _, hi, hn, _ => absurd hn (by omega)
  | n + 1, p, x2, ma, h2, hi, hn, ho => by
    obtain ⟨hT, hG, hl, h1, hH⟩ := id H
    have hn5 := hT.1.2
    rw [vX9_laysMatches_c2, q_le hT.1.1 h2]
    refine ⟨fun hc => ?_, fun hc => ⟨cL T p + 1, ?_⟩⟩
    · have : p = cn T := by omega
      subst this
      exact ho
    · exact sX9_laysMatches_14 T G l h F J al he ma0 p1 H _ _ p x2 h2 (by omega) (fun ma' hma => sX9_laysMatches_2 T G l h F J al he ma0 p1 H n (p + 1) _ ma' (q_1 h2 (by omega)) (by omega) (by omega) hma) (cL T p + 1) 0 0 ma rfl (by omega) (by omega) ho (fun w hw => absurd hw (by omega))
theorem sX9_laysMatches (T : Cd) (G : Lg) (l : Nat) (h : Nat → Nat) (F : Nat → Int32) (J : Nat → Int64) (al he ma : Nat → Int32) (p1 : Int32) (H : preX9_laysMatches T G l h F J al he ma p1) : vX9_laysMatches F J al he ma p1 (postX9_laysMatches T G l h F J al he ma p1) :=
  ⟨cn T + 1, sX9_laysMatches_2 T G l h F J al he ma p1 H (cn T + 1) 0 0 ma rfl (by omega) (by omega) (fun q hq => absurd hq (by omega))⟩
set_option maxRecDepth 20000 in
theorem ggX9_laysHeard_X9_ofLeg : GoodIn wsX9_laysHeard wsX9_ofLeg := goodIn_r _ [10, 11, 49, 50, 51, 52, 53, 54, 55, 56, 57, 58, 59, 60, 61, 62, 63, 64, 65, 66, 67, 68, 69, 70, 71, 72, 73, 74, 75, 76, 77] (by decide +kernel) (by decide +kernel)
set_option maxRecDepth 20000 in
theorem gX9_laysHeard_X9_ofLeg : GoodIn wsX9_laysHeard (wsV RX9 185 RX9 yX9_ofLeg wsX9_ofLeg) := goodIn_app (goodIn_of _ (by decide +kernel)) ggX9_laysHeard_X9_ofLeg
set_option maxRecDepth 20000 in
theorem ggX9_laysHeard_X9_behindAt : GoodIn wsX9_laysHeard wsX9_behindAt := goodIn_r _ [15, 6, 7, 8, 9, 10, 11, 16, 17, 18, 19, 20, 21, 49, 50, 51, 52, 53, 54, 55, 56, 57, 58, 59, 60, 61, 62, 63, 64, 65, 66, 67, 68, 69, 70, 71, 72, 73, 74, 75, 76, 77] (by decide +kernel) (by decide +kernel)
set_option maxRecDepth 20000 in
theorem gX9_laysHeard_X9_behindAt : GoodIn wsX9_laysHeard (wsV RX9 244 RX9 yX9_behindAt wsX9_behindAt) := goodIn_app (goodIn_of _ (by decide +kernel)) ggX9_laysHeard_X9_behindAt
set_option maxRecDepth 20000 in
theorem ggX9_laysHeard_X9_sentAt : GoodIn wsX9_laysHeard wsX9_sentAt := goodIn_r _ [25, 26, 27, 28, 29, 9, 30, 11, 31, 32, 33, 34, 35, 36, 37, 38, 19, 20, 21, 39, 40, 41, 49, 50, 51, 52, 53, 54, 55, 56, 57, 58, 59, 60, 61, 62, 63, 64, 65, 66, 67, 68, 69, 70, 71, 72, 73, 74, 75, 76, 77] (by decide +kernel) (by decide +kernel)
set_option maxRecDepth 20000 in
theorem gX9_laysHeard_X9_sentAt : GoodIn wsX9_laysHeard (wsV RX9 247 RX9 yX9_sentAt wsX9_sentAt) := goodIn_app (goodIn_of _ (by decide +kernel)) ggX9_laysHeard_X9_sentAt
set_option maxRecDepth 20000 in
theorem ggX9_laysHeard_X9_marksAt : GoodIn wsX9_laysHeard wsX9_marksAt := goodIn_r _ [45, 6, 7, 8, 9, 10, 11, 46, 47, 48, 49, 50, 51, 52, 53, 54, 55, 56, 57, 58, 59, 60, 61, 62, 63, 64, 65, 66, 67, 68, 69, 70, 71, 72, 73, 74, 75, 76, 77] (by decide +kernel) (by decide +kernel)
set_option maxRecDepth 20000 in
theorem gX9_laysHeard_X9_marksAt : GoodIn wsX9_laysHeard (wsV RX9 250 RX9 yX9_marksAt wsX9_marksAt) := goodIn_app (goodIn_of _ (by decide +kernel)) ggX9_laysHeard_X9_marksAt
theorem dX9_laysHeard_0 : decode cX9_laysHeard 0 = .ok (.aload_n 0, 1) := by decide +kernel
theorem dX9_laysHeard_1 : decode cX9_laysHeard 1 = .ok (.iload_n 1, 1) := by decide +kernel
theorem dX9_laysHeard_2 : decode cX9_laysHeard 2 = .ok (.iconst 5, 1) := by decide +kernel
theorem dX9_laysHeard_3 : decode cX9_laysHeard 3 = .ok (.invokevirtual 185, 3) := by decide +kernel
theorem dX9_laysHeard_6 : decode cX9_laysHeard 6 = .ok (.i2l, 1) := by decide +kernel
theorem dX9_laysHeard_7 : decode cX9_laysHeard 7 = .ok (.lstore_n 2, 1) := by decide +kernel
theorem dX9_laysHeard_8 : decode cX9_laysHeard 8 = .ok (.iconst 0, 1) := by decide +kernel
theorem dX9_laysHeard_9 : decode cX9_laysHeard 9 = .ok (.istore 4, 2) := by decide +kernel
theorem dX9_laysHeard_11 : decode cX9_laysHeard 11 = .ok (.iload 4, 2) := by decide +kernel
theorem dX9_laysHeard_13 : decode cX9_laysHeard 13 = .ok (.aload_n 0, 1) := by decide +kernel
theorem dX9_laysHeard_14 : decode cX9_laysHeard 14 = .ok (.iload_n 1, 1) := by decide +kernel
theorem dX9_laysHeard_15 : decode cX9_laysHeard 15 = .ok (.iconst 3, 1) := by decide +kernel
theorem dX9_laysHeard_16 : decode cX9_laysHeard 16 = .ok (.invokevirtual 185, 3) := by decide +kernel
theorem dX9_laysHeard_19 : decode cX9_laysHeard 19 = .ok (.if_icmp .ge 138, 3) := by decide +kernel
theorem dX9_laysHeard_22 : decode cX9_laysHeard 22 = .ok (.lload_n 2, 1) := by decide +kernel
theorem dX9_laysHeard_23 : decode cX9_laysHeard 23 = .ok (.ldc2_w 238, 3) := by decide +kernel
theorem dX9_laysHeard_26 : decode cX9_laysHeard 26 = .ok (.lmul, 1) := by decide +kernel
theorem dX9_laysHeard_27 : decode cX9_laysHeard 27 = .ok (.ldc2_w 240, 3) := by decide +kernel
theorem dX9_laysHeard_30 : decode cX9_laysHeard 30 = .ok (.ladd, 1) := by decide +kernel
theorem dX9_laysHeard_31 : decode cX9_laysHeard 31 = .ok (.ldc2_w 242, 3) := by decide +kernel
theorem dX9_laysHeard_34 : decode cX9_laysHeard 34 = .ok (.lrem, 1) := by decide +kernel
theorem dX9_laysHeard_35 : decode cX9_laysHeard 35 = .ok (.lstore_n 2, 1) := by decide +kernel
theorem dX9_laysHeard_36 : decode cX9_laysHeard 36 = .ok (.aload_n 0, 1) := by decide +kernel
theorem dX9_laysHeard_37 : decode cX9_laysHeard 37 = .ok (.iload_n 1, 1) := by decide +kernel
theorem dX9_laysHeard_38 : decode cX9_laysHeard 38 = .ok (.aload_n 0, 1) := by decide +kernel
theorem dX9_laysHeard_39 : decode cX9_laysHeard 39 = .ok (.iload_n 1, 1) := by decide +kernel
theorem dX9_laysHeard_40 : decode cX9_laysHeard 40 = .ok (.iconst 2, 1) := by decide +kernel
theorem dX9_laysHeard_41 : decode cX9_laysHeard 41 = .ok (.invokevirtual 185, 3) := by decide +kernel
theorem dX9_laysHeard_44 : decode cX9_laysHeard 44 = .ok (.iload 4, 2) := by decide +kernel
theorem dX9_laysHeard_46 : decode cX9_laysHeard 46 = .ok (.iadd, 1) := by decide +kernel
theorem dX9_laysHeard_47 : decode cX9_laysHeard 47 = .ok (.aload_n 0, 1) := by decide +kernel
theorem dX9_laysHeard_48 : decode cX9_laysHeard 48 = .ok (.iload_n 1, 1) := by decide +kernel
theorem dX9_laysHeard_49 : decode cX9_laysHeard 49 = .ok (.iload 4, 2) := by decide +kernel
theorem dX9_laysHeard_51 : decode cX9_laysHeard 51 = .ok (.invokevirtual 244, 3) := by decide +kernel
theorem dX9_laysHeard_54 : decode cX9_laysHeard 54 = .ok (.isub, 1) := by decide +kernel
theorem dX9_laysHeard_55 : decode cX9_laysHeard 55 = .ok (.invokevirtual 247, 3) := by decide +kernel
theorem dX9_laysHeard_58 : decode cX9_laysHeard 58 = .ok (.istore 5, 2) := by decide +kernel
theorem dX9_laysHeard_60 : decode cX9_laysHeard 60 = .ok (.aload_n 0, 1) := by decide +kernel
theorem dX9_laysHeard_61 : decode cX9_laysHeard 61 = .ok (.iload_n 1, 1) := by decide +kernel
theorem dX9_laysHeard_62 : decode cX9_laysHeard 62 = .ok (.iload 4, 2) := by decide +kernel
theorem dX9_laysHeard_64 : decode cX9_laysHeard 64 = .ok (.iconst 0, 1) := by decide +kernel
theorem dX9_laysHeard_65 : decode cX9_laysHeard 65 = .ok (.invokevirtual 250, 3) := by decide +kernel
theorem dX9_laysHeard_68 : decode cX9_laysHeard 68 = .ok (.lload_n 2, 1) := by decide +kernel
theorem dX9_laysHeard_69 : decode cX9_laysHeard 69 = .ok (.ldc2_w 254, 3) := by decide +kernel
theorem dX9_laysHeard_72 : decode cX9_laysHeard 72 = .ok (.ldiv, 1) := by decide +kernel
theorem dX9_laysHeard_73 : decode cX9_laysHeard 73 = .ok (.l2i, 1) := by decide +kernel
theorem dX9_laysHeard_74 : decode cX9_laysHeard 74 = .ok (.bipush 100, 2) := by decide +kernel
theorem dX9_laysHeard_76 : decode cX9_laysHeard 76 = .ok (.irem, 1) := by decide +kernel
theorem dX9_laysHeard_77 : decode cX9_laysHeard 77 = .ok (.aload_n 0, 1) := by decide +kernel
theorem dX9_laysHeard_78 : decode cX9_laysHeard 78 = .ok (.iload_n 1, 1) := by decide +kernel
theorem dX9_laysHeard_79 : decode cX9_laysHeard 79 = .ok (.iconst 4, 1) := by decide +kernel
theorem dX9_laysHeard_80 : decode cX9_laysHeard 80 = .ok (.invokevirtual 185, 3) := by decide +kernel
theorem dX9_laysHeard_83 : decode cX9_laysHeard 83 = .ok (.if_icmp .ge 7, 3) := by decide +kernel
theorem dX9_laysHeard_86 : decode cX9_laysHeard 86 = .ok (.iconst 1, 1) := by decide +kernel
theorem dX9_laysHeard_87 : decode cX9_laysHeard 87 = .ok (.goto 4, 3) := by decide +kernel
theorem dX9_laysHeard_90 : decode cX9_laysHeard 90 = .ok (.iconst 0, 1) := by decide +kernel
theorem dX9_laysHeard_91 : decode cX9_laysHeard 91 = .ok (.iadd, 1) := by decide +kernel
theorem dX9_laysHeard_92 : decode cX9_laysHeard 92 = .ok (.istore 6, 2) := by decide +kernel
theorem dX9_laysHeard_94 : decode cX9_laysHeard 94 = .ok (.iload 6, 2) := by decide +kernel
theorem dX9_laysHeard_96 : decode cX9_laysHeard 96 = .ok (.iconst 2, 1) := by decide +kernel
theorem dX9_laysHeard_97 : decode cX9_laysHeard 97 = .ok (.irem, 1) := by decide +kernel
theorem dX9_laysHeard_98 : decode cX9_laysHeard 98 = .ok (.iconst 1, 1) := by decide +kernel
theorem dX9_laysHeard_99 : decode cX9_laysHeard 99 = .ok (.if_icmp .ne 16, 3) := by decide +kernel
theorem dX9_laysHeard_102 : decode cX9_laysHeard 102 = .ok (.iload 5, 2) := by decide +kernel
theorem dX9_laysHeard_104 : decode cX9_laysHeard 104 = .ok (.ifCond .ne 7, 3) := by decide +kernel
theorem dX9_laysHeard_107 : decode cX9_laysHeard 107 = .ok (.iconst 1, 1) := by decide +kernel
theorem dX9_laysHeard_108 : decode cX9_laysHeard 108 = .ok (.goto 9, 3) := by decide +kernel
theorem dX9_laysHeard_111 : decode cX9_laysHeard 111 = .ok (.iconst 0, 1) := by decide +kernel
theorem dX9_laysHeard_112 : decode cX9_laysHeard 112 = .ok (.goto 5, 3) := by decide +kernel
theorem dX9_laysHeard_115 : decode cX9_laysHeard 115 = .ok (.iload 5, 2) := by decide +kernel
theorem dX9_laysHeard_117 : decode cX9_laysHeard 117 = .ok (.istore 5, 2) := by decide +kernel
theorem dX9_laysHeard_119 : decode cX9_laysHeard 119 = .ok (.aload_n 0, 1) := by decide +kernel
theorem dX9_laysHeard_120 : decode cX9_laysHeard 120 = .ok (.getfield 30, 3) := by decide +kernel
theorem dX9_laysHeard_123 : decode cX9_laysHeard 123 = .ok (.iload 4, 2) := by decide +kernel
theorem dX9_laysHeard_125 : decode cX9_laysHeard 125 = .ok (.aload_n 0, 1) := by decide +kernel
theorem dX9_laysHeard_126 : decode cX9_laysHeard 126 = .ok (.iload_n 1, 1) := by decide +kernel
theorem dX9_laysHeard_127 : decode cX9_laysHeard 127 = .ok (.iload 4, 2) := by decide +kernel
theorem dX9_laysHeard_129 : decode cX9_laysHeard 129 = .ok (.iconst 3, 1) := by decide +kernel
theorem dX9_laysHeard_130 : decode cX9_laysHeard 130 = .ok (.invokevirtual 250, 3) := by decide +kernel
theorem dX9_laysHeard_133 : decode cX9_laysHeard 133 = .ok (.ifCond .le 7, 3) := by decide +kernel
theorem dX9_laysHeard_136 : decode cX9_laysHeard 136 = .ok (.iconst 2, 1) := by decide +kernel
theorem dX9_laysHeard_137 : decode cX9_laysHeard 137 = .ok (.goto 13, 3) := by decide +kernel
theorem dX9_laysHeard_140 : decode cX9_laysHeard 140 = .ok (.iload 5, 2) := by decide +kernel
theorem dX9_laysHeard_142 : decode cX9_laysHeard 142 = .ok (.ifCond .eq 7, 3) := by decide +kernel
theorem dX9_laysHeard_145 : decode cX9_laysHeard 145 = .ok (.iconst 1, 1) := by decide +kernel
theorem dX9_laysHeard_146 : decode cX9_laysHeard 146 = .ok (.goto 4, 3) := by decide +kernel
theorem dX9_laysHeard_149 : decode cX9_laysHeard 149 = .ok (.iconst 0, 1) := by decide +kernel
theorem dX9_laysHeard_150 : decode cX9_laysHeard 150 = .ok (.iastore, 1) := by decide +kernel
theorem dX9_laysHeard_151 : decode cX9_laysHeard 151 = .ok (.iinc 4 1, 3) := by decide +kernel
theorem dX9_laysHeard_154 : decode cX9_laysHeard 154 = .ok (.goto (-143), 3) := by decide +kernel
theorem dX9_laysHeard_157 : decode cX9_laysHeard 157 = .ok (.return_, 1) := by decide +kernel
abbrev rmX9_laysHeard : Room := { frames := 4, cells := 0, slots := 0, locals := 89 }
theorem inX9_laysHeard_9 : ∀ w ∈ wsX90, w ∈ wsX9_laysHeard := by decide +kernel
def vX9_laysHeard_c117 (F : Nat → Int32) (J : Nat → Int64) (al : Nat → Int32) (p1 : Int32) (Q : (Nat → Int32) → Prop) (K11 : Int64 → Int32 → (Nat → Int32) → Prop) (x2 : Int64) (x4 : Int32) (s0 : Int32) (he : Nat → Int32) : Prop := (∃ (G_130 : Lg) (lg_130 : Nat) (i_130 : Nat) (k_130 : Nat), preX9_marksAt G_130 lg_130 i_130 k_130 F J al p1 x4 (3 : Int32) ∧ (∀ r_130 : Int32, postX9_marksAt G_130 lg_130 i_130 k_130 F J al p1 x4 (3 : Int32) r_130 → ((r_130 ≤ 0 → ((s0 = 0 → (vp_in x4 200 ∧ (K11 x2 (x4 + (1 : Int32)) (upd he x4.toNatClampNeg (0 : Int32))))) ∧ (¬ s0 = 0 → (vp_in x4 200 ∧ (K11 x2 (x4 + (1 : Int32)) (upd he x4.toNatClampNeg (1 : Int32))))))) ∧ (¬ r_130 ≤ 0 → (vp_in x4 200 ∧ (K11 x2 (x4 + (1 : Int32)) (upd he x4.toNatClampNeg (2 : Int32))))))))
set_option maxHeartbeats 4000000 in
set_option maxRecDepth 100000 in
theorem kX9_laysHeard_c117 {p : Program} {l : Launch} {e : Env} {s : State} {m : MethodId} {args : Array Value} {below : List Frame} {meth : Method} {c : Code} {g : GP} {qM q1 q2 q3 q4 q5 q6 q7 q8 q9 q10 q11 : Nat} {F : Nat → Int32} {J : Nat → Int64} {al : Nat → Int32} {p1 : Int32} {Q : (Nat → Int32) → Prop} {A : Nat → Prop} {K11 : Int64 → Int32 → (Nat → Int32) → Prop} (S : CallFix p m c cX9_laysHeard 7 s args wsX9_laysHeard RX9) (hr : meth.sig.returnType = none) (hlocks : meth.locks = false) (hG : GK g s) (hA : ∀ q : Nat, s.heap.size ≤ q → A q) (kk11 : ∀ (x2 : Int64) (x4 : Int32) (he : Nat → Int32), K11 x2 x4 he → ∀ (H : Heap) (locs : List Loc), va_P g.1 vwCl [(qM, .inr (9, [.int (F 0), .ref q1, .ref q2, .ref q3, .int (F 4), .int (F 5), .int (F 6), .int (F 7), .int (F 8), .int (F 9), .long (J 10), .int (F 11), .int (F 12), .int (F 13), .ref q4, .int (F 15), .ref q5, .ref q6, .ref q7, .int (F 19), .ref q8, .int (F 21), .int (F 22), .int (F 23), .int (F 24), .ref q9, .ref q10, .ref q11, .long (J 28)])), (q1, .inl (g.2 0, 376, .inl al)), (q7, .inl (g.2 0, 200, .inl he))] H → va_D A [(qM, .inr (9, [.int (F 0), .ref q1, .ref q2, .ref q3, .int (F 4), .int (F 5), .int (F 6), .int (F 7), .int (F 8), .int (F 9), .long (J 10), .int (F 11), .int (F 12), .int (F 13), .ref q4, .int (F 15), .ref q5, .ref q6, .ref q7, .int (F 19), .ref q8, .int (F 21), .int (F 22), .int (F 23), .int (F 24), .ref q9, .ref q10, .ref q11, .long (J 28)])), (q1, .inl (g.2 0, 376, .inl al)), (q7, .inl (g.2 0, 200, .inl he))] → va_S A s.heap H locs → ∀ (ls : Array Slot), lv_has ls 7 [(0, .ref qM), (1, .int p1), (2, .long x2), (4, .int x4)] → W p l e (headSpec wsX9_laysHeard rmX9_laysHeard).room s m args below meth c H locs 0 0 (MQ below (va_Qv (fun (u : (Nat → Int32)) => Q u) (fun (u : (Nat → Int32)) t => va_P g.1 vwCl [(qM, .inr (9, [.int (F 0), .ref q1, .ref q2, .ref q3, .int (F 4), .int (F 5), .int (F 6), .int (F 7), .int (F 8), .int (F 9), .long (J 10), .int (F 11), .int (F 12), .int (F 13), .ref q4, .int (F 15), .ref q5, .ref q6, .ref q7, .int (F 19), .ref q8, .int (F 21), .int (F 22), .int (F 23), .int (F 24), .ref q9, .ref q10, .ref q11, .long (J 28)])), (q1, .inl (g.2 0, 376, .inl al)), (q7, .inl (g.2 0, 200, .inl u))] t.heap ∧ va_D A [(qM, .inr (9, [.int (F 0), .ref q1, .ref q2, .ref q3, .int (F 4), .int (F 5), .int (F 6), .int (F 7), .int (F 8), .int (F 9), .long (J 10), .int (F 11), .int (F 12), .int (F 13), .ref q4, .int (F 15), .ref q5, .ref q6, .ref q7, .int (F 19), .ref q8, .int (F 21), .int (F 22), .int (F 23), .int (F 24), .ref q9, .ref q10, .ref q11, .long (J 28)])), (q1, .inl (g.2 0, 376, .inl al)), (q7, .inl (g.2 0, 200, .inl u))]) A) args s 0 0 A) (F0 m 11 ls [])) : ∀ (x2 : Int64) (x4 : Int32) (s0 : Int32) (he : Nat → Int32), vX9_laysHeard_c117 F J al p1 Q K11 x2 x4 s0 he → ∀ (H : Heap) (locs : List Loc), va_P g.1 vwCl [(qM, .inr (9, [.int (F 0), .ref q1, .ref q2, .ref q3, .int (F 4), .int (F 5), .int (F 6), .int (F 7), .int (F 8), .int (F 9), .long (J 10), .int (F 11), .int (F 12), .int (F 13), .ref q4, .int (F 15), .ref q5, .ref q6, .ref q7, .int (F 19), .ref q8, .int (F 21), .int (F 22), .int (F 23), .int (F 24), .ref q9, .ref q10, .ref q11, .long (J 28)])), (q1, .inl (g.2 0, 376, .inl al)), (q7, .inl (g.2 0, 200, .inl he))] H → va_D A [(qM, .inr (9, [.int (F 0), .ref q1, .ref q2, .ref q3, .int (F 4), .int (F 5), .int (F 6), .int (F 7), .int (F 8), .int (F 9), .long (J 10), .int (F 11), .int (F 12), .int (F 13), .ref q4, .int (F 15), .ref q5, .ref q6, .ref q7, .int (F 19), .ref q8, .int (F 21), .int (F 22), .int (F 23), .int (F 24), .ref q9, .ref q10, .ref q11, .long (J 28)])), (q1, .inl (g.2 0, 376, .inl al)), (q7, .inl (g.2 0, 200, .inl he))] → va_S A s.heap H locs → ∀ (ls : Array Slot), lv_has ls 7 [(0, .ref qM), (1, .int p1), (2, .long x2), (4, .int x4)] → W p l e (headSpec wsX9_laysHeard rmX9_laysHeard).room s m args below meth c H locs 0 0 (MQ below (va_Qv (fun (u : (Nat → Int32)) => Q u) (fun (u : (Nat → Int32)) t => va_P g.1 vwCl [(qM, .inr (9, [.int (F 0), .ref q1, .ref q2, .ref q3, .int (F 4), .int (F 5), .int (F 6), .int (F 7), .int (F 8), .int (F 9), .long (J 10), .int (F 11), .int (F 12), .int (F 13), .ref q4, .int (F 15), .ref q5, .ref q6, .ref q7, .int (F 19), .ref q8, .int (F 21), .int (F 22), .int (F 23), .int (F 24), .ref q9, .ref q10, .ref q11, .long (J 28)])), (q1, .inl (g.2 0, 376, .inl al)), (q7, .inl (g.2 0, 200, .inl u))] t.heap ∧ va_D A [(qM, .inr (9, [.int (F 0), .ref q1, .ref q2, .ref q3, .int (F 4), .int (F 5), .int (F 6), .int (F 7), .int (F 8), .int (F 9), .long (J 10), .int (F 11), .int (F 12), .int (F 13), .ref q4, .int (F 15), .ref q5, .ref q6, .ref q7, .int (F 19), .ref q8, .int (F 21), .int (F 22), .int (F 23), .int (F 24), .ref q9, .ref q10, .ref q11, .long (J 28)])), (q1, .inl (g.2 0, 376, .inl al)), (q7, .inl (g.2 0, 200, .inl u))]) A) args s 0 0 A) (F0 m 117 ls [.int s0]) := by
  obtain ⟨hx, hb, hml, hown, hts⟩ := id S
  have hK := hG.1
  intro x2 x4 s0 he hv H locs hP hD hS ls hl
  unfold vX9_laysHeard_c117 at hv
  refine lv_istore (lv' := [(5, .int s0), (0, .ref qM), (1, .int p1), (2, .long x2), (4, .int x4)]) hx hb dX9_laysHeard_117 hl (by decide) rfl (fun ls hl => ?_)
  refine lv_aload_n hx hb dX9_laysHeard_119 rfl (lv_at hl 1 rfl) ?_
  refine va_get (D := g.1) (ci := 9) (v := .ref q7) (C := RX9) (T := TX9) (N := 29) hx hb hts inX9_laysHeard_9 hown hK hP 0 rfl rfl 18 (by decide) (hts (.fieldLink RX9 30 "RangeCodesModel" "heard" "[I") (List.mem_of_getElem? (i := 5) rfl)) (fun _ h9 => h9) rfl dX9_laysHeard_120 ?_
  refine lv_iload hx hb dX9_laysHeard_123 (lv_at hl 4 rfl) ?_
  refine lv_aload_n hx hb dX9_laysHeard_125 rfl (lv_at hl 1 rfl) ?_
  refine lv_iload_n hx hb dX9_laysHeard_126 rfl (lv_at hl 2 rfl) ?_
  refine lv_iload hx hb dX9_laysHeard_127 (lv_at hl 4 rfl) ?_
  refine lv_iconst (v := (3 : Int32)) hx hb dX9_laysHeard_129 (by decide) ?_
  obtain ⟨G_130, lg_130, i_130, k_130, ho_1, hv⟩ := hv
  refine vp_callSi (W.runV (As := [.int p1, .int x4, .int (3 : Int32)]) (rest := [.int x4, .ref q7]) S (wX9_marksAt l g qM q1 q2 q3 q4 q5 q6 q7 q8 q9 q10 q11 F J al p1 x4 (3 : Int32) (sX9_marksAt G_130 lg_130 i_130 k_130 F J al p1 x4 (3 : Int32) ho_1)) (cwV 3 hts gX9_laysHeard_X9_marksAt rfl rfl rfl (by decide +kernel) ⟨Nat.le_of_ble_eq_true rfl, Nat.le_of_ble_eq_true rfl⟩) ⟨blindRO, va_recv hK hP (ci := 9) (q0 := 0) rfl rfl, fun U hU hW => ⟨rfl, by rw [hU]; exact hP.sub (ws' := [(qM, .inr (9, [.int (F 0), .ref q1, .ref q2, .ref q3, .int (F 4), .int (F 5), .int (F 6), .int (F 7), .int (F 8), .int (F 9), .long (J 10), .int (F 11), .int (F 12), .int (F 13), .ref q4, .int (F 15), .ref q5, .ref q6, .ref q7, .int (F 19), .ref q8, .int (F 21), .int (F 22), .int (F 23), .int (F 24), .ref q9, .ref q10, .ref q11, .long (J 28)])), (q1, .inl (g.2 0, 376, .inl al))]) [0, 1] rfl, hG.warm hW⟩⟩ rfl rfl hl.1 rfl (lv_room (Nat.le_of_ble_eq_true rfl)) dX9_laysHeard_130 ⟨Nat.le_of_ble_eq_true rfl, Nat.le_of_ble_eq_true rfl⟩) (fun r_130 hr_130 => ?_)
  have hv := hv r_130 hr_130
  obtain ⟨hvt, hvf⟩ := hv
  refine lv_if_le (tgt := 140) hx hb dX9_laysHeard_133 (by decide) (fun hc => ?_) (fun hc => ?_)
  · have hv := hvt hc
    refine lv_iload hx hb dX9_laysHeard_140 (lv_at hl 0 rfl) ?_
    obtain ⟨hvt, hvf⟩ := hv
    refine lv_if_eq (tgt := 149) hx hb dX9_laysHeard_142 (by decide) (fun hc => ?_) (fun hc => ?_)
    · have hv := hvt hc
      refine lv_iconst (v := (0 : Int32)) hx hb dX9_laysHeard_149 (by decide) ?_
      obtain ⟨ho_2, hv⟩ := hv
      refine va_iast hx hb hK hP hD hS 2 0 rfl rfl ho_2 dX9_laysHeard_150 (fun H locs hP hD hS => ?_)
      have hP : va_P g.1 vwCl [(qM, .inr (9, [.int (F 0), .ref q1, .ref q2, .ref q3, .int (F 4), .int (F 5), .int (F 6), .int (F 7), .int (F 8), .int (F 9), .long (J 10), .int (F 11), .int (F 12), .int (F 13), .ref q4, .int (F 15), .ref q5, .ref q6, .ref q7, .int (F 19), .ref q8, .int (F 21), .int (F 22), .int (F 23), .int (F 24), .ref q9, .ref q10, .ref q11, .long (J 28)])), (q1, .inl (g.2 0, 376, .inl al)), (q7, .inl (g.2 0, 200, .inl (upd he x4.toNatClampNeg (0 : Int32))))] H := hP
      have hD : va_D A [(qM, .inr (9, [.int (F 0), .ref q1, .ref q2, .ref q3, .int (F 4), .int (F 5), .int (F 6), .int (F 7), .int (F 8), .int (F 9), .long (J 10), .int (F 11), .int (F 12), .int (F 13), .ref q4, .int (F 15), .ref q5, .ref q6, .ref q7, .int (F 19), .ref q8, .int (F 21), .int (F 22), .int (F 23), .int (F 24), .ref q9, .ref q10, .ref q11, .long (J 28)])), (q1, .inl (g.2 0, 376, .inl al)), (q7, .inl (g.2 0, 200, .inl (upd he x4.toNatClampNeg (0 : Int32))))] := hD
      refine lv_iinc (v := (x4 + (1 : Int32))) (lv' := [(4, .int (x4 + (1 : Int32))), (5, .int s0), (0, .ref qM), (1, .int p1), (2, .long x2)]) hx hb dX9_laysHeard_151 hl (k := 4) rfl rfl (by decide) rfl (fun ls hl => ?_)
      refine lv_goto (tgt := 11) hx hb dX9_laysHeard_154 (by decide) ?_
      exact kk11 _ _ _ hv _ _ (hP.sub (ws' := [(qM, .inr (9, [.int (F 0), .ref q1, .ref q2, .ref q3, .int (F 4), .int (F 5), .int (F 6), .int (F 7), .int (F 8), .int (F 9), .long (J 10), .int (F 11), .int (F 12), .int (F 13), .ref q4, .int (F 15), .ref q5, .ref q6, .ref q7, .int (F 19), .ref q8, .int (F 21), .int (F 22), .int (F 23), .int (F 24), .ref q9, .ref q10, .ref q11, .long (J 28)])), (q1, .inl (g.2 0, 376, .inl al)), (q7, .inl (g.2 0, 200, .inl (upd he x4.toNatClampNeg (0 : Int32))))]) [0, 1, 2] rfl) (hD.sub (ws' := [(qM, .inr (9, [.int (F 0), .ref q1, .ref q2, .ref q3, .int (F 4), .int (F 5), .int (F 6), .int (F 7), .int (F 8), .int (F 9), .long (J 10), .int (F 11), .int (F 12), .int (F 13), .ref q4, .int (F 15), .ref q5, .ref q6, .ref q7, .int (F 19), .ref q8, .int (F 21), .int (F 22), .int (F 23), .int (F 24), .ref q9, .ref q10, .ref q11, .long (J 28)])), (q1, .inl (g.2 0, 376, .inl al)), (q7, .inl (g.2 0, 200, .inl (upd he x4.toNatClampNeg (0 : Int32))))]) [0, 1, 2] (by decide) rfl) hS ls (lv_sub hl [2, 3, 4, 0] rfl)
    · have hv := hvf hc
      refine lv_iconst (v := (1 : Int32)) hx hb dX9_laysHeard_145 (by decide) ?_
      refine lv_goto (tgt := 150) hx hb dX9_laysHeard_146 (by decide) ?_
      obtain ⟨ho_3, hv⟩ := hv
      refine va_iast hx hb hK hP hD hS 2 0 rfl rfl ho_3 dX9_laysHeard_150 (fun H locs hP hD hS => ?_)
      have hP : va_P g.1 vwCl [(qM, .inr (9, [.int (F 0), .ref q1, .ref q2, .ref q3, .int (F 4), .int (F 5), .int (F 6), .int (F 7), .int (F 8), .int (F 9), .long (J 10), .int (F 11), .int (F 12), .int (F 13), .ref q4, .int (F 15), .ref q5, .ref q6, .ref q7, .int (F 19), .ref q8, .int (F 21), .int (F 22), .int (F 23), .int (F 24), .ref q9, .ref q10, .ref q11, .long (J 28)])), (q1, .inl (g.2 0, 376, .inl al)), (q7, .inl (g.2 0, 200, .inl (upd he x4.toNatClampNeg (1 : Int32))))] H := hP
      have hD : va_D A [(qM, .inr (9, [.int (F 0), .ref q1, .ref q2, .ref q3, .int (F 4), .int (F 5), .int (F 6), .int (F 7), .int (F 8), .int (F 9), .long (J 10), .int (F 11), .int (F 12), .int (F 13), .ref q4, .int (F 15), .ref q5, .ref q6, .ref q7, .int (F 19), .ref q8, .int (F 21), .int (F 22), .int (F 23), .int (F 24), .ref q9, .ref q10, .ref q11, .long (J 28)])), (q1, .inl (g.2 0, 376, .inl al)), (q7, .inl (g.2 0, 200, .inl (upd he x4.toNatClampNeg (1 : Int32))))] := hD
      refine lv_iinc (v := (x4 + (1 : Int32))) (lv' := [(4, .int (x4 + (1 : Int32))), (5, .int s0), (0, .ref qM), (1, .int p1), (2, .long x2)]) hx hb dX9_laysHeard_151 hl (k := 4) rfl rfl (by decide) rfl (fun ls hl => ?_)
      refine lv_goto (tgt := 11) hx hb dX9_laysHeard_154 (by decide) ?_
      exact kk11 _ _ _ hv _ _ (hP.sub (ws' := [(qM, .inr (9, [.int (F 0), .ref q1, .ref q2, .ref q3, .int (F 4), .int (F 5), .int (F 6), .int (F 7), .int (F 8), .int (F 9), .long (J 10), .int (F 11), .int (F 12), .int (F 13), .ref q4, .int (F 15), .ref q5, .ref q6, .ref q7, .int (F 19), .ref q8, .int (F 21), .int (F 22), .int (F 23), .int (F 24), .ref q9, .ref q10, .ref q11, .long (J 28)])), (q1, .inl (g.2 0, 376, .inl al)), (q7, .inl (g.2 0, 200, .inl (upd he x4.toNatClampNeg (1 : Int32))))]) [0, 1, 2] rfl) (hD.sub (ws' := [(qM, .inr (9, [.int (F 0), .ref q1, .ref q2, .ref q3, .int (F 4), .int (F 5), .int (F 6), .int (F 7), .int (F 8), .int (F 9), .long (J 10), .int (F 11), .int (F 12), .int (F 13), .ref q4, .int (F 15), .ref q5, .ref q6, .ref q7, .int (F 19), .ref q8, .int (F 21), .int (F 22), .int (F 23), .int (F 24), .ref q9, .ref q10, .ref q11, .long (J 28)])), (q1, .inl (g.2 0, 376, .inl al)), (q7, .inl (g.2 0, 200, .inl (upd he x4.toNatClampNeg (1 : Int32))))]) [0, 1, 2] (by decide) rfl) hS ls (lv_sub hl [2, 3, 4, 0] rfl)
  · have hv := hvf hc
    refine lv_iconst (v := (2 : Int32)) hx hb dX9_laysHeard_136 (by decide) ?_
    refine lv_goto (tgt := 150) hx hb dX9_laysHeard_137 (by decide) ?_
    obtain ⟨ho_4, hv⟩ := hv
    refine va_iast hx hb hK hP hD hS 2 0 rfl rfl ho_4 dX9_laysHeard_150 (fun H locs hP hD hS => ?_)
    have hP : va_P g.1 vwCl [(qM, .inr (9, [.int (F 0), .ref q1, .ref q2, .ref q3, .int (F 4), .int (F 5), .int (F 6), .int (F 7), .int (F 8), .int (F 9), .long (J 10), .int (F 11), .int (F 12), .int (F 13), .ref q4, .int (F 15), .ref q5, .ref q6, .ref q7, .int (F 19), .ref q8, .int (F 21), .int (F 22), .int (F 23), .int (F 24), .ref q9, .ref q10, .ref q11, .long (J 28)])), (q1, .inl (g.2 0, 376, .inl al)), (q7, .inl (g.2 0, 200, .inl (upd he x4.toNatClampNeg (2 : Int32))))] H := hP
    have hD : va_D A [(qM, .inr (9, [.int (F 0), .ref q1, .ref q2, .ref q3, .int (F 4), .int (F 5), .int (F 6), .int (F 7), .int (F 8), .int (F 9), .long (J 10), .int (F 11), .int (F 12), .int (F 13), .ref q4, .int (F 15), .ref q5, .ref q6, .ref q7, .int (F 19), .ref q8, .int (F 21), .int (F 22), .int (F 23), .int (F 24), .ref q9, .ref q10, .ref q11, .long (J 28)])), (q1, .inl (g.2 0, 376, .inl al)), (q7, .inl (g.2 0, 200, .inl (upd he x4.toNatClampNeg (2 : Int32))))] := hD
    refine lv_iinc (v := (x4 + (1 : Int32))) (lv' := [(4, .int (x4 + (1 : Int32))), (5, .int s0), (0, .ref qM), (1, .int p1), (2, .long x2)]) hx hb dX9_laysHeard_151 hl (k := 4) rfl rfl (by decide) rfl (fun ls hl => ?_)
    refine lv_goto (tgt := 11) hx hb dX9_laysHeard_154 (by decide) ?_
    exact kk11 _ _ _ hv _ _ (hP.sub (ws' := [(qM, .inr (9, [.int (F 0), .ref q1, .ref q2, .ref q3, .int (F 4), .int (F 5), .int (F 6), .int (F 7), .int (F 8), .int (F 9), .long (J 10), .int (F 11), .int (F 12), .int (F 13), .ref q4, .int (F 15), .ref q5, .ref q6, .ref q7, .int (F 19), .ref q8, .int (F 21), .int (F 22), .int (F 23), .int (F 24), .ref q9, .ref q10, .ref q11, .long (J 28)])), (q1, .inl (g.2 0, 376, .inl al)), (q7, .inl (g.2 0, 200, .inl (upd he x4.toNatClampNeg (2 : Int32))))]) [0, 1, 2] rfl) (hD.sub (ws' := [(qM, .inr (9, [.int (F 0), .ref q1, .ref q2, .ref q3, .int (F 4), .int (F 5), .int (F 6), .int (F 7), .int (F 8), .int (F 9), .long (J 10), .int (F 11), .int (F 12), .int (F 13), .ref q4, .int (F 15), .ref q5, .ref q6, .ref q7, .int (F 19), .ref q8, .int (F 21), .int (F 22), .int (F 23), .int (F 24), .ref q9, .ref q10, .ref q11, .long (J 28)])), (q1, .inl (g.2 0, 376, .inl al)), (q7, .inl (g.2 0, 200, .inl (upd he x4.toNatClampNeg (2 : Int32))))]) [0, 1, 2] (by decide) rfl) hS ls (lv_sub hl [2, 3, 4, 0] rfl)
def vX9_laysHeard_c91 (F : Nat → Int32) (J : Nat → Int64) (al : Nat → Int32) (p1 : Int32) (Q : (Nat → Int32) → Prop) (K11 : Int64 → Int32 → (Nat → Int32) → Prop) (x2 : Int64) (x4 : Int32) (x5 : Int32) (s0 : Int32) (s1 : Int32) (he : Nat → Int32) : Prop := ((¬ ((s1 + s0) - (s1 + s0) / (2 : Int32) * (2 : Int32)) = (1 : Int32) → (vX9_laysHeard_c117 F J al p1 Q K11 x2 x4 x5 he)) ∧ (((s1 + s0) - (s1 + s0) / (2 : Int32) * (2 : Int32)) = (1 : Int32) → ((¬ x5 = 0 → (vX9_laysHeard_c117 F J al p1 Q K11 x2 x4 (0 : Int32) he)) ∧ (x5 = 0 → (vX9_laysHeard_c117 F J al p1 Q K11 x2 x4 (1 : Int32) he)))))
set_option maxHeartbeats 4000000 in
set_option maxRecDepth 100000 in
theorem kX9_laysHeard_c91 {p : Program} {l : Launch} {e : Env} {s : State} {m : MethodId} {args : Array Value} {below : List Frame} {meth : Method} {c : Code} {g : GP} {qM q1 q2 q3 q4 q5 q6 q7 q8 q9 q10 q11 : Nat} {F : Nat → Int32} {J : Nat → Int64} {al : Nat → Int32} {p1 : Int32} {Q : (Nat → Int32) → Prop} {A : Nat → Prop} {K11 : Int64 → Int32 → (Nat → Int32) → Prop} (S : CallFix p m c cX9_laysHeard 7 s args wsX9_laysHeard RX9) (hr : meth.sig.returnType = none) (hlocks : meth.locks = false) (hG : GK g s) (hA : ∀ q : Nat, s.heap.size ≤ q → A q) (kk11 : ∀ (x2 : Int64) (x4 : Int32) (he : Nat → Int32), K11 x2 x4 he → ∀ (H : Heap) (locs : List Loc), va_P g.1 vwCl [(qM, .inr (9, [.int (F 0), .ref q1, .ref q2, .ref q3, .int (F 4), .int (F 5), .int (F 6), .int (F 7), .int (F 8), .int (F 9), .long (J 10), .int (F 11), .int (F 12), .int (F 13), .ref q4, .int (F 15), .ref q5, .ref q6, .ref q7, .int (F 19), .ref q8, .int (F 21), .int (F 22), .int (F 23), .int (F 24), .ref q9, .ref q10, .ref q11, .long (J 28)])), (q1, .inl (g.2 0, 376, .inl al)), (q7, .inl (g.2 0, 200, .inl he))] H → va_D A [(qM, .inr (9, [.int (F 0), .ref q1, .ref q2, .ref q3, .int (F 4), .int (F 5), .int (F 6), .int (F 7), .int (F 8), .int (F 9), .long (J 10), .int (F 11), .int (F 12), .int (F 13), .ref q4, .int (F 15), .ref q5, .ref q6, .ref q7, .int (F 19), .ref q8, .int (F 21), .int (F 22), .int (F 23), .int (F 24), .ref q9, .ref q10, .ref q11, .long (J 28)])), (q1, .inl (g.2 0, 376, .inl al)), (q7, .inl (g.2 0, 200, .inl he))] → va_S A s.heap H locs → ∀ (ls : Array Slot), lv_has ls 7 [(0, .ref qM), (1, .int p1), (2, .long x2), (4, .int x4)] → W p l e (headSpec wsX9_laysHeard rmX9_laysHeard).room s m args below meth c H locs 0 0 (MQ below (va_Qv (fun (u : (Nat → Int32)) => Q u) (fun (u : (Nat → Int32)) t => va_P g.1 vwCl [(qM, .inr (9, [.int (F 0), .ref q1, .ref q2, .ref q3, .int (F 4), .int (F 5), .int (F 6), .int (F 7), .int (F 8), .int (F 9), .long (J 10), .int (F 11), .int (F 12), .int (F 13), .ref q4, .int (F 15), .ref q5, .ref q6, .ref q7, .int (F 19), .ref q8, .int (F 21), .int (F 22), .int (F 23), .int (F 24), .ref q9, .ref q10, .ref q11, .long (J 28)])), (q1, .inl (g.2 0, 376, .inl al)), (q7, .inl (g.2 0, 200, .inl u))] t.heap ∧ va_D A [(qM, .inr (9, [.int (F 0), .ref q1, .ref q2, .ref q3, .int (F 4), .int (F 5), .int (F 6), .int (F 7), .int (F 8), .int (F 9), .long (J 10), .int (F 11), .int (F 12), .int (F 13), .ref q4, .int (F 15), .ref q5, .ref q6, .ref q7, .int (F 19), .ref q8, .int (F 21), .int (F 22), .int (F 23), .int (F 24), .ref q9, .ref q10, .ref q11, .long (J 28)])), (q1, .inl (g.2 0, 376, .inl al)), (q7, .inl (g.2 0, 200, .inl u))]) A) args s 0 0 A) (F0 m 11 ls [])) : ∀ (x2 : Int64) (x4 : Int32) (x5 : Int32) (s0 : Int32) (s1 : Int32) (he : Nat → Int32), vX9_laysHeard_c91 F J al p1 Q K11 x2 x4 x5 s0 s1 he → ∀ (H : Heap) (locs : List Loc), va_P g.1 vwCl [(qM, .inr (9, [.int (F 0), .ref q1, .ref q2, .ref q3, .int (F 4), .int (F 5), .int (F 6), .int (F 7), .int (F 8), .int (F 9), .long (J 10), .int (F 11), .int (F 12), .int (F 13), .ref q4, .int (F 15), .ref q5, .ref q6, .ref q7, .int (F 19), .ref q8, .int (F 21), .int (F 22), .int (F 23), .int (F 24), .ref q9, .ref q10, .ref q11, .long (J 28)])), (q1, .inl (g.2 0, 376, .inl al)), (q7, .inl (g.2 0, 200, .inl he))] H → va_D A [(qM, .inr (9, [.int (F 0), .ref q1, .ref q2, .ref q3, .int (F 4), .int (F 5), .int (F 6), .int (F 7), .int (F 8), .int (F 9), .long (J 10), .int (F 11), .int (F 12), .int (F 13), .ref q4, .int (F 15), .ref q5, .ref q6, .ref q7, .int (F 19), .ref q8, .int (F 21), .int (F 22), .int (F 23), .int (F 24), .ref q9, .ref q10, .ref q11, .long (J 28)])), (q1, .inl (g.2 0, 376, .inl al)), (q7, .inl (g.2 0, 200, .inl he))] → va_S A s.heap H locs → ∀ (ls : Array Slot), lv_has ls 7 [(0, .ref qM), (1, .int p1), (2, .long x2), (4, .int x4), (5, .int x5)] → W p l e (headSpec wsX9_laysHeard rmX9_laysHeard).room s m args below meth c H locs 0 0 (MQ below (va_Qv (fun (u : (Nat → Int32)) => Q u) (fun (u : (Nat → Int32)) t => va_P g.1 vwCl [(qM, .inr (9, [.int (F 0), .ref q1, .ref q2, .ref q3, .int (F 4), .int (F 5), .int (F 6), .int (F 7), .int (F 8), .int (F 9), .long (J 10), .int (F 11), .int (F 12), .int (F 13), .ref q4, .int (F 15), .ref q5, .ref q6, .ref q7, .int (F 19), .ref q8, .int (F 21), .int (F 22), .int (F 23), .int (F 24), .ref q9, .ref q10, .ref q11, .long (J 28)])), (q1, .inl (g.2 0, 376, .inl al)), (q7, .inl (g.2 0, 200, .inl u))] t.heap ∧ va_D A [(qM, .inr (9, [.int (F 0), .ref q1, .ref q2, .ref q3, .int (F 4), .int (F 5), .int (F 6), .int (F 7), .int (F 8), .int (F 9), .long (J 10), .int (F 11), .int (F 12), .int (F 13), .ref q4, .int (F 15), .ref q5, .ref q6, .ref q7, .int (F 19), .ref q8, .int (F 21), .int (F 22), .int (F 23), .int (F 24), .ref q9, .ref q10, .ref q11, .long (J 28)])), (q1, .inl (g.2 0, 376, .inl al)), (q7, .inl (g.2 0, 200, .inl u))]) A) args s 0 0 A) (F0 m 91 ls [.int s0, .int s1]) := by
  obtain ⟨hx, hb, hml, hown, hts⟩ := id S
  have hK := hG.1
  intro x2 x4 x5 s0 s1 he hv H locs hP hD hS ls hl
  unfold vX9_laysHeard_c91 at hv
  refine lv_iadd hx hb dX9_laysHeard_91 ?_
  refine lv_istore (lv' := [(6, .int (s1 + s0)), (0, .ref qM), (1, .int p1), (2, .long x2), (4, .int x4), (5, .int x5)]) hx hb dX9_laysHeard_92 hl (by decide) rfl (fun ls hl => ?_)
  refine lv_iload hx hb dX9_laysHeard_94 (lv_at hl 0 rfl) ?_
  refine lv_iconst (v := (2 : Int32)) hx hb dX9_laysHeard_96 (by decide) ?_
  refine lv_irem hx hb dX9_laysHeard_97 (by decide) ?_
  refine lv_iconst (v := (1 : Int32)) hx hb dX9_laysHeard_98 (by decide) ?_
  obtain ⟨hvt, hvf⟩ := hv
  refine lv_icmp_ne (tgt := 115) hx hb dX9_laysHeard_99 (by decide) (fun hc => ?_) (fun hc => ?_)
  · have hv := hvt hc
    refine lv_iload hx hb dX9_laysHeard_115 (lv_at hl 5 rfl) ?_
    exact kX9_laysHeard_c117 S hr hlocks hG hA kk11 _ _ _ _ hv _ _ (hP.sub (ws' := [(qM, .inr (9, [.int (F 0), .ref q1, .ref q2, .ref q3, .int (F 4), .int (F 5), .int (F 6), .int (F 7), .int (F 8), .int (F 9), .long (J 10), .int (F 11), .int (F 12), .int (F 13), .ref q4, .int (F 15), .ref q5, .ref q6, .ref q7, .int (F 19), .ref q8, .int (F 21), .int (F 22), .int (F 23), .int (F 24), .ref q9, .ref q10, .ref q11, .long (J 28)])), (q1, .inl (g.2 0, 376, .inl al)), (q7, .inl (g.2 0, 200, .inl he))]) [0, 1, 2] rfl) (hD.sub (ws' := [(qM, .inr (9, [.int (F 0), .ref q1, .ref q2, .ref q3, .int (F 4), .int (F 5), .int (F 6), .int (F 7), .int (F 8), .int (F 9), .long (J 10), .int (F 11), .int (F 12), .int (F 13), .ref q4, .int (F 15), .ref q5, .ref q6, .ref q7, .int (F 19), .ref q8, .int (F 21), .int (F 22), .int (F 23), .int (F 24), .ref q9, .ref q10, .ref q11, .long (J 28)])), (q1, .inl (g.2 0, 376, .inl al)), (q7, .inl (g.2 0, 200, .inl he))]) [0, 1, 2] (by decide) rfl) hS ls (lv_sub hl [1, 2, 3, 4] rfl)
  · have hv := hvf hc
    refine lv_iload hx hb dX9_laysHeard_102 (lv_at hl 5 rfl) ?_
    obtain ⟨hvt, hvf⟩ := hv
    refine lv_if_ne (tgt := 111) hx hb dX9_laysHeard_104 (by decide) (fun hc => ?_) (fun hc => ?_)
    · have hv := hvt hc
      refine lv_iconst (v := (0 : Int32)) hx hb dX9_laysHeard_111 (by decide) ?_
      refine lv_goto (tgt := 117) hx hb dX9_laysHeard_112 (by decide) ?_
      exact kX9_laysHeard_c117 S hr hlocks hG hA kk11 _ _ _ _ hv _ _ (hP.sub (ws' := [(qM, .inr (9, [.int (F 0), .ref q1, .ref q2, .ref q3, .int (F 4), .int (F 5), .int (F 6), .int (F 7), .int (F 8), .int (F 9), .long (J 10), .int (F 11), .int (F 12), .int (F 13), .ref q4, .int (F 15), .ref q5, .ref q6, .ref q7, .int (F 19), .ref q8, .int (F 21), .int (F 22), .int (F 23), .int (F 24), .ref q9, .ref q10, .ref q11, .long (J 28)])), (q1, .inl (g.2 0, 376, .inl al)), (q7, .inl (g.2 0, 200, .inl he))]) [0, 1, 2] rfl) (hD.sub (ws' := [(qM, .inr (9, [.int (F 0), .ref q1, .ref q2, .ref q3, .int (F 4), .int (F 5), .int (F 6), .int (F 7), .int (F 8), .int (F 9), .long (J 10), .int (F 11), .int (F 12), .int (F 13), .ref q4, .int (F 15), .ref q5, .ref q6, .ref q7, .int (F 19), .ref q8, .int (F 21), .int (F 22), .int (F 23), .int (F 24), .ref q9, .ref q10, .ref q11, .long (J 28)])), (q1, .inl (g.2 0, 376, .inl al)), (q7, .inl (g.2 0, 200, .inl he))]) [0, 1, 2] (by decide) rfl) hS ls (lv_sub hl [1, 2, 3, 4] rfl)
    · have hv := hvf hc
      refine lv_iconst (v := (1 : Int32)) hx hb dX9_laysHeard_107 (by decide) ?_
      refine lv_goto (tgt := 117) hx hb dX9_laysHeard_108 (by decide) ?_
      exact kX9_laysHeard_c117 S hr hlocks hG hA kk11 _ _ _ _ hv _ _ (hP.sub (ws' := [(qM, .inr (9, [.int (F 0), .ref q1, .ref q2, .ref q3, .int (F 4), .int (F 5), .int (F 6), .int (F 7), .int (F 8), .int (F 9), .long (J 10), .int (F 11), .int (F 12), .int (F 13), .ref q4, .int (F 15), .ref q5, .ref q6, .ref q7, .int (F 19), .ref q8, .int (F 21), .int (F 22), .int (F 23), .int (F 24), .ref q9, .ref q10, .ref q11, .long (J 28)])), (q1, .inl (g.2 0, 376, .inl al)), (q7, .inl (g.2 0, 200, .inl he))]) [0, 1, 2] rfl) (hD.sub (ws' := [(qM, .inr (9, [.int (F 0), .ref q1, .ref q2, .ref q3, .int (F 4), .int (F 5), .int (F 6), .int (F 7), .int (F 8), .int (F 9), .long (J 10), .int (F 11), .int (F 12), .int (F 13), .ref q4, .int (F 15), .ref q5, .ref q6, .ref q7, .int (F 19), .ref q8, .int (F 21), .int (F 22), .int (F 23), .int (F 24), .ref q9, .ref q10, .ref q11, .long (J 28)])), (q1, .inl (g.2 0, 376, .inl al)), (q7, .inl (g.2 0, 200, .inl he))]) [0, 1, 2] (by decide) rfl) hS ls (lv_sub hl [1, 2, 3, 4] rfl)
def vX9_laysHeard_c11 (F : Nat → Int32) (J : Nat → Int64) (al : Nat → Int32) (p1 : Int32) (Q : (Nat → Int32) → Prop) : Nat → Int64 → Int32 → (Nat → Int32) → Prop
  | 0, _, _, _ => False
  | n + 1, x2, x4, he => (∃ (p_16 : Nat) (w_16 : Nat), preX9_ofLeg p_16 w_16 F J al p1 (3 : Int32) ∧ (∀ r_16 : Int32, postX9_ofLeg p_16 w_16 F J al p1 (3 : Int32) r_16 → ((r_16 ≤ x4 → (Q he)) ∧ (¬ r_16 ≤ x4 → (∀ y_35 : Int64, y_35 = (((x2 * (1103515245 : Int64)) + (12345 : Int64)) - ((x2 * (1103515245 : Int64)) + (12345 : Int64)) / (2147483648 : Int64) * (2147483648 : Int64)) → (∃ (p_41 : Nat) (w_41 : Nat), preX9_ofLeg p_41 w_41 F J al p1 (2 : Int32) ∧ (∀ r_41 : Int32, postX9_ofLeg p_41 w_41 F J al p1 (2 : Int32) r_41 → (∃ (G_51 : Lg) (lg_51 : Nat) (i_51 : Nat), preX9_behindAt G_51 lg_51 i_51 F J al p1 x4 ∧ (∀ r_51 : Int32, postX9_behindAt G_51 lg_51 i_51 F J al p1 x4 r_51 → (∃ (T_55 : Cd) (lt_55 : Option Nat), preX9_sentAt T_55 lt_55 F J al p1 ((r_41 + x4) - r_51) ∧ (∀ r_55 : Int32, postX9_sentAt T_55 lt_55 F J al p1 ((r_41 + x4) - r_51) r_55 → (∃ (G_65 : Lg) (lg_65 : Nat) (i_65 : Nat) (k_65 : Nat), preX9_marksAt G_65 lg_65 i_65 k_65 F J al p1 x4 (0 : Int32) ∧ (∀ r_65 : Int32, postX9_marksAt G_65 lg_65 i_65 k_65 F J al p1 x4 (0 : Int32) r_65 → (∃ (p_80 : Nat) (w_80 : Nat), preX9_ofLeg p_80 w_80 F J al p1 (4 : Int32) ∧ (∀ r_80 : Int32, postX9_ofLeg p_80 w_80 F J al p1 (4 : Int32) r_80 → ((r_80 ≤ (((y_35 / (65536 : Int64)).toInt32) - ((y_35 / (65536 : Int64)).toInt32) / (100 : Int32) * (100 : Int32)) → (vX9_laysHeard_c91 F J al p1 Q (vX9_laysHeard_c11 F J al p1 Q n) y_35 x4 r_55 (0 : Int32) r_65 he)) ∧ (¬ r_80 ≤ (((y_35 / (65536 : Int64)).toInt32) - ((y_35 / (65536 : Int64)).toInt32) / (100 : Int32) * (100 : Int32)) → (vX9_laysHeard_c91 F J al p1 Q (vX9_laysHeard_c11 F J al p1 Q n) y_35 x4 r_55 (1 : Int32) r_65 he))))))))))))))))))
set_option maxHeartbeats 4000000 in
set_option maxRecDepth 100000 in
theorem kX9_laysHeard_c11 {p : Program} {l : Launch} {e : Env} {s : State} {m : MethodId} {args : Array Value} {below : List Frame} {meth : Method} {c : Code} {g : GP} {qM q1 q2 q3 q4 q5 q6 q7 q8 q9 q10 q11 : Nat} {F : Nat → Int32} {J : Nat → Int64} {al : Nat → Int32} {p1 : Int32} {Q : (Nat → Int32) → Prop} {A : Nat → Prop} (S : CallFix p m c cX9_laysHeard 7 s args wsX9_laysHeard RX9) (hr : meth.sig.returnType = none) (hlocks : meth.locks = false) (hG : GK g s) (hA : ∀ q : Nat, s.heap.size ≤ q → A q) : ∀ (n : Nat), ∀ (x2 : Int64) (x4 : Int32) (he : Nat → Int32), vX9_laysHeard_c11 F J al p1 Q n x2 x4 he → ∀ (H : Heap) (locs : List Loc), va_P g.1 vwCl [(qM, .inr (9, [.int (F 0), .ref q1, .ref q2, .ref q3, .int (F 4), .int (F 5), .int (F 6), .int (F 7), .int (F 8), .int (F 9), .long (J 10), .int (F 11), .int (F 12), .int (F 13), .ref q4, .int (F 15), .ref q5, .ref q6, .ref q7, .int (F 19), .ref q8, .int (F 21), .int (F 22), .int (F 23), .int (F 24), .ref q9, .ref q10, .ref q11, .long (J 28)])), (q1, .inl (g.2 0, 376, .inl al)), (q7, .inl (g.2 0, 200, .inl he))] H → va_D A [(qM, .inr (9, [.int (F 0), .ref q1, .ref q2, .ref q3, .int (F 4), .int (F 5), .int (F 6), .int (F 7), .int (F 8), .int (F 9), .long (J 10), .int (F 11), .int (F 12), .int (F 13), .ref q4, .int (F 15), .ref q5, .ref q6, .ref q7, .int (F 19), .ref q8, .int (F 21), .int (F 22), .int (F 23), .int (F 24), .ref q9, .ref q10, .ref q11, .long (J 28)])), (q1, .inl (g.2 0, 376, .inl al)), (q7, .inl (g.2 0, 200, .inl he))] → va_S A s.heap H locs → ∀ (ls : Array Slot), lv_has ls 7 [(0, .ref qM), (1, .int p1), (2, .long x2), (4, .int x4)] → W p l e (headSpec wsX9_laysHeard rmX9_laysHeard).room s m args below meth c H locs 0 0 (MQ below (va_Qv (fun (u : (Nat → Int32)) => Q u) (fun (u : (Nat → Int32)) t => va_P g.1 vwCl [(qM, .inr (9, [.int (F 0), .ref q1, .ref q2, .ref q3, .int (F 4), .int (F 5), .int (F 6), .int (F 7), .int (F 8), .int (F 9), .long (J 10), .int (F 11), .int (F 12), .int (F 13), .ref q4, .int (F 15), .ref q5, .ref q6, .ref q7, .int (F 19), .ref q8, .int (F 21), .int (F 22), .int (F 23), .int (F 24), .ref q9, .ref q10, .ref q11, .long (J 28)])), (q1, .inl (g.2 0, 376, .inl al)), (q7, .inl (g.2 0, 200, .inl u))] t.heap ∧ va_D A [(qM, .inr (9, [.int (F 0), .ref q1, .ref q2, .ref q3, .int (F 4), .int (F 5), .int (F 6), .int (F 7), .int (F 8), .int (F 9), .long (J 10), .int (F 11), .int (F 12), .int (F 13), .ref q4, .int (F 15), .ref q5, .ref q6, .ref q7, .int (F 19), .ref q8, .int (F 21), .int (F 22), .int (F 23), .int (F 24), .ref q9, .ref q10, .ref q11, .long (J 28)])), (q1, .inl (g.2 0, 376, .inl al)), (q7, .inl (g.2 0, 200, .inl u))]) A) args s 0 0 A) (F0 m 11 ls []) := by
  obtain ⟨hx, hb, hml, hown, hts⟩ := id S
  have hK := hG.1
  intro n
  induction n with
  | zero => intro x2 x4 he hv; exact hv.elim
  | succ n ih =>
    intro x2 x4 he hv H locs hP hD hS ls hl
    refine lv_iload hx hb dX9_laysHeard_11 (lv_at hl 3 rfl) ?_
    refine lv_aload_n hx hb dX9_laysHeard_13 rfl (lv_at hl 0 rfl) ?_
    refine lv_iload_n hx hb dX9_laysHeard_14 rfl (lv_at hl 1 rfl) ?_
    refine lv_iconst (v := (3 : Int32)) hx hb dX9_laysHeard_15 (by decide) ?_
    obtain ⟨p_16, w_16, ho_1, hv⟩ := hv
    refine vp_callSi (W.runV (As := [.int p1, .int (3 : Int32)]) (rest := [.int x4]) S (wX9_ofLeg l g qM q1 q2 q3 q4 q5 q6 q7 q8 q9 q10 q11 F J al p1 (3 : Int32) (sX9_ofLeg p_16 w_16 F J al p1 (3 : Int32) ho_1)) (cwV 2 hts gX9_laysHeard_X9_ofLeg rfl rfl rfl (by decide +kernel) ⟨Nat.le_of_ble_eq_true rfl, Nat.le_of_ble_eq_true rfl⟩) ⟨blindRO, va_recv hK hP (ci := 9) (q0 := 0) rfl rfl, fun U hU hW => ⟨rfl, by rw [hU]; exact hP.sub (ws' := [(qM, .inr (9, [.int (F 0), .ref q1, .ref q2, .ref q3, .int (F 4), .int (F 5), .int (F 6), .int (F 7), .int (F 8), .int (F 9), .long (J 10), .int (F 11), .int (F 12), .int (F 13), .ref q4, .int (F 15), .ref q5, .ref q6, .ref q7, .int (F 19), .ref q8, .int (F 21), .int (F 22), .int (F 23), .int (F 24), .ref q9, .ref q10, .ref q11, .long (J 28)])), (q1, .inl (g.2 0, 376, .inl al))]) [0, 1] rfl, hG.warm hW⟩⟩ rfl rfl hl.1 rfl (lv_room (Nat.le_of_ble_eq_true rfl)) dX9_laysHeard_16 ⟨Nat.le_of_ble_eq_true rfl, Nat.le_of_ble_eq_true rfl⟩) (fun r_16 hr_16 => ?_)
    have hv := hv r_16 hr_16
    obtain ⟨hvt, hvf⟩ := hv
    refine lv_icmp_ge (tgt := 157) hx hb dX9_laysHeard_19 (by decide) (fun hc => ?_) (fun hc => ?_)
    · have hv := hvt hc
      have hP9 := hP.sub (ws' := [(qM, .inr (9, [.int (F 0), .ref q1, .ref q2, .ref q3, .int (F 4), .int (F 5), .int (F 6), .int (F 7), .int (F 8), .int (F 9), .long (J 10), .int (F 11), .int (F 12), .int (F 13), .ref q4, .int (F 15), .ref q5, .ref q6, .ref q7, .int (F 19), .ref q8, .int (F 21), .int (F 22), .int (F 23), .int (F 24), .ref q9, .ref q10, .ref q11, .long (J 28)])), (q1, .inl (g.2 0, 376, .inl al)), (q7, .inl (g.2 0, 200, .inl he))]) [0, 1, 2] rfl
      have hD9 := hD.sub (ws' := [(qM, .inr (9, [.int (F 0), .ref q1, .ref q2, .ref q3, .int (F 4), .int (F 5), .int (F 6), .int (F 7), .int (F 8), .int (F 9), .long (J 10), .int (F 11), .int (F 12), .int (F 13), .ref q4, .int (F 15), .ref q5, .ref q6, .ref q7, .int (F 19), .ref q8, .int (F 21), .int (F 22), .int (F 23), .int (F 24), .ref q9, .ref q10, .ref q11, .long (J 28)])), (q1, .inl (g.2 0, 376, .inl al)), (q7, .inl (g.2 0, 200, .inl he))]) [0, 1, 2] (by decide) rfl
      exact W.vret hx hb hr (fun t ht hW => ⟨⟨(he), rfl, hv, by rw [ht]; exact hP9, hD9⟩, hS.F ht⟩) hS.2.2 dX9_laysHeard_157
    · have hv := hvf hc
      refine lv_lload_n hx hb dX9_laysHeard_22 rfl (lv_at hl 2 rfl) ?_
      refine lv_ldc2 (v := (1103515245 : Int64)) hx hb hown (hts (.constantLong RX9 238 (1103515245)) (List.mem_of_getElem? (i := 1) rfl)) dX9_laysHeard_23 ?_
      refine lv_lmul hx hb dX9_laysHeard_26 ?_
      refine lv_ldc2 (v := (12345 : Int64)) hx hb hown (hts (.constantLong RX9 240 (12345)) (List.mem_of_getElem? (i := 2) rfl)) dX9_laysHeard_27 ?_
      refine lv_ladd hx hb dX9_laysHeard_30 ?_
      refine lv_ldc2 (v := (2147483648 : Int64)) hx hb hown (hts (.constantLong RX9 242 (2147483648)) (List.mem_of_getElem? (i := 3) rfl)) dX9_laysHeard_31 ?_
      refine lv_lrem hx hb dX9_laysHeard_34 (by decide) ?_
      refine lv_topl (fun y_35 ey_35 => ?_)
      have hv := hv y_35 ey_35
      refine lv_lstore_n (lv' := [(2, .long y_35), (0, .ref qM), (1, .int p1), (4, .int x4)]) hx hb dX9_laysHeard_35 rfl hl (by decide) rfl (fun ls hl => ?_)
      refine lv_aload_n hx hb dX9_laysHeard_36 rfl (lv_at hl 1 rfl) ?_
      refine lv_iload_n hx hb dX9_laysHeard_37 rfl (lv_at hl 2 rfl) ?_
      refine lv_aload_n hx hb dX9_laysHeard_38 rfl (lv_at hl 1 rfl) ?_
      refine lv_iload_n hx hb dX9_laysHeard_39 rfl (lv_at hl 2 rfl) ?_
      refine lv_iconst (v := (2 : Int32)) hx hb dX9_laysHeard_40 (by decide) ?_
      obtain ⟨p_41, w_41, ho_2, hv⟩ := hv
      refine vp_callSi (W.runV (As := [.int p1, .int (2 : Int32)]) (rest := [.int p1, .ref qM]) S (wX9_ofLeg l g qM q1 q2 q3 q4 q5 q6 q7 q8 q9 q10 q11 F J al p1 (2 : Int32) (sX9_ofLeg p_41 w_41 F J al p1 (2 : Int32) ho_2)) (cwV 2 hts gX9_laysHeard_X9_ofLeg rfl rfl rfl (by decide +kernel) ⟨Nat.le_of_ble_eq_true rfl, Nat.le_of_ble_eq_true rfl⟩) ⟨blindRO, va_recv hK hP (ci := 9) (q0 := 0) rfl rfl, fun U hU hW => ⟨rfl, by rw [hU]; exact hP.sub (ws' := [(qM, .inr (9, [.int (F 0), .ref q1, .ref q2, .ref q3, .int (F 4), .int (F 5), .int (F 6), .int (F 7), .int (F 8), .int (F 9), .long (J 10), .int (F 11), .int (F 12), .int (F 13), .ref q4, .int (F 15), .ref q5, .ref q6, .ref q7, .int (F 19), .ref q8, .int (F 21), .int (F 22), .int (F 23), .int (F 24), .ref q9, .ref q10, .ref q11, .long (J 28)])), (q1, .inl (g.2 0, 376, .inl al))]) [0, 1] rfl, hG.warm hW⟩⟩ rfl rfl hl.1 rfl (lv_room (Nat.le_of_ble_eq_true rfl)) dX9_laysHeard_41 ⟨Nat.le_of_ble_eq_true rfl, Nat.le_of_ble_eq_true rfl⟩) (fun r_41 hr_41 => ?_)
      have hv := hv r_41 hr_41
      refine lv_iload hx hb dX9_laysHeard_44 (lv_at hl 3 rfl) ?_
      refine lv_iadd hx hb dX9_laysHeard_46 ?_
      refine lv_aload_n hx hb dX9_laysHeard_47 rfl (lv_at hl 1 rfl) ?_
      refine lv_iload_n hx hb dX9_laysHeard_48 rfl (lv_at hl 2 rfl) ?_
      refine lv_iload hx hb dX9_laysHeard_49 (lv_at hl 3 rfl) ?_
      obtain ⟨G_51, lg_51, i_51, ho_3, hv⟩ := hv
      refine vp_callSi (W.runV (As := [.int p1, .int x4]) (rest := [.int (r_41 + x4), .int p1, .ref qM]) S (wX9_behindAt l g qM q1 q2 q3 q4 q5 q6 q7 q8 q9 q10 q11 F J al p1 x4 (sX9_behindAt G_51 lg_51 i_51 F J al p1 x4 ho_3)) (cwV 2 hts gX9_laysHeard_X9_behindAt rfl rfl rfl (by decide +kernel) ⟨Nat.le_of_ble_eq_true rfl, Nat.le_of_ble_eq_true rfl⟩) ⟨blindRO, va_recv hK hP (ci := 9) (q0 := 0) rfl rfl, fun U hU hW => ⟨rfl, by rw [hU]; exact hP.sub (ws' := [(qM, .inr (9, [.int (F 0), .ref q1, .ref q2, .ref q3, .int (F 4), .int (F 5), .int (F 6), .int (F 7), .int (F 8), .int (F 9), .long (J 10), .int (F 11), .int (F 12), .int (F 13), .ref q4, .int (F 15), .ref q5, .ref q6, .ref q7, .int (F 19), .ref q8, .int (F 21), .int (F 22), .int (F 23), .int (F 24), .ref q9, .ref q10, .ref q11, .long (J 28)])), (q1, .inl (g.2 0, 376, .inl al))]) [0, 1] rfl, hG.warm hW⟩⟩ rfl rfl hl.1 rfl (lv_room (Nat.le_of_ble_eq_true rfl)) dX9_laysHeard_51 ⟨Nat.le_of_ble_eq_true rfl, Nat.le_of_ble_eq_true rfl⟩) (fun r_51 hr_51 => ?_)
      have hv := hv r_51 hr_51
      refine lv_isub hx hb dX9_laysHeard_54 ?_
      obtain ⟨T_55, lt_55, ho_4, hv⟩ := hv
      refine vp_callSi (W.runV (As := [.int p1, .int ((r_41 + x4) - r_51)]) (rest := []) S (wX9_sentAt l g qM q1 q2 q3 q4 q5 q6 q7 q8 q9 q10 q11 F J al p1 ((r_41 + x4) - r_51) (sX9_sentAt T_55 lt_55 F J al p1 ((r_41 + x4) - r_51) ho_4)) (cwV 2 hts gX9_laysHeard_X9_sentAt rfl rfl rfl (by decide +kernel) ⟨Nat.le_of_ble_eq_true rfl, Nat.le_of_ble_eq_true rfl⟩) ⟨blindRO, va_recv hK hP (ci := 9) (q0 := 0) rfl rfl, fun U hU hW => ⟨rfl, by rw [hU]; exact hP.sub (ws' := [(qM, .inr (9, [.int (F 0), .ref q1, .ref q2, .ref q3, .int (F 4), .int (F 5), .int (F 6), .int (F 7), .int (F 8), .int (F 9), .long (J 10), .int (F 11), .int (F 12), .int (F 13), .ref q4, .int (F 15), .ref q5, .ref q6, .ref q7, .int (F 19), .ref q8, .int (F 21), .int (F 22), .int (F 23), .int (F 24), .ref q9, .ref q10, .ref q11, .long (J 28)])), (q1, .inl (g.2 0, 376, .inl al))]) [0, 1] rfl, hG.warm hW⟩⟩ rfl rfl hl.1 rfl (lv_room (Nat.le_of_ble_eq_true rfl)) dX9_laysHeard_55 ⟨Nat.le_of_ble_eq_true rfl, Nat.le_of_ble_eq_true rfl⟩) (fun r_55 hr_55 => ?_)
      have hv := hv r_55 hr_55
      refine lv_istore (lv' := [(5, .int r_55), (2, .long y_35), (0, .ref qM), (1, .int p1), (4, .int x4)]) hx hb dX9_laysHeard_58 hl (by decide) rfl (fun ls hl => ?_)
      refine lv_aload_n hx hb dX9_laysHeard_60 rfl (lv_at hl 2 rfl) ?_
      refine lv_iload_n hx hb dX9_laysHeard_61 rfl (lv_at hl 3 rfl) ?_
      refine lv_iload hx hb dX9_laysHeard_62 (lv_at hl 4 rfl) ?_
      refine lv_iconst (v := (0 : Int32)) hx hb dX9_laysHeard_64 (by decide) ?_
      obtain ⟨G_65, lg_65, i_65, k_65, ho_5, hv⟩ := hv
      refine vp_callSi (W.runV (As := [.int p1, .int x4, .int (0 : Int32)]) (rest := []) S (wX9_marksAt l g qM q1 q2 q3 q4 q5 q6 q7 q8 q9 q10 q11 F J al p1 x4 (0 : Int32) (sX9_marksAt G_65 lg_65 i_65 k_65 F J al p1 x4 (0 : Int32) ho_5)) (cwV 3 hts gX9_laysHeard_X9_marksAt rfl rfl rfl (by decide +kernel) ⟨Nat.le_of_ble_eq_true rfl, Nat.le_of_ble_eq_true rfl⟩) ⟨blindRO, va_recv hK hP (ci := 9) (q0 := 0) rfl rfl, fun U hU hW => ⟨rfl, by rw [hU]; exact hP.sub (ws' := [(qM, .inr (9, [.int (F 0), .ref q1, .ref q2, .ref q3, .int (F 4), .int (F 5), .int (F 6), .int (F 7), .int (F 8), .int (F 9), .long (J 10), .int (F 11), .int (F 12), .int (F 13), .ref q4, .int (F 15), .ref q5, .ref q6, .ref q7, .int (F 19), .ref q8, .int (F 21), .int (F 22), .int (F 23), .int (F 24), .ref q9, .ref q10, .ref q11, .long (J 28)])), (q1, .inl (g.2 0, 376, .inl al))]) [0, 1] rfl, hG.warm hW⟩⟩ rfl rfl hl.1 rfl (lv_room (Nat.le_of_ble_eq_true rfl)) dX9_laysHeard_65 ⟨Nat.le_of_ble_eq_true rfl, Nat.le_of_ble_eq_true rfl⟩) (fun r_65 hr_65 => ?_)
      have hv := hv r_65 hr_65
      refine lv_lload_n hx hb dX9_laysHeard_68 rfl (lv_at hl 1 rfl) ?_
      refine lv_ldc2 (v := (65536 : Int64)) hx hb hown (hts (.constantLong RX9 254 (65536)) (List.mem_of_getElem? (i := 4) rfl)) dX9_laysHeard_69 ?_
      refine lv_ldiv hx hb dX9_laysHeard_72 (by decide) ?_
      refine lv_l2i (v := ((y_35 / (65536 : Int64)).toInt32)) hx hb dX9_laysHeard_73 rfl ?_
      refine lv_bipush (v := (100 : Int32)) hx hb dX9_laysHeard_74 (by decide) ?_
      refine lv_irem hx hb dX9_laysHeard_76 (by decide) ?_
      refine lv_aload_n hx hb dX9_laysHeard_77 rfl (lv_at hl 2 rfl) ?_
      refine lv_iload_n hx hb dX9_laysHeard_78 rfl (lv_at hl 3 rfl) ?_
      refine lv_iconst (v := (4 : Int32)) hx hb dX9_laysHeard_79 (by decide) ?_
      obtain ⟨p_80, w_80, ho_6, hv⟩ := hv
      refine vp_callSi (W.runV (As := [.int p1, .int (4 : Int32)]) (rest := [.int (((y_35 / (65536 : Int64)).toInt32) - ((y_35 / (65536 : Int64)).toInt32) / (100 : Int32) * (100 : Int32)), .int r_65]) S (wX9_ofLeg l g qM q1 q2 q3 q4 q5 q6 q7 q8 q9 q10 q11 F J al p1 (4 : Int32) (sX9_ofLeg p_80 w_80 F J al p1 (4 : Int32) ho_6)) (cwV 2 hts gX9_laysHeard_X9_ofLeg rfl rfl rfl (by decide +kernel) ⟨Nat.le_of_ble_eq_true rfl, Nat.le_of_ble_eq_true rfl⟩) ⟨blindRO, va_recv hK hP (ci := 9) (q0 := 0) rfl rfl, fun U hU hW => ⟨rfl, by rw [hU]; exact hP.sub (ws' := [(qM, .inr (9, [.int (F 0), .ref q1, .ref q2, .ref q3, .int (F 4), .int (F 5), .int (F 6), .int (F 7), .int (F 8), .int (F 9), .long (J 10), .int (F 11), .int (F 12), .int (F 13), .ref q4, .int (F 15), .ref q5, .ref q6, .ref q7, .int (F 19), .ref q8, .int (F 21), .int (F 22), .int (F 23), .int (F 24), .ref q9, .ref q10, .ref q11, .long (J 28)])), (q1, .inl (g.2 0, 376, .inl al))]) [0, 1] rfl, hG.warm hW⟩⟩ rfl rfl hl.1 rfl (lv_room (Nat.le_of_ble_eq_true rfl)) dX9_laysHeard_80 ⟨Nat.le_of_ble_eq_true rfl, Nat.le_of_ble_eq_true rfl⟩) (fun r_80 hr_80 => ?_)
      have hv := hv r_80 hr_80
      obtain ⟨hvt, hvf⟩ := hv
      refine lv_icmp_ge (tgt := 90) hx hb dX9_laysHeard_83 (by decide) (fun hc => ?_) (fun hc => ?_)
      · have hv := hvt hc
        refine lv_iconst (v := (0 : Int32)) hx hb dX9_laysHeard_90 (by decide) ?_
        exact kX9_laysHeard_c91 S hr hlocks hG hA ih _ _ _ _ _ _ hv _ _ (hP.sub (ws' := [(qM, .inr (9, [.int (F 0), .ref q1, .ref q2, .ref q3, .int (F 4), .int (F 5), .int (F 6), .int (F 7), .int (F 8), .int (F 9), .long (J 10), .int (F 11), .int (F 12), .int (F 13), .ref q4, .int (F 15), .ref q5, .ref q6, .ref q7, .int (F 19), .ref q8, .int (F 21), .int (F 22), .int (F 23), .int (F 24), .ref q9, .ref q10, .ref q11, .long (J 28)])), (q1, .inl (g.2 0, 376, .inl al)), (q7, .inl (g.2 0, 200, .inl he))]) [0, 1, 2] rfl) (hD.sub (ws' := [(qM, .inr (9, [.int (F 0), .ref q1, .ref q2, .ref q3, .int (F 4), .int (F 5), .int (F 6), .int (F 7), .int (F 8), .int (F 9), .long (J 10), .int (F 11), .int (F 12), .int (F 13), .ref q4, .int (F 15), .ref q5, .ref q6, .ref q7, .int (F 19), .ref q8, .int (F 21), .int (F 22), .int (F 23), .int (F 24), .ref q9, .ref q10, .ref q11, .long (J 28)])), (q1, .inl (g.2 0, 376, .inl al)), (q7, .inl (g.2 0, 200, .inl he))]) [0, 1, 2] (by decide) rfl) hS ls (lv_sub hl [2, 3, 1, 4, 0] rfl)
      · have hv := hvf hc
        refine lv_iconst (v := (1 : Int32)) hx hb dX9_laysHeard_86 (by decide) ?_
        refine lv_goto (tgt := 91) hx hb dX9_laysHeard_87 (by decide) ?_
        exact kX9_laysHeard_c91 S hr hlocks hG hA ih _ _ _ _ _ _ hv _ _ (hP.sub (ws' := [(qM, .inr (9, [.int (F 0), .ref q1, .ref q2, .ref q3, .int (F 4), .int (F 5), .int (F 6), .int (F 7), .int (F 8), .int (F 9), .long (J 10), .int (F 11), .int (F 12), .int (F 13), .ref q4, .int (F 15), .ref q5, .ref q6, .ref q7, .int (F 19), .ref q8, .int (F 21), .int (F 22), .int (F 23), .int (F 24), .ref q9, .ref q10, .ref q11, .long (J 28)])), (q1, .inl (g.2 0, 376, .inl al)), (q7, .inl (g.2 0, 200, .inl he))]) [0, 1, 2] rfl) (hD.sub (ws' := [(qM, .inr (9, [.int (F 0), .ref q1, .ref q2, .ref q3, .int (F 4), .int (F 5), .int (F 6), .int (F 7), .int (F 8), .int (F 9), .long (J 10), .int (F 11), .int (F 12), .int (F 13), .ref q4, .int (F 15), .ref q5, .ref q6, .ref q7, .int (F 19), .ref q8, .int (F 21), .int (F 22), .int (F 23), .int (F 24), .ref q9, .ref q10, .ref q11, .long (J 28)])), (q1, .inl (g.2 0, 376, .inl al)), (q7, .inl (g.2 0, 200, .inl he))]) [0, 1, 2] (by decide) rfl) hS ls (lv_sub hl [2, 3, 1, 4, 0] rfl)
def vX9_laysHeard (F : Nat → Int32) (J : Nat → Int64) (al : Nat → Int32) (he : Nat → Int32) (p1 : Int32) (Q : (Nat → Int32) → Prop) : Prop := (∃ (p_3 : Nat) (w_3 : Nat), preX9_ofLeg p_3 w_3 F J al p1 (5 : Int32) ∧ (∀ r_3 : Int32, postX9_ofLeg p_3 w_3 F J al p1 (5 : Int32) r_3 → (∃ nn, vX9_laysHeard_c11 F J al p1 Q nn (r_3.toInt64) (0 : Int32) he)))
set_option maxHeartbeats 4000000 in
set_option maxRecDepth 100000 in
theorem wX9_laysHeard (l : Launch) (g : GP) (qM : Nat) (q1 : Nat) (q2 : Nat) (q3 : Nat) (q4 : Nat) (q5 : Nat) (q6 : Nat) (q7 : Nat) (q8 : Nat) (q9 : Nat) (q10 : Nat) (q11 : Nat) (sz : Nat) (F : Nat → Int32) (J : Nat → Int64) (al : Nat → Int32) (he : Nat → Int32) (p1 : Int32) {Q : (Nat → Int32) → Prop} (hv : vX9_laysHeard F J al he p1 Q) : Met l yX9_laysHeard wsX9_laysHeard rmX9_laysHeard (va_Pc [.ref qM, .int p1] (fun U => U.heap.size = sz ∧ va_P g.1 vwCl [(qM, .inr (9, [.int (F 0), .ref q1, .ref q2, .ref q3, .int (F 4), .int (F 5), .int (F 6), .int (F 7), .int (F 8), .int (F 9), .long (J 10), .int (F 11), .int (F 12), .int (F 13), .ref q4, .int (F 15), .ref q5, .ref q6, .ref q7, .int (F 19), .ref q8, .int (F 21), .int (F 22), .int (F 23), .int (F 24), .ref q9, .ref q10, .ref q11, .long (J 28)])), (q1, .inl (g.2 0, 376, .inl al)), (q7, .inl (g.2 0, 200, .inl he))] U.heap ∧ GK g U ∧ va_D (fun _ => True) [(qM, .inr (9, [.int (F 0), .ref q1, .ref q2, .ref q3, .int (F 4), .int (F 5), .int (F 6), .int (F 7), .int (F 8), .int (F 9), .long (J 10), .int (F 11), .int (F 12), .int (F 13), .ref q4, .int (F 15), .ref q5, .ref q6, .ref q7, .int (F 19), .ref q8, .int (F 21), .int (F 22), .int (F 23), .int (F 24), .ref q9, .ref q10, .ref q11, .long (J 28)])), (q1, .inl (g.2 0, 376, .inl al)), (q7, .inl (g.2 0, 200, .inl he))])) (va_Qv (fun (u : (Nat → Int32)) => Q u) (fun (u : (Nat → Int32)) t => va_P g.1 vwCl [(qM, .inr (9, [.int (F 0), .ref q1, .ref q2, .ref q3, .int (F 4), .int (F 5), .int (F 6), .int (F 7), .int (F 8), .int (F 9), .long (J 10), .int (F 11), .int (F 12), .int (F 13), .ref q4, .int (F 15), .ref q5, .ref q6, .ref q7, .int (F 19), .ref q8, .int (F 21), .int (F 22), .int (F 23), .int (F 24), .ref q9, .ref q10, .ref q11, .long (J 28)])), (q1, .inl (g.2 0, 376, .inl al)), (q7, .inl (g.2 0, 200, .inl u))] t.heap ∧ va_D (va_A [(qM, .inr (9, [.int (F 0), .ref q1, .ref q2, .ref q3, .int (F 4), .int (F 5), .int (F 6), .int (F 7), .int (F 8), .int (F 9), .long (J 10), .int (F 11), .int (F 12), .int (F 13), .ref q4, .int (F 15), .ref q5, .ref q6, .ref q7, .int (F 19), .ref q8, .int (F 21), .int (F 22), .int (F 23), .int (F 24), .ref q9, .ref q10, .ref q11, .long (J 28)])), (q1, .inl (g.2 0, 376, .inl al)), (q7, .inl (g.2 0, 200, .inl he))] sz) [(qM, .inr (9, [.int (F 0), .ref q1, .ref q2, .ref q3, .int (F 4), .int (F 5), .int (F 6), .int (F 7), .int (F 8), .int (F 9), .long (J 10), .int (F 11), .int (F 12), .int (F 13), .ref q4, .int (F 15), .ref q5, .ref q6, .ref q7, .int (F 19), .ref q8, .int (F 21), .int (F 22), .int (F 23), .int (F 24), .ref q9, .ref q10, .ref q11, .long (J 28)])), (q1, .inl (g.2 0, 376, .inl al)), (q7, .inl (g.2 0, 200, .inl u))]) (va_A [(qM, .inr (9, [.int (F 0), .ref q1, .ref q2, .ref q3, .int (F 4), .int (F 5), .int (F 6), .int (F 7), .int (F 8), .int (F 9), .long (J 10), .int (F 11), .int (F 12), .int (F 13), .ref q4, .int (F 15), .ref q5, .ref q6, .ref q7, .int (F 19), .ref q8, .int (F 21), .int (F 22), .int (F 23), .int (F 24), .ref q9, .ref q10, .ref q11, .long (J 28)])), (q1, .inl (g.2 0, 376, .inl al)), (q7, .inl (g.2 0, 200, .inl he))] sz)) 0 0 (va_A [(qM, .inr (9, [.int (F 0), .ref q1, .ref q2, .ref q3, .int (F 4), .int (F 5), .int (F 6), .int (F 7), .int (F 8), .int (F 9), .long (J 10), .int (F 11), .int (F 12), .int (F 13), .ref q4, .int (F 15), .ref q5, .ref q6, .ref q7, .int (F 19), .ref q8, .int (F 21), .int (F 22), .int (F 23), .int (F 24), .ref q9, .ref q10, .ref q11, .long (J 28)])), (q1, .inl (g.2 0, 376, .inl al)), (q7, .inl (g.2 0, 200, .inl he))] sz) := by
  refine Met.ofW (cc := cX9_laysHeard) (maxL := 7) (ret := none) (by decide) rfl ?_
  intro p e s m args below meth c s₁ B hml hv'
  obtain ⟨rfl, hsz, hP, hG, hD0⟩ := hv'
  have S : CallFix p m c cX9_laysHeard 7 s _ wsX9_laysHeard RX9 := ⟨B.exec, B.bytes, hml, findClass_of_methodNamed B.named, atoms_spec (ws := wsX9_laysHeard) B.pre⟩
  obtain ⟨hx, hb, hml, hown, hts⟩ := id S
  have hK := hG.1
  have hr := B.returns
  have hlocks := B.notSynchronized
  subst hsz
  have hD := hD0.self (sz := s.heap.size)
  generalize hAe : va_A [(qM, .inr (9, [.int (F 0), .ref q1, .ref q2, .ref q3, .int (F 4), .int (F 5), .int (F 6), .int (F 7), .int (F 8), .int (F 9), .long (J 10), .int (F 11), .int (F 12), .int (F 13), .ref q4, .int (F 15), .ref q5, .ref q6, .ref q7, .int (F 19), .ref q8, .int (F 21), .int (F 22), .int (F 23), .int (F 24), .ref q9, .ref q10, .ref q11, .long (J 28)])), (q1, .inl (g.2 0, 376, .inl al)), (q7, .inl (g.2 0, 200, .inl he))] s.heap.size = A at hD ⊢
  have hA : ∀ q : Nat, s.heap.size ≤ q → A q := fun q h => by rw [← hAe]; exact Or.inr h
  have hS : va_S A s.heap s.heap [] := va_S.rf
  clear hD0 hAe
  have hl := lv_entry ([.ref qM, .int p1]) (n := 7) (Nat.le_of_ble_eq_true rfl)
  rw [lg_entry_eq]
  generalize (lg_sl ([.ref qM, .int p1]) ++ List.replicate (7 - (lg_sl ([.ref qM, .int p1])).length) Slot.unset).toArray = ls at hl ⊢
  have hl : lv_has ls 7 [(0, .ref qM), (1, .int p1)] := hl
  unfold vX9_laysHeard at hv
  refine lv_aload_n hx hb dX9_laysHeard_0 rfl (lv_at hl 0 rfl) ?_
  refine lv_iload_n hx hb dX9_laysHeard_1 rfl (lv_at hl 1 rfl) ?_
  refine lv_iconst (v := (5 : Int32)) hx hb dX9_laysHeard_2 (by decide) ?_
  obtain ⟨p_3, w_3, ho_1, hv⟩ := hv
  refine vp_callSi (W.runV (As := [.int p1, .int (5 : Int32)]) (rest := []) S (wX9_ofLeg l g qM q1 q2 q3 q4 q5 q6 q7 q8 q9 q10 q11 F J al p1 (5 : Int32) (sX9_ofLeg p_3 w_3 F J al p1 (5 : Int32) ho_1)) (cwV 2 hts gX9_laysHeard_X9_ofLeg rfl rfl rfl (by decide +kernel) ⟨Nat.le_of_ble_eq_true rfl, Nat.le_of_ble_eq_true rfl⟩) ⟨blindRO, va_recv hK hP (ci := 9) (q0 := 0) rfl rfl, fun U hU hW => ⟨rfl, by rw [hU]; exact hP.sub (ws' := [(qM, .inr (9, [.int (F 0), .ref q1, .ref q2, .ref q3, .int (F 4), .int (F 5), .int (F 6), .int (F 7), .int (F 8), .int (F 9), .long (J 10), .int (F 11), .int (F 12), .int (F 13), .ref q4, .int (F 15), .ref q5, .ref q6, .ref q7, .int (F 19), .ref q8, .int (F 21), .int (F 22), .int (F 23), .int (F 24), .ref q9, .ref q10, .ref q11, .long (J 28)])), (q1, .inl (g.2 0, 376, .inl al))]) [0, 1] rfl, hG.warm hW⟩⟩ rfl rfl hl.1 rfl (lv_room (Nat.le_of_ble_eq_true rfl)) dX9_laysHeard_3 ⟨Nat.le_of_ble_eq_true rfl, Nat.le_of_ble_eq_true rfl⟩) (fun r_3 hr_3 => ?_)
  have hv := hv r_3 hr_3
  refine lv_i2l (v := (r_3.toInt64)) hx hb dX9_laysHeard_6 rfl ?_
  refine lv_lstore_n (lv' := [(2, .long (r_3.toInt64)), (0, .ref qM), (1, .int p1)]) hx hb dX9_laysHeard_7 rfl hl (by decide) rfl (fun ls hl => ?_)
  refine lv_iconst (v := (0 : Int32)) hx hb dX9_laysHeard_8 (by decide) ?_
  refine lv_istore (lv' := [(4, .int (0 : Int32)), (2, .long (r_3.toInt64)), (0, .ref qM), (1, .int p1)]) hx hb dX9_laysHeard_9 hl (by decide) rfl (fun ls hl => ?_)
  obtain ⟨nn, hv⟩ := hv
  exact kX9_laysHeard_c11 S hr hlocks hG hA nn _ _ _ hv _ _ (hP.sub (ws' := [(qM, .inr (9, [.int (F 0), .ref q1, .ref q2, .ref q3, .int (F 4), .int (F 5), .int (F 6), .int (F 7), .int (F 8), .int (F 9), .long (J 10), .int (F 11), .int (F 12), .int (F 13), .ref q4, .int (F 15), .ref q5, .ref q6, .ref q7, .int (F 19), .ref q8, .int (F 21), .int (F 22), .int (F 23), .int (F 24), .ref q9, .ref q10, .ref q11, .long (J 28)])), (q1, .inl (g.2 0, 376, .inl al)), (q7, .inl (g.2 0, 200, .inl he))]) [0, 1, 2] rfl) (hD.sub (ws' := [(qM, .inr (9, [.int (F 0), .ref q1, .ref q2, .ref q3, .int (F 4), .int (F 5), .int (F 6), .int (F 7), .int (F 8), .int (F 9), .long (J 10), .int (F 11), .int (F 12), .int (F 13), .ref q4, .int (F 15), .ref q5, .ref q6, .ref q7, .int (F 19), .ref q8, .int (F 21), .int (F 22), .int (F 23), .int (F 24), .ref q9, .ref q10, .ref q11, .long (J 28)])), (q1, .inl (g.2 0, 376, .inl al)), (q7, .inl (g.2 0, 200, .inl he))]) [0, 1, 2] (by decide) rfl) hS ls (lv_sub hl [2, 3, 1, 0] rfl)
abbrev preX9_laysHeard (T : Cd) (G : Lg) (l : Nat) (lt : Option Nat) (F : Nat → Int32) (_ : Nat → Int64) (al _ : Nat → Int32) (p1 : Int32) : Prop := mT T al ∧ mG G l al ∧ l < 2 ∧ p1.toInt = (l : Int) ∧ ltOf l lt (F 19)
abbrev postX9_laysHeard (T : Cd) (G : Lg) (_ : Nat) (lt : Option Nat) (_ : Nat → Int32) (_ : Nat → Int64) (_ _ : Nat → Int32) (_ : Int32) (he' : Nat → Int32) : Prop := ∀ i, i < gmn G → (he' i).toInt = (heN T lt G (gfr G) i : Int)
theorem lagZ_le {G : Lg} (h : okG G) {i t : Nat} (ht : t ≤ 20000) : -20000 ≤ lagZ G i t ∧ lagZ G i t ≤ 20000 := by
  have hb := q_mulb (x := gn G 1) (y := (t : Int)) (b := 64) (c := 20000) h.2.1.1 h.2.1.2 (by omega) (by omega) (by omega)
  have hj := jmp_le G i (gm G)
  have h0 := h.1
  have h10 := h.2.2.2.2.2.2.1
  unfold lagZ
  omega
theorem sX9_laysHeard_117 (T : Cd) (G : Lg) (l : Nat) (lt : Option Nat) (F : Nat → Int32) (J : Nat → Int64) (al he0 : Nat → Int32) (p1 : Int32) (H : preX9_laysHeard T G l lt F J al he0 p1) (Q : (Nat → Int32) → Prop) (K : Int64 → Int32 → (Nat → Int32) → Prop) (x2 : Int64) (x4 s0 : Int32) (i : Nat) (h4 : x4.toInt = (i : Int)) (hi : i < 200) (b : Bool) (hs : s0 = if b then 1 else 0) (he : Nat → Int32) (hK : ∀ v : Int32, v.toInt = ((if losB G i (gm G) then 2 else if b then 1 else 0 : Nat) : Int) → K x2 (x4 + (1 : Int32)) (upd he i v)) : vX9_laysHeard_c117 F J al p1 Q K x2 x4 s0 he := by
  obtain ⟨hT, hG, hl, h1, hlt⟩ := H
  refine ⟨G, l, i, 3, ⟨hG, hl, h1, h4, rfl⟩, fun r hr => ?_⟩
  have hr : r.toInt = ((mkC G i 3 (gm G) : Nat) : Int) := hr
  have hlos := mkC_los G i (gm G)
  rw [fa_le r, z0, hr, q_cl h4]
  refine ⟨fun hc => ?_, fun hc => ⟨q_in h4 hi, hK _ ?_⟩⟩
  · rw [decide_eq_false (by omega)] at hlos
    rw [← hlos] at hK
    rw [hs, q_ifB]
    refine ⟨fun q => ⟨q_in h4 hi, hK _ ?_⟩, fun q => ⟨q_in h4 hi, hK _ ?_⟩⟩
    · rw [q]; rfl
    · rw [show b = true by simpa using q]; rfl
  · rw [decide_eq_true (by omega)] at hlos
    rw [← hlos]; rfl
theorem sX9_laysHeard_1 (T : Cd) (G : Lg) (l : Nat) (lt : Option Nat) (F : Nat → Int32) (J : Nat → Int64) (al he0 : Nat → Int32) (p1 : Int32) (H : preX9_laysHeard T G l lt F J al he0 p1) : ∀ (n i : Nat) (x2 : Int64) (x4 : Int32) (he : Nat → Int32), x2.toInt = ((rn (gn G 5).toNat i : Nat) : Int) → x4.toInt = (i : Int) → i ≤ gmn G → gmn G + 1 ≤ i + n → (∀ j, j < i → (he j).toInt = (heN T lt G (gfr G) j : Int)) → vX9_laysHeard_c11 F J al p1 (postX9_laysHeard T G l lt F J al he0 p1) n x2 x4 he
  | 0, i, x2, x4, he, _, _, hi, hn, _ => absurd hn (by omega)
  | n + 1, i, x2, x4, he, h2, h4, hi, hn, hh => by
    obtain ⟨hT, hG, hl, h1, hlt⟩ := id H
    have hmn := mG_mn hG
    have hfr := mG_fr hG
    have ok := hG.1
    have hs5 : (gn G 5).toNat < 2147483648 := by have := ok.2.2.2.2.2.1; omega
    have hrn := rn_lt hs5 i
    rw [vX9_laysHeard_c11]
    refine ⟨l, 3, ⟨h1, rfl, by omega⟩, fun r hr => ?_⟩
    have hr : r = al (20 + 37 * l + 3) := hr
    rw [hr, q_le hmn.1 h4]
    refine ⟨fun hc => ?_, fun hc y hy => ⟨l, 2, ⟨h1, rfl, by omega⟩, fun r2 hr2 => ⟨G, l, i, ⟨hG, hl, h1, h4, by omega⟩, fun r3 hr3 => ?_⟩⟩⟩
    · have : i = gmn G := by omega
      subst this
      exact hh
    · have hr2 : r2.toInt = (gfr G : Int) := by rw [hr2]; exact hfr.1
      have hr3 : r3.toInt = lagZ G i (gfr G + i) := hr3
      have hlag := lagZ_le ok (i := i) (t := gfr G + i) (by omega)
      have et : (r2 + x4).toInt = ((gfr G + i : Nat) : Int) := q_addN hr2 h4 (by omega)
      have e := q_sub et hr3 (by omega) (by omega)
      have hsend : (p1.toInt = 0 ∧ lt = some 0) ∨ (p1.toInt = 1 ∧ isLt lt (F 19)) := by
        rcases hlt with q | q
        · exact Or.inl ⟨by omega, q.2⟩
        · exact Or.inr ⟨by omega, q.2⟩
      refine ⟨T, lt, ⟨hT, hsend, by rw [e]; omega, by rw [e]; omega⟩, fun r4 hr4 => ⟨G, l, i, 0, ⟨hG, hl, h1, h4, rfl⟩, fun r5 hr5 => ⟨l, 4, ⟨h1, rfl, by omega⟩, fun r6 hr6 => ?_⟩⟩⟩
      have hr4 : r4 = if snB T lt ((r2 + x4) - r3).toInt then 1 else 0 := hr4
      rw [e] at hr4
      have hr5 : r5.toInt = ((mkC G i 0 (gm G) : Nat) : Int) := hr5
      have hr6 : r6.toInt = ((gn G 4).toNat : Int) := by rw [hr6]; have := mG_nu hG (j := 4) (by omega); have := ok.2.2.2.2.1; omega
      have hfl := mkC_fli G (fun j hj => (ok.2.2.2.2.2.2.2 j hj).2.2.2) i (gm G) (Nat.le_refl _)
      have hmc := mkC_le G i 0 (gm G)
      have h10 := ok.2.2.2.2.2.2.1
      -- the draw
      have hx : (x2 * (1103515245 : Int64) + (12345 : Int64)).toInt = ((rn (gn G 5).toNat i * 1103515245 + 12345 : Nat) : Int) := by
        rw [q_lc h2, show (1103515245 : Int64) = lN 1103515245 from rfl, show (12345 : Int64) = lN 12345 from rfl, lN_mul, lN_add, pk_lT (by omega)]
      have hy2 : y.toInt = ((rn (gn G 5).toNat (i + 1) : Nat) : Int) := by
        rw [hy, q_lrem hx (b := 2147483648) rfl (by decide)]; rfl
      have hrn1 := rn_lt hs5 (i + 1)
      have hd1 : (y / (65536 : Int64)).toInt = ((rn (gn G 5).toNat (i + 1) / 65536 : Nat) : Int) := q_ldiv hy2 (b := 65536) rfl (by decide)
      have hd2 : ((y / (65536 : Int64)).toInt32).toInt = ((rn (gn G 5).toNat (i + 1) / 65536 : Nat) : Int) := q_l2i hd1 (by omega) (by omega)
      have hd3 := q_remN hd2 (y := 100) (b := 100) rfl (by decide)
      -- behind the turns
      have next : ∀ (tn : Bool) (s0 : Int32), s0 = (if tn then 1 else 0) → noB G i = tn → vX9_laysHeard_c91 F J al p1 (postX9_laysHeard T G l lt F J al he0 p1) (vX9_laysHeard_c11 F J al p1 (postX9_laysHeard T G l lt F J al he0 p1) n) y x4 r4 s0 r5 he := by
        intro tn s0 hs hno
        have fin : ∀ (b : Bool) (s1 : Int32), s1 = (if b then 1 else 0) → b = Bool.xor (snB T lt (((gfr G + i : Nat) : Int) - lagZ G i (gfr G + i))) (Bool.xor (fliB G i (gm G)) (noB G i)) → vX9_laysHeard_c117 F J al p1 (postX9_laysHeard T G l lt F J al he0 p1) (vX9_laysHeard_c11 F J al p1 (postX9_laysHeard T G l lt F J al he0 p1) n) y x4 s1 he := by
          intro b s1 hs1 hb
          refine sX9_laysHeard_117 T G l lt F J al he0 p1 H _ _ y x4 s1 i h4 (by omega) b hs1 he (fun v hv => ?_)
          refine sX9_laysHeard_1 T G l lt F J al he0 p1 H n (i + 1) y _ _ hy2 (q_1 h4 (by omega)) (by omega) (by omega) (fun j hj => ?_)
          unfold upd
          by_cases e2 : j = i
          · subst e2
            rw [if_pos rfl, hv, hb]
            unfold heN
            rfl
          · rw [if_neg e2]; exact hh j (by omega)
        have hsum : (r5 + s0).toInt = ((mkC G i 0 (gm G) + (if tn then 1 else 0) : Nat) : Int) := by
          rw [hs]
          cases tn
          · exact q_addN hr5 z0 (b := 0) (by omega)
          · exact q_addN hr5 z1 (b := 1) (by omega)
        have hrem := q_remN hsum (y := 2) (b := 2) rfl (by decide)
        have hpar : decide ((mkC G i 0 (gm G) + (if tn then 1 else 0)) % 2 = 1) = Bool.xor (fliB G i (gm G)) tn := by
          rw [← hfl]
          rcases Nat.mod_two_eq_zero_or_one (mkC G i 0 (gm G)) with q | q <;> cases tn <;> simp [q] <;> omega
        unfold vX9_laysHeard_c91
        rw [q_eq hrem z1, fa_eq r4 0, z0]
        refine ⟨fun hq => fin _ r4 hr4 ?_, fun hq => ?_⟩
        · rw [hno, ← hpar, decide_eq_false (by omega), Bool.xor_false]
        · rw [hr4]
          cases hsn : snB T lt (((gfr G + i : Nat) : Int) - lagZ G i (gfr G + i)) with
          | false => exact ⟨fun q => absurd rfl q, fun _ => fin true _ rfl (by rw [hsn, hno, ← hpar, decide_eq_true (by omega)]; rfl)⟩
          | true => exact ⟨fun _ => fin false _ rfl (by rw [hsn, hno, ← hpar, decide_eq_true (by omega)]; rfl), fun q => absurd q (by decide)⟩
      rw [q_le hr6 hd3]
      refine ⟨fun hq => next false _ rfl ?_, fun hq => next true _ rfl ?_⟩
      · exact decide_eq_false (by omega)
      · exact decide_eq_true (by omega)
theorem sX9_laysHeard (T : Cd) (G : Lg) (l : Nat) (lt : Option Nat) (F : Nat → Int32) (J : Nat → Int64) (al he : Nat → Int32) (p1 : Int32) (H : preX9_laysHeard T G l lt F J al he p1) : vX9_laysHeard F J al he p1 (postX9_laysHeard T G l lt F J al he p1) := by
  have h5 := mG_nu H.2.1 (j := 5) (by omega)
  have ok := H.2.1.1.2.2.2.2.2.1
  have hl := H.2.2.1
  refine ⟨l, 5, ⟨H.2.2.2.1, rfl, by omega⟩, fun r hr => ⟨gmn G + 1, ?_⟩⟩
  have hr : r.toInt = (((gn G 5).toNat : Nat) : Int) := by rw [hr]; omega
  exact sX9_laysHeard_1 T G l lt F J al he p1 H (gmn G + 1) 0 _ 0 he (q_i2l hr) rfl (by omega) (by omega) (fun j hj => absurd hj (by omega))
