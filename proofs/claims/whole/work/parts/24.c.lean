set_option maxRecDepth 20000 in
theorem ggX9_full_X9_isPart : GoodIn wsX9_full wsX9_isPart := goodIn_r _ [8, 9, 10, 11, 7, 12, 42, 43, 44, 45, 46, 47, 48, 49, 50, 51, 52, 53, 54, 55, 56, 57, 58, 59, 60, 61, 62, 63, 64, 65, 66, 67, 68, 69, 70] (by decide +kernel) (by decide +kernel)
set_option maxRecDepth 20000 in
theorem gX9_full_X9_isPart : GoodIn wsX9_full (wsV RX9 192 RX9 yX9_isPart wsX9_isPart) := goodIn_app (goodIn_of _ (by decide +kernel)) ggX9_full_X9_isPart
set_option maxRecDepth 20000 in
theorem ggX9_full_X9_of : GoodIn wsX9_full wsX9_of := goodIn_r _ [16, 9, 42, 43, 44, 45, 46, 47, 48, 49, 50, 51, 52, 53, 54, 55, 56, 57, 58, 59, 60, 61, 62, 63, 64, 65, 66, 67, 68, 69, 70] (by decide +kernel) (by decide +kernel)
set_option maxRecDepth 20000 in
theorem gX9_full_X9_of : GoodIn wsX9_full (wsV RX9 195 RX9 yX9_of wsX9_of) := goodIn_app (goodIn_of _ (by decide +kernel)) ggX9_full_X9_of
set_option maxRecDepth 20000 in
theorem ggX9_full_X9_in : GoodIn wsX9_full wsX9_in := goodIn_r _ [12] (by decide +kernel) (by decide +kernel)
set_option maxRecDepth 20000 in
theorem gX9_full_X9_in : GoodIn wsX9_full (va_wsS RX9 63 yX9_in wsX9_in) := goodIn_app (goodIn_of _ (by decide +kernel)) ggX9_full_X9_in
set_option maxRecDepth 20000 in
theorem ggX9_full_X9_laysFulls : GoodIn wsX9_full wsX9_laysFulls := goodIn_r _ [20, 9, 3, 21, 22, 23, 24, 7, 25, 26, 27, 28, 29, 30, 31, 32, 13, 14, 15, 16, 33, 34, 35, 36, 37, 38, 39, 40, 41, 42, 43, 44, 45, 46, 47, 48, 49, 50, 51, 52, 53, 54, 55, 56, 57, 58, 59, 60, 61, 62, 63, 64, 65, 66, 67, 68, 69, 70] (by decide +kernel) (by decide +kernel)
set_option maxRecDepth 20000 in
theorem gX9_full_X9_laysFulls : GoodIn wsX9_full (wsV RX9 223 RX9 yX9_laysFulls wsX9_laysFulls) := goodIn_app (goodIn_of _ (by decide +kernel)) ggX9_full_X9_laysFulls
theorem dX9_full_0 : decode cX9_full 0 = .ok (.aload_n 0, 1) := by decide +kernel
theorem dX9_full_1 : decode cX9_full 1 = .ok (.iconst 0, 1) := by decide +kernel
theorem dX9_full_2 : decode cX9_full 2 = .ok (.putfield 51, 3) := by decide +kernel
theorem dX9_full_5 : decode cX9_full 5 = .ok (.aload_n 0, 1) := by decide +kernel
theorem dX9_full_6 : decode cX9_full 6 = .ok (.iload_n 1, 1) := by decide +kernel
theorem dX9_full_7 : decode cX9_full 7 = .ok (.invokevirtual 192, 3) := by decide +kernel
theorem dX9_full_10 : decode cX9_full 10 = .ok (.ifCond .eq 19, 3) := by decide +kernel
theorem dX9_full_13 : decode cX9_full 13 = .ok (.iload_n 2, 1) := by decide +kernel
theorem dX9_full_14 : decode cX9_full 14 = .ok (.iconst 0, 1) := by decide +kernel
theorem dX9_full_15 : decode cX9_full 15 = .ok (.aload_n 0, 1) := by decide +kernel
theorem dX9_full_16 : decode cX9_full 16 = .ok (.iload_n 1, 1) := by decide +kernel
theorem dX9_full_17 : decode cX9_full 17 = .ok (.iconst 0, 1) := by decide +kernel
theorem dX9_full_18 : decode cX9_full 18 = .ok (.invokevirtual 195, 3) := by decide +kernel
theorem dX9_full_21 : decode cX9_full 21 = .ok (.iconst 1, 1) := by decide +kernel
theorem dX9_full_22 : decode cX9_full 22 = .ok (.isub, 1) := by decide +kernel
theorem dX9_full_23 : decode cX9_full 23 = .ok (.invokestatic 63, 3) := by decide +kernel
theorem dX9_full_26 : decode cX9_full 26 = .ok (.ifCond .ne 6, 3) := by decide +kernel
theorem dX9_full_29 : decode cX9_full 29 = .ok (.ldc 222, 2) := by decide +kernel
theorem dX9_full_31 : decode cX9_full 31 = .ok (.ireturn, 1) := by decide +kernel
theorem dX9_full_32 : decode cX9_full 32 = .ok (.aload_n 0, 1) := by decide +kernel
theorem dX9_full_33 : decode cX9_full 33 = .ok (.iload_n 1, 1) := by decide +kernel
theorem dX9_full_34 : decode cX9_full 34 = .ok (.iload_n 2, 1) := by decide +kernel
theorem dX9_full_35 : decode cX9_full 35 = .ok (.invokevirtual 223, 3) := by decide +kernel
theorem dX9_full_38 : decode cX9_full 38 = .ok (.aload_n 0, 1) := by decide +kernel
theorem dX9_full_39 : decode cX9_full 39 = .ok (.getfield 24, 3) := by decide +kernel
theorem dX9_full_42 : decode cX9_full 42 = .ok (.iload_n 1, 1) := by decide +kernel
theorem dX9_full_43 : decode cX9_full 43 = .ok (.iaload, 1) := by decide +kernel
theorem dX9_full_44 : decode cX9_full 44 = .ok (.ireturn, 1) := by decide +kernel
abbrev rmX9_full : Room := { frames := 4, cells := 0, slots := 0, locals := 101 }
theorem inX9_full_9 : ∀ w ∈ wsX90, w ∈ wsX9_full := by decide +kernel
def vX9_full (F : Nat → Int32) (J : Nat → Int64) (al : Nat → Int32) (fu : Nat → Int32) (sd : Nat → Int32) (p1 : Int32) (p2 : Int32) (Q : Int32 → (Nat → Int32) → (Nat → Int32) → (Nat → Int32) → Prop) : Prop := (∃ (n_7 : Nat), preX9_isPart n_7 (upd F 0 (0 : Int32)) J al p1 ∧ (∀ r_7 : Int32, postX9_isPart n_7 (upd F 0 (0 : Int32)) J al p1 r_7 → ((r_7 = 0 → (Q (-1000000 : Int32) (upd F 0 (0 : Int32)) fu sd)) ∧ (¬ r_7 = 0 → (∃ (p_18 : Nat) (w_18 : Nat), preX9_of p_18 w_18 (upd F 0 (0 : Int32)) J al p1 (0 : Int32) ∧ (∀ r_18 : Int32, postX9_of p_18 w_18 (upd F 0 (0 : Int32)) J al p1 (0 : Int32) r_18 → (preX9_in p2 (0 : Int32) (r_18 - (1 : Int32)) ∧ (∀ r_23 : Int32, postX9_in p2 (0 : Int32) (r_18 - (1 : Int32)) r_23 → ((¬ r_23 = 0 → (∃ (T_35 : Cd), preX9_laysFulls T_35 (upd F 0 (0 : Int32)) J al fu sd p1 p2 ∧ (∀ (fu_35 : Nat → Int32) (sd_35 : Nat → Int32), postX9_laysFulls T_35 (upd F 0 (0 : Int32)) J al fu sd p1 p2 fu_35 sd_35 → (vp_in p1 5 ∧ (Q (fu_35 p1.toNatClampNeg) (upd F 0 (0 : Int32)) fu_35 sd_35))))) ∧ (r_23 = 0 → (Q (-1000000 : Int32) (upd F 0 (0 : Int32)) fu sd)))))))))))
set_option maxHeartbeats 4000000 in
set_option maxRecDepth 100000 in
theorem wX9_full (l : Launch) (g : GP) (qM : Nat) (q1 : Nat) (q2 : Nat) (q3 : Nat) (q4 : Nat) (q5 : Nat) (q6 : Nat) (q7 : Nat) (q8 : Nat) (q9 : Nat) (q10 : Nat) (q11 : Nat) (sz : Nat) (F : Nat → Int32) (J : Nat → Int64) (al : Nat → Int32) (fu : Nat → Int32) (sd : Nat → Int32) (p1 : Int32) (p2 : Int32) {Q : Int32 → (Nat → Int32) → (Nat → Int32) → (Nat → Int32) → Prop} (hv : vX9_full F J al fu sd p1 p2 Q) : Met l yX9_full wsX9_full rmX9_full (va_Pc [.ref qM, .int p1, .int p2] (fun U => U.heap.size = sz ∧ va_P g.1 vwCl [(qM, .inr (9, [.int (F 0), .ref q1, .ref q2, .ref q3, .int (F 4), .int (F 5), .int (F 6), .int (F 7), .int (F 8), .int (F 9), .long (J 10), .int (F 11), .int (F 12), .int (F 13), .ref q4, .int (F 15), .ref q5, .ref q6, .ref q7, .int (F 19), .ref q8, .int (F 21), .int (F 22), .int (F 23), .int (F 24), .ref q9, .ref q10, .ref q11, .long (J 28)])), (q1, .inl (g.2 0, 376, .inl al)), (q5, .inl (g.2 0, 5, .inl fu)), (q6, .inl (g.2 0, 5, .inl sd))] U.heap ∧ GK g U ∧ va_D (fun _ => True) [(qM, .inr (9, [.int (F 0), .ref q1, .ref q2, .ref q3, .int (F 4), .int (F 5), .int (F 6), .int (F 7), .int (F 8), .int (F 9), .long (J 10), .int (F 11), .int (F 12), .int (F 13), .ref q4, .int (F 15), .ref q5, .ref q6, .ref q7, .int (F 19), .ref q8, .int (F 21), .int (F 22), .int (F 23), .int (F 24), .ref q9, .ref q10, .ref q11, .long (J 28)])), (q1, .inl (g.2 0, 376, .inl al)), (q5, .inl (g.2 0, 5, .inl fu)), (q6, .inl (g.2 0, 5, .inl sd))])) (va_Qi (fun (r : Int32) (u : (Nat → Int32) × (Nat → Int32) × (Nat → Int32)) => Q r u.1 u.2.1 u.2.2) (fun (u : (Nat → Int32) × (Nat → Int32) × (Nat → Int32)) t => va_P g.1 vwCl [(qM, .inr (9, [.int (u.1 0), .ref q1, .ref q2, .ref q3, .int (u.1 4), .int (u.1 5), .int (u.1 6), .int (u.1 7), .int (u.1 8), .int (u.1 9), .long (J 10), .int (u.1 11), .int (u.1 12), .int (u.1 13), .ref q4, .int (u.1 15), .ref q5, .ref q6, .ref q7, .int (u.1 19), .ref q8, .int (u.1 21), .int (u.1 22), .int (u.1 23), .int (u.1 24), .ref q9, .ref q10, .ref q11, .long (J 28)])), (q1, .inl (g.2 0, 376, .inl al)), (q5, .inl (g.2 0, 5, .inl u.2.1)), (q6, .inl (g.2 0, 5, .inl u.2.2))] t.heap ∧ va_D (va_A [(qM, .inr (9, [.int (F 0), .ref q1, .ref q2, .ref q3, .int (F 4), .int (F 5), .int (F 6), .int (F 7), .int (F 8), .int (F 9), .long (J 10), .int (F 11), .int (F 12), .int (F 13), .ref q4, .int (F 15), .ref q5, .ref q6, .ref q7, .int (F 19), .ref q8, .int (F 21), .int (F 22), .int (F 23), .int (F 24), .ref q9, .ref q10, .ref q11, .long (J 28)])), (q1, .inl (g.2 0, 376, .inl al)), (q5, .inl (g.2 0, 5, .inl fu)), (q6, .inl (g.2 0, 5, .inl sd))] sz) [(qM, .inr (9, [.int (u.1 0), .ref q1, .ref q2, .ref q3, .int (u.1 4), .int (u.1 5), .int (u.1 6), .int (u.1 7), .int (u.1 8), .int (u.1 9), .long (J 10), .int (u.1 11), .int (u.1 12), .int (u.1 13), .ref q4, .int (u.1 15), .ref q5, .ref q6, .ref q7, .int (u.1 19), .ref q8, .int (u.1 21), .int (u.1 22), .int (u.1 23), .int (u.1 24), .ref q9, .ref q10, .ref q11, .long (J 28)])), (q1, .inl (g.2 0, 376, .inl al)), (q5, .inl (g.2 0, 5, .inl u.2.1)), (q6, .inl (g.2 0, 5, .inl u.2.2))]) (va_A [(qM, .inr (9, [.int (F 0), .ref q1, .ref q2, .ref q3, .int (F 4), .int (F 5), .int (F 6), .int (F 7), .int (F 8), .int (F 9), .long (J 10), .int (F 11), .int (F 12), .int (F 13), .ref q4, .int (F 15), .ref q5, .ref q6, .ref q7, .int (F 19), .ref q8, .int (F 21), .int (F 22), .int (F 23), .int (F 24), .ref q9, .ref q10, .ref q11, .long (J 28)])), (q1, .inl (g.2 0, 376, .inl al)), (q5, .inl (g.2 0, 5, .inl fu)), (q6, .inl (g.2 0, 5, .inl sd))] sz)) 0 0 (va_A [(qM, .inr (9, [.int (F 0), .ref q1, .ref q2, .ref q3, .int (F 4), .int (F 5), .int (F 6), .int (F 7), .int (F 8), .int (F 9), .long (J 10), .int (F 11), .int (F 12), .int (F 13), .ref q4, .int (F 15), .ref q5, .ref q6, .ref q7, .int (F 19), .ref q8, .int (F 21), .int (F 22), .int (F 23), .int (F 24), .ref q9, .ref q10, .ref q11, .long (J 28)])), (q1, .inl (g.2 0, 376, .inl al)), (q5, .inl (g.2 0, 5, .inl fu)), (q6, .inl (g.2 0, 5, .inl sd))] sz) := by
  refine Met.ofW (cc := cX9_full) (maxL := 3) (ret := (some .int)) (by decide) rfl ?_
  intro p e s m args below meth c s₁ B hml hv'
  obtain ⟨rfl, hsz, hP, hG, hD0⟩ := hv'
  have S : CallFix p m c cX9_full 3 s _ wsX9_full RX9 := ⟨B.exec, B.bytes, hml, findClass_of_methodNamed B.named, atoms_spec (ws := wsX9_full) B.pre⟩
  obtain ⟨hx, hb, hml, hown, hts⟩ := id S
  have hK := hG.1
  have hr := B.returns
  have hlocks := B.notSynchronized
  subst hsz
  have hD := hD0.self (sz := s.heap.size)
  generalize hAe : va_A [(qM, .inr (9, [.int (F 0), .ref q1, .ref q2, .ref q3, .int (F 4), .int (F 5), .int (F 6), .int (F 7), .int (F 8), .int (F 9), .long (J 10), .int (F 11), .int (F 12), .int (F 13), .ref q4, .int (F 15), .ref q5, .ref q6, .ref q7, .int (F 19), .ref q8, .int (F 21), .int (F 22), .int (F 23), .int (F 24), .ref q9, .ref q10, .ref q11, .long (J 28)])), (q1, .inl (g.2 0, 376, .inl al)), (q5, .inl (g.2 0, 5, .inl fu)), (q6, .inl (g.2 0, 5, .inl sd))] s.heap.size = A at hD ⊢
  have hA : ∀ q : Nat, s.heap.size ≤ q → A q := fun q h => by rw [← hAe]; exact Or.inr h
  have hS : va_S A s.heap s.heap [] := va_S.rf
  clear hD0 hAe
  have hl := lv_entry ([.ref qM, .int p1, .int p2]) (n := 3) (Nat.le_of_ble_eq_true rfl)
  rw [lg_entry_eq]
  generalize (lg_sl ([.ref qM, .int p1, .int p2]) ++ List.replicate (3 - (lg_sl ([.ref qM, .int p1, .int p2])).length) Slot.unset).toArray = ls at hl ⊢
  have hl : lv_has ls 3 [(0, .ref qM), (1, .int p1), (2, .int p2)] := hl
  unfold vX9_full at hv
  refine lv_aload_n hx hb dX9_full_0 rfl (lv_at hl 0 rfl) ?_
  refine lv_iconst (v := (0 : Int32)) hx hb dX9_full_1 (by decide) ?_
  refine va_put (D := g.1) (ci := 9) (v := .int (0 : Int32)) (ty := .int) (C := RX9) (T := TX9) (N := 29) hx hb hts inX9_full_9 tyX9 tyX9_ok nmX9 hown hK hP hD hS 0 rfl rfl 0 (by decide) (hts (.fieldLink RX9 51 "RangeCodesModel" "raised" "I") (List.mem_of_getElem? (i := 1) rfl)) (fun _ h9 => h9) rfl (by decide +kernel) rfl rfl (Nat.le_of_ble_eq_true rfl) dX9_full_2 (fun H locs hP hD hS => ?_)
  have hP : va_P g.1 vwCl [(qM, .inr (9, [.int (0 : Int32), .ref q1, .ref q2, .ref q3, .int (F 4), .int (F 5), .int (F 6), .int (F 7), .int (F 8), .int (F 9), .long (J 10), .int (F 11), .int (F 12), .int (F 13), .ref q4, .int (F 15), .ref q5, .ref q6, .ref q7, .int (F 19), .ref q8, .int (F 21), .int (F 22), .int (F 23), .int (F 24), .ref q9, .ref q10, .ref q11, .long (J 28)])), (q1, .inl (g.2 0, 376, .inl al)), (q5, .inl (g.2 0, 5, .inl fu)), (q6, .inl (g.2 0, 5, .inl sd))] H := hP
  have hD : va_D A [(qM, .inr (9, [.int (0 : Int32), .ref q1, .ref q2, .ref q3, .int (F 4), .int (F 5), .int (F 6), .int (F 7), .int (F 8), .int (F 9), .long (J 10), .int (F 11), .int (F 12), .int (F 13), .ref q4, .int (F 15), .ref q5, .ref q6, .ref q7, .int (F 19), .ref q8, .int (F 21), .int (F 22), .int (F 23), .int (F 24), .ref q9, .ref q10, .ref q11, .long (J 28)])), (q1, .inl (g.2 0, 376, .inl al)), (q5, .inl (g.2 0, 5, .inl fu)), (q6, .inl (g.2 0, 5, .inl sd))] := hD
  refine lv_aload_n hx hb dX9_full_5 rfl (lv_at hl 0 rfl) ?_
  refine lv_iload_n hx hb dX9_full_6 rfl (lv_at hl 1 rfl) ?_
  obtain ⟨n_7, ho_1, hv⟩ := hv
  refine vp_callSi (W.runV (As := [.int p1]) (rest := []) S (wX9_isPart l g qM q1 q2 q3 q4 q5 q6 q7 q8 q9 q10 q11 (upd F 0 (0 : Int32)) J al p1 (sX9_isPart n_7 (upd F 0 (0 : Int32)) J al p1 ho_1)) (cwV 1 hts gX9_full_X9_isPart rfl rfl rfl (by decide +kernel) ⟨Nat.le_of_ble_eq_true rfl, Nat.le_of_ble_eq_true rfl⟩) ⟨blindRO, va_recv hK hP (ci := 9) (q0 := 0) rfl rfl, fun U hU hW => ⟨rfl, by rw [hU]; exact hP.sub (ws' := [(qM, .inr (9, [.int ((upd F 0 (0 : Int32)) 0), .ref q1, .ref q2, .ref q3, .int ((upd F 0 (0 : Int32)) 4), .int ((upd F 0 (0 : Int32)) 5), .int ((upd F 0 (0 : Int32)) 6), .int ((upd F 0 (0 : Int32)) 7), .int ((upd F 0 (0 : Int32)) 8), .int ((upd F 0 (0 : Int32)) 9), .long (J 10), .int ((upd F 0 (0 : Int32)) 11), .int ((upd F 0 (0 : Int32)) 12), .int ((upd F 0 (0 : Int32)) 13), .ref q4, .int ((upd F 0 (0 : Int32)) 15), .ref q5, .ref q6, .ref q7, .int ((upd F 0 (0 : Int32)) 19), .ref q8, .int ((upd F 0 (0 : Int32)) 21), .int ((upd F 0 (0 : Int32)) 22), .int ((upd F 0 (0 : Int32)) 23), .int ((upd F 0 (0 : Int32)) 24), .ref q9, .ref q10, .ref q11, .long (J 28)])), (q1, .inl (g.2 0, 376, .inl al))]) [0, 1] rfl, hG.warm hW⟩⟩ rfl rfl hl.1 rfl (lv_room (Nat.le_of_ble_eq_true rfl)) dX9_full_7 ⟨Nat.le_of_ble_eq_true rfl, Nat.le_of_ble_eq_true rfl⟩) (fun r_7 hr_7 => ?_)
  have hv := hv r_7 hr_7
  obtain ⟨hvt, hvf⟩ := hv
  refine lv_if_eq (tgt := 29) hx hb dX9_full_10 (by decide) (fun hc => ?_) (fun hc => ?_)
  · have hv := hvt hc
    refine lv_ldc (v := (-1000000 : Int32)) hx hb hown (hts (.constant RX9 222 (-1000000)) (List.mem_of_getElem? (i := 2) rfl)) dX9_full_29 ?_
    have hP9 := hP.sub (ws' := [(qM, .inr (9, [.int ((upd F 0 (0 : Int32)) 0), .ref q1, .ref q2, .ref q3, .int ((upd F 0 (0 : Int32)) 4), .int ((upd F 0 (0 : Int32)) 5), .int ((upd F 0 (0 : Int32)) 6), .int ((upd F 0 (0 : Int32)) 7), .int ((upd F 0 (0 : Int32)) 8), .int ((upd F 0 (0 : Int32)) 9), .long (J 10), .int ((upd F 0 (0 : Int32)) 11), .int ((upd F 0 (0 : Int32)) 12), .int ((upd F 0 (0 : Int32)) 13), .ref q4, .int ((upd F 0 (0 : Int32)) 15), .ref q5, .ref q6, .ref q7, .int ((upd F 0 (0 : Int32)) 19), .ref q8, .int ((upd F 0 (0 : Int32)) 21), .int ((upd F 0 (0 : Int32)) 22), .int ((upd F 0 (0 : Int32)) 23), .int ((upd F 0 (0 : Int32)) 24), .ref q9, .ref q10, .ref q11, .long (J 28)])), (q1, .inl (g.2 0, 376, .inl al)), (q5, .inl (g.2 0, 5, .inl fu)), (q6, .inl (g.2 0, 5, .inl sd))]) [0, 1, 2, 3] rfl
    have hD9 := hD.sub (ws' := [(qM, .inr (9, [.int ((upd F 0 (0 : Int32)) 0), .ref q1, .ref q2, .ref q3, .int ((upd F 0 (0 : Int32)) 4), .int ((upd F 0 (0 : Int32)) 5), .int ((upd F 0 (0 : Int32)) 6), .int ((upd F 0 (0 : Int32)) 7), .int ((upd F 0 (0 : Int32)) 8), .int ((upd F 0 (0 : Int32)) 9), .long (J 10), .int ((upd F 0 (0 : Int32)) 11), .int ((upd F 0 (0 : Int32)) 12), .int ((upd F 0 (0 : Int32)) 13), .ref q4, .int ((upd F 0 (0 : Int32)) 15), .ref q5, .ref q6, .ref q7, .int ((upd F 0 (0 : Int32)) 19), .ref q8, .int ((upd F 0 (0 : Int32)) 21), .int ((upd F 0 (0 : Int32)) 22), .int ((upd F 0 (0 : Int32)) 23), .int ((upd F 0 (0 : Int32)) 24), .ref q9, .ref q10, .ref q11, .long (J 28)])), (q1, .inl (g.2 0, 376, .inl al)), (q5, .inl (g.2 0, 5, .inl fu)), (q6, .inl (g.2 0, 5, .inl sd))]) [0, 1, 2, 3] (by decide) rfl
    exact W.iret (v := (-1000000 : Int32)) hx hb hr (fun t ht hW => ⟨⟨_, ((upd F 0 (0 : Int32)), fu, sd), rfl, hv, by rw [ht]; exact hP9, hD9⟩, hS.F ht⟩) hS.2.2 dX9_full_31
  · have hv := hvf hc
    refine lv_iload_n hx hb dX9_full_13 rfl (lv_at hl 2 rfl) ?_
    refine lv_iconst (v := (0 : Int32)) hx hb dX9_full_14 (by decide) ?_
    refine lv_aload_n hx hb dX9_full_15 rfl (lv_at hl 0 rfl) ?_
    refine lv_iload_n hx hb dX9_full_16 rfl (lv_at hl 1 rfl) ?_
    refine lv_iconst (v := (0 : Int32)) hx hb dX9_full_17 (by decide) ?_
    obtain ⟨p_18, w_18, ho_2, hv⟩ := hv
    refine vp_callSi (W.runV (As := [.int p1, .int (0 : Int32)]) (rest := [.int (0 : Int32), .int p2]) S (wX9_of l g qM q1 q2 q3 q4 q5 q6 q7 q8 q9 q10 q11 (upd F 0 (0 : Int32)) J al p1 (0 : Int32) (sX9_of p_18 w_18 (upd F 0 (0 : Int32)) J al p1 (0 : Int32) ho_2)) (cwV 2 hts gX9_full_X9_of rfl rfl rfl (by decide +kernel) ⟨Nat.le_of_ble_eq_true rfl, Nat.le_of_ble_eq_true rfl⟩) ⟨blindRO, va_recv hK hP (ci := 9) (q0 := 0) rfl rfl, fun U hU hW => ⟨rfl, by rw [hU]; exact hP.sub (ws' := [(qM, .inr (9, [.int ((upd F 0 (0 : Int32)) 0), .ref q1, .ref q2, .ref q3, .int ((upd F 0 (0 : Int32)) 4), .int ((upd F 0 (0 : Int32)) 5), .int ((upd F 0 (0 : Int32)) 6), .int ((upd F 0 (0 : Int32)) 7), .int ((upd F 0 (0 : Int32)) 8), .int ((upd F 0 (0 : Int32)) 9), .long (J 10), .int ((upd F 0 (0 : Int32)) 11), .int ((upd F 0 (0 : Int32)) 12), .int ((upd F 0 (0 : Int32)) 13), .ref q4, .int ((upd F 0 (0 : Int32)) 15), .ref q5, .ref q6, .ref q7, .int ((upd F 0 (0 : Int32)) 19), .ref q8, .int ((upd F 0 (0 : Int32)) 21), .int ((upd F 0 (0 : Int32)) 22), .int ((upd F 0 (0 : Int32)) 23), .int ((upd F 0 (0 : Int32)) 24), .ref q9, .ref q10, .ref q11, .long (J 28)])), (q1, .inl (g.2 0, 376, .inl al))]) [0, 1] rfl, hG.warm hW⟩⟩ rfl rfl hl.1 rfl (lv_room (Nat.le_of_ble_eq_true rfl)) dX9_full_18 ⟨Nat.le_of_ble_eq_true rfl, Nat.le_of_ble_eq_true rfl⟩) (fun r_18 hr_18 => ?_)
    have hv := hv r_18 hr_18
    refine lv_iconst (v := (1 : Int32)) hx hb dX9_full_21 (by decide) ?_
    refine lv_isub hx hb dX9_full_22 ?_
    obtain ⟨ho_3, hv⟩ := hv
    refine vp_callSi (W.runS (As := [.int p2, .int (0 : Int32), .int (r_18 - (1 : Int32))]) (rest := []) S (wX9_in l g p2 (0 : Int32) (r_18 - (1 : Int32)) (sX9_in p2 (0 : Int32) (r_18 - (1 : Int32)) ho_3)) (va_cwS 3 hts gX9_full_X9_in rfl rfl rfl (by decide +kernel) ⟨Nat.le_of_ble_eq_true rfl, Nat.le_of_ble_eq_true rfl⟩) ⟨blindRO, fun U hU hW => ⟨rfl, by rw [hU]; exact hP.sub (ws' := []) [] rfl, hG.warm hW⟩⟩ rfl rfl hl.1 rfl (lv_room (Nat.le_of_ble_eq_true rfl)) dX9_full_23 ⟨Nat.le_of_ble_eq_true rfl, Nat.le_of_ble_eq_true rfl⟩) (fun r_23 hr_23 => ?_)
    have hv := hv r_23 hr_23
    obtain ⟨hvt, hvf⟩ := hv
    refine lv_if_ne (tgt := 32) hx hb dX9_full_26 (by decide) (fun hc => ?_) (fun hc => ?_)
    · have hv := hvt hc
      refine lv_aload_n hx hb dX9_full_32 rfl (lv_at hl 0 rfl) ?_
      refine lv_iload_n hx hb dX9_full_33 rfl (lv_at hl 1 rfl) ?_
      refine lv_iload_n hx hb dX9_full_34 rfl (lv_at hl 2 rfl) ?_
      obtain ⟨T_35, ho_4, hv⟩ := hv
      have hPc := hP.sub (ws' := [(qM, .inr (9, [.int ((upd F 0 (0 : Int32)) 0), .ref q1, .ref q2, .ref q3, .int ((upd F 0 (0 : Int32)) 4), .int ((upd F 0 (0 : Int32)) 5), .int ((upd F 0 (0 : Int32)) 6), .int ((upd F 0 (0 : Int32)) 7), .int ((upd F 0 (0 : Int32)) 8), .int ((upd F 0 (0 : Int32)) 9), .long (J 10), .int ((upd F 0 (0 : Int32)) 11), .int ((upd F 0 (0 : Int32)) 12), .int ((upd F 0 (0 : Int32)) 13), .ref q4, .int ((upd F 0 (0 : Int32)) 15), .ref q5, .ref q6, .ref q7, .int ((upd F 0 (0 : Int32)) 19), .ref q8, .int ((upd F 0 (0 : Int32)) 21), .int ((upd F 0 (0 : Int32)) 22), .int ((upd F 0 (0 : Int32)) 23), .int ((upd F 0 (0 : Int32)) 24), .ref q9, .ref q10, .ref q11, .long (J 28)])), (q1, .inl (g.2 0, 376, .inl al)), (q5, .inl (g.2 0, 5, .inl fu)), (q6, .inl (g.2 0, 5, .inl sd))]) [0, 1, 2, 3] rfl
      have hDc := hD.sub (ws' := [(qM, .inr (9, [.int ((upd F 0 (0 : Int32)) 0), .ref q1, .ref q2, .ref q3, .int ((upd F 0 (0 : Int32)) 4), .int ((upd F 0 (0 : Int32)) 5), .int ((upd F 0 (0 : Int32)) 6), .int ((upd F 0 (0 : Int32)) 7), .int ((upd F 0 (0 : Int32)) 8), .int ((upd F 0 (0 : Int32)) 9), .long (J 10), .int ((upd F 0 (0 : Int32)) 11), .int ((upd F 0 (0 : Int32)) 12), .int ((upd F 0 (0 : Int32)) 13), .ref q4, .int ((upd F 0 (0 : Int32)) 15), .ref q5, .ref q6, .ref q7, .int ((upd F 0 (0 : Int32)) 19), .ref q8, .int ((upd F 0 (0 : Int32)) 21), .int ((upd F 0 (0 : Int32)) 22), .int ((upd F 0 (0 : Int32)) 23), .int ((upd F 0 (0 : Int32)) 24), .ref q9, .ref q10, .ref q11, .long (J 28)])), (q1, .inl (g.2 0, 376, .inl al)), (q5, .inl (g.2 0, 5, .inl fu)), (q6, .inl (g.2 0, 5, .inl sd))]) [0, 1, 2, 3] (by decide) rfl
      have hFc := va_free (wc := [(qM, .inr (9, [.int ((upd F 0 (0 : Int32)) 0), .ref q1, .ref q2, .ref q3, .int ((upd F 0 (0 : Int32)) 4), .int ((upd F 0 (0 : Int32)) 5), .int ((upd F 0 (0 : Int32)) 6), .int ((upd F 0 (0 : Int32)) 7), .int ((upd F 0 (0 : Int32)) 8), .int ((upd F 0 (0 : Int32)) 9), .long (J 10), .int ((upd F 0 (0 : Int32)) 11), .int ((upd F 0 (0 : Int32)) 12), .int ((upd F 0 (0 : Int32)) 13), .ref q4, .int ((upd F 0 (0 : Int32)) 15), .ref q5, .ref q6, .ref q7, .int ((upd F 0 (0 : Int32)) 19), .ref q8, .int ((upd F 0 (0 : Int32)) 21), .int ((upd F 0 (0 : Int32)) 22), .int ((upd F 0 (0 : Int32)) 23), .int ((upd F 0 (0 : Int32)) 24), .ref q9, .ref q10, .ref q11, .long (J 28)])), (q1, .inl (g.2 0, 376, .inl al)), (q5, .inl (g.2 0, 5, .inl fu)), (q6, .inl (g.2 0, 5, .inl sd))]) hD hS hA [0, 1, 2, 3] rfl
      refine va_callv (va_runV (As := [.int p1, .int p2]) (rest := []) S (wX9_laysFulls l g qM q1 q2 q3 q4 q5 q6 q7 q8 q9 q10 q11 H.size (upd F 0 (0 : Int32)) J al fu sd p1 p2 (sX9_laysFulls T_35 (upd F 0 (0 : Int32)) J al fu sd p1 p2 ho_4)) (cwV 2 hts gX9_full_X9_laysFulls rfl rfl rfl (by decide +kernel) ⟨Nat.le_of_ble_eq_true rfl, Nat.le_of_ble_eq_true rfl⟩) ⟨blindRW, va_recv hK hP (ci := 9) (q0 := 0) rfl rfl, fun U hU hW => ⟨rfl, by rw [hU], by rw [hU]; exact hPc, hG.warm hW, hDc.weaken (fun _ _ _ _ => trivial)⟩⟩ rfl rfl hl.1 rfl (lv_room (Nat.le_of_ble_eq_true rfl)) dX9_full_35 ⟨Nat.le_of_ble_eq_true rfl, Nat.le_of_ble_eq_true rfl⟩) hS (fun q _ h => hFc q h) hFc (fun u t H1 locs ht hvm hw hB hz1 hk1 hS => ?_)
      obtain ⟨fu_35, sd_35⟩ := u
      obtain ⟨hP1, hD1⟩ := hB
      rw [ht] at hP1
      have hv := hv fu_35 sd_35 hw
      obtain ⟨hP, hD⟩ := va_join (wr := []) (w1 := [(qM, .inr (9, [.int (0 : Int32), .ref q1, .ref q2, .ref q3, .int (F 4), .int (F 5), .int (F 6), .int (F 7), .int (F 8), .int (F 9), .long (J 10), .int (F 11), .int (F 12), .int (F 13), .ref q4, .int (F 15), .ref q5, .ref q6, .ref q7, .int (F 19), .ref q8, .int (F 21), .int (F 22), .int (F 23), .int (F 24), .ref q9, .ref q10, .ref q11, .long (J 28)])), (q1, .inl (g.2 0, 376, .inl al)), (q5, .inl (g.2 0, 5, .inl fu_35)), (q6, .inl (g.2 0, 5, .inl sd_35))]) hP hD [0, 1, 2, 3] [] rfl rfl (by decide) (by decide) hk1 hFc hP1 hD1
      clear hP1 hD1 hPc hDc hFc hk1
      generalize H1 = H at hP hS ⊢
      have hP : va_P g.1 vwCl [(qM, .inr (9, [.int (0 : Int32), .ref q1, .ref q2, .ref q3, .int (F 4), .int (F 5), .int (F 6), .int (F 7), .int (F 8), .int (F 9), .long (J 10), .int (F 11), .int (F 12), .int (F 13), .ref q4, .int (F 15), .ref q5, .ref q6, .ref q7, .int (F 19), .ref q8, .int (F 21), .int (F 22), .int (F 23), .int (F 24), .ref q9, .ref q10, .ref q11, .long (J 28)])), (q1, .inl (g.2 0, 376, .inl al)), (q5, .inl (g.2 0, 5, .inl fu_35)), (q6, .inl (g.2 0, 5, .inl sd_35))] H := hP
      have hD : va_D A [(qM, .inr (9, [.int (0 : Int32), .ref q1, .ref q2, .ref q3, .int (F 4), .int (F 5), .int (F 6), .int (F 7), .int (F 8), .int (F 9), .long (J 10), .int (F 11), .int (F 12), .int (F 13), .ref q4, .int (F 15), .ref q5, .ref q6, .ref q7, .int (F 19), .ref q8, .int (F 21), .int (F 22), .int (F 23), .int (F 24), .ref q9, .ref q10, .ref q11, .long (J 28)])), (q1, .inl (g.2 0, 376, .inl al)), (q5, .inl (g.2 0, 5, .inl fu_35)), (q6, .inl (g.2 0, 5, .inl sd_35))] := hD
      refine lv_aload_n hx hb dX9_full_38 rfl (lv_at hl 0 rfl) ?_
      refine va_get (D := g.1) (ci := 9) (v := .ref q5) (C := RX9) (T := TX9) (N := 29) hx hb hts inX9_full_9 hown hK hP 0 rfl rfl 16 (by decide) (hts (.fieldLink RX9 24 "RangeCodesModel" "fulls" "[I") (List.mem_of_getElem? (i := 3) rfl)) (fun _ h9 => h9) rfl dX9_full_39 ?_
      refine lv_iload_n hx hb dX9_full_42 rfl (lv_at hl 1 rfl) ?_
      obtain ⟨ho_5, hv⟩ := hv
      refine va_iald hx hb hK hP 2 0 rfl rfl ho_5 dX9_full_43 ?_
      have hP9 := hP.sub (ws' := [(qM, .inr (9, [.int ((upd F 0 (0 : Int32)) 0), .ref q1, .ref q2, .ref q3, .int ((upd F 0 (0 : Int32)) 4), .int ((upd F 0 (0 : Int32)) 5), .int ((upd F 0 (0 : Int32)) 6), .int ((upd F 0 (0 : Int32)) 7), .int ((upd F 0 (0 : Int32)) 8), .int ((upd F 0 (0 : Int32)) 9), .long (J 10), .int ((upd F 0 (0 : Int32)) 11), .int ((upd F 0 (0 : Int32)) 12), .int ((upd F 0 (0 : Int32)) 13), .ref q4, .int ((upd F 0 (0 : Int32)) 15), .ref q5, .ref q6, .ref q7, .int ((upd F 0 (0 : Int32)) 19), .ref q8, .int ((upd F 0 (0 : Int32)) 21), .int ((upd F 0 (0 : Int32)) 22), .int ((upd F 0 (0 : Int32)) 23), .int ((upd F 0 (0 : Int32)) 24), .ref q9, .ref q10, .ref q11, .long (J 28)])), (q1, .inl (g.2 0, 376, .inl al)), (q5, .inl (g.2 0, 5, .inl fu_35)), (q6, .inl (g.2 0, 5, .inl sd_35))]) [0, 1, 2, 3] rfl
      have hD9 := hD.sub (ws' := [(qM, .inr (9, [.int ((upd F 0 (0 : Int32)) 0), .ref q1, .ref q2, .ref q3, .int ((upd F 0 (0 : Int32)) 4), .int ((upd F 0 (0 : Int32)) 5), .int ((upd F 0 (0 : Int32)) 6), .int ((upd F 0 (0 : Int32)) 7), .int ((upd F 0 (0 : Int32)) 8), .int ((upd F 0 (0 : Int32)) 9), .long (J 10), .int ((upd F 0 (0 : Int32)) 11), .int ((upd F 0 (0 : Int32)) 12), .int ((upd F 0 (0 : Int32)) 13), .ref q4, .int ((upd F 0 (0 : Int32)) 15), .ref q5, .ref q6, .ref q7, .int ((upd F 0 (0 : Int32)) 19), .ref q8, .int ((upd F 0 (0 : Int32)) 21), .int ((upd F 0 (0 : Int32)) 22), .int ((upd F 0 (0 : Int32)) 23), .int ((upd F 0 (0 : Int32)) 24), .ref q9, .ref q10, .ref q11, .long (J 28)])), (q1, .inl (g.2 0, 376, .inl al)), (q5, .inl (g.2 0, 5, .inl fu_35)), (q6, .inl (g.2 0, 5, .inl sd_35))]) [0, 1, 2, 3] (by decide) rfl
      exact W.iret (v := (fu_35 p1.toNatClampNeg)) hx hb hr (fun t ht hW => ⟨⟨_, ((upd F 0 (0 : Int32)), fu_35, sd_35), rfl, hv, by rw [ht]; exact hP9, hD9⟩, hS.F ht⟩) hS.2.2 dX9_full_44
    · have hv := hvf hc
      refine lv_ldc (v := (-1000000 : Int32)) hx hb hown (hts (.constant RX9 222 (-1000000)) (List.mem_of_getElem? (i := 2) rfl)) dX9_full_29 ?_
      have hP9 := hP.sub (ws' := [(qM, .inr (9, [.int ((upd F 0 (0 : Int32)) 0), .ref q1, .ref q2, .ref q3, .int ((upd F 0 (0 : Int32)) 4), .int ((upd F 0 (0 : Int32)) 5), .int ((upd F 0 (0 : Int32)) 6), .int ((upd F 0 (0 : Int32)) 7), .int ((upd F 0 (0 : Int32)) 8), .int ((upd F 0 (0 : Int32)) 9), .long (J 10), .int ((upd F 0 (0 : Int32)) 11), .int ((upd F 0 (0 : Int32)) 12), .int ((upd F 0 (0 : Int32)) 13), .ref q4, .int ((upd F 0 (0 : Int32)) 15), .ref q5, .ref q6, .ref q7, .int ((upd F 0 (0 : Int32)) 19), .ref q8, .int ((upd F 0 (0 : Int32)) 21), .int ((upd F 0 (0 : Int32)) 22), .int ((upd F 0 (0 : Int32)) 23), .int ((upd F 0 (0 : Int32)) 24), .ref q9, .ref q10, .ref q11, .long (J 28)])), (q1, .inl (g.2 0, 376, .inl al)), (q5, .inl (g.2 0, 5, .inl fu)), (q6, .inl (g.2 0, 5, .inl sd))]) [0, 1, 2, 3] rfl
      have hD9 := hD.sub (ws' := [(qM, .inr (9, [.int ((upd F 0 (0 : Int32)) 0), .ref q1, .ref q2, .ref q3, .int ((upd F 0 (0 : Int32)) 4), .int ((upd F 0 (0 : Int32)) 5), .int ((upd F 0 (0 : Int32)) 6), .int ((upd F 0 (0 : Int32)) 7), .int ((upd F 0 (0 : Int32)) 8), .int ((upd F 0 (0 : Int32)) 9), .long (J 10), .int ((upd F 0 (0 : Int32)) 11), .int ((upd F 0 (0 : Int32)) 12), .int ((upd F 0 (0 : Int32)) 13), .ref q4, .int ((upd F 0 (0 : Int32)) 15), .ref q5, .ref q6, .ref q7, .int ((upd F 0 (0 : Int32)) 19), .ref q8, .int ((upd F 0 (0 : Int32)) 21), .int ((upd F 0 (0 : Int32)) 22), .int ((upd F 0 (0 : Int32)) 23), .int ((upd F 0 (0 : Int32)) 24), .ref q9, .ref q10, .ref q11, .long (J 28)])), (q1, .inl (g.2 0, 376, .inl al)), (q5, .inl (g.2 0, 5, .inl fu)), (q6, .inl (g.2 0, 5, .inl sd))]) [0, 1, 2, 3] (by decide) rfl
      exact W.iret (v := (-1000000 : Int32)) hx hb hr (fun t ht hW => ⟨⟨_, ((upd F 0 (0 : Int32)), fu, sd), rfl, hv, by rw [ht]; exact hP9, hD9⟩, hS.F ht⟩) hS.2.2 dX9_full_31
abbrev preX9_full (T : Cd) (G0 : Lg) (G1 : Lg) (lim : Nat) (F : Nat → Int32) (J : Nat → Int64) (al : Nat → Int32) (fu : Nat → Int32) (sd : Nat → Int32) (p1 : Int32) (p2 : Int32) : Prop := fcR T G0 G1 lim al
abbrev postX9_full (T : Cd) (G0 : Lg) (G1 : Lg) (lim : Nat) (F : Nat → Int32) (J : Nat → Int64) (al : Nat → Int32) (fu : Nat → Int32) (sd : Nat → Int32) (p1 : Int32) (p2 : Int32) (r : Int32) (F' : Nat → Int32) (fu' : Nat → Int32) (sd' : Nat → Int32) : Prop := r.toInt = spFull T p1.toInt p2.toInt
theorem sX9_full (T : Cd) (G0 : Lg) (G1 : Lg) (lim : Nat) (F : Nat → Int32) (J : Nat → Int64) (al : Nat → Int32) (fu : Nat → Int32) (sd : Nat → Int32) (p1 : Int32) (p2 : Int32) (H : preX9_full T G0 G1 lim F J al fu sd p1 p2) : vX9_full F J al fu sd p1 p2 (postX9_full T G0 G1 lim F J al fu sd p1 p2) := by
  obtain ⟨hT, -⟩ := id H
  have hn5 := hT.1.2
  unfold postX9_full spFull
  refine ⟨cn T, hT.1.1, fun r hr => ?_⟩
  have hr : r = if 0 ≤ p1.toInt ∧ p1.toInt < (cn T : Int) then 1 else 0 := hr
  by_cases c : 0 ≤ p1.toInt ∧ p1.toInt < (cn T : Int)
  · rw [if_pos c] at hr
    rw [hr]
    refine ⟨fun d => absurd d (by decide), fun _ => ?_⟩
    obtain ⟨p, hp⟩ : ∃ p : Nat, p1.toInt = (p : Int) := ⟨p1.toInt.toNat, by omega⟩
    have ep : p1.toInt.toNat = p := by omega
    have hL := mT_L hT (p := p) (by omega)
    refine ⟨p, 0, ⟨hp, rfl, by omega⟩, fun r2 hr2 => ⟨trivial, fun r3 hr3 => ?_⟩⟩
    have hr2 : r2.toInt = (cL T p : Int) := by rw [hr2]; exact hL.1
    have e1 : (r2 - (1 : Int32)).toInt = (cL T p : Int) - 1 := q_sub hr2 z1 (by omega) (by omega)
    have hr3 : r3 = if (0 : Int32).toInt ≤ p2.toInt ∧ p2.toInt ≤ (r2 - (1 : Int32)).toInt then 1 else 0 := hr3
    rw [e1, z0] at hr3
    rw [ep]
    by_cases d : 0 ≤ p2.toInt ∧ p2.toInt < (cL T p : Int)
    · rw [if_pos (by omega)] at hr3
      rw [if_pos ⟨c, d⟩, hr3]
      refine ⟨fun _ => ⟨T, ⟨hT, by omega, Or.inr ⟨p, hp, by omega, d⟩⟩, fun fu2 sd2 h2 => ⟨q_in hp (by omega), ?_⟩⟩, fun q => absurd q (by decide)⟩
      rw [q_cl hp]
      exact h2 p (by omega)
    · rw [if_neg (by omega)] at hr3
      rw [if_neg (fun q => d q.2), hr3]
      exact ⟨fun q => absurd rfl q, fun _ => rfl⟩
  · rw [if_neg c] at hr
    rw [hr, if_neg (fun q => c q.1)]
    exact ⟨fun _ => rfl, fun q => absurd rfl q⟩
set_option maxRecDepth 20000 in
theorem ggX9_better_X9_isPart : GoodIn wsX9_better wsX9_isPart := goodIn_r _ [7, 8, 9, 10, 6, 11, 53, 54, 55, 56, 57, 58, 59, 60, 61, 62, 63, 64, 65, 66, 67, 68, 69, 70, 71, 72, 73, 74, 75, 76, 77, 78, 79, 80, 81] (by decide +kernel) (by decide +kernel)
set_option maxRecDepth 20000 in
theorem gX9_better_X9_isPart : GoodIn wsX9_better (wsV RX9 192 RX9 yX9_isPart wsX9_isPart) := goodIn_app (goodIn_of _ (by decide +kernel)) ggX9_better_X9_isPart
set_option maxRecDepth 20000 in
theorem ggX9_better_X9_of : GoodIn wsX9_better wsX9_of := goodIn_r _ [15, 8, 53, 54, 55, 56, 57, 58, 59, 60, 61, 62, 63, 64, 65, 66, 67, 68, 69, 70, 71, 72, 73, 74, 75, 76, 77, 78, 79, 80, 81] (by decide +kernel) (by decide +kernel)
set_option maxRecDepth 20000 in
theorem gX9_better_X9_of : GoodIn wsX9_better (wsV RX9 195 RX9 yX9_of wsX9_of) := goodIn_app (goodIn_of _ (by decide +kernel)) ggX9_better_X9_of
set_option maxRecDepth 20000 in
theorem ggX9_better_X9_lays : GoodIn wsX9_better wsX9_lays := goodIn_r _ [19, 8, 53, 54, 55, 56, 57, 58, 59, 60, 61, 62, 63, 64, 65, 66, 67, 68, 69, 70, 71, 72, 73, 74, 75, 76, 77, 78, 79, 80, 81] (by decide +kernel) (by decide +kernel)
set_option maxRecDepth 20000 in
theorem gX9_better_X9_lays : GoodIn wsX9_better (wsV RX9 198 RX9 yX9_lays wsX9_lays) := goodIn_app (goodIn_of _ (by decide +kernel)) ggX9_better_X9_lays
set_option maxRecDepth 20000 in
theorem ggX9_better_X9_laysFulls : GoodIn wsX9_better wsX9_laysFulls := goodIn_r _ [23, 8, 24, 25, 26, 27, 28, 6, 29, 30, 31, 32, 33, 34, 35, 36, 12, 13, 14, 15, 37, 38, 39, 40, 41, 42, 43, 44, 45, 53, 54, 55, 56, 57, 58, 59, 60, 61, 62, 63, 64, 65, 66, 67, 68, 69, 70, 71, 72, 73, 74, 75, 76, 77, 78, 79, 80, 81] (by decide +kernel) (by decide +kernel)
set_option maxRecDepth 20000 in
theorem gX9_better_X9_laysFulls : GoodIn wsX9_better (wsV RX9 223 RX9 yX9_laysFulls wsX9_laysFulls) := goodIn_app (goodIn_of _ (by decide +kernel)) ggX9_better_X9_laysFulls
set_option maxRecDepth 20000 in
theorem ggX9_better_X9_leastFull : GoodIn wsX9_better wsX9_leastFull := goodIn_r _ [49, 24, 8, 50, 51, 6, 52, 53, 54, 55, 56, 57, 58, 59, 60, 61, 62, 63, 64, 65, 66, 67, 68, 69, 70, 71, 72, 73, 74, 75, 76, 77, 78, 79, 80, 81] (by decide +kernel) (by decide +kernel)
set_option maxRecDepth 20000 in
theorem gX9_better_X9_leastFull : GoodIn wsX9_better (wsV RX9 226 RX9 yX9_leastFull wsX9_leastFull) := goodIn_app (goodIn_of _ (by decide +kernel)) ggX9_better_X9_leastFull
theorem dX9_better_0 : decode cX9_better 0 = .ok (.aload_n 0, 1) := by decide +kernel
theorem dX9_better_1 : decode cX9_better 1 = .ok (.iconst 0, 1) := by decide +kernel
theorem dX9_better_2 : decode cX9_better 2 = .ok (.putfield 51, 3) := by decide +kernel
theorem dX9_better_5 : decode cX9_better 5 = .ok (.aload_n 0, 1) := by decide +kernel
theorem dX9_better_6 : decode cX9_better 6 = .ok (.iload_n 1, 1) := by decide +kernel
theorem dX9_better_7 : decode cX9_better 7 = .ok (.invokevirtual 192, 3) := by decide +kernel
theorem dX9_better_10 : decode cX9_better 10 = .ok (.ifCond .ne 6, 3) := by decide +kernel
theorem dX9_better_13 : decode cX9_better 13 = .ok (.ldc 222, 2) := by decide +kernel
theorem dX9_better_15 : decode cX9_better 15 = .ok (.ireturn, 1) := by decide +kernel
theorem dX9_better_16 : decode cX9_better 16 = .ok (.aload_n 0, 1) := by decide +kernel
theorem dX9_better_17 : decode cX9_better 17 = .ok (.iload_n 1, 1) := by decide +kernel
theorem dX9_better_18 : decode cX9_better 18 = .ok (.iconst 1, 1) := by decide +kernel
theorem dX9_better_19 : decode cX9_better 19 = .ok (.invokevirtual 195, 3) := by decide +kernel
theorem dX9_better_22 : decode cX9_better 22 = .ok (.istore_n 3, 1) := by decide +kernel
theorem dX9_better_23 : decode cX9_better 23 = .ok (.iconst 0, 1) := by decide +kernel
theorem dX9_better_24 : decode cX9_better 24 = .ok (.istore 4, 2) := by decide +kernel
theorem dX9_better_26 : decode cX9_better 26 = .ok (.ldc 222, 2) := by decide +kernel
theorem dX9_better_28 : decode cX9_better 28 = .ok (.istore 5, 2) := by decide +kernel
theorem dX9_better_30 : decode cX9_better 30 = .ok (.iconst 1, 1) := by decide +kernel
theorem dX9_better_31 : decode cX9_better 31 = .ok (.istore 6, 2) := by decide +kernel
theorem dX9_better_33 : decode cX9_better 33 = .ok (.iload 6, 2) := by decide +kernel
theorem dX9_better_35 : decode cX9_better 35 = .ok (.bipush 9, 2) := by decide +kernel
theorem dX9_better_37 : decode cX9_better 37 = .ok (.if_icmp .gt 42, 3) := by decide +kernel
theorem dX9_better_40 : decode cX9_better 40 = .ok (.aload_n 0, 1) := by decide +kernel
theorem dX9_better_41 : decode cX9_better 41 = .ok (.iload_n 1, 1) := by decide +kernel
theorem dX9_better_42 : decode cX9_better 42 = .ok (.iconst 1, 1) := by decide +kernel
theorem dX9_better_43 : decode cX9_better 43 = .ok (.iload 6, 2) := by decide +kernel
theorem dX9_better_45 : decode cX9_better 45 = .ok (.invokevirtual 198, 3) := by decide +kernel
theorem dX9_better_48 : decode cX9_better 48 = .ok (.aload_n 0, 1) := by decide +kernel
theorem dX9_better_49 : decode cX9_better 49 = .ok (.iconst (-1), 1) := by decide +kernel
theorem dX9_better_50 : decode cX9_better 50 = .ok (.iconst 0, 1) := by decide +kernel
theorem dX9_better_51 : decode cX9_better 51 = .ok (.invokevirtual 223, 3) := by decide +kernel
theorem dX9_better_54 : decode cX9_better 54 = .ok (.aload_n 0, 1) := by decide +kernel
theorem dX9_better_55 : decode cX9_better 55 = .ok (.invokevirtual 226, 3) := by decide +kernel
theorem dX9_better_58 : decode cX9_better 58 = .ok (.iload 5, 2) := by decide +kernel
theorem dX9_better_60 : decode cX9_better 60 = .ok (.if_icmp .le 13, 3) := by decide +kernel
theorem dX9_better_63 : decode cX9_better 63 = .ok (.aload_n 0, 1) := by decide +kernel
theorem dX9_better_64 : decode cX9_better 64 = .ok (.invokevirtual 226, 3) := by decide +kernel
theorem dX9_better_67 : decode cX9_better 67 = .ok (.istore 5, 2) := by decide +kernel
theorem dX9_better_69 : decode cX9_better 69 = .ok (.iload 6, 2) := by decide +kernel
theorem dX9_better_71 : decode cX9_better 71 = .ok (.istore 4, 2) := by decide +kernel
theorem dX9_better_73 : decode cX9_better 73 = .ok (.iinc 6 1, 3) := by decide +kernel
theorem dX9_better_76 : decode cX9_better 76 = .ok (.goto (-43), 3) := by decide +kernel
theorem dX9_better_79 : decode cX9_better 79 = .ok (.aload_n 0, 1) := by decide +kernel
theorem dX9_better_80 : decode cX9_better 80 = .ok (.iload_n 1, 1) := by decide +kernel
theorem dX9_better_81 : decode cX9_better 81 = .ok (.iconst 1, 1) := by decide +kernel
theorem dX9_better_82 : decode cX9_better 82 = .ok (.iload_n 3, 1) := by decide +kernel
theorem dX9_better_83 : decode cX9_better 83 = .ok (.invokevirtual 198, 3) := by decide +kernel
theorem dX9_better_86 : decode cX9_better 86 = .ok (.iload_n 2, 1) := by decide +kernel
theorem dX9_better_87 : decode cX9_better 87 = .ok (.ifCond .eq 8, 3) := by decide +kernel
theorem dX9_better_90 : decode cX9_better 90 = .ok (.iload 5, 2) := by decide +kernel
theorem dX9_better_92 : decode cX9_better 92 = .ok (.goto 5, 3) := by decide +kernel
theorem dX9_better_95 : decode cX9_better 95 = .ok (.iload 4, 2) := by decide +kernel
theorem dX9_better_97 : decode cX9_better 97 = .ok (.ireturn, 1) := by decide +kernel
abbrev rmX9_better : Room := { frames := 4, cells := 0, slots := 0, locals := 101 }
theorem inX9_better_9 : ∀ w ∈ wsX90, w ∈ wsX9_better := by decide +kernel
def vX9_better_c33 (J : Nat → Int64) (p1 : Int32) (p2 : Int32) (Q : Int32 → (Nat → Int32) → (Nat → Int32) → (Nat → Int32) → (Nat → Int32) → Prop) : Nat → Int32 → Int32 → Int32 → Int32 → (Nat → Int32) → (Nat → Int32) → (Nat → Int32) → (Nat → Int32) → Prop
  | 0, _, _, _, _, _, _, _, _ => False
  | n + 1, x3, x4, x5, x6, F, al, fu, sd => (((9 : Int32) < x6 → (∃ (p_83 : Nat) (w_83 : Nat), preX9_lays p_83 w_83 F J al p1 (1 : Int32) x3 ∧ (∀ (al_83 : Nat → Int32), postX9_lays p_83 w_83 F J al p1 (1 : Int32) x3 al_83 → ((p2 = 0 → (Q x4 F al_83 fu sd)) ∧ (¬ p2 = 0 → (Q x5 F al_83 fu sd)))))) ∧ (¬ (9 : Int32) < x6 → (∃ (p_45 : Nat) (w_45 : Nat), preX9_lays p_45 w_45 F J al p1 (1 : Int32) x6 ∧ (∀ (al_45 : Nat → Int32), postX9_lays p_45 w_45 F J al p1 (1 : Int32) x6 al_45 → (∃ (T_51 : Cd), preX9_laysFulls T_51 F J al_45 fu sd (-1 : Int32) (0 : Int32) ∧ (∀ (fu_51 : Nat → Int32) (sd_51 : Nat → Int32), postX9_laysFulls T_51 F J al_45 fu sd (-1 : Int32) (0 : Int32) fu_51 sd_51 → (∃ (n_55 : Nat) (z_55 : Nat → Int), preX9_leastFull n_55 z_55 F J al_45 fu_51 ∧ (∀ r_55 : Int32, postX9_leastFull n_55 z_55 F J al_45 fu_51 r_55 → ((r_55 ≤ x5 → (vX9_better_c33 J p1 p2 Q n x3 x4 x5 (x6 + (1 : Int32)) F al_45 fu_51 sd_51)) ∧ (¬ r_55 ≤ x5 → (∃ (n_64 : Nat) (z_64 : Nat → Int), preX9_leastFull n_64 z_64 F J al_45 fu_51 ∧ (∀ r_64 : Int32, postX9_leastFull n_64 z_64 F J al_45 fu_51 r_64 → (vX9_better_c33 J p1 p2 Q n x3 x6 r_64 (x6 + (1 : Int32)) F al_45 fu_51 sd_51)))))))))))))
set_option maxHeartbeats 4000000 in
set_option maxRecDepth 100000 in
theorem kX9_better_c33 {p : Program} {l : Launch} {e : Env} {s : State} {m : MethodId} {args : Array Value} {below : List Frame} {meth : Method} {c : Code} {g : GP} {qM : Nat} {q1 : Nat} {q2 : Nat} {q3 : Nat} {q4 : Nat} {q5 : Nat} {q6 : Nat} {q7 : Nat} {q8 : Nat} {q9 : Nat} {q10 : Nat} {q11 : Nat} {J : Nat → Int64} {p1 : Int32} {p2 : Int32} {Q : Int32 → (Nat → Int32) → (Nat → Int32) → (Nat → Int32) → (Nat → Int32) → Prop} {A : Nat → Prop} (S : CallFix p m c cX9_better 7 s args wsX9_better RX9) (hr : meth.sig.returnType = (some .int)) (hlocks : meth.locks = false) (hG : GK g s) (hA : ∀ q : Nat, s.heap.size ≤ q → A q) : ∀ (n : Nat), ∀ (x3 : Int32) (x4 : Int32) (x5 : Int32) (x6 : Int32) (F : Nat → Int32) (al : Nat → Int32) (fu : Nat → Int32) (sd : Nat → Int32), vX9_better_c33 J p1 p2 Q n x3 x4 x5 x6 F al fu sd → ∀ (H : Heap) (locs : List Loc), va_P g.1 vwCl [(qM, .inr (9, [.int (F 0), .ref q1, .ref q2, .ref q3, .int (F 4), .int (F 5), .int (F 6), .int (F 7), .int (F 8), .int (F 9), .long (J 10), .int (F 11), .int (F 12), .int (F 13), .ref q4, .int (F 15), .ref q5, .ref q6, .ref q7, .int (F 19), .ref q8, .int (F 21), .int (F 22), .int (F 23), .int (F 24), .ref q9, .ref q10, .ref q11, .long (J 28)])), (q1, .inl (g.2 0, 376, .inl al)), (q5, .inl (g.2 0, 5, .inl fu)), (q6, .inl (g.2 0, 5, .inl sd))] H → va_D A [(qM, .inr (9, [.int (F 0), .ref q1, .ref q2, .ref q3, .int (F 4), .int (F 5), .int (F 6), .int (F 7), .int (F 8), .int (F 9), .long (J 10), .int (F 11), .int (F 12), .int (F 13), .ref q4, .int (F 15), .ref q5, .ref q6, .ref q7, .int (F 19), .ref q8, .int (F 21), .int (F 22), .int (F 23), .int (F 24), .ref q9, .ref q10, .ref q11, .long (J 28)])), (q1, .inl (g.2 0, 376, .inl al)), (q5, .inl (g.2 0, 5, .inl fu)), (q6, .inl (g.2 0, 5, .inl sd))] → va_S A s.heap H locs → ∀ (ls : Array Slot), lv_has ls 7 [(0, .ref qM), (1, .int p1), (2, .int p2), (3, .int x3), (4, .int x4), (5, .int x5), (6, .int x6)] → W p l e (headSpec wsX9_better rmX9_better).room s m args below meth c H locs 0 0 (MQ below (va_Qi (fun (r : Int32) (u : (Nat → Int32) × (Nat → Int32) × (Nat → Int32) × (Nat → Int32)) => Q r u.1 u.2.1 u.2.2.1 u.2.2.2) (fun (u : (Nat → Int32) × (Nat → Int32) × (Nat → Int32) × (Nat → Int32)) t => va_P g.1 vwCl [(qM, .inr (9, [.int (u.1 0), .ref q1, .ref q2, .ref q3, .int (u.1 4), .int (u.1 5), .int (u.1 6), .int (u.1 7), .int (u.1 8), .int (u.1 9), .long (J 10), .int (u.1 11), .int (u.1 12), .int (u.1 13), .ref q4, .int (u.1 15), .ref q5, .ref q6, .ref q7, .int (u.1 19), .ref q8, .int (u.1 21), .int (u.1 22), .int (u.1 23), .int (u.1 24), .ref q9, .ref q10, .ref q11, .long (J 28)])), (q1, .inl (g.2 0, 376, .inl u.2.1)), (q5, .inl (g.2 0, 5, .inl u.2.2.1)), (q6, .inl (g.2 0, 5, .inl u.2.2.2))] t.heap ∧ va_D A [(qM, .inr (9, [.int (u.1 0), .ref q1, .ref q2, .ref q3, .int (u.1 4), .int (u.1 5), .int (u.1 6), .int (u.1 7), .int (u.1 8), .int (u.1 9), .long (J 10), .int (u.1 11), .int (u.1 12), .int (u.1 13), .ref q4, .int (u.1 15), .ref q5, .ref q6, .ref q7, .int (u.1 19), .ref q8, .int (u.1 21), .int (u.1 22), .int (u.1 23), .int (u.1 24), .ref q9, .ref q10, .ref q11, .long (J 28)])), (q1, .inl (g.2 0, 376, .inl u.2.1)), (q5, .inl (g.2 0, 5, .inl u.2.2.1)), (q6, .inl (g.2 0, 5, .inl u.2.2.2))]) A) args s 0 0 A) (F0 m 33 ls []) := by
  obtain ⟨hx, hb, hml, hown, hts⟩ := id S
  have hK := hG.1
  intro n
  induction n with
  | zero => intro x3 x4 x5 x6 F al fu sd hv; exact hv.elim
  | succ n ih =>
    intro x3 x4 x5 x6 F al fu sd hv H locs hP hD hS ls hl
    refine lv_iload hx hb dX9_better_33 (lv_at hl 6 rfl) ?_
    refine lv_bipush (v := (9 : Int32)) hx hb dX9_better_35 (by decide) ?_
    obtain ⟨hvt, hvf⟩ := hv
    refine lv_icmp_gt (tgt := 79) hx hb dX9_better_37 (by decide) (fun hc => ?_) (fun hc => ?_)
    · have hv := hvt hc
      refine lv_aload_n hx hb dX9_better_79 rfl (lv_at hl 0 rfl) ?_
      refine lv_iload_n hx hb dX9_better_80 rfl (lv_at hl 1 rfl) ?_
      refine lv_iconst (v := (1 : Int32)) hx hb dX9_better_81 (by decide) ?_
      refine lv_iload_n hx hb dX9_better_82 rfl (lv_at hl 3 rfl) ?_
      obtain ⟨p_83, w_83, ho_1, hv⟩ := hv
      have hPc := hP.sub (ws' := [(qM, .inr (9, [.int (F 0), .ref q1, .ref q2, .ref q3, .int (F 4), .int (F 5), .int (F 6), .int (F 7), .int (F 8), .int (F 9), .long (J 10), .int (F 11), .int (F 12), .int (F 13), .ref q4, .int (F 15), .ref q5, .ref q6, .ref q7, .int (F 19), .ref q8, .int (F 21), .int (F 22), .int (F 23), .int (F 24), .ref q9, .ref q10, .ref q11, .long (J 28)])), (q1, .inl (g.2 0, 376, .inl al))]) [0, 1] rfl
      have hDc := hD.sub (ws' := [(qM, .inr (9, [.int (F 0), .ref q1, .ref q2, .ref q3, .int (F 4), .int (F 5), .int (F 6), .int (F 7), .int (F 8), .int (F 9), .long (J 10), .int (F 11), .int (F 12), .int (F 13), .ref q4, .int (F 15), .ref q5, .ref q6, .ref q7, .int (F 19), .ref q8, .int (F 21), .int (F 22), .int (F 23), .int (F 24), .ref q9, .ref q10, .ref q11, .long (J 28)])), (q1, .inl (g.2 0, 376, .inl al))]) [0, 1] (by decide) rfl
      have hFc := va_free (wc := [(qM, .inr (9, [.int (F 0), .ref q1, .ref q2, .ref q3, .int (F 4), .int (F 5), .int (F 6), .int (F 7), .int (F 8), .int (F 9), .long (J 10), .int (F 11), .int (F 12), .int (F 13), .ref q4, .int (F 15), .ref q5, .ref q6, .ref q7, .int (F 19), .ref q8, .int (F 21), .int (F 22), .int (F 23), .int (F 24), .ref q9, .ref q10, .ref q11, .long (J 28)])), (q1, .inl (g.2 0, 376, .inl al))]) hD hS hA [0, 1] rfl
      refine va_callv (va_runV (As := [.int p1, .int (1 : Int32), .int x3]) (rest := []) S (wX9_lays l g qM q1 q2 q3 q4 q5 q6 q7 q8 q9 q10 q11 H.size F J al p1 (1 : Int32) x3 (sX9_lays p_83 w_83 F J al p1 (1 : Int32) x3 ho_1)) (cwV 3 hts gX9_better_X9_lays rfl rfl rfl (by decide +kernel) ⟨Nat.le_of_ble_eq_true rfl, Nat.le_of_ble_eq_true rfl⟩) ⟨blindRW, va_recv hK hP (ci := 9) (q0 := 0) rfl rfl, fun U hU hW => ⟨rfl, by rw [hU], by rw [hU]; exact hPc, hG.warm hW, hDc.weaken (fun _ _ _ _ => trivial)⟩⟩ rfl rfl hl.1 rfl (lv_room (Nat.le_of_ble_eq_true rfl)) dX9_better_83 ⟨Nat.le_of_ble_eq_true rfl, Nat.le_of_ble_eq_true rfl⟩) hS (fun q _ h => hFc q h) hFc (fun u t H1 locs ht hvm hw hB hz1 hk1 hS => ?_)
      obtain ⟨al_83, rfl⟩ : ∃ z, z = u := ⟨_, rfl⟩
      obtain ⟨hP1, hD1⟩ := hB
      rw [ht] at hP1
      have hv := hv al_83 hw
      obtain ⟨hP, hD⟩ := va_join (wr := [(q5, .inl (g.2 0, 5, .inl fu)), (q6, .inl (g.2 0, 5, .inl sd))]) (w1 := [(qM, .inr (9, [.int (F 0), .ref q1, .ref q2, .ref q3, .int (F 4), .int (F 5), .int (F 6), .int (F 7), .int (F 8), .int (F 9), .long (J 10), .int (F 11), .int (F 12), .int (F 13), .ref q4, .int (F 15), .ref q5, .ref q6, .ref q7, .int (F 19), .ref q8, .int (F 21), .int (F 22), .int (F 23), .int (F 24), .ref q9, .ref q10, .ref q11, .long (J 28)])), (q1, .inl (g.2 0, 376, .inl al_83))]) hP hD [0, 1] [2, 3] rfl rfl (by decide) (by decide) hk1 hFc hP1 hD1
      clear hP1 hD1 hPc hDc hFc hk1
      generalize H1 = H at hP hS ⊢
      have hP : va_P g.1 vwCl [(q5, .inl (g.2 0, 5, .inl fu)), (q6, .inl (g.2 0, 5, .inl sd)), (qM, .inr (9, [.int (F 0), .ref q1, .ref q2, .ref q3, .int (F 4), .int (F 5), .int (F 6), .int (F 7), .int (F 8), .int (F 9), .long (J 10), .int (F 11), .int (F 12), .int (F 13), .ref q4, .int (F 15), .ref q5, .ref q6, .ref q7, .int (F 19), .ref q8, .int (F 21), .int (F 22), .int (F 23), .int (F 24), .ref q9, .ref q10, .ref q11, .long (J 28)])), (q1, .inl (g.2 0, 376, .inl al_83))] H := hP
      have hD : va_D A [(q5, .inl (g.2 0, 5, .inl fu)), (q6, .inl (g.2 0, 5, .inl sd)), (qM, .inr (9, [.int (F 0), .ref q1, .ref q2, .ref q3, .int (F 4), .int (F 5), .int (F 6), .int (F 7), .int (F 8), .int (F 9), .long (J 10), .int (F 11), .int (F 12), .int (F 13), .ref q4, .int (F 15), .ref q5, .ref q6, .ref q7, .int (F 19), .ref q8, .int (F 21), .int (F 22), .int (F 23), .int (F 24), .ref q9, .ref q10, .ref q11, .long (J 28)])), (q1, .inl (g.2 0, 376, .inl al_83))] := hD
      refine lv_iload_n hx hb dX9_better_86 rfl (lv_at hl 2 rfl) ?_
      obtain ⟨hvt, hvf⟩ := hv
      refine lv_if_eq (tgt := 95) hx hb dX9_better_87 (by decide) (fun hc => ?_) (fun hc => ?_)
      · have hv := hvt hc
        refine lv_iload hx hb dX9_better_95 (lv_at hl 4 rfl) ?_
        have hP9 := hP.sub (ws' := [(qM, .inr (9, [.int (F 0), .ref q1, .ref q2, .ref q3, .int (F 4), .int (F 5), .int (F 6), .int (F 7), .int (F 8), .int (F 9), .long (J 10), .int (F 11), .int (F 12), .int (F 13), .ref q4, .int (F 15), .ref q5, .ref q6, .ref q7, .int (F 19), .ref q8, .int (F 21), .int (F 22), .int (F 23), .int (F 24), .ref q9, .ref q10, .ref q11, .long (J 28)])), (q1, .inl (g.2 0, 376, .inl al_83)), (q5, .inl (g.2 0, 5, .inl fu)), (q6, .inl (g.2 0, 5, .inl sd))]) [2, 3, 0, 1] rfl
        have hD9 := hD.sub (ws' := [(qM, .inr (9, [.int (F 0), .ref q1, .ref q2, .ref q3, .int (F 4), .int (F 5), .int (F 6), .int (F 7), .int (F 8), .int (F 9), .long (J 10), .int (F 11), .int (F 12), .int (F 13), .ref q4, .int (F 15), .ref q5, .ref q6, .ref q7, .int (F 19), .ref q8, .int (F 21), .int (F 22), .int (F 23), .int (F 24), .ref q9, .ref q10, .ref q11, .long (J 28)])), (q1, .inl (g.2 0, 376, .inl al_83)), (q5, .inl (g.2 0, 5, .inl fu)), (q6, .inl (g.2 0, 5, .inl sd))]) [2, 3, 0, 1] (by decide) rfl
        exact W.iret (v := x4) hx hb hr (fun t ht hW => ⟨⟨_, (F, al_83, fu, sd), rfl, hv, by rw [ht]; exact hP9, hD9⟩, hS.F ht⟩) hS.2.2 dX9_better_97
      · have hv := hvf hc
        refine lv_iload hx hb dX9_better_90 (lv_at hl 5 rfl) ?_
        refine lv_goto (tgt := 97) hx hb dX9_better_92 (by decide) ?_
        have hP9 := hP.sub (ws' := [(qM, .inr (9, [.int (F 0), .ref q1, .ref q2, .ref q3, .int (F 4), .int (F 5), .int (F 6), .int (F 7), .int (F 8), .int (F 9), .long (J 10), .int (F 11), .int (F 12), .int (F 13), .ref q4, .int (F 15), .ref q5, .ref q6, .ref q7, .int (F 19), .ref q8, .int (F 21), .int (F 22), .int (F 23), .int (F 24), .ref q9, .ref q10, .ref q11, .long (J 28)])), (q1, .inl (g.2 0, 376, .inl al_83)), (q5, .inl (g.2 0, 5, .inl fu)), (q6, .inl (g.2 0, 5, .inl sd))]) [2, 3, 0, 1] rfl
        have hD9 := hD.sub (ws' := [(qM, .inr (9, [.int (F 0), .ref q1, .ref q2, .ref q3, .int (F 4), .int (F 5), .int (F 6), .int (F 7), .int (F 8), .int (F 9), .long (J 10), .int (F 11), .int (F 12), .int (F 13), .ref q4, .int (F 15), .ref q5, .ref q6, .ref q7, .int (F 19), .ref q8, .int (F 21), .int (F 22), .int (F 23), .int (F 24), .ref q9, .ref q10, .ref q11, .long (J 28)])), (q1, .inl (g.2 0, 376, .inl al_83)), (q5, .inl (g.2 0, 5, .inl fu)), (q6, .inl (g.2 0, 5, .inl sd))]) [2, 3, 0, 1] (by decide) rfl
        exact W.iret (v := x5) hx hb hr (fun t ht hW => ⟨⟨_, (F, al_83, fu, sd), rfl, hv, by rw [ht]; exact hP9, hD9⟩, hS.F ht⟩) hS.2.2 dX9_better_97
    · have hv := hvf hc
      refine lv_aload_n hx hb dX9_better_40 rfl (lv_at hl 0 rfl) ?_
      refine lv_iload_n hx hb dX9_better_41 rfl (lv_at hl 1 rfl) ?_
      refine lv_iconst (v := (1 : Int32)) hx hb dX9_better_42 (by decide) ?_
      refine lv_iload hx hb dX9_better_43 (lv_at hl 6 rfl) ?_
      obtain ⟨p_45, w_45, ho_2, hv⟩ := hv
      have hPc := hP.sub (ws' := [(qM, .inr (9, [.int (F 0), .ref q1, .ref q2, .ref q3, .int (F 4), .int (F 5), .int (F 6), .int (F 7), .int (F 8), .int (F 9), .long (J 10), .int (F 11), .int (F 12), .int (F 13), .ref q4, .int (F 15), .ref q5, .ref q6, .ref q7, .int (F 19), .ref q8, .int (F 21), .int (F 22), .int (F 23), .int (F 24), .ref q9, .ref q10, .ref q11, .long (J 28)])), (q1, .inl (g.2 0, 376, .inl al))]) [0, 1] rfl
      have hDc := hD.sub (ws' := [(qM, .inr (9, [.int (F 0), .ref q1, .ref q2, .ref q3, .int (F 4), .int (F 5), .int (F 6), .int (F 7), .int (F 8), .int (F 9), .long (J 10), .int (F 11), .int (F 12), .int (F 13), .ref q4, .int (F 15), .ref q5, .ref q6, .ref q7, .int (F 19), .ref q8, .int (F 21), .int (F 22), .int (F 23), .int (F 24), .ref q9, .ref q10, .ref q11, .long (J 28)])), (q1, .inl (g.2 0, 376, .inl al))]) [0, 1] (by decide) rfl
      have hFc := va_free (wc := [(qM, .inr (9, [.int (F 0), .ref q1, .ref q2, .ref q3, .int (F 4), .int (F 5), .int (F 6), .int (F 7), .int (F 8), .int (F 9), .long (J 10), .int (F 11), .int (F 12), .int (F 13), .ref q4, .int (F 15), .ref q5, .ref q6, .ref q7, .int (F 19), .ref q8, .int (F 21), .int (F 22), .int (F 23), .int (F 24), .ref q9, .ref q10, .ref q11, .long (J 28)])), (q1, .inl (g.2 0, 376, .inl al))]) hD hS hA [0, 1] rfl
      refine va_callv (va_runV (As := [.int p1, .int (1 : Int32), .int x6]) (rest := []) S (wX9_lays l g qM q1 q2 q3 q4 q5 q6 q7 q8 q9 q10 q11 H.size F J al p1 (1 : Int32) x6 (sX9_lays p_45 w_45 F J al p1 (1 : Int32) x6 ho_2)) (cwV 3 hts gX9_better_X9_lays rfl rfl rfl (by decide +kernel) ⟨Nat.le_of_ble_eq_true rfl, Nat.le_of_ble_eq_true rfl⟩) ⟨blindRW, va_recv hK hP (ci := 9) (q0 := 0) rfl rfl, fun U hU hW => ⟨rfl, by rw [hU], by rw [hU]; exact hPc, hG.warm hW, hDc.weaken (fun _ _ _ _ => trivial)⟩⟩ rfl rfl hl.1 rfl (lv_room (Nat.le_of_ble_eq_true rfl)) dX9_better_45 ⟨Nat.le_of_ble_eq_true rfl, Nat.le_of_ble_eq_true rfl⟩) hS (fun q _ h => hFc q h) hFc (fun u t H1 locs ht hvm hw hB hz1 hk1 hS => ?_)
      obtain ⟨al_45, rfl⟩ : ∃ z, z = u := ⟨_, rfl⟩
      obtain ⟨hP1, hD1⟩ := hB
      rw [ht] at hP1
      have hv := hv al_45 hw
      obtain ⟨hP, hD⟩ := va_join (wr := [(q5, .inl (g.2 0, 5, .inl fu)), (q6, .inl (g.2 0, 5, .inl sd))]) (w1 := [(qM, .inr (9, [.int (F 0), .ref q1, .ref q2, .ref q3, .int (F 4), .int (F 5), .int (F 6), .int (F 7), .int (F 8), .int (F 9), .long (J 10), .int (F 11), .int (F 12), .int (F 13), .ref q4, .int (F 15), .ref q5, .ref q6, .ref q7, .int (F 19), .ref q8, .int (F 21), .int (F 22), .int (F 23), .int (F 24), .ref q9, .ref q10, .ref q11, .long (J 28)])), (q1, .inl (g.2 0, 376, .inl al_45))]) hP hD [0, 1] [2, 3] rfl rfl (by decide) (by decide) hk1 hFc hP1 hD1
      clear hP1 hD1 hPc hDc hFc hk1
      generalize H1 = H at hP hS ⊢
      have hP : va_P g.1 vwCl [(q5, .inl (g.2 0, 5, .inl fu)), (q6, .inl (g.2 0, 5, .inl sd)), (qM, .inr (9, [.int (F 0), .ref q1, .ref q2, .ref q3, .int (F 4), .int (F 5), .int (F 6), .int (F 7), .int (F 8), .int (F 9), .long (J 10), .int (F 11), .int (F 12), .int (F 13), .ref q4, .int (F 15), .ref q5, .ref q6, .ref q7, .int (F 19), .ref q8, .int (F 21), .int (F 22), .int (F 23), .int (F 24), .ref q9, .ref q10, .ref q11, .long (J 28)])), (q1, .inl (g.2 0, 376, .inl al_45))] H := hP
      have hD : va_D A [(q5, .inl (g.2 0, 5, .inl fu)), (q6, .inl (g.2 0, 5, .inl sd)), (qM, .inr (9, [.int (F 0), .ref q1, .ref q2, .ref q3, .int (F 4), .int (F 5), .int (F 6), .int (F 7), .int (F 8), .int (F 9), .long (J 10), .int (F 11), .int (F 12), .int (F 13), .ref q4, .int (F 15), .ref q5, .ref q6, .ref q7, .int (F 19), .ref q8, .int (F 21), .int (F 22), .int (F 23), .int (F 24), .ref q9, .ref q10, .ref q11, .long (J 28)])), (q1, .inl (g.2 0, 376, .inl al_45))] := hD
      refine lv_aload_n hx hb dX9_better_48 rfl (lv_at hl 0 rfl) ?_
      refine lv_iconst (v := (-1 : Int32)) hx hb dX9_better_49 (by decide) ?_
      refine lv_iconst (v := (0 : Int32)) hx hb dX9_better_50 (by decide) ?_
      obtain ⟨T_51, ho_3, hv⟩ := hv
      have hPc := hP.sub (ws' := [(qM, .inr (9, [.int (F 0), .ref q1, .ref q2, .ref q3, .int (F 4), .int (F 5), .int (F 6), .int (F 7), .int (F 8), .int (F 9), .long (J 10), .int (F 11), .int (F 12), .int (F 13), .ref q4, .int (F 15), .ref q5, .ref q6, .ref q7, .int (F 19), .ref q8, .int (F 21), .int (F 22), .int (F 23), .int (F 24), .ref q9, .ref q10, .ref q11, .long (J 28)])), (q1, .inl (g.2 0, 376, .inl al_45)), (q5, .inl (g.2 0, 5, .inl fu)), (q6, .inl (g.2 0, 5, .inl sd))]) [2, 3, 0, 1] rfl
      have hDc := hD.sub (ws' := [(qM, .inr (9, [.int (F 0), .ref q1, .ref q2, .ref q3, .int (F 4), .int (F 5), .int (F 6), .int (F 7), .int (F 8), .int (F 9), .long (J 10), .int (F 11), .int (F 12), .int (F 13), .ref q4, .int (F 15), .ref q5, .ref q6, .ref q7, .int (F 19), .ref q8, .int (F 21), .int (F 22), .int (F 23), .int (F 24), .ref q9, .ref q10, .ref q11, .long (J 28)])), (q1, .inl (g.2 0, 376, .inl al_45)), (q5, .inl (g.2 0, 5, .inl fu)), (q6, .inl (g.2 0, 5, .inl sd))]) [2, 3, 0, 1] (by decide) rfl
      have hFc := va_free (wc := [(qM, .inr (9, [.int (F 0), .ref q1, .ref q2, .ref q3, .int (F 4), .int (F 5), .int (F 6), .int (F 7), .int (F 8), .int (F 9), .long (J 10), .int (F 11), .int (F 12), .int (F 13), .ref q4, .int (F 15), .ref q5, .ref q6, .ref q7, .int (F 19), .ref q8, .int (F 21), .int (F 22), .int (F 23), .int (F 24), .ref q9, .ref q10, .ref q11, .long (J 28)])), (q1, .inl (g.2 0, 376, .inl al_45)), (q5, .inl (g.2 0, 5, .inl fu)), (q6, .inl (g.2 0, 5, .inl sd))]) hD hS hA [2, 3, 0, 1] rfl
      refine va_callv (va_runV (As := [.int (-1 : Int32), .int (0 : Int32)]) (rest := []) S (wX9_laysFulls l g qM q1 q2 q3 q4 q5 q6 q7 q8 q9 q10 q11 H.size F J al_45 fu sd (-1 : Int32) (0 : Int32) (sX9_laysFulls T_51 F J al_45 fu sd (-1 : Int32) (0 : Int32) ho_3)) (cwV 2 hts gX9_better_X9_laysFulls rfl rfl rfl (by decide +kernel) ⟨Nat.le_of_ble_eq_true rfl, Nat.le_of_ble_eq_true rfl⟩) ⟨blindRW, va_recv hK hP (ci := 9) (q0 := 2) rfl rfl, fun U hU hW => ⟨rfl, by rw [hU], by rw [hU]; exact hPc, hG.warm hW, hDc.weaken (fun _ _ _ _ => trivial)⟩⟩ rfl rfl hl.1 rfl (lv_room (Nat.le_of_ble_eq_true rfl)) dX9_better_51 ⟨Nat.le_of_ble_eq_true rfl, Nat.le_of_ble_eq_true rfl⟩) hS (fun q _ h => hFc q h) hFc (fun u t H1 locs ht hvm hw hB hz1 hk1 hS => ?_)
      obtain ⟨fu_51, sd_51⟩ := u
      obtain ⟨hP1, hD1⟩ := hB
      rw [ht] at hP1
      have hv := hv fu_51 sd_51 hw
      obtain ⟨hP, hD⟩ := va_join (wr := []) (w1 := [(qM, .inr (9, [.int (F 0), .ref q1, .ref q2, .ref q3, .int (F 4), .int (F 5), .int (F 6), .int (F 7), .int (F 8), .int (F 9), .long (J 10), .int (F 11), .int (F 12), .int (F 13), .ref q4, .int (F 15), .ref q5, .ref q6, .ref q7, .int (F 19), .ref q8, .int (F 21), .int (F 22), .int (F 23), .int (F 24), .ref q9, .ref q10, .ref q11, .long (J 28)])), (q1, .inl (g.2 0, 376, .inl al_45)), (q5, .inl (g.2 0, 5, .inl fu_51)), (q6, .inl (g.2 0, 5, .inl sd_51))]) hP hD [2, 3, 0, 1] [] rfl rfl (by decide) (by decide) hk1 hFc hP1 hD1
      clear hP1 hD1 hPc hDc hFc hk1
      generalize H1 = H at hP hS ⊢
      have hP : va_P g.1 vwCl [(qM, .inr (9, [.int (F 0), .ref q1, .ref q2, .ref q3, .int (F 4), .int (F 5), .int (F 6), .int (F 7), .int (F 8), .int (F 9), .long (J 10), .int (F 11), .int (F 12), .int (F 13), .ref q4, .int (F 15), .ref q5, .ref q6, .ref q7, .int (F 19), .ref q8, .int (F 21), .int (F 22), .int (F 23), .int (F 24), .ref q9, .ref q10, .ref q11, .long (J 28)])), (q1, .inl (g.2 0, 376, .inl al_45)), (q5, .inl (g.2 0, 5, .inl fu_51)), (q6, .inl (g.2 0, 5, .inl sd_51))] H := hP
      have hD : va_D A [(qM, .inr (9, [.int (F 0), .ref q1, .ref q2, .ref q3, .int (F 4), .int (F 5), .int (F 6), .int (F 7), .int (F 8), .int (F 9), .long (J 10), .int (F 11), .int (F 12), .int (F 13), .ref q4, .int (F 15), .ref q5, .ref q6, .ref q7, .int (F 19), .ref q8, .int (F 21), .int (F 22), .int (F 23), .int (F 24), .ref q9, .ref q10, .ref q11, .long (J 28)])), (q1, .inl (g.2 0, 376, .inl al_45)), (q5, .inl (g.2 0, 5, .inl fu_51)), (q6, .inl (g.2 0, 5, .inl sd_51))] := hD
      refine lv_aload_n hx hb dX9_better_54 rfl (lv_at hl 0 rfl) ?_
      obtain ⟨n_55, z_55, ho_4, hv⟩ := hv
      refine vp_callSi (W.runV (As := []) (rest := []) S (wX9_leastFull l g qM q1 q2 q3 q4 q5 q6 q7 q8 q9 q10 q11 F J al_45 fu_51 (sX9_leastFull n_55 z_55 F J al_45 fu_51 ho_4)) (cwV 0 hts gX9_better_X9_leastFull rfl rfl rfl (by decide +kernel) ⟨Nat.le_of_ble_eq_true rfl, Nat.le_of_ble_eq_true rfl⟩) ⟨blindRO, va_recv hK hP (ci := 9) (q0 := 0) rfl rfl, fun U hU hW => ⟨rfl, by rw [hU]; exact hP.sub (ws' := [(qM, .inr (9, [.int (F 0), .ref q1, .ref q2, .ref q3, .int (F 4), .int (F 5), .int (F 6), .int (F 7), .int (F 8), .int (F 9), .long (J 10), .int (F 11), .int (F 12), .int (F 13), .ref q4, .int (F 15), .ref q5, .ref q6, .ref q7, .int (F 19), .ref q8, .int (F 21), .int (F 22), .int (F 23), .int (F 24), .ref q9, .ref q10, .ref q11, .long (J 28)])), (q1, .inl (g.2 0, 376, .inl al_45)), (q5, .inl (g.2 0, 5, .inl fu_51))]) [0, 1, 2] rfl, hG.warm hW⟩⟩ rfl rfl hl.1 rfl (lv_room (Nat.le_of_ble_eq_true rfl)) dX9_better_55 ⟨Nat.le_of_ble_eq_true rfl, Nat.le_of_ble_eq_true rfl⟩) (fun r_55 hr_55 => ?_)
      have hv := hv r_55 hr_55
      refine lv_iload hx hb dX9_better_58 (lv_at hl 5 rfl) ?_
      obtain ⟨hvt, hvf⟩ := hv
      refine lv_icmp_le (tgt := 73) hx hb dX9_better_60 (by decide) (fun hc => ?_) (fun hc => ?_)
      · have hv := hvt hc
        refine lv_iinc (v := (x6 + (1 : Int32))) (lv' := [(6, .int (x6 + (1 : Int32))), (0, .ref qM), (1, .int p1), (2, .int p2), (3, .int x3), (4, .int x4), (5, .int x5)]) hx hb dX9_better_73 hl (k := 6) rfl rfl (by decide) rfl (fun ls hl => ?_)
        refine lv_goto (tgt := 33) hx hb dX9_better_76 (by decide) ?_
        exact ih _ _ _ _ _ _ _ _ hv _ _ (hP.sub (ws' := [(qM, .inr (9, [.int (F 0), .ref q1, .ref q2, .ref q3, .int (F 4), .int (F 5), .int (F 6), .int (F 7), .int (F 8), .int (F 9), .long (J 10), .int (F 11), .int (F 12), .int (F 13), .ref q4, .int (F 15), .ref q5, .ref q6, .ref q7, .int (F 19), .ref q8, .int (F 21), .int (F 22), .int (F 23), .int (F 24), .ref q9, .ref q10, .ref q11, .long (J 28)])), (q1, .inl (g.2 0, 376, .inl al_45)), (q5, .inl (g.2 0, 5, .inl fu_51)), (q6, .inl (g.2 0, 5, .inl sd_51))]) [0, 1, 2, 3] rfl) (hD.sub (ws' := [(qM, .inr (9, [.int (F 0), .ref q1, .ref q2, .ref q3, .int (F 4), .int (F 5), .int (F 6), .int (F 7), .int (F 8), .int (F 9), .long (J 10), .int (F 11), .int (F 12), .int (F 13), .ref q4, .int (F 15), .ref q5, .ref q6, .ref q7, .int (F 19), .ref q8, .int (F 21), .int (F 22), .int (F 23), .int (F 24), .ref q9, .ref q10, .ref q11, .long (J 28)])), (q1, .inl (g.2 0, 376, .inl al_45)), (q5, .inl (g.2 0, 5, .inl fu_51)), (q6, .inl (g.2 0, 5, .inl sd_51))]) [0, 1, 2, 3] (by decide) rfl) hS ls (lv_sub hl [1, 2, 3, 4, 5, 6, 0] rfl)
      · have hv := hvf hc
        refine lv_aload_n hx hb dX9_better_63 rfl (lv_at hl 0 rfl) ?_
        obtain ⟨n_64, z_64, ho_5, hv⟩ := hv
        refine vp_callSi (W.runV (As := []) (rest := []) S (wX9_leastFull l g qM q1 q2 q3 q4 q5 q6 q7 q8 q9 q10 q11 F J al_45 fu_51 (sX9_leastFull n_64 z_64 F J al_45 fu_51 ho_5)) (cwV 0 hts gX9_better_X9_leastFull rfl rfl rfl (by decide +kernel) ⟨Nat.le_of_ble_eq_true rfl, Nat.le_of_ble_eq_true rfl⟩) ⟨blindRO, va_recv hK hP (ci := 9) (q0 := 0) rfl rfl, fun U hU hW => ⟨rfl, by rw [hU]; exact hP.sub (ws' := [(qM, .inr (9, [.int (F 0), .ref q1, .ref q2, .ref q3, .int (F 4), .int (F 5), .int (F 6), .int (F 7), .int (F 8), .int (F 9), .long (J 10), .int (F 11), .int (F 12), .int (F 13), .ref q4, .int (F 15), .ref q5, .ref q6, .ref q7, .int (F 19), .ref q8, .int (F 21), .int (F 22), .int (F 23), .int (F 24), .ref q9, .ref q10, .ref q11, .long (J 28)])), (q1, .inl (g.2 0, 376, .inl al_45)), (q5, .inl (g.2 0, 5, .inl fu_51))]) [0, 1, 2] rfl, hG.warm hW⟩⟩ rfl rfl hl.1 rfl (lv_room (Nat.le_of_ble_eq_true rfl)) dX9_better_64 ⟨Nat.le_of_ble_eq_true rfl, Nat.le_of_ble_eq_true rfl⟩) (fun r_64 hr_64 => ?_)
        have hv := hv r_64 hr_64
        refine lv_istore (lv' := [(5, .int r_64), (0, .ref qM), (1, .int p1), (2, .int p2), (3, .int x3), (4, .int x4), (6, .int x6)]) hx hb dX9_better_67 hl (by decide) rfl (fun ls hl => ?_)
        refine lv_iload hx hb dX9_better_69 (lv_at hl 6 rfl) ?_
        refine lv_istore (lv' := [(4, .int x6), (5, .int r_64), (0, .ref qM), (1, .int p1), (2, .int p2), (3, .int x3), (6, .int x6)]) hx hb dX9_better_71 hl (by decide) rfl (fun ls hl => ?_)
        refine lv_iinc (v := (x6 + (1 : Int32))) (lv' := [(6, .int (x6 + (1 : Int32))), (4, .int x6), (5, .int r_64), (0, .ref qM), (1, .int p1), (2, .int p2), (3, .int x3)]) hx hb dX9_better_73 hl (k := 6) rfl rfl (by decide) rfl (fun ls hl => ?_)
        refine lv_goto (tgt := 33) hx hb dX9_better_76 (by decide) ?_
        exact ih _ _ _ _ _ _ _ _ hv _ _ (hP.sub (ws' := [(qM, .inr (9, [.int (F 0), .ref q1, .ref q2, .ref q3, .int (F 4), .int (F 5), .int (F 6), .int (F 7), .int (F 8), .int (F 9), .long (J 10), .int (F 11), .int (F 12), .int (F 13), .ref q4, .int (F 15), .ref q5, .ref q6, .ref q7, .int (F 19), .ref q8, .int (F 21), .int (F 22), .int (F 23), .int (F 24), .ref q9, .ref q10, .ref q11, .long (J 28)])), (q1, .inl (g.2 0, 376, .inl al_45)), (q5, .inl (g.2 0, 5, .inl fu_51)), (q6, .inl (g.2 0, 5, .inl sd_51))]) [0, 1, 2, 3] rfl) (hD.sub (ws' := [(qM, .inr (9, [.int (F 0), .ref q1, .ref q2, .ref q3, .int (F 4), .int (F 5), .int (F 6), .int (F 7), .int (F 8), .int (F 9), .long (J 10), .int (F 11), .int (F 12), .int (F 13), .ref q4, .int (F 15), .ref q5, .ref q6, .ref q7, .int (F 19), .ref q8, .int (F 21), .int (F 22), .int (F 23), .int (F 24), .ref q9, .ref q10, .ref q11, .long (J 28)])), (q1, .inl (g.2 0, 376, .inl al_45)), (q5, .inl (g.2 0, 5, .inl fu_51)), (q6, .inl (g.2 0, 5, .inl sd_51))]) [0, 1, 2, 3] (by decide) rfl) hS ls (lv_sub hl [3, 4, 5, 6, 1, 2, 0] rfl)
def vX9_better (F : Nat → Int32) (J : Nat → Int64) (al : Nat → Int32) (fu : Nat → Int32) (sd : Nat → Int32) (p1 : Int32) (p2 : Int32) (Q : Int32 → (Nat → Int32) → (Nat → Int32) → (Nat → Int32) → (Nat → Int32) → Prop) : Prop := (∃ (n_7 : Nat), preX9_isPart n_7 (upd F 0 (0 : Int32)) J al p1 ∧ (∀ r_7 : Int32, postX9_isPart n_7 (upd F 0 (0 : Int32)) J al p1 r_7 → ((¬ r_7 = 0 → (∃ (p_19 : Nat) (w_19 : Nat), preX9_of p_19 w_19 (upd F 0 (0 : Int32)) J al p1 (1 : Int32) ∧ (∀ r_19 : Int32, postX9_of p_19 w_19 (upd F 0 (0 : Int32)) J al p1 (1 : Int32) r_19 → (∃ nn, vX9_better_c33 J p1 p2 Q nn r_19 (0 : Int32) (-1000000 : Int32) (1 : Int32) (upd F 0 (0 : Int32)) al fu sd)))) ∧ (r_7 = 0 → (Q (-1000000 : Int32) (upd F 0 (0 : Int32)) al fu sd)))))
set_option maxHeartbeats 4000000 in
set_option maxRecDepth 100000 in
theorem wX9_better (l : Launch) (g : GP) (qM : Nat) (q1 : Nat) (q2 : Nat) (q3 : Nat) (q4 : Nat) (q5 : Nat) (q6 : Nat) (q7 : Nat) (q8 : Nat) (q9 : Nat) (q10 : Nat) (q11 : Nat) (sz : Nat) (F : Nat → Int32) (J : Nat → Int64) (al : Nat → Int32) (fu : Nat → Int32) (sd : Nat → Int32) (p1 : Int32) (p2 : Int32) {Q : Int32 → (Nat → Int32) → (Nat → Int32) → (Nat → Int32) → (Nat → Int32) → Prop} (hv : vX9_better F J al fu sd p1 p2 Q) : Met l yX9_better wsX9_better rmX9_better (va_Pc [.ref qM, .int p1, .int p2] (fun U => U.heap.size = sz ∧ va_P g.1 vwCl [(qM, .inr (9, [.int (F 0), .ref q1, .ref q2, .ref q3, .int (F 4), .int (F 5), .int (F 6), .int (F 7), .int (F 8), .int (F 9), .long (J 10), .int (F 11), .int (F 12), .int (F 13), .ref q4, .int (F 15), .ref q5, .ref q6, .ref q7, .int (F 19), .ref q8, .int (F 21), .int (F 22), .int (F 23), .int (F 24), .ref q9, .ref q10, .ref q11, .long (J 28)])), (q1, .inl (g.2 0, 376, .inl al)), (q5, .inl (g.2 0, 5, .inl fu)), (q6, .inl (g.2 0, 5, .inl sd))] U.heap ∧ GK g U ∧ va_D (fun _ => True) [(qM, .inr (9, [.int (F 0), .ref q1, .ref q2, .ref q3, .int (F 4), .int (F 5), .int (F 6), .int (F 7), .int (F 8), .int (F 9), .long (J 10), .int (F 11), .int (F 12), .int (F 13), .ref q4, .int (F 15), .ref q5, .ref q6, .ref q7, .int (F 19), .ref q8, .int (F 21), .int (F 22), .int (F 23), .int (F 24), .ref q9, .ref q10, .ref q11, .long (J 28)])), (q1, .inl (g.2 0, 376, .inl al)), (q5, .inl (g.2 0, 5, .inl fu)), (q6, .inl (g.2 0, 5, .inl sd))])) (va_Qi (fun (r : Int32) (u : (Nat → Int32) × (Nat → Int32) × (Nat → Int32) × (Nat → Int32)) => Q r u.1 u.2.1 u.2.2.1 u.2.2.2) (fun (u : (Nat → Int32) × (Nat → Int32) × (Nat → Int32) × (Nat → Int32)) t => va_P g.1 vwCl [(qM, .inr (9, [.int (u.1 0), .ref q1, .ref q2, .ref q3, .int (u.1 4), .int (u.1 5), .int (u.1 6), .int (u.1 7), .int (u.1 8), .int (u.1 9), .long (J 10), .int (u.1 11), .int (u.1 12), .int (u.1 13), .ref q4, .int (u.1 15), .ref q5, .ref q6, .ref q7, .int (u.1 19), .ref q8, .int (u.1 21), .int (u.1 22), .int (u.1 23), .int (u.1 24), .ref q9, .ref q10, .ref q11, .long (J 28)])), (q1, .inl (g.2 0, 376, .inl u.2.1)), (q5, .inl (g.2 0, 5, .inl u.2.2.1)), (q6, .inl (g.2 0, 5, .inl u.2.2.2))] t.heap ∧ va_D (va_A [(qM, .inr (9, [.int (F 0), .ref q1, .ref q2, .ref q3, .int (F 4), .int (F 5), .int (F 6), .int (F 7), .int (F 8), .int (F 9), .long (J 10), .int (F 11), .int (F 12), .int (F 13), .ref q4, .int (F 15), .ref q5, .ref q6, .ref q7, .int (F 19), .ref q8, .int (F 21), .int (F 22), .int (F 23), .int (F 24), .ref q9, .ref q10, .ref q11, .long (J 28)])), (q1, .inl (g.2 0, 376, .inl al)), (q5, .inl (g.2 0, 5, .inl fu)), (q6, .inl (g.2 0, 5, .inl sd))] sz) [(qM, .inr (9, [.int (u.1 0), .ref q1, .ref q2, .ref q3, .int (u.1 4), .int (u.1 5), .int (u.1 6), .int (u.1 7), .int (u.1 8), .int (u.1 9), .long (J 10), .int (u.1 11), .int (u.1 12), .int (u.1 13), .ref q4, .int (u.1 15), .ref q5, .ref q6, .ref q7, .int (u.1 19), .ref q8, .int (u.1 21), .int (u.1 22), .int (u.1 23), .int (u.1 24), .ref q9, .ref q10, .ref q11, .long (J 28)])), (q1, .inl (g.2 0, 376, .inl u.2.1)), (q5, .inl (g.2 0, 5, .inl u.2.2.1)), (q6, .inl (g.2 0, 5, .inl u.2.2.2))]) (va_A [(qM, .inr (9, [.int (F 0), .ref q1, .ref q2, .ref q3, .int (F 4), .int (F 5), .int (F 6), .int (F 7), .int (F 8), .int (F 9), .long (J 10), .int (F 11), .int (F 12), .int (F 13), .ref q4, .int (F 15), .ref q5, .ref q6, .ref q7, .int (F 19), .ref q8, .int (F 21), .int (F 22), .int (F 23), .int (F 24), .ref q9, .ref q10, .ref q11, .long (J 28)])), (q1, .inl (g.2 0, 376, .inl al)), (q5, .inl (g.2 0, 5, .inl fu)), (q6, .inl (g.2 0, 5, .inl sd))] sz)) 0 0 (va_A [(qM, .inr (9, [.int (F 0), .ref q1, .ref q2, .ref q3, .int (F 4), .int (F 5), .int (F 6), .int (F 7), .int (F 8), .int (F 9), .long (J 10), .int (F 11), .int (F 12), .int (F 13), .ref q4, .int (F 15), .ref q5, .ref q6, .ref q7, .int (F 19), .ref q8, .int (F 21), .int (F 22), .int (F 23), .int (F 24), .ref q9, .ref q10, .ref q11, .long (J 28)])), (q1, .inl (g.2 0, 376, .inl al)), (q5, .inl (g.2 0, 5, .inl fu)), (q6, .inl (g.2 0, 5, .inl sd))] sz) := by
  refine Met.ofW (cc := cX9_better) (maxL := 7) (ret := (some .int)) (by decide) rfl ?_
  intro p e s m args below meth c s₁ B hml hv'
  obtain ⟨rfl, hsz, hP, hG, hD0⟩ := hv'
  have S : CallFix p m c cX9_better 7 s _ wsX9_better RX9 := ⟨B.exec, B.bytes, hml, findClass_of_methodNamed B.named, atoms_spec (ws := wsX9_better) B.pre⟩
  obtain ⟨hx, hb, hml, hown, hts⟩ := id S
  have hK := hG.1
  have hr := B.returns
  have hlocks := B.notSynchronized
  subst hsz
  have hD := hD0.self (sz := s.heap.size)
  generalize hAe : va_A [(qM, .inr (9, [.int (F 0), .ref q1, .ref q2, .ref q3, .int (F 4), .int (F 5), .int (F 6), .int (F 7), .int (F 8), .int (F 9), .long (J 10), .int (F 11), .int (F 12), .int (F 13), .ref q4, .int (F 15), .ref q5, .ref q6, .ref q7, .int (F 19), .ref q8, .int (F 21), .int (F 22), .int (F 23), .int (F 24), .ref q9, .ref q10, .ref q11, .long (J 28)])), (q1, .inl (g.2 0, 376, .inl al)), (q5, .inl (g.2 0, 5, .inl fu)), (q6, .inl (g.2 0, 5, .inl sd))] s.heap.size = A at hD ⊢
  have hA : ∀ q : Nat, s.heap.size ≤ q → A q := fun q h => by rw [← hAe]; exact Or.inr h
  have hS : va_S A s.heap s.heap [] := va_S.rf
  clear hD0 hAe
  have hl := lv_entry ([.ref qM, .int p1, .int p2]) (n := 7) (Nat.le_of_ble_eq_true rfl)
  rw [lg_entry_eq]
  generalize (lg_sl ([.ref qM, .int p1, .int p2]) ++ List.replicate (7 - (lg_sl ([.ref qM, .int p1, .int p2])).length) Slot.unset).toArray = ls at hl ⊢
  have hl : lv_has ls 7 [(0, .ref qM), (1, .int p1), (2, .int p2)] := hl
  unfold vX9_better at hv
  refine lv_aload_n hx hb dX9_better_0 rfl (lv_at hl 0 rfl) ?_
  refine lv_iconst (v := (0 : Int32)) hx hb dX9_better_1 (by decide) ?_
  refine va_put (D := g.1) (ci := 9) (v := .int (0 : Int32)) (ty := .int) (C := RX9) (T := TX9) (N := 29) hx hb hts inX9_better_9 tyX9 tyX9_ok nmX9 hown hK hP hD hS 0 rfl rfl 0 (by decide) (hts (.fieldLink RX9 51 "RangeCodesModel" "raised" "I") (List.mem_of_getElem? (i := 1) rfl)) (fun _ h9 => h9) rfl (by decide +kernel) rfl rfl (Nat.le_of_ble_eq_true rfl) dX9_better_2 (fun H locs hP hD hS => ?_)
  have hP : va_P g.1 vwCl [(qM, .inr (9, [.int (0 : Int32), .ref q1, .ref q2, .ref q3, .int (F 4), .int (F 5), .int (F 6), .int (F 7), .int (F 8), .int (F 9), .long (J 10), .int (F 11), .int (F 12), .int (F 13), .ref q4, .int (F 15), .ref q5, .ref q6, .ref q7, .int (F 19), .ref q8, .int (F 21), .int (F 22), .int (F 23), .int (F 24), .ref q9, .ref q10, .ref q11, .long (J 28)])), (q1, .inl (g.2 0, 376, .inl al)), (q5, .inl (g.2 0, 5, .inl fu)), (q6, .inl (g.2 0, 5, .inl sd))] H := hP
  have hD : va_D A [(qM, .inr (9, [.int (0 : Int32), .ref q1, .ref q2, .ref q3, .int (F 4), .int (F 5), .int (F 6), .int (F 7), .int (F 8), .int (F 9), .long (J 10), .int (F 11), .int (F 12), .int (F 13), .ref q4, .int (F 15), .ref q5, .ref q6, .ref q7, .int (F 19), .ref q8, .int (F 21), .int (F 22), .int (F 23), .int (F 24), .ref q9, .ref q10, .ref q11, .long (J 28)])), (q1, .inl (g.2 0, 376, .inl al)), (q5, .inl (g.2 0, 5, .inl fu)), (q6, .inl (g.2 0, 5, .inl sd))] := hD
  refine lv_aload_n hx hb dX9_better_5 rfl (lv_at hl 0 rfl) ?_
  refine lv_iload_n hx hb dX9_better_6 rfl (lv_at hl 1 rfl) ?_
  obtain ⟨n_7, ho_1, hv⟩ := hv
  refine vp_callSi (W.runV (As := [.int p1]) (rest := []) S (wX9_isPart l g qM q1 q2 q3 q4 q5 q6 q7 q8 q9 q10 q11 (upd F 0 (0 : Int32)) J al p1 (sX9_isPart n_7 (upd F 0 (0 : Int32)) J al p1 ho_1)) (cwV 1 hts gX9_better_X9_isPart rfl rfl rfl (by decide +kernel) ⟨Nat.le_of_ble_eq_true rfl, Nat.le_of_ble_eq_true rfl⟩) ⟨blindRO, va_recv hK hP (ci := 9) (q0 := 0) rfl rfl, fun U hU hW => ⟨rfl, by rw [hU]; exact hP.sub (ws' := [(qM, .inr (9, [.int ((upd F 0 (0 : Int32)) 0), .ref q1, .ref q2, .ref q3, .int ((upd F 0 (0 : Int32)) 4), .int ((upd F 0 (0 : Int32)) 5), .int ((upd F 0 (0 : Int32)) 6), .int ((upd F 0 (0 : Int32)) 7), .int ((upd F 0 (0 : Int32)) 8), .int ((upd F 0 (0 : Int32)) 9), .long (J 10), .int ((upd F 0 (0 : Int32)) 11), .int ((upd F 0 (0 : Int32)) 12), .int ((upd F 0 (0 : Int32)) 13), .ref q4, .int ((upd F 0 (0 : Int32)) 15), .ref q5, .ref q6, .ref q7, .int ((upd F 0 (0 : Int32)) 19), .ref q8, .int ((upd F 0 (0 : Int32)) 21), .int ((upd F 0 (0 : Int32)) 22), .int ((upd F 0 (0 : Int32)) 23), .int ((upd F 0 (0 : Int32)) 24), .ref q9, .ref q10, .ref q11, .long (J 28)])), (q1, .inl (g.2 0, 376, .inl al))]) [0, 1] rfl, hG.warm hW⟩⟩ rfl rfl hl.1 rfl (lv_room (Nat.le_of_ble_eq_true rfl)) dX9_better_7 ⟨Nat.le_of_ble_eq_true rfl, Nat.le_of_ble_eq_true rfl⟩) (fun r_7 hr_7 => ?_)
  have hv := hv r_7 hr_7
  obtain ⟨hvt, hvf⟩ := hv
  refine lv_if_ne (tgt := 16) hx hb dX9_better_10 (by decide) (fun hc => ?_) (fun hc => ?_)
  · have hv := hvt hc
    refine lv_aload_n hx hb dX9_better_16 rfl (lv_at hl 0 rfl) ?_
    refine lv_iload_n hx hb dX9_better_17 rfl (lv_at hl 1 rfl) ?_
    refine lv_iconst (v := (1 : Int32)) hx hb dX9_better_18 (by decide) ?_
    obtain ⟨p_19, w_19, ho_2, hv⟩ := hv
    refine vp_callSi (W.runV (As := [.int p1, .int (1 : Int32)]) (rest := []) S (wX9_of l g qM q1 q2 q3 q4 q5 q6 q7 q8 q9 q10 q11 (upd F 0 (0 : Int32)) J al p1 (1 : Int32) (sX9_of p_19 w_19 (upd F 0 (0 : Int32)) J al p1 (1 : Int32) ho_2)) (cwV 2 hts gX9_better_X9_of rfl rfl rfl (by decide +kernel) ⟨Nat.le_of_ble_eq_true rfl, Nat.le_of_ble_eq_true rfl⟩) ⟨blindRO, va_recv hK hP (ci := 9) (q0 := 0) rfl rfl, fun U hU hW => ⟨rfl, by rw [hU]; exact hP.sub (ws' := [(qM, .inr (9, [.int ((upd F 0 (0 : Int32)) 0), .ref q1, .ref q2, .ref q3, .int ((upd F 0 (0 : Int32)) 4), .int ((upd F 0 (0 : Int32)) 5), .int ((upd F 0 (0 : Int32)) 6), .int ((upd F 0 (0 : Int32)) 7), .int ((upd F 0 (0 : Int32)) 8), .int ((upd F 0 (0 : Int32)) 9), .long (J 10), .int ((upd F 0 (0 : Int32)) 11), .int ((upd F 0 (0 : Int32)) 12), .int ((upd F 0 (0 : Int32)) 13), .ref q4, .int ((upd F 0 (0 : Int32)) 15), .ref q5, .ref q6, .ref q7, .int ((upd F 0 (0 : Int32)) 19), .ref q8, .int ((upd F 0 (0 : Int32)) 21), .int ((upd F 0 (0 : Int32)) 22), .int ((upd F 0 (0 : Int32)) 23), .int ((upd F 0 (0 : Int32)) 24), .ref q9, .ref q10, .ref q11, .long (J 28)])), (q1, .inl (g.2 0, 376, .inl al))]) [0, 1] rfl, hG.warm hW⟩⟩ rfl rfl hl.1 rfl (lv_room (Nat.le_of_ble_eq_true rfl)) dX9_better_19 ⟨Nat.le_of_ble_eq_true rfl, Nat.le_of_ble_eq_true rfl⟩) (fun r_19 hr_19 => ?_)
    have hv := hv r_19 hr_19
    refine lv_istore_n (lv' := [(3, .int r_19), (0, .ref qM), (1, .int p1), (2, .int p2)]) hx hb dX9_better_22 rfl hl (by decide) rfl (fun ls hl => ?_)
    refine lv_iconst (v := (0 : Int32)) hx hb dX9_better_23 (by decide) ?_
    refine lv_istore (lv' := [(4, .int (0 : Int32)), (3, .int r_19), (0, .ref qM), (1, .int p1), (2, .int p2)]) hx hb dX9_better_24 hl (by decide) rfl (fun ls hl => ?_)
    refine lv_ldc (v := (-1000000 : Int32)) hx hb hown (hts (.constant RX9 222 (-1000000)) (List.mem_of_getElem? (i := 2) rfl)) dX9_better_26 ?_
    refine lv_istore (lv' := [(5, .int (-1000000 : Int32)), (4, .int (0 : Int32)), (3, .int r_19), (0, .ref qM), (1, .int p1), (2, .int p2)]) hx hb dX9_better_28 hl (by decide) rfl (fun ls hl => ?_)
    refine lv_iconst (v := (1 : Int32)) hx hb dX9_better_30 (by decide) ?_
    refine lv_istore (lv' := [(6, .int (1 : Int32)), (5, .int (-1000000 : Int32)), (4, .int (0 : Int32)), (3, .int r_19), (0, .ref qM), (1, .int p1), (2, .int p2)]) hx hb dX9_better_31 hl (by decide) rfl (fun ls hl => ?_)
    obtain ⟨nn, hv⟩ := hv
    exact kX9_better_c33 S hr hlocks hG hA nn _ _ _ _ _ _ _ _ hv _ _ (hP.sub (ws' := [(qM, .inr (9, [.int ((upd F 0 (0 : Int32)) 0), .ref q1, .ref q2, .ref q3, .int ((upd F 0 (0 : Int32)) 4), .int ((upd F 0 (0 : Int32)) 5), .int ((upd F 0 (0 : Int32)) 6), .int ((upd F 0 (0 : Int32)) 7), .int ((upd F 0 (0 : Int32)) 8), .int ((upd F 0 (0 : Int32)) 9), .long (J 10), .int ((upd F 0 (0 : Int32)) 11), .int ((upd F 0 (0 : Int32)) 12), .int ((upd F 0 (0 : Int32)) 13), .ref q4, .int ((upd F 0 (0 : Int32)) 15), .ref q5, .ref q6, .ref q7, .int ((upd F 0 (0 : Int32)) 19), .ref q8, .int ((upd F 0 (0 : Int32)) 21), .int ((upd F 0 (0 : Int32)) 22), .int ((upd F 0 (0 : Int32)) 23), .int ((upd F 0 (0 : Int32)) 24), .ref q9, .ref q10, .ref q11, .long (J 28)])), (q1, .inl (g.2 0, 376, .inl al)), (q5, .inl (g.2 0, 5, .inl fu)), (q6, .inl (g.2 0, 5, .inl sd))]) [0, 1, 2, 3] rfl) (hD.sub (ws' := [(qM, .inr (9, [.int ((upd F 0 (0 : Int32)) 0), .ref q1, .ref q2, .ref q3, .int ((upd F 0 (0 : Int32)) 4), .int ((upd F 0 (0 : Int32)) 5), .int ((upd F 0 (0 : Int32)) 6), .int ((upd F 0 (0 : Int32)) 7), .int ((upd F 0 (0 : Int32)) 8), .int ((upd F 0 (0 : Int32)) 9), .long (J 10), .int ((upd F 0 (0 : Int32)) 11), .int ((upd F 0 (0 : Int32)) 12), .int ((upd F 0 (0 : Int32)) 13), .ref q4, .int ((upd F 0 (0 : Int32)) 15), .ref q5, .ref q6, .ref q7, .int ((upd F 0 (0 : Int32)) 19), .ref q8, .int ((upd F 0 (0 : Int32)) 21), .int ((upd F 0 (0 : Int32)) 22), .int ((upd F 0 (0 : Int32)) 23), .int ((upd F 0 (0 : Int32)) 24), .ref q9, .ref q10, .ref q11, .long (J 28)])), (q1, .inl (g.2 0, 376, .inl al)), (q5, .inl (g.2 0, 5, .inl fu)), (q6, .inl (g.2 0, 5, .inl sd))]) [0, 1, 2, 3] (by decide) rfl) hS ls (lv_sub hl [4, 5, 6, 3, 2, 1, 0] rfl)
  · have hv := hvf hc
    refine lv_ldc (v := (-1000000 : Int32)) hx hb hown (hts (.constant RX9 222 (-1000000)) (List.mem_of_getElem? (i := 2) rfl)) dX9_better_13 ?_
    have hP9 := hP.sub (ws' := [(qM, .inr (9, [.int ((upd F 0 (0 : Int32)) 0), .ref q1, .ref q2, .ref q3, .int ((upd F 0 (0 : Int32)) 4), .int ((upd F 0 (0 : Int32)) 5), .int ((upd F 0 (0 : Int32)) 6), .int ((upd F 0 (0 : Int32)) 7), .int ((upd F 0 (0 : Int32)) 8), .int ((upd F 0 (0 : Int32)) 9), .long (J 10), .int ((upd F 0 (0 : Int32)) 11), .int ((upd F 0 (0 : Int32)) 12), .int ((upd F 0 (0 : Int32)) 13), .ref q4, .int ((upd F 0 (0 : Int32)) 15), .ref q5, .ref q6, .ref q7, .int ((upd F 0 (0 : Int32)) 19), .ref q8, .int ((upd F 0 (0 : Int32)) 21), .int ((upd F 0 (0 : Int32)) 22), .int ((upd F 0 (0 : Int32)) 23), .int ((upd F 0 (0 : Int32)) 24), .ref q9, .ref q10, .ref q11, .long (J 28)])), (q1, .inl (g.2 0, 376, .inl al)), (q5, .inl (g.2 0, 5, .inl fu)), (q6, .inl (g.2 0, 5, .inl sd))]) [0, 1, 2, 3] rfl
    have hD9 := hD.sub (ws' := [(qM, .inr (9, [.int ((upd F 0 (0 : Int32)) 0), .ref q1, .ref q2, .ref q3, .int ((upd F 0 (0 : Int32)) 4), .int ((upd F 0 (0 : Int32)) 5), .int ((upd F 0 (0 : Int32)) 6), .int ((upd F 0 (0 : Int32)) 7), .int ((upd F 0 (0 : Int32)) 8), .int ((upd F 0 (0 : Int32)) 9), .long (J 10), .int ((upd F 0 (0 : Int32)) 11), .int ((upd F 0 (0 : Int32)) 12), .int ((upd F 0 (0 : Int32)) 13), .ref q4, .int ((upd F 0 (0 : Int32)) 15), .ref q5, .ref q6, .ref q7, .int ((upd F 0 (0 : Int32)) 19), .ref q8, .int ((upd F 0 (0 : Int32)) 21), .int ((upd F 0 (0 : Int32)) 22), .int ((upd F 0 (0 : Int32)) 23), .int ((upd F 0 (0 : Int32)) 24), .ref q9, .ref q10, .ref q11, .long (J 28)])), (q1, .inl (g.2 0, 376, .inl al)), (q5, .inl (g.2 0, 5, .inl fu)), (q6, .inl (g.2 0, 5, .inl sd))]) [0, 1, 2, 3] (by decide) rfl
    exact W.iret (v := (-1000000 : Int32)) hx hb hr (fun t ht hW => ⟨⟨_, ((upd F 0 (0 : Int32)), al, fu, sd), rfl, hv, by rw [ht]; exact hP9, hD9⟩, hS.F ht⟩) hS.2.2 dX9_better_15
theorem upd_up (f : Nat → Int32) (k : Nat) (a b : Int32) : upd (upd f k a) k b = upd f k b := by
  funext j
  by_cases e : j = k
  · subst e; rw [upd_eq, upd_eq]
  · rw [upd_ne e, upd_ne e, upd_ne e]
theorem upd_id (f : Nat → Int32) (k : Nat) : upd f k (f k) = f := by
  funext j
  by_cases e : j = k
  · subst e; rw [upd_eq]
  · rw [upd_ne e]
abbrev preX9_better (T : Cd) (G0 : Lg) (G1 : Lg) (lim : Nat) (F : Nat → Int32) (J : Nat → Int64) (al : Nat → Int32) (fu : Nat → Int32) (sd : Nat → Int32) (p1 : Int32) (p2 : Int32) : Prop := fcR T G0 G1 lim al
abbrev postX9_better (T : Cd) (G0 : Lg) (G1 : Lg) (lim : Nat) (F : Nat → Int32) (J : Nat → Int64) (al : Nat → Int32) (fu : Nat → Int32) (sd : Nat → Int32) (p1 : Int32) (p2 : Int32) (r : Int32) (F' : Nat → Int32) (al' : Nat → Int32) (fu' : Nat → Int32) (sd' : Nat → Int32) : Prop := r.toInt = spBetter T p1.toInt p2.toInt ∧ al' = al
theorem sX9_better_33 (T : Cd) (G0 : Lg) (G1 : Lg) (lim : Nat) (F : Nat → Int32) (J : Nat → Int64) (al : Nat → Int32) (fu : Nat → Int32) (sd : Nat → Int32) (p1 : Int32) (p2 : Int32) (H : preX9_better T G0 G1 lim F J al fu sd p1 p2) (p : Nat) (hp : p1.toInt = (p : Int)) (hpn : p < cn T) (F0 : Nat → Int32) : ∀ (f v : Nat) (x4 x5 x6 : Int32) (al2 fu2 sd2 : Nat → Int32), x4.toInt = ((btN T p v).1 : Int) → x5.toInt = (btN T p v).2 → x6.toInt = ((v + 1 : Nat) : Int) → v ≤ 9 → (al2 = al ∨ ∃ y, al2 = upd al (5 + 3 * p + 1) y) → 10 ≤ v + f → vX9_better_c33 J p1 p2 (postX9_better T G0 G1 lim F J al fu sd p1 p2) f (al (5 + 3 * p + 1)) x4 x5 x6 F0 al2 fu2 sd2
  | 0, v, x4, x5, x6, al2, fu2, sd2, _, _, _, _, _, hf => absurd hf (by omega)
  | f + 1, v, x4, x5, x6, al2, fu2, sd2, h4, h5, h6, hv, ha, hf => by
    obtain ⟨hT, -⟩ := id H
    have hn5 := hT.1.2
    have eup : ∀ y, upd al2 (5 + 3 * p + 1) y = upd al (5 + 3 * p + 1) y := fun y => by
      rcases ha with e | ⟨z, e⟩
      · rw [e]
      · rw [e, upd_up]
    rw [vX9_better_c33, q_lt z9 h6]
    refine ⟨fun c => ⟨p, 1, ⟨hp, rfl, by omega⟩, fun al3 h3 => ?_⟩, fun c => ⟨p, 1, ⟨hp, rfl, by omega⟩, fun al3 h3 => ?_⟩⟩
    · have h3 : al3 = upd al2 (5 + 3 * p + 1) (al (5 + 3 * p + 1)) := h3
      rw [eup, upd_id] at h3
      have e : v = 9 := by omega
      subst e
      have cc : 0 ≤ p1.toInt ∧ p1.toInt < (cn T : Int) := by omega
      have ep : p1.toInt.toNat = p := by omega
      unfold postX9_better spBetter
      rw [fa_eq p2, z0, if_pos cc, ep]
      refine ⟨fun d => ⟨?_, h3⟩, fun d => ⟨?_, h3⟩⟩
      · rw [if_pos d]; exact h4
      · rw [if_neg d]; exact h5
    · have h3 : al3 = upd al2 (5 + 3 * p + 1) x6 := h3
      rw [eup] at h3
      have hT2 : mT (wV T p (v + 1)) al3 := by rw [h3]; exact mT_wV hT hpn (by omega) h6
      have hlo := beF_lo (T := T) (fun p hp => (hT.2.1 p hp).2) hn5 (by omega) p (v + 1)
      refine ⟨wV T p (v + 1), ⟨hT2, by show 1 ≤ cn T; omega, Or.inl rfl⟩, fun fu3 sd3 hfu => ?_⟩
      have hfu : ∀ q, q < cn T → (fu3 q).toInt = spFZ (wV T p (v + 1)) (-1) 0 q := hfu
      have pre3 : ∀ F, preX9_leastFull (cn T) (spFZ (wV T p (v + 1)) (-1) 0) F J al3 fu3 := fun F => ⟨hT2.1.1, by omega, hn5, hfu⟩
      refine ⟨cn T, _, pre3 _, fun r hr => ?_⟩
      have hr : r.toInt = beF T p (v + 1) := hr
      rw [q_le hr h5]
      have eb : btN T p (v + 1) = if (btN T p v).2 < beF T p (v + 1) then (v + 1, beF T p (v + 1)) else btN T p v := rfl
      refine ⟨fun d => ?_, fun d => ⟨cn T, _, pre3 _, fun r2 hr2 => ?_⟩⟩
      · rw [if_neg (by omega)] at eb
        exact sX9_better_33 T G0 G1 lim F J al fu sd p1 p2 H p hp hpn F0 f (v + 1) _ _ _ _ _ _ (by rw [eb]; exact h4) (by rw [eb]; exact h5) (q_1 h6 (by omega)) (by omega) (Or.inr ⟨_, h3⟩) (by omega)
      · rw [if_pos (by omega)] at eb
        have hr2 : r2.toInt = beF T p (v + 1) := hr2
        exact sX9_better_33 T G0 G1 lim F J al fu sd p1 p2 H p hp hpn F0 f (v + 1) _ _ _ _ _ _ (by rw [eb]; exact h6) (by rw [eb]; exact hr2) (q_1 h6 (by omega)) (by omega) (Or.inr ⟨_, h3⟩) (by omega)
theorem sX9_better (T : Cd) (G0 : Lg) (G1 : Lg) (lim : Nat) (F : Nat → Int32) (J : Nat → Int64) (al : Nat → Int32) (fu : Nat → Int32) (sd : Nat → Int32) (p1 : Int32) (p2 : Int32) (H : preX9_better T G0 G1 lim F J al fu sd p1 p2) : vX9_better F J al fu sd p1 p2 (postX9_better T G0 G1 lim F J al fu sd p1 p2) := by
  obtain ⟨hT, -⟩ := id H
  have hn5 := hT.1.2
  refine ⟨cn T, hT.1.1, fun r hr => ?_⟩
  have hr : r = if 0 ≤ p1.toInt ∧ p1.toInt < (cn T : Int) then 1 else 0 := hr
  by_cases c : 0 ≤ p1.toInt ∧ p1.toInt < (cn T : Int)
  · rw [if_pos c] at hr
    rw [hr]
    refine ⟨fun _ => ?_, fun d => absurd d (by decide)⟩
    obtain ⟨p, hp⟩ : ∃ p : Nat, p1.toInt = (p : Int) := ⟨p1.toInt.toNat, by omega⟩
    refine ⟨p, 1, ⟨hp, rfl, by omega⟩, fun r2 hr2 => ⟨10, ?_⟩⟩
    have hr2 : r2 = al (5 + 3 * p + 1) := hr2
    rw [hr2]
    exact sX9_better_33 T G0 G1 lim F J al fu sd p1 p2 H p hp (by omega) _ 10 0 0 (-1000000) 1 al fu sd rfl rfl rfl (by omega) (Or.inl rfl) (by omega)
  · rw [if_neg c] at hr
    rw [hr]
    refine ⟨fun d => absurd rfl d, fun _ => ⟨?_, rfl⟩⟩
    unfold spBetter
    rw [if_neg c]; rfl
