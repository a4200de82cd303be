set_option maxRecDepth 20000 in
theorem ggX9_guess_X9_isLeg : GoodIn wsX9_guess wsX9_isLeg := goodIn_r _ [7, 8, 9, 6, 10] (by decide +kernel) (by decide +kernel)
set_option maxRecDepth 20000 in
theorem gX9_guess_X9_isLeg : GoodIn wsX9_guess (va_wsS RX9 182 yX9_isLeg wsX9_isLeg) := goodIn_app (goodIn_of _ (by decide +kernel)) ggX9_guess_X9_isLeg
set_option maxRecDepth 20000 in
theorem ggX9_guess_X9_laysLeg : GoodIn wsX9_guess wsX9_laysLeg := goodIn_r _ [14, 2, 15, 16, 17, 18, 6, 19, 20, 21, 22, 23, 24, 25, 26, 27, 28, 29, 30, 31, 32, 33, 34, 35, 36, 37, 38, 39, 40, 41, 42, 43, 44, 45, 46, 47, 48, 49, 50, 51, 52, 53, 54, 55, 56, 57, 58, 59, 60, 61, 62, 63, 64, 65, 66, 8, 9, 10, 67, 68, 69, 70, 71, 72, 73, 74, 75, 76, 77, 78, 79, 80, 3, 81, 82, 83, 84, 85, 86, 87, 88, 89, 90, 91, 92, 93, 94, 95, 96, 97, 98, 99, 100, 101, 102, 103, 104, 105, 106, 107, 108, 109, 110, 115, 116, 117, 118, 119, 120, 121, 122, 123, 124, 125, 126, 127, 128, 129, 130, 131, 132, 133, 134, 135, 136, 137, 138, 139, 140, 141, 142, 143] (by decide +kernel) (by decide +kernel)
set_option maxRecDepth 20000 in
theorem gX9_guess_X9_laysLeg : GoodIn wsX9_guess (wsV RX9 294 RX9 yX9_laysLeg wsX9_laysLeg) := goodIn_app (goodIn_of _ (by decide +kernel)) ggX9_guess_X9_laysLeg
set_option maxRecDepth 20000 in
theorem ggX9_guess_X9_guesses : GoodIn wsX9_guess wsX9_guesses := goodIn_r _ [114, 2, 33, 3, 115, 116, 117, 118, 119, 120, 121, 122, 123, 124, 125, 126, 127, 128, 129, 130, 131, 132, 133, 134, 135, 136, 137, 138, 139, 140, 141, 142, 143] (by decide +kernel) (by decide +kernel)
set_option maxRecDepth 20000 in
theorem gX9_guess_X9_guesses : GoodIn wsX9_guess (wsV RX9 307 RX9 yX9_guesses wsX9_guesses) := goodIn_app (goodIn_of _ (by decide +kernel)) ggX9_guess_X9_guesses
set_option maxRecDepth 20000 in
theorem ggX9_guess_X9_in : GoodIn wsX9_guess wsX9_in := goodIn_r _ [10] (by decide +kernel) (by decide +kernel)
set_option maxRecDepth 20000 in
theorem gX9_guess_X9_in : GoodIn wsX9_guess (va_wsS RX9 63 yX9_in wsX9_in) := goodIn_app (goodIn_of _ (by decide +kernel)) ggX9_guess_X9_in
theorem dX9_guess_0 : decode cX9_guess 0 = .ok (.aload_n 0, 1) := by decide +kernel
theorem dX9_guess_1 : decode cX9_guess 1 = .ok (.iconst 0, 1) := by decide +kernel
theorem dX9_guess_2 : decode cX9_guess 2 = .ok (.putfield 51, 3) := by decide +kernel
theorem dX9_guess_5 : decode cX9_guess 5 = .ok (.iload_n 1, 1) := by decide +kernel
theorem dX9_guess_6 : decode cX9_guess 6 = .ok (.invokestatic 182, 3) := by decide +kernel
theorem dX9_guess_9 : decode cX9_guess 9 = .ok (.ifCond .ne 5, 3) := by decide +kernel
theorem dX9_guess_12 : decode cX9_guess 12 = .ok (.iconst (-1), 1) := by decide +kernel
theorem dX9_guess_13 : decode cX9_guess 13 = .ok (.ireturn, 1) := by decide +kernel
theorem dX9_guess_14 : decode cX9_guess 14 = .ok (.aload_n 0, 1) := by decide +kernel
theorem dX9_guess_15 : decode cX9_guess 15 = .ok (.iload_n 1, 1) := by decide +kernel
theorem dX9_guess_16 : decode cX9_guess 16 = .ok (.invokevirtual 294, 3) := by decide +kernel
theorem dX9_guess_19 : decode cX9_guess 19 = .ok (.iload_n 2, 1) := by decide +kernel
theorem dX9_guess_20 : decode cX9_guess 20 = .ok (.iconst 0, 1) := by decide +kernel
theorem dX9_guess_21 : decode cX9_guess 21 = .ok (.aload_n 0, 1) := by decide +kernel
theorem dX9_guess_22 : decode cX9_guess 22 = .ok (.invokevirtual 307, 3) := by decide +kernel
theorem dX9_guess_25 : decode cX9_guess 25 = .ok (.iconst 1, 1) := by decide +kernel
theorem dX9_guess_26 : decode cX9_guess 26 = .ok (.isub, 1) := by decide +kernel
theorem dX9_guess_27 : decode cX9_guess 27 = .ok (.invokestatic 63, 3) := by decide +kernel
theorem dX9_guess_30 : decode cX9_guess 30 = .ok (.ifCond .eq 17, 3) := by decide +kernel
theorem dX9_guess_33 : decode cX9_guess 33 = .ok (.aload_n 0, 1) := by decide +kernel
theorem dX9_guess_34 : decode cX9_guess 34 = .ok (.getfield 266, 3) := by decide +kernel
theorem dX9_guess_37 : decode cX9_guess 37 = .ok (.iload_n 2, 1) := by decide +kernel
theorem dX9_guess_38 : decode cX9_guess 38 = .ok (.aload_n 0, 1) := by decide +kernel
theorem dX9_guess_39 : decode cX9_guess 39 = .ok (.getfield 272, 3) := by decide +kernel
theorem dX9_guess_42 : decode cX9_guess 42 = .ok (.imul, 1) := by decide +kernel
theorem dX9_guess_43 : decode cX9_guess 43 = .ok (.iadd, 1) := by decide +kernel
theorem dX9_guess_44 : decode cX9_guess 44 = .ok (.goto 4, 3) := by decide +kernel
theorem dX9_guess_47 : decode cX9_guess 47 = .ok (.iconst (-1), 1) := by decide +kernel
theorem dX9_guess_48 : decode cX9_guess 48 = .ok (.ireturn, 1) := by decide +kernel
abbrev rmX9_guess : Room := { frames := 7, cells := 0, slots := 0, locals := 162 }
theorem inX9_guess_9 : ∀ w ∈ wsX90, w ∈ wsX9_guess := by decide +kernel
def vX9_guess (F : Nat → Int32) (J : Nat → Int64) (al : Nat → Int32) (he : Nat → Int32) (ma : Nat → Int32) (p1 : Int32) (p2 : Int32) (Q : Int32 → (Nat → Int32) → (Nat → Int32) → (Nat → Int32) → Prop) : Prop := (preX9_isLeg p1 ∧ (∀ r_6 : Int32, postX9_isLeg p1 r_6 → ((¬ r_6 = 0 → (∃ (T_16 : Cd) (G0_16 : Lg) (G1_16 : Lg) (lg_16 : Nat) (lim_16 : Nat), preX9_laysLeg T_16 G0_16 G1_16 lg_16 lim_16 (upd F 0 (0 : Int32)) J al he ma p1 ∧ (∀ (F_16 : Nat → Int32) (he_16 : Nat → Int32) (ma_16 : Nat → Int32), postX9_laysLeg T_16 G0_16 G1_16 lg_16 lim_16 (upd F 0 (0 : Int32)) J al he ma p1 F_16 he_16 ma_16 → (∃ (o_22 : Option Nat) (st_22 : Nat) (lim_22 : Nat), preX9_guesses o_22 st_22 lim_22 F_16 J al ∧ (∀ r_22 : Int32, postX9_guesses o_22 st_22 lim_22 F_16 J al r_22 → (preX9_in p2 (0 : Int32) (r_22 - (1 : Int32)) ∧ (∀ r_27 : Int32, postX9_in p2 (0 : Int32) (r_22 - (1 : Int32)) r_27 → ((r_27 = 0 → (Q (-1 : Int32) F_16 he_16 ma_16)) ∧ (¬ r_27 = 0 → (Q ((F_16 21) + (p2 * (F_16 23))) F_16 he_16 ma_16)))))))))) ∧ (r_6 = 0 → (Q (-1 : Int32) (upd F 0 (0 : Int32)) he ma)))))
set_option maxHeartbeats 4000000 in
set_option maxRecDepth 100000 in
theorem wX9_guess (l : Launch) (g : GP) (qM : Nat) (q1 : Nat) (q2 : Nat) (q3 : Nat) (q4 : Nat) (q5 : Nat) (q6 : Nat) (q7 : Nat) (q8 : Nat) (q9 : Nat) (q10 : Nat) (q11 : Nat) (sz : Nat) (F : Nat → Int32) (J : Nat → Int64) (al : Nat → Int32) (he : Nat → Int32) (ma : Nat → Int32) (p1 : Int32) (p2 : Int32) {Q : Int32 → (Nat → Int32) → (Nat → Int32) → (Nat → Int32) → Prop} (hv : vX9_guess F J al he ma p1 p2 Q) : Met l yX9_guess wsX9_guess rmX9_guess (va_Pc [.ref qM, .int p1, .int p2] (fun U => U.heap.size = sz ∧ va_P g.1 vwCl [(qM, .inr (9, [.int (F 0), .ref q1, .ref q2, .ref q3, .int (F 4), .int (F 5), .int (F 6), .int (F 7), .int (F 8), .int (F 9), .long (J 10), .int (F 11), .int (F 12), .int (F 13), .ref q4, .int (F 15), .ref q5, .ref q6, .ref q7, .int (F 19), .ref q8, .int (F 21), .int (F 22), .int (F 23), .int (F 24), .ref q9, .ref q10, .ref q11, .long (J 28)])), (q1, .inl (g.2 0, 376, .inl al)), (q7, .inl (g.2 0, 200, .inl he)), (q8, .inl (g.2 0, 65, .inl ma))] U.heap ∧ GK g U ∧ va_D (fun _ => True) [(qM, .inr (9, [.int (F 0), .ref q1, .ref q2, .ref q3, .int (F 4), .int (F 5), .int (F 6), .int (F 7), .int (F 8), .int (F 9), .long (J 10), .int (F 11), .int (F 12), .int (F 13), .ref q4, .int (F 15), .ref q5, .ref q6, .ref q7, .int (F 19), .ref q8, .int (F 21), .int (F 22), .int (F 23), .int (F 24), .ref q9, .ref q10, .ref q11, .long (J 28)])), (q1, .inl (g.2 0, 376, .inl al)), (q7, .inl (g.2 0, 200, .inl he)), (q8, .inl (g.2 0, 65, .inl ma))])) (va_Qi (fun (r : Int32) (u : (Nat → Int32) × (Nat → Int32) × (Nat → Int32)) => Q r u.1 u.2.1 u.2.2) (fun (u : (Nat → Int32) × (Nat → Int32) × (Nat → Int32)) t => va_P g.1 vwCl [(qM, .inr (9, [.int (u.1 0), .ref q1, .ref q2, .ref q3, .int (u.1 4), .int (u.1 5), .int (u.1 6), .int (u.1 7), .int (u.1 8), .int (u.1 9), .long (J 10), .int (u.1 11), .int (u.1 12), .int (u.1 13), .ref q4, .int (u.1 15), .ref q5, .ref q6, .ref q7, .int (u.1 19), .ref q8, .int (u.1 21), .int (u.1 22), .int (u.1 23), .int (u.1 24), .ref q9, .ref q10, .ref q11, .long (J 28)])), (q1, .inl (g.2 0, 376, .inl al)), (q7, .inl (g.2 0, 200, .inl u.2.1)), (q8, .inl (g.2 0, 65, .inl u.2.2))] t.heap ∧ va_D (va_A [(qM, .inr (9, [.int (F 0), .ref q1, .ref q2, .ref q3, .int (F 4), .int (F 5), .int (F 6), .int (F 7), .int (F 8), .int (F 9), .long (J 10), .int (F 11), .int (F 12), .int (F 13), .ref q4, .int (F 15), .ref q5, .ref q6, .ref q7, .int (F 19), .ref q8, .int (F 21), .int (F 22), .int (F 23), .int (F 24), .ref q9, .ref q10, .ref q11, .long (J 28)])), (q1, .inl (g.2 0, 376, .inl al)), (q7, .inl (g.2 0, 200, .inl he)), (q8, .inl (g.2 0, 65, .inl ma))] sz) [(qM, .inr (9, [.int (u.1 0), .ref q1, .ref q2, .ref q3, .int (u.1 4), .int (u.1 5), .int (u.1 6), .int (u.1 7), .int (u.1 8), .int (u.1 9), .long (J 10), .int (u.1 11), .int (u.1 12), .int (u.1 13), .ref q4, .int (u.1 15), .ref q5, .ref q6, .ref q7, .int (u.1 19), .ref q8, .int (u.1 21), .int (u.1 22), .int (u.1 23), .int (u.1 24), .ref q9, .ref q10, .ref q11, .long (J 28)])), (q1, .inl (g.2 0, 376, .inl al)), (q7, .inl (g.2 0, 200, .inl u.2.1)), (q8, .inl (g.2 0, 65, .inl u.2.2))]) (va_A [(qM, .inr (9, [.int (F 0), .ref q1, .ref q2, .ref q3, .int (F 4), .int (F 5), .int (F 6), .int (F 7), .int (F 8), .int (F 9), .long (J 10), .int (F 11), .int (F 12), .int (F 13), .ref q4, .int (F 15), .ref q5, .ref q6, .ref q7, .int (F 19), .ref q8, .int (F 21), .int (F 22), .int (F 23), .int (F 24), .ref q9, .ref q10, .ref q11, .long (J 28)])), (q1, .inl (g.2 0, 376, .inl al)), (q7, .inl (g.2 0, 200, .inl he)), (q8, .inl (g.2 0, 65, .inl ma))] sz)) 0 0 (va_A [(qM, .inr (9, [.int (F 0), .ref q1, .ref q2, .ref q3, .int (F 4), .int (F 5), .int (F 6), .int (F 7), .int (F 8), .int (F 9), .long (J 10), .int (F 11), .int (F 12), .int (F 13), .ref q4, .int (F 15), .ref q5, .ref q6, .ref q7, .int (F 19), .ref q8, .int (F 21), .int (F 22), .int (F 23), .int (F 24), .ref q9, .ref q10, .ref q11, .long (J 28)])), (q1, .inl (g.2 0, 376, .inl al)), (q7, .inl (g.2 0, 200, .inl he)), (q8, .inl (g.2 0, 65, .inl ma))] sz) := by
  refine Met.ofW (cc := cX9_guess) (maxL := 3) (ret := (some .int)) (by decide) rfl ?_
  intro p e s m args below meth c s₁ B hml hv'
  obtain ⟨rfl, hsz, hP, hG, hD0⟩ := hv'
  have S : CallFix p m c cX9_guess 3 s _ wsX9_guess RX9 := ⟨B.exec, B.bytes, hml, findClass_of_methodNamed B.named, atoms_spec (ws := wsX9_guess) B.pre⟩
  obtain ⟨hx, hb, hml, hown, hts⟩ := id S
  have hK := hG.1
  have hr := B.returns
  have hlocks := B.notSynchronized
  subst hsz
  have hD := hD0.self (sz := s.heap.size)
  generalize hAe : va_A [(qM, .inr (9, [.int (F 0), .ref q1, .ref q2, .ref q3, .int (F 4), .int (F 5), .int (F 6), .int (F 7), .int (F 8), .int (F 9), .long (J 10), .int (F 11), .int (F 12), .int (F 13), .ref q4, .int (F 15), .ref q5, .ref q6, .ref q7, .int (F 19), .ref q8, .int (F 21), .int (F 22), .int (F 23), .int (F 24), .ref q9, .ref q10, .ref q11, .long (J 28)])), (q1, .inl (g.2 0, 376, .inl al)), (q7, .inl (g.2 0, 200, .inl he)), (q8, .inl (g.2 0, 65, .inl ma))] s.heap.size = A at hD ⊢
  have hA : ∀ q : Nat, s.heap.size ≤ q → A q := fun q h => by rw [← hAe]; exact Or.inr h
  have hS : va_S A s.heap s.heap [] := va_S.rf
  clear hD0 hAe
  have hl := lv_entry ([.ref qM, .int p1, .int p2]) (n := 3) (Nat.le_of_ble_eq_true rfl)
  rw [lg_entry_eq]
  generalize (lg_sl ([.ref qM, .int p1, .int p2]) ++ List.replicate (3 - (lg_sl ([.ref qM, .int p1, .int p2])).length) Slot.unset).toArray = ls at hl ⊢
  have hl : lv_has ls 3 [(0, .ref qM), (1, .int p1), (2, .int p2)] := hl
  unfold vX9_guess at hv
  refine lv_aload_n hx hb dX9_guess_0 rfl (lv_at hl 0 rfl) ?_
  refine lv_iconst (v := (0 : Int32)) hx hb dX9_guess_1 (by decide) ?_
  refine va_put (D := g.1) (ci := 9) (v := .int (0 : Int32)) (ty := .int) (C := RX9) (T := TX9) (N := 29) hx hb hts inX9_guess_9 tyX9 tyX9_ok nmX9 hown hK hP hD hS 0 rfl rfl 0 (by decide) (hts (.fieldLink RX9 51 "RangeCodesModel" "raised" "I") (List.mem_of_getElem? (i := 1) rfl)) (fun _ h9 => h9) rfl (by decide +kernel) rfl rfl (Nat.le_of_ble_eq_true rfl) dX9_guess_2 (fun H locs hP hD hS => ?_)
  have hP : va_P g.1 vwCl [(qM, .inr (9, [.int (0 : Int32), .ref q1, .ref q2, .ref q3, .int (F 4), .int (F 5), .int (F 6), .int (F 7), .int (F 8), .int (F 9), .long (J 10), .int (F 11), .int (F 12), .int (F 13), .ref q4, .int (F 15), .ref q5, .ref q6, .ref q7, .int (F 19), .ref q8, .int (F 21), .int (F 22), .int (F 23), .int (F 24), .ref q9, .ref q10, .ref q11, .long (J 28)])), (q1, .inl (g.2 0, 376, .inl al)), (q7, .inl (g.2 0, 200, .inl he)), (q8, .inl (g.2 0, 65, .inl ma))] H := hP
  have hD : va_D A [(qM, .inr (9, [.int (0 : Int32), .ref q1, .ref q2, .ref q3, .int (F 4), .int (F 5), .int (F 6), .int (F 7), .int (F 8), .int (F 9), .long (J 10), .int (F 11), .int (F 12), .int (F 13), .ref q4, .int (F 15), .ref q5, .ref q6, .ref q7, .int (F 19), .ref q8, .int (F 21), .int (F 22), .int (F 23), .int (F 24), .ref q9, .ref q10, .ref q11, .long (J 28)])), (q1, .inl (g.2 0, 376, .inl al)), (q7, .inl (g.2 0, 200, .inl he)), (q8, .inl (g.2 0, 65, .inl ma))] := hD
  refine lv_iload_n hx hb dX9_guess_5 rfl (lv_at hl 1 rfl) ?_
  obtain ⟨ho_1, hv⟩ := hv
  refine vp_callSi (W.runS (As := [.int p1]) (rest := []) S (wX9_isLeg l g p1 (sX9_isLeg p1 ho_1)) (va_cwS 1 hts gX9_guess_X9_isLeg rfl rfl rfl (by decide +kernel) ⟨Nat.le_of_ble_eq_true rfl, Nat.le_of_ble_eq_true rfl⟩) ⟨blindRO, fun U hU hW => ⟨rfl, by rw [hU]; exact hP.sub (ws' := []) [] rfl, hG.warm hW⟩⟩ rfl rfl hl.1 rfl (lv_room (Nat.le_of_ble_eq_true rfl)) dX9_guess_6 ⟨Nat.le_of_ble_eq_true rfl, Nat.le_of_ble_eq_true rfl⟩) (fun r_6 hr_6 => ?_)
  have hv := hv r_6 hr_6
  obtain ⟨hvt, hvf⟩ := hv
  refine lv_if_ne (tgt := 14) hx hb dX9_guess_9 (by decide) (fun hc => ?_) (fun hc => ?_)
  · have hv := hvt hc
    refine lv_aload_n hx hb dX9_guess_14 rfl (lv_at hl 0 rfl) ?_
    refine lv_iload_n hx hb dX9_guess_15 rfl (lv_at hl 1 rfl) ?_
    obtain ⟨T_16, G0_16, G1_16, lg_16, lim_16, ho_2, hv⟩ := hv
    have hPc := hP.sub (ws' := [(qM, .inr (9, [.int ((upd F 0 (0 : Int32)) 0), .ref q1, .ref q2, .ref q3, .int ((upd F 0 (0 : Int32)) 4), .int ((upd F 0 (0 : Int32)) 5), .int ((upd F 0 (0 : Int32)) 6), .int ((upd F 0 (0 : Int32)) 7), .int ((upd F 0 (0 : Int32)) 8), .int ((upd F 0 (0 : Int32)) 9), .long (J 10), .int ((upd F 0 (0 : Int32)) 11), .int ((upd F 0 (0 : Int32)) 12), .int ((upd F 0 (0 : Int32)) 13), .ref q4, .int ((upd F 0 (0 : Int32)) 15), .ref q5, .ref q6, .ref q7, .int ((upd F 0 (0 : Int32)) 19), .ref q8, .int ((upd F 0 (0 : Int32)) 21), .int ((upd F 0 (0 : Int32)) 22), .int ((upd F 0 (0 : Int32)) 23), .int ((upd F 0 (0 : Int32)) 24), .ref q9, .ref q10, .ref q11, .long (J 28)])), (q1, .inl (g.2 0, 376, .inl al)), (q7, .inl (g.2 0, 200, .inl he)), (q8, .inl (g.2 0, 65, .inl ma))]) [0, 1, 2, 3] rfl
    have hDc := hD.sub (ws' := [(qM, .inr (9, [.int ((upd F 0 (0 : Int32)) 0), .ref q1, .ref q2, .ref q3, .int ((upd F 0 (0 : Int32)) 4), .int ((upd F 0 (0 : Int32)) 5), .int ((upd F 0 (0 : Int32)) 6), .int ((upd F 0 (0 : Int32)) 7), .int ((upd F 0 (0 : Int32)) 8), .int ((upd F 0 (0 : Int32)) 9), .long (J 10), .int ((upd F 0 (0 : Int32)) 11), .int ((upd F 0 (0 : Int32)) 12), .int ((upd F 0 (0 : Int32)) 13), .ref q4, .int ((upd F 0 (0 : Int32)) 15), .ref q5, .ref q6, .ref q7, .int ((upd F 0 (0 : Int32)) 19), .ref q8, .int ((upd F 0 (0 : Int32)) 21), .int ((upd F 0 (0 : Int32)) 22), .int ((upd F 0 (0 : Int32)) 23), .int ((upd F 0 (0 : Int32)) 24), .ref q9, .ref q10, .ref q11, .long (J 28)])), (q1, .inl (g.2 0, 376, .inl al)), (q7, .inl (g.2 0, 200, .inl he)), (q8, .inl (g.2 0, 65, .inl ma))]) [0, 1, 2, 3] (by decide) rfl
    have hFc := va_free (wc := [(qM, .inr (9, [.int ((upd F 0 (0 : Int32)) 0), .ref q1, .ref q2, .ref q3, .int ((upd F 0 (0 : Int32)) 4), .int ((upd F 0 (0 : Int32)) 5), .int ((upd F 0 (0 : Int32)) 6), .int ((upd F 0 (0 : Int32)) 7), .int ((upd F 0 (0 : Int32)) 8), .int ((upd F 0 (0 : Int32)) 9), .long (J 10), .int ((upd F 0 (0 : Int32)) 11), .int ((upd F 0 (0 : Int32)) 12), .int ((upd F 0 (0 : Int32)) 13), .ref q4, .int ((upd F 0 (0 : Int32)) 15), .ref q5, .ref q6, .ref q7, .int ((upd F 0 (0 : Int32)) 19), .ref q8, .int ((upd F 0 (0 : Int32)) 21), .int ((upd F 0 (0 : Int32)) 22), .int ((upd F 0 (0 : Int32)) 23), .int ((upd F 0 (0 : Int32)) 24), .ref q9, .ref q10, .ref q11, .long (J 28)])), (q1, .inl (g.2 0, 376, .inl al)), (q7, .inl (g.2 0, 200, .inl he)), (q8, .inl (g.2 0, 65, .inl ma))]) hD hS hA [0, 1, 2, 3] rfl
    refine va_callv (va_runV (As := [.int p1]) (rest := []) S (wX9_laysLeg l g qM q1 q2 q3 q4 q5 q6 q7 q8 q9 q10 q11 H.size (upd F 0 (0 : Int32)) J al he ma p1 (sX9_laysLeg T_16 G0_16 G1_16 lg_16 lim_16 (upd F 0 (0 : Int32)) J al he ma p1 ho_2)) (cwV 1 hts gX9_guess_X9_laysLeg rfl rfl rfl (by decide +kernel) ⟨Nat.le_of_ble_eq_true rfl, Nat.le_of_ble_eq_true rfl⟩) ⟨blindRW, va_recv hK hP (ci := 9) (q0 := 0) rfl rfl, fun U hU hW => ⟨rfl, by rw [hU], by rw [hU]; exact hPc, hG.warm hW, hDc.weaken (fun _ _ _ _ => trivial)⟩⟩ rfl rfl hl.1 rfl (lv_room (Nat.le_of_ble_eq_true rfl)) dX9_guess_16 ⟨Nat.le_of_ble_eq_true rfl, Nat.le_of_ble_eq_true rfl⟩) hS (fun q _ h => hFc q h) hFc (fun u t H1 locs ht hvm hw hB hz1 hk1 hS => ?_)
    obtain ⟨F_16, he_16, ma_16⟩ := u
    obtain ⟨hP1, hD1⟩ := hB
    rw [ht] at hP1
    have hv := hv F_16 he_16 ma_16 hw
    obtain ⟨hP, hD⟩ := va_join (wr := []) (w1 := [(qM, .inr (9, [.int (F_16 0), .ref q1, .ref q2, .ref q3, .int (F_16 4), .int (F_16 5), .int (F_16 6), .int (F_16 7), .int (F_16 8), .int (F_16 9), .long (J 10), .int (F_16 11), .int (F_16 12), .int (F_16 13), .ref q4, .int (F_16 15), .ref q5, .ref q6, .ref q7, .int (F_16 19), .ref q8, .int (F_16 21), .int (F_16 22), .int (F_16 23), .int (F_16 24), .ref q9, .ref q10, .ref q11, .long (J 28)])), (q1, .inl (g.2 0, 376, .inl al)), (q7, .inl (g.2 0, 200, .inl he_16)), (q8, .inl (g.2 0, 65, .inl ma_16))]) hP hD [0, 1, 2, 3] [] rfl rfl (by decide) (by decide) hk1 hFc hP1 hD1
    clear hP1 hD1 hPc hDc hFc hk1
    generalize H1 = H at hP hS ⊢
    have hP : va_P g.1 vwCl [(qM, .inr (9, [.int (F_16 0), .ref q1, .ref q2, .ref q3, .int (F_16 4), .int (F_16 5), .int (F_16 6), .int (F_16 7), .int (F_16 8), .int (F_16 9), .long (J 10), .int (F_16 11), .int (F_16 12), .int (F_16 13), .ref q4, .int (F_16 15), .ref q5, .ref q6, .ref q7, .int (F_16 19), .ref q8, .int (F_16 21), .int (F_16 22), .int (F_16 23), .int (F_16 24), .ref q9, .ref q10, .ref q11, .long (J 28)])), (q1, .inl (g.2 0, 376, .inl al)), (q7, .inl (g.2 0, 200, .inl he_16)), (q8, .inl (g.2 0, 65, .inl ma_16))] H := hP
    have hD : va_D A [(qM, .inr (9, [.int (F_16 0), .ref q1, .ref q2, .ref q3, .int (F_16 4), .int (F_16 5), .int (F_16 6), .int (F_16 7), .int (F_16 8), .int (F_16 9), .long (J 10), .int (F_16 11), .int (F_16 12), .int (F_16 13), .ref q4, .int (F_16 15), .ref q5, .ref q6, .ref q7, .int (F_16 19), .ref q8, .int (F_16 21), .int (F_16 22), .int (F_16 23), .int (F_16 24), .ref q9, .ref q10, .ref q11, .long (J 28)])), (q1, .inl (g.2 0, 376, .inl al)), (q7, .inl (g.2 0, 200, .inl he_16)), (q8, .inl (g.2 0, 65, .inl ma_16))] := hD
    refine lv_iload_n hx hb dX9_guess_19 rfl (lv_at hl 2 rfl) ?_
    refine lv_iconst (v := (0 : Int32)) hx hb dX9_guess_20 (by decide) ?_
    refine lv_aload_n hx hb dX9_guess_21 rfl (lv_at hl 0 rfl) ?_
    obtain ⟨o_22, st_22, lim_22, ho_3, hv⟩ := hv
    refine vp_callSi (W.runV (As := []) (rest := [.int (0 : Int32), .int p2]) S (wX9_guesses l g qM q1 q2 q3 q4 q5 q6 q7 q8 q9 q10 q11 F_16 J al (sX9_guesses o_22 st_22 lim_22 F_16 J al ho_3)) (cwV 0 hts gX9_guess_X9_guesses rfl rfl rfl (by decide +kernel) ⟨Nat.le_of_ble_eq_true rfl, Nat.le_of_ble_eq_true rfl⟩) ⟨blindRO, va_recv hK hP (ci := 9) (q0 := 0) rfl rfl, fun U hU hW => ⟨rfl, by rw [hU]; exact hP.sub (ws' := [(qM, .inr (9, [.int (F_16 0), .ref q1, .ref q2, .ref q3, .int (F_16 4), .int (F_16 5), .int (F_16 6), .int (F_16 7), .int (F_16 8), .int (F_16 9), .long (J 10), .int (F_16 11), .int (F_16 12), .int (F_16 13), .ref q4, .int (F_16 15), .ref q5, .ref q6, .ref q7, .int (F_16 19), .ref q8, .int (F_16 21), .int (F_16 22), .int (F_16 23), .int (F_16 24), .ref q9, .ref q10, .ref q11, .long (J 28)])), (q1, .inl (g.2 0, 376, .inl al))]) [0, 1] rfl, hG.warm hW⟩⟩ rfl rfl hl.1 rfl (lv_room (Nat.le_of_ble_eq_true rfl)) dX9_guess_22 ⟨Nat.le_of_ble_eq_true rfl, Nat.le_of_ble_eq_true rfl⟩) (fun r_22 hr_22 => ?_)
    have hv := hv r_22 hr_22
    refine lv_iconst (v := (1 : Int32)) hx hb dX9_guess_25 (by decide) ?_
    refine lv_isub hx hb dX9_guess_26 ?_
    obtain ⟨ho_4, hv⟩ := hv
    refine vp_callSi (W.runS (As := [.int p2, .int (0 : Int32), .int (r_22 - (1 : Int32))]) (rest := []) S (wX9_in l g p2 (0 : Int32) (r_22 - (1 : Int32)) (sX9_in p2 (0 : Int32) (r_22 - (1 : Int32)) ho_4)) (va_cwS 3 hts gX9_guess_X9_in rfl rfl rfl (by decide +kernel) ⟨Nat.le_of_ble_eq_true rfl, Nat.le_of_ble_eq_true rfl⟩) ⟨blindRO, fun U hU hW => ⟨rfl, by rw [hU]; exact hP.sub (ws' := []) [] rfl, hG.warm hW⟩⟩ rfl rfl hl.1 rfl (lv_room (Nat.le_of_ble_eq_true rfl)) dX9_guess_27 ⟨Nat.le_of_ble_eq_true rfl, Nat.le_of_ble_eq_true rfl⟩) (fun r_27 hr_27 => ?_)
    have hv := hv r_27 hr_27
    obtain ⟨hvt, hvf⟩ := hv
    refine lv_if_eq (tgt := 47) hx hb dX9_guess_30 (by decide) (fun hc => ?_) (fun hc => ?_)
    · have hv := hvt hc
      refine lv_iconst (v := (-1 : Int32)) hx hb dX9_guess_47 (by decide) ?_
      have hP9 := hP.sub (ws' := [(qM, .inr (9, [.int (F_16 0), .ref q1, .ref q2, .ref q3, .int (F_16 4), .int (F_16 5), .int (F_16 6), .int (F_16 7), .int (F_16 8), .int (F_16 9), .long (J 10), .int (F_16 11), .int (F_16 12), .int (F_16 13), .ref q4, .int (F_16 15), .ref q5, .ref q6, .ref q7, .int (F_16 19), .ref q8, .int (F_16 21), .int (F_16 22), .int (F_16 23), .int (F_16 24), .ref q9, .ref q10, .ref q11, .long (J 28)])), (q1, .inl (g.2 0, 376, .inl al)), (q7, .inl (g.2 0, 200, .inl he_16)), (q8, .inl (g.2 0, 65, .inl ma_16))]) [0, 1, 2, 3] rfl
      have hD9 := hD.sub (ws' := [(qM, .inr (9, [.int (F_16 0), .ref q1, .ref q2, .ref q3, .int (F_16 4), .int (F_16 5), .int (F_16 6), .int (F_16 7), .int (F_16 8), .int (F_16 9), .long (J 10), .int (F_16 11), .int (F_16 12), .int (F_16 13), .ref q4, .int (F_16 15), .ref q5, .ref q6, .ref q7, .int (F_16 19), .ref q8, .int (F_16 21), .int (F_16 22), .int (F_16 23), .int (F_16 24), .ref q9, .ref q10, .ref q11, .long (J 28)])), (q1, .inl (g.2 0, 376, .inl al)), (q7, .inl (g.2 0, 200, .inl he_16)), (q8, .inl (g.2 0, 65, .inl ma_16))]) [0, 1, 2, 3] (by decide) rfl
      exact W.iret (v := (-1 : Int32)) hx hb hr (fun t ht hW => ⟨⟨_, (F_16, he_16, ma_16), rfl, hv, by rw [ht]; exact hP9, hD9⟩, hS.F ht⟩) hS.2.2 dX9_guess_48
    · have hv := hvf hc
      refine lv_aload_n hx hb dX9_guess_33 rfl (lv_at hl 0 rfl) ?_
      refine va_get (D := g.1) (ci := 9) (v := .int (F_16 21)) (C := RX9) (T := TX9) (N := 29) hx hb hts inX9_guess_9 hown hK hP 0 rfl rfl 21 (by decide) (hts (.fieldLink RX9 266 "RangeCodesModel" "distance" "I") (List.mem_of_getElem? (i := 2) rfl)) (fun _ h9 => h9) rfl dX9_guess_34 ?_
      refine lv_iload_n hx hb dX9_guess_37 rfl (lv_at hl 2 rfl) ?_
      refine lv_aload_n hx hb dX9_guess_38 rfl (lv_at hl 0 rfl) ?_
      refine va_get (D := g.1) (ci := 9) (v := .int (F_16 23)) (C := RX9) (T := TX9) (N := 29) hx hb hts inX9_guess_9 hown hK hP 0 rfl rfl 23 (by decide) (hts (.fieldLink RX9 272 "RangeCodesModel" "step" "I") (List.mem_of_getElem? (i := 3) rfl)) (fun _ h9 => h9) rfl dX9_guess_39 ?_
      refine lv_imul hx hb dX9_guess_42 ?_
      refine lv_iadd hx hb dX9_guess_43 ?_
      refine lv_goto (tgt := 48) hx hb dX9_guess_44 (by decide) ?_
      have hP9 := hP.sub (ws' := [(qM, .inr (9, [.int (F_16 0), .ref q1, .ref q2, .ref q3, .int (F_16 4), .int (F_16 5), .int (F_16 6), .int (F_16 7), .int (F_16 8), .int (F_16 9), .long (J 10), .int (F_16 11), .int (F_16 12), .int (F_16 13), .ref q4, .int (F_16 15), .ref q5, .ref q6, .ref q7, .int (F_16 19), .ref q8, .int (F_16 21), .int (F_16 22), .int (F_16 23), .int (F_16 24), .ref q9, .ref q10, .ref q11, .long (J 28)])), (q1, .inl (g.2 0, 376, .inl al)), (q7, .inl (g.2 0, 200, .inl he_16)), (q8, .inl (g.2 0, 65, .inl ma_16))]) [0, 1, 2, 3] rfl
      have hD9 := hD.sub (ws' := [(qM, .inr (9, [.int (F_16 0), .ref q1, .ref q2, .ref q3, .int (F_16 4), .int (F_16 5), .int (F_16 6), .int (F_16 7), .int (F_16 8), .int (F_16 9), .long (J 10), .int (F_16 11), .int (F_16 12), .int (F_16 13), .ref q4, .int (F_16 15), .ref q5, .ref q6, .ref q7, .int (F_16 19), .ref q8, .int (F_16 21), .int (F_16 22), .int (F_16 23), .int (F_16 24), .ref q9, .ref q10, .ref q11, .long (J 28)])), (q1, .inl (g.2 0, 376, .inl al)), (q7, .inl (g.2 0, 200, .inl he_16)), (q8, .inl (g.2 0, 65, .inl ma_16))]) [0, 1, 2, 3] (by decide) rfl
      exact W.iret (v := ((F_16 21) + (p2 * (F_16 23)))) hx hb hr (fun t ht hW => ⟨⟨_, (F_16, he_16, ma_16), rfl, hv, by rw [ht]; exact hP9, hD9⟩, hS.F ht⟩) hS.2.2 dX9_guess_48
  · have hv := hvf hc
    refine lv_iconst (v := (-1 : Int32)) hx hb dX9_guess_12 (by decide) ?_
    have hP9 := hP.sub (ws' := [(qM, .inr (9, [.int ((upd F 0 (0 : Int32)) 0), .ref q1, .ref q2, .ref q3, .int ((upd F 0 (0 : Int32)) 4), .int ((upd F 0 (0 : Int32)) 5), .int ((upd F 0 (0 : Int32)) 6), .int ((upd F 0 (0 : Int32)) 7), .int ((upd F 0 (0 : Int32)) 8), .int ((upd F 0 (0 : Int32)) 9), .long (J 10), .int ((upd F 0 (0 : Int32)) 11), .int ((upd F 0 (0 : Int32)) 12), .int ((upd F 0 (0 : Int32)) 13), .ref q4, .int ((upd F 0 (0 : Int32)) 15), .ref q5, .ref q6, .ref q7, .int ((upd F 0 (0 : Int32)) 19), .ref q8, .int ((upd F 0 (0 : Int32)) 21), .int ((upd F 0 (0 : Int32)) 22), .int ((upd F 0 (0 : Int32)) 23), .int ((upd F 0 (0 : Int32)) 24), .ref q9, .ref q10, .ref q11, .long (J 28)])), (q1, .inl (g.2 0, 376, .inl al)), (q7, .inl (g.2 0, 200, .inl he)), (q8, .inl (g.2 0, 65, .inl ma))]) [0, 1, 2, 3] rfl
    have hD9 := hD.sub (ws' := [(qM, .inr (9, [.int ((upd F 0 (0 : Int32)) 0), .ref q1, .ref q2, .ref q3, .int ((upd F 0 (0 : Int32)) 4), .int ((upd F 0 (0 : Int32)) 5), .int ((upd F 0 (0 : Int32)) 6), .int ((upd F 0 (0 : Int32)) 7), .int ((upd F 0 (0 : Int32)) 8), .int ((upd F 0 (0 : Int32)) 9), .long (J 10), .int ((upd F 0 (0 : Int32)) 11), .int ((upd F 0 (0 : Int32)) 12), .int ((upd F 0 (0 : Int32)) 13), .ref q4, .int ((upd F 0 (0 : Int32)) 15), .ref q5, .ref q6, .ref q7, .int ((upd F 0 (0 : Int32)) 19), .ref q8, .int ((upd F 0 (0 : Int32)) 21), .int ((upd F 0 (0 : Int32)) 22), .int ((upd F 0 (0 : Int32)) 23), .int ((upd F 0 (0 : Int32)) 24), .ref q9, .ref q10, .ref q11, .long (J 28)])), (q1, .inl (g.2 0, 376, .inl al)), (q7, .inl (g.2 0, 200, .inl he)), (q8, .inl (g.2 0, 65, .inl ma))]) [0, 1, 2, 3] (by decide) rfl
    exact W.iret (v := (-1 : Int32)) hx hb hr (fun t ht hW => ⟨⟨_, ((upd F 0 (0 : Int32)), he, ma), rfl, hv, by rw [ht]; exact hP9, hD9⟩, hS.F ht⟩) hS.2.2 dX9_guess_13
abbrev preX9_guess (T : Cd) (G0 : Lg) (G1 : Lg) (lim : Nat) (F : Nat → Int32) (J : Nat → Int64) (al : Nat → Int32) (he : Nat → Int32) (ma : Nat → Int32) (p1 : Int32) (p2 : Int32) : Prop := fcR T G0 G1 lim al
abbrev postX9_guess (T : Cd) (G0 : Lg) (G1 : Lg) (lim : Nat) (F : Nat → Int32) (J : Nat → Int64) (al : Nat → Int32) (he : Nat → Int32) (ma : Nat → Int32) (p1 : Int32) (p2 : Int32) (r : Int32) (F' : Nat → Int32) (he' : Nat → Int32) (ma' : Nat → Int32) : Prop := r.toInt = spGuess T G0 G1 lim p1.toInt p2.toInt
theorem sX9_guess (T : Cd) (G0 : Lg) (G1 : Lg) (lim : Nat) (F : Nat → Int32) (J : Nat → Int64) (al : Nat → Int32) (he : Nat → Int32) (ma : Nat → Int32) (p1 : Int32) (p2 : Int32) (H : preX9_guess T G0 G1 lim F J al he ma p1 p2) : vX9_guess F J al he ma p1 p2 (postX9_guess T G0 G1 lim F J al he ma p1 p2) := by
  obtain ⟨hT, h0, h1, hlim, hl9, hl1⟩ := id H
  unfold postX9_guess spGuess
  refine ⟨trivial, fun r hr => ?_⟩
  have hr : r = if p1.toInt = 0 ∨ p1.toInt = 1 then 1 else 0 := hr
  rw [hr, q_if1]
  refine ⟨fun hc => ?_, fun hc => by rw [if_neg (fun q => hc q.1)]; rfl⟩
  have hc := Decidable.not_not.mp hc
  refine ⟨T, G0, G1, p1.toInt.toNat, lim, fcR_ll H _ _ _ _ hc, fun F2 he2 ma2 hq => ?_⟩
  have h2 := rlC_of hq
  have hD := h2.2.2.1
  have hlp := lcS_pos (fun p hp => (hT.2.1 p hp).2.1) (2 ^ cn T - 1 - wrW T (bN T G0 G1 lim p1.toInt.toNat) lim) (cn T) (Nat.le_refl _)
  refine ⟨dsO T (bN T G0 G1 lim p1.toInt.toNat) lim, stN T (bN T G0 G1 lim p1.toInt.toNat) lim, lim, ⟨isD_O hD, fun d hd => ⟨dsO_lt hd, hlp, (isD_S hD hd).2.2.1⟩, hlim, hl9⟩, fun r2 hr2 => ⟨trivial, fun r3 hr3 => ?_⟩⟩
  have hr2 : r2.toInt = ((guN (dsO T (bN T G0 G1 lim p1.toInt.toNat) lim) (stN T (bN T G0 G1 lim p1.toInt.toNat) lim) lim : Nat) : Int) := hr2
  have hr3 : r3 = if 0 ≤ p2.toInt ∧ p2.toInt < ((guN (dsO T (bN T G0 G1 lim p1.toInt.toNat) lim) (stN T (bN T G0 G1 lim p1.toInt.toNat) lim) lim : Nat) : Int) then 1 else 0 := by rw [← in_to hr2]; exact hr3
  rw [hr3, q_if1]
  refine ⟨fun he => by rw [if_neg (fun q => he q.2)]; rfl, fun he => ?_⟩
  have he := Decidable.not_not.mp he
  rw [if_pos ⟨hc, he⟩]
  cases hd2 : dsO T (bN T G0 G1 lim p1.toInt.toNat) lim with
  | none => rw [hd2] at he; exact absurd (show p2.toInt < ((0 : Nat) : Int) from he.2) (by omega)
  | some d =>
    obtain ⟨e1, e2, e3, e4⟩ := isD_S hD hd2
    have hdl := dsO_lt hd2
    rw [hd2] at he
    have hgu : (guN (some d) (stN T (bN T G0 G1 lim p1.toInt.toNat) lim) lim) = (lim - 1 - d) / stN T (bN T G0 G1 lim p1.toInt.toNat) lim + 1 := rfl
    rw [hgu] at he
    have hk : p2.toInt.toNat ≤ (lim - 1 - d) / stN T (bN T G0 G1 lim p1.toInt.toNat) lim := by omega
    have hm := Nat.mul_le_mul_right (stN T (bN T G0 G1 lim p1.toInt.toNat) lim) hk
    have hm2 := Nat.div_mul_le_self (lim - 1 - d) (stN T (bN T G0 G1 lim p1.toInt.toNat) lim)
    have ek : p2.toInt = (p2.toInt.toNat : Int) := by omega
    have e5 : (p2 * (F2 23)).toInt = ((p2.toInt.toNat * stN T (bN T G0 G1 lim p1.toInt.toNat) lim : Nat) : Int) := q_mulN ek e3 (by omega)
    show (F2 21 + p2 * F2 23).toInt = _
    rw [q_addN e1 e5 (by omega)]
    show _ = (d : Int) + p2.toInt * _
    rw [Int.natCast_add, Int.natCast_mul, ← ek]
set_option maxRecDepth 20000 in
theorem ggX9_right_X9_isLeg : GoodIn wsX9_right wsX9_isLeg := goodIn_r _ [7, 8, 9, 6, 10] (by decide +kernel) (by decide +kernel)
set_option maxRecDepth 20000 in
theorem gX9_right_X9_isLeg : GoodIn wsX9_right (va_wsS RX9 182 yX9_isLeg wsX9_isLeg) := goodIn_app (goodIn_of _ (by decide +kernel)) ggX9_right_X9_isLeg
set_option maxRecDepth 20000 in
theorem ggX9_right_X9_laysLeg : GoodIn wsX9_right wsX9_laysLeg := goodIn_r _ [14, 15, 2, 16, 17, 18, 6, 19, 20, 21, 22, 23, 24, 25, 26, 27, 28, 29, 30, 31, 32, 3, 33, 34, 35, 36, 37, 38, 39, 40, 41, 42, 43, 44, 45, 46, 47, 48, 49, 50, 51, 52, 53, 54, 55, 56, 57, 58, 59, 60, 61, 62, 63, 64, 65, 8, 9, 10, 66, 67, 68, 69, 70, 71, 72, 73, 74, 75, 76, 77, 78, 79, 80, 81, 82, 83, 84, 85, 86, 87, 88, 89, 90, 91, 92, 93, 94, 95, 96, 97, 98, 99, 100, 101, 102, 103, 104, 105, 106, 107, 108, 109, 110, 111, 112, 113, 114, 115, 116, 117, 118, 119, 120, 121, 122, 123, 124, 125, 126, 127, 128, 129, 130, 131, 132, 133, 134, 135, 136, 137, 138, 139] (by decide +kernel) (by decide +kernel)
set_option maxRecDepth 20000 in
theorem gX9_right_X9_laysLeg : GoodIn wsX9_right (wsV RX9 294 RX9 yX9_laysLeg wsX9_laysLeg) := goodIn_app (goodIn_of _ (by decide +kernel)) ggX9_right_X9_laysLeg
set_option maxRecDepth 20000 in
theorem ggX9_right_X9_behindAt : GoodIn wsX9_right wsX9_behindAt := goodIn_r _ [36, 29, 30, 31, 6, 32, 3, 37, 38, 39, 40, 41, 42, 111, 112, 113, 114, 115, 116, 117, 118, 119, 120, 121, 122, 123, 124, 125, 126, 127, 128, 129, 130, 131, 132, 133, 134, 135, 136, 137, 138, 139] (by decide +kernel) (by decide +kernel)
set_option maxRecDepth 20000 in
theorem gX9_right_X9_behindAt : GoodIn wsX9_right (wsV RX9 244 RX9 yX9_behindAt wsX9_behindAt) := goodIn_app (goodIn_of _ (by decide +kernel)) ggX9_right_X9_behindAt
set_option maxRecDepth 20000 in
theorem ggX9_right_X9_bestOf : GoodIn wsX9_right wsX9_bestOf := goodIn_r _ [100, 70, 55, 56, 57, 6, 58, 3, 111, 112, 113, 114, 115, 116, 117, 118, 119, 120, 121, 122, 123, 124, 125, 126, 127, 128, 129, 130, 131, 132, 133, 134, 135, 136, 137, 138, 139] (by decide +kernel) (by decide +kernel)
set_option maxRecDepth 20000 in
theorem gX9_right_X9_bestOf : GoodIn wsX9_right (wsV RX9 260 RX9 yX9_bestOf wsX9_bestOf) := goodIn_app (goodIn_of _ (by decide +kernel)) ggX9_right_X9_bestOf
set_option maxRecDepth 20000 in
theorem ggX9_right_X9_of : GoodIn wsX9_right wsX9_of := goodIn_r _ [58, 3, 111, 112, 113, 114, 115, 116, 117, 118, 119, 120, 121, 122, 123, 124, 125, 126, 127, 128, 129, 130, 131, 132, 133, 134, 135, 136, 137, 138, 139] (by decide +kernel) (by decide +kernel)
set_option maxRecDepth 20000 in
theorem gX9_right_X9_of : GoodIn wsX9_right (wsV RX9 195 RX9 yX9_of wsX9_of) := goodIn_app (goodIn_of _ (by decide +kernel)) ggX9_right_X9_of
set_option maxRecDepth 20000 in
theorem ggX9_right_X9_rest : GoodIn wsX9_right wsX9_rest := goodIn_r _ [42] (by decide +kernel) (by decide +kernel)
set_option maxRecDepth 20000 in
theorem gX9_right_X9_rest : GoodIn wsX9_right (va_wsS RX9 55 yX9_rest wsX9_rest) := goodIn_app (goodIn_of _ (by decide +kernel)) ggX9_right_X9_rest
theorem dX9_right_0 : decode cX9_right 0 = .ok (.aload_n 0, 1) := by decide +kernel
theorem dX9_right_1 : decode cX9_right 1 = .ok (.iconst 0, 1) := by decide +kernel
theorem dX9_right_2 : decode cX9_right 2 = .ok (.putfield 51, 3) := by decide +kernel
theorem dX9_right_5 : decode cX9_right 5 = .ok (.iload_n 1, 1) := by decide +kernel
theorem dX9_right_6 : decode cX9_right 6 = .ok (.invokestatic 182, 3) := by decide +kernel
theorem dX9_right_9 : decode cX9_right 9 = .ok (.ifCond .ne 5, 3) := by decide +kernel
theorem dX9_right_12 : decode cX9_right 12 = .ok (.iconst (-1), 1) := by decide +kernel
theorem dX9_right_13 : decode cX9_right 13 = .ok (.ireturn, 1) := by decide +kernel
theorem dX9_right_14 : decode cX9_right 14 = .ok (.aload_n 0, 1) := by decide +kernel
theorem dX9_right_15 : decode cX9_right 15 = .ok (.iload_n 1, 1) := by decide +kernel
theorem dX9_right_16 : decode cX9_right 16 = .ok (.invokevirtual 294, 3) := by decide +kernel
theorem dX9_right_19 : decode cX9_right 19 = .ok (.aload_n 0, 1) := by decide +kernel
theorem dX9_right_20 : decode cX9_right 20 = .ok (.iload_n 1, 1) := by decide +kernel
theorem dX9_right_21 : decode cX9_right 21 = .ok (.iconst 0, 1) := by decide +kernel
theorem dX9_right_22 : decode cX9_right 22 = .ok (.invokevirtual 244, 3) := by decide +kernel
theorem dX9_right_25 : decode cX9_right 25 = .ok (.iload_n 1, 1) := by decide +kernel
theorem dX9_right_26 : decode cX9_right 26 = .ok (.iconst 1, 1) := by decide +kernel
theorem dX9_right_27 : decode cX9_right 27 = .ok (.if_icmp .ne 18, 3) := by decide +kernel
theorem dX9_right_30 : decode cX9_right 30 = .ok (.aload_n 0, 1) := by decide +kernel
theorem dX9_right_31 : decode cX9_right 31 = .ok (.getfield 235, 3) := by decide +kernel
theorem dX9_right_34 : decode cX9_right 34 = .ok (.iconst (-1), 1) := by decide +kernel
theorem dX9_right_35 : decode cX9_right 35 = .ok (.if_icmp .eq 10, 3) := by decide +kernel
theorem dX9_right_38 : decode cX9_right 38 = .ok (.aload_n 0, 1) := by decide +kernel
theorem dX9_right_39 : decode cX9_right 39 = .ok (.getfield 235, 3) := by decide +kernel
theorem dX9_right_42 : decode cX9_right 42 = .ok (.goto 4, 3) := by decide +kernel
theorem dX9_right_45 : decode cX9_right 45 = .ok (.iconst 0, 1) := by decide +kernel
theorem dX9_right_46 : decode cX9_right 46 = .ok (.iadd, 1) := by decide +kernel
theorem dX9_right_47 : decode cX9_right 47 = .ok (.istore_n 2, 1) := by decide +kernel
theorem dX9_right_48 : decode cX9_right 48 = .ok (.iconst 0, 1) := by decide +kernel
theorem dX9_right_49 : decode cX9_right 49 = .ok (.istore_n 3, 1) := by decide +kernel
theorem dX9_right_50 : decode cX9_right 50 = .ok (.iconst 0, 1) := by decide +kernel
theorem dX9_right_51 : decode cX9_right 51 = .ok (.istore 4, 2) := by decide +kernel
theorem dX9_right_53 : decode cX9_right 53 = .ok (.iload 4, 2) := by decide +kernel
theorem dX9_right_55 : decode cX9_right 55 = .ok (.aload_n 0, 1) := by decide +kernel
theorem dX9_right_56 : decode cX9_right 56 = .ok (.getfield 7, 3) := by decide +kernel
theorem dX9_right_59 : decode cX9_right 59 = .ok (.iconst 0, 1) := by decide +kernel
theorem dX9_right_60 : decode cX9_right 60 = .ok (.iaload, 1) := by decide +kernel
theorem dX9_right_61 : decode cX9_right 61 = .ok (.if_icmp .ge 40, 3) := by decide +kernel
theorem dX9_right_64 : decode cX9_right 64 = .ok (.iload_n 3, 1) := by decide +kernel
theorem dX9_right_65 : decode cX9_right 65 = .ok (.aload_n 0, 1) := by decide +kernel
theorem dX9_right_66 : decode cX9_right 66 = .ok (.iload 4, 2) := by decide +kernel
theorem dX9_right_68 : decode cX9_right 68 = .ok (.invokevirtual 260, 3) := by decide +kernel
theorem dX9_right_71 : decode cX9_right 71 = .ok (.iload_n 2, 1) := by decide +kernel
theorem dX9_right_72 : decode cX9_right 72 = .ok (.aload_n 0, 1) := by decide +kernel
theorem dX9_right_73 : decode cX9_right 73 = .ok (.iload 4, 2) := by decide +kernel
theorem dX9_right_75 : decode cX9_right 75 = .ok (.iconst 0, 1) := by decide +kernel
theorem dX9_right_76 : decode cX9_right 76 = .ok (.invokevirtual 195, 3) := by decide +kernel
theorem dX9_right_79 : decode cX9_right 79 = .ok (.invokestatic 55, 3) := by decide +kernel
theorem dX9_right_82 : decode cX9_right 82 = .ok (.if_icmp .ne 10, 3) := by decide +kernel
theorem dX9_right_85 : decode cX9_right 85 = .ok (.iconst 1, 1) := by decide +kernel
theorem dX9_right_86 : decode cX9_right 86 = .ok (.iload 4, 2) := by decide +kernel
theorem dX9_right_88 : decode cX9_right 88 = .ok (.ishl, 1) := by decide +kernel
theorem dX9_right_89 : decode cX9_right 89 = .ok (.goto 4, 3) := by decide +kernel
theorem dX9_right_92 : decode cX9_right 92 = .ok (.iconst 0, 1) := by decide +kernel
theorem dX9_right_93 : decode cX9_right 93 = .ok (.ior, 1) := by decide +kernel
theorem dX9_right_94 : decode cX9_right 94 = .ok (.istore_n 3, 1) := by decide +kernel
theorem dX9_right_95 : decode cX9_right 95 = .ok (.iinc 4 1, 3) := by decide +kernel
theorem dX9_right_98 : decode cX9_right 98 = .ok (.goto (-45), 3) := by decide +kernel
theorem dX9_right_101 : decode cX9_right 101 = .ok (.iload_n 3, 1) := by decide +kernel
theorem dX9_right_102 : decode cX9_right 102 = .ok (.ireturn, 1) := by decide +kernel
abbrev rmX9_right : Room := { frames := 7, cells := 0, slots := 0, locals := 162 }
theorem inX9_right_9 : ∀ w ∈ wsX90, w ∈ wsX9_right := by decide +kernel
def vX9_right_c53 (J : Nat → Int64) (al : Nat → Int32) (p1 : Int32) (Q : Int32 → (Nat → Int32) → (Nat → Int32) → (Nat → Int32) → Prop) : Nat → Int32 → Int32 → Int32 → (Nat → Int32) → (Nat → Int32) → (Nat → Int32) → Prop
  | 0, _, _, _, _, _, _ => False
  | n + 1, x2, x3, x4, F, he, ma => (((al 0) ≤ x4 → (Q x3 F he ma)) ∧ (¬ (al 0) ≤ x4 → (∃ (T_68 : Cd) (p_68 : Nat) (m_68 : Nat → Nat → Int), preX9_bestOf T_68 p_68 m_68 F J al ma x4 ∧ (∀ r_68 : Int32, postX9_bestOf T_68 p_68 m_68 F J al ma x4 r_68 → (∃ (p_76 : Nat) (w_76 : Nat), preX9_of p_76 w_76 F J al x4 (0 : Int32) ∧ (∀ r_76 : Int32, postX9_of p_76 w_76 F J al x4 (0 : Int32) r_76 → (preX9_rest x2 r_76 ∧ (∀ r_79 : Int32, postX9_rest x2 r_76 r_79 → ((¬ r_68 = r_79 → (vX9_right_c53 J al p1 Q n x2 (x3 ||| (0 : Int32)) (x4 + (1 : Int32)) F he ma)) ∧ (r_68 = r_79 → (∀ y_94 : Int32, y_94 = (x3 ||| ((1 : Int32) <<< (x4 &&& 31))) → (vX9_right_c53 J al p1 Q n x2 y_94 (x4 + (1 : Int32)) F he ma))))))))))))
set_option maxHeartbeats 4000000 in
set_option maxRecDepth 100000 in
theorem kX9_right_c53 {p : Program} {l : Launch} {e : Env} {s : State} {m : MethodId} {args : Array Value} {below : List Frame} {meth : Method} {c : Code} {g : GP} {qM : Nat} {q1 : Nat} {q2 : Nat} {q3 : Nat} {q4 : Nat} {q5 : Nat} {q6 : Nat} {q7 : Nat} {q8 : Nat} {q9 : Nat} {q10 : Nat} {q11 : Nat} {J : Nat → Int64} {al : Nat → Int32} {p1 : Int32} {Q : Int32 → (Nat → Int32) → (Nat → Int32) → (Nat → Int32) → Prop} {A : Nat → Prop} (S : CallFix p m c cX9_right 5 s args wsX9_right RX9) (hr : meth.sig.returnType = (some .int)) (hlocks : meth.locks = false) (hG : GK g s) (hA : ∀ q : Nat, s.heap.size ≤ q → A q) : ∀ (n : Nat), ∀ (x2 : Int32) (x3 : Int32) (x4 : Int32) (F : Nat → Int32) (he : Nat → Int32) (ma : Nat → Int32), vX9_right_c53 J al p1 Q n x2 x3 x4 F he ma → ∀ (H : Heap) (locs : List Loc), va_P g.1 vwCl [(qM, .inr (9, [.int (F 0), .ref q1, .ref q2, .ref q3, .int (F 4), .int (F 5), .int (F 6), .int (F 7), .int (F 8), .int (F 9), .long (J 10), .int (F 11), .int (F 12), .int (F 13), .ref q4, .int (F 15), .ref q5, .ref q6, .ref q7, .int (F 19), .ref q8, .int (F 21), .int (F 22), .int (F 23), .int (F 24), .ref q9, .ref q10, .ref q11, .long (J 28)])), (q1, .inl (g.2 0, 376, .inl al)), (q7, .inl (g.2 0, 200, .inl he)), (q8, .inl (g.2 0, 65, .inl ma))] H → va_D A [(qM, .inr (9, [.int (F 0), .ref q1, .ref q2, .ref q3, .int (F 4), .int (F 5), .int (F 6), .int (F 7), .int (F 8), .int (F 9), .long (J 10), .int (F 11), .int (F 12), .int (F 13), .ref q4, .int (F 15), .ref q5, .ref q6, .ref q7, .int (F 19), .ref q8, .int (F 21), .int (F 22), .int (F 23), .int (F 24), .ref q9, .ref q10, .ref q11, .long (J 28)])), (q1, .inl (g.2 0, 376, .inl al)), (q7, .inl (g.2 0, 200, .inl he)), (q8, .inl (g.2 0, 65, .inl ma))] → va_S A s.heap H locs → ∀ (ls : Array Slot), lv_has ls 5 [(0, .ref qM), (2, .int x2), (3, .int x3), (4, .int x4)] → W p l e (headSpec wsX9_right rmX9_right).room s m args below meth c H locs 0 0 (MQ below (va_Qi (fun (r : Int32) (u : (Nat → Int32) × (Nat → Int32) × (Nat → Int32)) => Q r u.1 u.2.1 u.2.2) (fun (u : (Nat → Int32) × (Nat → Int32) × (Nat → Int32)) t => va_P g.1 vwCl [(qM, .inr (9, [.int (u.1 0), .ref q1, .ref q2, .ref q3, .int (u.1 4), .int (u.1 5), .int (u.1 6), .int (u.1 7), .int (u.1 8), .int (u.1 9), .long (J 10), .int (u.1 11), .int (u.1 12), .int (u.1 13), .ref q4, .int (u.1 15), .ref q5, .ref q6, .ref q7, .int (u.1 19), .ref q8, .int (u.1 21), .int (u.1 22), .int (u.1 23), .int (u.1 24), .ref q9, .ref q10, .ref q11, .long (J 28)])), (q1, .inl (g.2 0, 376, .inl al)), (q7, .inl (g.2 0, 200, .inl u.2.1)), (q8, .inl (g.2 0, 65, .inl u.2.2))] t.heap ∧ va_D A [(qM, .inr (9, [.int (u.1 0), .ref q1, .ref q2, .ref q3, .int (u.1 4), .int (u.1 5), .int (u.1 6), .int (u.1 7), .int (u.1 8), .int (u.1 9), .long (J 10), .int (u.1 11), .int (u.1 12), .int (u.1 13), .ref q4, .int (u.1 15), .ref q5, .ref q6, .ref q7, .int (u.1 19), .ref q8, .int (u.1 21), .int (u.1 22), .int (u.1 23), .int (u.1 24), .ref q9, .ref q10, .ref q11, .long (J 28)])), (q1, .inl (g.2 0, 376, .inl al)), (q7, .inl (g.2 0, 200, .inl u.2.1)), (q8, .inl (g.2 0, 65, .inl u.2.2))]) A) args s 0 0 A) (F0 m 53 ls []) := by
  obtain ⟨hx, hb, hml, hown, hts⟩ := id S
  have hK := hG.1
  intro n
  induction n with
  | zero => intro x2 x3 x4 F he ma hv; exact hv.elim
  | succ n ih =>
    intro x2 x3 x4 F he ma hv H locs hP hD hS ls hl
    refine lv_iload hx hb dX9_right_53 (lv_at hl 3 rfl) ?_
    refine lv_aload_n hx hb dX9_right_55 rfl (lv_at hl 0 rfl) ?_
    refine va_get (D := g.1) (ci := 9) (v := .ref q1) (C := RX9) (T := TX9) (N := 29) hx hb hts inX9_right_9 hown hK hP 0 rfl rfl 1 (by decide) (hts (.fieldLink RX9 7 "RangeCodesModel" "all" "[I") (List.mem_of_getElem? (i := 3) rfl)) (fun _ h9 => h9) rfl dX9_right_56 ?_
    refine lv_iconst (v := (0 : Int32)) hx hb dX9_right_59 (by decide) ?_
    refine va_iald hx hb hK hP 1 0 rfl rfl (by unfold vp_in; decide) dX9_right_60 ?_
    obtain ⟨hvt, hvf⟩ := hv
    refine lv_icmp_ge (tgt := 101) hx hb dX9_right_61 (by decide) (fun hc => ?_) (fun hc => ?_)
    · have hv := hvt hc
      refine lv_iload_n hx hb dX9_right_101 rfl (lv_at hl 2 rfl) ?_
      have hP9 := hP.sub (ws' := [(qM, .inr (9, [.int (F 0), .ref q1, .ref q2, .ref q3, .int (F 4), .int (F 5), .int (F 6), .int (F 7), .int (F 8), .int (F 9), .long (J 10), .int (F 11), .int (F 12), .int (F 13), .ref q4, .int (F 15), .ref q5, .ref q6, .ref q7, .int (F 19), .ref q8, .int (F 21), .int (F 22), .int (F 23), .int (F 24), .ref q9, .ref q10, .ref q11, .long (J 28)])), (q1, .inl (g.2 0, 376, .inl al)), (q7, .inl (g.2 0, 200, .inl he)), (q8, .inl (g.2 0, 65, .inl ma))]) [0, 1, 2, 3] rfl
      have hD9 := hD.sub (ws' := [(qM, .inr (9, [.int (F 0), .ref q1, .ref q2, .ref q3, .int (F 4), .int (F 5), .int (F 6), .int (F 7), .int (F 8), .int (F 9), .long (J 10), .int (F 11), .int (F 12), .int (F 13), .ref q4, .int (F 15), .ref q5, .ref q6, .ref q7, .int (F 19), .ref q8, .int (F 21), .int (F 22), .int (F 23), .int (F 24), .ref q9, .ref q10, .ref q11, .long (J 28)])), (q1, .inl (g.2 0, 376, .inl al)), (q7, .inl (g.2 0, 200, .inl he)), (q8, .inl (g.2 0, 65, .inl ma))]) [0, 1, 2, 3] (by decide) rfl
      exact W.iret (v := x3) hx hb hr (fun t ht hW => ⟨⟨_, (F, he, ma), rfl, hv, by rw [ht]; exact hP9, hD9⟩, hS.F ht⟩) hS.2.2 dX9_right_102
    · have hv := hvf hc
      refine lv_iload_n hx hb dX9_right_64 rfl (lv_at hl 2 rfl) ?_
      refine lv_aload_n hx hb dX9_right_65 rfl (lv_at hl 0 rfl) ?_
      refine lv_iload hx hb dX9_right_66 (lv_at hl 3 rfl) ?_
      obtain ⟨T_68, p_68, m_68, ho_1, hv⟩ := hv
      refine vp_callSi (W.runV (As := [.int x4]) (rest := [.int x3]) S (wX9_bestOf l g qM q1 q2 q3 q4 q5 q6 q7 q8 q9 q10 q11 F J al ma x4 (sX9_bestOf T_68 p_68 m_68 F J al ma x4 ho_1)) (cwV 1 hts gX9_right_X9_bestOf rfl rfl rfl (by decide +kernel) ⟨Nat.le_of_ble_eq_true rfl, Nat.le_of_ble_eq_true rfl⟩) ⟨blindRO, va_recv hK hP (ci := 9) (q0 := 0) rfl rfl, fun U hU hW => ⟨rfl, by rw [hU]; exact hP.sub (ws' := [(qM, .inr (9, [.int (F 0), .ref q1, .ref q2, .ref q3, .int (F 4), .int (F 5), .int (F 6), .int (F 7), .int (F 8), .int (F 9), .long (J 10), .int (F 11), .int (F 12), .int (F 13), .ref q4, .int (F 15), .ref q5, .ref q6, .ref q7, .int (F 19), .ref q8, .int (F 21), .int (F 22), .int (F 23), .int (F 24), .ref q9, .ref q10, .ref q11, .long (J 28)])), (q1, .inl (g.2 0, 376, .inl al)), (q8, .inl (g.2 0, 65, .inl ma))]) [0, 1, 3] rfl, hG.warm hW⟩⟩ rfl rfl hl.1 rfl (lv_room (Nat.le_of_ble_eq_true rfl)) dX9_right_68 ⟨Nat.le_of_ble_eq_true rfl, Nat.le_of_ble_eq_true rfl⟩) (fun r_68 hr_68 => ?_)
      have hv := hv r_68 hr_68
      refine lv_iload_n hx hb dX9_right_71 rfl (lv_at hl 1 rfl) ?_
      refine lv_aload_n hx hb dX9_right_72 rfl (lv_at hl 0 rfl) ?_
      refine lv_iload hx hb dX9_right_73 (lv_at hl 3 rfl) ?_
      refine lv_iconst (v := (0 : Int32)) hx hb dX9_right_75 (by decide) ?_
      obtain ⟨p_76, w_76, ho_2, hv⟩ := hv
      refine vp_callSi (W.runV (As := [.int x4, .int (0 : Int32)]) (rest := [.int x2, .int r_68, .int x3]) S (wX9_of l g qM q1 q2 q3 q4 q5 q6 q7 q8 q9 q10 q11 F J al x4 (0 : Int32) (sX9_of p_76 w_76 F J al x4 (0 : Int32) ho_2)) (cwV 2 hts gX9_right_X9_of rfl rfl rfl (by decide +kernel) ⟨Nat.le_of_ble_eq_true rfl, Nat.le_of_ble_eq_true rfl⟩) ⟨blindRO, va_recv hK hP (ci := 9) (q0 := 0) rfl rfl, fun U hU hW => ⟨rfl, by rw [hU]; exact hP.sub (ws' := [(qM, .inr (9, [.int (F 0), .ref q1, .ref q2, .ref q3, .int (F 4), .int (F 5), .int (F 6), .int (F 7), .int (F 8), .int (F 9), .long (J 10), .int (F 11), .int (F 12), .int (F 13), .ref q4, .int (F 15), .ref q5, .ref q6, .ref q7, .int (F 19), .ref q8, .int (F 21), .int (F 22), .int (F 23), .int (F 24), .ref q9, .ref q10, .ref q11, .long (J 28)])), (q1, .inl (g.2 0, 376, .inl al))]) [0, 1] rfl, hG.warm hW⟩⟩ rfl rfl hl.1 rfl (lv_room (Nat.le_of_ble_eq_true rfl)) dX9_right_76 ⟨Nat.le_of_ble_eq_true rfl, Nat.le_of_ble_eq_true rfl⟩) (fun r_76 hr_76 => ?_)
      have hv := hv r_76 hr_76
      obtain ⟨ho_3, hv⟩ := hv
      refine vp_callSi (W.runS (As := [.int x2, .int r_76]) (rest := [.int r_68, .int x3]) S (wX9_rest l g x2 r_76 (sX9_rest x2 r_76 ho_3)) (va_cwS 2 hts gX9_right_X9_rest rfl rfl rfl (by decide +kernel) ⟨Nat.le_of_ble_eq_true rfl, Nat.le_of_ble_eq_true rfl⟩) ⟨blindRO, fun U hU hW => ⟨rfl, by rw [hU]; exact hP.sub (ws' := []) [] rfl, hG.warm hW⟩⟩ rfl rfl hl.1 rfl (lv_room (Nat.le_of_ble_eq_true rfl)) dX9_right_79 ⟨Nat.le_of_ble_eq_true rfl, Nat.le_of_ble_eq_true rfl⟩) (fun r_79 hr_79 => ?_)
      have hv := hv r_79 hr_79
      obtain ⟨hvt, hvf⟩ := hv
      refine lv_icmp_ne (tgt := 92) hx hb dX9_right_82 (by decide) (fun hc => ?_) (fun hc => ?_)
      · have hv := hvt hc
        refine lv_iconst (v := (0 : Int32)) hx hb dX9_right_92 (by decide) ?_
        refine lv_ior hx hb dX9_right_93 ?_
        refine lv_istore_n (lv' := [(3, .int (x3 ||| (0 : Int32))), (0, .ref qM), (2, .int x2), (4, .int x4)]) hx hb dX9_right_94 rfl hl (by decide) rfl (fun ls hl => ?_)
        refine lv_iinc (v := (x4 + (1 : Int32))) (lv' := [(4, .int (x4 + (1 : Int32))), (3, .int (x3 ||| (0 : Int32))), (0, .ref qM), (2, .int x2)]) hx hb dX9_right_95 hl (k := 3) rfl rfl (by decide) rfl (fun ls hl => ?_)
        refine lv_goto (tgt := 53) hx hb dX9_right_98 (by decide) ?_
        exact ih _ _ _ _ _ _ hv _ _ (hP.sub (ws' := [(qM, .inr (9, [.int (F 0), .ref q1, .ref q2, .ref q3, .int (F 4), .int (F 5), .int (F 6), .int (F 7), .int (F 8), .int (F 9), .long (J 10), .int (F 11), .int (F 12), .int (F 13), .ref q4, .int (F 15), .ref q5, .ref q6, .ref q7, .int (F 19), .ref q8, .int (F 21), .int (F 22), .int (F 23), .int (F 24), .ref q9, .ref q10, .ref q11, .long (J 28)])), (q1, .inl (g.2 0, 376, .inl al)), (q7, .inl (g.2 0, 200, .inl he)), (q8, .inl (g.2 0, 65, .inl ma))]) [0, 1, 2, 3] rfl) (hD.sub (ws' := [(qM, .inr (9, [.int (F 0), .ref q1, .ref q2, .ref q3, .int (F 4), .int (F 5), .int (F 6), .int (F 7), .int (F 8), .int (F 9), .long (J 10), .int (F 11), .int (F 12), .int (F 13), .ref q4, .int (F 15), .ref q5, .ref q6, .ref q7, .int (F 19), .ref q8, .int (F 21), .int (F 22), .int (F 23), .int (F 24), .ref q9, .ref q10, .ref q11, .long (J 28)])), (q1, .inl (g.2 0, 376, .inl al)), (q7, .inl (g.2 0, 200, .inl he)), (q8, .inl (g.2 0, 65, .inl ma))]) [0, 1, 2, 3] (by decide) rfl) hS ls (lv_sub hl [2, 3, 1, 0] rfl)
      · have hv := hvf hc
        refine lv_iconst (v := (1 : Int32)) hx hb dX9_right_85 (by decide) ?_
        refine lv_iload hx hb dX9_right_86 (lv_at hl 3 rfl) ?_
        refine lv_ishl hx hb dX9_right_88 ?_
        refine lv_goto (tgt := 93) hx hb dX9_right_89 (by decide) ?_
        refine lv_ior hx hb dX9_right_93 ?_
        refine lv_topi (fun y_94 ey_94 => ?_)
        have hv := hv y_94 ey_94
        refine lv_istore_n (lv' := [(3, .int y_94), (0, .ref qM), (2, .int x2), (4, .int x4)]) hx hb dX9_right_94 rfl hl (by decide) rfl (fun ls hl => ?_)
        refine lv_iinc (v := (x4 + (1 : Int32))) (lv' := [(4, .int (x4 + (1 : Int32))), (3, .int y_94), (0, .ref qM), (2, .int x2)]) hx hb dX9_right_95 hl (k := 3) rfl rfl (by decide) rfl (fun ls hl => ?_)
        refine lv_goto (tgt := 53) hx hb dX9_right_98 (by decide) ?_
        exact ih _ _ _ _ _ _ hv _ _ (hP.sub (ws' := [(qM, .inr (9, [.int (F 0), .ref q1, .ref q2, .ref q3, .int (F 4), .int (F 5), .int (F 6), .int (F 7), .int (F 8), .int (F 9), .long (J 10), .int (F 11), .int (F 12), .int (F 13), .ref q4, .int (F 15), .ref q5, .ref q6, .ref q7, .int (F 19), .ref q8, .int (F 21), .int (F 22), .int (F 23), .int (F 24), .ref q9, .ref q10, .ref q11, .long (J 28)])), (q1, .inl (g.2 0, 376, .inl al)), (q7, .inl (g.2 0, 200, .inl he)), (q8, .inl (g.2 0, 65, .inl ma))]) [0, 1, 2, 3] rfl) (hD.sub (ws' := [(qM, .inr (9, [.int (F 0), .ref q1, .ref q2, .ref q3, .int (F 4), .int (F 5), .int (F 6), .int (F 7), .int (F 8), .int (F 9), .long (J 10), .int (F 11), .int (F 12), .int (F 13), .ref q4, .int (F 15), .ref q5, .ref q6, .ref q7, .int (F 19), .ref q8, .int (F 21), .int (F 22), .int (F 23), .int (F 24), .ref q9, .ref q10, .ref q11, .long (J 28)])), (q1, .inl (g.2 0, 376, .inl al)), (q7, .inl (g.2 0, 200, .inl he)), (q8, .inl (g.2 0, 65, .inl ma))]) [0, 1, 2, 3] (by decide) rfl) hS ls (lv_sub hl [2, 3, 1, 0] rfl)
def vX9_right (F : Nat → Int32) (J : Nat → Int64) (al : Nat → Int32) (he : Nat → Int32) (ma : Nat → Int32) (p1 : Int32) (Q : Int32 → (Nat → Int32) → (Nat → Int32) → (Nat → Int32) → Prop) : Prop := (preX9_isLeg p1 ∧ (∀ r_6 : Int32, postX9_isLeg p1 r_6 → ((¬ r_6 = 0 → (∃ (T_16 : Cd) (G0_16 : Lg) (G1_16 : Lg) (lg_16 : Nat) (lim_16 : Nat), preX9_laysLeg T_16 G0_16 G1_16 lg_16 lim_16 (upd F 0 (0 : Int32)) J al he ma p1 ∧ (∀ (F_16 : Nat → Int32) (he_16 : Nat → Int32) (ma_16 : Nat → Int32), postX9_laysLeg T_16 G0_16 G1_16 lg_16 lim_16 (upd F 0 (0 : Int32)) J al he ma p1 F_16 he_16 ma_16 → (∃ (G_22 : Lg) (lg_22 : Nat) (i_22 : Nat), preX9_behindAt G_22 lg_22 i_22 F_16 J al p1 (0 : Int32) ∧ (∀ r_22 : Int32, postX9_behindAt G_22 lg_22 i_22 F_16 J al p1 (0 : Int32) r_22 → ((¬ p1 = (1 : Int32) → (∃ nn, vX9_right_c53 J al p1 Q nn (r_22 + (0 : Int32)) (0 : Int32) (0 : Int32) F_16 he_16 ma_16)) ∧ (p1 = (1 : Int32) → (((F_16 19) = (-1 : Int32) → (∃ nn, vX9_right_c53 J al p1 Q nn (r_22 + (0 : Int32)) (0 : Int32) (0 : Int32) F_16 he_16 ma_16)) ∧ (¬ (F_16 19) = (-1 : Int32) → (∃ nn, vX9_right_c53 J al p1 Q nn (r_22 + (F_16 19)) (0 : Int32) (0 : Int32) F_16 he_16 ma_16)))))))))) ∧ (r_6 = 0 → (Q (-1 : Int32) (upd F 0 (0 : Int32)) he ma)))))
set_option maxHeartbeats 4000000 in
set_option maxRecDepth 100000 in
theorem wX9_right (l : Launch) (g : GP) (qM : Nat) (q1 : Nat) (q2 : Nat) (q3 : Nat) (q4 : Nat) (q5 : Nat) (q6 : Nat) (q7 : Nat) (q8 : Nat) (q9 : Nat) (q10 : Nat) (q11 : Nat) (sz : Nat) (F : Nat → Int32) (J : Nat → Int64) (al : Nat → Int32) (he : Nat → Int32) (ma : Nat → Int32) (p1 : Int32) {Q : Int32 → (Nat → Int32) → (Nat → Int32) → (Nat → Int32) → Prop} (hv : vX9_right F J al he ma p1 Q) : Met l yX9_right wsX9_right rmX9_right (va_Pc [.ref qM, .int p1] (fun U => U.heap.size = sz ∧ va_P g.1 vwCl [(qM, .inr (9, [.int (F 0), .ref q1, .ref q2, .ref q3, .int (F 4), .int (F 5), .int (F 6), .int (F 7), .int (F 8), .int (F 9), .long (J 10), .int (F 11), .int (F 12), .int (F 13), .ref q4, .int (F 15), .ref q5, .ref q6, .ref q7, .int (F 19), .ref q8, .int (F 21), .int (F 22), .int (F 23), .int (F 24), .ref q9, .ref q10, .ref q11, .long (J 28)])), (q1, .inl (g.2 0, 376, .inl al)), (q7, .inl (g.2 0, 200, .inl he)), (q8, .inl (g.2 0, 65, .inl ma))] U.heap ∧ GK g U ∧ va_D (fun _ => True) [(qM, .inr (9, [.int (F 0), .ref q1, .ref q2, .ref q3, .int (F 4), .int (F 5), .int (F 6), .int (F 7), .int (F 8), .int (F 9), .long (J 10), .int (F 11), .int (F 12), .int (F 13), .ref q4, .int (F 15), .ref q5, .ref q6, .ref q7, .int (F 19), .ref q8, .int (F 21), .int (F 22), .int (F 23), .int (F 24), .ref q9, .ref q10, .ref q11, .long (J 28)])), (q1, .inl (g.2 0, 376, .inl al)), (q7, .inl (g.2 0, 200, .inl he)), (q8, .inl (g.2 0, 65, .inl ma))])) (va_Qi (fun (r : Int32) (u : (Nat → Int32) × (Nat → Int32) × (Nat → Int32)) => Q r u.1 u.2.1 u.2.2) (fun (u : (Nat → Int32) × (Nat → Int32) × (Nat → Int32)) t => va_P g.1 vwCl [(qM, .inr (9, [.int (u.1 0), .ref q1, .ref q2, .ref q3, .int (u.1 4), .int (u.1 5), .int (u.1 6), .int (u.1 7), .int (u.1 8), .int (u.1 9), .long (J 10), .int (u.1 11), .int (u.1 12), .int (u.1 13), .ref q4, .int (u.1 15), .ref q5, .ref q6, .ref q7, .int (u.1 19), .ref q8, .int (u.1 21), .int (u.1 22), .int (u.1 23), .int (u.1 24), .ref q9, .ref q10, .ref q11, .long (J 28)])), (q1, .inl (g.2 0, 376, .inl al)), (q7, .inl (g.2 0, 200, .inl u.2.1)), (q8, .inl (g.2 0, 65, .inl u.2.2))] t.heap ∧ va_D (va_A [(qM, .inr (9, [.int (F 0), .ref q1, .ref q2, .ref q3, .int (F 4), .int (F 5), .int (F 6), .int (F 7), .int (F 8), .int (F 9), .long (J 10), .int (F 11), .int (F 12), .int (F 13), .ref q4, .int (F 15), .ref q5, .ref q6, .ref q7, .int (F 19), .ref q8, .int (F 21), .int (F 22), .int (F 23), .int (F 24), .ref q9, .ref q10, .ref q11, .long (J 28)])), (q1, .inl (g.2 0, 376, .inl al)), (q7, .inl (g.2 0, 200, .inl he)), (q8, .inl (g.2 0, 65, .inl ma))] sz) [(qM, .inr (9, [.int (u.1 0), .ref q1, .ref q2, .ref q3, .int (u.1 4), .int (u.1 5), .int (u.1 6), .int (u.1 7), .int (u.1 8), .int (u.1 9), .long (J 10), .int (u.1 11), .int (u.1 12), .int (u.1 13), .ref q4, .int (u.1 15), .ref q5, .ref q6, .ref q7, .int (u.1 19), .ref q8, .int (u.1 21), .int (u.1 22), .int (u.1 23), .int (u.1 24), .ref q9, .ref q10, .ref q11, .long (J 28)])), (q1, .inl (g.2 0, 376, .inl al)), (q7, .inl (g.2 0, 200, .inl u.2.1)), (q8, .inl (g.2 0, 65, .inl u.2.2))]) (va_A [(qM, .inr (9, [.int (F 0), .ref q1, .ref q2, .ref q3, .int (F 4), .int (F 5), .int (F 6), .int (F 7), .int (F 8), .int (F 9), .long (J 10), .int (F 11), .int (F 12), .int (F 13), .ref q4, .int (F 15), .ref q5, .ref q6, .ref q7, .int (F 19), .ref q8, .int (F 21), .int (F 22), .int (F 23), .int (F 24), .ref q9, .ref q10, .ref q11, .long (J 28)])), (q1, .inl (g.2 0, 376, .inl al)), (q7, .inl (g.2 0, 200, .inl he)), (q8, .inl (g.2 0, 65, .inl ma))] sz)) 0 0 (va_A [(qM, .inr (9, [.int (F 0), .ref q1, .ref q2, .ref q3, .int (F 4), .int (F 5), .int (F 6), .int (F 7), .int (F 8), .int (F 9), .long (J 10), .int (F 11), .int (F 12), .int (F 13), .ref q4, .int (F 15), .ref q5, .ref q6, .ref q7, .int (F 19), .ref q8, .int (F 21), .int (F 22), .int (F 23), .int (F 24), .ref q9, .ref q10, .ref q11, .long (J 28)])), (q1, .inl (g.2 0, 376, .inl al)), (q7, .inl (g.2 0, 200, .inl he)), (q8, .inl (g.2 0, 65, .inl ma))] sz) := by
  refine Met.ofW (cc := cX9_right) (maxL := 5) (ret := (some .int)) (by decide) rfl ?_
  intro p e s m args below meth c s₁ B hml hv'
  obtain ⟨rfl, hsz, hP, hG, hD0⟩ := hv'
  have S : CallFix p m c cX9_right 5 s _ wsX9_right RX9 := ⟨B.exec, B.bytes, hml, findClass_of_methodNamed B.named, atoms_spec (ws := wsX9_right) B.pre⟩
  obtain ⟨hx, hb, hml, hown, hts⟩ := id S
  have hK := hG.1
  have hr := B.returns
  have hlocks := B.notSynchronized
  subst hsz
  have hD := hD0.self (sz := s.heap.size)
  generalize hAe : va_A [(qM, .inr (9, [.int (F 0), .ref q1, .ref q2, .ref q3, .int (F 4), .int (F 5), .int (F 6), .int (F 7), .int (F 8), .int (F 9), .long (J 10), .int (F 11), .int (F 12), .int (F 13), .ref q4, .int (F 15), .ref q5, .ref q6, .ref q7, .int (F 19), .ref q8, .int (F 21), .int (F 22), .int (F 23), .int (F 24), .ref q9, .ref q10, .ref q11, .long (J 28)])), (q1, .inl (g.2 0, 376, .inl al)), (q7, .inl (g.2 0, 200, .inl he)), (q8, .inl (g.2 0, 65, .inl ma))] s.heap.size = A at hD ⊢
  have hA : ∀ q : Nat, s.heap.size ≤ q → A q := fun q h => by rw [← hAe]; exact Or.inr h
  have hS : va_S A s.heap s.heap [] := va_S.rf
  clear hD0 hAe
  have hl := lv_entry ([.ref qM, .int p1]) (n := 5) (Nat.le_of_ble_eq_true rfl)
  rw [lg_entry_eq]
  generalize (lg_sl ([.ref qM, .int p1]) ++ List.replicate (5 - (lg_sl ([.ref qM, .int p1])).length) Slot.unset).toArray = ls at hl ⊢
  have hl : lv_has ls 5 [(0, .ref qM), (1, .int p1)] := hl
  unfold vX9_right at hv
  refine lv_aload_n hx hb dX9_right_0 rfl (lv_at hl 0 rfl) ?_
  refine lv_iconst (v := (0 : Int32)) hx hb dX9_right_1 (by decide) ?_
  refine va_put (D := g.1) (ci := 9) (v := .int (0 : Int32)) (ty := .int) (C := RX9) (T := TX9) (N := 29) hx hb hts inX9_right_9 tyX9 tyX9_ok nmX9 hown hK hP hD hS 0 rfl rfl 0 (by decide) (hts (.fieldLink RX9 51 "RangeCodesModel" "raised" "I") (List.mem_of_getElem? (i := 1) rfl)) (fun _ h9 => h9) rfl (by decide +kernel) rfl rfl (Nat.le_of_ble_eq_true rfl) dX9_right_2 (fun H locs hP hD hS => ?_)
  have hP : va_P g.1 vwCl [(qM, .inr (9, [.int (0 : Int32), .ref q1, .ref q2, .ref q3, .int (F 4), .int (F 5), .int (F 6), .int (F 7), .int (F 8), .int (F 9), .long (J 10), .int (F 11), .int (F 12), .int (F 13), .ref q4, .int (F 15), .ref q5, .ref q6, .ref q7, .int (F 19), .ref q8, .int (F 21), .int (F 22), .int (F 23), .int (F 24), .ref q9, .ref q10, .ref q11, .long (J 28)])), (q1, .inl (g.2 0, 376, .inl al)), (q7, .inl (g.2 0, 200, .inl he)), (q8, .inl (g.2 0, 65, .inl ma))] H := hP
  have hD : va_D A [(qM, .inr (9, [.int (0 : Int32), .ref q1, .ref q2, .ref q3, .int (F 4), .int (F 5), .int (F 6), .int (F 7), .int (F 8), .int (F 9), .long (J 10), .int (F 11), .int (F 12), .int (F 13), .ref q4, .int (F 15), .ref q5, .ref q6, .ref q7, .int (F 19), .ref q8, .int (F 21), .int (F 22), .int (F 23), .int (F 24), .ref q9, .ref q10, .ref q11, .long (J 28)])), (q1, .inl (g.2 0, 376, .inl al)), (q7, .inl (g.2 0, 200, .inl he)), (q8, .inl (g.2 0, 65, .inl ma))] := hD
  refine lv_iload_n hx hb dX9_right_5 rfl (lv_at hl 1 rfl) ?_
  obtain ⟨ho_1, hv⟩ := hv
  refine vp_callSi (W.runS (As := [.int p1]) (rest := []) S (wX9_isLeg l g p1 (sX9_isLeg p1 ho_1)) (va_cwS 1 hts gX9_right_X9_isLeg rfl rfl rfl (by decide +kernel) ⟨Nat.le_of_ble_eq_true rfl, Nat.le_of_ble_eq_true rfl⟩) ⟨blindRO, fun U hU hW => ⟨rfl, by rw [hU]; exact hP.sub (ws' := []) [] rfl, hG.warm hW⟩⟩ rfl rfl hl.1 rfl (lv_room (Nat.le_of_ble_eq_true rfl)) dX9_right_6 ⟨Nat.le_of_ble_eq_true rfl, Nat.le_of_ble_eq_true rfl⟩) (fun r_6 hr_6 => ?_)
  have hv := hv r_6 hr_6
  obtain ⟨hvt, hvf⟩ := hv
  refine lv_if_ne (tgt := 14) hx hb dX9_right_9 (by decide) (fun hc => ?_) (fun hc => ?_)
  · have hv := hvt hc
    refine lv_aload_n hx hb dX9_right_14 rfl (lv_at hl 0 rfl) ?_
    refine lv_iload_n hx hb dX9_right_15 rfl (lv_at hl 1 rfl) ?_
    obtain ⟨T_16, G0_16, G1_16, lg_16, lim_16, ho_2, hv⟩ := hv
    have hPc := hP.sub (ws' := [(qM, .inr (9, [.int ((upd F 0 (0 : Int32)) 0), .ref q1, .ref q2, .ref q3, .int ((upd F 0 (0 : Int32)) 4), .int ((upd F 0 (0 : Int32)) 5), .int ((upd F 0 (0 : Int32)) 6), .int ((upd F 0 (0 : Int32)) 7), .int ((upd F 0 (0 : Int32)) 8), .int ((upd F 0 (0 : Int32)) 9), .long (J 10), .int ((upd F 0 (0 : Int32)) 11), .int ((upd F 0 (0 : Int32)) 12), .int ((upd F 0 (0 : Int32)) 13), .ref q4, .int ((upd F 0 (0 : Int32)) 15), .ref q5, .ref q6, .ref q7, .int ((upd F 0 (0 : Int32)) 19), .ref q8, .int ((upd F 0 (0 : Int32)) 21), .int ((upd F 0 (0 : Int32)) 22), .int ((upd F 0 (0 : Int32)) 23), .int ((upd F 0 (0 : Int32)) 24), .ref q9, .ref q10, .ref q11, .long (J 28)])), (q1, .inl (g.2 0, 376, .inl al)), (q7, .inl (g.2 0, 200, .inl he)), (q8, .inl (g.2 0, 65, .inl ma))]) [0, 1, 2, 3] rfl
    have hDc := hD.sub (ws' := [(qM, .inr (9, [.int ((upd F 0 (0 : Int32)) 0), .ref q1, .ref q2, .ref q3, .int ((upd F 0 (0 : Int32)) 4), .int ((upd F 0 (0 : Int32)) 5), .int ((upd F 0 (0 : Int32)) 6), .int ((upd F 0 (0 : Int32)) 7), .int ((upd F 0 (0 : Int32)) 8), .int ((upd F 0 (0 : Int32)) 9), .long (J 10), .int ((upd F 0 (0 : Int32)) 11), .int ((upd F 0 (0 : Int32)) 12), .int ((upd F 0 (0 : Int32)) 13), .ref q4, .int ((upd F 0 (0 : Int32)) 15), .ref q5, .ref q6, .ref q7, .int ((upd F 0 (0 : Int32)) 19), .ref q8, .int ((upd F 0 (0 : Int32)) 21), .int ((upd F 0 (0 : Int32)) 22), .int ((upd F 0 (0 : Int32)) 23), .int ((upd F 0 (0 : Int32)) 24), .ref q9, .ref q10, .ref q11, .long (J 28)])), (q1, .inl (g.2 0, 376, .inl al)), (q7, .inl (g.2 0, 200, .inl he)), (q8, .inl (g.2 0, 65, .inl ma))]) [0, 1, 2, 3] (by decide) rfl
    have hFc := va_free (wc := [(qM, .inr (9, [.int ((upd F 0 (0 : Int32)) 0), .ref q1, .ref q2, .ref q3, .int ((upd F 0 (0 : Int32)) 4), .int ((upd F 0 (0 : Int32)) 5), .int ((upd F 0 (0 : Int32)) 6), .int ((upd F 0 (0 : Int32)) 7), .int ((upd F 0 (0 : Int32)) 8), .int ((upd F 0 (0 : Int32)) 9), .long (J 10), .int ((upd F 0 (0 : Int32)) 11), .int ((upd F 0 (0 : Int32)) 12), .int ((upd F 0 (0 : Int32)) 13), .ref q4, .int ((upd F 0 (0 : Int32)) 15), .ref q5, .ref q6, .ref q7, .int ((upd F 0 (0 : Int32)) 19), .ref q8, .int ((upd F 0 (0 : Int32)) 21), .int ((upd F 0 (0 : Int32)) 22), .int ((upd F 0 (0 : Int32)) 23), .int ((upd F 0 (0 : Int32)) 24), .ref q9, .ref q10, .ref q11, .long (J 28)])), (q1, .inl (g.2 0, 376, .inl al)), (q7, .inl (g.2 0, 200, .inl he)), (q8, .inl (g.2 0, 65, .inl ma))]) hD hS hA [0, 1, 2, 3] rfl
    refine va_callv (va_runV (As := [.int p1]) (rest := []) S (wX9_laysLeg l g qM q1 q2 q3 q4 q5 q6 q7 q8 q9 q10 q11 H.size (upd F 0 (0 : Int32)) J al he ma p1 (sX9_laysLeg T_16 G0_16 G1_16 lg_16 lim_16 (upd F 0 (0 : Int32)) J al he ma p1 ho_2)) (cwV 1 hts gX9_right_X9_laysLeg rfl rfl rfl (by decide +kernel) ⟨Nat.le_of_ble_eq_true rfl, Nat.le_of_ble_eq_true rfl⟩) ⟨blindRW, va_recv hK hP (ci := 9) (q0 := 0) rfl rfl, fun U hU hW => ⟨rfl, by rw [hU], by rw [hU]; exact hPc, hG.warm hW, hDc.weaken (fun _ _ _ _ => trivial)⟩⟩ rfl rfl hl.1 rfl (lv_room (Nat.le_of_ble_eq_true rfl)) dX9_right_16 ⟨Nat.le_of_ble_eq_true rfl, Nat.le_of_ble_eq_true rfl⟩) hS (fun q _ h => hFc q h) hFc (fun u t H1 locs ht hvm hw hB hz1 hk1 hS => ?_)
    obtain ⟨F_16, he_16, ma_16⟩ := u
    obtain ⟨hP1, hD1⟩ := hB
    rw [ht] at hP1
    have hv := hv F_16 he_16 ma_16 hw
    obtain ⟨hP, hD⟩ := va_join (wr := []) (w1 := [(qM, .inr (9, [.int (F_16 0), .ref q1, .ref q2, .ref q3, .int (F_16 4), .int (F_16 5), .int (F_16 6), .int (F_16 7), .int (F_16 8), .int (F_16 9), .long (J 10), .int (F_16 11), .int (F_16 12), .int (F_16 13), .ref q4, .int (F_16 15), .ref q5, .ref q6, .ref q7, .int (F_16 19), .ref q8, .int (F_16 21), .int (F_16 22), .int (F_16 23), .int (F_16 24), .ref q9, .ref q10, .ref q11, .long (J 28)])), (q1, .inl (g.2 0, 376, .inl al)), (q7, .inl (g.2 0, 200, .inl he_16)), (q8, .inl (g.2 0, 65, .inl ma_16))]) hP hD [0, 1, 2, 3] [] rfl rfl (by decide) (by decide) hk1 hFc hP1 hD1
    clear hP1 hD1 hPc hDc hFc hk1
    generalize H1 = H at hP hS ⊢
    have hP : va_P g.1 vwCl [(qM, .inr (9, [.int (F_16 0), .ref q1, .ref q2, .ref q3, .int (F_16 4), .int (F_16 5), .int (F_16 6), .int (F_16 7), .int (F_16 8), .int (F_16 9), .long (J 10), .int (F_16 11), .int (F_16 12), .int (F_16 13), .ref q4, .int (F_16 15), .ref q5, .ref q6, .ref q7, .int (F_16 19), .ref q8, .int (F_16 21), .int (F_16 22), .int (F_16 23), .int (F_16 24), .ref q9, .ref q10, .ref q11, .long (J 28)])), (q1, .inl (g.2 0, 376, .inl al)), (q7, .inl (g.2 0, 200, .inl he_16)), (q8, .inl (g.2 0, 65, .inl ma_16))] H := hP
    have hD : va_D A [(qM, .inr (9, [.int (F_16 0), .ref q1, .ref q2, .ref q3, .int (F_16 4), .int (F_16 5), .int (F_16 6), .int (F_16 7), .int (F_16 8), .int (F_16 9), .long (J 10), .int (F_16 11), .int (F_16 12), .int (F_16 13), .ref q4, .int (F_16 15), .ref q5, .ref q6, .ref q7, .int (F_16 19), .ref q8, .int (F_16 21), .int (F_16 22), .int (F_16 23), .int (F_16 24), .ref q9, .ref q10, .ref q11, .long (J 28)])), (q1, .inl (g.2 0, 376, .inl al)), (q7, .inl (g.2 0, 200, .inl he_16)), (q8, .inl (g.2 0, 65, .inl ma_16))] := hD
    refine lv_aload_n hx hb dX9_right_19 rfl (lv_at hl 0 rfl) ?_
    refine lv_iload_n hx hb dX9_right_20 rfl (lv_at hl 1 rfl) ?_
    refine lv_iconst (v := (0 : Int32)) hx hb dX9_right_21 (by decide) ?_
    obtain ⟨G_22, lg_22, i_22, ho_3, hv⟩ := hv
    refine vp_callSi (W.runV (As := [.int p1, .int (0 : Int32)]) (rest := []) S (wX9_behindAt l g qM q1 q2 q3 q4 q5 q6 q7 q8 q9 q10 q11 F_16 J al p1 (0 : Int32) (sX9_behindAt G_22 lg_22 i_22 F_16 J al p1 (0 : Int32) ho_3)) (cwV 2 hts gX9_right_X9_behindAt rfl rfl rfl (by decide +kernel) ⟨Nat.le_of_ble_eq_true rfl, Nat.le_of_ble_eq_true rfl⟩) ⟨blindRO, va_recv hK hP (ci := 9) (q0 := 0) rfl rfl, fun U hU hW => ⟨rfl, by rw [hU]; exact hP.sub (ws' := [(qM, .inr (9, [.int (F_16 0), .ref q1, .ref q2, .ref q3, .int (F_16 4), .int (F_16 5), .int (F_16 6), .int (F_16 7), .int (F_16 8), .int (F_16 9), .long (J 10), .int (F_16 11), .int (F_16 12), .int (F_16 13), .ref q4, .int (F_16 15), .ref q5, .ref q6, .ref q7, .int (F_16 19), .ref q8, .int (F_16 21), .int (F_16 22), .int (F_16 23), .int (F_16 24), .ref q9, .ref q10, .ref q11, .long (J 28)])), (q1, .inl (g.2 0, 376, .inl al))]) [0, 1] rfl, hG.warm hW⟩⟩ rfl rfl hl.1 rfl (lv_room (Nat.le_of_ble_eq_true rfl)) dX9_right_22 ⟨Nat.le_of_ble_eq_true rfl, Nat.le_of_ble_eq_true rfl⟩) (fun r_22 hr_22 => ?_)
    have hv := hv r_22 hr_22
    refine lv_iload_n hx hb dX9_right_25 rfl (lv_at hl 1 rfl) ?_
    refine lv_iconst (v := (1 : Int32)) hx hb dX9_right_26 (by decide) ?_
    obtain ⟨hvt, hvf⟩ := hv
    refine lv_icmp_ne (tgt := 45) hx hb dX9_right_27 (by decide) (fun hc => ?_) (fun hc => ?_)
    · have hv := hvt hc
      refine lv_iconst (v := (0 : Int32)) hx hb dX9_right_45 (by decide) ?_
      refine lv_iadd hx hb dX9_right_46 ?_
      refine lv_istore_n (lv' := [(2, .int (r_22 + (0 : Int32))), (0, .ref qM), (1, .int p1)]) hx hb dX9_right_47 rfl hl (by decide) rfl (fun ls hl => ?_)
      refine lv_iconst (v := (0 : Int32)) hx hb dX9_right_48 (by decide) ?_
      refine lv_istore_n (lv' := [(3, .int (0 : Int32)), (2, .int (r_22 + (0 : Int32))), (0, .ref qM), (1, .int p1)]) hx hb dX9_right_49 rfl hl (by decide) rfl (fun ls hl => ?_)
      refine lv_iconst (v := (0 : Int32)) hx hb dX9_right_50 (by decide) ?_
      refine lv_istore (lv' := [(4, .int (0 : Int32)), (3, .int (0 : Int32)), (2, .int (r_22 + (0 : Int32))), (0, .ref qM), (1, .int p1)]) hx hb dX9_right_51 hl (by decide) rfl (fun ls hl => ?_)
      obtain ⟨nn, hv⟩ := hv
      exact kX9_right_c53 S hr hlocks hG hA nn _ _ _ _ _ _ hv _ _ (hP.sub (ws' := [(qM, .inr (9, [.int (F_16 0), .ref q1, .ref q2, .ref q3, .int (F_16 4), .int (F_16 5), .int (F_16 6), .int (F_16 7), .int (F_16 8), .int (F_16 9), .long (J 10), .int (F_16 11), .int (F_16 12), .int (F_16 13), .ref q4, .int (F_16 15), .ref q5, .ref q6, .ref q7, .int (F_16 19), .ref q8, .int (F_16 21), .int (F_16 22), .int (F_16 23), .int (F_16 24), .ref q9, .ref q10, .ref q11, .long (J 28)])), (q1, .inl (g.2 0, 376, .inl al)), (q7, .inl (g.2 0, 200, .inl he_16)), (q8, .inl (g.2 0, 65, .inl ma_16))]) [0, 1, 2, 3] rfl) (hD.sub (ws' := [(qM, .inr (9, [.int (F_16 0), .ref q1, .ref q2, .ref q3, .int (F_16 4), .int (F_16 5), .int (F_16 6), .int (F_16 7), .int (F_16 8), .int (F_16 9), .long (J 10), .int (F_16 11), .int (F_16 12), .int (F_16 13), .ref q4, .int (F_16 15), .ref q5, .ref q6, .ref q7, .int (F_16 19), .ref q8, .int (F_16 21), .int (F_16 22), .int (F_16 23), .int (F_16 24), .ref q9, .ref q10, .ref q11, .long (J 28)])), (q1, .inl (g.2 0, 376, .inl al)), (q7, .inl (g.2 0, 200, .inl he_16)), (q8, .inl (g.2 0, 65, .inl ma_16))]) [0, 1, 2, 3] (by decide) rfl) hS ls (lv_sub hl [3, 2, 1, 0] rfl)
    · have hv := hvf hc
      refine lv_aload_n hx hb dX9_right_30 rfl (lv_at hl 0 rfl) ?_
      refine va_get (D := g.1) (ci := 9) (v := .int (F_16 19)) (C := RX9) (T := TX9) (N := 29) hx hb hts inX9_right_9 hown hK hP 0 rfl rfl 19 (by decide) (hts (.fieldLink RX9 235 "RangeCodesModel" "late" "I") (List.mem_of_getElem? (i := 2) rfl)) (fun _ h9 => h9) rfl dX9_right_31 ?_
      refine lv_iconst (v := (-1 : Int32)) hx hb dX9_right_34 (by decide) ?_
      obtain ⟨hvt, hvf⟩ := hv
      refine lv_icmp_eq (tgt := 45) hx hb dX9_right_35 (by decide) (fun hc => ?_) (fun hc => ?_)
      · have hv := hvt hc
        refine lv_iconst (v := (0 : Int32)) hx hb dX9_right_45 (by decide) ?_
        refine lv_iadd hx hb dX9_right_46 ?_
        refine lv_istore_n (lv' := [(2, .int (r_22 + (0 : Int32))), (0, .ref qM), (1, .int p1)]) hx hb dX9_right_47 rfl hl (by decide) rfl (fun ls hl => ?_)
        refine lv_iconst (v := (0 : Int32)) hx hb dX9_right_48 (by decide) ?_
        refine lv_istore_n (lv' := [(3, .int (0 : Int32)), (2, .int (r_22 + (0 : Int32))), (0, .ref qM), (1, .int p1)]) hx hb dX9_right_49 rfl hl (by decide) rfl (fun ls hl => ?_)
        refine lv_iconst (v := (0 : Int32)) hx hb dX9_right_50 (by decide) ?_
        refine lv_istore (lv' := [(4, .int (0 : Int32)), (3, .int (0 : Int32)), (2, .int (r_22 + (0 : Int32))), (0, .ref qM), (1, .int p1)]) hx hb dX9_right_51 hl (by decide) rfl (fun ls hl => ?_)
        obtain ⟨nn, hv⟩ := hv
        exact kX9_right_c53 S hr hlocks hG hA nn _ _ _ _ _ _ hv _ _ (hP.sub (ws' := [(qM, .inr (9, [.int (F_16 0), .ref q1, .ref q2, .ref q3, .int (F_16 4), .int (F_16 5), .int (F_16 6), .int (F_16 7), .int (F_16 8), .int (F_16 9), .long (J 10), .int (F_16 11), .int (F_16 12), .int (F_16 13), .ref q4, .int (F_16 15), .ref q5, .ref q6, .ref q7, .int (F_16 19), .ref q8, .int (F_16 21), .int (F_16 22), .int (F_16 23), .int (F_16 24), .ref q9, .ref q10, .ref q11, .long (J 28)])), (q1, .inl (g.2 0, 376, .inl al)), (q7, .inl (g.2 0, 200, .inl he_16)), (q8, .inl (g.2 0, 65, .inl ma_16))]) [0, 1, 2, 3] rfl) (hD.sub (ws' := [(qM, .inr (9, [.int (F_16 0), .ref q1, .ref q2, .ref q3, .int (F_16 4), .int (F_16 5), .int (F_16 6), .int (F_16 7), .int (F_16 8), .int (F_16 9), .long (J 10), .int (F_16 11), .int (F_16 12), .int (F_16 13), .ref q4, .int (F_16 15), .ref q5, .ref q6, .ref q7, .int (F_16 19), .ref q8, .int (F_16 21), .int (F_16 22), .int (F_16 23), .int (F_16 24), .ref q9, .ref q10, .ref q11, .long (J 28)])), (q1, .inl (g.2 0, 376, .inl al)), (q7, .inl (g.2 0, 200, .inl he_16)), (q8, .inl (g.2 0, 65, .inl ma_16))]) [0, 1, 2, 3] (by decide) rfl) hS ls (lv_sub hl [3, 2, 1, 0] rfl)
      · have hv := hvf hc
        refine lv_aload_n hx hb dX9_right_38 rfl (lv_at hl 0 rfl) ?_
        refine va_get (D := g.1) (ci := 9) (v := .int (F_16 19)) (C := RX9) (T := TX9) (N := 29) hx hb hts inX9_right_9 hown hK hP 0 rfl rfl 19 (by decide) (hts (.fieldLink RX9 235 "RangeCodesModel" "late" "I") (List.mem_of_getElem? (i := 2) rfl)) (fun _ h9 => h9) rfl dX9_right_39 ?_
        refine lv_goto (tgt := 46) hx hb dX9_right_42 (by decide) ?_
        refine lv_iadd hx hb dX9_right_46 ?_
        refine lv_istore_n (lv' := [(2, .int (r_22 + (F_16 19))), (0, .ref qM), (1, .int p1)]) hx hb dX9_right_47 rfl hl (by decide) rfl (fun ls hl => ?_)
        refine lv_iconst (v := (0 : Int32)) hx hb dX9_right_48 (by decide) ?_
        refine lv_istore_n (lv' := [(3, .int (0 : Int32)), (2, .int (r_22 + (F_16 19))), (0, .ref qM), (1, .int p1)]) hx hb dX9_right_49 rfl hl (by decide) rfl (fun ls hl => ?_)
        refine lv_iconst (v := (0 : Int32)) hx hb dX9_right_50 (by decide) ?_
        refine lv_istore (lv' := [(4, .int (0 : Int32)), (3, .int (0 : Int32)), (2, .int (r_22 + (F_16 19))), (0, .ref qM), (1, .int p1)]) hx hb dX9_right_51 hl (by decide) rfl (fun ls hl => ?_)
        obtain ⟨nn, hv⟩ := hv
        exact kX9_right_c53 S hr hlocks hG hA nn _ _ _ _ _ _ hv _ _ (hP.sub (ws' := [(qM, .inr (9, [.int (F_16 0), .ref q1, .ref q2, .ref q3, .int (F_16 4), .int (F_16 5), .int (F_16 6), .int (F_16 7), .int (F_16 8), .int (F_16 9), .long (J 10), .int (F_16 11), .int (F_16 12), .int (F_16 13), .ref q4, .int (F_16 15), .ref q5, .ref q6, .ref q7, .int (F_16 19), .ref q8, .int (F_16 21), .int (F_16 22), .int (F_16 23), .int (F_16 24), .ref q9, .ref q10, .ref q11, .long (J 28)])), (q1, .inl (g.2 0, 376, .inl al)), (q7, .inl (g.2 0, 200, .inl he_16)), (q8, .inl (g.2 0, 65, .inl ma_16))]) [0, 1, 2, 3] rfl) (hD.sub (ws' := [(qM, .inr (9, [.int (F_16 0), .ref q1, .ref q2, .ref q3, .int (F_16 4), .int (F_16 5), .int (F_16 6), .int (F_16 7), .int (F_16 8), .int (F_16 9), .long (J 10), .int (F_16 11), .int (F_16 12), .int (F_16 13), .ref q4, .int (F_16 15), .ref q5, .ref q6, .ref q7, .int (F_16 19), .ref q8, .int (F_16 21), .int (F_16 22), .int (F_16 23), .int (F_16 24), .ref q9, .ref q10, .ref q11, .long (J 28)])), (q1, .inl (g.2 0, 376, .inl al)), (q7, .inl (g.2 0, 200, .inl he_16)), (q8, .inl (g.2 0, 65, .inl ma_16))]) [0, 1, 2, 3] (by decide) rfl) hS ls (lv_sub hl [3, 2, 1, 0] rfl)
  · have hv := hvf hc
    refine lv_iconst (v := (-1 : Int32)) hx hb dX9_right_12 (by decide) ?_
    have hP9 := hP.sub (ws' := [(qM, .inr (9, [.int ((upd F 0 (0 : Int32)) 0), .ref q1, .ref q2, .ref q3, .int ((upd F 0 (0 : Int32)) 4), .int ((upd F 0 (0 : Int32)) 5), .int ((upd F 0 (0 : Int32)) 6), .int ((upd F 0 (0 : Int32)) 7), .int ((upd F 0 (0 : Int32)) 8), .int ((upd F 0 (0 : Int32)) 9), .long (J 10), .int ((upd F 0 (0 : Int32)) 11), .int ((upd F 0 (0 : Int32)) 12), .int ((upd F 0 (0 : Int32)) 13), .ref q4, .int ((upd F 0 (0 : Int32)) 15), .ref q5, .ref q6, .ref q7, .int ((upd F 0 (0 : Int32)) 19), .ref q8, .int ((upd F 0 (0 : Int32)) 21), .int ((upd F 0 (0 : Int32)) 22), .int ((upd F 0 (0 : Int32)) 23), .int ((upd F 0 (0 : Int32)) 24), .ref q9, .ref q10, .ref q11, .long (J 28)])), (q1, .inl (g.2 0, 376, .inl al)), (q7, .inl (g.2 0, 200, .inl he)), (q8, .inl (g.2 0, 65, .inl ma))]) [0, 1, 2, 3] rfl
    have hD9 := hD.sub (ws' := [(qM, .inr (9, [.int ((upd F 0 (0 : Int32)) 0), .ref q1, .ref q2, .ref q3, .int ((upd F 0 (0 : Int32)) 4), .int ((upd F 0 (0 : Int32)) 5), .int ((upd F 0 (0 : Int32)) 6), .int ((upd F 0 (0 : Int32)) 7), .int ((upd F 0 (0 : Int32)) 8), .int ((upd F 0 (0 : Int32)) 9), .long (J 10), .int ((upd F 0 (0 : Int32)) 11), .int ((upd F 0 (0 : Int32)) 12), .int ((upd F 0 (0 : Int32)) 13), .ref q4, .int ((upd F 0 (0 : Int32)) 15), .ref q5, .ref q6, .ref q7, .int ((upd F 0 (0 : Int32)) 19), .ref q8, .int ((upd F 0 (0 : Int32)) 21), .int ((upd F 0 (0 : Int32)) 22), .int ((upd F 0 (0 : Int32)) 23), .int ((upd F 0 (0 : Int32)) 24), .ref q9, .ref q10, .ref q11, .long (J 28)])), (q1, .inl (g.2 0, 376, .inl al)), (q7, .inl (g.2 0, 200, .inl he)), (q8, .inl (g.2 0, 65, .inl ma))]) [0, 1, 2, 3] (by decide) rfl
    exact W.iret (v := (-1 : Int32)) hx hb hr (fun t ht hW => ⟨⟨_, ((upd F 0 (0 : Int32)), he, ma), rfl, hv, by rw [ht]; exact hP9, hD9⟩, hS.F ht⟩) hS.2.2 dX9_right_13
theorem sX9_right_53 (T : Cd) (G0 G1 : Lg) (lim : Nat) (F : Nat → Int32) (J : Nat → Int64) (al : Nat → Int32) (he : Nat → Int32) (ma : Nat → Int32) (p1 : Int32) (H : fcR T G0 G1 lim al) (m : Nat → Nat → Int) (z : Int) (Q : Int32 → (Nat → Int32) → (Nat → Int32) → (Nat → Int32) → Prop) (hma : isMA T m ma) (x2 : Int32) (h2 : x2.toInt = z) (hQ : ∀ r : Int32, r.toInt = ((rgN T (bOf T m) z (cn T) : Nat) : Int) → Q r F he ma) : ∀ (n i : Nat) (x3 x4 : Int32), x3.toInt = ((rgN T (bOf T m) z i : Nat) : Int) → x4.toInt = (i : Int) → i ≤ cn T → cn T + 1 ≤ i + n → vX9_right_c53 J al p1 Q n x2 x3 x4 F he ma
  | 0, i, x3, x4, _, _, hi, hn => absurd hn (by omega)
  | n + 1, i, x3, x4, h3, h4, hi, hn => by
    obtain ⟨hT, h0, h1, hlim, hl9, hl1⟩ := id H
    have hn5 := hT.1.2
    have hrl := rgN_lt T (bOf T m) z i
    rw [vX9_right_c53, q_le hT.1.1 h4]
    refine ⟨fun hc => ?_, fun hc => ?_⟩
    · have : i = cn T := by omega
      subst this
      exact hQ _ h3
    · have hl := mT_L hT (p := i) (by omega)
      have h4s := q_1 h4 (by omega)
      refine ⟨T, i, m, ⟨hn5, hT.2.1, h4, by omega, hma i (by omega)⟩, fun r hr => ⟨i, 0, ⟨h4, rfl, by omega⟩, fun r2 hr2 => ?_⟩⟩
      have hr2 : r2.toInt = (cL T i : Int) := by rw [hr2]; exact hl.1
      refine ⟨by show 0 < r2.toInt; omega, fun r3 hr3 => ?_⟩
      have hr3 : r3.toInt = x2.toInt % r2.toInt := hr3
      rw [h2, hr2] at hr3
      have hr : r.toInt = ((bOf T m i : Nat) : Int) := hr
      rw [q_eq hr hr3]
      refine ⟨fun hq => sX9_right_53 T G0 G1 lim F J al he ma p1 H m z Q hma x2 h2 hQ n (i + 1) _ _ ?_ h4s (by omega) (by omega), fun hq y hy => sX9_right_53 T G0 G1 lim F J al he ma p1 H m z Q hma x2 h2 hQ n (i + 1) _ _ ?_ h4s (by omega) (by omega)⟩
      · rw [rgN, if_neg hq, Int32.or_zero]; exact h3
      · rw [rgN, if_pos hq, hy]; exact q_or2 h3 hrl (by omega) h4
abbrev preX9_right (T : Cd) (G0 : Lg) (G1 : Lg) (lim : Nat) (F : Nat → Int32) (J : Nat → Int64) (al : Nat → Int32) (he : Nat → Int32) (ma : Nat → Int32) (p1 : Int32) : Prop := fcR T G0 G1 lim al
abbrev postX9_right (T : Cd) (G0 : Lg) (G1 : Lg) (lim : Nat) (F : Nat → Int32) (J : Nat → Int64) (al : Nat → Int32) (he : Nat → Int32) (ma : Nat → Int32) (p1 : Int32) (r : Int32) (F' : Nat → Int32) (he' : Nat → Int32) (ma' : Nat → Int32) : Prop := r.toInt = spRight T G0 G1 lim p1.toInt
theorem sX9_right (T : Cd) (G0 : Lg) (G1 : Lg) (lim : Nat) (F : Nat → Int32) (J : Nat → Int64) (al : Nat → Int32) (he : Nat → Int32) (ma : Nat → Int32) (p1 : Int32) (H : preX9_right T G0 G1 lim F J al he ma p1) : vX9_right F J al he ma p1 (postX9_right T G0 G1 lim F J al he ma p1) := by
  obtain ⟨hT, h0, h1, hlim, hl9, hl1⟩ := id H
  unfold postX9_right spRight
  refine ⟨trivial, fun r hr => ?_⟩
  have hr : r = if p1.toInt = 0 ∨ p1.toInt = 1 then 1 else 0 := hr
  rw [hr, q_if1]
  refine ⟨fun hc => ?_, fun hc => by rw [if_neg hc]; rfl⟩
  have hc := Decidable.not_not.mp hc
  have hG := pk_mG h0 h1 (l := p1.toInt.toNat) (by omega)
  have hlag := lagZ_le hG.1 (i := 0) (t := gfr (pkG G0 G1 p1.toInt.toNat)) (by have := gfr_le hG.1; omega)
  rw [if_pos hc]
  refine ⟨T, G0, G1, p1.toInt.toNat, lim, fcR_ll H _ _ _ _ hc, fun F2 he2 ma2 hq => ?_⟩
  have h2 := rlC_of hq
  refine ⟨pkG G0 G1 p1.toInt.toNat, p1.toInt.toNat, 0, ⟨hG, by omega, by omega, rfl, by omega⟩, fun r2 hr2 => ?_⟩
  have hr2 : r2.toInt = lagZ (pkG G0 G1 p1.toInt.toNat) 0 (gfr (pkG G0 G1 p1.toInt.toNat)) := hr2
  have fin : ∀ (x : Int32), x.toInt = lagZ (pkG G0 G1 p1.toInt.toNat) 0 (gfr (pkG G0 G1 p1.toInt.toNat)) + latZ (ltL T G0 lim p1.toInt.toNat) → ∃ nn, vX9_right_c53 J al p1 (fun r _ _ _ => r.toInt = ((rgN T (bN T G0 G1 lim p1.toInt.toNat) (lagZ (pkG G0 G1 p1.toInt.toNat) 0 (gfr (pkG G0 G1 p1.toInt.toNat)) + latZ (ltL T G0 lim p1.toInt.toNat)) (cn T) : Nat) : Int)) nn x (0 : Int32) (0 : Int32) F2 he2 ma2 := fun x hx => ⟨cn T + 1, sX9_right_53 T G0 G1 lim F2 J al he2 ma2 p1 H (mN T G0 G1 lim p1.toInt.toNat) _ _ h2.2.1 x hx (fun r3 h3 => h3) (cn T + 1) 0 0 0 rfl rfl (by omega) (by omega)⟩
  have h00 : ∀ x : Int, latZ (ltL T G0 lim p1.toInt.toNat) = 0 → r2.toInt = x → (r2 + (0 : Int32)).toInt = x + latZ (ltL T G0 lim p1.toInt.toNat) := fun x hz hx => by
    rw [hz, Int32.add_zero, hx]; omega
  rw [fa_eq p1, z1]
  refine ⟨fun hz => fin _ (h00 _ ?_ hr2), fun hz => ?_⟩
  · have : p1.toInt.toNat = 0 := by omega
    rw [this]; rfl
  · have e1 : p1.toInt.toNat = 1 := by omega
    have hlt : isLt (ltL T G0 lim p1.toInt.toNat) (F2 19) := by rw [e1]; exact h2.2.2.2 e1
    rw [fa_eq (F2 19), zm1]
    cases hl : ltL T G0 lim p1.toInt.toNat with
    | none =>
      rw [hl] at hlt fin h00
      have hlt : (F2 19).toInt = -1 := hlt
      exact ⟨fun _ => fin _ (h00 _ rfl hr2), fun q => absurd hlt q⟩
    | some d =>
      rw [hl] at hlt fin
      have hlt : (F2 19).toInt = (d : Int) ∧ d ≤ 100000 := hlt
      have hz : latZ (some d) = (d : Int) := rfl
      exact ⟨fun q => absurd q (by omega), fun _ => fin _ (by rw [hz]; exact q_add hr2 hlt.1 (by omega) (by omega))⟩
set_option maxRecDepth 20000 in
theorem ggX9_both_X9_behindAt : GoodIn wsX9_both wsX9_behindAt := goodIn_r _ [9, 10, 11, 12, 8, 13, 14, 15, 16, 17, 18, 19, 20, 109, 110, 111, 112, 113, 114, 115, 116, 117, 118, 119, 120, 121, 122, 123, 124, 125, 126, 127, 128, 129, 130, 131, 132, 133, 134, 135, 136, 137] (by decide +kernel) (by decide +kernel)
set_option maxRecDepth 20000 in
theorem gX9_both_X9_behindAt : GoodIn wsX9_both (wsV RX9 244 RX9 yX9_behindAt wsX9_behindAt) := goodIn_app (goodIn_of _ (by decide +kernel)) ggX9_both_X9_behindAt
set_option maxRecDepth 20000 in
theorem ggX9_both_X9_laysLeg : GoodIn wsX9_both wsX9_laysLeg := goodIn_r _ [24, 2, 3, 25, 26, 27, 8, 28, 29, 30, 31, 32, 33, 34, 35, 36, 37, 10, 11, 12, 13, 14, 5, 6, 7, 9, 15, 16, 17, 18, 19, 20, 38, 39, 40, 41, 42, 43, 44, 45, 46, 47, 48, 49, 50, 51, 52, 53, 54, 55, 56, 57, 58, 59, 60, 61, 62, 63, 64, 65, 66, 67, 68, 69, 70, 71, 72, 73, 74, 75, 76, 77, 78, 79, 80, 81, 82, 83, 84, 85, 86, 87, 88, 89, 90, 91, 92, 93, 94, 95, 96, 97, 98, 99, 100, 101, 102, 103, 104, 105, 106, 107, 108, 109, 110, 111, 112, 113, 114, 115, 116, 117, 118, 119, 120, 121, 122, 123, 124, 125, 126, 127, 128, 129, 130, 131, 132, 133, 134, 135, 136, 137] (by decide +kernel) (by decide +kernel)
set_option maxRecDepth 20000 in
theorem gX9_both_X9_laysLeg : GoodIn wsX9_both (wsV RX9 294 RX9 yX9_laysLeg wsX9_laysLeg) := goodIn_app (goodIn_of _ (by decide +kernel)) ggX9_both_X9_laysLeg
theorem dX9_both_0 : decode cX9_both 0 = .ok (.aload_n 0, 1) := by decide +kernel
theorem dX9_both_1 : decode cX9_both 1 = .ok (.iconst 0, 1) := by decide +kernel
theorem dX9_both_2 : decode cX9_both 2 = .ok (.putfield 51, 3) := by decide +kernel
theorem dX9_both_5 : decode cX9_both 5 = .ok (.aload_n 0, 1) := by decide +kernel
theorem dX9_both_6 : decode cX9_both 6 = .ok (.iconst 0, 1) := by decide +kernel
theorem dX9_both_7 : decode cX9_both 7 = .ok (.iconst 0, 1) := by decide +kernel
theorem dX9_both_8 : decode cX9_both 8 = .ok (.invokevirtual 244, 3) := by decide +kernel
theorem dX9_both_11 : decode cX9_both 11 = .ok (.aload_n 0, 1) := by decide +kernel
theorem dX9_both_12 : decode cX9_both 12 = .ok (.iconst 1, 1) := by decide +kernel
theorem dX9_both_13 : decode cX9_both 13 = .ok (.iconst 0, 1) := by decide +kernel
theorem dX9_both_14 : decode cX9_both 14 = .ok (.invokevirtual 244, 3) := by decide +kernel
theorem dX9_both_17 : decode cX9_both 17 = .ok (.iadd, 1) := by decide +kernel
theorem dX9_both_18 : decode cX9_both 18 = .ok (.istore_n 2, 1) := by decide +kernel
theorem dX9_both_19 : decode cX9_both 19 = .ok (.iload_n 1, 1) := by decide +kernel
theorem dX9_both_20 : decode cX9_both 20 = .ok (.iconst 1, 1) := by decide +kernel
theorem dX9_both_21 : decode cX9_both 21 = .ok (.if_icmp .ne 5, 3) := by decide +kernel
theorem dX9_both_24 : decode cX9_both 24 = .ok (.iload_n 2, 1) := by decide +kernel
theorem dX9_both_25 : decode cX9_both 25 = .ok (.ireturn, 1) := by decide +kernel
theorem dX9_both_26 : decode cX9_both 26 = .ok (.aload_n 0, 1) := by decide +kernel
theorem dX9_both_27 : decode cX9_both 27 = .ok (.iconst 1, 1) := by decide +kernel
theorem dX9_both_28 : decode cX9_both 28 = .ok (.invokevirtual 294, 3) := by decide +kernel
theorem dX9_both_31 : decode cX9_both 31 = .ok (.iload_n 1, 1) := by decide +kernel
theorem dX9_both_32 : decode cX9_both 32 = .ok (.ifCond .eq 8, 3) := by decide +kernel
theorem dX9_both_35 : decode cX9_both 35 = .ok (.iload_n 1, 1) := by decide +kernel
theorem dX9_both_36 : decode cX9_both 36 = .ok (.iconst 2, 1) := by decide +kernel
theorem dX9_both_37 : decode cX9_both 37 = .ok (.if_icmp .ne 19, 3) := by decide +kernel
theorem dX9_both_40 : decode cX9_both 40 = .ok (.aload_n 0, 1) := by decide +kernel
theorem dX9_both_41 : decode cX9_both 41 = .ok (.getfield 266, 3) := by decide +kernel
theorem dX9_both_44 : decode cX9_both 44 = .ok (.iconst (-1), 1) := by decide +kernel
theorem dX9_both_45 : decode cX9_both 45 = .ok (.if_icmp .eq 11, 3) := by decide +kernel
theorem dX9_both_48 : decode cX9_both 48 = .ok (.aload_n 0, 1) := by decide +kernel
theorem dX9_both_49 : decode cX9_both 49 = .ok (.getfield 235, 3) := by decide +kernel
theorem dX9_both_52 : decode cX9_both 52 = .ok (.iconst (-1), 1) := by decide +kernel
theorem dX9_both_53 : decode cX9_both 53 = .ok (.if_icmp .ne 6, 3) := by decide +kernel
theorem dX9_both_56 : decode cX9_both 56 = .ok (.ldc 222, 2) := by decide +kernel
theorem dX9_both_58 : decode cX9_both 58 = .ok (.ireturn, 1) := by decide +kernel
theorem dX9_both_59 : decode cX9_both 59 = .ok (.iload_n 1, 1) := by decide +kernel
theorem dX9_both_60 : decode cX9_both 60 = .ok (.ifCond .ne 15, 3) := by decide +kernel
theorem dX9_both_63 : decode cX9_both 63 = .ok (.aload_n 0, 1) := by decide +kernel
theorem dX9_both_64 : decode cX9_both 64 = .ok (.getfield 266, 3) := by decide +kernel
theorem dX9_both_67 : decode cX9_both 67 = .ok (.aload_n 0, 1) := by decide +kernel
theorem dX9_both_68 : decode cX9_both 68 = .ok (.getfield 235, 3) := by decide +kernel
theorem dX9_both_71 : decode cX9_both 71 = .ok (.isub, 1) := by decide +kernel
theorem dX9_both_72 : decode cX9_both 72 = .ok (.goto 9, 3) := by decide +kernel
theorem dX9_both_75 : decode cX9_both 75 = .ok (.aload_n 0, 1) := by decide +kernel
theorem dX9_both_76 : decode cX9_both 76 = .ok (.getfield 266, 3) := by decide +kernel
theorem dX9_both_79 : decode cX9_both 79 = .ok (.iload_n 2, 1) := by decide +kernel
theorem dX9_both_80 : decode cX9_both 80 = .ok (.isub, 1) := by decide +kernel
theorem dX9_both_81 : decode cX9_both 81 = .ok (.ireturn, 1) := by decide +kernel
abbrev rmX9_both : Room := { frames := 7, cells := 0, slots := 0, locals := 162 }
theorem inX9_both_9 : ∀ w ∈ wsX90, w ∈ wsX9_both := by decide +kernel
def vX9_both_c40 (J : Nat → Int64) (al : Nat → Int32) (p1 : Int32) (Q : Int32 → (Nat → Int32) → (Nat → Int32) → (Nat → Int32) → Prop) (x2 : Int32) (F : Nat → Int32) (he : Nat → Int32) (ma : Nat → Int32) : Prop := (((F 21) = (-1 : Int32) → (Q (-1000000 : Int32) F he ma)) ∧ (¬ (F 21) = (-1 : Int32) → ((¬ (F 19) = (-1 : Int32) → ((¬ p1 = 0 → (Q ((F 21) - x2) F he ma)) ∧ (p1 = 0 → (Q ((F 21) - (F 19)) F he ma)))) ∧ ((F 19) = (-1 : Int32) → (Q (-1000000 : Int32) F he ma)))))
set_option maxHeartbeats 4000000 in
set_option maxRecDepth 100000 in
theorem kX9_both_c40 {p : Program} {l : Launch} {e : Env} {s : State} {m : MethodId} {args : Array Value} {below : List Frame} {meth : Method} {c : Code} {g : GP} {qM : Nat} {q1 : Nat} {q2 : Nat} {q3 : Nat} {q4 : Nat} {q5 : Nat} {q6 : Nat} {q7 : Nat} {q8 : Nat} {q9 : Nat} {q10 : Nat} {q11 : Nat} {J : Nat → Int64} {al : Nat → Int32} {p1 : Int32} {Q : Int32 → (Nat → Int32) → (Nat → Int32) → (Nat → Int32) → Prop} {A : Nat → Prop} (S : CallFix p m c cX9_both 3 s args wsX9_both RX9) (hr : meth.sig.returnType = (some .int)) (hlocks : meth.locks = false) (hG : GK g s) (hA : ∀ q : Nat, s.heap.size ≤ q → A q) : ∀ (x2 : Int32) (F : Nat → Int32) (he : Nat → Int32) (ma : Nat → Int32), vX9_both_c40 J al p1 Q x2 F he ma → ∀ (H : Heap) (locs : List Loc), va_P g.1 vwCl [(qM, .inr (9, [.int (F 0), .ref q1, .ref q2, .ref q3, .int (F 4), .int (F 5), .int (F 6), .int (F 7), .int (F 8), .int (F 9), .long (J 10), .int (F 11), .int (F 12), .int (F 13), .ref q4, .int (F 15), .ref q5, .ref q6, .ref q7, .int (F 19), .ref q8, .int (F 21), .int (F 22), .int (F 23), .int (F 24), .ref q9, .ref q10, .ref q11, .long (J 28)])), (q1, .inl (g.2 0, 376, .inl al)), (q7, .inl (g.2 0, 200, .inl he)), (q8, .inl (g.2 0, 65, .inl ma))] H → va_D A [(qM, .inr (9, [.int (F 0), .ref q1, .ref q2, .ref q3, .int (F 4), .int (F 5), .int (F 6), .int (F 7), .int (F 8), .int (F 9), .long (J 10), .int (F 11), .int (F 12), .int (F 13), .ref q4, .int (F 15), .ref q5, .ref q6, .ref q7, .int (F 19), .ref q8, .int (F 21), .int (F 22), .int (F 23), .int (F 24), .ref q9, .ref q10, .ref q11, .long (J 28)])), (q1, .inl (g.2 0, 376, .inl al)), (q7, .inl (g.2 0, 200, .inl he)), (q8, .inl (g.2 0, 65, .inl ma))] → va_S A s.heap H locs → ∀ (ls : Array Slot), lv_has ls 3 [(0, .ref qM), (1, .int p1), (2, .int x2)] → W p l e (headSpec wsX9_both rmX9_both).room s m args below meth c H locs 0 0 (MQ below (va_Qi (fun (r : Int32) (u : (Nat → Int32) × (Nat → Int32) × (Nat → Int32)) => Q r u.1 u.2.1 u.2.2) (fun (u : (Nat → Int32) × (Nat → Int32) × (Nat → Int32)) t => va_P g.1 vwCl [(qM, .inr (9, [.int (u.1 0), .ref q1, .ref q2, .ref q3, .int (u.1 4), .int (u.1 5), .int (u.1 6), .int (u.1 7), .int (u.1 8), .int (u.1 9), .long (J 10), .int (u.1 11), .int (u.1 12), .int (u.1 13), .ref q4, .int (u.1 15), .ref q5, .ref q6, .ref q7, .int (u.1 19), .ref q8, .int (u.1 21), .int (u.1 22), .int (u.1 23), .int (u.1 24), .ref q9, .ref q10, .ref q11, .long (J 28)])), (q1, .inl (g.2 0, 376, .inl al)), (q7, .inl (g.2 0, 200, .inl u.2.1)), (q8, .inl (g.2 0, 65, .inl u.2.2))] t.heap ∧ va_D A [(qM, .inr (9, [.int (u.1 0), .ref q1, .ref q2, .ref q3, .int (u.1 4), .int (u.1 5), .int (u.1 6), .int (u.1 7), .int (u.1 8), .int (u.1 9), .long (J 10), .int (u.1 11), .int (u.1 12), .int (u.1 13), .ref q4, .int (u.1 15), .ref q5, .ref q6, .ref q7, .int (u.1 19), .ref q8, .int (u.1 21), .int (u.1 22), .int (u.1 23), .int (u.1 24), .ref q9, .ref q10, .ref q11, .long (J 28)])), (q1, .inl (g.2 0, 376, .inl al)), (q7, .inl (g.2 0, 200, .inl u.2.1)), (q8, .inl (g.2 0, 65, .inl u.2.2))]) A) args s 0 0 A) (F0 m 40 ls []) := by
  obtain ⟨hx, hb, hml, hown, hts⟩ := id S
  have hK := hG.1
  intro x2 F he ma hv H locs hP hD hS ls hl
  unfold vX9_both_c40 at hv
  refine lv_aload_n hx hb dX9_both_40 rfl (lv_at hl 0 rfl) ?_
  refine va_get (D := g.1) (ci := 9) (v := .int (F 21)) (C := RX9) (T := TX9) (N := 29) hx hb hts inX9_both_9 hown hK hP 0 rfl rfl 21 (by decide) (hts (.fieldLink RX9 266 "RangeCodesModel" "distance" "I") (List.mem_of_getElem? (i := 2) rfl)) (fun _ h9 => h9) rfl dX9_both_41 ?_
  refine lv_iconst (v := (-1 : Int32)) hx hb dX9_both_44 (by decide) ?_
  obtain ⟨hvt, hvf⟩ := hv
  refine lv_icmp_eq (tgt := 56) hx hb dX9_both_45 (by decide) (fun hc => ?_) (fun hc => ?_)
  · have hv := hvt hc
    refine lv_ldc (v := (-1000000 : Int32)) hx hb hown (hts (.constant RX9 222 (-1000000)) (List.mem_of_getElem? (i := 4) rfl)) dX9_both_56 ?_
    have hP9 := hP.sub (ws' := [(qM, .inr (9, [.int (F 0), .ref q1, .ref q2, .ref q3, .int (F 4), .int (F 5), .int (F 6), .int (F 7), .int (F 8), .int (F 9), .long (J 10), .int (F 11), .int (F 12), .int (F 13), .ref q4, .int (F 15), .ref q5, .ref q6, .ref q7, .int (F 19), .ref q8, .int (F 21), .int (F 22), .int (F 23), .int (F 24), .ref q9, .ref q10, .ref q11, .long (J 28)])), (q1, .inl (g.2 0, 376, .inl al)), (q7, .inl (g.2 0, 200, .inl he)), (q8, .inl (g.2 0, 65, .inl ma))]) [0, 1, 2, 3] rfl
    have hD9 := hD.sub (ws' := [(qM, .inr (9, [.int (F 0), .ref q1, .ref q2, .ref q3, .int (F 4), .int (F 5), .int (F 6), .int (F 7), .int (F 8), .int (F 9), .long (J 10), .int (F 11), .int (F 12), .int (F 13), .ref q4, .int (F 15), .ref q5, .ref q6, .ref q7, .int (F 19), .ref q8, .int (F 21), .int (F 22), .int (F 23), .int (F 24), .ref q9, .ref q10, .ref q11, .long (J 28)])), (q1, .inl (g.2 0, 376, .inl al)), (q7, .inl (g.2 0, 200, .inl he)), (q8, .inl (g.2 0, 65, .inl ma))]) [0, 1, 2, 3] (by decide) rfl
    exact W.iret (v := (-1000000 : Int32)) hx hb hr (fun t ht hW => ⟨⟨_, (F, he, ma), rfl, hv, by rw [ht]; exact hP9, hD9⟩, hS.F ht⟩) hS.2.2 dX9_both_58
  · have hv := hvf hc
    refine lv_aload_n hx hb dX9_both_48 rfl (lv_at hl 0 rfl) ?_
    refine va_get (D := g.1) (ci := 9) (v := .int (F 19)) (C := RX9) (T := TX9) (N := 29) hx hb hts inX9_both_9 hown hK hP 0 rfl rfl 19 (by decide) (hts (.fieldLink RX9 235 "RangeCodesModel" "late" "I") (List.mem_of_getElem? (i := 3) rfl)) (fun _ h9 => h9) rfl dX9_both_49 ?_
    refine lv_iconst (v := (-1 : Int32)) hx hb dX9_both_52 (by decide) ?_
    obtain ⟨hvt, hvf⟩ := hv
    refine lv_icmp_ne (tgt := 59) hx hb dX9_both_53 (by decide) (fun hc => ?_) (fun hc => ?_)
    · have hv := hvt hc
      refine lv_iload_n hx hb dX9_both_59 rfl (lv_at hl 1 rfl) ?_
      obtain ⟨hvt, hvf⟩ := hv
      refine lv_if_ne (tgt := 75) hx hb dX9_both_60 (by decide) (fun hc => ?_) (fun hc => ?_)
      · have hv := hvt hc
        refine lv_aload_n hx hb dX9_both_75 rfl (lv_at hl 0 rfl) ?_
        refine va_get (D := g.1) (ci := 9) (v := .int (F 21)) (C := RX9) (T := TX9) (N := 29) hx hb hts inX9_both_9 hown hK hP 0 rfl rfl 21 (by decide) (hts (.fieldLink RX9 266 "RangeCodesModel" "distance" "I") (List.mem_of_getElem? (i := 2) rfl)) (fun _ h9 => h9) rfl dX9_both_76 ?_
        refine lv_iload_n hx hb dX9_both_79 rfl (lv_at hl 2 rfl) ?_
        refine lv_isub hx hb dX9_both_80 ?_
        have hP9 := hP.sub (ws' := [(qM, .inr (9, [.int (F 0), .ref q1, .ref q2, .ref q3, .int (F 4), .int (F 5), .int (F 6), .int (F 7), .int (F 8), .int (F 9), .long (J 10), .int (F 11), .int (F 12), .int (F 13), .ref q4, .int (F 15), .ref q5, .ref q6, .ref q7, .int (F 19), .ref q8, .int (F 21), .int (F 22), .int (F 23), .int (F 24), .ref q9, .ref q10, .ref q11, .long (J 28)])), (q1, .inl (g.2 0, 376, .inl al)), (q7, .inl (g.2 0, 200, .inl he)), (q8, .inl (g.2 0, 65, .inl ma))]) [0, 1, 2, 3] rfl
        have hD9 := hD.sub (ws' := [(qM, .inr (9, [.int (F 0), .ref q1, .ref q2, .ref q3, .int (F 4), .int (F 5), .int (F 6), .int (F 7), .int (F 8), .int (F 9), .long (J 10), .int (F 11), .int (F 12), .int (F 13), .ref q4, .int (F 15), .ref q5, .ref q6, .ref q7, .int (F 19), .ref q8, .int (F 21), .int (F 22), .int (F 23), .int (F 24), .ref q9, .ref q10, .ref q11, .long (J 28)])), (q1, .inl (g.2 0, 376, .inl al)), (q7, .inl (g.2 0, 200, .inl he)), (q8, .inl (g.2 0, 65, .inl ma))]) [0, 1, 2, 3] (by decide) rfl
        exact W.iret (v := ((F 21) - x2)) hx hb hr (fun t ht hW => ⟨⟨_, (F, he, ma), rfl, hv, by rw [ht]; exact hP9, hD9⟩, hS.F ht⟩) hS.2.2 dX9_both_81
      · have hv := hvf hc
        refine lv_aload_n hx hb dX9_both_63 rfl (lv_at hl 0 rfl) ?_
        refine va_get (D := g.1) (ci := 9) (v := .int (F 21)) (C := RX9) (T := TX9) (N := 29) hx hb hts inX9_both_9 hown hK hP 0 rfl rfl 21 (by decide) (hts (.fieldLink RX9 266 "RangeCodesModel" "distance" "I") (List.mem_of_getElem? (i := 2) rfl)) (fun _ h9 => h9) rfl dX9_both_64 ?_
        refine lv_aload_n hx hb dX9_both_67 rfl (lv_at hl 0 rfl) ?_
        refine va_get (D := g.1) (ci := 9) (v := .int (F 19)) (C := RX9) (T := TX9) (N := 29) hx hb hts inX9_both_9 hown hK hP 0 rfl rfl 19 (by decide) (hts (.fieldLink RX9 235 "RangeCodesModel" "late" "I") (List.mem_of_getElem? (i := 3) rfl)) (fun _ h9 => h9) rfl dX9_both_68 ?_
        refine lv_isub hx hb dX9_both_71 ?_
        refine lv_goto (tgt := 81) hx hb dX9_both_72 (by decide) ?_
        have hP9 := hP.sub (ws' := [(qM, .inr (9, [.int (F 0), .ref q1, .ref q2, .ref q3, .int (F 4), .int (F 5), .int (F 6), .int (F 7), .int (F 8), .int (F 9), .long (J 10), .int (F 11), .int (F 12), .int (F 13), .ref q4, .int (F 15), .ref q5, .ref q6, .ref q7, .int (F 19), .ref q8, .int (F 21), .int (F 22), .int (F 23), .int (F 24), .ref q9, .ref q10, .ref q11, .long (J 28)])), (q1, .inl (g.2 0, 376, .inl al)), (q7, .inl (g.2 0, 200, .inl he)), (q8, .inl (g.2 0, 65, .inl ma))]) [0, 1, 2, 3] rfl
        have hD9 := hD.sub (ws' := [(qM, .inr (9, [.int (F 0), .ref q1, .ref q2, .ref q3, .int (F 4), .int (F 5), .int (F 6), .int (F 7), .int (F 8), .int (F 9), .long (J 10), .int (F 11), .int (F 12), .int (F 13), .ref q4, .int (F 15), .ref q5, .ref q6, .ref q7, .int (F 19), .ref q8, .int (F 21), .int (F 22), .int (F 23), .int (F 24), .ref q9, .ref q10, .ref q11, .long (J 28)])), (q1, .inl (g.2 0, 376, .inl al)), (q7, .inl (g.2 0, 200, .inl he)), (q8, .inl (g.2 0, 65, .inl ma))]) [0, 1, 2, 3] (by decide) rfl
        exact W.iret (v := ((F 21) - (F 19))) hx hb hr (fun t ht hW => ⟨⟨_, (F, he, ma), rfl, hv, by rw [ht]; exact hP9, hD9⟩, hS.F ht⟩) hS.2.2 dX9_both_81
    · have hv := hvf hc
      refine lv_ldc (v := (-1000000 : Int32)) hx hb hown (hts (.constant RX9 222 (-1000000)) (List.mem_of_getElem? (i := 4) rfl)) dX9_both_56 ?_
      have hP9 := hP.sub (ws' := [(qM, .inr (9, [.int (F 0), .ref q1, .ref q2, .ref q3, .int (F 4), .int (F 5), .int (F 6), .int (F 7), .int (F 8), .int (F 9), .long (J 10), .int (F 11), .int (F 12), .int (F 13), .ref q4, .int (F 15), .ref q5, .ref q6, .ref q7, .int (F 19), .ref q8, .int (F 21), .int (F 22), .int (F 23), .int (F 24), .ref q9, .ref q10, .ref q11, .long (J 28)])), (q1, .inl (g.2 0, 376, .inl al)), (q7, .inl (g.2 0, 200, .inl he)), (q8, .inl (g.2 0, 65, .inl ma))]) [0, 1, 2, 3] rfl
      have hD9 := hD.sub (ws' := [(qM, .inr (9, [.int (F 0), .ref q1, .ref q2, .ref q3, .int (F 4), .int (F 5), .int (F 6), .int (F 7), .int (F 8), .int (F 9), .long (J 10), .int (F 11), .int (F 12), .int (F 13), .ref q4, .int (F 15), .ref q5, .ref q6, .ref q7, .int (F 19), .ref q8, .int (F 21), .int (F 22), .int (F 23), .int (F 24), .ref q9, .ref q10, .ref q11, .long (J 28)])), (q1, .inl (g.2 0, 376, .inl al)), (q7, .inl (g.2 0, 200, .inl he)), (q8, .inl (g.2 0, 65, .inl ma))]) [0, 1, 2, 3] (by decide) rfl
      exact W.iret (v := (-1000000 : Int32)) hx hb hr (fun t ht hW => ⟨⟨_, (F, he, ma), rfl, hv, by rw [ht]; exact hP9, hD9⟩, hS.F ht⟩) hS.2.2 dX9_both_58
def vX9_both (F : Nat → Int32) (J : Nat → Int64) (al : Nat → Int32) (he : Nat → Int32) (ma : Nat → Int32) (p1 : Int32) (Q : Int32 → (Nat → Int32) → (Nat → Int32) → (Nat → Int32) → Prop) : Prop := (∃ (G_8 : Lg) (lg_8 : Nat) (i_8 : Nat), preX9_behindAt G_8 lg_8 i_8 (upd F 0 (0 : Int32)) J al (0 : Int32) (0 : Int32) ∧ (∀ r_8 : Int32, postX9_behindAt G_8 lg_8 i_8 (upd F 0 (0 : Int32)) J al (0 : Int32) (0 : Int32) r_8 → (∃ (G_14 : Lg) (lg_14 : Nat) (i_14 : Nat), preX9_behindAt G_14 lg_14 i_14 (upd F 0 (0 : Int32)) J al (1 : Int32) (0 : Int32) ∧ (∀ r_14 : Int32, postX9_behindAt G_14 lg_14 i_14 (upd F 0 (0 : Int32)) J al (1 : Int32) (0 : Int32) r_14 → ((¬ p1 = (1 : Int32) → (∃ (T_28 : Cd) (G0_28 : Lg) (G1_28 : Lg) (lg_28 : Nat) (lim_28 : Nat), preX9_laysLeg T_28 G0_28 G1_28 lg_28 lim_28 (upd F 0 (0 : Int32)) J al he ma (1 : Int32) ∧ (∀ (F_28 : Nat → Int32) (he_28 : Nat → Int32) (ma_28 : Nat → Int32), postX9_laysLeg T_28 G0_28 G1_28 lg_28 lim_28 (upd F 0 (0 : Int32)) J al he ma (1 : Int32) F_28 he_28 ma_28 → ((p1 = 0 → (vX9_both_c40 J al p1 Q (r_8 + r_14) F_28 he_28 ma_28)) ∧ (¬ p1 = 0 → ((¬ p1 = (2 : Int32) → (Q (-1000000 : Int32) F_28 he_28 ma_28)) ∧ (p1 = (2 : Int32) → (vX9_both_c40 J al p1 Q (r_8 + r_14) F_28 he_28 ma_28)))))))) ∧ (p1 = (1 : Int32) → (Q (r_8 + r_14) (upd F 0 (0 : Int32)) he ma)))))))
set_option maxHeartbeats 4000000 in
set_option maxRecDepth 100000 in
theorem wX9_both (l : Launch) (g : GP) (qM : Nat) (q1 : Nat) (q2 : Nat) (q3 : Nat) (q4 : Nat) (q5 : Nat) (q6 : Nat) (q7 : Nat) (q8 : Nat) (q9 : Nat) (q10 : Nat) (q11 : Nat) (sz : Nat) (F : Nat → Int32) (J : Nat → Int64) (al : Nat → Int32) (he : Nat → Int32) (ma : Nat → Int32) (p1 : Int32) {Q : Int32 → (Nat → Int32) → (Nat → Int32) → (Nat → Int32) → Prop} (hv : vX9_both F J al he ma p1 Q) : Met l yX9_both wsX9_both rmX9_both (va_Pc [.ref qM, .int p1] (fun U => U.heap.size = sz ∧ va_P g.1 vwCl [(qM, .inr (9, [.int (F 0), .ref q1, .ref q2, .ref q3, .int (F 4), .int (F 5), .int (F 6), .int (F 7), .int (F 8), .int (F 9), .long (J 10), .int (F 11), .int (F 12), .int (F 13), .ref q4, .int (F 15), .ref q5, .ref q6, .ref q7, .int (F 19), .ref q8, .int (F 21), .int (F 22), .int (F 23), .int (F 24), .ref q9, .ref q10, .ref q11, .long (J 28)])), (q1, .inl (g.2 0, 376, .inl al)), (q7, .inl (g.2 0, 200, .inl he)), (q8, .inl (g.2 0, 65, .inl ma))] U.heap ∧ GK g U ∧ va_D (fun _ => True) [(qM, .inr (9, [.int (F 0), .ref q1, .ref q2, .ref q3, .int (F 4), .int (F 5), .int (F 6), .int (F 7), .int (F 8), .int (F 9), .long (J 10), .int (F 11), .int (F 12), .int (F 13), .ref q4, .int (F 15), .ref q5, .ref q6, .ref q7, .int (F 19), .ref q8, .int (F 21), .int (F 22), .int (F 23), .int (F 24), .ref q9, .ref q10, .ref q11, .long (J 28)])), (q1, .inl (g.2 0, 376, .inl al)), (q7, .inl (g.2 0, 200, .inl he)), (q8, .inl (g.2 0, 65, .inl ma))])) (va_Qi (fun (r : Int32) (u : (Nat → Int32) × (Nat → Int32) × (Nat → Int32)) => Q r u.1 u.2.1 u.2.2) (fun (u : (Nat → Int32) × (Nat → Int32) × (Nat → Int32)) t => va_P g.1 vwCl [(qM, .inr (9, [.int (u.1 0), .ref q1, .ref q2, .ref q3, .int (u.1 4), .int (u.1 5), .int (u.1 6), .int (u.1 7), .int (u.1 8), .int (u.1 9), .long (J 10), .int (u.1 11), .int (u.1 12), .int (u.1 13), .ref q4, .int (u.1 15), .ref q5, .ref q6, .ref q7, .int (u.1 19), .ref q8, .int (u.1 21), .int (u.1 22), .int (u.1 23), .int (u.1 24), .ref q9, .ref q10, .ref q11, .long (J 28)])), (q1, .inl (g.2 0, 376, .inl al)), (q7, .inl (g.2 0, 200, .inl u.2.1)), (q8, .inl (g.2 0, 65, .inl u.2.2))] t.heap ∧ va_D (va_A [(qM, .inr (9, [.int (F 0), .ref q1, .ref q2, .ref q3, .int (F 4), .int (F 5), .int (F 6), .int (F 7), .int (F 8), .int (F 9), .long (J 10), .int (F 11), .int (F 12), .int (F 13), .ref q4, .int (F 15), .ref q5, .ref q6, .ref q7, .int (F 19), .ref q8, .int (F 21), .int (F 22), .int (F 23), .int (F 24), .ref q9, .ref q10, .ref q11, .long (J 28)])), (q1, .inl (g.2 0, 376, .inl al)), (q7, .inl (g.2 0, 200, .inl he)), (q8, .inl (g.2 0, 65, .inl ma))] sz) [(qM, .inr (9, [.int (u.1 0), .ref q1, .ref q2, .ref q3, .int (u.1 4), .int (u.1 5), .int (u.1 6), .int (u.1 7), .int (u.1 8), .int (u.1 9), .long (J 10), .int (u.1 11), .int (u.1 12), .int (u.1 13), .ref q4, .int (u.1 15), .ref q5, .ref q6, .ref q7, .int (u.1 19), .ref q8, .int (u.1 21), .int (u.1 22), .int (u.1 23), .int (u.1 24), .ref q9, .ref q10, .ref q11, .long (J 28)])), (q1, .inl (g.2 0, 376, .inl al)), (q7, .inl (g.2 0, 200, .inl u.2.1)), (q8, .inl (g.2 0, 65, .inl u.2.2))]) (va_A [(qM, .inr (9, [.int (F 0), .ref q1, .ref q2, .ref q3, .int (F 4), .int (F 5), .int (F 6), .int (F 7), .int (F 8), .int (F 9), .long (J 10), .int (F 11), .int (F 12), .int (F 13), .ref q4, .int (F 15), .ref q5, .ref q6, .ref q7, .int (F 19), .ref q8, .int (F 21), .int (F 22), .int (F 23), .int (F 24), .ref q9, .ref q10, .ref q11, .long (J 28)])), (q1, .inl (g.2 0, 376, .inl al)), (q7, .inl (g.2 0, 200, .inl he)), (q8, .inl (g.2 0, 65, .inl ma))] sz)) 0 0 (va_A [(qM, .inr (9, [.int (F 0), .ref q1, .ref q2, .ref q3, .int (F 4), .int (F 5), .int (F 6), .int (F 7), .int (F 8), .int (F 9), .long (J 10), .int (F 11), .int (F 12), .int (F 13), .ref q4, .int (F 15), .ref q5, .ref q6, .ref q7, .int (F 19), .ref q8, .int (F 21), .int (F 22), .int (F 23), .int (F 24), .ref q9, .ref q10, .ref q11, .long (J 28)])), (q1, .inl (g.2 0, 376, .inl al)), (q7, .inl (g.2 0, 200, .inl he)), (q8, .inl (g.2 0, 65, .inl ma))] sz) := by
  refine Met.ofW (cc := cX9_both) (maxL := 3) (ret := (some .int)) (by decide) rfl ?_
  intro p e s m args below meth c s₁ B hml hv'
  obtain ⟨rfl, hsz, hP, hG, hD0⟩ := hv'
  have S : CallFix p m c cX9_both 3 s _ wsX9_both RX9 := ⟨B.exec, B.bytes, hml, findClass_of_methodNamed B.named, atoms_spec (ws := wsX9_both) B.pre⟩
  obtain ⟨hx, hb, hml, hown, hts⟩ := id S
  have hK := hG.1
  have hr := B.returns
  have hlocks := B.notSynchronized
  subst hsz
  have hD := hD0.self (sz := s.heap.size)
  generalize hAe : va_A [(qM, .inr (9, [.int (F 0), .ref q1, .ref q2, .ref q3, .int (F 4), .int (F 5), .int (F 6), .int (F 7), .int (F 8), .int (F 9), .long (J 10), .int (F 11), .int (F 12), .int (F 13), .ref q4, .int (F 15), .ref q5, .ref q6, .ref q7, .int (F 19), .ref q8, .int (F 21), .int (F 22), .int (F 23), .int (F 24), .ref q9, .ref q10, .ref q11, .long (J 28)])), (q1, .inl (g.2 0, 376, .inl al)), (q7, .inl (g.2 0, 200, .inl he)), (q8, .inl (g.2 0, 65, .inl ma))] s.heap.size = A at hD ⊢
  have hA : ∀ q : Nat, s.heap.size ≤ q → A q := fun q h => by rw [← hAe]; exact Or.inr h
  have hS : va_S A s.heap s.heap [] := va_S.rf
  clear hD0 hAe
  have hl := lv_entry ([.ref qM, .int p1]) (n := 3) (Nat.le_of_ble_eq_true rfl)
  rw [lg_entry_eq]
  generalize (lg_sl ([.ref qM, .int p1]) ++ List.replicate (3 - (lg_sl ([.ref qM, .int p1])).length) Slot.unset).toArray = ls at hl ⊢
  have hl : lv_has ls 3 [(0, .ref qM), (1, .int p1)] := hl
  unfold vX9_both at hv
  refine lv_aload_n hx hb dX9_both_0 rfl (lv_at hl 0 rfl) ?_
  refine lv_iconst (v := (0 : Int32)) hx hb dX9_both_1 (by decide) ?_
  refine va_put (D := g.1) (ci := 9) (v := .int (0 : Int32)) (ty := .int) (C := RX9) (T := TX9) (N := 29) hx hb hts inX9_both_9 tyX9 tyX9_ok nmX9 hown hK hP hD hS 0 rfl rfl 0 (by decide) (hts (.fieldLink RX9 51 "RangeCodesModel" "raised" "I") (List.mem_of_getElem? (i := 1) rfl)) (fun _ h9 => h9) rfl (by decide +kernel) rfl rfl (Nat.le_of_ble_eq_true rfl) dX9_both_2 (fun H locs hP hD hS => ?_)
  have hP : va_P g.1 vwCl [(qM, .inr (9, [.int (0 : Int32), .ref q1, .ref q2, .ref q3, .int (F 4), .int (F 5), .int (F 6), .int (F 7), .int (F 8), .int (F 9), .long (J 10), .int (F 11), .int (F 12), .int (F 13), .ref q4, .int (F 15), .ref q5, .ref q6, .ref q7, .int (F 19), .ref q8, .int (F 21), .int (F 22), .int (F 23), .int (F 24), .ref q9, .ref q10, .ref q11, .long (J 28)])), (q1, .inl (g.2 0, 376, .inl al)), (q7, .inl (g.2 0, 200, .inl he)), (q8, .inl (g.2 0, 65, .inl ma))] H := hP
  have hD : va_D A [(qM, .inr (9, [.int (0 : Int32), .ref q1, .ref q2, .ref q3, .int (F 4), .int (F 5), .int (F 6), .int (F 7), .int (F 8), .int (F 9), .long (J 10), .int (F 11), .int (F 12), .int (F 13), .ref q4, .int (F 15), .ref q5, .ref q6, .ref q7, .int (F 19), .ref q8, .int (F 21), .int (F 22), .int (F 23), .int (F 24), .ref q9, .ref q10, .ref q11, .long (J 28)])), (q1, .inl (g.2 0, 376, .inl al)), (q7, .inl (g.2 0, 200, .inl he)), (q8, .inl (g.2 0, 65, .inl ma))] := hD
  refine lv_aload_n hx hb dX9_both_5 rfl (lv_at hl 0 rfl) ?_
  refine lv_iconst (v := (0 : Int32)) hx hb dX9_both_6 (by decide) ?_
  refine lv_iconst (v := (0 : Int32)) hx hb dX9_both_7 (by decide) ?_
  obtain ⟨G_8, lg_8, i_8, ho_1, hv⟩ := hv
  refine vp_callSi (W.runV (As := [.int (0 : Int32), .int (0 : Int32)]) (rest := []) S (wX9_behindAt l g qM q1 q2 q3 q4 q5 q6 q7 q8 q9 q10 q11 (upd F 0 (0 : Int32)) J al (0 : Int32) (0 : Int32) (sX9_behindAt G_8 lg_8 i_8 (upd F 0 (0 : Int32)) J al (0 : Int32) (0 : Int32) ho_1)) (cwV 2 hts gX9_both_X9_behindAt rfl rfl rfl (by decide +kernel) ⟨Nat.le_of_ble_eq_true rfl, Nat.le_of_ble_eq_true rfl⟩) ⟨blindRO, va_recv hK hP (ci := 9) (q0 := 0) rfl rfl, fun U hU hW => ⟨rfl, by rw [hU]; exact hP.sub (ws' := [(qM, .inr (9, [.int ((upd F 0 (0 : Int32)) 0), .ref q1, .ref q2, .ref q3, .int ((upd F 0 (0 : Int32)) 4), .int ((upd F 0 (0 : Int32)) 5), .int ((upd F 0 (0 : Int32)) 6), .int ((upd F 0 (0 : Int32)) 7), .int ((upd F 0 (0 : Int32)) 8), .int ((upd F 0 (0 : Int32)) 9), .long (J 10), .int ((upd F 0 (0 : Int32)) 11), .int ((upd F 0 (0 : Int32)) 12), .int ((upd F 0 (0 : Int32)) 13), .ref q4, .int ((upd F 0 (0 : Int32)) 15), .ref q5, .ref q6, .ref q7, .int ((upd F 0 (0 : Int32)) 19), .ref q8, .int ((upd F 0 (0 : Int32)) 21), .int ((upd F 0 (0 : Int32)) 22), .int ((upd F 0 (0 : Int32)) 23), .int ((upd F 0 (0 : Int32)) 24), .ref q9, .ref q10, .ref q11, .long (J 28)])), (q1, .inl (g.2 0, 376, .inl al))]) [0, 1] rfl, hG.warm hW⟩⟩ rfl rfl hl.1 rfl (lv_room (Nat.le_of_ble_eq_true rfl)) dX9_both_8 ⟨Nat.le_of_ble_eq_true rfl, Nat.le_of_ble_eq_true rfl⟩) (fun r_8 hr_8 => ?_)
  have hv := hv r_8 hr_8
  refine lv_aload_n hx hb dX9_both_11 rfl (lv_at hl 0 rfl) ?_
  refine lv_iconst (v := (1 : Int32)) hx hb dX9_both_12 (by decide) ?_
  refine lv_iconst (v := (0 : Int32)) hx hb dX9_both_13 (by decide) ?_
  obtain ⟨G_14, lg_14, i_14, ho_2, hv⟩ := hv
  refine vp_callSi (W.runV (As := [.int (1 : Int32), .int (0 : Int32)]) (rest := [.int r_8]) S (wX9_behindAt l g qM q1 q2 q3 q4 q5 q6 q7 q8 q9 q10 q11 (upd F 0 (0 : Int32)) J al (1 : Int32) (0 : Int32) (sX9_behindAt G_14 lg_14 i_14 (upd F 0 (0 : Int32)) J al (1 : Int32) (0 : Int32) ho_2)) (cwV 2 hts gX9_both_X9_behindAt rfl rfl rfl (by decide +kernel) ⟨Nat.le_of_ble_eq_true rfl, Nat.le_of_ble_eq_true rfl⟩) ⟨blindRO, va_recv hK hP (ci := 9) (q0 := 0) rfl rfl, fun U hU hW => ⟨rfl, by rw [hU]; exact hP.sub (ws' := [(qM, .inr (9, [.int ((upd F 0 (0 : Int32)) 0), .ref q1, .ref q2, .ref q3, .int ((upd F 0 (0 : Int32)) 4), .int ((upd F 0 (0 : Int32)) 5), .int ((upd F 0 (0 : Int32)) 6), .int ((upd F 0 (0 : Int32)) 7), .int ((upd F 0 (0 : Int32)) 8), .int ((upd F 0 (0 : Int32)) 9), .long (J 10), .int ((upd F 0 (0 : Int32)) 11), .int ((upd F 0 (0 : Int32)) 12), .int ((upd F 0 (0 : Int32)) 13), .ref q4, .int ((upd F 0 (0 : Int32)) 15), .ref q5, .ref q6, .ref q7, .int ((upd F 0 (0 : Int32)) 19), .ref q8, .int ((upd F 0 (0 : Int32)) 21), .int ((upd F 0 (0 : Int32)) 22), .int ((upd F 0 (0 : Int32)) 23), .int ((upd F 0 (0 : Int32)) 24), .ref q9, .ref q10, .ref q11, .long (J 28)])), (q1, .inl (g.2 0, 376, .inl al))]) [0, 1] rfl, hG.warm hW⟩⟩ rfl rfl hl.1 rfl (lv_room (Nat.le_of_ble_eq_true rfl)) dX9_both_14 ⟨Nat.le_of_ble_eq_true rfl, Nat.le_of_ble_eq_true rfl⟩) (fun r_14 hr_14 => ?_)
  have hv := hv r_14 hr_14
  refine lv_iadd hx hb dX9_both_17 ?_
  refine lv_istore_n (lv' := [(2, .int (r_8 + r_14)), (0, .ref qM), (1, .int p1)]) hx hb dX9_both_18 rfl hl (by decide) rfl (fun ls hl => ?_)
  refine lv_iload_n hx hb dX9_both_19 rfl (lv_at hl 2 rfl) ?_
  refine lv_iconst (v := (1 : Int32)) hx hb dX9_both_20 (by decide) ?_
  obtain ⟨hvt, hvf⟩ := hv
  refine lv_icmp_ne (tgt := 26) hx hb dX9_both_21 (by decide) (fun hc => ?_) (fun hc => ?_)
  · have hv := hvt hc
    refine lv_aload_n hx hb dX9_both_26 rfl (lv_at hl 1 rfl) ?_
    refine lv_iconst (v := (1 : Int32)) hx hb dX9_both_27 (by decide) ?_
    obtain ⟨T_28, G0_28, G1_28, lg_28, lim_28, ho_3, hv⟩ := hv
    have hPc := hP.sub (ws' := [(qM, .inr (9, [.int ((upd F 0 (0 : Int32)) 0), .ref q1, .ref q2, .ref q3, .int ((upd F 0 (0 : Int32)) 4), .int ((upd F 0 (0 : Int32)) 5), .int ((upd F 0 (0 : Int32)) 6), .int ((upd F 0 (0 : Int32)) 7), .int ((upd F 0 (0 : Int32)) 8), .int ((upd F 0 (0 : Int32)) 9), .long (J 10), .int ((upd F 0 (0 : Int32)) 11), .int ((upd F 0 (0 : Int32)) 12), .int ((upd F 0 (0 : Int32)) 13), .ref q4, .int ((upd F 0 (0 : Int32)) 15), .ref q5, .ref q6, .ref q7, .int ((upd F 0 (0 : Int32)) 19), .ref q8, .int ((upd F 0 (0 : Int32)) 21), .int ((upd F 0 (0 : Int32)) 22), .int ((upd F 0 (0 : Int32)) 23), .int ((upd F 0 (0 : Int32)) 24), .ref q9, .ref q10, .ref q11, .long (J 28)])), (q1, .inl (g.2 0, 376, .inl al)), (q7, .inl (g.2 0, 200, .inl he)), (q8, .inl (g.2 0, 65, .inl ma))]) [0, 1, 2, 3] rfl
    have hDc := hD.sub (ws' := [(qM, .inr (9, [.int ((upd F 0 (0 : Int32)) 0), .ref q1, .ref q2, .ref q3, .int ((upd F 0 (0 : Int32)) 4), .int ((upd F 0 (0 : Int32)) 5), .int ((upd F 0 (0 : Int32)) 6), .int ((upd F 0 (0 : Int32)) 7), .int ((upd F 0 (0 : Int32)) 8), .int ((upd F 0 (0 : Int32)) 9), .long (J 10), .int ((upd F 0 (0 : Int32)) 11), .int ((upd F 0 (0 : Int32)) 12), .int ((upd F 0 (0 : Int32)) 13), .ref q4, .int ((upd F 0 (0 : Int32)) 15), .ref q5, .ref q6, .ref q7, .int ((upd F 0 (0 : Int32)) 19), .ref q8, .int ((upd F 0 (0 : Int32)) 21), .int ((upd F 0 (0 : Int32)) 22), .int ((upd F 0 (0 : Int32)) 23), .int ((upd F 0 (0 : Int32)) 24), .ref q9, .ref q10, .ref q11, .long (J 28)])), (q1, .inl (g.2 0, 376, .inl al)), (q7, .inl (g.2 0, 200, .inl he)), (q8, .inl (g.2 0, 65, .inl ma))]) [0, 1, 2, 3] (by decide) rfl
    have hFc := va_free (wc := [(qM, .inr (9, [.int ((upd F 0 (0 : Int32)) 0), .ref q1, .ref q2, .ref q3, .int ((upd F 0 (0 : Int32)) 4), .int ((upd F 0 (0 : Int32)) 5), .int ((upd F 0 (0 : Int32)) 6), .int ((upd F 0 (0 : Int32)) 7), .int ((upd F 0 (0 : Int32)) 8), .int ((upd F 0 (0 : Int32)) 9), .long (J 10), .int ((upd F 0 (0 : Int32)) 11), .int ((upd F 0 (0 : Int32)) 12), .int ((upd F 0 (0 : Int32)) 13), .ref q4, .int ((upd F 0 (0 : Int32)) 15), .ref q5, .ref q6, .ref q7, .int ((upd F 0 (0 : Int32)) 19), .ref q8, .int ((upd F 0 (0 : Int32)) 21), .int ((upd F 0 (0 : Int32)) 22), .int ((upd F 0 (0 : Int32)) 23), .int ((upd F 0 (0 : Int32)) 24), .ref q9, .ref q10, .ref q11, .long (J 28)])), (q1, .inl (g.2 0, 376, .inl al)), (q7, .inl (g.2 0, 200, .inl he)), (q8, .inl (g.2 0, 65, .inl ma))]) hD hS hA [0, 1, 2, 3] rfl
    refine va_callv (va_runV (As := [.int (1 : Int32)]) (rest := []) S (wX9_laysLeg l g qM q1 q2 q3 q4 q5 q6 q7 q8 q9 q10 q11 H.size (upd F 0 (0 : Int32)) J al he ma (1 : Int32) (sX9_laysLeg T_28 G0_28 G1_28 lg_28 lim_28 (upd F 0 (0 : Int32)) J al he ma (1 : Int32) ho_3)) (cwV 1 hts gX9_both_X9_laysLeg rfl rfl rfl (by decide +kernel) ⟨Nat.le_of_ble_eq_true rfl, Nat.le_of_ble_eq_true rfl⟩) ⟨blindRW, va_recv hK hP (ci := 9) (q0 := 0) rfl rfl, fun U hU hW => ⟨rfl, by rw [hU], by rw [hU]; exact hPc, hG.warm hW, hDc.weaken (fun _ _ _ _ => trivial)⟩⟩ rfl rfl hl.1 rfl (lv_room (Nat.le_of_ble_eq_true rfl)) dX9_both_28 ⟨Nat.le_of_ble_eq_true rfl, Nat.le_of_ble_eq_true rfl⟩) hS (fun q _ h => hFc q h) hFc (fun u t H1 locs ht hvm hw hB hz1 hk1 hS => ?_)
    obtain ⟨F_28, he_28, ma_28⟩ := u
    obtain ⟨hP1, hD1⟩ := hB
    rw [ht] at hP1
    have hv := hv F_28 he_28 ma_28 hw
    obtain ⟨hP, hD⟩ := va_join (wr := []) (w1 := [(qM, .inr (9, [.int (F_28 0), .ref q1, .ref q2, .ref q3, .int (F_28 4), .int (F_28 5), .int (F_28 6), .int (F_28 7), .int (F_28 8), .int (F_28 9), .long (J 10), .int (F_28 11), .int (F_28 12), .int (F_28 13), .ref q4, .int (F_28 15), .ref q5, .ref q6, .ref q7, .int (F_28 19), .ref q8, .int (F_28 21), .int (F_28 22), .int (F_28 23), .int (F_28 24), .ref q9, .ref q10, .ref q11, .long (J 28)])), (q1, .inl (g.2 0, 376, .inl al)), (q7, .inl (g.2 0, 200, .inl he_28)), (q8, .inl (g.2 0, 65, .inl ma_28))]) hP hD [0, 1, 2, 3] [] rfl rfl (by decide) (by decide) hk1 hFc hP1 hD1
    clear hP1 hD1 hPc hDc hFc hk1
    generalize H1 = H at hP hS ⊢
    have hP : va_P g.1 vwCl [(qM, .inr (9, [.int (F_28 0), .ref q1, .ref q2, .ref q3, .int (F_28 4), .int (F_28 5), .int (F_28 6), .int (F_28 7), .int (F_28 8), .int (F_28 9), .long (J 10), .int (F_28 11), .int (F_28 12), .int (F_28 13), .ref q4, .int (F_28 15), .ref q5, .ref q6, .ref q7, .int (F_28 19), .ref q8, .int (F_28 21), .int (F_28 22), .int (F_28 23), .int (F_28 24), .ref q9, .ref q10, .ref q11, .long (J 28)])), (q1, .inl (g.2 0, 376, .inl al)), (q7, .inl (g.2 0, 200, .inl he_28)), (q8, .inl (g.2 0, 65, .inl ma_28))] H := hP
    have hD : va_D A [(qM, .inr (9, [.int (F_28 0), .ref q1, .ref q2, .ref q3, .int (F_28 4), .int (F_28 5), .int (F_28 6), .int (F_28 7), .int (F_28 8), .int (F_28 9), .long (J 10), .int (F_28 11), .int (F_28 12), .int (F_28 13), .ref q4, .int (F_28 15), .ref q5, .ref q6, .ref q7, .int (F_28 19), .ref q8, .int (F_28 21), .int (F_28 22), .int (F_28 23), .int (F_28 24), .ref q9, .ref q10, .ref q11, .long (J 28)])), (q1, .inl (g.2 0, 376, .inl al)), (q7, .inl (g.2 0, 200, .inl he_28)), (q8, .inl (g.2 0, 65, .inl ma_28))] := hD
    refine lv_iload_n hx hb dX9_both_31 rfl (lv_at hl 2 rfl) ?_
    obtain ⟨hvt, hvf⟩ := hv
    refine lv_if_eq (tgt := 40) hx hb dX9_both_32 (by decide) (fun hc => ?_) (fun hc => ?_)
    · have hv := hvt hc
      exact kX9_both_c40 S hr hlocks hG hA _ _ _ _ hv _ _ (hP.sub (ws' := [(qM, .inr (9, [.int (F_28 0), .ref q1, .ref q2, .ref q3, .int (F_28 4), .int (F_28 5), .int (F_28 6), .int (F_28 7), .int (F_28 8), .int (F_28 9), .long (J 10), .int (F_28 11), .int (F_28 12), .int (F_28 13), .ref q4, .int (F_28 15), .ref q5, .ref q6, .ref q7, .int (F_28 19), .ref q8, .int (F_28 21), .int (F_28 22), .int (F_28 23), .int (F_28 24), .ref q9, .ref q10, .ref q11, .long (J 28)])), (q1, .inl (g.2 0, 376, .inl al)), (q7, .inl (g.2 0, 200, .inl he_28)), (q8, .inl (g.2 0, 65, .inl ma_28))]) [0, 1, 2, 3] rfl) (hD.sub (ws' := [(qM, .inr (9, [.int (F_28 0), .ref q1, .ref q2, .ref q3, .int (F_28 4), .int (F_28 5), .int (F_28 6), .int (F_28 7), .int (F_28 8), .int (F_28 9), .long (J 10), .int (F_28 11), .int (F_28 12), .int (F_28 13), .ref q4, .int (F_28 15), .ref q5, .ref q6, .ref q7, .int (F_28 19), .ref q8, .int (F_28 21), .int (F_28 22), .int (F_28 23), .int (F_28 24), .ref q9, .ref q10, .ref q11, .long (J 28)])), (q1, .inl (g.2 0, 376, .inl al)), (q7, .inl (g.2 0, 200, .inl he_28)), (q8, .inl (g.2 0, 65, .inl ma_28))]) [0, 1, 2, 3] (by decide) rfl) hS ls (lv_sub hl [1, 2, 0] rfl)
    · have hv := hvf hc
      refine lv_iload_n hx hb dX9_both_35 rfl (lv_at hl 2 rfl) ?_
      refine lv_iconst (v := (2 : Int32)) hx hb dX9_both_36 (by decide) ?_
      obtain ⟨hvt, hvf⟩ := hv
      refine lv_icmp_ne (tgt := 56) hx hb dX9_both_37 (by decide) (fun hc => ?_) (fun hc => ?_)
      · have hv := hvt hc
        refine lv_ldc (v := (-1000000 : Int32)) hx hb hown (hts (.constant RX9 222 (-1000000)) (List.mem_of_getElem? (i := 4) rfl)) dX9_both_56 ?_
        have hP9 := hP.sub (ws' := [(qM, .inr (9, [.int (F_28 0), .ref q1, .ref q2, .ref q3, .int (F_28 4), .int (F_28 5), .int (F_28 6), .int (F_28 7), .int (F_28 8), .int (F_28 9), .long (J 10), .int (F_28 11), .int (F_28 12), .int (F_28 13), .ref q4, .int (F_28 15), .ref q5, .ref q6, .ref q7, .int (F_28 19), .ref q8, .int (F_28 21), .int (F_28 22), .int (F_28 23), .int (F_28 24), .ref q9, .ref q10, .ref q11, .long (J 28)])), (q1, .inl (g.2 0, 376, .inl al)), (q7, .inl (g.2 0, 200, .inl he_28)), (q8, .inl (g.2 0, 65, .inl ma_28))]) [0, 1, 2, 3] rfl
        have hD9 := hD.sub (ws' := [(qM, .inr (9, [.int (F_28 0), .ref q1, .ref q2, .ref q3, .int (F_28 4), .int (F_28 5), .int (F_28 6), .int (F_28 7), .int (F_28 8), .int (F_28 9), .long (J 10), .int (F_28 11), .int (F_28 12), .int (F_28 13), .ref q4, .int (F_28 15), .ref q5, .ref q6, .ref q7, .int (F_28 19), .ref q8, .int (F_28 21), .int (F_28 22), .int (F_28 23), .int (F_28 24), .ref q9, .ref q10, .ref q11, .long (J 28)])), (q1, .inl (g.2 0, 376, .inl al)), (q7, .inl (g.2 0, 200, .inl he_28)), (q8, .inl (g.2 0, 65, .inl ma_28))]) [0, 1, 2, 3] (by decide) rfl
        exact W.iret (v := (-1000000 : Int32)) hx hb hr (fun t ht hW => ⟨⟨_, (F_28, he_28, ma_28), rfl, hv, by rw [ht]; exact hP9, hD9⟩, hS.F ht⟩) hS.2.2 dX9_both_58
      · have hv := hvf hc
        exact kX9_both_c40 S hr hlocks hG hA _ _ _ _ hv _ _ (hP.sub (ws' := [(qM, .inr (9, [.int (F_28 0), .ref q1, .ref q2, .ref q3, .int (F_28 4), .int (F_28 5), .int (F_28 6), .int (F_28 7), .int (F_28 8), .int (F_28 9), .long (J 10), .int (F_28 11), .int (F_28 12), .int (F_28 13), .ref q4, .int (F_28 15), .ref q5, .ref q6, .ref q7, .int (F_28 19), .ref q8, .int (F_28 21), .int (F_28 22), .int (F_28 23), .int (F_28 24), .ref q9, .ref q10, .ref q11, .long (J 28)])), (q1, .inl (g.2 0, 376, .inl al)), (q7, .inl (g.2 0, 200, .inl he_28)), (q8, .inl (g.2 0, 65, .inl ma_28))]) [0, 1, 2, 3] rfl) (hD.sub (ws' := [(qM, .inr (9, [.int (F_28 0), .ref q1, .ref q2, .ref q3, .int (F_28 4), .int (F_28 5), .int (F_28 6), .int (F_28 7), .int (F_28 8), .int (F_28 9), .long (J 10), .int (F_28 11), .int (F_28 12), .int (F_28 13), .ref q4, .int (F_28 15), .ref q5, .ref q6, .ref q7, .int (F_28 19), .ref q8, .int (F_28 21), .int (F_28 22), .int (F_28 23), .int (F_28 24), .ref q9, .ref q10, .ref q11, .long (J 28)])), (q1, .inl (g.2 0, 376, .inl al)), (q7, .inl (g.2 0, 200, .inl he_28)), (q8, .inl (g.2 0, 65, .inl ma_28))]) [0, 1, 2, 3] (by decide) rfl) hS ls (lv_sub hl [1, 2, 0] rfl)
  · have hv := hvf hc
    refine lv_iload_n hx hb dX9_both_24 rfl (lv_at hl 0 rfl) ?_
    have hP9 := hP.sub (ws' := [(qM, .inr (9, [.int ((upd F 0 (0 : Int32)) 0), .ref q1, .ref q2, .ref q3, .int ((upd F 0 (0 : Int32)) 4), .int ((upd F 0 (0 : Int32)) 5), .int ((upd F 0 (0 : Int32)) 6), .int ((upd F 0 (0 : Int32)) 7), .int ((upd F 0 (0 : Int32)) 8), .int ((upd F 0 (0 : Int32)) 9), .long (J 10), .int ((upd F 0 (0 : Int32)) 11), .int ((upd F 0 (0 : Int32)) 12), .int ((upd F 0 (0 : Int32)) 13), .ref q4, .int ((upd F 0 (0 : Int32)) 15), .ref q5, .ref q6, .ref q7, .int ((upd F 0 (0 : Int32)) 19), .ref q8, .int ((upd F 0 (0 : Int32)) 21), .int ((upd F 0 (0 : Int32)) 22), .int ((upd F 0 (0 : Int32)) 23), .int ((upd F 0 (0 : Int32)) 24), .ref q9, .ref q10, .ref q11, .long (J 28)])), (q1, .inl (g.2 0, 376, .inl al)), (q7, .inl (g.2 0, 200, .inl he)), (q8, .inl (g.2 0, 65, .inl ma))]) [0, 1, 2, 3] rfl
    have hD9 := hD.sub (ws' := [(qM, .inr (9, [.int ((upd F 0 (0 : Int32)) 0), .ref q1, .ref q2, .ref q3, .int ((upd F 0 (0 : Int32)) 4), .int ((upd F 0 (0 : Int32)) 5), .int ((upd F 0 (0 : Int32)) 6), .int ((upd F 0 (0 : Int32)) 7), .int ((upd F 0 (0 : Int32)) 8), .int ((upd F 0 (0 : Int32)) 9), .long (J 10), .int ((upd F 0 (0 : Int32)) 11), .int ((upd F 0 (0 : Int32)) 12), .int ((upd F 0 (0 : Int32)) 13), .ref q4, .int ((upd F 0 (0 : Int32)) 15), .ref q5, .ref q6, .ref q7, .int ((upd F 0 (0 : Int32)) 19), .ref q8, .int ((upd F 0 (0 : Int32)) 21), .int ((upd F 0 (0 : Int32)) 22), .int ((upd F 0 (0 : Int32)) 23), .int ((upd F 0 (0 : Int32)) 24), .ref q9, .ref q10, .ref q11, .long (J 28)])), (q1, .inl (g.2 0, 376, .inl al)), (q7, .inl (g.2 0, 200, .inl he)), (q8, .inl (g.2 0, 65, .inl ma))]) [0, 1, 2, 3] (by decide) rfl
    exact W.iret (v := (r_8 + r_14)) hx hb hr (fun t ht hW => ⟨⟨_, ((upd F 0 (0 : Int32)), he, ma), rfl, hv, by rw [ht]; exact hP9, hD9⟩, hS.F ht⟩) hS.2.2 dX9_both_25
abbrev preX9_both (T : Cd) (G0 : Lg) (G1 : Lg) (lim : Nat) (F : Nat → Int32) (J : Nat → Int64) (al : Nat → Int32) (he : Nat → Int32) (ma : Nat → Int32) (p1 : Int32) : Prop := fcR T G0 G1 lim al
abbrev postX9_both (T : Cd) (G0 : Lg) (G1 : Lg) (lim : Nat) (F : Nat → Int32) (J : Nat → Int64) (al : Nat → Int32) (he : Nat → Int32) (ma : Nat → Int32) (p1 : Int32) (r : Int32) (F' : Nat → Int32) (he' : Nat → Int32) (ma' : Nat → Int32) : Prop := r.toInt = spBoth T G0 G1 lim p1.toInt
theorem sX9_both_40 (T : Cd) (G0 : Lg) (G1 : Lg) (lim : Nat) (F : Nat → Int32) (J : Nat → Int64) (al : Nat → Int32) (he : Nat → Int32) (ma : Nat → Int32) (p1 : Int32) (H : fcR T G0 G1 lim al) (hw : p1.toInt = 0 ∨ p1.toInt = 2) (x2 : Int32) (h2 : x2.toInt = lagZ G0 0 (gfr G0) + lagZ G1 0 (gfr G1)) (hrl : rlC T G0 G1 lim 1 F he ma) (Q : Int32 → (Nat → Int32) → (Nat → Int32) → (Nat → Int32) → Prop) (hQ : ∀ (r : Int32), r.toInt = spBoth T G0 G1 lim p1.toInt → Q r F he ma) : vX9_both_c40 J al p1 Q x2 F he ma := by
  obtain ⟨hT, h0, h1, hlim, hl9, hl1⟩ := id H
  have hg0 := lagZ_le h0.1 (i := 0) (t := gfr G0) (by have := gfr_le h0.1; omega)
  have hg1 := lagZ_le h1.1 (i := 0) (t := gfr G1) (by have := gfr_le h1.1; omega)
  have hlt : isLt (latO T G0 lim) (F 19) := hrl.2.2.2 rfl
  have hO := isD_O hrl.2.2.1
  have hsp : spBoth T G0 G1 lim p1.toInt = (match latO T G0 lim, dsO T (bN T G0 G1 lim 1) lim with | some a, some d => (if p1.toInt = 0 then (d : Int) - (a : Int) else (d : Int) - (lagZ G0 0 (gfr G0) + lagZ G1 0 (gfr G1))) | _, _ => -1000000) := by
    unfold spBoth
    rw [if_neg (by omega), if_pos hw]
    cases latO T G0 lim <;> cases dsO T (bN T G0 G1 lim 1) lim <;> rfl
  unfold vX9_both_c40
  rw [fa_eq (F 19), fa_eq (F 21), zm1, fa_eq p1, z0]
  cases h8 : dsO T (bN T G0 G1 lim 1) lim with
  | none =>
    rw [h8] at hO hsp
    have hO : (F 21).toInt = -1 := hO
    refine ⟨fun _ => hQ _ ?_, fun q => absurd hO q⟩
    rw [hsp]
    cases latO T G0 lim <;> rfl
  | some d =>
    have hdl := dsO_lt h8
    rw [h8] at hO hsp
    have hO : (F 21).toInt = (d : Int) := hO
    refine ⟨fun q => absurd q (by omega), fun _ => ?_⟩
    cases h7 : latO T G0 lim with
    | none =>
      rw [h7] at hlt hsp
      have hlt : (F 19).toInt = -1 := hlt
      exact ⟨fun q => absurd hlt q, fun _ => hQ _ (by rw [hsp]; rfl)⟩
    | some a =>
      rw [h7] at hlt hsp
      have hlt : (F 19).toInt = (a : Int) ∧ a ≤ 100000 := hlt
      refine ⟨fun _ => ⟨fun hz => hQ _ ?_, fun hz => hQ _ ?_⟩, fun q => absurd q (by omega)⟩
      · rw [hsp]
        show _ = if p1.toInt = 0 then _ else _
        rw [if_neg hz]
        exact q_sub hO h2 (by omega) (by omega)
      · rw [hsp]
        show _ = if p1.toInt = 0 then _ else _
        rw [if_pos hz]
        exact q_sub hO hlt.1 (by omega) (by omega)
theorem sX9_both (T : Cd) (G0 : Lg) (G1 : Lg) (lim : Nat) (F : Nat → Int32) (J : Nat → Int64) (al : Nat → Int32) (he : Nat → Int32) (ma : Nat → Int32) (p1 : Int32) (H : preX9_both T G0 G1 lim F J al he ma p1) : vX9_both F J al he ma p1 (postX9_both T G0 G1 lim F J al he ma p1) := by
  obtain ⟨hT, h0, h1, hlim, hl9, hl1⟩ := id H
  have hg0 := lagZ_le h0.1 (i := 0) (t := gfr G0) (by have := gfr_le h0.1; omega)
  have hg1 := lagZ_le h1.1 (i := 0) (t := gfr G1) (by have := gfr_le h1.1; omega)
  refine ⟨G0, 0, 0, ⟨h0, by omega, rfl, rfl, by omega⟩, fun r hr => ⟨G1, 1, 0, ⟨h1, by omega, rfl, rfl, by omega⟩, fun r2 hr2 => ?_⟩⟩
  have hr : r.toInt = lagZ G0 0 (gfr G0) := hr
  have hr2 : r2.toInt = lagZ G1 0 (gfr G1) := hr2
  have hs := q_add hr hr2 (by omega) (by omega)
  rw [fa_eq p1, z1]
  refine ⟨fun e1 => ⟨T, G0, G1, 1, lim, fcR_ll H _ _ _ _ (p1 := 1) (Or.inr rfl), fun F2 he2 ma2 hq => ?_⟩, fun e1 => ?_⟩
  · have h2 := rlC_of hq
    rw [fa_eq p1, z0]
    refine ⟨fun e0 => sX9_both_40 T G0 G1 lim F2 J al he2 ma2 p1 H (Or.inl e0) _ hs h2 _ (fun r h => h), fun e0 => ?_⟩
    rw [fa_eq p1, z2]
    refine ⟨fun e2 => ?_, fun e2 => sX9_both_40 T G0 G1 lim F2 J al he2 ma2 p1 H (Or.inr e2) _ hs h2 _ (fun r h => h)⟩
    show (-1000000 : Int32).toInt = spBoth T G0 G1 lim p1.toInt
    unfold spBoth
    rw [if_neg e1, if_neg (by omega)]
    rfl
  · show (r + r2).toInt = spBoth T G0 G1 lim p1.toInt
    unfold spBoth
    rw [if_pos e1, hs]
set_option maxRecDepth 20000 in
theorem ggX9_metres_X9_isLeg : GoodIn wsX9_metres wsX9_isLeg := goodIn_r _ [7, 8, 9, 6, 10] (by decide +kernel) (by decide +kernel)
set_option maxRecDepth 20000 in
theorem gX9_metres_X9_isLeg : GoodIn wsX9_metres (va_wsS RX9 182 yX9_isLeg wsX9_isLeg) := goodIn_app (goodIn_of _ (by decide +kernel)) ggX9_metres_X9_isLeg
set_option maxRecDepth 20000 in
theorem ggX9_metres_X9_laysLeg : GoodIn wsX9_metres wsX9_laysLeg := goodIn_r _ [14, 2, 15, 16, 17, 18, 6, 19, 20, 21, 22, 23, 24, 25, 26, 27, 28, 29, 30, 31, 32, 33, 34, 35, 36, 37, 38, 39, 40, 41, 42, 43, 44, 45, 46, 47, 48, 49, 50, 51, 52, 53, 54, 55, 56, 57, 58, 59, 60, 61, 62, 63, 64, 65, 66, 8, 9, 10, 67, 68, 69, 70, 71, 72, 73, 74, 75, 76, 77, 78, 79, 80, 81, 82, 83, 84, 85, 86, 87, 88, 89, 90, 91, 92, 93, 94, 95, 96, 97, 98, 99, 100, 101, 102, 103, 104, 105, 106, 107, 108, 109, 110, 111, 112, 113, 114, 115, 116, 117, 118, 119, 120, 121, 122, 123, 124, 125, 126, 127, 128, 129, 130, 131, 132, 133, 134, 135, 136, 137, 138, 139, 140] (by decide +kernel) (by decide +kernel)
set_option maxRecDepth 20000 in
theorem gX9_metres_X9_laysLeg : GoodIn wsX9_metres (wsV RX9 294 RX9 yX9_laysLeg wsX9_laysLeg) := goodIn_app (goodIn_of _ (by decide +kernel)) ggX9_metres_X9_laysLeg
theorem dX9_metres_0 : decode cX9_metres 0 = .ok (.aload_n 0, 1) := by decide +kernel
theorem dX9_metres_1 : decode cX9_metres 1 = .ok (.iconst 0, 1) := by decide +kernel
theorem dX9_metres_2 : decode cX9_metres 2 = .ok (.putfield 51, 3) := by decide +kernel
theorem dX9_metres_5 : decode cX9_metres 5 = .ok (.iload_n 1, 1) := by decide +kernel
theorem dX9_metres_6 : decode cX9_metres 6 = .ok (.invokestatic 182, 3) := by decide +kernel
theorem dX9_metres_9 : decode cX9_metres 9 = .ok (.ifCond .eq 8, 3) := by decide +kernel
theorem dX9_metres_12 : decode cX9_metres 12 = .ok (.aload_n 0, 1) := by decide +kernel
theorem dX9_metres_13 : decode cX9_metres 13 = .ok (.iload_n 1, 1) := by decide +kernel
theorem dX9_metres_14 : decode cX9_metres 14 = .ok (.invokevirtual 294, 3) := by decide +kernel
theorem dX9_metres_17 : decode cX9_metres 17 = .ok (.iload_n 1, 1) := by decide +kernel
theorem dX9_metres_18 : decode cX9_metres 18 = .ok (.invokestatic 182, 3) := by decide +kernel
theorem dX9_metres_21 : decode cX9_metres 21 = .ok (.ifCond .eq 11, 3) := by decide +kernel
theorem dX9_metres_24 : decode cX9_metres 24 = .ok (.aload_n 0, 1) := by decide +kernel
theorem dX9_metres_25 : decode cX9_metres 25 = .ok (.getfield 266, 3) := by decide +kernel
theorem dX9_metres_28 : decode cX9_metres 28 = .ok (.iconst (-1), 1) := by decide +kernel
theorem dX9_metres_29 : decode cX9_metres 29 = .ok (.if_icmp .ne 7, 3) := by decide +kernel
theorem dX9_metres_32 : decode cX9_metres 32 = .ok (.ldc2_w 328, 3) := by decide +kernel
theorem dX9_metres_35 : decode cX9_metres 35 = .ok (.lreturn, 1) := by decide +kernel
theorem dX9_metres_36 : decode cX9_metres 36 = .ok (.aload_n 0, 1) := by decide +kernel
theorem dX9_metres_37 : decode cX9_metres 37 = .ok (.getfield 266, 3) := by decide +kernel
theorem dX9_metres_40 : decode cX9_metres 40 = .ok (.i2l, 1) := by decide +kernel
theorem dX9_metres_41 : decode cX9_metres 41 = .ok (.lload_n 2, 1) := by decide +kernel
theorem dX9_metres_42 : decode cX9_metres 42 = .ok (.lmul, 1) := by decide +kernel
theorem dX9_metres_43 : decode cX9_metres 43 = .ok (.lstore 4, 2) := by decide +kernel
theorem dX9_metres_45 : decode cX9_metres 45 = .ok (.aload_n 0, 1) := by decide +kernel
theorem dX9_metres_46 : decode cX9_metres 46 = .ok (.getfield 266, 3) := by decide +kernel
theorem dX9_metres_49 : decode cX9_metres 49 = .ok (.ifCond .eq 16, 3) := by decide +kernel
theorem dX9_metres_52 : decode cX9_metres 52 = .ok (.lload 4, 2) := by decide +kernel
theorem dX9_metres_54 : decode cX9_metres 54 = .ok (.aload_n 0, 1) := by decide +kernel
theorem dX9_metres_55 : decode cX9_metres 55 = .ok (.getfield 266, 3) := by decide +kernel
theorem dX9_metres_58 : decode cX9_metres 58 = .ok (.i2l, 1) := by decide +kernel
theorem dX9_metres_59 : decode cX9_metres 59 = .ok (.ldiv, 1) := by decide +kernel
theorem dX9_metres_60 : decode cX9_metres 60 = .ok (.lload_n 2, 1) := by decide +kernel
theorem dX9_metres_61 : decode cX9_metres 61 = .ok (.lcmp, 1) := by decide +kernel
theorem dX9_metres_62 : decode cX9_metres 62 = .ok (.ifCond .ne 7, 3) := by decide +kernel
theorem dX9_metres_65 : decode cX9_metres 65 = .ok (.iconst 1, 1) := by decide +kernel
theorem dX9_metres_66 : decode cX9_metres 66 = .ok (.goto 4, 3) := by decide +kernel
theorem dX9_metres_69 : decode cX9_metres 69 = .ok (.iconst 0, 1) := by decide +kernel
theorem dX9_metres_70 : decode cX9_metres 70 = .ok (.istore 6, 2) := by decide +kernel
theorem dX9_metres_72 : decode cX9_metres 72 = .ok (.iload 6, 2) := by decide +kernel
theorem dX9_metres_74 : decode cX9_metres 74 = .ok (.ifCond .eq 8, 3) := by decide +kernel
theorem dX9_metres_77 : decode cX9_metres 77 = .ok (.lload 4, 2) := by decide +kernel
theorem dX9_metres_79 : decode cX9_metres 79 = .ok (.goto 6, 3) := by decide +kernel
theorem dX9_metres_82 : decode cX9_metres 82 = .ok (.ldc2_w 328, 3) := by decide +kernel
theorem dX9_metres_85 : decode cX9_metres 85 = .ok (.lreturn, 1) := by decide +kernel
abbrev rmX9_metres : Room := { frames := 7, cells := 0, slots := 0, locals := 162 }
theorem inX9_metres_9 : ∀ w ∈ wsX90, w ∈ wsX9_metres := by decide +kernel
def vX9_metres_c65 (J : Nat → Int64) (al : Nat → Int32) (p1 : Int32) (p2 : Int64) (Q : Int64 → (Nat → Int32) → (Nat → Int32) → (Nat → Int32) → Prop) (x4 : Int64) (F : Nat → Int32) (he : Nat → Int32) (ma : Nat → Int32) : Prop := (Q x4 F he ma)
set_option maxHeartbeats 4000000 in
set_option maxRecDepth 100000 in
theorem kX9_metres_c65 {p : Program} {l : Launch} {e : Env} {s : State} {m : MethodId} {args : Array Value} {below : List Frame} {meth : Method} {c : Code} {g : GP} {qM : Nat} {q1 : Nat} {q2 : Nat} {q3 : Nat} {q4 : Nat} {q5 : Nat} {q6 : Nat} {q7 : Nat} {q8 : Nat} {q9 : Nat} {q10 : Nat} {q11 : Nat} {J : Nat → Int64} {al : Nat → Int32} {p1 : Int32} {p2 : Int64} {Q : Int64 → (Nat → Int32) → (Nat → Int32) → (Nat → Int32) → Prop} {A : Nat → Prop} (S : CallFix p m c cX9_metres 7 s args wsX9_metres RX9) (hr : meth.sig.returnType = (some .long)) (hlocks : meth.locks = false) (hG : GK g s) (hA : ∀ q : Nat, s.heap.size ≤ q → A q) : ∀ (x4 : Int64) (F : Nat → Int32) (he : Nat → Int32) (ma : Nat → Int32), vX9_metres_c65 J al p1 p2 Q x4 F he ma → ∀ (H : Heap) (locs : List Loc), va_P g.1 vwCl [(qM, .inr (9, [.int (F 0), .ref q1, .ref q2, .ref q3, .int (F 4), .int (F 5), .int (F 6), .int (F 7), .int (F 8), .int (F 9), .long (J 10), .int (F 11), .int (F 12), .int (F 13), .ref q4, .int (F 15), .ref q5, .ref q6, .ref q7, .int (F 19), .ref q8, .int (F 21), .int (F 22), .int (F 23), .int (F 24), .ref q9, .ref q10, .ref q11, .long (J 28)])), (q1, .inl (g.2 0, 376, .inl al)), (q7, .inl (g.2 0, 200, .inl he)), (q8, .inl (g.2 0, 65, .inl ma))] H → va_D A [(qM, .inr (9, [.int (F 0), .ref q1, .ref q2, .ref q3, .int (F 4), .int (F 5), .int (F 6), .int (F 7), .int (F 8), .int (F 9), .long (J 10), .int (F 11), .int (F 12), .int (F 13), .ref q4, .int (F 15), .ref q5, .ref q6, .ref q7, .int (F 19), .ref q8, .int (F 21), .int (F 22), .int (F 23), .int (F 24), .ref q9, .ref q10, .ref q11, .long (J 28)])), (q1, .inl (g.2 0, 376, .inl al)), (q7, .inl (g.2 0, 200, .inl he)), (q8, .inl (g.2 0, 65, .inl ma))] → va_S A s.heap H locs → ∀ (ls : Array Slot), lv_has ls 7 [(4, .long x4)] → W p l e (headSpec wsX9_metres rmX9_metres).room s m args below meth c H locs 0 0 (MQ below (va_Ql (fun (r : Int64) (u : (Nat → Int32) × (Nat → Int32) × (Nat → Int32)) => Q r u.1 u.2.1 u.2.2) (fun (u : (Nat → Int32) × (Nat → Int32) × (Nat → Int32)) t => va_P g.1 vwCl [(qM, .inr (9, [.int (u.1 0), .ref q1, .ref q2, .ref q3, .int (u.1 4), .int (u.1 5), .int (u.1 6), .int (u.1 7), .int (u.1 8), .int (u.1 9), .long (J 10), .int (u.1 11), .int (u.1 12), .int (u.1 13), .ref q4, .int (u.1 15), .ref q5, .ref q6, .ref q7, .int (u.1 19), .ref q8, .int (u.1 21), .int (u.1 22), .int (u.1 23), .int (u.1 24), .ref q9, .ref q10, .ref q11, .long (J 28)])), (q1, .inl (g.2 0, 376, .inl al)), (q7, .inl (g.2 0, 200, .inl u.2.1)), (q8, .inl (g.2 0, 65, .inl u.2.2))] t.heap ∧ va_D A [(qM, .inr (9, [.int (u.1 0), .ref q1, .ref q2, .ref q3, .int (u.1 4), .int (u.1 5), .int (u.1 6), .int (u.1 7), .int (u.1 8), .int (u.1 9), .long (J 10), .int (u.1 11), .int (u.1 12), .int (u.1 13), .ref q4, .int (u.1 15), .ref q5, .ref q6, .ref q7, .int (u.1 19), .ref q8, .int (u.1 21), .int (u.1 22), .int (u.1 23), .int (u.1 24), .ref q9, .ref q10, .ref q11, .long (J 28)])), (q1, .inl (g.2 0, 376, .inl al)), (q7, .inl (g.2 0, 200, .inl u.2.1)), (q8, .inl (g.2 0, 65, .inl u.2.2))]) A) args s 0 0 A) (F0 m 65 ls []) := by
  obtain ⟨hx, hb, hml, hown, hts⟩ := id S
  have hK := hG.1
  intro x4 F he ma hv H locs hP hD hS ls hl
  unfold vX9_metres_c65 at hv
  refine lv_iconst (v := (1 : Int32)) hx hb dX9_metres_65 (by decide) ?_
  refine lv_goto (tgt := 70) hx hb dX9_metres_66 (by decide) ?_
  refine lv_istore (lv' := [(6, .int (1 : Int32)), (4, .long x4)]) hx hb dX9_metres_70 hl (by decide) rfl (fun ls hl => ?_)
  refine lv_iload hx hb dX9_metres_72 (lv_at hl 0 rfl) ?_
  refine lv_if_eq (tgt := 82) hx hb dX9_metres_74 (by decide) (fun hc => absurd hc (by decide)) (fun _ => ?_)
  refine lv_lload hx hb dX9_metres_77 (lv_at hl 1 rfl) ?_
  refine lv_goto (tgt := 85) hx hb dX9_metres_79 (by decide) ?_
  have hP9 := hP.sub (ws' := [(qM, .inr (9, [.int (F 0), .ref q1, .ref q2, .ref q3, .int (F 4), .int (F 5), .int (F 6), .int (F 7), .int (F 8), .int (F 9), .long (J 10), .int (F 11), .int (F 12), .int (F 13), .ref q4, .int (F 15), .ref q5, .ref q6, .ref q7, .int (F 19), .ref q8, .int (F 21), .int (F 22), .int (F 23), .int (F 24), .ref q9, .ref q10, .ref q11, .long (J 28)])), (q1, .inl (g.2 0, 376, .inl al)), (q7, .inl (g.2 0, 200, .inl he)), (q8, .inl (g.2 0, 65, .inl ma))]) [0, 1, 2, 3] rfl
  have hD9 := hD.sub (ws' := [(qM, .inr (9, [.int (F 0), .ref q1, .ref q2, .ref q3, .int (F 4), .int (F 5), .int (F 6), .int (F 7), .int (F 8), .int (F 9), .long (J 10), .int (F 11), .int (F 12), .int (F 13), .ref q4, .int (F 15), .ref q5, .ref q6, .ref q7, .int (F 19), .ref q8, .int (F 21), .int (F 22), .int (F 23), .int (F 24), .ref q9, .ref q10, .ref q11, .long (J 28)])), (q1, .inl (g.2 0, 376, .inl al)), (q7, .inl (g.2 0, 200, .inl he)), (q8, .inl (g.2 0, 65, .inl ma))]) [0, 1, 2, 3] (by decide) rfl
  exact W.lret (v := x4) hx hb hr (fun t ht hW => ⟨⟨_, (F, he, ma), rfl, hv, by rw [ht]; exact hP9, hD9⟩, hS.F ht⟩) hS.2.2 dX9_metres_85
def vX9_metres_c17 (J : Nat → Int64) (al : Nat → Int32) (p1 : Int32) (p2 : Int64) (Q : Int64 → (Nat → Int32) → (Nat → Int32) → (Nat → Int32) → Prop) (F : Nat → Int32) (he : Nat → Int32) (ma : Nat → Int32) : Prop := (preX9_isLeg p1 ∧ (∀ r_18 : Int32, postX9_isLeg p1 r_18 → ((r_18 = 0 → (Q (-9223372036854775808 : Int64) F he ma)) ∧ (¬ r_18 = 0 → ((¬ (F 21) = (-1 : Int32) → (((F 21) = 0 → (vX9_metres_c65 J al p1 p2 Q (((F 21).toInt64) * p2) F he ma)) ∧ (¬ (F 21) = 0 → (¬ ((F 21).toInt64) = 0 ∧ ((¬ (lg_cmp ((((F 21).toInt64) * p2) / ((F 21).toInt64)) p2) = 0 → (Q (-9223372036854775808 : Int64) F he ma)) ∧ ((lg_cmp ((((F 21).toInt64) * p2) / ((F 21).toInt64)) p2) = 0 → (vX9_metres_c65 J al p1 p2 Q (((F 21).toInt64) * p2) F he ma))))))) ∧ ((F 21) = (-1 : Int32) → (Q (-9223372036854775808 : Int64) F he ma)))))))
set_option maxHeartbeats 4000000 in
set_option maxRecDepth 100000 in
theorem kX9_metres_c17 {p : Program} {l : Launch} {e : Env} {s : State} {m : MethodId} {args : Array Value} {below : List Frame} {meth : Method} {c : Code} {g : GP} {qM : Nat} {q1 : Nat} {q2 : Nat} {q3 : Nat} {q4 : Nat} {q5 : Nat} {q6 : Nat} {q7 : Nat} {q8 : Nat} {q9 : Nat} {q10 : Nat} {q11 : Nat} {J : Nat → Int64} {al : Nat → Int32} {p1 : Int32} {p2 : Int64} {Q : Int64 → (Nat → Int32) → (Nat → Int32) → (Nat → Int32) → Prop} {A : Nat → Prop} (S : CallFix p m c cX9_metres 7 s args wsX9_metres RX9) (hr : meth.sig.returnType = (some .long)) (hlocks : meth.locks = false) (hG : GK g s) (hA : ∀ q : Nat, s.heap.size ≤ q → A q) : ∀ (F : Nat → Int32) (he : Nat → Int32) (ma : Nat → Int32), vX9_metres_c17 J al p1 p2 Q F he ma → ∀ (H : Heap) (locs : List Loc), va_P g.1 vwCl [(qM, .inr (9, [.int (F 0), .ref q1, .ref q2, .ref q3, .int (F 4), .int (F 5), .int (F 6), .int (F 7), .int (F 8), .int (F 9), .long (J 10), .int (F 11), .int (F 12), .int (F 13), .ref q4, .int (F 15), .ref q5, .ref q6, .ref q7, .int (F 19), .ref q8, .int (F 21), .int (F 22), .int (F 23), .int (F 24), .ref q9, .ref q10, .ref q11, .long (J 28)])), (q1, .inl (g.2 0, 376, .inl al)), (q7, .inl (g.2 0, 200, .inl he)), (q8, .inl (g.2 0, 65, .inl ma))] H → va_D A [(qM, .inr (9, [.int (F 0), .ref q1, .ref q2, .ref q3, .int (F 4), .int (F 5), .int (F 6), .int (F 7), .int (F 8), .int (F 9), .long (J 10), .int (F 11), .int (F 12), .int (F 13), .ref q4, .int (F 15), .ref q5, .ref q6, .ref q7, .int (F 19), .ref q8, .int (F 21), .int (F 22), .int (F 23), .int (F 24), .ref q9, .ref q10, .ref q11, .long (J 28)])), (q1, .inl (g.2 0, 376, .inl al)), (q7, .inl (g.2 0, 200, .inl he)), (q8, .inl (g.2 0, 65, .inl ma))] → va_S A s.heap H locs → ∀ (ls : Array Slot), lv_has ls 7 [(0, .ref qM), (1, .int p1), (2, .long p2)] → W p l e (headSpec wsX9_metres rmX9_metres).room s m args below meth c H locs 0 0 (MQ below (va_Ql (fun (r : Int64) (u : (Nat → Int32) × (Nat → Int32) × (Nat → Int32)) => Q r u.1 u.2.1 u.2.2) (fun (u : (Nat → Int32) × (Nat → Int32) × (Nat → Int32)) t => va_P g.1 vwCl [(qM, .inr (9, [.int (u.1 0), .ref q1, .ref q2, .ref q3, .int (u.1 4), .int (u.1 5), .int (u.1 6), .int (u.1 7), .int (u.1 8), .int (u.1 9), .long (J 10), .int (u.1 11), .int (u.1 12), .int (u.1 13), .ref q4, .int (u.1 15), .ref q5, .ref q6, .ref q7, .int (u.1 19), .ref q8, .int (u.1 21), .int (u.1 22), .int (u.1 23), .int (u.1 24), .ref q9, .ref q10, .ref q11, .long (J 28)])), (q1, .inl (g.2 0, 376, .inl al)), (q7, .inl (g.2 0, 200, .inl u.2.1)), (q8, .inl (g.2 0, 65, .inl u.2.2))] t.heap ∧ va_D A [(qM, .inr (9, [.int (u.1 0), .ref q1, .ref q2, .ref q3, .int (u.1 4), .int (u.1 5), .int (u.1 6), .int (u.1 7), .int (u.1 8), .int (u.1 9), .long (J 10), .int (u.1 11), .int (u.1 12), .int (u.1 13), .ref q4, .int (u.1 15), .ref q5, .ref q6, .ref q7, .int (u.1 19), .ref q8, .int (u.1 21), .int (u.1 22), .int (u.1 23), .int (u.1 24), .ref q9, .ref q10, .ref q11, .long (J 28)])), (q1, .inl (g.2 0, 376, .inl al)), (q7, .inl (g.2 0, 200, .inl u.2.1)), (q8, .inl (g.2 0, 65, .inl u.2.2))]) A) args s 0 0 A) (F0 m 17 ls []) := by
  obtain ⟨hx, hb, hml, hown, hts⟩ := id S
  have hK := hG.1
  intro F he ma hv H locs hP hD hS ls hl
  unfold vX9_metres_c17 at hv
  refine lv_iload_n hx hb dX9_metres_17 rfl (lv_at hl 1 rfl) ?_
  obtain ⟨ho_1, hv⟩ := hv
  refine vp_callSi (W.runS (As := [.int p1]) (rest := []) S (wX9_isLeg l g p1 (sX9_isLeg p1 ho_1)) (va_cwS 1 hts gX9_metres_X9_isLeg rfl rfl rfl (by decide +kernel) ⟨Nat.le_of_ble_eq_true rfl, Nat.le_of_ble_eq_true rfl⟩) ⟨blindRO, fun U hU hW => ⟨rfl, by rw [hU]; exact hP.sub (ws' := []) [] rfl, hG.warm hW⟩⟩ rfl rfl hl.1 rfl (lv_room (Nat.le_of_ble_eq_true rfl)) dX9_metres_18 ⟨Nat.le_of_ble_eq_true rfl, Nat.le_of_ble_eq_true rfl⟩) (fun r_18 hr_18 => ?_)
  have hv := hv r_18 hr_18
  obtain ⟨hvt, hvf⟩ := hv
  refine lv_if_eq (tgt := 32) hx hb dX9_metres_21 (by decide) (fun hc => ?_) (fun hc => ?_)
  · have hv := hvt hc
    refine lv_ldc2 (v := (-9223372036854775808 : Int64)) hx hb hown (hts (.constantLong RX9 328 (-9223372036854775808)) (List.mem_of_getElem? (i := 3) rfl)) dX9_metres_32 ?_
    have hP9 := hP.sub (ws' := [(qM, .inr (9, [.int (F 0), .ref q1, .ref q2, .ref q3, .int (F 4), .int (F 5), .int (F 6), .int (F 7), .int (F 8), .int (F 9), .long (J 10), .int (F 11), .int (F 12), .int (F 13), .ref q4, .int (F 15), .ref q5, .ref q6, .ref q7, .int (F 19), .ref q8, .int (F 21), .int (F 22), .int (F 23), .int (F 24), .ref q9, .ref q10, .ref q11, .long (J 28)])), (q1, .inl (g.2 0, 376, .inl al)), (q7, .inl (g.2 0, 200, .inl he)), (q8, .inl (g.2 0, 65, .inl ma))]) [0, 1, 2, 3] rfl
    have hD9 := hD.sub (ws' := [(qM, .inr (9, [.int (F 0), .ref q1, .ref q2, .ref q3, .int (F 4), .int (F 5), .int (F 6), .int (F 7), .int (F 8), .int (F 9), .long (J 10), .int (F 11), .int (F 12), .int (F 13), .ref q4, .int (F 15), .ref q5, .ref q6, .ref q7, .int (F 19), .ref q8, .int (F 21), .int (F 22), .int (F 23), .int (F 24), .ref q9, .ref q10, .ref q11, .long (J 28)])), (q1, .inl (g.2 0, 376, .inl al)), (q7, .inl (g.2 0, 200, .inl he)), (q8, .inl (g.2 0, 65, .inl ma))]) [0, 1, 2, 3] (by decide) rfl
    exact W.lret (v := (-9223372036854775808 : Int64)) hx hb hr (fun t ht hW => ⟨⟨_, (F, he, ma), rfl, hv, by rw [ht]; exact hP9, hD9⟩, hS.F ht⟩) hS.2.2 dX9_metres_35
  · have hv := hvf hc
    refine lv_aload_n hx hb dX9_metres_24 rfl (lv_at hl 0 rfl) ?_
    refine va_get (D := g.1) (ci := 9) (v := .int (F 21)) (C := RX9) (T := TX9) (N := 29) hx hb hts inX9_metres_9 hown hK hP 0 rfl rfl 21 (by decide) (hts (.fieldLink RX9 266 "RangeCodesModel" "distance" "I") (List.mem_of_getElem? (i := 2) rfl)) (fun _ h9 => h9) rfl dX9_metres_25 ?_
    refine lv_iconst (v := (-1 : Int32)) hx hb dX9_metres_28 (by decide) ?_
    obtain ⟨hvt, hvf⟩ := hv
    refine lv_icmp_ne (tgt := 36) hx hb dX9_metres_29 (by decide) (fun hc => ?_) (fun hc => ?_)
    · have hv := hvt hc
      refine lv_aload_n hx hb dX9_metres_36 rfl (lv_at hl 0 rfl) ?_
      refine va_get (D := g.1) (ci := 9) (v := .int (F 21)) (C := RX9) (T := TX9) (N := 29) hx hb hts inX9_metres_9 hown hK hP 0 rfl rfl 21 (by decide) (hts (.fieldLink RX9 266 "RangeCodesModel" "distance" "I") (List.mem_of_getElem? (i := 2) rfl)) (fun _ h9 => h9) rfl dX9_metres_37 ?_
      refine lv_i2l (v := ((F 21).toInt64)) hx hb dX9_metres_40 rfl ?_
      refine lv_lload_n hx hb dX9_metres_41 rfl (lv_at hl 2 rfl) ?_
      refine lv_lmul hx hb dX9_metres_42 ?_
      refine lv_lstore (lv' := [(4, .long (((F 21).toInt64) * p2)), (0, .ref qM), (1, .int p1), (2, .long p2)]) hx hb dX9_metres_43 hl (by decide) rfl (fun ls hl => ?_)
      refine lv_aload_n hx hb dX9_metres_45 rfl (lv_at hl 1 rfl) ?_
      refine va_get (D := g.1) (ci := 9) (v := .int (F 21)) (C := RX9) (T := TX9) (N := 29) hx hb hts inX9_metres_9 hown hK hP 0 rfl rfl 21 (by decide) (hts (.fieldLink RX9 266 "RangeCodesModel" "distance" "I") (List.mem_of_getElem? (i := 2) rfl)) (fun _ h9 => h9) rfl dX9_metres_46 ?_
      obtain ⟨hvt, hvf⟩ := hv
      refine lv_if_eq (tgt := 65) hx hb dX9_metres_49 (by decide) (fun hc => ?_) (fun hc => ?_)
      · have hv := hvt hc
        exact kX9_metres_c65 S hr hlocks hG hA _ _ _ _ hv _ _ (hP.sub (ws' := [(qM, .inr (9, [.int (F 0), .ref q1, .ref q2, .ref q3, .int (F 4), .int (F 5), .int (F 6), .int (F 7), .int (F 8), .int (F 9), .long (J 10), .int (F 11), .int (F 12), .int (F 13), .ref q4, .int (F 15), .ref q5, .ref q6, .ref q7, .int (F 19), .ref q8, .int (F 21), .int (F 22), .int (F 23), .int (F 24), .ref q9, .ref q10, .ref q11, .long (J 28)])), (q1, .inl (g.2 0, 376, .inl al)), (q7, .inl (g.2 0, 200, .inl he)), (q8, .inl (g.2 0, 65, .inl ma))]) [0, 1, 2, 3] rfl) (hD.sub (ws' := [(qM, .inr (9, [.int (F 0), .ref q1, .ref q2, .ref q3, .int (F 4), .int (F 5), .int (F 6), .int (F 7), .int (F 8), .int (F 9), .long (J 10), .int (F 11), .int (F 12), .int (F 13), .ref q4, .int (F 15), .ref q5, .ref q6, .ref q7, .int (F 19), .ref q8, .int (F 21), .int (F 22), .int (F 23), .int (F 24), .ref q9, .ref q10, .ref q11, .long (J 28)])), (q1, .inl (g.2 0, 376, .inl al)), (q7, .inl (g.2 0, 200, .inl he)), (q8, .inl (g.2 0, 65, .inl ma))]) [0, 1, 2, 3] (by decide) rfl) hS ls (lv_sub hl [0] rfl)
      · have hv := hvf hc
        refine lv_lload hx hb dX9_metres_52 (lv_at hl 0 rfl) ?_
        refine lv_aload_n hx hb dX9_metres_54 rfl (lv_at hl 1 rfl) ?_
        refine va_get (D := g.1) (ci := 9) (v := .int (F 21)) (C := RX9) (T := TX9) (N := 29) hx hb hts inX9_metres_9 hown hK hP 0 rfl rfl 21 (by decide) (hts (.fieldLink RX9 266 "RangeCodesModel" "distance" "I") (List.mem_of_getElem? (i := 2) rfl)) (fun _ h9 => h9) rfl dX9_metres_55 ?_
        refine lv_i2l (v := ((F 21).toInt64)) hx hb dX9_metres_58 rfl ?_
        obtain ⟨ho_2, hv⟩ := hv
        refine lv_ldiv hx hb dX9_metres_59 ho_2 ?_
        refine lv_lload_n hx hb dX9_metres_60 rfl (lv_at hl 3 rfl) ?_
        refine W.lcmp hx hb dX9_metres_61 ?_
        obtain ⟨hvt, hvf⟩ := hv
        refine lv_if_ne (tgt := 69) hx hb dX9_metres_62 (by decide) (fun hc => ?_) (fun hc => ?_)
        · have hv := hvt hc
          refine lv_iconst (v := (0 : Int32)) hx hb dX9_metres_69 (by decide) ?_
          refine lv_istore (lv' := [(6, .int (0 : Int32)), (4, .long (((F 21).toInt64) * p2)), (0, .ref qM), (1, .int p1), (2, .long p2)]) hx hb dX9_metres_70 hl (by decide) rfl (fun ls hl => ?_)
          refine lv_iload hx hb dX9_metres_72 (lv_at hl 0 rfl) ?_
          refine lv_if_eq (tgt := 82) hx hb dX9_metres_74 (by decide) (fun _ => ?_) (fun hc => absurd hc (by decide))
          refine lv_ldc2 (v := (-9223372036854775808 : Int64)) hx hb hown (hts (.constantLong RX9 328 (-9223372036854775808)) (List.mem_of_getElem? (i := 3) rfl)) dX9_metres_82 ?_
          have hP9 := hP.sub (ws' := [(qM, .inr (9, [.int (F 0), .ref q1, .ref q2, .ref q3, .int (F 4), .int (F 5), .int (F 6), .int (F 7), .int (F 8), .int (F 9), .long (J 10), .int (F 11), .int (F 12), .int (F 13), .ref q4, .int (F 15), .ref q5, .ref q6, .ref q7, .int (F 19), .ref q8, .int (F 21), .int (F 22), .int (F 23), .int (F 24), .ref q9, .ref q10, .ref q11, .long (J 28)])), (q1, .inl (g.2 0, 376, .inl al)), (q7, .inl (g.2 0, 200, .inl he)), (q8, .inl (g.2 0, 65, .inl ma))]) [0, 1, 2, 3] rfl
          have hD9 := hD.sub (ws' := [(qM, .inr (9, [.int (F 0), .ref q1, .ref q2, .ref q3, .int (F 4), .int (F 5), .int (F 6), .int (F 7), .int (F 8), .int (F 9), .long (J 10), .int (F 11), .int (F 12), .int (F 13), .ref q4, .int (F 15), .ref q5, .ref q6, .ref q7, .int (F 19), .ref q8, .int (F 21), .int (F 22), .int (F 23), .int (F 24), .ref q9, .ref q10, .ref q11, .long (J 28)])), (q1, .inl (g.2 0, 376, .inl al)), (q7, .inl (g.2 0, 200, .inl he)), (q8, .inl (g.2 0, 65, .inl ma))]) [0, 1, 2, 3] (by decide) rfl
          exact W.lret (v := (-9223372036854775808 : Int64)) hx hb hr (fun t ht hW => ⟨⟨_, (F, he, ma), rfl, hv, by rw [ht]; exact hP9, hD9⟩, hS.F ht⟩) hS.2.2 dX9_metres_85
        · have hv := hvf hc
          exact kX9_metres_c65 S hr hlocks hG hA _ _ _ _ hv _ _ (hP.sub (ws' := [(qM, .inr (9, [.int (F 0), .ref q1, .ref q2, .ref q3, .int (F 4), .int (F 5), .int (F 6), .int (F 7), .int (F 8), .int (F 9), .long (J 10), .int (F 11), .int (F 12), .int (F 13), .ref q4, .int (F 15), .ref q5, .ref q6, .ref q7, .int (F 19), .ref q8, .int (F 21), .int (F 22), .int (F 23), .int (F 24), .ref q9, .ref q10, .ref q11, .long (J 28)])), (q1, .inl (g.2 0, 376, .inl al)), (q7, .inl (g.2 0, 200, .inl he)), (q8, .inl (g.2 0, 65, .inl ma))]) [0, 1, 2, 3] rfl) (hD.sub (ws' := [(qM, .inr (9, [.int (F 0), .ref q1, .ref q2, .ref q3, .int (F 4), .int (F 5), .int (F 6), .int (F 7), .int (F 8), .int (F 9), .long (J 10), .int (F 11), .int (F 12), .int (F 13), .ref q4, .int (F 15), .ref q5, .ref q6, .ref q7, .int (F 19), .ref q8, .int (F 21), .int (F 22), .int (F 23), .int (F 24), .ref q9, .ref q10, .ref q11, .long (J 28)])), (q1, .inl (g.2 0, 376, .inl al)), (q7, .inl (g.2 0, 200, .inl he)), (q8, .inl (g.2 0, 65, .inl ma))]) [0, 1, 2, 3] (by decide) rfl) hS ls (lv_sub hl [0] rfl)
    · have hv := hvf hc
      refine lv_ldc2 (v := (-9223372036854775808 : Int64)) hx hb hown (hts (.constantLong RX9 328 (-9223372036854775808)) (List.mem_of_getElem? (i := 3) rfl)) dX9_metres_32 ?_
      have hP9 := hP.sub (ws' := [(qM, .inr (9, [.int (F 0), .ref q1, .ref q2, .ref q3, .int (F 4), .int (F 5), .int (F 6), .int (F 7), .int (F 8), .int (F 9), .long (J 10), .int (F 11), .int (F 12), .int (F 13), .ref q4, .int (F 15), .ref q5, .ref q6, .ref q7, .int (F 19), .ref q8, .int (F 21), .int (F 22), .int (F 23), .int (F 24), .ref q9, .ref q10, .ref q11, .long (J 28)])), (q1, .inl (g.2 0, 376, .inl al)), (q7, .inl (g.2 0, 200, .inl he)), (q8, .inl (g.2 0, 65, .inl ma))]) [0, 1, 2, 3] rfl
      have hD9 := hD.sub (ws' := [(qM, .inr (9, [.int (F 0), .ref q1, .ref q2, .ref q3, .int (F 4), .int (F 5), .int (F 6), .int (F 7), .int (F 8), .int (F 9), .long (J 10), .int (F 11), .int (F 12), .int (F 13), .ref q4, .int (F 15), .ref q5, .ref q6, .ref q7, .int (F 19), .ref q8, .int (F 21), .int (F 22), .int (F 23), .int (F 24), .ref q9, .ref q10, .ref q11, .long (J 28)])), (q1, .inl (g.2 0, 376, .inl al)), (q7, .inl (g.2 0, 200, .inl he)), (q8, .inl (g.2 0, 65, .inl ma))]) [0, 1, 2, 3] (by decide) rfl
      exact W.lret (v := (-9223372036854775808 : Int64)) hx hb hr (fun t ht hW => ⟨⟨_, (F, he, ma), rfl, hv, by rw [ht]; exact hP9, hD9⟩, hS.F ht⟩) hS.2.2 dX9_metres_35
def vX9_metres (F : Nat → Int32) (J : Nat → Int64) (al : Nat → Int32) (he : Nat → Int32) (ma : Nat → Int32) (p1 : Int32) (p2 : Int64) (Q : Int64 → (Nat → Int32) → (Nat → Int32) → (Nat → Int32) → Prop) : Prop := (preX9_isLeg p1 ∧ (∀ r_6 : Int32, postX9_isLeg p1 r_6 → ((r_6 = 0 → (vX9_metres_c17 J al p1 p2 Q (upd F 0 (0 : Int32)) he ma)) ∧ (¬ r_6 = 0 → (∃ (T_14 : Cd) (G0_14 : Lg) (G1_14 : Lg) (lg_14 : Nat) (lim_14 : Nat), preX9_laysLeg T_14 G0_14 G1_14 lg_14 lim_14 (upd F 0 (0 : Int32)) J al he ma p1 ∧ (∀ (F_14 : Nat → Int32) (he_14 : Nat → Int32) (ma_14 : Nat → Int32), postX9_laysLeg T_14 G0_14 G1_14 lg_14 lim_14 (upd F 0 (0 : Int32)) J al he ma p1 F_14 he_14 ma_14 → (vX9_metres_c17 J al p1 p2 Q F_14 he_14 ma_14)))))))
set_option maxHeartbeats 4000000 in
set_option maxRecDepth 100000 in
theorem wX9_metres (l : Launch) (g : GP) (qM : Nat) (q1 : Nat) (q2 : Nat) (q3 : Nat) (q4 : Nat) (q5 : Nat) (q6 : Nat) (q7 : Nat) (q8 : Nat) (q9 : Nat) (q10 : Nat) (q11 : Nat) (sz : Nat) (F : Nat → Int32) (J : Nat → Int64) (al : Nat → Int32) (he : Nat → Int32) (ma : Nat → Int32) (p1 : Int32) (p2 : Int64) {Q : Int64 → (Nat → Int32) → (Nat → Int32) → (Nat → Int32) → Prop} (hv : vX9_metres F J al he ma p1 p2 Q) : Met l yX9_metres wsX9_metres rmX9_metres (va_Pc [.ref qM, .int p1, .long p2] (fun U => U.heap.size = sz ∧ va_P g.1 vwCl [(qM, .inr (9, [.int (F 0), .ref q1, .ref q2, .ref q3, .int (F 4), .int (F 5), .int (F 6), .int (F 7), .int (F 8), .int (F 9), .long (J 10), .int (F 11), .int (F 12), .int (F 13), .ref q4, .int (F 15), .ref q5, .ref q6, .ref q7, .int (F 19), .ref q8, .int (F 21), .int (F 22), .int (F 23), .int (F 24), .ref q9, .ref q10, .ref q11, .long (J 28)])), (q1, .inl (g.2 0, 376, .inl al)), (q7, .inl (g.2 0, 200, .inl he)), (q8, .inl (g.2 0, 65, .inl ma))] U.heap ∧ GK g U ∧ va_D (fun _ => True) [(qM, .inr (9, [.int (F 0), .ref q1, .ref q2, .ref q3, .int (F 4), .int (F 5), .int (F 6), .int (F 7), .int (F 8), .int (F 9), .long (J 10), .int (F 11), .int (F 12), .int (F 13), .ref q4, .int (F 15), .ref q5, .ref q6, .ref q7, .int (F 19), .ref q8, .int (F 21), .int (F 22), .int (F 23), .int (F 24), .ref q9, .ref q10, .ref q11, .long (J 28)])), (q1, .inl (g.2 0, 376, .inl al)), (q7, .inl (g.2 0, 200, .inl he)), (q8, .inl (g.2 0, 65, .inl ma))])) (va_Ql (fun (r : Int64) (u : (Nat → Int32) × (Nat → Int32) × (Nat → Int32)) => Q r u.1 u.2.1 u.2.2) (fun (u : (Nat → Int32) × (Nat → Int32) × (Nat → Int32)) t => va_P g.1 vwCl [(qM, .inr (9, [.int (u.1 0), .ref q1, .ref q2, .ref q3, .int (u.1 4), .int (u.1 5), .int (u.1 6), .int (u.1 7), .int (u.1 8), .int (u.1 9), .long (J 10), .int (u.1 11), .int (u.1 12), .int (u.1 13), .ref q4, .int (u.1 15), .ref q5, .ref q6, .ref q7, .int (u.1 19), .ref q8, .int (u.1 21), .int (u.1 22), .int (u.1 23), .int (u.1 24), .ref q9, .ref q10, .ref q11, .long (J 28)])), (q1, .inl (g.2 0, 376, .inl al)), (q7, .inl (g.2 0, 200, .inl u.2.1)), (q8, .inl (g.2 0, 65, .inl u.2.2))] t.heap ∧ va_D (va_A [(qM, .inr (9, [.int (F 0), .ref q1, .ref q2, .ref q3, .int (F 4), .int (F 5), .int (F 6), .int (F 7), .int (F 8), .int (F 9), .long (J 10), .int (F 11), .int (F 12), .int (F 13), .ref q4, .int (F 15), .ref q5, .ref q6, .ref q7, .int (F 19), .ref q8, .int (F 21), .int (F 22), .int (F 23), .int (F 24), .ref q9, .ref q10, .ref q11, .long (J 28)])), (q1, .inl (g.2 0, 376, .inl al)), (q7, .inl (g.2 0, 200, .inl he)), (q8, .inl (g.2 0, 65, .inl ma))] sz) [(qM, .inr (9, [.int (u.1 0), .ref q1, .ref q2, .ref q3, .int (u.1 4), .int (u.1 5), .int (u.1 6), .int (u.1 7), .int (u.1 8), .int (u.1 9), .long (J 10), .int (u.1 11), .int (u.1 12), .int (u.1 13), .ref q4, .int (u.1 15), .ref q5, .ref q6, .ref q7, .int (u.1 19), .ref q8, .int (u.1 21), .int (u.1 22), .int (u.1 23), .int (u.1 24), .ref q9, .ref q10, .ref q11, .long (J 28)])), (q1, .inl (g.2 0, 376, .inl al)), (q7, .inl (g.2 0, 200, .inl u.2.1)), (q8, .inl (g.2 0, 65, .inl u.2.2))]) (va_A [(qM, .inr (9, [.int (F 0), .ref q1, .ref q2, .ref q3, .int (F 4), .int (F 5), .int (F 6), .int (F 7), .int (F 8), .int (F 9), .long (J 10), .int (F 11), .int (F 12), .int (F 13), .ref q4, .int (F 15), .ref q5, .ref q6, .ref q7, .int (F 19), .ref q8, .int (F 21), .int (F 22), .int (F 23), .int (F 24), .ref q9, .ref q10, .ref q11, .long (J 28)])), (q1, .inl (g.2 0, 376, .inl al)), (q7, .inl (g.2 0, 200, .inl he)), (q8, .inl (g.2 0, 65, .inl ma))] sz)) 0 0 (va_A [(qM, .inr (9, [.int (F 0), .ref q1, .ref q2, .ref q3, .int (F 4), .int (F 5), .int (F 6), .int (F 7), .int (F 8), .int (F 9), .long (J 10), .int (F 11), .int (F 12), .int (F 13), .ref q4, .int (F 15), .ref q5, .ref q6, .ref q7, .int (F 19), .ref q8, .int (F 21), .int (F 22), .int (F 23), .int (F 24), .ref q9, .ref q10, .ref q11, .long (J 28)])), (q1, .inl (g.2 0, 376, .inl al)), (q7, .inl (g.2 0, 200, .inl he)), (q8, .inl (g.2 0, 65, .inl ma))] sz) := by
  refine Met.ofW (cc := cX9_metres) (maxL := 7) (ret := (some .long)) (by decide) rfl ?_
  intro p e s m args below meth c s₁ B hml hv'
  obtain ⟨rfl, hsz, hP, hG, hD0⟩ := hv'
  have S : CallFix p m c cX9_metres 7 s _ wsX9_metres RX9 := ⟨B.exec, B.bytes, hml, findClass_of_methodNamed B.named, atoms_spec (ws := wsX9_metres) B.pre⟩
  obtain ⟨hx, hb, hml, hown, hts⟩ := id S
  have hK := hG.1
  have hr := B.returns
  have hlocks := B.notSynchronized
  subst hsz
  have hD := hD0.self (sz := s.heap.size)
  generalize hAe : va_A [(qM, .inr (9, [.int (F 0), .ref q1, .ref q2, .ref q3, .int (F 4), .int (F 5), .int (F 6), .int (F 7), .int (F 8), .int (F 9), .long (J 10), .int (F 11), .int (F 12), .int (F 13), .ref q4, .int (F 15), .ref q5, .ref q6, .ref q7, .int (F 19), .ref q8, .int (F 21), .int (F 22), .int (F 23), .int (F 24), .ref q9, .ref q10, .ref q11, .long (J 28)])), (q1, .inl (g.2 0, 376, .inl al)), (q7, .inl (g.2 0, 200, .inl he)), (q8, .inl (g.2 0, 65, .inl ma))] s.heap.size = A at hD ⊢
  have hA : ∀ q : Nat, s.heap.size ≤ q → A q := fun q h => by rw [← hAe]; exact Or.inr h
  have hS : va_S A s.heap s.heap [] := va_S.rf
  clear hD0 hAe
  have hl := lv_entry ([.ref qM, .int p1, .long p2]) (n := 7) (Nat.le_of_ble_eq_true rfl)
  rw [lg_entry_eq]
  generalize (lg_sl ([.ref qM, .int p1, .long p2]) ++ List.replicate (7 - (lg_sl ([.ref qM, .int p1, .long p2])).length) Slot.unset).toArray = ls at hl ⊢
  have hl : lv_has ls 7 [(0, .ref qM), (1, .int p1), (2, .long p2)] := hl
  unfold vX9_metres at hv
  refine lv_aload_n hx hb dX9_metres_0 rfl (lv_at hl 0 rfl) ?_
  refine lv_iconst (v := (0 : Int32)) hx hb dX9_metres_1 (by decide) ?_
  refine va_put (D := g.1) (ci := 9) (v := .int (0 : Int32)) (ty := .int) (C := RX9) (T := TX9) (N := 29) hx hb hts inX9_metres_9 tyX9 tyX9_ok nmX9 hown hK hP hD hS 0 rfl rfl 0 (by decide) (hts (.fieldLink RX9 51 "RangeCodesModel" "raised" "I") (List.mem_of_getElem? (i := 1) rfl)) (fun _ h9 => h9) rfl (by decide +kernel) rfl rfl (Nat.le_of_ble_eq_true rfl) dX9_metres_2 (fun H locs hP hD hS => ?_)
  have hP : va_P g.1 vwCl [(qM, .inr (9, [.int (0 : Int32), .ref q1, .ref q2, .ref q3, .int (F 4), .int (F 5), .int (F 6), .int (F 7), .int (F 8), .int (F 9), .long (J 10), .int (F 11), .int (F 12), .int (F 13), .ref q4, .int (F 15), .ref q5, .ref q6, .ref q7, .int (F 19), .ref q8, .int (F 21), .int (F 22), .int (F 23), .int (F 24), .ref q9, .ref q10, .ref q11, .long (J 28)])), (q1, .inl (g.2 0, 376, .inl al)), (q7, .inl (g.2 0, 200, .inl he)), (q8, .inl (g.2 0, 65, .inl ma))] H := hP
  have hD : va_D A [(qM, .inr (9, [.int (0 : Int32), .ref q1, .ref q2, .ref q3, .int (F 4), .int (F 5), .int (F 6), .int (F 7), .int (F 8), .int (F 9), .long (J 10), .int (F 11), .int (F 12), .int (F 13), .ref q4, .int (F 15), .ref q5, .ref q6, .ref q7, .int (F 19), .ref q8, .int (F 21), .int (F 22), .int (F 23), .int (F 24), .ref q9, .ref q10, .ref q11, .long (J 28)])), (q1, .inl (g.2 0, 376, .inl al)), (q7, .inl (g.2 0, 200, .inl he)), (q8, .inl (g.2 0, 65, .inl ma))] := hD
  refine lv_iload_n hx hb dX9_metres_5 rfl (lv_at hl 1 rfl) ?_
  obtain ⟨ho_1, hv⟩ := hv
  refine vp_callSi (W.runS (As := [.int p1]) (rest := []) S (wX9_isLeg l g p1 (sX9_isLeg p1 ho_1)) (va_cwS 1 hts gX9_metres_X9_isLeg rfl rfl rfl (by decide +kernel) ⟨Nat.le_of_ble_eq_true rfl, Nat.le_of_ble_eq_true rfl⟩) ⟨blindRO, fun U hU hW => ⟨rfl, by rw [hU]; exact hP.sub (ws' := []) [] rfl, hG.warm hW⟩⟩ rfl rfl hl.1 rfl (lv_room (Nat.le_of_ble_eq_true rfl)) dX9_metres_6 ⟨Nat.le_of_ble_eq_true rfl, Nat.le_of_ble_eq_true rfl⟩) (fun r_6 hr_6 => ?_)
  have hv := hv r_6 hr_6
  obtain ⟨hvt, hvf⟩ := hv
  refine lv_if_eq (tgt := 17) hx hb dX9_metres_9 (by decide) (fun hc => ?_) (fun hc => ?_)
  · have hv := hvt hc
    exact kX9_metres_c17 S hr hlocks hG hA _ _ _ hv _ _ (hP.sub (ws' := [(qM, .inr (9, [.int ((upd F 0 (0 : Int32)) 0), .ref q1, .ref q2, .ref q3, .int ((upd F 0 (0 : Int32)) 4), .int ((upd F 0 (0 : Int32)) 5), .int ((upd F 0 (0 : Int32)) 6), .int ((upd F 0 (0 : Int32)) 7), .int ((upd F 0 (0 : Int32)) 8), .int ((upd F 0 (0 : Int32)) 9), .long (J 10), .int ((upd F 0 (0 : Int32)) 11), .int ((upd F 0 (0 : Int32)) 12), .int ((upd F 0 (0 : Int32)) 13), .ref q4, .int ((upd F 0 (0 : Int32)) 15), .ref q5, .ref q6, .ref q7, .int ((upd F 0 (0 : Int32)) 19), .ref q8, .int ((upd F 0 (0 : Int32)) 21), .int ((upd F 0 (0 : Int32)) 22), .int ((upd F 0 (0 : Int32)) 23), .int ((upd F 0 (0 : Int32)) 24), .ref q9, .ref q10, .ref q11, .long (J 28)])), (q1, .inl (g.2 0, 376, .inl al)), (q7, .inl (g.2 0, 200, .inl he)), (q8, .inl (g.2 0, 65, .inl ma))]) [0, 1, 2, 3] rfl) (hD.sub (ws' := [(qM, .inr (9, [.int ((upd F 0 (0 : Int32)) 0), .ref q1, .ref q2, .ref q3, .int ((upd F 0 (0 : Int32)) 4), .int ((upd F 0 (0 : Int32)) 5), .int ((upd F 0 (0 : Int32)) 6), .int ((upd F 0 (0 : Int32)) 7), .int ((upd F 0 (0 : Int32)) 8), .int ((upd F 0 (0 : Int32)) 9), .long (J 10), .int ((upd F 0 (0 : Int32)) 11), .int ((upd F 0 (0 : Int32)) 12), .int ((upd F 0 (0 : Int32)) 13), .ref q4, .int ((upd F 0 (0 : Int32)) 15), .ref q5, .ref q6, .ref q7, .int ((upd F 0 (0 : Int32)) 19), .ref q8, .int ((upd F 0 (0 : Int32)) 21), .int ((upd F 0 (0 : Int32)) 22), .int ((upd F 0 (0 : Int32)) 23), .int ((upd F 0 (0 : Int32)) 24), .ref q9, .ref q10, .ref q11, .long (J 28)])), (q1, .inl (g.2 0, 376, .inl al)), (q7, .inl (g.2 0, 200, .inl he)), (q8, .inl (g.2 0, 65, .inl ma))]) [0, 1, 2, 3] (by decide) rfl) hS ls (lv_sub hl [0, 1, 2] rfl)
  · have hv := hvf hc
    refine lv_aload_n hx hb dX9_metres_12 rfl (lv_at hl 0 rfl) ?_
    refine lv_iload_n hx hb dX9_metres_13 rfl (lv_at hl 1 rfl) ?_
    obtain ⟨T_14, G0_14, G1_14, lg_14, lim_14, ho_2, hv⟩ := hv
    have hPc := hP.sub (ws' := [(qM, .inr (9, [.int ((upd F 0 (0 : Int32)) 0), .ref q1, .ref q2, .ref q3, .int ((upd F 0 (0 : Int32)) 4), .int ((upd F 0 (0 : Int32)) 5), .int ((upd F 0 (0 : Int32)) 6), .int ((upd F 0 (0 : Int32)) 7), .int ((upd F 0 (0 : Int32)) 8), .int ((upd F 0 (0 : Int32)) 9), .long (J 10), .int ((upd F 0 (0 : Int32)) 11), .int ((upd F 0 (0 : Int32)) 12), .int ((upd F 0 (0 : Int32)) 13), .ref q4, .int ((upd F 0 (0 : Int32)) 15), .ref q5, .ref q6, .ref q7, .int ((upd F 0 (0 : Int32)) 19), .ref q8, .int ((upd F 0 (0 : Int32)) 21), .int ((upd F 0 (0 : Int32)) 22), .int ((upd F 0 (0 : Int32)) 23), .int ((upd F 0 (0 : Int32)) 24), .ref q9, .ref q10, .ref q11, .long (J 28)])), (q1, .inl (g.2 0, 376, .inl al)), (q7, .inl (g.2 0, 200, .inl he)), (q8, .inl (g.2 0, 65, .inl ma))]) [0, 1, 2, 3] rfl
    have hDc := hD.sub (ws' := [(qM, .inr (9, [.int ((upd F 0 (0 : Int32)) 0), .ref q1, .ref q2, .ref q3, .int ((upd F 0 (0 : Int32)) 4), .int ((upd F 0 (0 : Int32)) 5), .int ((upd F 0 (0 : Int32)) 6), .int ((upd F 0 (0 : Int32)) 7), .int ((upd F 0 (0 : Int32)) 8), .int ((upd F 0 (0 : Int32)) 9), .long (J 10), .int ((upd F 0 (0 : Int32)) 11), .int ((upd F 0 (0 : Int32)) 12), .int ((upd F 0 (0 : Int32)) 13), .ref q4, .int ((upd F 0 (0 : Int32)) 15), .ref q5, .ref q6, .ref q7, .int ((upd F 0 (0 : Int32)) 19), .ref q8, .int ((upd F 0 (0 : Int32)) 21), .int ((upd F 0 (0 : Int32)) 22), .int ((upd F 0 (0 : Int32)) 23), .int ((upd F 0 (0 : Int32)) 24), .ref q9, .ref q10, .ref q11, .long (J 28)])), (q1, .inl (g.2 0, 376, .inl al)), (q7, .inl (g.2 0, 200, .inl he)), (q8, .inl (g.2 0, 65, .inl ma))]) [0, 1, 2, 3] (by decide) rfl
    have hFc := va_free (wc := [(qM, .inr (9, [.int ((upd F 0 (0 : Int32)) 0), .ref q1, .ref q2, .ref q3, .int ((upd F 0 (0 : Int32)) 4), .int ((upd F 0 (0 : Int32)) 5), .int ((upd F 0 (0 : Int32)) 6), .int ((upd F 0 (0 : Int32)) 7), .int ((upd F 0 (0 : Int32)) 8), .int ((upd F 0 (0 : Int32)) 9), .long (J 10), .int ((upd F 0 (0 : Int32)) 11), .int ((upd F 0 (0 : Int32)) 12), .int ((upd F 0 (0 : Int32)) 13), .ref q4, .int ((upd F 0 (0 : Int32)) 15), .ref q5, .ref q6, .ref q7, .int ((upd F 0 (0 : Int32)) 19), .ref q8, .int ((upd F 0 (0 : Int32)) 21), .int ((upd F 0 (0 : Int32)) 22), .int ((upd F 0 (0 : Int32)) 23), .int ((upd F 0 (0 : Int32)) 24), .ref q9, .ref q10, .ref q11, .long (J 28)])), (q1, .inl (g.2 0, 376, .inl al)), (q7, .inl (g.2 0, 200, .inl he)), (q8, .inl (g.2 0, 65, .inl ma))]) hD hS hA [0, 1, 2, 3] rfl
    refine va_callv (va_runV (As := [.int p1]) (rest := []) S (wX9_laysLeg l g qM q1 q2 q3 q4 q5 q6 q7 q8 q9 q10 q11 H.size (upd F 0 (0 : Int32)) J al he ma p1 (sX9_laysLeg T_14 G0_14 G1_14 lg_14 lim_14 (upd F 0 (0 : Int32)) J al he ma p1 ho_2)) (cwV 1 hts gX9_metres_X9_laysLeg rfl rfl rfl (by decide +kernel) ⟨Nat.le_of_ble_eq_true rfl, Nat.le_of_ble_eq_true rfl⟩) ⟨blindRW, va_recv hK hP (ci := 9) (q0 := 0) rfl rfl, fun U hU hW => ⟨rfl, by rw [hU], by rw [hU]; exact hPc, hG.warm hW, hDc.weaken (fun _ _ _ _ => trivial)⟩⟩ rfl rfl hl.1 rfl (lv_room (Nat.le_of_ble_eq_true rfl)) dX9_metres_14 ⟨Nat.le_of_ble_eq_true rfl, Nat.le_of_ble_eq_true rfl⟩) hS (fun q _ h => hFc q h) hFc (fun u t H1 locs ht hvm hw hB hz1 hk1 hS => ?_)
    obtain ⟨F_14, he_14, ma_14⟩ := u
    obtain ⟨hP1, hD1⟩ := hB
    rw [ht] at hP1
    have hv := hv F_14 he_14 ma_14 hw
    obtain ⟨hP, hD⟩ := va_join (wr := []) (w1 := [(qM, .inr (9, [.int (F_14 0), .ref q1, .ref q2, .ref q3, .int (F_14 4), .int (F_14 5), .int (F_14 6), .int (F_14 7), .int (F_14 8), .int (F_14 9), .long (J 10), .int (F_14 11), .int (F_14 12), .int (F_14 13), .ref q4, .int (F_14 15), .ref q5, .ref q6, .ref q7, .int (F_14 19), .ref q8, .int (F_14 21), .int (F_14 22), .int (F_14 23), .int (F_14 24), .ref q9, .ref q10, .ref q11, .long (J 28)])), (q1, .inl (g.2 0, 376, .inl al)), (q7, .inl (g.2 0, 200, .inl he_14)), (q8, .inl (g.2 0, 65, .inl ma_14))]) hP hD [0, 1, 2, 3] [] rfl rfl (by decide) (by decide) hk1 hFc hP1 hD1
    clear hP1 hD1 hPc hDc hFc hk1
    generalize H1 = H at hP hS ⊢
    have hP : va_P g.1 vwCl [(qM, .inr (9, [.int (F_14 0), .ref q1, .ref q2, .ref q3, .int (F_14 4), .int (F_14 5), .int (F_14 6), .int (F_14 7), .int (F_14 8), .int (F_14 9), .long (J 10), .int (F_14 11), .int (F_14 12), .int (F_14 13), .ref q4, .int (F_14 15), .ref q5, .ref q6, .ref q7, .int (F_14 19), .ref q8, .int (F_14 21), .int (F_14 22), .int (F_14 23), .int (F_14 24), .ref q9, .ref q10, .ref q11, .long (J 28)])), (q1, .inl (g.2 0, 376, .inl al)), (q7, .inl (g.2 0, 200, .inl he_14)), (q8, .inl (g.2 0, 65, .inl ma_14))] H := hP
    have hD : va_D A [(qM, .inr (9, [.int (F_14 0), .ref q1, .ref q2, .ref q3, .int (F_14 4), .int (F_14 5), .int (F_14 6), .int (F_14 7), .int (F_14 8), .int (F_14 9), .long (J 10), .int (F_14 11), .int (F_14 12), .int (F_14 13), .ref q4, .int (F_14 15), .ref q5, .ref q6, .ref q7, .int (F_14 19), .ref q8, .int (F_14 21), .int (F_14 22), .int (F_14 23), .int (F_14 24), .ref q9, .ref q10, .ref q11, .long (J 28)])), (q1, .inl (g.2 0, 376, .inl al)), (q7, .inl (g.2 0, 200, .inl he_14)), (q8, .inl (g.2 0, 65, .inl ma_14))] := hD
    exact kX9_metres_c17 S hr hlocks hG hA _ _ _ hv _ _ (hP.sub (ws' := [(qM, .inr (9, [.int (F_14 0), .ref q1, .ref q2, .ref q3, .int (F_14 4), .int (F_14 5), .int (F_14 6), .int (F_14 7), .int (F_14 8), .int (F_14 9), .long (J 10), .int (F_14 11), .int (F_14 12), .int (F_14 13), .ref q4, .int (F_14 15), .ref q5, .ref q6, .ref q7, .int (F_14 19), .ref q8, .int (F_14 21), .int (F_14 22), .int (F_14 23), .int (F_14 24), .ref q9, .ref q10, .ref q11, .long (J 28)])), (q1, .inl (g.2 0, 376, .inl al)), (q7, .inl (g.2 0, 200, .inl he_14)), (q8, .inl (g.2 0, 65, .inl ma_14))]) [0, 1, 2, 3] rfl) (hD.sub (ws' := [(qM, .inr (9, [.int (F_14 0), .ref q1, .ref q2, .ref q3, .int (F_14 4), .int (F_14 5), .int (F_14 6), .int (F_14 7), .int (F_14 8), .int (F_14 9), .long (J 10), .int (F_14 11), .int (F_14 12), .int (F_14 13), .ref q4, .int (F_14 15), .ref q5, .ref q6, .ref q7, .int (F_14 19), .ref q8, .int (F_14 21), .int (F_14 22), .int (F_14 23), .int (F_14 24), .ref q9, .ref q10, .ref q11, .long (J 28)])), (q1, .inl (g.2 0, 376, .inl al)), (q7, .inl (g.2 0, 200, .inl he_14)), (q8, .inl (g.2 0, 65, .inl ma_14))]) [0, 1, 2, 3] (by decide) rfl) hS ls (lv_sub hl [0, 1, 2] rfl)
theorem mt_fit {d : Nat} (hd : 0 < d) (hd2 : d ≤ 9999) {x u : Int64} (hx : x.toInt = (d : Int)) : (x * u) / x = u ↔ (-9223372036854775808 ≤ (d : Int) * u.toInt ∧ (d : Int) * u.toInt < 9223372036854775808) := by
  rw [← Int64.toInt_inj, q_ldivP (by omega), Int64.toInt_mul, hx]
  have hu := fb_rngL u
  constructor
  · intro h
    have hb1 := Int.bmod_lt (x := (d : Int) * u.toInt) (m := 2 ^ 64) (by decide)
    have hb2 := Int.le_bmod (x := (d : Int) * u.toInt) (m := 2 ^ 64) (by decide)
    have e1 := Int.tmod_add_tdiv_mul (Int.bmod ((d : Int) * u.toInt) (2 ^ 64)) (d : Int)
    rw [h] at e1
    have e2 : u.toInt * (d : Int) = (d : Int) * u.toInt := Int.mul_comm _ _
    rw [e2] at e1
    have e3 := Int.tmod_lt_of_pos (Int.bmod ((d : Int) * u.toInt) (2 ^ 64)) (b := (d : Int)) (by omega)
    have e4 : -(d : Int) < (Int.bmod ((d : Int) * u.toInt) (2 ^ 64)).tmod (d : Int) := Int.lt_tmod_of_pos _ (by omega)
    obtain ⟨k, hk⟩ := Int.dvd_bmod_sub_self (x := (d : Int) * u.toInt) (m := 2 ^ 64)
    have hk0 : k = 0 := by omega
    subst hk0
    omega
  · intro h
    have e : Int.bmod ((d : Int) * u.toInt) (2 ^ 64) = (d : Int) * u.toInt := fb_bmodL h.1 h.2
    rw [e]
    exact Int.mul_tdiv_cancel_left _ (by omega)
abbrev preX9_metres (T : Cd) (G0 : Lg) (G1 : Lg) (lim : Nat) (F : Nat → Int32) (J : Nat → Int64) (al : Nat → Int32) (he : Nat → Int32) (ma : Nat → Int32) (p1 : Int32) (p2 : Int64) : Prop := fcR T G0 G1 lim al
abbrev postX9_metres (T : Cd) (G0 : Lg) (G1 : Lg) (lim : Nat) (F : Nat → Int32) (J : Nat → Int64) (al : Nat → Int32) (he : Nat → Int32) (ma : Nat → Int32) (p1 : Int32) (p2 : Int64) (r : Int64) (F' : Nat → Int32) (he' : Nat → Int32) (ma' : Nat → Int32) : Prop := r.toInt = spMetres T G0 G1 lim p1.toInt p2.toInt
theorem sX9_metres (T : Cd) (G0 : Lg) (G1 : Lg) (lim : Nat) (F : Nat → Int32) (J : Nat → Int64) (al : Nat → Int32) (he : Nat → Int32) (ma : Nat → Int32) (p1 : Int32) (p2 : Int64) (H : preX9_metres T G0 G1 lim F J al he ma p1 p2) : vX9_metres F J al he ma p1 p2 (postX9_metres T G0 G1 lim F J al he ma p1 p2) := by
  obtain ⟨hT, h0, h1, hlim, hl9, hl1⟩ := id H
  unfold postX9_metres spMetres
  refine ⟨trivial, fun r hr => ?_⟩
  have hr : r = if p1.toInt = 0 ∨ p1.toInt = 1 then 1 else 0 := hr
  rw [hr, q_if1]
  refine ⟨fun hc => ⟨trivial, fun r2 hr2 => ?_⟩, fun hc => ?_⟩
  · have hr2 : r2 = if p1.toInt = 0 ∨ p1.toInt = 1 then 1 else 0 := hr2
    rw [hr2, q_if1]
    exact ⟨fun _ => by rw [if_neg hc]; rfl, fun q => absurd hc q⟩
  have hc := Decidable.not_not.mp hc
  rw [if_pos hc]
  refine ⟨T, G0, G1, p1.toInt.toNat, lim, fcR_ll H _ _ _ _ hc, fun F2 he2 ma2 hq => ⟨trivial, fun r2 hr2 => ?_⟩⟩
  have hr2 : r2 = if p1.toInt = 0 ∨ p1.toInt = 1 then 1 else 0 := hr2
  have h2 := rlC_of hq
  have hO := isD_O h2.2.2.1
  have zl : (0 : Int64).toInt = 0 := rfl
  rw [hr2, q_if1, fa_eq (F2 21), zm1, fa_eq (F2 21), z0]
  refine ⟨fun q => absurd hc q, fun _ => ?_⟩
  cases hd : dsO T (bN T G0 G1 lim p1.toInt.toNat) lim with
  | none =>
    rw [hd] at hO
    have hO : (F2 21).toInt = -1 := hO
    exact ⟨fun q => absurd hO q, fun _ => rfl⟩
  | some d =>
    have hdl := dsO_lt hd
    rw [hd] at hO
    have hO : (F2 21).toInt = (d : Int) := hO
    have hlo : ((F2 21).toInt64).toInt = (d : Int) := by rw [Int32.toInt_toInt64, hO]
    refine ⟨fun _ => ⟨fun h00 => ?_, fun h00 => ⟨?_, ?_⟩⟩, fun q => absurd q (by omega)⟩
    · have hd0 : d = 0 := by omega
      subst hd0
      show (((F2 21).toInt64) * p2).toInt = if _ then _ else _
      rw [if_pos ⟨by omega, by omega⟩, Int64.toInt_mul, hlo]
      exact fb_bmodL (by omega) (by omega)
    · rw [← Int64.toInt_inj, hlo, zl]; omega
    · rw [lg_cmp_eq, mt_fit (by omega) (by omega) hlo]
      refine ⟨fun hu => ?_, fun hu => ?_⟩
      · show _ = if _ then _ else _
        rw [if_neg hu]; rfl
      · show (((F2 21).toInt64) * p2).toInt = if _ then _ else _
        rw [if_pos hu, Int64.toInt_mul, hlo]
        exact fb_bmodL hu.1 hu.2
