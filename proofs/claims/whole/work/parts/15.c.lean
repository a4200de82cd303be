set_option maxRecDepth 20000 in
theorem ggX9_longer_X9_isLeg : GoodIn wsX9_longer wsX9_isLeg := goodIn_r _ [5, 6, 7, 4, 8] (by decide +kernel) (by decide +kernel)
set_option maxRecDepth 20000 in
theorem gX9_longer_X9_isLeg : GoodIn wsX9_longer (va_wsS RX9 182 yX9_isLeg wsX9_isLeg) := goodIn_app (goodIn_of _ (by decide +kernel)) ggX9_longer_X9_isLeg
set_option maxRecDepth 20000 in
theorem ggX9_longer_X9_in : GoodIn wsX9_longer wsX9_in := goodIn_r _ [8] (by decide +kernel) (by decide +kernel)
set_option maxRecDepth 20000 in
theorem gX9_longer_X9_in : GoodIn wsX9_longer (va_wsS RX9 63 yX9_in wsX9_in) := goodIn_app (goodIn_of _ (by decide +kernel)) ggX9_longer_X9_in
set_option maxRecDepth 20000 in
theorem ggX9_longer_X9_ofLeg : GoodIn wsX9_longer wsX9_ofLeg := goodIn_r _ [12, 13, 123, 124, 125, 126, 127, 128, 129, 130, 131, 132, 133, 134, 135, 136, 137, 138, 139, 140, 141, 142, 143, 144, 145, 146, 147, 148, 149, 150, 151] (by decide +kernel) (by decide +kernel)
set_option maxRecDepth 20000 in
theorem gX9_longer_X9_ofLeg : GoodIn wsX9_longer (wsV RX9 185 RX9 yX9_ofLeg wsX9_ofLeg) := goodIn_app (goodIn_of _ (by decide +kernel)) ggX9_longer_X9_ofLeg
set_option maxRecDepth 20000 in
theorem ggX9_longer_X9_layLeg : GoodIn wsX9_longer wsX9_layLeg := goodIn_r _ [17, 13, 123, 124, 125, 126, 127, 128, 129, 130, 131, 132, 133, 134, 135, 136, 137, 138, 139, 140, 141, 142, 143, 144, 145, 146, 147, 148, 149, 150, 151] (by decide +kernel) (by decide +kernel)
set_option maxRecDepth 20000 in
theorem gX9_longer_X9_layLeg : GoodIn wsX9_longer (wsV RX9 188 RX9 yX9_layLeg wsX9_layLeg) := goodIn_app (goodIn_of _ (by decide +kernel)) ggX9_longer_X9_layLeg
set_option maxRecDepth 20000 in
theorem ggX9_longer_X9_laysLeg : GoodIn wsX9_longer wsX9_laysLeg := goodIn_r _ [21, 22, 23, 24, 25, 26, 4, 27, 28, 29, 30, 31, 32, 33, 34, 35, 36, 9, 10, 11, 12, 13, 37, 38, 39, 40, 41, 42, 43, 44, 45, 46, 47, 48, 49, 50, 51, 52, 53, 54, 55, 56, 57, 58, 59, 60, 61, 62, 63, 64, 65, 66, 67, 68, 69, 6, 7, 8, 70, 71, 72, 73, 74, 75, 76, 77, 78, 79, 80, 81, 82, 83, 84, 85, 86, 87, 88, 89, 90, 91, 92, 93, 94, 95, 96, 97, 98, 99, 100, 101, 102, 103, 104, 105, 106, 107, 108, 109, 110, 111, 112, 113, 114, 123, 124, 125, 126, 127, 128, 129, 130, 131, 132, 133, 134, 135, 136, 137, 138, 139, 140, 141, 142, 143, 144, 145, 146, 147, 148, 149, 150, 151] (by decide +kernel) (by decide +kernel)
set_option maxRecDepth 20000 in
theorem gX9_longer_X9_laysLeg : GoodIn wsX9_longer (wsV RX9 294 RX9 yX9_laysLeg wsX9_laysLeg) := goodIn_app (goodIn_of _ (by decide +kernel)) ggX9_longer_X9_laysLeg
set_option maxRecDepth 20000 in
theorem ggX9_longer_X9_told : GoodIn wsX9_longer wsX9_told := goodIn_r _ [118, 85, 83, 22, 84, 119, 120, 121, 4, 122, 13, 123, 124, 125, 126, 127, 128, 129, 130, 131, 132, 133, 134, 135, 136, 137, 138, 139, 140, 141, 142, 143, 144, 145, 146, 147, 148, 149, 150, 151] (by decide +kernel) (by decide +kernel)
set_option maxRecDepth 20000 in
theorem gX9_longer_X9_told : GoodIn wsX9_longer (wsV RX9 310 RX9 yX9_told wsX9_told) := goodIn_app (goodIn_of _ (by decide +kernel)) ggX9_longer_X9_told
theorem dX9_longer_0 : decode cX9_longer 0 = .ok (.aload_n 0, 1) := by decide +kernel
theorem dX9_longer_1 : decode cX9_longer 1 = .ok (.iconst 0, 1) := by decide +kernel
theorem dX9_longer_2 : decode cX9_longer 2 = .ok (.putfield 51, 3) := by decide +kernel
theorem dX9_longer_5 : decode cX9_longer 5 = .ok (.iload_n 1, 1) := by decide +kernel
theorem dX9_longer_6 : decode cX9_longer 6 = .ok (.invokestatic 182, 3) := by decide +kernel
theorem dX9_longer_9 : decode cX9_longer 9 = .ok (.ifCond .eq 23, 3) := by decide +kernel
theorem dX9_longer_12 : decode cX9_longer 12 = .ok (.iload_n 2, 1) := by decide +kernel
theorem dX9_longer_13 : decode cX9_longer 13 = .ok (.iconst 1, 1) := by decide +kernel
theorem dX9_longer_14 : decode cX9_longer 14 = .ok (.sipush 200, 3) := by decide +kernel
theorem dX9_longer_17 : decode cX9_longer 17 = .ok (.invokestatic 63, 3) := by decide +kernel
theorem dX9_longer_20 : decode cX9_longer 20 = .ok (.ifCond .eq 12, 3) := by decide +kernel
theorem dX9_longer_23 : decode cX9_longer 23 = .ok (.iload_n 3, 1) := by decide +kernel
theorem dX9_longer_24 : decode cX9_longer 24 = .ok (.iconst 0, 1) := by decide +kernel
theorem dX9_longer_25 : decode cX9_longer 25 = .ok (.iconst 5, 1) := by decide +kernel
theorem dX9_longer_26 : decode cX9_longer 26 = .ok (.invokestatic 63, 3) := by decide +kernel
theorem dX9_longer_29 : decode cX9_longer 29 = .ok (.ifCond .ne 5, 3) := by decide +kernel
theorem dX9_longer_32 : decode cX9_longer 32 = .ok (.iconst (-1), 1) := by decide +kernel
theorem dX9_longer_33 : decode cX9_longer 33 = .ok (.ireturn, 1) := by decide +kernel
theorem dX9_longer_34 : decode cX9_longer 34 = .ok (.aload_n 0, 1) := by decide +kernel
theorem dX9_longer_35 : decode cX9_longer 35 = .ok (.iload_n 1, 1) := by decide +kernel
theorem dX9_longer_36 : decode cX9_longer 36 = .ok (.iconst 3, 1) := by decide +kernel
theorem dX9_longer_37 : decode cX9_longer 37 = .ok (.invokevirtual 185, 3) := by decide +kernel
theorem dX9_longer_40 : decode cX9_longer 40 = .ok (.istore 4, 2) := by decide +kernel
theorem dX9_longer_42 : decode cX9_longer 42 = .ok (.aload_n 0, 1) := by decide +kernel
theorem dX9_longer_43 : decode cX9_longer 43 = .ok (.iload_n 1, 1) := by decide +kernel
theorem dX9_longer_44 : decode cX9_longer 44 = .ok (.iconst 3, 1) := by decide +kernel
theorem dX9_longer_45 : decode cX9_longer 45 = .ok (.iload_n 2, 1) := by decide +kernel
theorem dX9_longer_46 : decode cX9_longer 46 = .ok (.invokevirtual 188, 3) := by decide +kernel
theorem dX9_longer_49 : decode cX9_longer 49 = .ok (.aload_n 0, 1) := by decide +kernel
theorem dX9_longer_50 : decode cX9_longer 50 = .ok (.iload_n 1, 1) := by decide +kernel
theorem dX9_longer_51 : decode cX9_longer 51 = .ok (.invokevirtual 294, 3) := by decide +kernel
theorem dX9_longer_54 : decode cX9_longer 54 = .ok (.aload_n 0, 1) := by decide +kernel
theorem dX9_longer_55 : decode cX9_longer 55 = .ok (.iload_n 1, 1) := by decide +kernel
theorem dX9_longer_56 : decode cX9_longer 56 = .ok (.iconst 3, 1) := by decide +kernel
theorem dX9_longer_57 : decode cX9_longer 57 = .ok (.iload 4, 2) := by decide +kernel
theorem dX9_longer_59 : decode cX9_longer 59 = .ok (.invokevirtual 188, 3) := by decide +kernel
theorem dX9_longer_62 : decode cX9_longer 62 = .ok (.aload_n 0, 1) := by decide +kernel
theorem dX9_longer_63 : decode cX9_longer 63 = .ok (.iload_n 3, 1) := by decide +kernel
theorem dX9_longer_64 : decode cX9_longer 64 = .ok (.invokevirtual 310, 3) := by decide +kernel
theorem dX9_longer_67 : decode cX9_longer 67 = .ok (.ireturn, 1) := by decide +kernel
abbrev rmX9_longer : Room := { frames := 7, cells := 0, slots := 0, locals := 162 }
theorem inX9_longer_9 : ∀ w ∈ wsX90, w ∈ wsX9_longer := by decide +kernel
def vX9_longer (F : Nat → Int32) (J : Nat → Int64) (al : Nat → Int32) (he : Nat → Int32) (ma : Nat → Int32) (p1 : Int32) (p2 : Int32) (p3 : Int32) (Q : Int32 → (Nat → Int32) → (Nat → Int32) → (Nat → Int32) → (Nat → Int32) → Prop) : Prop := (preX9_isLeg p1 ∧ (∀ r_6 : Int32, postX9_isLeg p1 r_6 → ((r_6 = 0 → (Q (-1 : Int32) (upd F 0 (0 : Int32)) al he ma)) ∧ (¬ r_6 = 0 → (preX9_in p2 (1 : Int32) (200 : Int32) ∧ (∀ r_17 : Int32, postX9_in p2 (1 : Int32) (200 : Int32) r_17 → ((r_17 = 0 → (Q (-1 : Int32) (upd F 0 (0 : Int32)) al he ma)) ∧ (¬ r_17 = 0 → (preX9_in p3 (0 : Int32) (5 : Int32) ∧ (∀ r_26 : Int32, postX9_in p3 (0 : Int32) (5 : Int32) r_26 → ((¬ r_26 = 0 → (∃ (p_37 : Nat) (w_37 : Nat), preX9_ofLeg p_37 w_37 (upd F 0 (0 : Int32)) J al p1 (3 : Int32) ∧ (∀ r_37 : Int32, postX9_ofLeg p_37 w_37 (upd F 0 (0 : Int32)) J al p1 (3 : Int32) r_37 → (∃ (p_46 : Nat) (w_46 : Nat), preX9_layLeg p_46 w_46 (upd F 0 (0 : Int32)) J al p1 (3 : Int32) p2 ∧ (∀ (al_46 : Nat → Int32), postX9_layLeg p_46 w_46 (upd F 0 (0 : Int32)) J al p1 (3 : Int32) p2 al_46 → (∃ (T_51 : Cd) (G0_51 : Lg) (G1_51 : Lg) (lg_51 : Nat) (lim_51 : Nat), preX9_laysLeg T_51 G0_51 G1_51 lg_51 lim_51 (upd F 0 (0 : Int32)) J al_46 he ma p1 ∧ (∀ (F_51 : Nat → Int32) (he_51 : Nat → Int32) (ma_51 : Nat → Int32), postX9_laysLeg T_51 G0_51 G1_51 lg_51 lim_51 (upd F 0 (0 : Int32)) J al_46 he ma p1 F_51 he_51 ma_51 → (∃ (p_59 : Nat) (w_59 : Nat), preX9_layLeg p_59 w_59 F_51 J al_46 p1 (3 : Int32) r_37 ∧ (∀ (al_59 : Nat → Int32), postX9_layLeg p_59 w_59 F_51 J al_46 p1 (3 : Int32) r_37 al_59 → (∃ (T_64 : Cd) (b_64 : Nat → Nat) (lim_64 : Nat), preX9_told T_64 b_64 lim_64 F_51 J al_59 p3 ∧ (∀ r_64 : Int32, postX9_told T_64 b_64 lim_64 F_51 J al_59 p3 r_64 → (Q r_64 F_51 al_59 he_51 ma_51)))))))))))) ∧ (r_26 = 0 → (Q (-1 : Int32) (upd F 0 (0 : Int32)) al he ma)))))))))))))
set_option maxHeartbeats 4000000 in
set_option maxRecDepth 100000 in
theorem wX9_longer (l : Launch) (g : GP) (qM : Nat) (q1 : Nat) (q2 : Nat) (q3 : Nat) (q4 : Nat) (q5 : Nat) (q6 : Nat) (q7 : Nat) (q8 : Nat) (q9 : Nat) (q10 : Nat) (q11 : Nat) (sz : Nat) (F : Nat → Int32) (J : Nat → Int64) (al : Nat → Int32) (he : Nat → Int32) (ma : Nat → Int32) (p1 : Int32) (p2 : Int32) (p3 : Int32) {Q : Int32 → (Nat → Int32) → (Nat → Int32) → (Nat → Int32) → (Nat → Int32) → Prop} (hv : vX9_longer F J al he ma p1 p2 p3 Q) : Met l yX9_longer wsX9_longer rmX9_longer (va_Pc [.ref qM, .int p1, .int p2, .int p3] (fun U => U.heap.size = sz ∧ va_P g.1 vwCl [(qM, .inr (9, [.int (F 0), .ref q1, .ref q2, .ref q3, .int (F 4), .int (F 5), .int (F 6), .int (F 7), .int (F 8), .int (F 9), .long (J 10), .int (F 11), .int (F 12), .int (F 13), .ref q4, .int (F 15), .ref q5, .ref q6, .ref q7, .int (F 19), .ref q8, .int (F 21), .int (F 22), .int (F 23), .int (F 24), .ref q9, .ref q10, .ref q11, .long (J 28)])), (q1, .inl (g.2 0, 376, .inl al)), (q7, .inl (g.2 0, 200, .inl he)), (q8, .inl (g.2 0, 65, .inl ma))] U.heap ∧ GK g U ∧ va_D (fun _ => True) [(qM, .inr (9, [.int (F 0), .ref q1, .ref q2, .ref q3, .int (F 4), .int (F 5), .int (F 6), .int (F 7), .int (F 8), .int (F 9), .long (J 10), .int (F 11), .int (F 12), .int (F 13), .ref q4, .int (F 15), .ref q5, .ref q6, .ref q7, .int (F 19), .ref q8, .int (F 21), .int (F 22), .int (F 23), .int (F 24), .ref q9, .ref q10, .ref q11, .long (J 28)])), (q1, .inl (g.2 0, 376, .inl al)), (q7, .inl (g.2 0, 200, .inl he)), (q8, .inl (g.2 0, 65, .inl ma))])) (va_Qi (fun (r : Int32) (u : (Nat → Int32) × (Nat → Int32) × (Nat → Int32) × (Nat → Int32)) => Q r u.1 u.2.1 u.2.2.1 u.2.2.2) (fun (u : (Nat → Int32) × (Nat → Int32) × (Nat → Int32) × (Nat → Int32)) t => va_P g.1 vwCl [(qM, .inr (9, [.int (u.1 0), .ref q1, .ref q2, .ref q3, .int (u.1 4), .int (u.1 5), .int (u.1 6), .int (u.1 7), .int (u.1 8), .int (u.1 9), .long (J 10), .int (u.1 11), .int (u.1 12), .int (u.1 13), .ref q4, .int (u.1 15), .ref q5, .ref q6, .ref q7, .int (u.1 19), .ref q8, .int (u.1 21), .int (u.1 22), .int (u.1 23), .int (u.1 24), .ref q9, .ref q10, .ref q11, .long (J 28)])), (q1, .inl (g.2 0, 376, .inl u.2.1)), (q7, .inl (g.2 0, 200, .inl u.2.2.1)), (q8, .inl (g.2 0, 65, .inl u.2.2.2))] t.heap ∧ va_D (va_A [(qM, .inr (9, [.int (F 0), .ref q1, .ref q2, .ref q3, .int (F 4), .int (F 5), .int (F 6), .int (F 7), .int (F 8), .int (F 9), .long (J 10), .int (F 11), .int (F 12), .int (F 13), .ref q4, .int (F 15), .ref q5, .ref q6, .ref q7, .int (F 19), .ref q8, .int (F 21), .int (F 22), .int (F 23), .int (F 24), .ref q9, .ref q10, .ref q11, .long (J 28)])), (q1, .inl (g.2 0, 376, .inl al)), (q7, .inl (g.2 0, 200, .inl he)), (q8, .inl (g.2 0, 65, .inl ma))] sz) [(qM, .inr (9, [.int (u.1 0), .ref q1, .ref q2, .ref q3, .int (u.1 4), .int (u.1 5), .int (u.1 6), .int (u.1 7), .int (u.1 8), .int (u.1 9), .long (J 10), .int (u.1 11), .int (u.1 12), .int (u.1 13), .ref q4, .int (u.1 15), .ref q5, .ref q6, .ref q7, .int (u.1 19), .ref q8, .int (u.1 21), .int (u.1 22), .int (u.1 23), .int (u.1 24), .ref q9, .ref q10, .ref q11, .long (J 28)])), (q1, .inl (g.2 0, 376, .inl u.2.1)), (q7, .inl (g.2 0, 200, .inl u.2.2.1)), (q8, .inl (g.2 0, 65, .inl u.2.2.2))]) (va_A [(qM, .inr (9, [.int (F 0), .ref q1, .ref q2, .ref q3, .int (F 4), .int (F 5), .int (F 6), .int (F 7), .int (F 8), .int (F 9), .long (J 10), .int (F 11), .int (F 12), .int (F 13), .ref q4, .int (F 15), .ref q5, .ref q6, .ref q7, .int (F 19), .ref q8, .int (F 21), .int (F 22), .int (F 23), .int (F 24), .ref q9, .ref q10, .ref q11, .long (J 28)])), (q1, .inl (g.2 0, 376, .inl al)), (q7, .inl (g.2 0, 200, .inl he)), (q8, .inl (g.2 0, 65, .inl ma))] sz)) 0 0 (va_A [(qM, .inr (9, [.int (F 0), .ref q1, .ref q2, .ref q3, .int (F 4), .int (F 5), .int (F 6), .int (F 7), .int (F 8), .int (F 9), .long (J 10), .int (F 11), .int (F 12), .int (F 13), .ref q4, .int (F 15), .ref q5, .ref q6, .ref q7, .int (F 19), .ref q8, .int (F 21), .int (F 22), .int (F 23), .int (F 24), .ref q9, .ref q10, .ref q11, .long (J 28)])), (q1, .inl (g.2 0, 376, .inl al)), (q7, .inl (g.2 0, 200, .inl he)), (q8, .inl (g.2 0, 65, .inl ma))] sz) := by
  refine Met.ofW (cc := cX9_longer) (maxL := 5) (ret := (some .int)) (by decide) rfl ?_
  intro p e s m args below meth c s₁ B hml hv'
  obtain ⟨rfl, hsz, hP, hG, hD0⟩ := hv'
  have S : CallFix p m c cX9_longer 5 s _ wsX9_longer RX9 := ⟨B.exec, B.bytes, hml, findClass_of_methodNamed B.named, atoms_spec (ws := wsX9_longer) B.pre⟩
  obtain ⟨hx, hb, hml, hown, hts⟩ := id S
  have hK := hG.1
  have hr := B.returns
  have hlocks := B.notSynchronized
  subst hsz
  have hD := hD0.self (sz := s.heap.size)
  generalize hAe : va_A [(qM, .inr (9, [.int (F 0), .ref q1, .ref q2, .ref q3, .int (F 4), .int (F 5), .int (F 6), .int (F 7), .int (F 8), .int (F 9), .long (J 10), .int (F 11), .int (F 12), .int (F 13), .ref q4, .int (F 15), .ref q5, .ref q6, .ref q7, .int (F 19), .ref q8, .int (F 21), .int (F 22), .int (F 23), .int (F 24), .ref q9, .ref q10, .ref q11, .long (J 28)])), (q1, .inl (g.2 0, 376, .inl al)), (q7, .inl (g.2 0, 200, .inl he)), (q8, .inl (g.2 0, 65, .inl ma))] s.heap.size = A at hD ⊢
  have hA : ∀ q : Nat, s.heap.size ≤ q → A q := fun q h => by rw [← hAe]; exact Or.inr h
  have hS : va_S A s.heap s.heap [] := va_S.rf
  clear hD0 hAe
  have hl := lv_entry ([.ref qM, .int p1, .int p2, .int p3]) (n := 5) (Nat.le_of_ble_eq_true rfl)
  rw [lg_entry_eq]
  generalize (lg_sl ([.ref qM, .int p1, .int p2, .int p3]) ++ List.replicate (5 - (lg_sl ([.ref qM, .int p1, .int p2, .int p3])).length) Slot.unset).toArray = ls at hl ⊢
  have hl : lv_has ls 5 [(0, .ref qM), (1, .int p1), (2, .int p2), (3, .int p3)] := hl
  unfold vX9_longer at hv
  refine lv_aload_n hx hb dX9_longer_0 rfl (lv_at hl 0 rfl) ?_
  refine lv_iconst (v := (0 : Int32)) hx hb dX9_longer_1 (by decide) ?_
  refine va_put (D := g.1) (ci := 9) (v := .int (0 : Int32)) (ty := .int) (C := RX9) (T := TX9) (N := 29) hx hb hts inX9_longer_9 tyX9 tyX9_ok nmX9 hown hK hP hD hS 0 rfl rfl 0 (by decide) (hts (.fieldLink RX9 51 "RangeCodesModel" "raised" "I") (List.mem_of_getElem? (i := 1) rfl)) (fun _ h9 => h9) rfl (by decide +kernel) rfl rfl (Nat.le_of_ble_eq_true rfl) dX9_longer_2 (fun H locs hP hD hS => ?_)
  have hP : va_P g.1 vwCl [(qM, .inr (9, [.int (0 : Int32), .ref q1, .ref q2, .ref q3, .int (F 4), .int (F 5), .int (F 6), .int (F 7), .int (F 8), .int (F 9), .long (J 10), .int (F 11), .int (F 12), .int (F 13), .ref q4, .int (F 15), .ref q5, .ref q6, .ref q7, .int (F 19), .ref q8, .int (F 21), .int (F 22), .int (F 23), .int (F 24), .ref q9, .ref q10, .ref q11, .long (J 28)])), (q1, .inl (g.2 0, 376, .inl al)), (q7, .inl (g.2 0, 200, .inl he)), (q8, .inl (g.2 0, 65, .inl ma))] H := hP
  have hD : va_D A [(qM, .inr (9, [.int (0 : Int32), .ref q1, .ref q2, .ref q3, .int (F 4), .int (F 5), .int (F 6), .int (F 7), .int (F 8), .int (F 9), .long (J 10), .int (F 11), .int (F 12), .int (F 13), .ref q4, .int (F 15), .ref q5, .ref q6, .ref q7, .int (F 19), .ref q8, .int (F 21), .int (F 22), .int (F 23), .int (F 24), .ref q9, .ref q10, .ref q11, .long (J 28)])), (q1, .inl (g.2 0, 376, .inl al)), (q7, .inl (g.2 0, 200, .inl he)), (q8, .inl (g.2 0, 65, .inl ma))] := hD
  refine lv_iload_n hx hb dX9_longer_5 rfl (lv_at hl 1 rfl) ?_
  obtain ⟨ho_1, hv⟩ := hv
  refine vp_callSi (W.runS (As := [.int p1]) (rest := []) S (wX9_isLeg l g p1 (sX9_isLeg p1 ho_1)) (va_cwS 1 hts gX9_longer_X9_isLeg rfl rfl rfl (by decide +kernel) ⟨Nat.le_of_ble_eq_true rfl, Nat.le_of_ble_eq_true rfl⟩) ⟨blindRO, fun U hU hW => ⟨rfl, by rw [hU]; exact hP.sub (ws' := []) [] rfl, hG.warm hW⟩⟩ rfl rfl hl.1 rfl (lv_room (Nat.le_of_ble_eq_true rfl)) dX9_longer_6 ⟨Nat.le_of_ble_eq_true rfl, Nat.le_of_ble_eq_true rfl⟩) (fun r_6 hr_6 => ?_)
  have hv := hv r_6 hr_6
  obtain ⟨hvt, hvf⟩ := hv
  refine lv_if_eq (tgt := 32) hx hb dX9_longer_9 (by decide) (fun hc => ?_) (fun hc => ?_)
  · have hv := hvt hc
    refine lv_iconst (v := (-1 : Int32)) hx hb dX9_longer_32 (by decide) ?_
    have hP9 := hP.sub (ws' := [(qM, .inr (9, [.int ((upd F 0 (0 : Int32)) 0), .ref q1, .ref q2, .ref q3, .int ((upd F 0 (0 : Int32)) 4), .int ((upd F 0 (0 : Int32)) 5), .int ((upd F 0 (0 : Int32)) 6), .int ((upd F 0 (0 : Int32)) 7), .int ((upd F 0 (0 : Int32)) 8), .int ((upd F 0 (0 : Int32)) 9), .long (J 10), .int ((upd F 0 (0 : Int32)) 11), .int ((upd F 0 (0 : Int32)) 12), .int ((upd F 0 (0 : Int32)) 13), .ref q4, .int ((upd F 0 (0 : Int32)) 15), .ref q5, .ref q6, .ref q7, .int ((upd F 0 (0 : Int32)) 19), .ref q8, .int ((upd F 0 (0 : Int32)) 21), .int ((upd F 0 (0 : Int32)) 22), .int ((upd F 0 (0 : Int32)) 23), .int ((upd F 0 (0 : Int32)) 24), .ref q9, .ref q10, .ref q11, .long (J 28)])), (q1, .inl (g.2 0, 376, .inl al)), (q7, .inl (g.2 0, 200, .inl he)), (q8, .inl (g.2 0, 65, .inl ma))]) [0, 1, 2, 3] rfl
    have hD9 := hD.sub (ws' := [(qM, .inr (9, [.int ((upd F 0 (0 : Int32)) 0), .ref q1, .ref q2, .ref q3, .int ((upd F 0 (0 : Int32)) 4), .int ((upd F 0 (0 : Int32)) 5), .int ((upd F 0 (0 : Int32)) 6), .int ((upd F 0 (0 : Int32)) 7), .int ((upd F 0 (0 : Int32)) 8), .int ((upd F 0 (0 : Int32)) 9), .long (J 10), .int ((upd F 0 (0 : Int32)) 11), .int ((upd F 0 (0 : Int32)) 12), .int ((upd F 0 (0 : Int32)) 13), .ref q4, .int ((upd F 0 (0 : Int32)) 15), .ref q5, .ref q6, .ref q7, .int ((upd F 0 (0 : Int32)) 19), .ref q8, .int ((upd F 0 (0 : Int32)) 21), .int ((upd F 0 (0 : Int32)) 22), .int ((upd F 0 (0 : Int32)) 23), .int ((upd F 0 (0 : Int32)) 24), .ref q9, .ref q10, .ref q11, .long (J 28)])), (q1, .inl (g.2 0, 376, .inl al)), (q7, .inl (g.2 0, 200, .inl he)), (q8, .inl (g.2 0, 65, .inl ma))]) [0, 1, 2, 3] (by decide) rfl
    exact W.iret (v := (-1 : Int32)) hx hb hr (fun t ht hW => ⟨⟨_, ((upd F 0 (0 : Int32)), al, he, ma), rfl, hv, by rw [ht]; exact hP9, hD9⟩, hS.F ht⟩) hS.2.2 dX9_longer_33
  · have hv := hvf hc
    refine lv_iload_n hx hb dX9_longer_12 rfl (lv_at hl 2 rfl) ?_
    refine lv_iconst (v := (1 : Int32)) hx hb dX9_longer_13 (by decide) ?_
    refine lv_sipush (v := (200 : Int32)) hx hb dX9_longer_14 (by decide) ?_
    obtain ⟨ho_2, hv⟩ := hv
    refine vp_callSi (W.runS (As := [.int p2, .int (1 : Int32), .int (200 : Int32)]) (rest := []) S (wX9_in l g p2 (1 : Int32) (200 : Int32) (sX9_in p2 (1 : Int32) (200 : Int32) ho_2)) (va_cwS 3 hts gX9_longer_X9_in rfl rfl rfl (by decide +kernel) ⟨Nat.le_of_ble_eq_true rfl, Nat.le_of_ble_eq_true rfl⟩) ⟨blindRO, fun U hU hW => ⟨rfl, by rw [hU]; exact hP.sub (ws' := []) [] rfl, hG.warm hW⟩⟩ rfl rfl hl.1 rfl (lv_room (Nat.le_of_ble_eq_true rfl)) dX9_longer_17 ⟨Nat.le_of_ble_eq_true rfl, Nat.le_of_ble_eq_true rfl⟩) (fun r_17 hr_17 => ?_)
    have hv := hv r_17 hr_17
    obtain ⟨hvt, hvf⟩ := hv
    refine lv_if_eq (tgt := 32) hx hb dX9_longer_20 (by decide) (fun hc => ?_) (fun hc => ?_)
    · have hv := hvt hc
      refine lv_iconst (v := (-1 : Int32)) hx hb dX9_longer_32 (by decide) ?_
      have hP9 := hP.sub (ws' := [(qM, .inr (9, [.int ((upd F 0 (0 : Int32)) 0), .ref q1, .ref q2, .ref q3, .int ((upd F 0 (0 : Int32)) 4), .int ((upd F 0 (0 : Int32)) 5), .int ((upd F 0 (0 : Int32)) 6), .int ((upd F 0 (0 : Int32)) 7), .int ((upd F 0 (0 : Int32)) 8), .int ((upd F 0 (0 : Int32)) 9), .long (J 10), .int ((upd F 0 (0 : Int32)) 11), .int ((upd F 0 (0 : Int32)) 12), .int ((upd F 0 (0 : Int32)) 13), .ref q4, .int ((upd F 0 (0 : Int32)) 15), .ref q5, .ref q6, .ref q7, .int ((upd F 0 (0 : Int32)) 19), .ref q8, .int ((upd F 0 (0 : Int32)) 21), .int ((upd F 0 (0 : Int32)) 22), .int ((upd F 0 (0 : Int32)) 23), .int ((upd F 0 (0 : Int32)) 24), .ref q9, .ref q10, .ref q11, .long (J 28)])), (q1, .inl (g.2 0, 376, .inl al)), (q7, .inl (g.2 0, 200, .inl he)), (q8, .inl (g.2 0, 65, .inl ma))]) [0, 1, 2, 3] rfl
      have hD9 := hD.sub (ws' := [(qM, .inr (9, [.int ((upd F 0 (0 : Int32)) 0), .ref q1, .ref q2, .ref q3, .int ((upd F 0 (0 : Int32)) 4), .int ((upd F 0 (0 : Int32)) 5), .int ((upd F 0 (0 : Int32)) 6), .int ((upd F 0 (0 : Int32)) 7), .int ((upd F 0 (0 : Int32)) 8), .int ((upd F 0 (0 : Int32)) 9), .long (J 10), .int ((upd F 0 (0 : Int32)) 11), .int ((upd F 0 (0 : Int32)) 12), .int ((upd F 0 (0 : Int32)) 13), .ref q4, .int ((upd F 0 (0 : Int32)) 15), .ref q5, .ref q6, .ref q7, .int ((upd F 0 (0 : Int32)) 19), .ref q8, .int ((upd F 0 (0 : Int32)) 21), .int ((upd F 0 (0 : Int32)) 22), .int ((upd F 0 (0 : Int32)) 23), .int ((upd F 0 (0 : Int32)) 24), .ref q9, .ref q10, .ref q11, .long (J 28)])), (q1, .inl (g.2 0, 376, .inl al)), (q7, .inl (g.2 0, 200, .inl he)), (q8, .inl (g.2 0, 65, .inl ma))]) [0, 1, 2, 3] (by decide) rfl
      exact W.iret (v := (-1 : Int32)) hx hb hr (fun t ht hW => ⟨⟨_, ((upd F 0 (0 : Int32)), al, he, ma), rfl, hv, by rw [ht]; exact hP9, hD9⟩, hS.F ht⟩) hS.2.2 dX9_longer_33
    · have hv := hvf hc
      refine lv_iload_n hx hb dX9_longer_23 rfl (lv_at hl 3 rfl) ?_
      refine lv_iconst (v := (0 : Int32)) hx hb dX9_longer_24 (by decide) ?_
      refine lv_iconst (v := (5 : Int32)) hx hb dX9_longer_25 (by decide) ?_
      obtain ⟨ho_3, hv⟩ := hv
      refine vp_callSi (W.runS (As := [.int p3, .int (0 : Int32), .int (5 : Int32)]) (rest := []) S (wX9_in l g p3 (0 : Int32) (5 : Int32) (sX9_in p3 (0 : Int32) (5 : Int32) ho_3)) (va_cwS 3 hts gX9_longer_X9_in rfl rfl rfl (by decide +kernel) ⟨Nat.le_of_ble_eq_true rfl, Nat.le_of_ble_eq_true rfl⟩) ⟨blindRO, fun U hU hW => ⟨rfl, by rw [hU]; exact hP.sub (ws' := []) [] rfl, hG.warm hW⟩⟩ rfl rfl hl.1 rfl (lv_room (Nat.le_of_ble_eq_true rfl)) dX9_longer_26 ⟨Nat.le_of_ble_eq_true rfl, Nat.le_of_ble_eq_true rfl⟩) (fun r_26 hr_26 => ?_)
      have hv := hv r_26 hr_26
      obtain ⟨hvt, hvf⟩ := hv
      refine lv_if_ne (tgt := 34) hx hb dX9_longer_29 (by decide) (fun hc => ?_) (fun hc => ?_)
      · have hv := hvt hc
        refine lv_aload_n hx hb dX9_longer_34 rfl (lv_at hl 0 rfl) ?_
        refine lv_iload_n hx hb dX9_longer_35 rfl (lv_at hl 1 rfl) ?_
        refine lv_iconst (v := (3 : Int32)) hx hb dX9_longer_36 (by decide) ?_
        obtain ⟨p_37, w_37, ho_4, hv⟩ := hv
        refine vp_callSi (W.runV (As := [.int p1, .int (3 : Int32)]) (rest := []) S (wX9_ofLeg l g qM q1 q2 q3 q4 q5 q6 q7 q8 q9 q10 q11 (upd F 0 (0 : Int32)) J al p1 (3 : Int32) (sX9_ofLeg p_37 w_37 (upd F 0 (0 : Int32)) J al p1 (3 : Int32) ho_4)) (cwV 2 hts gX9_longer_X9_ofLeg rfl rfl rfl (by decide +kernel) ⟨Nat.le_of_ble_eq_true rfl, Nat.le_of_ble_eq_true rfl⟩) ⟨blindRO, va_recv hK hP (ci := 9) (q0 := 0) rfl rfl, fun U hU hW => ⟨rfl, by rw [hU]; exact hP.sub (ws' := [(qM, .inr (9, [.int ((upd F 0 (0 : Int32)) 0), .ref q1, .ref q2, .ref q3, .int ((upd F 0 (0 : Int32)) 4), .int ((upd F 0 (0 : Int32)) 5), .int ((upd F 0 (0 : Int32)) 6), .int ((upd F 0 (0 : Int32)) 7), .int ((upd F 0 (0 : Int32)) 8), .int ((upd F 0 (0 : Int32)) 9), .long (J 10), .int ((upd F 0 (0 : Int32)) 11), .int ((upd F 0 (0 : Int32)) 12), .int ((upd F 0 (0 : Int32)) 13), .ref q4, .int ((upd F 0 (0 : Int32)) 15), .ref q5, .ref q6, .ref q7, .int ((upd F 0 (0 : Int32)) 19), .ref q8, .int ((upd F 0 (0 : Int32)) 21), .int ((upd F 0 (0 : Int32)) 22), .int ((upd F 0 (0 : Int32)) 23), .int ((upd F 0 (0 : Int32)) 24), .ref q9, .ref q10, .ref q11, .long (J 28)])), (q1, .inl (g.2 0, 376, .inl al))]) [0, 1] rfl, hG.warm hW⟩⟩ rfl rfl hl.1 rfl (lv_room (Nat.le_of_ble_eq_true rfl)) dX9_longer_37 ⟨Nat.le_of_ble_eq_true rfl, Nat.le_of_ble_eq_true rfl⟩) (fun r_37 hr_37 => ?_)
        have hv := hv r_37 hr_37
        refine lv_istore (lv' := [(4, .int r_37), (0, .ref qM), (1, .int p1), (2, .int p2), (3, .int p3)]) hx hb dX9_longer_40 hl (by decide) rfl (fun ls hl => ?_)
        refine lv_aload_n hx hb dX9_longer_42 rfl (lv_at hl 1 rfl) ?_
        refine lv_iload_n hx hb dX9_longer_43 rfl (lv_at hl 2 rfl) ?_
        refine lv_iconst (v := (3 : Int32)) hx hb dX9_longer_44 (by decide) ?_
        refine lv_iload_n hx hb dX9_longer_45 rfl (lv_at hl 3 rfl) ?_
        obtain ⟨p_46, w_46, ho_5, hv⟩ := hv
        have hPc := hP.sub (ws' := [(qM, .inr (9, [.int ((upd F 0 (0 : Int32)) 0), .ref q1, .ref q2, .ref q3, .int ((upd F 0 (0 : Int32)) 4), .int ((upd F 0 (0 : Int32)) 5), .int ((upd F 0 (0 : Int32)) 6), .int ((upd F 0 (0 : Int32)) 7), .int ((upd F 0 (0 : Int32)) 8), .int ((upd F 0 (0 : Int32)) 9), .long (J 10), .int ((upd F 0 (0 : Int32)) 11), .int ((upd F 0 (0 : Int32)) 12), .int ((upd F 0 (0 : Int32)) 13), .ref q4, .int ((upd F 0 (0 : Int32)) 15), .ref q5, .ref q6, .ref q7, .int ((upd F 0 (0 : Int32)) 19), .ref q8, .int ((upd F 0 (0 : Int32)) 21), .int ((upd F 0 (0 : Int32)) 22), .int ((upd F 0 (0 : Int32)) 23), .int ((upd F 0 (0 : Int32)) 24), .ref q9, .ref q10, .ref q11, .long (J 28)])), (q1, .inl (g.2 0, 376, .inl al))]) [0, 1] rfl
        have hDc := hD.sub (ws' := [(qM, .inr (9, [.int ((upd F 0 (0 : Int32)) 0), .ref q1, .ref q2, .ref q3, .int ((upd F 0 (0 : Int32)) 4), .int ((upd F 0 (0 : Int32)) 5), .int ((upd F 0 (0 : Int32)) 6), .int ((upd F 0 (0 : Int32)) 7), .int ((upd F 0 (0 : Int32)) 8), .int ((upd F 0 (0 : Int32)) 9), .long (J 10), .int ((upd F 0 (0 : Int32)) 11), .int ((upd F 0 (0 : Int32)) 12), .int ((upd F 0 (0 : Int32)) 13), .ref q4, .int ((upd F 0 (0 : Int32)) 15), .ref q5, .ref q6, .ref q7, .int ((upd F 0 (0 : Int32)) 19), .ref q8, .int ((upd F 0 (0 : Int32)) 21), .int ((upd F 0 (0 : Int32)) 22), .int ((upd F 0 (0 : Int32)) 23), .int ((upd F 0 (0 : Int32)) 24), .ref q9, .ref q10, .ref q11, .long (J 28)])), (q1, .inl (g.2 0, 376, .inl al))]) [0, 1] (by decide) rfl
        have hFc := va_free (wc := [(qM, .inr (9, [.int ((upd F 0 (0 : Int32)) 0), .ref q1, .ref q2, .ref q3, .int ((upd F 0 (0 : Int32)) 4), .int ((upd F 0 (0 : Int32)) 5), .int ((upd F 0 (0 : Int32)) 6), .int ((upd F 0 (0 : Int32)) 7), .int ((upd F 0 (0 : Int32)) 8), .int ((upd F 0 (0 : Int32)) 9), .long (J 10), .int ((upd F 0 (0 : Int32)) 11), .int ((upd F 0 (0 : Int32)) 12), .int ((upd F 0 (0 : Int32)) 13), .ref q4, .int ((upd F 0 (0 : Int32)) 15), .ref q5, .ref q6, .ref q7, .int ((upd F 0 (0 : Int32)) 19), .ref q8, .int ((upd F 0 (0 : Int32)) 21), .int ((upd F 0 (0 : Int32)) 22), .int ((upd F 0 (0 : Int32)) 23), .int ((upd F 0 (0 : Int32)) 24), .ref q9, .ref q10, .ref q11, .long (J 28)])), (q1, .inl (g.2 0, 376, .inl al))]) hD hS hA [0, 1] rfl
        refine va_callv (va_runV (As := [.int p1, .int (3 : Int32), .int p2]) (rest := []) S (wX9_layLeg l g qM q1 q2 q3 q4 q5 q6 q7 q8 q9 q10 q11 H.size (upd F 0 (0 : Int32)) J al p1 (3 : Int32) p2 (sX9_layLeg p_46 w_46 (upd F 0 (0 : Int32)) J al p1 (3 : Int32) p2 ho_5)) (cwV 3 hts gX9_longer_X9_layLeg rfl rfl rfl (by decide +kernel) ⟨Nat.le_of_ble_eq_true rfl, Nat.le_of_ble_eq_true rfl⟩) ⟨blindRW, va_recv hK hP (ci := 9) (q0 := 0) rfl rfl, fun U hU hW => ⟨rfl, by rw [hU], by rw [hU]; exact hPc, hG.warm hW, hDc.weaken (fun _ _ _ _ => trivial)⟩⟩ rfl rfl hl.1 rfl (lv_room (Nat.le_of_ble_eq_true rfl)) dX9_longer_46 ⟨Nat.le_of_ble_eq_true rfl, Nat.le_of_ble_eq_true rfl⟩) hS (fun q _ h => hFc q h) hFc (fun u t H1 locs ht hvm hw hB hz1 hk1 hS => ?_)
        obtain ⟨al_46, rfl⟩ : ∃ z, z = u := ⟨_, rfl⟩
        obtain ⟨hP1, hD1⟩ := hB
        rw [ht] at hP1
        have hv := hv al_46 hw
        obtain ⟨hP, hD⟩ := va_join (wr := [(q7, .inl (g.2 0, 200, .inl he)), (q8, .inl (g.2 0, 65, .inl ma))]) (w1 := [(qM, .inr (9, [.int (0 : Int32), .ref q1, .ref q2, .ref q3, .int (F 4), .int (F 5), .int (F 6), .int (F 7), .int (F 8), .int (F 9), .long (J 10), .int (F 11), .int (F 12), .int (F 13), .ref q4, .int (F 15), .ref q5, .ref q6, .ref q7, .int (F 19), .ref q8, .int (F 21), .int (F 22), .int (F 23), .int (F 24), .ref q9, .ref q10, .ref q11, .long (J 28)])), (q1, .inl (g.2 0, 376, .inl al_46))]) hP hD [0, 1] [2, 3] rfl rfl (by decide) (by decide) hk1 hFc hP1 hD1
        clear hP1 hD1 hPc hDc hFc hk1
        generalize H1 = H at hP hS ⊢
        have hP : va_P g.1 vwCl [(q7, .inl (g.2 0, 200, .inl he)), (q8, .inl (g.2 0, 65, .inl ma)), (qM, .inr (9, [.int (0 : Int32), .ref q1, .ref q2, .ref q3, .int (F 4), .int (F 5), .int (F 6), .int (F 7), .int (F 8), .int (F 9), .long (J 10), .int (F 11), .int (F 12), .int (F 13), .ref q4, .int (F 15), .ref q5, .ref q6, .ref q7, .int (F 19), .ref q8, .int (F 21), .int (F 22), .int (F 23), .int (F 24), .ref q9, .ref q10, .ref q11, .long (J 28)])), (q1, .inl (g.2 0, 376, .inl al_46))] H := hP
        have hD : va_D A [(q7, .inl (g.2 0, 200, .inl he)), (q8, .inl (g.2 0, 65, .inl ma)), (qM, .inr (9, [.int (0 : Int32), .ref q1, .ref q2, .ref q3, .int (F 4), .int (F 5), .int (F 6), .int (F 7), .int (F 8), .int (F 9), .long (J 10), .int (F 11), .int (F 12), .int (F 13), .ref q4, .int (F 15), .ref q5, .ref q6, .ref q7, .int (F 19), .ref q8, .int (F 21), .int (F 22), .int (F 23), .int (F 24), .ref q9, .ref q10, .ref q11, .long (J 28)])), (q1, .inl (g.2 0, 376, .inl al_46))] := hD
        refine lv_aload_n hx hb dX9_longer_49 rfl (lv_at hl 1 rfl) ?_
        refine lv_iload_n hx hb dX9_longer_50 rfl (lv_at hl 2 rfl) ?_
        obtain ⟨T_51, G0_51, G1_51, lg_51, lim_51, ho_6, hv⟩ := hv
        have hPc := hP.sub (ws' := [(qM, .inr (9, [.int ((upd F 0 (0 : Int32)) 0), .ref q1, .ref q2, .ref q3, .int ((upd F 0 (0 : Int32)) 4), .int ((upd F 0 (0 : Int32)) 5), .int ((upd F 0 (0 : Int32)) 6), .int ((upd F 0 (0 : Int32)) 7), .int ((upd F 0 (0 : Int32)) 8), .int ((upd F 0 (0 : Int32)) 9), .long (J 10), .int ((upd F 0 (0 : Int32)) 11), .int ((upd F 0 (0 : Int32)) 12), .int ((upd F 0 (0 : Int32)) 13), .ref q4, .int ((upd F 0 (0 : Int32)) 15), .ref q5, .ref q6, .ref q7, .int ((upd F 0 (0 : Int32)) 19), .ref q8, .int ((upd F 0 (0 : Int32)) 21), .int ((upd F 0 (0 : Int32)) 22), .int ((upd F 0 (0 : Int32)) 23), .int ((upd F 0 (0 : Int32)) 24), .ref q9, .ref q10, .ref q11, .long (J 28)])), (q1, .inl (g.2 0, 376, .inl al_46)), (q7, .inl (g.2 0, 200, .inl he)), (q8, .inl (g.2 0, 65, .inl ma))]) [2, 3, 0, 1] rfl
        have hDc := hD.sub (ws' := [(qM, .inr (9, [.int ((upd F 0 (0 : Int32)) 0), .ref q1, .ref q2, .ref q3, .int ((upd F 0 (0 : Int32)) 4), .int ((upd F 0 (0 : Int32)) 5), .int ((upd F 0 (0 : Int32)) 6), .int ((upd F 0 (0 : Int32)) 7), .int ((upd F 0 (0 : Int32)) 8), .int ((upd F 0 (0 : Int32)) 9), .long (J 10), .int ((upd F 0 (0 : Int32)) 11), .int ((upd F 0 (0 : Int32)) 12), .int ((upd F 0 (0 : Int32)) 13), .ref q4, .int ((upd F 0 (0 : Int32)) 15), .ref q5, .ref q6, .ref q7, .int ((upd F 0 (0 : Int32)) 19), .ref q8, .int ((upd F 0 (0 : Int32)) 21), .int ((upd F 0 (0 : Int32)) 22), .int ((upd F 0 (0 : Int32)) 23), .int ((upd F 0 (0 : Int32)) 24), .ref q9, .ref q10, .ref q11, .long (J 28)])), (q1, .inl (g.2 0, 376, .inl al_46)), (q7, .inl (g.2 0, 200, .inl he)), (q8, .inl (g.2 0, 65, .inl ma))]) [2, 3, 0, 1] (by decide) rfl
        have hFc := va_free (wc := [(qM, .inr (9, [.int ((upd F 0 (0 : Int32)) 0), .ref q1, .ref q2, .ref q3, .int ((upd F 0 (0 : Int32)) 4), .int ((upd F 0 (0 : Int32)) 5), .int ((upd F 0 (0 : Int32)) 6), .int ((upd F 0 (0 : Int32)) 7), .int ((upd F 0 (0 : Int32)) 8), .int ((upd F 0 (0 : Int32)) 9), .long (J 10), .int ((upd F 0 (0 : Int32)) 11), .int ((upd F 0 (0 : Int32)) 12), .int ((upd F 0 (0 : Int32)) 13), .ref q4, .int ((upd F 0 (0 : Int32)) 15), .ref q5, .ref q6, .ref q7, .int ((upd F 0 (0 : Int32)) 19), .ref q8, .int ((upd F 0 (0 : Int32)) 21), .int ((upd F 0 (0 : Int32)) 22), .int ((upd F 0 (0 : Int32)) 23), .int ((upd F 0 (0 : Int32)) 24), .ref q9, .ref q10, .ref q11, .long (J 28)])), (q1, .inl (g.2 0, 376, .inl al_46)), (q7, .inl (g.2 0, 200, .inl he)), (q8, .inl (g.2 0, 65, .inl ma))]) hD hS hA [2, 3, 0, 1] rfl
        refine va_callv (va_runV (As := [.int p1]) (rest := []) S (wX9_laysLeg l g qM q1 q2 q3 q4 q5 q6 q7 q8 q9 q10 q11 H.size (upd F 0 (0 : Int32)) J al_46 he ma p1 (sX9_laysLeg T_51 G0_51 G1_51 lg_51 lim_51 (upd F 0 (0 : Int32)) J al_46 he ma p1 ho_6)) (cwV 1 hts gX9_longer_X9_laysLeg rfl rfl rfl (by decide +kernel) ⟨Nat.le_of_ble_eq_true rfl, Nat.le_of_ble_eq_true rfl⟩) ⟨blindRW, va_recv hK hP (ci := 9) (q0 := 2) rfl rfl, fun U hU hW => ⟨rfl, by rw [hU], by rw [hU]; exact hPc, hG.warm hW, hDc.weaken (fun _ _ _ _ => trivial)⟩⟩ rfl rfl hl.1 rfl (lv_room (Nat.le_of_ble_eq_true rfl)) dX9_longer_51 ⟨Nat.le_of_ble_eq_true rfl, Nat.le_of_ble_eq_true rfl⟩) hS (fun q _ h => hFc q h) hFc (fun u t H1 locs ht hvm hw hB hz1 hk1 hS => ?_)
        obtain ⟨F_51, he_51, ma_51⟩ := u
        obtain ⟨hP1, hD1⟩ := hB
        rw [ht] at hP1
        have hv := hv F_51 he_51 ma_51 hw
        obtain ⟨hP, hD⟩ := va_join (wr := []) (w1 := [(qM, .inr (9, [.int (F_51 0), .ref q1, .ref q2, .ref q3, .int (F_51 4), .int (F_51 5), .int (F_51 6), .int (F_51 7), .int (F_51 8), .int (F_51 9), .long (J 10), .int (F_51 11), .int (F_51 12), .int (F_51 13), .ref q4, .int (F_51 15), .ref q5, .ref q6, .ref q7, .int (F_51 19), .ref q8, .int (F_51 21), .int (F_51 22), .int (F_51 23), .int (F_51 24), .ref q9, .ref q10, .ref q11, .long (J 28)])), (q1, .inl (g.2 0, 376, .inl al_46)), (q7, .inl (g.2 0, 200, .inl he_51)), (q8, .inl (g.2 0, 65, .inl ma_51))]) hP hD [2, 3, 0, 1] [] rfl rfl (by decide) (by decide) hk1 hFc hP1 hD1
        clear hP1 hD1 hPc hDc hFc hk1
        generalize H1 = H at hP hS ⊢
        have hP : va_P g.1 vwCl [(qM, .inr (9, [.int (F_51 0), .ref q1, .ref q2, .ref q3, .int (F_51 4), .int (F_51 5), .int (F_51 6), .int (F_51 7), .int (F_51 8), .int (F_51 9), .long (J 10), .int (F_51 11), .int (F_51 12), .int (F_51 13), .ref q4, .int (F_51 15), .ref q5, .ref q6, .ref q7, .int (F_51 19), .ref q8, .int (F_51 21), .int (F_51 22), .int (F_51 23), .int (F_51 24), .ref q9, .ref q10, .ref q11, .long (J 28)])), (q1, .inl (g.2 0, 376, .inl al_46)), (q7, .inl (g.2 0, 200, .inl he_51)), (q8, .inl (g.2 0, 65, .inl ma_51))] H := hP
        have hD : va_D A [(qM, .inr (9, [.int (F_51 0), .ref q1, .ref q2, .ref q3, .int (F_51 4), .int (F_51 5), .int (F_51 6), .int (F_51 7), .int (F_51 8), .int (F_51 9), .long (J 10), .int (F_51 11), .int (F_51 12), .int (F_51 13), .ref q4, .int (F_51 15), .ref q5, .ref q6, .ref q7, .int (F_51 19), .ref q8, .int (F_51 21), .int (F_51 22), .int (F_51 23), .int (F_51 24), .ref q9, .ref q10, .ref q11, .long (J 28)])), (q1, .inl (g.2 0, 376, .inl al_46)), (q7, .inl (g.2 0, 200, .inl he_51)), (q8, .inl (g.2 0, 65, .inl ma_51))] := hD
        refine lv_aload_n hx hb dX9_longer_54 rfl (lv_at hl 1 rfl) ?_
        refine lv_iload_n hx hb dX9_longer_55 rfl (lv_at hl 2 rfl) ?_
        refine lv_iconst (v := (3 : Int32)) hx hb dX9_longer_56 (by decide) ?_
        refine lv_iload hx hb dX9_longer_57 (lv_at hl 0 rfl) ?_
        obtain ⟨p_59, w_59, ho_7, hv⟩ := hv
        have hPc := hP.sub (ws' := [(qM, .inr (9, [.int (F_51 0), .ref q1, .ref q2, .ref q3, .int (F_51 4), .int (F_51 5), .int (F_51 6), .int (F_51 7), .int (F_51 8), .int (F_51 9), .long (J 10), .int (F_51 11), .int (F_51 12), .int (F_51 13), .ref q4, .int (F_51 15), .ref q5, .ref q6, .ref q7, .int (F_51 19), .ref q8, .int (F_51 21), .int (F_51 22), .int (F_51 23), .int (F_51 24), .ref q9, .ref q10, .ref q11, .long (J 28)])), (q1, .inl (g.2 0, 376, .inl al_46))]) [0, 1] rfl
        have hDc := hD.sub (ws' := [(qM, .inr (9, [.int (F_51 0), .ref q1, .ref q2, .ref q3, .int (F_51 4), .int (F_51 5), .int (F_51 6), .int (F_51 7), .int (F_51 8), .int (F_51 9), .long (J 10), .int (F_51 11), .int (F_51 12), .int (F_51 13), .ref q4, .int (F_51 15), .ref q5, .ref q6, .ref q7, .int (F_51 19), .ref q8, .int (F_51 21), .int (F_51 22), .int (F_51 23), .int (F_51 24), .ref q9, .ref q10, .ref q11, .long (J 28)])), (q1, .inl (g.2 0, 376, .inl al_46))]) [0, 1] (by decide) rfl
        have hFc := va_free (wc := [(qM, .inr (9, [.int (F_51 0), .ref q1, .ref q2, .ref q3, .int (F_51 4), .int (F_51 5), .int (F_51 6), .int (F_51 7), .int (F_51 8), .int (F_51 9), .long (J 10), .int (F_51 11), .int (F_51 12), .int (F_51 13), .ref q4, .int (F_51 15), .ref q5, .ref q6, .ref q7, .int (F_51 19), .ref q8, .int (F_51 21), .int (F_51 22), .int (F_51 23), .int (F_51 24), .ref q9, .ref q10, .ref q11, .long (J 28)])), (q1, .inl (g.2 0, 376, .inl al_46))]) hD hS hA [0, 1] rfl
        refine va_callv (va_runV (As := [.int p1, .int (3 : Int32), .int r_37]) (rest := []) S (wX9_layLeg l g qM q1 q2 q3 q4 q5 q6 q7 q8 q9 q10 q11 H.size F_51 J al_46 p1 (3 : Int32) r_37 (sX9_layLeg p_59 w_59 F_51 J al_46 p1 (3 : Int32) r_37 ho_7)) (cwV 3 hts gX9_longer_X9_layLeg rfl rfl rfl (by decide +kernel) ⟨Nat.le_of_ble_eq_true rfl, Nat.le_of_ble_eq_true rfl⟩) ⟨blindRW, va_recv hK hP (ci := 9) (q0 := 0) rfl rfl, fun U hU hW => ⟨rfl, by rw [hU], by rw [hU]; exact hPc, hG.warm hW, hDc.weaken (fun _ _ _ _ => trivial)⟩⟩ rfl rfl hl.1 rfl (lv_room (Nat.le_of_ble_eq_true rfl)) dX9_longer_59 ⟨Nat.le_of_ble_eq_true rfl, Nat.le_of_ble_eq_true rfl⟩) hS (fun q _ h => hFc q h) hFc (fun u t H1 locs ht hvm hw hB hz1 hk1 hS => ?_)
        obtain ⟨al_59, rfl⟩ : ∃ z, z = u := ⟨_, rfl⟩
        obtain ⟨hP1, hD1⟩ := hB
        rw [ht] at hP1
        have hv := hv al_59 hw
        obtain ⟨hP, hD⟩ := va_join (wr := [(q7, .inl (g.2 0, 200, .inl he_51)), (q8, .inl (g.2 0, 65, .inl ma_51))]) (w1 := [(qM, .inr (9, [.int (F_51 0), .ref q1, .ref q2, .ref q3, .int (F_51 4), .int (F_51 5), .int (F_51 6), .int (F_51 7), .int (F_51 8), .int (F_51 9), .long (J 10), .int (F_51 11), .int (F_51 12), .int (F_51 13), .ref q4, .int (F_51 15), .ref q5, .ref q6, .ref q7, .int (F_51 19), .ref q8, .int (F_51 21), .int (F_51 22), .int (F_51 23), .int (F_51 24), .ref q9, .ref q10, .ref q11, .long (J 28)])), (q1, .inl (g.2 0, 376, .inl al_59))]) hP hD [0, 1] [2, 3] rfl rfl (by decide) (by decide) hk1 hFc hP1 hD1
        clear hP1 hD1 hPc hDc hFc hk1
        generalize H1 = H at hP hS ⊢
        have hP : va_P g.1 vwCl [(q7, .inl (g.2 0, 200, .inl he_51)), (q8, .inl (g.2 0, 65, .inl ma_51)), (qM, .inr (9, [.int (F_51 0), .ref q1, .ref q2, .ref q3, .int (F_51 4), .int (F_51 5), .int (F_51 6), .int (F_51 7), .int (F_51 8), .int (F_51 9), .long (J 10), .int (F_51 11), .int (F_51 12), .int (F_51 13), .ref q4, .int (F_51 15), .ref q5, .ref q6, .ref q7, .int (F_51 19), .ref q8, .int (F_51 21), .int (F_51 22), .int (F_51 23), .int (F_51 24), .ref q9, .ref q10, .ref q11, .long (J 28)])), (q1, .inl (g.2 0, 376, .inl al_59))] H := hP
        have hD : va_D A [(q7, .inl (g.2 0, 200, .inl he_51)), (q8, .inl (g.2 0, 65, .inl ma_51)), (qM, .inr (9, [.int (F_51 0), .ref q1, .ref q2, .ref q3, .int (F_51 4), .int (F_51 5), .int (F_51 6), .int (F_51 7), .int (F_51 8), .int (F_51 9), .long (J 10), .int (F_51 11), .int (F_51 12), .int (F_51 13), .ref q4, .int (F_51 15), .ref q5, .ref q6, .ref q7, .int (F_51 19), .ref q8, .int (F_51 21), .int (F_51 22), .int (F_51 23), .int (F_51 24), .ref q9, .ref q10, .ref q11, .long (J 28)])), (q1, .inl (g.2 0, 376, .inl al_59))] := hD
        refine lv_aload_n hx hb dX9_longer_62 rfl (lv_at hl 1 rfl) ?_
        refine lv_iload_n hx hb dX9_longer_63 rfl (lv_at hl 4 rfl) ?_
        obtain ⟨T_64, b_64, lim_64, ho_8, hv⟩ := hv
        refine vp_callSi (W.runV (As := [.int p3]) (rest := []) S (wX9_told l g qM q1 q2 q3 q4 q5 q6 q7 q8 q9 q10 q11 F_51 J al_59 p3 (sX9_told T_64 b_64 lim_64 F_51 J al_59 p3 ho_8)) (cwV 1 hts gX9_longer_X9_told rfl rfl rfl (by decide +kernel) ⟨Nat.le_of_ble_eq_true rfl, Nat.le_of_ble_eq_true rfl⟩) ⟨blindRO, va_recv hK hP (ci := 9) (q0 := 2) rfl rfl, fun U hU hW => ⟨rfl, by rw [hU]; exact hP.sub (ws' := [(qM, .inr (9, [.int (F_51 0), .ref q1, .ref q2, .ref q3, .int (F_51 4), .int (F_51 5), .int (F_51 6), .int (F_51 7), .int (F_51 8), .int (F_51 9), .long (J 10), .int (F_51 11), .int (F_51 12), .int (F_51 13), .ref q4, .int (F_51 15), .ref q5, .ref q6, .ref q7, .int (F_51 19), .ref q8, .int (F_51 21), .int (F_51 22), .int (F_51 23), .int (F_51 24), .ref q9, .ref q10, .ref q11, .long (J 28)])), (q1, .inl (g.2 0, 376, .inl al_59))]) [2, 3] rfl, hG.warm hW⟩⟩ rfl rfl hl.1 rfl (lv_room (Nat.le_of_ble_eq_true rfl)) dX9_longer_64 ⟨Nat.le_of_ble_eq_true rfl, Nat.le_of_ble_eq_true rfl⟩) (fun r_64 hr_64 => ?_)
        have hv := hv r_64 hr_64
        have hP9 := hP.sub (ws' := [(qM, .inr (9, [.int (F_51 0), .ref q1, .ref q2, .ref q3, .int (F_51 4), .int (F_51 5), .int (F_51 6), .int (F_51 7), .int (F_51 8), .int (F_51 9), .long (J 10), .int (F_51 11), .int (F_51 12), .int (F_51 13), .ref q4, .int (F_51 15), .ref q5, .ref q6, .ref q7, .int (F_51 19), .ref q8, .int (F_51 21), .int (F_51 22), .int (F_51 23), .int (F_51 24), .ref q9, .ref q10, .ref q11, .long (J 28)])), (q1, .inl (g.2 0, 376, .inl al_59)), (q7, .inl (g.2 0, 200, .inl he_51)), (q8, .inl (g.2 0, 65, .inl ma_51))]) [2, 3, 0, 1] rfl
        have hD9 := hD.sub (ws' := [(qM, .inr (9, [.int (F_51 0), .ref q1, .ref q2, .ref q3, .int (F_51 4), .int (F_51 5), .int (F_51 6), .int (F_51 7), .int (F_51 8), .int (F_51 9), .long (J 10), .int (F_51 11), .int (F_51 12), .int (F_51 13), .ref q4, .int (F_51 15), .ref q5, .ref q6, .ref q7, .int (F_51 19), .ref q8, .int (F_51 21), .int (F_51 22), .int (F_51 23), .int (F_51 24), .ref q9, .ref q10, .ref q11, .long (J 28)])), (q1, .inl (g.2 0, 376, .inl al_59)), (q7, .inl (g.2 0, 200, .inl he_51)), (q8, .inl (g.2 0, 65, .inl ma_51))]) [2, 3, 0, 1] (by decide) rfl
        exact W.iret (v := r_64) hx hb hr (fun t ht hW => ⟨⟨_, (F_51, al_59, he_51, ma_51), rfl, hv, by rw [ht]; exact hP9, hD9⟩, hS.F ht⟩) hS.2.2 dX9_longer_67
      · have hv := hvf hc
        refine lv_iconst (v := (-1 : Int32)) hx hb dX9_longer_32 (by decide) ?_
        have hP9 := hP.sub (ws' := [(qM, .inr (9, [.int ((upd F 0 (0 : Int32)) 0), .ref q1, .ref q2, .ref q3, .int ((upd F 0 (0 : Int32)) 4), .int ((upd F 0 (0 : Int32)) 5), .int ((upd F 0 (0 : Int32)) 6), .int ((upd F 0 (0 : Int32)) 7), .int ((upd F 0 (0 : Int32)) 8), .int ((upd F 0 (0 : Int32)) 9), .long (J 10), .int ((upd F 0 (0 : Int32)) 11), .int ((upd F 0 (0 : Int32)) 12), .int ((upd F 0 (0 : Int32)) 13), .ref q4, .int ((upd F 0 (0 : Int32)) 15), .ref q5, .ref q6, .ref q7, .int ((upd F 0 (0 : Int32)) 19), .ref q8, .int ((upd F 0 (0 : Int32)) 21), .int ((upd F 0 (0 : Int32)) 22), .int ((upd F 0 (0 : Int32)) 23), .int ((upd F 0 (0 : Int32)) 24), .ref q9, .ref q10, .ref q11, .long (J 28)])), (q1, .inl (g.2 0, 376, .inl al)), (q7, .inl (g.2 0, 200, .inl he)), (q8, .inl (g.2 0, 65, .inl ma))]) [0, 1, 2, 3] rfl
        have hD9 := hD.sub (ws' := [(qM, .inr (9, [.int ((upd F 0 (0 : Int32)) 0), .ref q1, .ref q2, .ref q3, .int ((upd F 0 (0 : Int32)) 4), .int ((upd F 0 (0 : Int32)) 5), .int ((upd F 0 (0 : Int32)) 6), .int ((upd F 0 (0 : Int32)) 7), .int ((upd F 0 (0 : Int32)) 8), .int ((upd F 0 (0 : Int32)) 9), .long (J 10), .int ((upd F 0 (0 : Int32)) 11), .int ((upd F 0 (0 : Int32)) 12), .int ((upd F 0 (0 : Int32)) 13), .ref q4, .int ((upd F 0 (0 : Int32)) 15), .ref q5, .ref q6, .ref q7, .int ((upd F 0 (0 : Int32)) 19), .ref q8, .int ((upd F 0 (0 : Int32)) 21), .int ((upd F 0 (0 : Int32)) 22), .int ((upd F 0 (0 : Int32)) 23), .int ((upd F 0 (0 : Int32)) 24), .ref q9, .ref q10, .ref q11, .long (J 28)])), (q1, .inl (g.2 0, 376, .inl al)), (q7, .inl (g.2 0, 200, .inl he)), (q8, .inl (g.2 0, 65, .inl ma))]) [0, 1, 2, 3] (by decide) rfl
        exact W.iret (v := (-1 : Int32)) hx hb hr (fun t ht hW => ⟨⟨_, ((upd F 0 (0 : Int32)), al, he, ma), rfl, hv, by rw [ht]; exact hP9, hD9⟩, hS.F ht⟩) hS.2.2 dX9_longer_33
abbrev preX9_longer (T : Cd) (G0 : Lg) (G1 : Lg) (lim : Nat) (F : Nat → Int32) (J : Nat → Int64) (al : Nat → Int32) (he : Nat → Int32) (ma : Nat → Int32) (p1 : Int32) (p2 : Int32) (p3 : Int32) : Prop := fcR T G0 G1 lim al
abbrev postX9_longer (T : Cd) (G0 : Lg) (G1 : Lg) (lim : Nat) (F : Nat → Int32) (J : Nat → Int64) (al : Nat → Int32) (he : Nat → Int32) (ma : Nat → Int32) (p1 : Int32) (p2 : Int32) (p3 : Int32) (r : Int32) (F' : Nat → Int32) (al' : Nat → Int32) (he' : Nat → Int32) (ma' : Nat → Int32) : Prop := r.toInt = spLonger T G0 G1 lim p1.toInt p2.toInt p3.toInt ∧ al' = al
theorem sX9_longer (T : Cd) (G0 : Lg) (G1 : Lg) (lim : Nat) (F : Nat → Int32) (J : Nat → Int64) (al : Nat → Int32) (he : Nat → Int32) (ma : Nat → Int32) (p1 : Int32) (p2 : Int32) (p3 : Int32) (H : preX9_longer T G0 G1 lim F J al he ma p1 p2 p3) : vX9_longer F J al he ma p1 p2 p3 (postX9_longer T G0 G1 lim F J al he ma p1 p2 p3) := by
  obtain ⟨hT, h0, h1, hlim, hl9, hl1⟩ := id H
  unfold postX9_longer spLonger
  refine ⟨trivial, fun r hr => ?_⟩
  have hr : r = if p1.toInt = 0 ∨ p1.toInt = 1 then 1 else 0 := hr
  rw [hr, q_if1]
  refine ⟨fun hc => ⟨by rw [if_neg (fun q => hc q.1)]; rfl, rfl⟩, fun hc => ⟨trivial, fun r2 hr2 => ?_⟩⟩
  have hc := Decidable.not_not.mp hc
  have hr2 : r2 = if 1 ≤ p2.toInt ∧ p2.toInt ≤ 200 then 1 else 0 := hr2
  rw [hr2, q_if1]
  refine ⟨fun hd => ⟨by rw [if_neg (fun q => hd q.2)]; rfl, rfl⟩, fun hd => ⟨trivial, fun r3 hr3 => ?_⟩⟩
  have hd := Decidable.not_not.mp hd
  have hr3 : r3 = if 0 ≤ p3.toInt ∧ p3.toInt ≤ 5 then 1 else 0 := hr3
  rw [hr3, q_if1, if_pos ⟨hc, hd⟩]
  refine ⟨fun he => ?_, fun he => ⟨by rw [fdZ_out he]; rfl, rfl⟩⟩
  have he := Decidable.not_not.mp he
  have hl2 : p1.toInt.toNat < 2 := by omega
  have e1 : p1.toInt = (p1.toInt.toNat : Int) := by omega
  have e2 : p2.toInt = (p2.toInt.toNat : Int) := by omega
  have HS := fcR_S H hl2 (j := 3) (v := (p2.toInt.toNat : Int)) (Or.inr ⟨rfl, by omega, by omega⟩) e2
  refine ⟨p1.toInt.toNat, 3, ⟨e1, rfl, by omega⟩, fun r4 hr4 => ⟨p1.toInt.toNat, 3, ⟨e1, rfl, by omega⟩, fun al2 ha2 => ?_⟩⟩
  have ha2 : al2 = upd al (20 + 37 * p1.toInt.toNat + 3) p2 := ha2
  have hr4 : r4 = al (20 + 37 * p1.toInt.toNat + 3) := hr4
  refine ⟨T, _, _, p1.toInt.toNat, lim, by rw [ha2]; exact fcR_ll HS _ _ _ _ hc, fun F2 he2 ma2 hq => ?_⟩
  have h2 := rlC_of hq
  have hD := h2.2.2.1
  rw [bN_3 T G0 G1 lim hl2] at hD
  refine ⟨p1.toInt.toNat, 3, ⟨e1, rfl, by omega⟩, fun al3 ha3 => ?_⟩
  have ha3 : al3 = al := by
    have ha3 : al3 = upd al2 (20 + 37 * p1.toInt.toNat + 3) r4 := ha3
    rw [ha3, ha2]; exact upd_back hr4
  exact ⟨T, _, lim, ⟨fun p hp => (hT.2.1 p hp).2.1, hD, by rw [ha3]; exact hlim, hl9, he.1, he.2⟩, fun r5 hr5 => ⟨hr5, ha3⟩⟩
set_option maxRecDepth 20000 in
theorem ggX9_track_X9_isLeg : GoodIn wsX9_track wsX9_isLeg := goodIn_r _ [6, 7, 8, 5, 9] (by decide +kernel) (by decide +kernel)
set_option maxRecDepth 20000 in
theorem gX9_track_X9_isLeg : GoodIn wsX9_track (va_wsS RX9 182 yX9_isLeg wsX9_isLeg) := goodIn_app (goodIn_of _ (by decide +kernel)) ggX9_track_X9_isLeg
set_option maxRecDepth 20000 in
theorem ggX9_track_X9_in : GoodIn wsX9_track wsX9_in := goodIn_r _ [9] (by decide +kernel) (by decide +kernel)
set_option maxRecDepth 20000 in
theorem gX9_track_X9_in : GoodIn wsX9_track (va_wsS RX9 63 yX9_in wsX9_in) := goodIn_app (goodIn_of _ (by decide +kernel)) ggX9_track_X9_in
set_option maxRecDepth 20000 in
theorem ggX9_track_X9_ofLeg : GoodIn wsX9_track wsX9_ofLeg := goodIn_r _ [13, 14, 115, 116, 117, 118, 119, 120, 121, 122, 123, 124, 125, 126, 127, 128, 129, 130, 131, 132, 133, 134, 135, 136, 137, 138, 139, 140, 141, 142, 143] (by decide +kernel) (by decide +kernel)
set_option maxRecDepth 20000 in
theorem gX9_track_X9_ofLeg : GoodIn wsX9_track (wsV RX9 185 RX9 yX9_ofLeg wsX9_ofLeg) := goodIn_app (goodIn_of _ (by decide +kernel)) ggX9_track_X9_ofLeg
set_option maxRecDepth 20000 in
theorem ggX9_track_X9_layLeg : GoodIn wsX9_track wsX9_layLeg := goodIn_r _ [18, 14, 115, 116, 117, 118, 119, 120, 121, 122, 123, 124, 125, 126, 127, 128, 129, 130, 131, 132, 133, 134, 135, 136, 137, 138, 139, 140, 141, 142, 143] (by decide +kernel) (by decide +kernel)
set_option maxRecDepth 20000 in
theorem gX9_track_X9_layLeg : GoodIn wsX9_track (wsV RX9 188 RX9 yX9_layLeg wsX9_layLeg) := goodIn_app (goodIn_of _ (by decide +kernel)) ggX9_track_X9_layLeg
set_option maxRecDepth 20000 in
theorem ggX9_track_X9_laysLeg : GoodIn wsX9_track wsX9_laysLeg := goodIn_r _ [22, 2, 23, 24, 25, 26, 5, 27, 28, 29, 30, 31, 32, 33, 34, 35, 36, 10, 11, 12, 13, 14, 37, 38, 39, 40, 41, 42, 43, 44, 45, 46, 47, 48, 49, 50, 51, 52, 53, 54, 55, 56, 57, 58, 59, 60, 61, 62, 63, 64, 65, 66, 67, 68, 69, 7, 8, 9, 70, 71, 72, 73, 74, 75, 76, 77, 78, 79, 80, 81, 82, 83, 84, 85, 86, 87, 88, 89, 90, 91, 92, 93, 94, 95, 96, 97, 98, 99, 100, 101, 102, 103, 104, 105, 106, 107, 108, 109, 110, 111, 112, 113, 114, 115, 116, 117, 118, 119, 120, 121, 122, 123, 124, 125, 126, 127, 128, 129, 130, 131, 132, 133, 134, 135, 136, 137, 138, 139, 140, 141, 142, 143] (by decide +kernel) (by decide +kernel)
set_option maxRecDepth 20000 in
theorem gX9_track_X9_laysLeg : GoodIn wsX9_track (wsV RX9 294 RX9 yX9_laysLeg wsX9_laysLeg) := goodIn_app (goodIn_of _ (by decide +kernel)) ggX9_track_X9_laysLeg
theorem dX9_track_0 : decode cX9_track 0 = .ok (.aload_n 0, 1) := by decide +kernel
theorem dX9_track_1 : decode cX9_track 1 = .ok (.iconst 0, 1) := by decide +kernel
theorem dX9_track_2 : decode cX9_track 2 = .ok (.putfield 51, 3) := by decide +kernel
theorem dX9_track_5 : decode cX9_track 5 = .ok (.iload_n 1, 1) := by decide +kernel
theorem dX9_track_6 : decode cX9_track 6 = .ok (.invokestatic 182, 3) := by decide +kernel
theorem dX9_track_9 : decode cX9_track 9 = .ok (.ifCond .eq 24, 3) := by decide +kernel
theorem dX9_track_12 : decode cX9_track 12 = .ok (.iload_n 2, 1) := by decide +kernel
theorem dX9_track_13 : decode cX9_track 13 = .ok (.iconst 1, 1) := by decide +kernel
theorem dX9_track_14 : decode cX9_track 14 = .ok (.sipush 200, 3) := by decide +kernel
theorem dX9_track_17 : decode cX9_track 17 = .ok (.invokestatic 63, 3) := by decide +kernel
theorem dX9_track_20 : decode cX9_track 20 = .ok (.ifCond .eq 13, 3) := by decide +kernel
theorem dX9_track_23 : decode cX9_track 23 = .ok (.iload_n 3, 1) := by decide +kernel
theorem dX9_track_24 : decode cX9_track 24 = .ok (.iconst 0, 1) := by decide +kernel
theorem dX9_track_25 : decode cX9_track 25 = .ok (.bipush 20, 2) := by decide +kernel
theorem dX9_track_27 : decode cX9_track 27 = .ok (.invokestatic 63, 3) := by decide +kernel
theorem dX9_track_30 : decode cX9_track 30 = .ok (.ifCond .ne 6, 3) := by decide +kernel
theorem dX9_track_33 : decode cX9_track 33 = .ok (.bipush (-2), 2) := by decide +kernel
theorem dX9_track_35 : decode cX9_track 35 = .ok (.ireturn, 1) := by decide +kernel
theorem dX9_track_36 : decode cX9_track 36 = .ok (.aload_n 0, 1) := by decide +kernel
theorem dX9_track_37 : decode cX9_track 37 = .ok (.iload_n 1, 1) := by decide +kernel
theorem dX9_track_38 : decode cX9_track 38 = .ok (.iconst 2, 1) := by decide +kernel
theorem dX9_track_39 : decode cX9_track 39 = .ok (.invokevirtual 185, 3) := by decide +kernel
theorem dX9_track_42 : decode cX9_track 42 = .ok (.istore 4, 2) := by decide +kernel
theorem dX9_track_44 : decode cX9_track 44 = .ok (.aload_n 0, 1) := by decide +kernel
theorem dX9_track_45 : decode cX9_track 45 = .ok (.iload_n 1, 1) := by decide +kernel
theorem dX9_track_46 : decode cX9_track 46 = .ok (.iconst 2, 1) := by decide +kernel
theorem dX9_track_47 : decode cX9_track 47 = .ok (.iload 4, 2) := by decide +kernel
theorem dX9_track_49 : decode cX9_track 49 = .ok (.iload_n 3, 1) := by decide +kernel
theorem dX9_track_50 : decode cX9_track 50 = .ok (.iload_n 2, 1) := by decide +kernel
theorem dX9_track_51 : decode cX9_track 51 = .ok (.imul, 1) := by decide +kernel
theorem dX9_track_52 : decode cX9_track 52 = .ok (.iadd, 1) := by decide +kernel
theorem dX9_track_53 : decode cX9_track 53 = .ok (.invokevirtual 188, 3) := by decide +kernel
theorem dX9_track_56 : decode cX9_track 56 = .ok (.aload_n 0, 1) := by decide +kernel
theorem dX9_track_57 : decode cX9_track 57 = .ok (.iload_n 1, 1) := by decide +kernel
theorem dX9_track_58 : decode cX9_track 58 = .ok (.invokevirtual 294, 3) := by decide +kernel
theorem dX9_track_61 : decode cX9_track 61 = .ok (.aload_n 0, 1) := by decide +kernel
theorem dX9_track_62 : decode cX9_track 62 = .ok (.iload_n 1, 1) := by decide +kernel
theorem dX9_track_63 : decode cX9_track 63 = .ok (.iconst 2, 1) := by decide +kernel
theorem dX9_track_64 : decode cX9_track 64 = .ok (.iload 4, 2) := by decide +kernel
theorem dX9_track_66 : decode cX9_track 66 = .ok (.invokevirtual 188, 3) := by decide +kernel
theorem dX9_track_69 : decode cX9_track 69 = .ok (.aload_n 0, 1) := by decide +kernel
theorem dX9_track_70 : decode cX9_track 70 = .ok (.getfield 266, 3) := by decide +kernel
theorem dX9_track_73 : decode cX9_track 73 = .ok (.ireturn, 1) := by decide +kernel
abbrev rmX9_track : Room := { frames := 7, cells := 0, slots := 0, locals := 162 }
theorem inX9_track_9 : ∀ w ∈ wsX90, w ∈ wsX9_track := by decide +kernel
def vX9_track (F : Nat → Int32) (J : Nat → Int64) (al : Nat → Int32) (he : Nat → Int32) (ma : Nat → Int32) (p1 : Int32) (p2 : Int32) (p3 : Int32) (Q : Int32 → (Nat → Int32) → (Nat → Int32) → (Nat → Int32) → (Nat → Int32) → Prop) : Prop := (preX9_isLeg p1 ∧ (∀ r_6 : Int32, postX9_isLeg p1 r_6 → ((r_6 = 0 → (Q (-2 : Int32) (upd F 0 (0 : Int32)) al he ma)) ∧ (¬ r_6 = 0 → (preX9_in p2 (1 : Int32) (200 : Int32) ∧ (∀ r_17 : Int32, postX9_in p2 (1 : Int32) (200 : Int32) r_17 → ((r_17 = 0 → (Q (-2 : Int32) (upd F 0 (0 : Int32)) al he ma)) ∧ (¬ r_17 = 0 → (preX9_in p3 (0 : Int32) (20 : Int32) ∧ (∀ r_27 : Int32, postX9_in p3 (0 : Int32) (20 : Int32) r_27 → ((¬ r_27 = 0 → (∃ (p_39 : Nat) (w_39 : Nat), preX9_ofLeg p_39 w_39 (upd F 0 (0 : Int32)) J al p1 (2 : Int32) ∧ (∀ r_39 : Int32, postX9_ofLeg p_39 w_39 (upd F 0 (0 : Int32)) J al p1 (2 : Int32) r_39 → (∃ (p_53 : Nat) (w_53 : Nat), preX9_layLeg p_53 w_53 (upd F 0 (0 : Int32)) J al p1 (2 : Int32) (r_39 + (p3 * p2)) ∧ (∀ (al_53 : Nat → Int32), postX9_layLeg p_53 w_53 (upd F 0 (0 : Int32)) J al p1 (2 : Int32) (r_39 + (p3 * p2)) al_53 → (∃ (T_58 : Cd) (G0_58 : Lg) (G1_58 : Lg) (lg_58 : Nat) (lim_58 : Nat), preX9_laysLeg T_58 G0_58 G1_58 lg_58 lim_58 (upd F 0 (0 : Int32)) J al_53 he ma p1 ∧ (∀ (F_58 : Nat → Int32) (he_58 : Nat → Int32) (ma_58 : Nat → Int32), postX9_laysLeg T_58 G0_58 G1_58 lg_58 lim_58 (upd F 0 (0 : Int32)) J al_53 he ma p1 F_58 he_58 ma_58 → (∃ (p_66 : Nat) (w_66 : Nat), preX9_layLeg p_66 w_66 F_58 J al_53 p1 (2 : Int32) r_39 ∧ (∀ (al_66 : Nat → Int32), postX9_layLeg p_66 w_66 F_58 J al_53 p1 (2 : Int32) r_39 al_66 → (Q (F_58 21) F_58 al_66 he_58 ma_58)))))))))) ∧ (r_27 = 0 → (Q (-2 : Int32) (upd F 0 (0 : Int32)) al he ma)))))))))))))
set_option maxHeartbeats 4000000 in
set_option maxRecDepth 100000 in
theorem wX9_track (l : Launch) (g : GP) (qM : Nat) (q1 : Nat) (q2 : Nat) (q3 : Nat) (q4 : Nat) (q5 : Nat) (q6 : Nat) (q7 : Nat) (q8 : Nat) (q9 : Nat) (q10 : Nat) (q11 : Nat) (sz : Nat) (F : Nat → Int32) (J : Nat → Int64) (al : Nat → Int32) (he : Nat → Int32) (ma : Nat → Int32) (p1 : Int32) (p2 : Int32) (p3 : Int32) {Q : Int32 → (Nat → Int32) → (Nat → Int32) → (Nat → Int32) → (Nat → Int32) → Prop} (hv : vX9_track F J al he ma p1 p2 p3 Q) : Met l yX9_track wsX9_track rmX9_track (va_Pc [.ref qM, .int p1, .int p2, .int p3] (fun U => U.heap.size = sz ∧ va_P g.1 vwCl [(qM, .inr (9, [.int (F 0), .ref q1, .ref q2, .ref q3, .int (F 4), .int (F 5), .int (F 6), .int (F 7), .int (F 8), .int (F 9), .long (J 10), .int (F 11), .int (F 12), .int (F 13), .ref q4, .int (F 15), .ref q5, .ref q6, .ref q7, .int (F 19), .ref q8, .int (F 21), .int (F 22), .int (F 23), .int (F 24), .ref q9, .ref q10, .ref q11, .long (J 28)])), (q1, .inl (g.2 0, 376, .inl al)), (q7, .inl (g.2 0, 200, .inl he)), (q8, .inl (g.2 0, 65, .inl ma))] U.heap ∧ GK g U ∧ va_D (fun _ => True) [(qM, .inr (9, [.int (F 0), .ref q1, .ref q2, .ref q3, .int (F 4), .int (F 5), .int (F 6), .int (F 7), .int (F 8), .int (F 9), .long (J 10), .int (F 11), .int (F 12), .int (F 13), .ref q4, .int (F 15), .ref q5, .ref q6, .ref q7, .int (F 19), .ref q8, .int (F 21), .int (F 22), .int (F 23), .int (F 24), .ref q9, .ref q10, .ref q11, .long (J 28)])), (q1, .inl (g.2 0, 376, .inl al)), (q7, .inl (g.2 0, 200, .inl he)), (q8, .inl (g.2 0, 65, .inl ma))])) (va_Qi (fun (r : Int32) (u : (Nat → Int32) × (Nat → Int32) × (Nat → Int32) × (Nat → Int32)) => Q r u.1 u.2.1 u.2.2.1 u.2.2.2) (fun (u : (Nat → Int32) × (Nat → Int32) × (Nat → Int32) × (Nat → Int32)) t => va_P g.1 vwCl [(qM, .inr (9, [.int (u.1 0), .ref q1, .ref q2, .ref q3, .int (u.1 4), .int (u.1 5), .int (u.1 6), .int (u.1 7), .int (u.1 8), .int (u.1 9), .long (J 10), .int (u.1 11), .int (u.1 12), .int (u.1 13), .ref q4, .int (u.1 15), .ref q5, .ref q6, .ref q7, .int (u.1 19), .ref q8, .int (u.1 21), .int (u.1 22), .int (u.1 23), .int (u.1 24), .ref q9, .ref q10, .ref q11, .long (J 28)])), (q1, .inl (g.2 0, 376, .inl u.2.1)), (q7, .inl (g.2 0, 200, .inl u.2.2.1)), (q8, .inl (g.2 0, 65, .inl u.2.2.2))] t.heap ∧ va_D (va_A [(qM, .inr (9, [.int (F 0), .ref q1, .ref q2, .ref q3, .int (F 4), .int (F 5), .int (F 6), .int (F 7), .int (F 8), .int (F 9), .long (J 10), .int (F 11), .int (F 12), .int (F 13), .ref q4, .int (F 15), .ref q5, .ref q6, .ref q7, .int (F 19), .ref q8, .int (F 21), .int (F 22), .int (F 23), .int (F 24), .ref q9, .ref q10, .ref q11, .long (J 28)])), (q1, .inl (g.2 0, 376, .inl al)), (q7, .inl (g.2 0, 200, .inl he)), (q8, .inl (g.2 0, 65, .inl ma))] sz) [(qM, .inr (9, [.int (u.1 0), .ref q1, .ref q2, .ref q3, .int (u.1 4), .int (u.1 5), .int (u.1 6), .int (u.1 7), .int (u.1 8), .int (u.1 9), .long (J 10), .int (u.1 11), .int (u.1 12), .int (u.1 13), .ref q4, .int (u.1 15), .ref q5, .ref q6, .ref q7, .int (u.1 19), .ref q8, .int (u.1 21), .int (u.1 22), .int (u.1 23), .int (u.1 24), .ref q9, .ref q10, .ref q11, .long (J 28)])), (q1, .inl (g.2 0, 376, .inl u.2.1)), (q7, .inl (g.2 0, 200, .inl u.2.2.1)), (q8, .inl (g.2 0, 65, .inl u.2.2.2))]) (va_A [(qM, .inr (9, [.int (F 0), .ref q1, .ref q2, .ref q3, .int (F 4), .int (F 5), .int (F 6), .int (F 7), .int (F 8), .int (F 9), .long (J 10), .int (F 11), .int (F 12), .int (F 13), .ref q4, .int (F 15), .ref q5, .ref q6, .ref q7, .int (F 19), .ref q8, .int (F 21), .int (F 22), .int (F 23), .int (F 24), .ref q9, .ref q10, .ref q11, .long (J 28)])), (q1, .inl (g.2 0, 376, .inl al)), (q7, .inl (g.2 0, 200, .inl he)), (q8, .inl (g.2 0, 65, .inl ma))] sz)) 0 0 (va_A [(qM, .inr (9, [.int (F 0), .ref q1, .ref q2, .ref q3, .int (F 4), .int (F 5), .int (F 6), .int (F 7), .int (F 8), .int (F 9), .long (J 10), .int (F 11), .int (F 12), .int (F 13), .ref q4, .int (F 15), .ref q5, .ref q6, .ref q7, .int (F 19), .ref q8, .int (F 21), .int (F 22), .int (F 23), .int (F 24), .ref q9, .ref q10, .ref q11, .long (J 28)])), (q1, .inl (g.2 0, 376, .inl al)), (q7, .inl (g.2 0, 200, .inl he)), (q8, .inl (g.2 0, 65, .inl ma))] sz) := by
  refine Met.ofW (cc := cX9_track) (maxL := 5) (ret := (some .int)) (by decide) rfl ?_
  intro p e s m args below meth c s₁ B hml hv'
  obtain ⟨rfl, hsz, hP, hG, hD0⟩ := hv'
  have S : CallFix p m c cX9_track 5 s _ wsX9_track RX9 := ⟨B.exec, B.bytes, hml, findClass_of_methodNamed B.named, atoms_spec (ws := wsX9_track) B.pre⟩
  obtain ⟨hx, hb, hml, hown, hts⟩ := id S
  have hK := hG.1
  have hr := B.returns
  have hlocks := B.notSynchronized
  subst hsz
  have hD := hD0.self (sz := s.heap.size)
  generalize hAe : va_A [(qM, .inr (9, [.int (F 0), .ref q1, .ref q2, .ref q3, .int (F 4), .int (F 5), .int (F 6), .int (F 7), .int (F 8), .int (F 9), .long (J 10), .int (F 11), .int (F 12), .int (F 13), .ref q4, .int (F 15), .ref q5, .ref q6, .ref q7, .int (F 19), .ref q8, .int (F 21), .int (F 22), .int (F 23), .int (F 24), .ref q9, .ref q10, .ref q11, .long (J 28)])), (q1, .inl (g.2 0, 376, .inl al)), (q7, .inl (g.2 0, 200, .inl he)), (q8, .inl (g.2 0, 65, .inl ma))] s.heap.size = A at hD ⊢
  have hA : ∀ q : Nat, s.heap.size ≤ q → A q := fun q h => by rw [← hAe]; exact Or.inr h
  have hS : va_S A s.heap s.heap [] := va_S.rf
  clear hD0 hAe
  have hl := lv_entry ([.ref qM, .int p1, .int p2, .int p3]) (n := 5) (Nat.le_of_ble_eq_true rfl)
  rw [lg_entry_eq]
  generalize (lg_sl ([.ref qM, .int p1, .int p2, .int p3]) ++ List.replicate (5 - (lg_sl ([.ref qM, .int p1, .int p2, .int p3])).length) Slot.unset).toArray = ls at hl ⊢
  have hl : lv_has ls 5 [(0, .ref qM), (1, .int p1), (2, .int p2), (3, .int p3)] := hl
  unfold vX9_track at hv
  refine lv_aload_n hx hb dX9_track_0 rfl (lv_at hl 0 rfl) ?_
  refine lv_iconst (v := (0 : Int32)) hx hb dX9_track_1 (by decide) ?_
  refine va_put (D := g.1) (ci := 9) (v := .int (0 : Int32)) (ty := .int) (C := RX9) (T := TX9) (N := 29) hx hb hts inX9_track_9 tyX9 tyX9_ok nmX9 hown hK hP hD hS 0 rfl rfl 0 (by decide) (hts (.fieldLink RX9 51 "RangeCodesModel" "raised" "I") (List.mem_of_getElem? (i := 1) rfl)) (fun _ h9 => h9) rfl (by decide +kernel) rfl rfl (Nat.le_of_ble_eq_true rfl) dX9_track_2 (fun H locs hP hD hS => ?_)
  have hP : va_P g.1 vwCl [(qM, .inr (9, [.int (0 : Int32), .ref q1, .ref q2, .ref q3, .int (F 4), .int (F 5), .int (F 6), .int (F 7), .int (F 8), .int (F 9), .long (J 10), .int (F 11), .int (F 12), .int (F 13), .ref q4, .int (F 15), .ref q5, .ref q6, .ref q7, .int (F 19), .ref q8, .int (F 21), .int (F 22), .int (F 23), .int (F 24), .ref q9, .ref q10, .ref q11, .long (J 28)])), (q1, .inl (g.2 0, 376, .inl al)), (q7, .inl (g.2 0, 200, .inl he)), (q8, .inl (g.2 0, 65, .inl ma))] H := hP
  have hD : va_D A [(qM, .inr (9, [.int (0 : Int32), .ref q1, .ref q2, .ref q3, .int (F 4), .int (F 5), .int (F 6), .int (F 7), .int (F 8), .int (F 9), .long (J 10), .int (F 11), .int (F 12), .int (F 13), .ref q4, .int (F 15), .ref q5, .ref q6, .ref q7, .int (F 19), .ref q8, .int (F 21), .int (F 22), .int (F 23), .int (F 24), .ref q9, .ref q10, .ref q11, .long (J 28)])), (q1, .inl (g.2 0, 376, .inl al)), (q7, .inl (g.2 0, 200, .inl he)), (q8, .inl (g.2 0, 65, .inl ma))] := hD
  refine lv_iload_n hx hb dX9_track_5 rfl (lv_at hl 1 rfl) ?_
  obtain ⟨ho_1, hv⟩ := hv
  refine vp_callSi (W.runS (As := [.int p1]) (rest := []) S (wX9_isLeg l g p1 (sX9_isLeg p1 ho_1)) (va_cwS 1 hts gX9_track_X9_isLeg rfl rfl rfl (by decide +kernel) ⟨Nat.le_of_ble_eq_true rfl, Nat.le_of_ble_eq_true rfl⟩) ⟨blindRO, fun U hU hW => ⟨rfl, by rw [hU]; exact hP.sub (ws' := []) [] rfl, hG.warm hW⟩⟩ rfl rfl hl.1 rfl (lv_room (Nat.le_of_ble_eq_true rfl)) dX9_track_6 ⟨Nat.le_of_ble_eq_true rfl, Nat.le_of_ble_eq_true rfl⟩) (fun r_6 hr_6 => ?_)
  have hv := hv r_6 hr_6
  obtain ⟨hvt, hvf⟩ := hv
  refine lv_if_eq (tgt := 33) hx hb dX9_track_9 (by decide) (fun hc => ?_) (fun hc => ?_)
  · have hv := hvt hc
    refine lv_bipush (v := (-2 : Int32)) hx hb dX9_track_33 (by decide) ?_
    have hP9 := hP.sub (ws' := [(qM, .inr (9, [.int ((upd F 0 (0 : Int32)) 0), .ref q1, .ref q2, .ref q3, .int ((upd F 0 (0 : Int32)) 4), .int ((upd F 0 (0 : Int32)) 5), .int ((upd F 0 (0 : Int32)) 6), .int ((upd F 0 (0 : Int32)) 7), .int ((upd F 0 (0 : Int32)) 8), .int ((upd F 0 (0 : Int32)) 9), .long (J 10), .int ((upd F 0 (0 : Int32)) 11), .int ((upd F 0 (0 : Int32)) 12), .int ((upd F 0 (0 : Int32)) 13), .ref q4, .int ((upd F 0 (0 : Int32)) 15), .ref q5, .ref q6, .ref q7, .int ((upd F 0 (0 : Int32)) 19), .ref q8, .int ((upd F 0 (0 : Int32)) 21), .int ((upd F 0 (0 : Int32)) 22), .int ((upd F 0 (0 : Int32)) 23), .int ((upd F 0 (0 : Int32)) 24), .ref q9, .ref q10, .ref q11, .long (J 28)])), (q1, .inl (g.2 0, 376, .inl al)), (q7, .inl (g.2 0, 200, .inl he)), (q8, .inl (g.2 0, 65, .inl ma))]) [0, 1, 2, 3] rfl
    have hD9 := hD.sub (ws' := [(qM, .inr (9, [.int ((upd F 0 (0 : Int32)) 0), .ref q1, .ref q2, .ref q3, .int ((upd F 0 (0 : Int32)) 4), .int ((upd F 0 (0 : Int32)) 5), .int ((upd F 0 (0 : Int32)) 6), .int ((upd F 0 (0 : Int32)) 7), .int ((upd F 0 (0 : Int32)) 8), .int ((upd F 0 (0 : Int32)) 9), .long (J 10), .int ((upd F 0 (0 : Int32)) 11), .int ((upd F 0 (0 : Int32)) 12), .int ((upd F 0 (0 : Int32)) 13), .ref q4, .int ((upd F 0 (0 : Int32)) 15), .ref q5, .ref q6, .ref q7, .int ((upd F 0 (0 : Int32)) 19), .ref q8, .int ((upd F 0 (0 : Int32)) 21), .int ((upd F 0 (0 : Int32)) 22), .int ((upd F 0 (0 : Int32)) 23), .int ((upd F 0 (0 : Int32)) 24), .ref q9, .ref q10, .ref q11, .long (J 28)])), (q1, .inl (g.2 0, 376, .inl al)), (q7, .inl (g.2 0, 200, .inl he)), (q8, .inl (g.2 0, 65, .inl ma))]) [0, 1, 2, 3] (by decide) rfl
    exact W.iret (v := (-2 : Int32)) hx hb hr (fun t ht hW => ⟨⟨_, ((upd F 0 (0 : Int32)), al, he, ma), rfl, hv, by rw [ht]; exact hP9, hD9⟩, hS.F ht⟩) hS.2.2 dX9_track_35
  · have hv := hvf hc
    refine lv_iload_n hx hb dX9_track_12 rfl (lv_at hl 2 rfl) ?_
    refine lv_iconst (v := (1 : Int32)) hx hb dX9_track_13 (by decide) ?_
    refine lv_sipush (v := (200 : Int32)) hx hb dX9_track_14 (by decide) ?_
    obtain ⟨ho_2, hv⟩ := hv
    refine vp_callSi (W.runS (As := [.int p2, .int (1 : Int32), .int (200 : Int32)]) (rest := []) S (wX9_in l g p2 (1 : Int32) (200 : Int32) (sX9_in p2 (1 : Int32) (200 : Int32) ho_2)) (va_cwS 3 hts gX9_track_X9_in rfl rfl rfl (by decide +kernel) ⟨Nat.le_of_ble_eq_true rfl, Nat.le_of_ble_eq_true rfl⟩) ⟨blindRO, fun U hU hW => ⟨rfl, by rw [hU]; exact hP.sub (ws' := []) [] rfl, hG.warm hW⟩⟩ rfl rfl hl.1 rfl (lv_room (Nat.le_of_ble_eq_true rfl)) dX9_track_17 ⟨Nat.le_of_ble_eq_true rfl, Nat.le_of_ble_eq_true rfl⟩) (fun r_17 hr_17 => ?_)
    have hv := hv r_17 hr_17
    obtain ⟨hvt, hvf⟩ := hv
    refine lv_if_eq (tgt := 33) hx hb dX9_track_20 (by decide) (fun hc => ?_) (fun hc => ?_)
    · have hv := hvt hc
      refine lv_bipush (v := (-2 : Int32)) hx hb dX9_track_33 (by decide) ?_
      have hP9 := hP.sub (ws' := [(qM, .inr (9, [.int ((upd F 0 (0 : Int32)) 0), .ref q1, .ref q2, .ref q3, .int ((upd F 0 (0 : Int32)) 4), .int ((upd F 0 (0 : Int32)) 5), .int ((upd F 0 (0 : Int32)) 6), .int ((upd F 0 (0 : Int32)) 7), .int ((upd F 0 (0 : Int32)) 8), .int ((upd F 0 (0 : Int32)) 9), .long (J 10), .int ((upd F 0 (0 : Int32)) 11), .int ((upd F 0 (0 : Int32)) 12), .int ((upd F 0 (0 : Int32)) 13), .ref q4, .int ((upd F 0 (0 : Int32)) 15), .ref q5, .ref q6, .ref q7, .int ((upd F 0 (0 : Int32)) 19), .ref q8, .int ((upd F 0 (0 : Int32)) 21), .int ((upd F 0 (0 : Int32)) 22), .int ((upd F 0 (0 : Int32)) 23), .int ((upd F 0 (0 : Int32)) 24), .ref q9, .ref q10, .ref q11, .long (J 28)])), (q1, .inl (g.2 0, 376, .inl al)), (q7, .inl (g.2 0, 200, .inl he)), (q8, .inl (g.2 0, 65, .inl ma))]) [0, 1, 2, 3] rfl
      have hD9 := hD.sub (ws' := [(qM, .inr (9, [.int ((upd F 0 (0 : Int32)) 0), .ref q1, .ref q2, .ref q3, .int ((upd F 0 (0 : Int32)) 4), .int ((upd F 0 (0 : Int32)) 5), .int ((upd F 0 (0 : Int32)) 6), .int ((upd F 0 (0 : Int32)) 7), .int ((upd F 0 (0 : Int32)) 8), .int ((upd F 0 (0 : Int32)) 9), .long (J 10), .int ((upd F 0 (0 : Int32)) 11), .int ((upd F 0 (0 : Int32)) 12), .int ((upd F 0 (0 : Int32)) 13), .ref q4, .int ((upd F 0 (0 : Int32)) 15), .ref q5, .ref q6, .ref q7, .int ((upd F 0 (0 : Int32)) 19), .ref q8, .int ((upd F 0 (0 : Int32)) 21), .int ((upd F 0 (0 : Int32)) 22), .int ((upd F 0 (0 : Int32)) 23), .int ((upd F 0 (0 : Int32)) 24), .ref q9, .ref q10, .ref q11, .long (J 28)])), (q1, .inl (g.2 0, 376, .inl al)), (q7, .inl (g.2 0, 200, .inl he)), (q8, .inl (g.2 0, 65, .inl ma))]) [0, 1, 2, 3] (by decide) rfl
      exact W.iret (v := (-2 : Int32)) hx hb hr (fun t ht hW => ⟨⟨_, ((upd F 0 (0 : Int32)), al, he, ma), rfl, hv, by rw [ht]; exact hP9, hD9⟩, hS.F ht⟩) hS.2.2 dX9_track_35
    · have hv := hvf hc
      refine lv_iload_n hx hb dX9_track_23 rfl (lv_at hl 3 rfl) ?_
      refine lv_iconst (v := (0 : Int32)) hx hb dX9_track_24 (by decide) ?_
      refine lv_bipush (v := (20 : Int32)) hx hb dX9_track_25 (by decide) ?_
      obtain ⟨ho_3, hv⟩ := hv
      refine vp_callSi (W.runS (As := [.int p3, .int (0 : Int32), .int (20 : Int32)]) (rest := []) S (wX9_in l g p3 (0 : Int32) (20 : Int32) (sX9_in p3 (0 : Int32) (20 : Int32) ho_3)) (va_cwS 3 hts gX9_track_X9_in rfl rfl rfl (by decide +kernel) ⟨Nat.le_of_ble_eq_true rfl, Nat.le_of_ble_eq_true rfl⟩) ⟨blindRO, fun U hU hW => ⟨rfl, by rw [hU]; exact hP.sub (ws' := []) [] rfl, hG.warm hW⟩⟩ rfl rfl hl.1 rfl (lv_room (Nat.le_of_ble_eq_true rfl)) dX9_track_27 ⟨Nat.le_of_ble_eq_true rfl, Nat.le_of_ble_eq_true rfl⟩) (fun r_27 hr_27 => ?_)
      have hv := hv r_27 hr_27
      obtain ⟨hvt, hvf⟩ := hv
      refine lv_if_ne (tgt := 36) hx hb dX9_track_30 (by decide) (fun hc => ?_) (fun hc => ?_)
      · have hv := hvt hc
        refine lv_aload_n hx hb dX9_track_36 rfl (lv_at hl 0 rfl) ?_
        refine lv_iload_n hx hb dX9_track_37 rfl (lv_at hl 1 rfl) ?_
        refine lv_iconst (v := (2 : Int32)) hx hb dX9_track_38 (by decide) ?_
        obtain ⟨p_39, w_39, ho_4, hv⟩ := hv
        refine vp_callSi (W.runV (As := [.int p1, .int (2 : Int32)]) (rest := []) S (wX9_ofLeg l g qM q1 q2 q3 q4 q5 q6 q7 q8 q9 q10 q11 (upd F 0 (0 : Int32)) J al p1 (2 : Int32) (sX9_ofLeg p_39 w_39 (upd F 0 (0 : Int32)) J al p1 (2 : Int32) ho_4)) (cwV 2 hts gX9_track_X9_ofLeg rfl rfl rfl (by decide +kernel) ⟨Nat.le_of_ble_eq_true rfl, Nat.le_of_ble_eq_true rfl⟩) ⟨blindRO, va_recv hK hP (ci := 9) (q0 := 0) rfl rfl, fun U hU hW => ⟨rfl, by rw [hU]; exact hP.sub (ws' := [(qM, .inr (9, [.int ((upd F 0 (0 : Int32)) 0), .ref q1, .ref q2, .ref q3, .int ((upd F 0 (0 : Int32)) 4), .int ((upd F 0 (0 : Int32)) 5), .int ((upd F 0 (0 : Int32)) 6), .int ((upd F 0 (0 : Int32)) 7), .int ((upd F 0 (0 : Int32)) 8), .int ((upd F 0 (0 : Int32)) 9), .long (J 10), .int ((upd F 0 (0 : Int32)) 11), .int ((upd F 0 (0 : Int32)) 12), .int ((upd F 0 (0 : Int32)) 13), .ref q4, .int ((upd F 0 (0 : Int32)) 15), .ref q5, .ref q6, .ref q7, .int ((upd F 0 (0 : Int32)) 19), .ref q8, .int ((upd F 0 (0 : Int32)) 21), .int ((upd F 0 (0 : Int32)) 22), .int ((upd F 0 (0 : Int32)) 23), .int ((upd F 0 (0 : Int32)) 24), .ref q9, .ref q10, .ref q11, .long (J 28)])), (q1, .inl (g.2 0, 376, .inl al))]) [0, 1] rfl, hG.warm hW⟩⟩ rfl rfl hl.1 rfl (lv_room (Nat.le_of_ble_eq_true rfl)) dX9_track_39 ⟨Nat.le_of_ble_eq_true rfl, Nat.le_of_ble_eq_true rfl⟩) (fun r_39 hr_39 => ?_)
        have hv := hv r_39 hr_39
        refine lv_istore (lv' := [(4, .int r_39), (0, .ref qM), (1, .int p1), (2, .int p2), (3, .int p3)]) hx hb dX9_track_42 hl (by decide) rfl (fun ls hl => ?_)
        refine lv_aload_n hx hb dX9_track_44 rfl (lv_at hl 1 rfl) ?_
        refine lv_iload_n hx hb dX9_track_45 rfl (lv_at hl 2 rfl) ?_
        refine lv_iconst (v := (2 : Int32)) hx hb dX9_track_46 (by decide) ?_
        refine lv_iload hx hb dX9_track_47 (lv_at hl 0 rfl) ?_
        refine lv_iload_n hx hb dX9_track_49 rfl (lv_at hl 4 rfl) ?_
        refine lv_iload_n hx hb dX9_track_50 rfl (lv_at hl 3 rfl) ?_
        refine lv_imul hx hb dX9_track_51 ?_
        refine lv_iadd hx hb dX9_track_52 ?_
        obtain ⟨p_53, w_53, ho_5, hv⟩ := hv
        have hPc := hP.sub (ws' := [(qM, .inr (9, [.int ((upd F 0 (0 : Int32)) 0), .ref q1, .ref q2, .ref q3, .int ((upd F 0 (0 : Int32)) 4), .int ((upd F 0 (0 : Int32)) 5), .int ((upd F 0 (0 : Int32)) 6), .int ((upd F 0 (0 : Int32)) 7), .int ((upd F 0 (0 : Int32)) 8), .int ((upd F 0 (0 : Int32)) 9), .long (J 10), .int ((upd F 0 (0 : Int32)) 11), .int ((upd F 0 (0 : Int32)) 12), .int ((upd F 0 (0 : Int32)) 13), .ref q4, .int ((upd F 0 (0 : Int32)) 15), .ref q5, .ref q6, .ref q7, .int ((upd F 0 (0 : Int32)) 19), .ref q8, .int ((upd F 0 (0 : Int32)) 21), .int ((upd F 0 (0 : Int32)) 22), .int ((upd F 0 (0 : Int32)) 23), .int ((upd F 0 (0 : Int32)) 24), .ref q9, .ref q10, .ref q11, .long (J 28)])), (q1, .inl (g.2 0, 376, .inl al))]) [0, 1] rfl
        have hDc := hD.sub (ws' := [(qM, .inr (9, [.int ((upd F 0 (0 : Int32)) 0), .ref q1, .ref q2, .ref q3, .int ((upd F 0 (0 : Int32)) 4), .int ((upd F 0 (0 : Int32)) 5), .int ((upd F 0 (0 : Int32)) 6), .int ((upd F 0 (0 : Int32)) 7), .int ((upd F 0 (0 : Int32)) 8), .int ((upd F 0 (0 : Int32)) 9), .long (J 10), .int ((upd F 0 (0 : Int32)) 11), .int ((upd F 0 (0 : Int32)) 12), .int ((upd F 0 (0 : Int32)) 13), .ref q4, .int ((upd F 0 (0 : Int32)) 15), .ref q5, .ref q6, .ref q7, .int ((upd F 0 (0 : Int32)) 19), .ref q8, .int ((upd F 0 (0 : Int32)) 21), .int ((upd F 0 (0 : Int32)) 22), .int ((upd F 0 (0 : Int32)) 23), .int ((upd F 0 (0 : Int32)) 24), .ref q9, .ref q10, .ref q11, .long (J 28)])), (q1, .inl (g.2 0, 376, .inl al))]) [0, 1] (by decide) rfl
        have hFc := va_free (wc := [(qM, .inr (9, [.int ((upd F 0 (0 : Int32)) 0), .ref q1, .ref q2, .ref q3, .int ((upd F 0 (0 : Int32)) 4), .int ((upd F 0 (0 : Int32)) 5), .int ((upd F 0 (0 : Int32)) 6), .int ((upd F 0 (0 : Int32)) 7), .int ((upd F 0 (0 : Int32)) 8), .int ((upd F 0 (0 : Int32)) 9), .long (J 10), .int ((upd F 0 (0 : Int32)) 11), .int ((upd F 0 (0 : Int32)) 12), .int ((upd F 0 (0 : Int32)) 13), .ref q4, .int ((upd F 0 (0 : Int32)) 15), .ref q5, .ref q6, .ref q7, .int ((upd F 0 (0 : Int32)) 19), .ref q8, .int ((upd F 0 (0 : Int32)) 21), .int ((upd F 0 (0 : Int32)) 22), .int ((upd F 0 (0 : Int32)) 23), .int ((upd F 0 (0 : Int32)) 24), .ref q9, .ref q10, .ref q11, .long (J 28)])), (q1, .inl (g.2 0, 376, .inl al))]) hD hS hA [0, 1] rfl
        refine va_callv (va_runV (As := [.int p1, .int (2 : Int32), .int (r_39 + (p3 * p2))]) (rest := []) S (wX9_layLeg l g qM q1 q2 q3 q4 q5 q6 q7 q8 q9 q10 q11 H.size (upd F 0 (0 : Int32)) J al p1 (2 : Int32) (r_39 + (p3 * p2)) (sX9_layLeg p_53 w_53 (upd F 0 (0 : Int32)) J al p1 (2 : Int32) (r_39 + (p3 * p2)) ho_5)) (cwV 3 hts gX9_track_X9_layLeg rfl rfl rfl (by decide +kernel) ⟨Nat.le_of_ble_eq_true rfl, Nat.le_of_ble_eq_true rfl⟩) ⟨blindRW, va_recv hK hP (ci := 9) (q0 := 0) rfl rfl, fun U hU hW => ⟨rfl, by rw [hU], by rw [hU]; exact hPc, hG.warm hW, hDc.weaken (fun _ _ _ _ => trivial)⟩⟩ rfl rfl hl.1 rfl (lv_room (Nat.le_of_ble_eq_true rfl)) dX9_track_53 ⟨Nat.le_of_ble_eq_true rfl, Nat.le_of_ble_eq_true rfl⟩) hS (fun q _ h => hFc q h) hFc (fun u t H1 locs ht hvm hw hB hz1 hk1 hS => ?_)
        obtain ⟨al_53, rfl⟩ : ∃ z, z = u := ⟨_, rfl⟩
        obtain ⟨hP1, hD1⟩ := hB
        rw [ht] at hP1
        have hv := hv al_53 hw
        obtain ⟨hP, hD⟩ := va_join (wr := [(q7, .inl (g.2 0, 200, .inl he)), (q8, .inl (g.2 0, 65, .inl ma))]) (w1 := [(qM, .inr (9, [.int (0 : Int32), .ref q1, .ref q2, .ref q3, .int (F 4), .int (F 5), .int (F 6), .int (F 7), .int (F 8), .int (F 9), .long (J 10), .int (F 11), .int (F 12), .int (F 13), .ref q4, .int (F 15), .ref q5, .ref q6, .ref q7, .int (F 19), .ref q8, .int (F 21), .int (F 22), .int (F 23), .int (F 24), .ref q9, .ref q10, .ref q11, .long (J 28)])), (q1, .inl (g.2 0, 376, .inl al_53))]) hP hD [0, 1] [2, 3] rfl rfl (by decide) (by decide) hk1 hFc hP1 hD1
        clear hP1 hD1 hPc hDc hFc hk1
        generalize H1 = H at hP hS ⊢
        have hP : va_P g.1 vwCl [(q7, .inl (g.2 0, 200, .inl he)), (q8, .inl (g.2 0, 65, .inl ma)), (qM, .inr (9, [.int (0 : Int32), .ref q1, .ref q2, .ref q3, .int (F 4), .int (F 5), .int (F 6), .int (F 7), .int (F 8), .int (F 9), .long (J 10), .int (F 11), .int (F 12), .int (F 13), .ref q4, .int (F 15), .ref q5, .ref q6, .ref q7, .int (F 19), .ref q8, .int (F 21), .int (F 22), .int (F 23), .int (F 24), .ref q9, .ref q10, .ref q11, .long (J 28)])), (q1, .inl (g.2 0, 376, .inl al_53))] H := hP
        have hD : va_D A [(q7, .inl (g.2 0, 200, .inl he)), (q8, .inl (g.2 0, 65, .inl ma)), (qM, .inr (9, [.int (0 : Int32), .ref q1, .ref q2, .ref q3, .int (F 4), .int (F 5), .int (F 6), .int (F 7), .int (F 8), .int (F 9), .long (J 10), .int (F 11), .int (F 12), .int (F 13), .ref q4, .int (F 15), .ref q5, .ref q6, .ref q7, .int (F 19), .ref q8, .int (F 21), .int (F 22), .int (F 23), .int (F 24), .ref q9, .ref q10, .ref q11, .long (J 28)])), (q1, .inl (g.2 0, 376, .inl al_53))] := hD
        refine lv_aload_n hx hb dX9_track_56 rfl (lv_at hl 1 rfl) ?_
        refine lv_iload_n hx hb dX9_track_57 rfl (lv_at hl 2 rfl) ?_
        obtain ⟨T_58, G0_58, G1_58, lg_58, lim_58, ho_6, hv⟩ := hv
        have hPc := hP.sub (ws' := [(qM, .inr (9, [.int ((upd F 0 (0 : Int32)) 0), .ref q1, .ref q2, .ref q3, .int ((upd F 0 (0 : Int32)) 4), .int ((upd F 0 (0 : Int32)) 5), .int ((upd F 0 (0 : Int32)) 6), .int ((upd F 0 (0 : Int32)) 7), .int ((upd F 0 (0 : Int32)) 8), .int ((upd F 0 (0 : Int32)) 9), .long (J 10), .int ((upd F 0 (0 : Int32)) 11), .int ((upd F 0 (0 : Int32)) 12), .int ((upd F 0 (0 : Int32)) 13), .ref q4, .int ((upd F 0 (0 : Int32)) 15), .ref q5, .ref q6, .ref q7, .int ((upd F 0 (0 : Int32)) 19), .ref q8, .int ((upd F 0 (0 : Int32)) 21), .int ((upd F 0 (0 : Int32)) 22), .int ((upd F 0 (0 : Int32)) 23), .int ((upd F 0 (0 : Int32)) 24), .ref q9, .ref q10, .ref q11, .long (J 28)])), (q1, .inl (g.2 0, 376, .inl al_53)), (q7, .inl (g.2 0, 200, .inl he)), (q8, .inl (g.2 0, 65, .inl ma))]) [2, 3, 0, 1] rfl
        have hDc := hD.sub (ws' := [(qM, .inr (9, [.int ((upd F 0 (0 : Int32)) 0), .ref q1, .ref q2, .ref q3, .int ((upd F 0 (0 : Int32)) 4), .int ((upd F 0 (0 : Int32)) 5), .int ((upd F 0 (0 : Int32)) 6), .int ((upd F 0 (0 : Int32)) 7), .int ((upd F 0 (0 : Int32)) 8), .int ((upd F 0 (0 : Int32)) 9), .long (J 10), .int ((upd F 0 (0 : Int32)) 11), .int ((upd F 0 (0 : Int32)) 12), .int ((upd F 0 (0 : Int32)) 13), .ref q4, .int ((upd F 0 (0 : Int32)) 15), .ref q5, .ref q6, .ref q7, .int ((upd F 0 (0 : Int32)) 19), .ref q8, .int ((upd F 0 (0 : Int32)) 21), .int ((upd F 0 (0 : Int32)) 22), .int ((upd F 0 (0 : Int32)) 23), .int ((upd F 0 (0 : Int32)) 24), .ref q9, .ref q10, .ref q11, .long (J 28)])), (q1, .inl (g.2 0, 376, .inl al_53)), (q7, .inl (g.2 0, 200, .inl he)), (q8, .inl (g.2 0, 65, .inl ma))]) [2, 3, 0, 1] (by decide) rfl
        have hFc := va_free (wc := [(qM, .inr (9, [.int ((upd F 0 (0 : Int32)) 0), .ref q1, .ref q2, .ref q3, .int ((upd F 0 (0 : Int32)) 4), .int ((upd F 0 (0 : Int32)) 5), .int ((upd F 0 (0 : Int32)) 6), .int ((upd F 0 (0 : Int32)) 7), .int ((upd F 0 (0 : Int32)) 8), .int ((upd F 0 (0 : Int32)) 9), .long (J 10), .int ((upd F 0 (0 : Int32)) 11), .int ((upd F 0 (0 : Int32)) 12), .int ((upd F 0 (0 : Int32)) 13), .ref q4, .int ((upd F 0 (0 : Int32)) 15), .ref q5, .ref q6, .ref q7, .int ((upd F 0 (0 : Int32)) 19), .ref q8, .int ((upd F 0 (0 : Int32)) 21), .int ((upd F 0 (0 : Int32)) 22), .int ((upd F 0 (0 : Int32)) 23), .int ((upd F 0 (0 : Int32)) 24), .ref q9, .ref q10, .ref q11, .long (J 28)])), (q1, .inl (g.2 0, 376, .inl al_53)), (q7, .inl (g.2 0, 200, .inl he)), (q8, .inl (g.2 0, 65, .inl ma))]) hD hS hA [2, 3, 0, 1] rfl
        refine va_callv (va_runV (As := [.int p1]) (rest := []) S (wX9_laysLeg l g qM q1 q2 q3 q4 q5 q6 q7 q8 q9 q10 q11 H.size (upd F 0 (0 : Int32)) J al_53 he ma p1 (sX9_laysLeg T_58 G0_58 G1_58 lg_58 lim_58 (upd F 0 (0 : Int32)) J al_53 he ma p1 ho_6)) (cwV 1 hts gX9_track_X9_laysLeg rfl rfl rfl (by decide +kernel) ⟨Nat.le_of_ble_eq_true rfl, Nat.le_of_ble_eq_true rfl⟩) ⟨blindRW, va_recv hK hP (ci := 9) (q0 := 2) rfl rfl, fun U hU hW => ⟨rfl, by rw [hU], by rw [hU]; exact hPc, hG.warm hW, hDc.weaken (fun _ _ _ _ => trivial)⟩⟩ rfl rfl hl.1 rfl (lv_room (Nat.le_of_ble_eq_true rfl)) dX9_track_58 ⟨Nat.le_of_ble_eq_true rfl, Nat.le_of_ble_eq_true rfl⟩) hS (fun q _ h => hFc q h) hFc (fun u t H1 locs ht hvm hw hB hz1 hk1 hS => ?_)
        obtain ⟨F_58, he_58, ma_58⟩ := u
        obtain ⟨hP1, hD1⟩ := hB
        rw [ht] at hP1
        have hv := hv F_58 he_58 ma_58 hw
        obtain ⟨hP, hD⟩ := va_join (wr := []) (w1 := [(qM, .inr (9, [.int (F_58 0), .ref q1, .ref q2, .ref q3, .int (F_58 4), .int (F_58 5), .int (F_58 6), .int (F_58 7), .int (F_58 8), .int (F_58 9), .long (J 10), .int (F_58 11), .int (F_58 12), .int (F_58 13), .ref q4, .int (F_58 15), .ref q5, .ref q6, .ref q7, .int (F_58 19), .ref q8, .int (F_58 21), .int (F_58 22), .int (F_58 23), .int (F_58 24), .ref q9, .ref q10, .ref q11, .long (J 28)])), (q1, .inl (g.2 0, 376, .inl al_53)), (q7, .inl (g.2 0, 200, .inl he_58)), (q8, .inl (g.2 0, 65, .inl ma_58))]) hP hD [2, 3, 0, 1] [] rfl rfl (by decide) (by decide) hk1 hFc hP1 hD1
        clear hP1 hD1 hPc hDc hFc hk1
        generalize H1 = H at hP hS ⊢
        have hP : va_P g.1 vwCl [(qM, .inr (9, [.int (F_58 0), .ref q1, .ref q2, .ref q3, .int (F_58 4), .int (F_58 5), .int (F_58 6), .int (F_58 7), .int (F_58 8), .int (F_58 9), .long (J 10), .int (F_58 11), .int (F_58 12), .int (F_58 13), .ref q4, .int (F_58 15), .ref q5, .ref q6, .ref q7, .int (F_58 19), .ref q8, .int (F_58 21), .int (F_58 22), .int (F_58 23), .int (F_58 24), .ref q9, .ref q10, .ref q11, .long (J 28)])), (q1, .inl (g.2 0, 376, .inl al_53)), (q7, .inl (g.2 0, 200, .inl he_58)), (q8, .inl (g.2 0, 65, .inl ma_58))] H := hP
        have hD : va_D A [(qM, .inr (9, [.int (F_58 0), .ref q1, .ref q2, .ref q3, .int (F_58 4), .int (F_58 5), .int (F_58 6), .int (F_58 7), .int (F_58 8), .int (F_58 9), .long (J 10), .int (F_58 11), .int (F_58 12), .int (F_58 13), .ref q4, .int (F_58 15), .ref q5, .ref q6, .ref q7, .int (F_58 19), .ref q8, .int (F_58 21), .int (F_58 22), .int (F_58 23), .int (F_58 24), .ref q9, .ref q10, .ref q11, .long (J 28)])), (q1, .inl (g.2 0, 376, .inl al_53)), (q7, .inl (g.2 0, 200, .inl he_58)), (q8, .inl (g.2 0, 65, .inl ma_58))] := hD
        refine lv_aload_n hx hb dX9_track_61 rfl (lv_at hl 1 rfl) ?_
        refine lv_iload_n hx hb dX9_track_62 rfl (lv_at hl 2 rfl) ?_
        refine lv_iconst (v := (2 : Int32)) hx hb dX9_track_63 (by decide) ?_
        refine lv_iload hx hb dX9_track_64 (lv_at hl 0 rfl) ?_
        obtain ⟨p_66, w_66, ho_7, hv⟩ := hv
        have hPc := hP.sub (ws' := [(qM, .inr (9, [.int (F_58 0), .ref q1, .ref q2, .ref q3, .int (F_58 4), .int (F_58 5), .int (F_58 6), .int (F_58 7), .int (F_58 8), .int (F_58 9), .long (J 10), .int (F_58 11), .int (F_58 12), .int (F_58 13), .ref q4, .int (F_58 15), .ref q5, .ref q6, .ref q7, .int (F_58 19), .ref q8, .int (F_58 21), .int (F_58 22), .int (F_58 23), .int (F_58 24), .ref q9, .ref q10, .ref q11, .long (J 28)])), (q1, .inl (g.2 0, 376, .inl al_53))]) [0, 1] rfl
        have hDc := hD.sub (ws' := [(qM, .inr (9, [.int (F_58 0), .ref q1, .ref q2, .ref q3, .int (F_58 4), .int (F_58 5), .int (F_58 6), .int (F_58 7), .int (F_58 8), .int (F_58 9), .long (J 10), .int (F_58 11), .int (F_58 12), .int (F_58 13), .ref q4, .int (F_58 15), .ref q5, .ref q6, .ref q7, .int (F_58 19), .ref q8, .int (F_58 21), .int (F_58 22), .int (F_58 23), .int (F_58 24), .ref q9, .ref q10, .ref q11, .long (J 28)])), (q1, .inl (g.2 0, 376, .inl al_53))]) [0, 1] (by decide) rfl
        have hFc := va_free (wc := [(qM, .inr (9, [.int (F_58 0), .ref q1, .ref q2, .ref q3, .int (F_58 4), .int (F_58 5), .int (F_58 6), .int (F_58 7), .int (F_58 8), .int (F_58 9), .long (J 10), .int (F_58 11), .int (F_58 12), .int (F_58 13), .ref q4, .int (F_58 15), .ref q5, .ref q6, .ref q7, .int (F_58 19), .ref q8, .int (F_58 21), .int (F_58 22), .int (F_58 23), .int (F_58 24), .ref q9, .ref q10, .ref q11, .long (J 28)])), (q1, .inl (g.2 0, 376, .inl al_53))]) hD hS hA [0, 1] rfl
        refine va_callv (va_runV (As := [.int p1, .int (2 : Int32), .int r_39]) (rest := []) S (wX9_layLeg l g qM q1 q2 q3 q4 q5 q6 q7 q8 q9 q10 q11 H.size F_58 J al_53 p1 (2 : Int32) r_39 (sX9_layLeg p_66 w_66 F_58 J al_53 p1 (2 : Int32) r_39 ho_7)) (cwV 3 hts gX9_track_X9_layLeg rfl rfl rfl (by decide +kernel) ⟨Nat.le_of_ble_eq_true rfl, Nat.le_of_ble_eq_true rfl⟩) ⟨blindRW, va_recv hK hP (ci := 9) (q0 := 0) rfl rfl, fun U hU hW => ⟨rfl, by rw [hU], by rw [hU]; exact hPc, hG.warm hW, hDc.weaken (fun _ _ _ _ => trivial)⟩⟩ rfl rfl hl.1 rfl (lv_room (Nat.le_of_ble_eq_true rfl)) dX9_track_66 ⟨Nat.le_of_ble_eq_true rfl, Nat.le_of_ble_eq_true rfl⟩) hS (fun q _ h => hFc q h) hFc (fun u t H1 locs ht hvm hw hB hz1 hk1 hS => ?_)
        obtain ⟨al_66, rfl⟩ : ∃ z, z = u := ⟨_, rfl⟩
        obtain ⟨hP1, hD1⟩ := hB
        rw [ht] at hP1
        have hv := hv al_66 hw
        obtain ⟨hP, hD⟩ := va_join (wr := [(q7, .inl (g.2 0, 200, .inl he_58)), (q8, .inl (g.2 0, 65, .inl ma_58))]) (w1 := [(qM, .inr (9, [.int (F_58 0), .ref q1, .ref q2, .ref q3, .int (F_58 4), .int (F_58 5), .int (F_58 6), .int (F_58 7), .int (F_58 8), .int (F_58 9), .long (J 10), .int (F_58 11), .int (F_58 12), .int (F_58 13), .ref q4, .int (F_58 15), .ref q5, .ref q6, .ref q7, .int (F_58 19), .ref q8, .int (F_58 21), .int (F_58 22), .int (F_58 23), .int (F_58 24), .ref q9, .ref q10, .ref q11, .long (J 28)])), (q1, .inl (g.2 0, 376, .inl al_66))]) hP hD [0, 1] [2, 3] rfl rfl (by decide) (by decide) hk1 hFc hP1 hD1
        clear hP1 hD1 hPc hDc hFc hk1
        generalize H1 = H at hP hS ⊢
        have hP : va_P g.1 vwCl [(q7, .inl (g.2 0, 200, .inl he_58)), (q8, .inl (g.2 0, 65, .inl ma_58)), (qM, .inr (9, [.int (F_58 0), .ref q1, .ref q2, .ref q3, .int (F_58 4), .int (F_58 5), .int (F_58 6), .int (F_58 7), .int (F_58 8), .int (F_58 9), .long (J 10), .int (F_58 11), .int (F_58 12), .int (F_58 13), .ref q4, .int (F_58 15), .ref q5, .ref q6, .ref q7, .int (F_58 19), .ref q8, .int (F_58 21), .int (F_58 22), .int (F_58 23), .int (F_58 24), .ref q9, .ref q10, .ref q11, .long (J 28)])), (q1, .inl (g.2 0, 376, .inl al_66))] H := hP
        have hD : va_D A [(q7, .inl (g.2 0, 200, .inl he_58)), (q8, .inl (g.2 0, 65, .inl ma_58)), (qM, .inr (9, [.int (F_58 0), .ref q1, .ref q2, .ref q3, .int (F_58 4), .int (F_58 5), .int (F_58 6), .int (F_58 7), .int (F_58 8), .int (F_58 9), .long (J 10), .int (F_58 11), .int (F_58 12), .int (F_58 13), .ref q4, .int (F_58 15), .ref q5, .ref q6, .ref q7, .int (F_58 19), .ref q8, .int (F_58 21), .int (F_58 22), .int (F_58 23), .int (F_58 24), .ref q9, .ref q10, .ref q11, .long (J 28)])), (q1, .inl (g.2 0, 376, .inl al_66))] := hD
        refine lv_aload_n hx hb dX9_track_69 rfl (lv_at hl 1 rfl) ?_
        refine va_get (D := g.1) (ci := 9) (v := .int (F_58 21)) (C := RX9) (T := TX9) (N := 29) hx hb hts inX9_track_9 hown hK hP 2 rfl rfl 21 (by decide) (hts (.fieldLink RX9 266 "RangeCodesModel" "distance" "I") (List.mem_of_getElem? (i := 2) rfl)) (fun _ h9 => h9) rfl dX9_track_70 ?_
        have hP9 := hP.sub (ws' := [(qM, .inr (9, [.int (F_58 0), .ref q1, .ref q2, .ref q3, .int (F_58 4), .int (F_58 5), .int (F_58 6), .int (F_58 7), .int (F_58 8), .int (F_58 9), .long (J 10), .int (F_58 11), .int (F_58 12), .int (F_58 13), .ref q4, .int (F_58 15), .ref q5, .ref q6, .ref q7, .int (F_58 19), .ref q8, .int (F_58 21), .int (F_58 22), .int (F_58 23), .int (F_58 24), .ref q9, .ref q10, .ref q11, .long (J 28)])), (q1, .inl (g.2 0, 376, .inl al_66)), (q7, .inl (g.2 0, 200, .inl he_58)), (q8, .inl (g.2 0, 65, .inl ma_58))]) [2, 3, 0, 1] rfl
        have hD9 := hD.sub (ws' := [(qM, .inr (9, [.int (F_58 0), .ref q1, .ref q2, .ref q3, .int (F_58 4), .int (F_58 5), .int (F_58 6), .int (F_58 7), .int (F_58 8), .int (F_58 9), .long (J 10), .int (F_58 11), .int (F_58 12), .int (F_58 13), .ref q4, .int (F_58 15), .ref q5, .ref q6, .ref q7, .int (F_58 19), .ref q8, .int (F_58 21), .int (F_58 22), .int (F_58 23), .int (F_58 24), .ref q9, .ref q10, .ref q11, .long (J 28)])), (q1, .inl (g.2 0, 376, .inl al_66)), (q7, .inl (g.2 0, 200, .inl he_58)), (q8, .inl (g.2 0, 65, .inl ma_58))]) [2, 3, 0, 1] (by decide) rfl
        exact W.iret (v := (F_58 21)) hx hb hr (fun t ht hW => ⟨⟨_, (F_58, al_66, he_58, ma_58), rfl, hv, by rw [ht]; exact hP9, hD9⟩, hS.F ht⟩) hS.2.2 dX9_track_73
      · have hv := hvf hc
        refine lv_bipush (v := (-2 : Int32)) hx hb dX9_track_33 (by decide) ?_
        have hP9 := hP.sub (ws' := [(qM, .inr (9, [.int ((upd F 0 (0 : Int32)) 0), .ref q1, .ref q2, .ref q3, .int ((upd F 0 (0 : Int32)) 4), .int ((upd F 0 (0 : Int32)) 5), .int ((upd F 0 (0 : Int32)) 6), .int ((upd F 0 (0 : Int32)) 7), .int ((upd F 0 (0 : Int32)) 8), .int ((upd F 0 (0 : Int32)) 9), .long (J 10), .int ((upd F 0 (0 : Int32)) 11), .int ((upd F 0 (0 : Int32)) 12), .int ((upd F 0 (0 : Int32)) 13), .ref q4, .int ((upd F 0 (0 : Int32)) 15), .ref q5, .ref q6, .ref q7, .int ((upd F 0 (0 : Int32)) 19), .ref q8, .int ((upd F 0 (0 : Int32)) 21), .int ((upd F 0 (0 : Int32)) 22), .int ((upd F 0 (0 : Int32)) 23), .int ((upd F 0 (0 : Int32)) 24), .ref q9, .ref q10, .ref q11, .long (J 28)])), (q1, .inl (g.2 0, 376, .inl al)), (q7, .inl (g.2 0, 200, .inl he)), (q8, .inl (g.2 0, 65, .inl ma))]) [0, 1, 2, 3] rfl
        have hD9 := hD.sub (ws' := [(qM, .inr (9, [.int ((upd F 0 (0 : Int32)) 0), .ref q1, .ref q2, .ref q3, .int ((upd F 0 (0 : Int32)) 4), .int ((upd F 0 (0 : Int32)) 5), .int ((upd F 0 (0 : Int32)) 6), .int ((upd F 0 (0 : Int32)) 7), .int ((upd F 0 (0 : Int32)) 8), .int ((upd F 0 (0 : Int32)) 9), .long (J 10), .int ((upd F 0 (0 : Int32)) 11), .int ((upd F 0 (0 : Int32)) 12), .int ((upd F 0 (0 : Int32)) 13), .ref q4, .int ((upd F 0 (0 : Int32)) 15), .ref q5, .ref q6, .ref q7, .int ((upd F 0 (0 : Int32)) 19), .ref q8, .int ((upd F 0 (0 : Int32)) 21), .int ((upd F 0 (0 : Int32)) 22), .int ((upd F 0 (0 : Int32)) 23), .int ((upd F 0 (0 : Int32)) 24), .ref q9, .ref q10, .ref q11, .long (J 28)])), (q1, .inl (g.2 0, 376, .inl al)), (q7, .inl (g.2 0, 200, .inl he)), (q8, .inl (g.2 0, 65, .inl ma))]) [0, 1, 2, 3] (by decide) rfl
        exact W.iret (v := (-2 : Int32)) hx hb hr (fun t ht hW => ⟨⟨_, ((upd F 0 (0 : Int32)), al, he, ma), rfl, hv, by rw [ht]; exact hP9, hD9⟩, hS.F ht⟩) hS.2.2 dX9_track_35
abbrev preX9_track (T : Cd) (G0 : Lg) (G1 : Lg) (lim : Nat) (F : Nat → Int32) (J : Nat → Int64) (al : Nat → Int32) (he : Nat → Int32) (ma : Nat → Int32) (p1 : Int32) (p2 : Int32) (p3 : Int32) : Prop := fcR T G0 G1 lim al ∧ gfr G0 ≤ 9999 ∧ gfr G1 ≤ 9999
abbrev postX9_track (T : Cd) (G0 : Lg) (G1 : Lg) (lim : Nat) (F : Nat → Int32) (J : Nat → Int64) (al : Nat → Int32) (he : Nat → Int32) (ma : Nat → Int32) (p1 : Int32) (p2 : Int32) (p3 : Int32) (r : Int32) (F' : Nat → Int32) (al' : Nat → Int32) (he' : Nat → Int32) (ma' : Nat → Int32) : Prop := r.toInt = spTrack T G0 G1 lim p1.toInt p2.toInt p3.toInt ∧ al' = al
theorem sX9_track (T : Cd) (G0 : Lg) (G1 : Lg) (lim : Nat) (F : Nat → Int32) (J : Nat → Int64) (al : Nat → Int32) (he : Nat → Int32) (ma : Nat → Int32) (p1 : Int32) (p2 : Int32) (p3 : Int32) (H : preX9_track T G0 G1 lim F J al he ma p1 p2 p3) : vX9_track F J al he ma p1 p2 p3 (postX9_track T G0 G1 lim F J al he ma p1 p2 p3) := by
  obtain ⟨⟨hT, h0, h1, hlim, hl9, hl1⟩, hf0, hf1⟩ := id H
  unfold postX9_track spTrack
  refine ⟨trivial, fun r hr => ?_⟩
  have hr : r = if p1.toInt = 0 ∨ p1.toInt = 1 then 1 else 0 := hr
  rw [hr, q_if1]
  refine ⟨fun hc => ⟨by rw [if_neg (fun q => hc q.1)]; rfl, rfl⟩, fun hc => ⟨trivial, fun r2 hr2 => ?_⟩⟩
  have hc := Decidable.not_not.mp hc
  have hr2 : r2 = if 1 ≤ p2.toInt ∧ p2.toInt ≤ 200 then 1 else 0 := hr2
  rw [hr2, q_if1]
  refine ⟨fun hd => ⟨by rw [if_neg (fun q => hd q.2.1)]; rfl, rfl⟩, fun hd => ⟨trivial, fun r3 hr3 => ?_⟩⟩
  have hd := Decidable.not_not.mp hd
  have hr3 : r3 = if 0 ≤ p3.toInt ∧ p3.toInt ≤ 20 then 1 else 0 := hr3
  rw [hr3, q_if1]
  refine ⟨fun he => ?_, fun he => ⟨by rw [if_neg (fun q => he q.2.2)]; rfl, rfl⟩⟩
  have he := Decidable.not_not.mp he
  rw [if_pos ⟨hc, hd, he⟩]
  have hl2 : p1.toInt.toNat < 2 := by omega
  have e1 : p1.toInt = (p1.toInt.toNat : Int) := by omega
  have hk : p3.toInt.toNat * p2.toInt.toNat ≤ 20 * 200 := Nat.mul_le_mul (by omega) (by omega)
  have hkk : (p3 * p2).toInt = ((p3.toInt.toNat * p2.toInt.toNat : Nat) : Int) := q_mulN (by omega) (by omega) (by omega)
  have hG := pk_mG h0 h1 hl2
  have hfr := mG_fr hG
  have hfp : gfr (pkG G0 G1 p1.toInt.toNat) ≤ 9999 := by unfold pkG; split <;> assumption
  refine ⟨p1.toInt.toNat, 2, ⟨e1, rfl, by omega⟩, fun r4 hr4 => ⟨p1.toInt.toNat, 2, ⟨e1, rfl, by omega⟩, fun al2 ha2 => ?_⟩⟩
  have hr4 : r4 = al (20 + 37 * p1.toInt.toNat + 2) := hr4
  have hv : (r4 + p3 * p2).toInt = ((gfr (pkG G0 G1 p1.toInt.toNat) + p3.toInt.toNat * p2.toInt.toNat : Nat) : Int) := q_addN (by rw [hr4]; exact hfr.1) hkk (by omega)
  have HS := fcR_S H.1 hl2 (j := 2) (Or.inl ⟨rfl, by omega, by omega⟩) hv
  have ha2 : al2 = upd al (20 + 37 * p1.toInt.toNat + 2) (r4 + p3 * p2) := ha2
  refine ⟨T, _, _, p1.toInt.toNat, lim, by rw [ha2]; exact fcR_ll HS _ _ _ _ hc, fun F2 he2 ma2 hq => ?_⟩
  have h2 := rlC_of hq
  have hD := h2.2.2.1
  rw [bN_2 T G0 G1 lim hl2] at hD
  refine ⟨p1.toInt.toNat, 2, ⟨e1, rfl, by omega⟩, fun al3 ha3 => ⟨isO_op (isD_O hD), ?_⟩⟩
  have ha3 : al3 = upd al2 (20 + 37 * p1.toInt.toNat + 2) r4 := ha3
  rw [ha3, ha2]; exact upd_back hr4
set_option maxRecDepth 20000 in
theorem ggX9_silent_X9_isLeg : GoodIn wsX9_silent wsX9_isLeg := goodIn_r _ [5, 6, 7, 4, 8] (by decide +kernel) (by decide +kernel)
set_option maxRecDepth 20000 in
theorem gX9_silent_X9_isLeg : GoodIn wsX9_silent (va_wsS RX9 182 yX9_isLeg wsX9_isLeg) := goodIn_app (goodIn_of _ (by decide +kernel)) ggX9_silent_X9_isLeg
set_option maxRecDepth 20000 in
theorem ggX9_silent_X9_isPart : GoodIn wsX9_silent wsX9_isPart := goodIn_r _ [12, 13, 6, 7, 4, 8, 123, 124, 125, 126, 127, 128, 129, 130, 131, 132, 133, 134, 135, 136, 137, 138, 139, 140, 141, 142, 143, 144, 145, 146, 147, 148, 149, 150, 151] (by decide +kernel) (by decide +kernel)
set_option maxRecDepth 20000 in
theorem gX9_silent_X9_isPart : GoodIn wsX9_silent (wsV RX9 192 RX9 yX9_isPart wsX9_isPart) := goodIn_app (goodIn_of _ (by decide +kernel)) ggX9_silent_X9_isPart
set_option maxRecDepth 20000 in
theorem ggX9_silent_X9_of : GoodIn wsX9_silent wsX9_of := goodIn_r _ [17, 13, 123, 124, 125, 126, 127, 128, 129, 130, 131, 132, 133, 134, 135, 136, 137, 138, 139, 140, 141, 142, 143, 144, 145, 146, 147, 148, 149, 150, 151] (by decide +kernel) (by decide +kernel)
set_option maxRecDepth 20000 in
theorem gX9_silent_X9_of : GoodIn wsX9_silent (wsV RX9 195 RX9 yX9_of wsX9_of) := goodIn_app (goodIn_of _ (by decide +kernel)) ggX9_silent_X9_of
set_option maxRecDepth 20000 in
theorem ggX9_silent_X9_lays : GoodIn wsX9_silent wsX9_lays := goodIn_r _ [21, 13, 123, 124, 125, 126, 127, 128, 129, 130, 131, 132, 133, 134, 135, 136, 137, 138, 139, 140, 141, 142, 143, 144, 145, 146, 147, 148, 149, 150, 151] (by decide +kernel) (by decide +kernel)
set_option maxRecDepth 20000 in
theorem gX9_silent_X9_lays : GoodIn wsX9_silent (wsV RX9 198 RX9 yX9_lays wsX9_lays) := goodIn_app (goodIn_of _ (by decide +kernel)) ggX9_silent_X9_lays
set_option maxRecDepth 20000 in
theorem ggX9_silent_X9_laysLeg : GoodIn wsX9_silent wsX9_laysLeg := goodIn_r _ [25, 26, 27, 28, 29, 30, 4, 31, 32, 33, 34, 35, 36, 37, 38, 39, 40, 41, 42, 43, 44, 13, 45, 46, 47, 48, 49, 50, 51, 52, 53, 54, 55, 56, 57, 58, 59, 60, 61, 62, 63, 64, 65, 66, 14, 15, 16, 17, 67, 68, 69, 70, 71, 72, 73, 6, 7, 8, 74, 75, 76, 77, 78, 79, 80, 81, 82, 83, 84, 85, 86, 87, 88, 89, 90, 91, 92, 93, 94, 95, 96, 97, 98, 99, 100, 101, 102, 103, 104, 105, 106, 107, 108, 109, 110, 111, 112, 113, 114, 115, 116, 117, 118, 123, 124, 125, 126, 127, 128, 129, 130, 131, 132, 133, 134, 135, 136, 137, 138, 139, 140, 141, 142, 143, 144, 145, 146, 147, 148, 149, 150, 151] (by decide +kernel) (by decide +kernel)
set_option maxRecDepth 20000 in
theorem gX9_silent_X9_laysLeg : GoodIn wsX9_silent (wsV RX9 294 RX9 yX9_laysLeg wsX9_laysLeg) := goodIn_app (goodIn_of _ (by decide +kernel)) ggX9_silent_X9_laysLeg
set_option maxRecDepth 20000 in
theorem ggX9_silent_X9_matchOf : GoodIn wsX9_silent wsX9_matchOf := goodIn_r _ [122, 78, 105, 106, 107, 4, 108, 14, 15, 16, 17, 13, 123, 124, 125, 126, 127, 128, 129, 130, 131, 132, 133, 134, 135, 136, 137, 138, 139, 140, 141, 142, 143, 144, 145, 146, 147, 148, 149, 150, 151] (by decide +kernel) (by decide +kernel)
set_option maxRecDepth 20000 in
theorem gX9_silent_X9_matchOf : GoodIn wsX9_silent (wsV RX9 301 RX9 yX9_matchOf wsX9_matchOf) := goodIn_app (goodIn_of _ (by decide +kernel)) ggX9_silent_X9_matchOf
theorem dX9_silent_0 : decode cX9_silent 0 = .ok (.aload_n 0, 1) := by decide +kernel
theorem dX9_silent_1 : decode cX9_silent 1 = .ok (.iconst 0, 1) := by decide +kernel
theorem dX9_silent_2 : decode cX9_silent 2 = .ok (.putfield 51, 3) := by decide +kernel
theorem dX9_silent_5 : decode cX9_silent 5 = .ok (.iload_n 1, 1) := by decide +kernel
theorem dX9_silent_6 : decode cX9_silent 6 = .ok (.invokestatic 182, 3) := by decide +kernel
theorem dX9_silent_9 : decode cX9_silent 9 = .ok (.ifCond .eq 11, 3) := by decide +kernel
theorem dX9_silent_12 : decode cX9_silent 12 = .ok (.aload_n 0, 1) := by decide +kernel
theorem dX9_silent_13 : decode cX9_silent 13 = .ok (.iload_n 2, 1) := by decide +kernel
theorem dX9_silent_14 : decode cX9_silent 14 = .ok (.invokevirtual 192, 3) := by decide +kernel
theorem dX9_silent_17 : decode cX9_silent 17 = .ok (.ifCond .ne 7, 3) := by decide +kernel
theorem dX9_silent_20 : decode cX9_silent 20 = .ok (.sipush (-1000), 3) := by decide +kernel
theorem dX9_silent_23 : decode cX9_silent 23 = .ok (.ireturn, 1) := by decide +kernel
theorem dX9_silent_24 : decode cX9_silent 24 = .ok (.aload_n 0, 1) := by decide +kernel
theorem dX9_silent_25 : decode cX9_silent 25 = .ok (.iload_n 2, 1) := by decide +kernel
theorem dX9_silent_26 : decode cX9_silent 26 = .ok (.iconst 1, 1) := by decide +kernel
theorem dX9_silent_27 : decode cX9_silent 27 = .ok (.invokevirtual 195, 3) := by decide +kernel
theorem dX9_silent_30 : decode cX9_silent 30 = .ok (.istore_n 3, 1) := by decide +kernel
theorem dX9_silent_31 : decode cX9_silent 31 = .ok (.aload_n 0, 1) := by decide +kernel
theorem dX9_silent_32 : decode cX9_silent 32 = .ok (.iload_n 2, 1) := by decide +kernel
theorem dX9_silent_33 : decode cX9_silent 33 = .ok (.iconst 1, 1) := by decide +kernel
theorem dX9_silent_34 : decode cX9_silent 34 = .ok (.iconst 0, 1) := by decide +kernel
theorem dX9_silent_35 : decode cX9_silent 35 = .ok (.invokevirtual 198, 3) := by decide +kernel
theorem dX9_silent_38 : decode cX9_silent 38 = .ok (.aload_n 0, 1) := by decide +kernel
theorem dX9_silent_39 : decode cX9_silent 39 = .ok (.iload_n 1, 1) := by decide +kernel
theorem dX9_silent_40 : decode cX9_silent 40 = .ok (.invokevirtual 294, 3) := by decide +kernel
theorem dX9_silent_43 : decode cX9_silent 43 = .ok (.aload_n 0, 1) := by decide +kernel
theorem dX9_silent_44 : decode cX9_silent 44 = .ok (.iload_n 2, 1) := by decide +kernel
theorem dX9_silent_45 : decode cX9_silent 45 = .ok (.iconst 1, 1) := by decide +kernel
theorem dX9_silent_46 : decode cX9_silent 46 = .ok (.iload_n 3, 1) := by decide +kernel
theorem dX9_silent_47 : decode cX9_silent 47 = .ok (.invokevirtual 198, 3) := by decide +kernel
theorem dX9_silent_50 : decode cX9_silent 50 = .ok (.aload_n 0, 1) := by decide +kernel
theorem dX9_silent_51 : decode cX9_silent 51 = .ok (.iload_n 2, 1) := by decide +kernel
theorem dX9_silent_52 : decode cX9_silent 52 = .ok (.invokevirtual 301, 3) := by decide +kernel
theorem dX9_silent_55 : decode cX9_silent 55 = .ok (.ireturn, 1) := by decide +kernel
abbrev rmX9_silent : Room := { frames := 7, cells := 0, slots := 0, locals := 162 }
theorem inX9_silent_9 : ∀ w ∈ wsX90, w ∈ wsX9_silent := by decide +kernel
def vX9_silent (F : Nat → Int32) (J : Nat → Int64) (al : Nat → Int32) (he : Nat → Int32) (ma : Nat → Int32) (p1 : Int32) (p2 : Int32) (Q : Int32 → (Nat → Int32) → (Nat → Int32) → (Nat → Int32) → (Nat → Int32) → Prop) : Prop := (preX9_isLeg p1 ∧ (∀ r_6 : Int32, postX9_isLeg p1 r_6 → ((r_6 = 0 → (Q (-1000 : Int32) (upd F 0 (0 : Int32)) al he ma)) ∧ (¬ r_6 = 0 → (∃ (n_14 : Nat), preX9_isPart n_14 (upd F 0 (0 : Int32)) J al p2 ∧ (∀ r_14 : Int32, postX9_isPart n_14 (upd F 0 (0 : Int32)) J al p2 r_14 → ((¬ r_14 = 0 → (∃ (p_27 : Nat) (w_27 : Nat), preX9_of p_27 w_27 (upd F 0 (0 : Int32)) J al p2 (1 : Int32) ∧ (∀ r_27 : Int32, postX9_of p_27 w_27 (upd F 0 (0 : Int32)) J al p2 (1 : Int32) r_27 → (∃ (p_35 : Nat) (w_35 : Nat), preX9_lays p_35 w_35 (upd F 0 (0 : Int32)) J al p2 (1 : Int32) (0 : Int32) ∧ (∀ (al_35 : Nat → Int32), postX9_lays p_35 w_35 (upd F 0 (0 : Int32)) J al p2 (1 : Int32) (0 : Int32) al_35 → (∃ (T_40 : Cd) (G0_40 : Lg) (G1_40 : Lg) (lg_40 : Nat) (lim_40 : Nat), preX9_laysLeg T_40 G0_40 G1_40 lg_40 lim_40 (upd F 0 (0 : Int32)) J al_35 he ma p1 ∧ (∀ (F_40 : Nat → Int32) (he_40 : Nat → Int32) (ma_40 : Nat → Int32), postX9_laysLeg T_40 G0_40 G1_40 lg_40 lim_40 (upd F 0 (0 : Int32)) J al_35 he ma p1 F_40 he_40 ma_40 → (∃ (p_47 : Nat) (w_47 : Nat), preX9_lays p_47 w_47 F_40 J al_35 p2 (1 : Int32) r_27 ∧ (∀ (al_47 : Nat → Int32), postX9_lays p_47 w_47 F_40 J al_35 p2 (1 : Int32) r_27 al_47 → (∃ (T_52 : Cd) (p_52 : Nat) (m_52 : Nat → Nat → Int), preX9_matchOf T_52 p_52 m_52 F_40 J al_47 ma_40 p2 ∧ (∀ r_52 : Int32, postX9_matchOf T_52 p_52 m_52 F_40 J al_47 ma_40 p2 r_52 → (Q r_52 F_40 al_47 he_40 ma_40)))))))))))) ∧ (r_14 = 0 → (Q (-1000 : Int32) (upd F 0 (0 : Int32)) al he ma)))))))))
set_option maxHeartbeats 4000000 in
set_option maxRecDepth 100000 in
theorem wX9_silent (l : Launch) (g : GP) (qM : Nat) (q1 : Nat) (q2 : Nat) (q3 : Nat) (q4 : Nat) (q5 : Nat) (q6 : Nat) (q7 : Nat) (q8 : Nat) (q9 : Nat) (q10 : Nat) (q11 : Nat) (sz : Nat) (F : Nat → Int32) (J : Nat → Int64) (al : Nat → Int32) (he : Nat → Int32) (ma : Nat → Int32) (p1 : Int32) (p2 : Int32) {Q : Int32 → (Nat → Int32) → (Nat → Int32) → (Nat → Int32) → (Nat → Int32) → Prop} (hv : vX9_silent F J al he ma p1 p2 Q) : Met l yX9_silent wsX9_silent rmX9_silent (va_Pc [.ref qM, .int p1, .int p2] (fun U => U.heap.size = sz ∧ va_P g.1 vwCl [(qM, .inr (9, [.int (F 0), .ref q1, .ref q2, .ref q3, .int (F 4), .int (F 5), .int (F 6), .int (F 7), .int (F 8), .int (F 9), .long (J 10), .int (F 11), .int (F 12), .int (F 13), .ref q4, .int (F 15), .ref q5, .ref q6, .ref q7, .int (F 19), .ref q8, .int (F 21), .int (F 22), .int (F 23), .int (F 24), .ref q9, .ref q10, .ref q11, .long (J 28)])), (q1, .inl (g.2 0, 376, .inl al)), (q7, .inl (g.2 0, 200, .inl he)), (q8, .inl (g.2 0, 65, .inl ma))] U.heap ∧ GK g U ∧ va_D (fun _ => True) [(qM, .inr (9, [.int (F 0), .ref q1, .ref q2, .ref q3, .int (F 4), .int (F 5), .int (F 6), .int (F 7), .int (F 8), .int (F 9), .long (J 10), .int (F 11), .int (F 12), .int (F 13), .ref q4, .int (F 15), .ref q5, .ref q6, .ref q7, .int (F 19), .ref q8, .int (F 21), .int (F 22), .int (F 23), .int (F 24), .ref q9, .ref q10, .ref q11, .long (J 28)])), (q1, .inl (g.2 0, 376, .inl al)), (q7, .inl (g.2 0, 200, .inl he)), (q8, .inl (g.2 0, 65, .inl ma))])) (va_Qi (fun (r : Int32) (u : (Nat → Int32) × (Nat → Int32) × (Nat → Int32) × (Nat → Int32)) => Q r u.1 u.2.1 u.2.2.1 u.2.2.2) (fun (u : (Nat → Int32) × (Nat → Int32) × (Nat → Int32) × (Nat → Int32)) t => va_P g.1 vwCl [(qM, .inr (9, [.int (u.1 0), .ref q1, .ref q2, .ref q3, .int (u.1 4), .int (u.1 5), .int (u.1 6), .int (u.1 7), .int (u.1 8), .int (u.1 9), .long (J 10), .int (u.1 11), .int (u.1 12), .int (u.1 13), .ref q4, .int (u.1 15), .ref q5, .ref q6, .ref q7, .int (u.1 19), .ref q8, .int (u.1 21), .int (u.1 22), .int (u.1 23), .int (u.1 24), .ref q9, .ref q10, .ref q11, .long (J 28)])), (q1, .inl (g.2 0, 376, .inl u.2.1)), (q7, .inl (g.2 0, 200, .inl u.2.2.1)), (q8, .inl (g.2 0, 65, .inl u.2.2.2))] t.heap ∧ va_D (va_A [(qM, .inr (9, [.int (F 0), .ref q1, .ref q2, .ref q3, .int (F 4), .int (F 5), .int (F 6), .int (F 7), .int (F 8), .int (F 9), .long (J 10), .int (F 11), .int (F 12), .int (F 13), .ref q4, .int (F 15), .ref q5, .ref q6, .ref q7, .int (F 19), .ref q8, .int (F 21), .int (F 22), .int (F 23), .int (F 24), .ref q9, .ref q10, .ref q11, .long (J 28)])), (q1, .inl (g.2 0, 376, .inl al)), (q7, .inl (g.2 0, 200, .inl he)), (q8, .inl (g.2 0, 65, .inl ma))] sz) [(qM, .inr (9, [.int (u.1 0), .ref q1, .ref q2, .ref q3, .int (u.1 4), .int (u.1 5), .int (u.1 6), .int (u.1 7), .int (u.1 8), .int (u.1 9), .long (J 10), .int (u.1 11), .int (u.1 12), .int (u.1 13), .ref q4, .int (u.1 15), .ref q5, .ref q6, .ref q7, .int (u.1 19), .ref q8, .int (u.1 21), .int (u.1 22), .int (u.1 23), .int (u.1 24), .ref q9, .ref q10, .ref q11, .long (J 28)])), (q1, .inl (g.2 0, 376, .inl u.2.1)), (q7, .inl (g.2 0, 200, .inl u.2.2.1)), (q8, .inl (g.2 0, 65, .inl u.2.2.2))]) (va_A [(qM, .inr (9, [.int (F 0), .ref q1, .ref q2, .ref q3, .int (F 4), .int (F 5), .int (F 6), .int (F 7), .int (F 8), .int (F 9), .long (J 10), .int (F 11), .int (F 12), .int (F 13), .ref q4, .int (F 15), .ref q5, .ref q6, .ref q7, .int (F 19), .ref q8, .int (F 21), .int (F 22), .int (F 23), .int (F 24), .ref q9, .ref q10, .ref q11, .long (J 28)])), (q1, .inl (g.2 0, 376, .inl al)), (q7, .inl (g.2 0, 200, .inl he)), (q8, .inl (g.2 0, 65, .inl ma))] sz)) 0 0 (va_A [(qM, .inr (9, [.int (F 0), .ref q1, .ref q2, .ref q3, .int (F 4), .int (F 5), .int (F 6), .int (F 7), .int (F 8), .int (F 9), .long (J 10), .int (F 11), .int (F 12), .int (F 13), .ref q4, .int (F 15), .ref q5, .ref q6, .ref q7, .int (F 19), .ref q8, .int (F 21), .int (F 22), .int (F 23), .int (F 24), .ref q9, .ref q10, .ref q11, .long (J 28)])), (q1, .inl (g.2 0, 376, .inl al)), (q7, .inl (g.2 0, 200, .inl he)), (q8, .inl (g.2 0, 65, .inl ma))] sz) := by
  refine Met.ofW (cc := cX9_silent) (maxL := 4) (ret := (some .int)) (by decide) rfl ?_
  intro p e s m args below meth c s₁ B hml hv'
  obtain ⟨rfl, hsz, hP, hG, hD0⟩ := hv'
  have S : CallFix p m c cX9_silent 4 s _ wsX9_silent RX9 := ⟨B.exec, B.bytes, hml, findClass_of_methodNamed B.named, atoms_spec (ws := wsX9_silent) B.pre⟩
  obtain ⟨hx, hb, hml, hown, hts⟩ := id S
  have hK := hG.1
  have hr := B.returns
  have hlocks := B.notSynchronized
  subst hsz
  have hD := hD0.self (sz := s.heap.size)
  generalize hAe : va_A [(qM, .inr (9, [.int (F 0), .ref q1, .ref q2, .ref q3, .int (F 4), .int (F 5), .int (F 6), .int (F 7), .int (F 8), .int (F 9), .long (J 10), .int (F 11), .int (F 12), .int (F 13), .ref q4, .int (F 15), .ref q5, .ref q6, .ref q7, .int (F 19), .ref q8, .int (F 21), .int (F 22), .int (F 23), .int (F 24), .ref q9, .ref q10, .ref q11, .long (J 28)])), (q1, .inl (g.2 0, 376, .inl al)), (q7, .inl (g.2 0, 200, .inl he)), (q8, .inl (g.2 0, 65, .inl ma))] s.heap.size = A at hD ⊢
  have hA : ∀ q : Nat, s.heap.size ≤ q → A q := fun q h => by rw [← hAe]; exact Or.inr h
  have hS : va_S A s.heap s.heap [] := va_S.rf
  clear hD0 hAe
  have hl := lv_entry ([.ref qM, .int p1, .int p2]) (n := 4) (Nat.le_of_ble_eq_true rfl)
  rw [lg_entry_eq]
  generalize (lg_sl ([.ref qM, .int p1, .int p2]) ++ List.replicate (4 - (lg_sl ([.ref qM, .int p1, .int p2])).length) Slot.unset).toArray = ls at hl ⊢
  have hl : lv_has ls 4 [(0, .ref qM), (1, .int p1), (2, .int p2)] := hl
  unfold vX9_silent at hv
  refine lv_aload_n hx hb dX9_silent_0 rfl (lv_at hl 0 rfl) ?_
  refine lv_iconst (v := (0 : Int32)) hx hb dX9_silent_1 (by decide) ?_
  refine va_put (D := g.1) (ci := 9) (v := .int (0 : Int32)) (ty := .int) (C := RX9) (T := TX9) (N := 29) hx hb hts inX9_silent_9 tyX9 tyX9_ok nmX9 hown hK hP hD hS 0 rfl rfl 0 (by decide) (hts (.fieldLink RX9 51 "RangeCodesModel" "raised" "I") (List.mem_of_getElem? (i := 1) rfl)) (fun _ h9 => h9) rfl (by decide +kernel) rfl rfl (Nat.le_of_ble_eq_true rfl) dX9_silent_2 (fun H locs hP hD hS => ?_)
  have hP : va_P g.1 vwCl [(qM, .inr (9, [.int (0 : Int32), .ref q1, .ref q2, .ref q3, .int (F 4), .int (F 5), .int (F 6), .int (F 7), .int (F 8), .int (F 9), .long (J 10), .int (F 11), .int (F 12), .int (F 13), .ref q4, .int (F 15), .ref q5, .ref q6, .ref q7, .int (F 19), .ref q8, .int (F 21), .int (F 22), .int (F 23), .int (F 24), .ref q9, .ref q10, .ref q11, .long (J 28)])), (q1, .inl (g.2 0, 376, .inl al)), (q7, .inl (g.2 0, 200, .inl he)), (q8, .inl (g.2 0, 65, .inl ma))] H := hP
  have hD : va_D A [(qM, .inr (9, [.int (0 : Int32), .ref q1, .ref q2, .ref q3, .int (F 4), .int (F 5), .int (F 6), .int (F 7), .int (F 8), .int (F 9), .long (J 10), .int (F 11), .int (F 12), .int (F 13), .ref q4, .int (F 15), .ref q5, .ref q6, .ref q7, .int (F 19), .ref q8, .int (F 21), .int (F 22), .int (F 23), .int (F 24), .ref q9, .ref q10, .ref q11, .long (J 28)])), (q1, .inl (g.2 0, 376, .inl al)), (q7, .inl (g.2 0, 200, .inl he)), (q8, .inl (g.2 0, 65, .inl ma))] := hD
  refine lv_iload_n hx hb dX9_silent_5 rfl (lv_at hl 1 rfl) ?_
  obtain ⟨ho_1, hv⟩ := hv
  refine vp_callSi (W.runS (As := [.int p1]) (rest := []) S (wX9_isLeg l g p1 (sX9_isLeg p1 ho_1)) (va_cwS 1 hts gX9_silent_X9_isLeg rfl rfl rfl (by decide +kernel) ⟨Nat.le_of_ble_eq_true rfl, Nat.le_of_ble_eq_true rfl⟩) ⟨blindRO, fun U hU hW => ⟨rfl, by rw [hU]; exact hP.sub (ws' := []) [] rfl, hG.warm hW⟩⟩ rfl rfl hl.1 rfl (lv_room (Nat.le_of_ble_eq_true rfl)) dX9_silent_6 ⟨Nat.le_of_ble_eq_true rfl, Nat.le_of_ble_eq_true rfl⟩) (fun r_6 hr_6 => ?_)
  have hv := hv r_6 hr_6
  obtain ⟨hvt, hvf⟩ := hv
  refine lv_if_eq (tgt := 20) hx hb dX9_silent_9 (by decide) (fun hc => ?_) (fun hc => ?_)
  · have hv := hvt hc
    refine lv_sipush (v := (-1000 : Int32)) hx hb dX9_silent_20 (by decide) ?_
    have hP9 := hP.sub (ws' := [(qM, .inr (9, [.int ((upd F 0 (0 : Int32)) 0), .ref q1, .ref q2, .ref q3, .int ((upd F 0 (0 : Int32)) 4), .int ((upd F 0 (0 : Int32)) 5), .int ((upd F 0 (0 : Int32)) 6), .int ((upd F 0 (0 : Int32)) 7), .int ((upd F 0 (0 : Int32)) 8), .int ((upd F 0 (0 : Int32)) 9), .long (J 10), .int ((upd F 0 (0 : Int32)) 11), .int ((upd F 0 (0 : Int32)) 12), .int ((upd F 0 (0 : Int32)) 13), .ref q4, .int ((upd F 0 (0 : Int32)) 15), .ref q5, .ref q6, .ref q7, .int ((upd F 0 (0 : Int32)) 19), .ref q8, .int ((upd F 0 (0 : Int32)) 21), .int ((upd F 0 (0 : Int32)) 22), .int ((upd F 0 (0 : Int32)) 23), .int ((upd F 0 (0 : Int32)) 24), .ref q9, .ref q10, .ref q11, .long (J 28)])), (q1, .inl (g.2 0, 376, .inl al)), (q7, .inl (g.2 0, 200, .inl he)), (q8, .inl (g.2 0, 65, .inl ma))]) [0, 1, 2, 3] rfl
    have hD9 := hD.sub (ws' := [(qM, .inr (9, [.int ((upd F 0 (0 : Int32)) 0), .ref q1, .ref q2, .ref q3, .int ((upd F 0 (0 : Int32)) 4), .int ((upd F 0 (0 : Int32)) 5), .int ((upd F 0 (0 : Int32)) 6), .int ((upd F 0 (0 : Int32)) 7), .int ((upd F 0 (0 : Int32)) 8), .int ((upd F 0 (0 : Int32)) 9), .long (J 10), .int ((upd F 0 (0 : Int32)) 11), .int ((upd F 0 (0 : Int32)) 12), .int ((upd F 0 (0 : Int32)) 13), .ref q4, .int ((upd F 0 (0 : Int32)) 15), .ref q5, .ref q6, .ref q7, .int ((upd F 0 (0 : Int32)) 19), .ref q8, .int ((upd F 0 (0 : Int32)) 21), .int ((upd F 0 (0 : Int32)) 22), .int ((upd F 0 (0 : Int32)) 23), .int ((upd F 0 (0 : Int32)) 24), .ref q9, .ref q10, .ref q11, .long (J 28)])), (q1, .inl (g.2 0, 376, .inl al)), (q7, .inl (g.2 0, 200, .inl he)), (q8, .inl (g.2 0, 65, .inl ma))]) [0, 1, 2, 3] (by decide) rfl
    exact W.iret (v := (-1000 : Int32)) hx hb hr (fun t ht hW => ⟨⟨_, ((upd F 0 (0 : Int32)), al, he, ma), rfl, hv, by rw [ht]; exact hP9, hD9⟩, hS.F ht⟩) hS.2.2 dX9_silent_23
  · have hv := hvf hc
    refine lv_aload_n hx hb dX9_silent_12 rfl (lv_at hl 0 rfl) ?_
    refine lv_iload_n hx hb dX9_silent_13 rfl (lv_at hl 2 rfl) ?_
    obtain ⟨n_14, ho_2, hv⟩ := hv
    refine vp_callSi (W.runV (As := [.int p2]) (rest := []) S (wX9_isPart l g qM q1 q2 q3 q4 q5 q6 q7 q8 q9 q10 q11 (upd F 0 (0 : Int32)) J al p2 (sX9_isPart n_14 (upd F 0 (0 : Int32)) J al p2 ho_2)) (cwV 1 hts gX9_silent_X9_isPart rfl rfl rfl (by decide +kernel) ⟨Nat.le_of_ble_eq_true rfl, Nat.le_of_ble_eq_true rfl⟩) ⟨blindRO, va_recv hK hP (ci := 9) (q0 := 0) rfl rfl, fun U hU hW => ⟨rfl, by rw [hU]; exact hP.sub (ws' := [(qM, .inr (9, [.int ((upd F 0 (0 : Int32)) 0), .ref q1, .ref q2, .ref q3, .int ((upd F 0 (0 : Int32)) 4), .int ((upd F 0 (0 : Int32)) 5), .int ((upd F 0 (0 : Int32)) 6), .int ((upd F 0 (0 : Int32)) 7), .int ((upd F 0 (0 : Int32)) 8), .int ((upd F 0 (0 : Int32)) 9), .long (J 10), .int ((upd F 0 (0 : Int32)) 11), .int ((upd F 0 (0 : Int32)) 12), .int ((upd F 0 (0 : Int32)) 13), .ref q4, .int ((upd F 0 (0 : Int32)) 15), .ref q5, .ref q6, .ref q7, .int ((upd F 0 (0 : Int32)) 19), .ref q8, .int ((upd F 0 (0 : Int32)) 21), .int ((upd F 0 (0 : Int32)) 22), .int ((upd F 0 (0 : Int32)) 23), .int ((upd F 0 (0 : Int32)) 24), .ref q9, .ref q10, .ref q11, .long (J 28)])), (q1, .inl (g.2 0, 376, .inl al))]) [0, 1] rfl, hG.warm hW⟩⟩ rfl rfl hl.1 rfl (lv_room (Nat.le_of_ble_eq_true rfl)) dX9_silent_14 ⟨Nat.le_of_ble_eq_true rfl, Nat.le_of_ble_eq_true rfl⟩) (fun r_14 hr_14 => ?_)
    have hv := hv r_14 hr_14
    obtain ⟨hvt, hvf⟩ := hv
    refine lv_if_ne (tgt := 24) hx hb dX9_silent_17 (by decide) (fun hc => ?_) (fun hc => ?_)
    · have hv := hvt hc
      refine lv_aload_n hx hb dX9_silent_24 rfl (lv_at hl 0 rfl) ?_
      refine lv_iload_n hx hb dX9_silent_25 rfl (lv_at hl 2 rfl) ?_
      refine lv_iconst (v := (1 : Int32)) hx hb dX9_silent_26 (by decide) ?_
      obtain ⟨p_27, w_27, ho_3, hv⟩ := hv
      refine vp_callSi (W.runV (As := [.int p2, .int (1 : Int32)]) (rest := []) S (wX9_of l g qM q1 q2 q3 q4 q5 q6 q7 q8 q9 q10 q11 (upd F 0 (0 : Int32)) J al p2 (1 : Int32) (sX9_of p_27 w_27 (upd F 0 (0 : Int32)) J al p2 (1 : Int32) ho_3)) (cwV 2 hts gX9_silent_X9_of rfl rfl rfl (by decide +kernel) ⟨Nat.le_of_ble_eq_true rfl, Nat.le_of_ble_eq_true rfl⟩) ⟨blindRO, va_recv hK hP (ci := 9) (q0 := 0) rfl rfl, fun U hU hW => ⟨rfl, by rw [hU]; exact hP.sub (ws' := [(qM, .inr (9, [.int ((upd F 0 (0 : Int32)) 0), .ref q1, .ref q2, .ref q3, .int ((upd F 0 (0 : Int32)) 4), .int ((upd F 0 (0 : Int32)) 5), .int ((upd F 0 (0 : Int32)) 6), .int ((upd F 0 (0 : Int32)) 7), .int ((upd F 0 (0 : Int32)) 8), .int ((upd F 0 (0 : Int32)) 9), .long (J 10), .int ((upd F 0 (0 : Int32)) 11), .int ((upd F 0 (0 : Int32)) 12), .int ((upd F 0 (0 : Int32)) 13), .ref q4, .int ((upd F 0 (0 : Int32)) 15), .ref q5, .ref q6, .ref q7, .int ((upd F 0 (0 : Int32)) 19), .ref q8, .int ((upd F 0 (0 : Int32)) 21), .int ((upd F 0 (0 : Int32)) 22), .int ((upd F 0 (0 : Int32)) 23), .int ((upd F 0 (0 : Int32)) 24), .ref q9, .ref q10, .ref q11, .long (J 28)])), (q1, .inl (g.2 0, 376, .inl al))]) [0, 1] rfl, hG.warm hW⟩⟩ rfl rfl hl.1 rfl (lv_room (Nat.le_of_ble_eq_true rfl)) dX9_silent_27 ⟨Nat.le_of_ble_eq_true rfl, Nat.le_of_ble_eq_true rfl⟩) (fun r_27 hr_27 => ?_)
      have hv := hv r_27 hr_27
      refine lv_istore_n (lv' := [(3, .int r_27), (0, .ref qM), (1, .int p1), (2, .int p2)]) hx hb dX9_silent_30 rfl hl (by decide) rfl (fun ls hl => ?_)
      refine lv_aload_n hx hb dX9_silent_31 rfl (lv_at hl 1 rfl) ?_
      refine lv_iload_n hx hb dX9_silent_32 rfl (lv_at hl 3 rfl) ?_
      refine lv_iconst (v := (1 : Int32)) hx hb dX9_silent_33 (by decide) ?_
      refine lv_iconst (v := (0 : Int32)) hx hb dX9_silent_34 (by decide) ?_
      obtain ⟨p_35, w_35, ho_4, hv⟩ := hv
      have hPc := hP.sub (ws' := [(qM, .inr (9, [.int ((upd F 0 (0 : Int32)) 0), .ref q1, .ref q2, .ref q3, .int ((upd F 0 (0 : Int32)) 4), .int ((upd F 0 (0 : Int32)) 5), .int ((upd F 0 (0 : Int32)) 6), .int ((upd F 0 (0 : Int32)) 7), .int ((upd F 0 (0 : Int32)) 8), .int ((upd F 0 (0 : Int32)) 9), .long (J 10), .int ((upd F 0 (0 : Int32)) 11), .int ((upd F 0 (0 : Int32)) 12), .int ((upd F 0 (0 : Int32)) 13), .ref q4, .int ((upd F 0 (0 : Int32)) 15), .ref q5, .ref q6, .ref q7, .int ((upd F 0 (0 : Int32)) 19), .ref q8, .int ((upd F 0 (0 : Int32)) 21), .int ((upd F 0 (0 : Int32)) 22), .int ((upd F 0 (0 : Int32)) 23), .int ((upd F 0 (0 : Int32)) 24), .ref q9, .ref q10, .ref q11, .long (J 28)])), (q1, .inl (g.2 0, 376, .inl al))]) [0, 1] rfl
      have hDc := hD.sub (ws' := [(qM, .inr (9, [.int ((upd F 0 (0 : Int32)) 0), .ref q1, .ref q2, .ref q3, .int ((upd F 0 (0 : Int32)) 4), .int ((upd F 0 (0 : Int32)) 5), .int ((upd F 0 (0 : Int32)) 6), .int ((upd F 0 (0 : Int32)) 7), .int ((upd F 0 (0 : Int32)) 8), .int ((upd F 0 (0 : Int32)) 9), .long (J 10), .int ((upd F 0 (0 : Int32)) 11), .int ((upd F 0 (0 : Int32)) 12), .int ((upd F 0 (0 : Int32)) 13), .ref q4, .int ((upd F 0 (0 : Int32)) 15), .ref q5, .ref q6, .ref q7, .int ((upd F 0 (0 : Int32)) 19), .ref q8, .int ((upd F 0 (0 : Int32)) 21), .int ((upd F 0 (0 : Int32)) 22), .int ((upd F 0 (0 : Int32)) 23), .int ((upd F 0 (0 : Int32)) 24), .ref q9, .ref q10, .ref q11, .long (J 28)])), (q1, .inl (g.2 0, 376, .inl al))]) [0, 1] (by decide) rfl
      have hFc := va_free (wc := [(qM, .inr (9, [.int ((upd F 0 (0 : Int32)) 0), .ref q1, .ref q2, .ref q3, .int ((upd F 0 (0 : Int32)) 4), .int ((upd F 0 (0 : Int32)) 5), .int ((upd F 0 (0 : Int32)) 6), .int ((upd F 0 (0 : Int32)) 7), .int ((upd F 0 (0 : Int32)) 8), .int ((upd F 0 (0 : Int32)) 9), .long (J 10), .int ((upd F 0 (0 : Int32)) 11), .int ((upd F 0 (0 : Int32)) 12), .int ((upd F 0 (0 : Int32)) 13), .ref q4, .int ((upd F 0 (0 : Int32)) 15), .ref q5, .ref q6, .ref q7, .int ((upd F 0 (0 : Int32)) 19), .ref q8, .int ((upd F 0 (0 : Int32)) 21), .int ((upd F 0 (0 : Int32)) 22), .int ((upd F 0 (0 : Int32)) 23), .int ((upd F 0 (0 : Int32)) 24), .ref q9, .ref q10, .ref q11, .long (J 28)])), (q1, .inl (g.2 0, 376, .inl al))]) hD hS hA [0, 1] rfl
      refine va_callv (va_runV (As := [.int p2, .int (1 : Int32), .int (0 : Int32)]) (rest := []) S (wX9_lays l g qM q1 q2 q3 q4 q5 q6 q7 q8 q9 q10 q11 H.size (upd F 0 (0 : Int32)) J al p2 (1 : Int32) (0 : Int32) (sX9_lays p_35 w_35 (upd F 0 (0 : Int32)) J al p2 (1 : Int32) (0 : Int32) ho_4)) (cwV 3 hts gX9_silent_X9_lays rfl rfl rfl (by decide +kernel) ⟨Nat.le_of_ble_eq_true rfl, Nat.le_of_ble_eq_true rfl⟩) ⟨blindRW, va_recv hK hP (ci := 9) (q0 := 0) rfl rfl, fun U hU hW => ⟨rfl, by rw [hU], by rw [hU]; exact hPc, hG.warm hW, hDc.weaken (fun _ _ _ _ => trivial)⟩⟩ rfl rfl hl.1 rfl (lv_room (Nat.le_of_ble_eq_true rfl)) dX9_silent_35 ⟨Nat.le_of_ble_eq_true rfl, Nat.le_of_ble_eq_true rfl⟩) hS (fun q _ h => hFc q h) hFc (fun u t H1 locs ht hvm hw hB hz1 hk1 hS => ?_)
      obtain ⟨al_35, rfl⟩ : ∃ z, z = u := ⟨_, rfl⟩
      obtain ⟨hP1, hD1⟩ := hB
      rw [ht] at hP1
      have hv := hv al_35 hw
      obtain ⟨hP, hD⟩ := va_join (wr := [(q7, .inl (g.2 0, 200, .inl he)), (q8, .inl (g.2 0, 65, .inl ma))]) (w1 := [(qM, .inr (9, [.int (0 : Int32), .ref q1, .ref q2, .ref q3, .int (F 4), .int (F 5), .int (F 6), .int (F 7), .int (F 8), .int (F 9), .long (J 10), .int (F 11), .int (F 12), .int (F 13), .ref q4, .int (F 15), .ref q5, .ref q6, .ref q7, .int (F 19), .ref q8, .int (F 21), .int (F 22), .int (F 23), .int (F 24), .ref q9, .ref q10, .ref q11, .long (J 28)])), (q1, .inl (g.2 0, 376, .inl al_35))]) hP hD [0, 1] [2, 3] rfl rfl (by decide) (by decide) hk1 hFc hP1 hD1
      clear hP1 hD1 hPc hDc hFc hk1
      generalize H1 = H at hP hS ⊢
      have hP : va_P g.1 vwCl [(q7, .inl (g.2 0, 200, .inl he)), (q8, .inl (g.2 0, 65, .inl ma)), (qM, .inr (9, [.int (0 : Int32), .ref q1, .ref q2, .ref q3, .int (F 4), .int (F 5), .int (F 6), .int (F 7), .int (F 8), .int (F 9), .long (J 10), .int (F 11), .int (F 12), .int (F 13), .ref q4, .int (F 15), .ref q5, .ref q6, .ref q7, .int (F 19), .ref q8, .int (F 21), .int (F 22), .int (F 23), .int (F 24), .ref q9, .ref q10, .ref q11, .long (J 28)])), (q1, .inl (g.2 0, 376, .inl al_35))] H := hP
      have hD : va_D A [(q7, .inl (g.2 0, 200, .inl he)), (q8, .inl (g.2 0, 65, .inl ma)), (qM, .inr (9, [.int (0 : Int32), .ref q1, .ref q2, .ref q3, .int (F 4), .int (F 5), .int (F 6), .int (F 7), .int (F 8), .int (F 9), .long (J 10), .int (F 11), .int (F 12), .int (F 13), .ref q4, .int (F 15), .ref q5, .ref q6, .ref q7, .int (F 19), .ref q8, .int (F 21), .int (F 22), .int (F 23), .int (F 24), .ref q9, .ref q10, .ref q11, .long (J 28)])), (q1, .inl (g.2 0, 376, .inl al_35))] := hD
      refine lv_aload_n hx hb dX9_silent_38 rfl (lv_at hl 1 rfl) ?_
      refine lv_iload_n hx hb dX9_silent_39 rfl (lv_at hl 2 rfl) ?_
      obtain ⟨T_40, G0_40, G1_40, lg_40, lim_40, ho_5, hv⟩ := hv
      have hPc := hP.sub (ws' := [(qM, .inr (9, [.int ((upd F 0 (0 : Int32)) 0), .ref q1, .ref q2, .ref q3, .int ((upd F 0 (0 : Int32)) 4), .int ((upd F 0 (0 : Int32)) 5), .int ((upd F 0 (0 : Int32)) 6), .int ((upd F 0 (0 : Int32)) 7), .int ((upd F 0 (0 : Int32)) 8), .int ((upd F 0 (0 : Int32)) 9), .long (J 10), .int ((upd F 0 (0 : Int32)) 11), .int ((upd F 0 (0 : Int32)) 12), .int ((upd F 0 (0 : Int32)) 13), .ref q4, .int ((upd F 0 (0 : Int32)) 15), .ref q5, .ref q6, .ref q7, .int ((upd F 0 (0 : Int32)) 19), .ref q8, .int ((upd F 0 (0 : Int32)) 21), .int ((upd F 0 (0 : Int32)) 22), .int ((upd F 0 (0 : Int32)) 23), .int ((upd F 0 (0 : Int32)) 24), .ref q9, .ref q10, .ref q11, .long (J 28)])), (q1, .inl (g.2 0, 376, .inl al_35)), (q7, .inl (g.2 0, 200, .inl he)), (q8, .inl (g.2 0, 65, .inl ma))]) [2, 3, 0, 1] rfl
      have hDc := hD.sub (ws' := [(qM, .inr (9, [.int ((upd F 0 (0 : Int32)) 0), .ref q1, .ref q2, .ref q3, .int ((upd F 0 (0 : Int32)) 4), .int ((upd F 0 (0 : Int32)) 5), .int ((upd F 0 (0 : Int32)) 6), .int ((upd F 0 (0 : Int32)) 7), .int ((upd F 0 (0 : Int32)) 8), .int ((upd F 0 (0 : Int32)) 9), .long (J 10), .int ((upd F 0 (0 : Int32)) 11), .int ((upd F 0 (0 : Int32)) 12), .int ((upd F 0 (0 : Int32)) 13), .ref q4, .int ((upd F 0 (0 : Int32)) 15), .ref q5, .ref q6, .ref q7, .int ((upd F 0 (0 : Int32)) 19), .ref q8, .int ((upd F 0 (0 : Int32)) 21), .int ((upd F 0 (0 : Int32)) 22), .int ((upd F 0 (0 : Int32)) 23), .int ((upd F 0 (0 : Int32)) 24), .ref q9, .ref q10, .ref q11, .long (J 28)])), (q1, .inl (g.2 0, 376, .inl al_35)), (q7, .inl (g.2 0, 200, .inl he)), (q8, .inl (g.2 0, 65, .inl ma))]) [2, 3, 0, 1] (by decide) rfl
      have hFc := va_free (wc := [(qM, .inr (9, [.int ((upd F 0 (0 : Int32)) 0), .ref q1, .ref q2, .ref q3, .int ((upd F 0 (0 : Int32)) 4), .int ((upd F 0 (0 : Int32)) 5), .int ((upd F 0 (0 : Int32)) 6), .int ((upd F 0 (0 : Int32)) 7), .int ((upd F 0 (0 : Int32)) 8), .int ((upd F 0 (0 : Int32)) 9), .long (J 10), .int ((upd F 0 (0 : Int32)) 11), .int ((upd F 0 (0 : Int32)) 12), .int ((upd F 0 (0 : Int32)) 13), .ref q4, .int ((upd F 0 (0 : Int32)) 15), .ref q5, .ref q6, .ref q7, .int ((upd F 0 (0 : Int32)) 19), .ref q8, .int ((upd F 0 (0 : Int32)) 21), .int ((upd F 0 (0 : Int32)) 22), .int ((upd F 0 (0 : Int32)) 23), .int ((upd F 0 (0 : Int32)) 24), .ref q9, .ref q10, .ref q11, .long (J 28)])), (q1, .inl (g.2 0, 376, .inl al_35)), (q7, .inl (g.2 0, 200, .inl he)), (q8, .inl (g.2 0, 65, .inl ma))]) hD hS hA [2, 3, 0, 1] rfl
      refine va_callv (va_runV (As := [.int p1]) (rest := []) S (wX9_laysLeg l g qM q1 q2 q3 q4 q5 q6 q7 q8 q9 q10 q11 H.size (upd F 0 (0 : Int32)) J al_35 he ma p1 (sX9_laysLeg T_40 G0_40 G1_40 lg_40 lim_40 (upd F 0 (0 : Int32)) J al_35 he ma p1 ho_5)) (cwV 1 hts gX9_silent_X9_laysLeg rfl rfl rfl (by decide +kernel) ⟨Nat.le_of_ble_eq_true rfl, Nat.le_of_ble_eq_true rfl⟩) ⟨blindRW, va_recv hK hP (ci := 9) (q0 := 2) rfl rfl, fun U hU hW => ⟨rfl, by rw [hU], by rw [hU]; exact hPc, hG.warm hW, hDc.weaken (fun _ _ _ _ => trivial)⟩⟩ rfl rfl hl.1 rfl (lv_room (Nat.le_of_ble_eq_true rfl)) dX9_silent_40 ⟨Nat.le_of_ble_eq_true rfl, Nat.le_of_ble_eq_true rfl⟩) hS (fun q _ h => hFc q h) hFc (fun u t H1 locs ht hvm hw hB hz1 hk1 hS => ?_)
      obtain ⟨F_40, he_40, ma_40⟩ := u
      obtain ⟨hP1, hD1⟩ := hB
      rw [ht] at hP1
      have hv := hv F_40 he_40 ma_40 hw
      obtain ⟨hP, hD⟩ := va_join (wr := []) (w1 := [(qM, .inr (9, [.int (F_40 0), .ref q1, .ref q2, .ref q3, .int (F_40 4), .int (F_40 5), .int (F_40 6), .int (F_40 7), .int (F_40 8), .int (F_40 9), .long (J 10), .int (F_40 11), .int (F_40 12), .int (F_40 13), .ref q4, .int (F_40 15), .ref q5, .ref q6, .ref q7, .int (F_40 19), .ref q8, .int (F_40 21), .int (F_40 22), .int (F_40 23), .int (F_40 24), .ref q9, .ref q10, .ref q11, .long (J 28)])), (q1, .inl (g.2 0, 376, .inl al_35)), (q7, .inl (g.2 0, 200, .inl he_40)), (q8, .inl (g.2 0, 65, .inl ma_40))]) hP hD [2, 3, 0, 1] [] rfl rfl (by decide) (by decide) hk1 hFc hP1 hD1
      clear hP1 hD1 hPc hDc hFc hk1
      generalize H1 = H at hP hS ⊢
      have hP : va_P g.1 vwCl [(qM, .inr (9, [.int (F_40 0), .ref q1, .ref q2, .ref q3, .int (F_40 4), .int (F_40 5), .int (F_40 6), .int (F_40 7), .int (F_40 8), .int (F_40 9), .long (J 10), .int (F_40 11), .int (F_40 12), .int (F_40 13), .ref q4, .int (F_40 15), .ref q5, .ref q6, .ref q7, .int (F_40 19), .ref q8, .int (F_40 21), .int (F_40 22), .int (F_40 23), .int (F_40 24), .ref q9, .ref q10, .ref q11, .long (J 28)])), (q1, .inl (g.2 0, 376, .inl al_35)), (q7, .inl (g.2 0, 200, .inl he_40)), (q8, .inl (g.2 0, 65, .inl ma_40))] H := hP
      have hD : va_D A [(qM, .inr (9, [.int (F_40 0), .ref q1, .ref q2, .ref q3, .int (F_40 4), .int (F_40 5), .int (F_40 6), .int (F_40 7), .int (F_40 8), .int (F_40 9), .long (J 10), .int (F_40 11), .int (F_40 12), .int (F_40 13), .ref q4, .int (F_40 15), .ref q5, .ref q6, .ref q7, .int (F_40 19), .ref q8, .int (F_40 21), .int (F_40 22), .int (F_40 23), .int (F_40 24), .ref q9, .ref q10, .ref q11, .long (J 28)])), (q1, .inl (g.2 0, 376, .inl al_35)), (q7, .inl (g.2 0, 200, .inl he_40)), (q8, .inl (g.2 0, 65, .inl ma_40))] := hD
      refine lv_aload_n hx hb dX9_silent_43 rfl (lv_at hl 1 rfl) ?_
      refine lv_iload_n hx hb dX9_silent_44 rfl (lv_at hl 3 rfl) ?_
      refine lv_iconst (v := (1 : Int32)) hx hb dX9_silent_45 (by decide) ?_
      refine lv_iload_n hx hb dX9_silent_46 rfl (lv_at hl 0 rfl) ?_
      obtain ⟨p_47, w_47, ho_6, hv⟩ := hv
      have hPc := hP.sub (ws' := [(qM, .inr (9, [.int (F_40 0), .ref q1, .ref q2, .ref q3, .int (F_40 4), .int (F_40 5), .int (F_40 6), .int (F_40 7), .int (F_40 8), .int (F_40 9), .long (J 10), .int (F_40 11), .int (F_40 12), .int (F_40 13), .ref q4, .int (F_40 15), .ref q5, .ref q6, .ref q7, .int (F_40 19), .ref q8, .int (F_40 21), .int (F_40 22), .int (F_40 23), .int (F_40 24), .ref q9, .ref q10, .ref q11, .long (J 28)])), (q1, .inl (g.2 0, 376, .inl al_35))]) [0, 1] rfl
      have hDc := hD.sub (ws' := [(qM, .inr (9, [.int (F_40 0), .ref q1, .ref q2, .ref q3, .int (F_40 4), .int (F_40 5), .int (F_40 6), .int (F_40 7), .int (F_40 8), .int (F_40 9), .long (J 10), .int (F_40 11), .int (F_40 12), .int (F_40 13), .ref q4, .int (F_40 15), .ref q5, .ref q6, .ref q7, .int (F_40 19), .ref q8, .int (F_40 21), .int (F_40 22), .int (F_40 23), .int (F_40 24), .ref q9, .ref q10, .ref q11, .long (J 28)])), (q1, .inl (g.2 0, 376, .inl al_35))]) [0, 1] (by decide) rfl
      have hFc := va_free (wc := [(qM, .inr (9, [.int (F_40 0), .ref q1, .ref q2, .ref q3, .int (F_40 4), .int (F_40 5), .int (F_40 6), .int (F_40 7), .int (F_40 8), .int (F_40 9), .long (J 10), .int (F_40 11), .int (F_40 12), .int (F_40 13), .ref q4, .int (F_40 15), .ref q5, .ref q6, .ref q7, .int (F_40 19), .ref q8, .int (F_40 21), .int (F_40 22), .int (F_40 23), .int (F_40 24), .ref q9, .ref q10, .ref q11, .long (J 28)])), (q1, .inl (g.2 0, 376, .inl al_35))]) hD hS hA [0, 1] rfl
      refine va_callv (va_runV (As := [.int p2, .int (1 : Int32), .int r_27]) (rest := []) S (wX9_lays l g qM q1 q2 q3 q4 q5 q6 q7 q8 q9 q10 q11 H.size F_40 J al_35 p2 (1 : Int32) r_27 (sX9_lays p_47 w_47 F_40 J al_35 p2 (1 : Int32) r_27 ho_6)) (cwV 3 hts gX9_silent_X9_lays rfl rfl rfl (by decide +kernel) ⟨Nat.le_of_ble_eq_true rfl, Nat.le_of_ble_eq_true rfl⟩) ⟨blindRW, va_recv hK hP (ci := 9) (q0 := 0) rfl rfl, fun U hU hW => ⟨rfl, by rw [hU], by rw [hU]; exact hPc, hG.warm hW, hDc.weaken (fun _ _ _ _ => trivial)⟩⟩ rfl rfl hl.1 rfl (lv_room (Nat.le_of_ble_eq_true rfl)) dX9_silent_47 ⟨Nat.le_of_ble_eq_true rfl, Nat.le_of_ble_eq_true rfl⟩) hS (fun q _ h => hFc q h) hFc (fun u t H1 locs ht hvm hw hB hz1 hk1 hS => ?_)
      obtain ⟨al_47, rfl⟩ : ∃ z, z = u := ⟨_, rfl⟩
      obtain ⟨hP1, hD1⟩ := hB
      rw [ht] at hP1
      have hv := hv al_47 hw
      obtain ⟨hP, hD⟩ := va_join (wr := [(q7, .inl (g.2 0, 200, .inl he_40)), (q8, .inl (g.2 0, 65, .inl ma_40))]) (w1 := [(qM, .inr (9, [.int (F_40 0), .ref q1, .ref q2, .ref q3, .int (F_40 4), .int (F_40 5), .int (F_40 6), .int (F_40 7), .int (F_40 8), .int (F_40 9), .long (J 10), .int (F_40 11), .int (F_40 12), .int (F_40 13), .ref q4, .int (F_40 15), .ref q5, .ref q6, .ref q7, .int (F_40 19), .ref q8, .int (F_40 21), .int (F_40 22), .int (F_40 23), .int (F_40 24), .ref q9, .ref q10, .ref q11, .long (J 28)])), (q1, .inl (g.2 0, 376, .inl al_47))]) hP hD [0, 1] [2, 3] rfl rfl (by decide) (by decide) hk1 hFc hP1 hD1
      clear hP1 hD1 hPc hDc hFc hk1
      generalize H1 = H at hP hS ⊢
      have hP : va_P g.1 vwCl [(q7, .inl (g.2 0, 200, .inl he_40)), (q8, .inl (g.2 0, 65, .inl ma_40)), (qM, .inr (9, [.int (F_40 0), .ref q1, .ref q2, .ref q3, .int (F_40 4), .int (F_40 5), .int (F_40 6), .int (F_40 7), .int (F_40 8), .int (F_40 9), .long (J 10), .int (F_40 11), .int (F_40 12), .int (F_40 13), .ref q4, .int (F_40 15), .ref q5, .ref q6, .ref q7, .int (F_40 19), .ref q8, .int (F_40 21), .int (F_40 22), .int (F_40 23), .int (F_40 24), .ref q9, .ref q10, .ref q11, .long (J 28)])), (q1, .inl (g.2 0, 376, .inl al_47))] H := hP
      have hD : va_D A [(q7, .inl (g.2 0, 200, .inl he_40)), (q8, .inl (g.2 0, 65, .inl ma_40)), (qM, .inr (9, [.int (F_40 0), .ref q1, .ref q2, .ref q3, .int (F_40 4), .int (F_40 5), .int (F_40 6), .int (F_40 7), .int (F_40 8), .int (F_40 9), .long (J 10), .int (F_40 11), .int (F_40 12), .int (F_40 13), .ref q4, .int (F_40 15), .ref q5, .ref q6, .ref q7, .int (F_40 19), .ref q8, .int (F_40 21), .int (F_40 22), .int (F_40 23), .int (F_40 24), .ref q9, .ref q10, .ref q11, .long (J 28)])), (q1, .inl (g.2 0, 376, .inl al_47))] := hD
      refine lv_aload_n hx hb dX9_silent_50 rfl (lv_at hl 1 rfl) ?_
      refine lv_iload_n hx hb dX9_silent_51 rfl (lv_at hl 3 rfl) ?_
      obtain ⟨T_52, p_52, m_52, ho_7, hv⟩ := hv
      refine vp_callSi (W.runV (As := [.int p2]) (rest := []) S (wX9_matchOf l g qM q1 q2 q3 q4 q5 q6 q7 q8 q9 q10 q11 F_40 J al_47 ma_40 p2 (sX9_matchOf T_52 p_52 m_52 F_40 J al_47 ma_40 p2 ho_7)) (cwV 1 hts gX9_silent_X9_matchOf rfl rfl rfl (by decide +kernel) ⟨Nat.le_of_ble_eq_true rfl, Nat.le_of_ble_eq_true rfl⟩) ⟨blindRO, va_recv hK hP (ci := 9) (q0 := 2) rfl rfl, fun U hU hW => ⟨rfl, by rw [hU]; exact hP.sub (ws' := [(qM, .inr (9, [.int (F_40 0), .ref q1, .ref q2, .ref q3, .int (F_40 4), .int (F_40 5), .int (F_40 6), .int (F_40 7), .int (F_40 8), .int (F_40 9), .long (J 10), .int (F_40 11), .int (F_40 12), .int (F_40 13), .ref q4, .int (F_40 15), .ref q5, .ref q6, .ref q7, .int (F_40 19), .ref q8, .int (F_40 21), .int (F_40 22), .int (F_40 23), .int (F_40 24), .ref q9, .ref q10, .ref q11, .long (J 28)])), (q1, .inl (g.2 0, 376, .inl al_47)), (q8, .inl (g.2 0, 65, .inl ma_40))]) [2, 3, 1] rfl, hG.warm hW⟩⟩ rfl rfl hl.1 rfl (lv_room (Nat.le_of_ble_eq_true rfl)) dX9_silent_52 ⟨Nat.le_of_ble_eq_true rfl, Nat.le_of_ble_eq_true rfl⟩) (fun r_52 hr_52 => ?_)
      have hv := hv r_52 hr_52
      have hP9 := hP.sub (ws' := [(qM, .inr (9, [.int (F_40 0), .ref q1, .ref q2, .ref q3, .int (F_40 4), .int (F_40 5), .int (F_40 6), .int (F_40 7), .int (F_40 8), .int (F_40 9), .long (J 10), .int (F_40 11), .int (F_40 12), .int (F_40 13), .ref q4, .int (F_40 15), .ref q5, .ref q6, .ref q7, .int (F_40 19), .ref q8, .int (F_40 21), .int (F_40 22), .int (F_40 23), .int (F_40 24), .ref q9, .ref q10, .ref q11, .long (J 28)])), (q1, .inl (g.2 0, 376, .inl al_47)), (q7, .inl (g.2 0, 200, .inl he_40)), (q8, .inl (g.2 0, 65, .inl ma_40))]) [2, 3, 0, 1] rfl
      have hD9 := hD.sub (ws' := [(qM, .inr (9, [.int (F_40 0), .ref q1, .ref q2, .ref q3, .int (F_40 4), .int (F_40 5), .int (F_40 6), .int (F_40 7), .int (F_40 8), .int (F_40 9), .long (J 10), .int (F_40 11), .int (F_40 12), .int (F_40 13), .ref q4, .int (F_40 15), .ref q5, .ref q6, .ref q7, .int (F_40 19), .ref q8, .int (F_40 21), .int (F_40 22), .int (F_40 23), .int (F_40 24), .ref q9, .ref q10, .ref q11, .long (J 28)])), (q1, .inl (g.2 0, 376, .inl al_47)), (q7, .inl (g.2 0, 200, .inl he_40)), (q8, .inl (g.2 0, 65, .inl ma_40))]) [2, 3, 0, 1] (by decide) rfl
      exact W.iret (v := r_52) hx hb hr (fun t ht hW => ⟨⟨_, (F_40, al_47, he_40, ma_40), rfl, hv, by rw [ht]; exact hP9, hD9⟩, hS.F ht⟩) hS.2.2 dX9_silent_55
    · have hv := hvf hc
      refine lv_sipush (v := (-1000 : Int32)) hx hb dX9_silent_20 (by decide) ?_
      have hP9 := hP.sub (ws' := [(qM, .inr (9, [.int ((upd F 0 (0 : Int32)) 0), .ref q1, .ref q2, .ref q3, .int ((upd F 0 (0 : Int32)) 4), .int ((upd F 0 (0 : Int32)) 5), .int ((upd F 0 (0 : Int32)) 6), .int ((upd F 0 (0 : Int32)) 7), .int ((upd F 0 (0 : Int32)) 8), .int ((upd F 0 (0 : Int32)) 9), .long (J 10), .int ((upd F 0 (0 : Int32)) 11), .int ((upd F 0 (0 : Int32)) 12), .int ((upd F 0 (0 : Int32)) 13), .ref q4, .int ((upd F 0 (0 : Int32)) 15), .ref q5, .ref q6, .ref q7, .int ((upd F 0 (0 : Int32)) 19), .ref q8, .int ((upd F 0 (0 : Int32)) 21), .int ((upd F 0 (0 : Int32)) 22), .int ((upd F 0 (0 : Int32)) 23), .int ((upd F 0 (0 : Int32)) 24), .ref q9, .ref q10, .ref q11, .long (J 28)])), (q1, .inl (g.2 0, 376, .inl al)), (q7, .inl (g.2 0, 200, .inl he)), (q8, .inl (g.2 0, 65, .inl ma))]) [0, 1, 2, 3] rfl
      have hD9 := hD.sub (ws' := [(qM, .inr (9, [.int ((upd F 0 (0 : Int32)) 0), .ref q1, .ref q2, .ref q3, .int ((upd F 0 (0 : Int32)) 4), .int ((upd F 0 (0 : Int32)) 5), .int ((upd F 0 (0 : Int32)) 6), .int ((upd F 0 (0 : Int32)) 7), .int ((upd F 0 (0 : Int32)) 8), .int ((upd F 0 (0 : Int32)) 9), .long (J 10), .int ((upd F 0 (0 : Int32)) 11), .int ((upd F 0 (0 : Int32)) 12), .int ((upd F 0 (0 : Int32)) 13), .ref q4, .int ((upd F 0 (0 : Int32)) 15), .ref q5, .ref q6, .ref q7, .int ((upd F 0 (0 : Int32)) 19), .ref q8, .int ((upd F 0 (0 : Int32)) 21), .int ((upd F 0 (0 : Int32)) 22), .int ((upd F 0 (0 : Int32)) 23), .int ((upd F 0 (0 : Int32)) 24), .ref q9, .ref q10, .ref q11, .long (J 28)])), (q1, .inl (g.2 0, 376, .inl al)), (q7, .inl (g.2 0, 200, .inl he)), (q8, .inl (g.2 0, 65, .inl ma))]) [0, 1, 2, 3] (by decide) rfl
      exact W.iret (v := (-1000 : Int32)) hx hb hr (fun t ht hW => ⟨⟨_, ((upd F 0 (0 : Int32)), al, he, ma), rfl, hv, by rw [ht]; exact hP9, hD9⟩, hS.F ht⟩) hS.2.2 dX9_silent_23
theorem mT_wV {T : Cd} {al : Nat → Int32} (h : mT T al) {p v : Nat} (hp : p < cn T) (hv : v ≤ 9) {x : Int32} (hx : x.toInt = (v : Int)) : mT (wV T p v) (upd al (5 + 3 * p + 1) x) := by
  have hn := h.1.2
  refine ⟨?_, fun q hq => ?_, fun q hq => ?_, fun q hq => ?_⟩
  · rw [upd_ne (by omega)]; exact h.1
  · show (upd al _ _ (5 + 3 * q)).toInt = _ ∧ _
    rw [upd_ne (by omega)]; exact h.2.1 q hq
  · show (upd al _ _ (6 + 3 * q)).toInt = ((if q = p then v else cV T q : Nat) : Int) ∧ (if q = p then v else cV T q) ≤ 9
    by_cases e : q = p
    · subst e; rw [show 6 + 3 * q = 5 + 3 * q + 1 by omega, upd_eq, if_pos rfl]; exact ⟨hx, hv⟩
    · rw [upd_ne (by omega), if_neg e]; exact h.2.2.1 q hq
  · show (upd al _ _ (7 + 3 * q)).toInt = _ ∧ _
    rw [upd_ne (by omega)]; exact h.2.2.2 q hq
theorem fcR_wV {T : Cd} {G0 G1 : Lg} {lim : Nat} {al : Nat → Int32} (h : fcR T G0 G1 lim al) {p v : Nat} (hp : p < cn T) (hv : v ≤ 9) {x : Int32} (hx : x.toInt = (v : Int)) : fcR (wV T p v) G0 G1 lim (upd al (5 + 3 * p + 1) x) := by
  have hn := h.1.1.2
  exact ⟨mT_wV h.1 hp hv hx, mG_ne h.2.1 (by omega) _, mG_ne h.2.2.1 (by omega) _, by rw [upd_ne (by omega)]; exact h.2.2.2.1, h.2.2.2.2⟩
abbrev preX9_silent (T : Cd) (G0 : Lg) (G1 : Lg) (lim : Nat) (F : Nat → Int32) (J : Nat → Int64) (al : Nat → Int32) (he : Nat → Int32) (ma : Nat → Int32) (p1 : Int32) (p2 : Int32) : Prop := fcR T G0 G1 lim al
abbrev postX9_silent (T : Cd) (G0 : Lg) (G1 : Lg) (lim : Nat) (F : Nat → Int32) (J : Nat → Int64) (al : Nat → Int32) (he : Nat → Int32) (ma : Nat → Int32) (p1 : Int32) (p2 : Int32) (r : Int32) (F' : Nat → Int32) (al' : Nat → Int32) (he' : Nat → Int32) (ma' : Nat → Int32) : Prop := r.toInt = spSilent T G0 G1 lim p1.toInt p2.toInt ∧ al' = al
theorem sX9_silent (T : Cd) (G0 : Lg) (G1 : Lg) (lim : Nat) (F : Nat → Int32) (J : Nat → Int64) (al : Nat → Int32) (he : Nat → Int32) (ma : Nat → Int32) (p1 : Int32) (p2 : Int32) (H : preX9_silent T G0 G1 lim F J al he ma p1 p2) : vX9_silent F J al he ma p1 p2 (postX9_silent T G0 G1 lim F J al he ma p1 p2) := by
  obtain ⟨hT, h0, h1, hlim, hl9, hl1⟩ := id H
  have hn5 := hT.1.2
  unfold postX9_silent spSilent
  refine ⟨trivial, fun r hr => ?_⟩
  have hr : r = if p1.toInt = 0 ∨ p1.toInt = 1 then 1 else 0 := hr
  rw [hr, q_if1]
  refine ⟨fun hc => ⟨by rw [if_neg (fun q => hc q.1)]; rfl, rfl⟩, fun hc => ⟨cn T, hT.1.1, fun r2 hr2 => ?_⟩⟩
  have hc := Decidable.not_not.mp hc
  have hr2 : r2 = if 0 ≤ p2.toInt ∧ p2.toInt < (cn T : Int) then 1 else 0 := hr2
  rw [hr2, q_if1]
  refine ⟨fun hd => ?_, fun hd => ⟨by rw [if_neg (fun q => hd q.2)]; rfl, rfl⟩⟩
  have hd := Decidable.not_not.mp hd
  rw [if_pos ⟨hc, hd⟩]
  have e2 : p2.toInt = (p2.toInt.toNat : Int) := by omega
  have hp : p2.toInt.toNat < cn T := by omega
  have HS := fcR_wV H hp (v := 0) (by omega) (x := 0) rfl
  refine ⟨p2.toInt.toNat, 1, ⟨e2, rfl, by omega⟩, fun r3 hr3 => ⟨p2.toInt.toNat, 1, ⟨e2, rfl, by omega⟩, fun al2 ha2 => ?_⟩⟩
  have hr3 : r3 = al (5 + 3 * p2.toInt.toNat + 1) := hr3
  have ha2 : al2 = upd al (5 + 3 * p2.toInt.toNat + 1) 0 := ha2
  refine ⟨wV T p2.toInt.toNat 0, G0, G1, p1.toInt.toNat, lim, by rw [ha2]; exact fcR_ll HS _ _ _ _ hc, fun F2 he2 ma2 hq => ?_⟩
  have h2 := rlC_of hq
  refine ⟨p2.toInt.toNat, 1, ⟨e2, rfl, by omega⟩, fun al3 ha3 => ?_⟩
  have ha3 : al3 = al := by
    have ha3 : al3 = upd al2 (5 + 3 * p2.toInt.toNat + 1) r3 := ha3
    rw [ha3, ha2]; exact upd_back hr3
  exact ⟨wV T p2.toInt.toNat 0, p2.toInt.toNat, mN (wV T p2.toInt.toNat 0) G0 G1 lim p1.toInt.toNat, ⟨hn5, by rw [ha3]; exact hT.2.1, e2, hp, h2.2.1 _ hp⟩, fun r5 hr5 => ⟨hr5, ha3⟩⟩
set_option maxRecDepth 20000 in
theorem ggX9_needs_X9_isLeg : GoodIn wsX9_needs wsX9_isLeg := goodIn_r _ [7, 8, 9, 6, 10] (by decide +kernel) (by decide +kernel)
set_option maxRecDepth 20000 in
theorem gX9_needs_X9_isLeg : GoodIn wsX9_needs (va_wsS RX9 182 yX9_isLeg wsX9_isLeg) := goodIn_app (goodIn_of _ (by decide +kernel)) ggX9_needs_X9_isLeg
set_option maxRecDepth 20000 in
theorem ggX9_needs_X9_in : GoodIn wsX9_needs wsX9_in := goodIn_r _ [10] (by decide +kernel) (by decide +kernel)
set_option maxRecDepth 20000 in
theorem gX9_needs_X9_in : GoodIn wsX9_needs (va_wsS RX9 63 yX9_in wsX9_in) := goodIn_app (goodIn_of _ (by decide +kernel)) ggX9_needs_X9_in
set_option maxRecDepth 20000 in
theorem ggX9_needs_X9_ofLeg : GoodIn wsX9_needs wsX9_ofLeg := goodIn_r _ [14, 15, 115, 116, 117, 118, 119, 120, 121, 122, 123, 124, 125, 126, 127, 128, 129, 130, 131, 132, 133, 134, 135, 136, 137, 138, 139, 140, 141, 142, 143] (by decide +kernel) (by decide +kernel)
set_option maxRecDepth 20000 in
theorem gX9_needs_X9_ofLeg : GoodIn wsX9_needs (wsV RX9 185 RX9 yX9_ofLeg wsX9_ofLeg) := goodIn_app (goodIn_of _ (by decide +kernel)) ggX9_needs_X9_ofLeg
set_option maxRecDepth 20000 in
theorem ggX9_needs_X9_layLeg : GoodIn wsX9_needs wsX9_layLeg := goodIn_r _ [19, 15, 115, 116, 117, 118, 119, 120, 121, 122, 123, 124, 125, 126, 127, 128, 129, 130, 131, 132, 133, 134, 135, 136, 137, 138, 139, 140, 141, 142, 143] (by decide +kernel) (by decide +kernel)
set_option maxRecDepth 20000 in
theorem gX9_needs_X9_layLeg : GoodIn wsX9_needs (wsV RX9 188 RX9 yX9_layLeg wsX9_layLeg) := goodIn_app (goodIn_of _ (by decide +kernel)) ggX9_needs_X9_layLeg
set_option maxRecDepth 20000 in
theorem ggX9_needs_X9_laysLeg : GoodIn wsX9_needs wsX9_laysLeg := goodIn_r _ [23, 2, 24, 25, 26, 27, 6, 28, 29, 30, 31, 32, 33, 34, 35, 36, 37, 11, 12, 13, 14, 15, 38, 39, 40, 41, 42, 43, 44, 45, 46, 47, 48, 49, 50, 51, 52, 53, 54, 55, 56, 57, 58, 59, 60, 61, 62, 63, 64, 65, 66, 67, 68, 69, 70, 8, 9, 10, 71, 72, 73, 74, 75, 76, 77, 78, 79, 80, 81, 82, 83, 3, 84, 85, 86, 87, 88, 89, 90, 91, 92, 93, 94, 95, 96, 97, 98, 99, 100, 101, 102, 103, 104, 105, 106, 107, 108, 109, 110, 111, 112, 113, 114, 115, 116, 117, 118, 119, 120, 121, 122, 123, 124, 125, 126, 127, 128, 129, 130, 131, 132, 133, 134, 135, 136, 137, 138, 139, 140, 141, 142, 143] (by decide +kernel) (by decide +kernel)
set_option maxRecDepth 20000 in
theorem gX9_needs_X9_laysLeg : GoodIn wsX9_needs (wsV RX9 294 RX9 yX9_laysLeg wsX9_laysLeg) := goodIn_app (goodIn_of _ (by decide +kernel)) ggX9_needs_X9_laysLeg
theorem dX9_needs_0 : decode cX9_needs 0 = .ok (.aload_n 0, 1) := by decide +kernel
theorem dX9_needs_1 : decode cX9_needs 1 = .ok (.iconst 0, 1) := by decide +kernel
theorem dX9_needs_2 : decode cX9_needs 2 = .ok (.putfield 51, 3) := by decide +kernel
theorem dX9_needs_5 : decode cX9_needs 5 = .ok (.iload_n 1, 1) := by decide +kernel
theorem dX9_needs_6 : decode cX9_needs 6 = .ok (.invokestatic 182, 3) := by decide +kernel
theorem dX9_needs_9 : decode cX9_needs 9 = .ok (.ifCond .eq 14, 3) := by decide +kernel
theorem dX9_needs_12 : decode cX9_needs 12 = .ok (.iload_n 2, 1) := by decide +kernel
theorem dX9_needs_13 : decode cX9_needs 13 = .ok (.iconst 0, 1) := by decide +kernel
theorem dX9_needs_14 : decode cX9_needs 14 = .ok (.sipush 9999, 3) := by decide +kernel
theorem dX9_needs_17 : decode cX9_needs 17 = .ok (.invokestatic 63, 3) := by decide +kernel
theorem dX9_needs_20 : decode cX9_needs 20 = .ok (.ifCond .ne 5, 3) := by decide +kernel
theorem dX9_needs_23 : decode cX9_needs 23 = .ok (.iconst (-1), 1) := by decide +kernel
theorem dX9_needs_24 : decode cX9_needs 24 = .ok (.ireturn, 1) := by decide +kernel
theorem dX9_needs_25 : decode cX9_needs 25 = .ok (.aload_n 0, 1) := by decide +kernel
theorem dX9_needs_26 : decode cX9_needs 26 = .ok (.iload_n 1, 1) := by decide +kernel
theorem dX9_needs_27 : decode cX9_needs 27 = .ok (.iconst 3, 1) := by decide +kernel
theorem dX9_needs_28 : decode cX9_needs 28 = .ok (.invokevirtual 185, 3) := by decide +kernel
theorem dX9_needs_31 : decode cX9_needs 31 = .ok (.istore_n 3, 1) := by decide +kernel
theorem dX9_needs_32 : decode cX9_needs 32 = .ok (.iconst (-1), 1) := by decide +kernel
theorem dX9_needs_33 : decode cX9_needs 33 = .ok (.istore 4, 2) := by decide +kernel
theorem dX9_needs_35 : decode cX9_needs 35 = .ok (.iconst 1, 1) := by decide +kernel
theorem dX9_needs_36 : decode cX9_needs 36 = .ok (.istore 5, 2) := by decide +kernel
theorem dX9_needs_38 : decode cX9_needs 38 = .ok (.iload 5, 2) := by decide +kernel
theorem dX9_needs_40 : decode cX9_needs 40 = .ok (.sipush 200, 3) := by decide +kernel
theorem dX9_needs_43 : decode cX9_needs 43 = .ok (.if_icmp .gt 51, 3) := by decide +kernel
theorem dX9_needs_46 : decode cX9_needs 46 = .ok (.iload 4, 2) := by decide +kernel
theorem dX9_needs_48 : decode cX9_needs 48 = .ok (.iconst (-1), 1) := by decide +kernel
theorem dX9_needs_49 : decode cX9_needs 49 = .ok (.if_icmp .ne 45, 3) := by decide +kernel
theorem dX9_needs_52 : decode cX9_needs 52 = .ok (.aload_n 0, 1) := by decide +kernel
theorem dX9_needs_53 : decode cX9_needs 53 = .ok (.iload_n 1, 1) := by decide +kernel
theorem dX9_needs_54 : decode cX9_needs 54 = .ok (.iconst 3, 1) := by decide +kernel
theorem dX9_needs_55 : decode cX9_needs 55 = .ok (.iload 5, 2) := by decide +kernel
theorem dX9_needs_57 : decode cX9_needs 57 = .ok (.invokevirtual 188, 3) := by decide +kernel
theorem dX9_needs_60 : decode cX9_needs 60 = .ok (.aload_n 0, 1) := by decide +kernel
theorem dX9_needs_61 : decode cX9_needs 61 = .ok (.iload_n 1, 1) := by decide +kernel
theorem dX9_needs_62 : decode cX9_needs 62 = .ok (.invokevirtual 294, 3) := by decide +kernel
theorem dX9_needs_65 : decode cX9_needs 65 = .ok (.aload_n 0, 1) := by decide +kernel
theorem dX9_needs_66 : decode cX9_needs 66 = .ok (.getfield 266, 3) := by decide +kernel
theorem dX9_needs_69 : decode cX9_needs 69 = .ok (.iload_n 2, 1) := by decide +kernel
theorem dX9_needs_70 : decode cX9_needs 70 = .ok (.if_icmp .ne 15, 3) := by decide +kernel
theorem dX9_needs_73 : decode cX9_needs 73 = .ok (.aload_n 0, 1) := by decide +kernel
theorem dX9_needs_74 : decode cX9_needs 74 = .ok (.getfield 269, 3) := by decide +kernel
theorem dX9_needs_77 : decode cX9_needs 77 = .ok (.ifCond .ne 8, 3) := by decide +kernel
theorem dX9_needs_80 : decode cX9_needs 80 = .ok (.iload 5, 2) := by decide +kernel
theorem dX9_needs_82 : decode cX9_needs 82 = .ok (.goto 4, 3) := by decide +kernel
theorem dX9_needs_85 : decode cX9_needs 85 = .ok (.iconst (-1), 1) := by decide +kernel
theorem dX9_needs_86 : decode cX9_needs 86 = .ok (.istore 4, 2) := by decide +kernel
theorem dX9_needs_88 : decode cX9_needs 88 = .ok (.iinc 5 1, 3) := by decide +kernel
theorem dX9_needs_91 : decode cX9_needs 91 = .ok (.goto (-53), 3) := by decide +kernel
theorem dX9_needs_94 : decode cX9_needs 94 = .ok (.aload_n 0, 1) := by decide +kernel
theorem dX9_needs_95 : decode cX9_needs 95 = .ok (.iload_n 1, 1) := by decide +kernel
theorem dX9_needs_96 : decode cX9_needs 96 = .ok (.iconst 3, 1) := by decide +kernel
theorem dX9_needs_97 : decode cX9_needs 97 = .ok (.iload_n 3, 1) := by decide +kernel
theorem dX9_needs_98 : decode cX9_needs 98 = .ok (.invokevirtual 188, 3) := by decide +kernel
theorem dX9_needs_101 : decode cX9_needs 101 = .ok (.iload 4, 2) := by decide +kernel
theorem dX9_needs_103 : decode cX9_needs 103 = .ok (.ireturn, 1) := by decide +kernel
abbrev rmX9_needs : Room := { frames := 7, cells := 0, slots := 0, locals := 162 }
theorem inX9_needs_9 : ∀ w ∈ wsX90, w ∈ wsX9_needs := by decide +kernel
def vX9_needs_c38 (J : Nat → Int64) (p1 : Int32) (p2 : Int32) (Q : Int32 → (Nat → Int32) → (Nat → Int32) → (Nat → Int32) → (Nat → Int32) → Prop) : Nat → Int32 → Int32 → Int32 → (Nat → Int32) → (Nat → Int32) → (Nat → Int32) → (Nat → Int32) → Prop
  | 0, _, _, _, _, _, _, _ => False
  | n + 1, x3, x4, x5, F, al, he, ma => (((200 : Int32) < x5 → (∃ (p_98 : Nat) (w_98 : Nat), preX9_layLeg p_98 w_98 F J al p1 (3 : Int32) x3 ∧ (∀ (al_98 : Nat → Int32), postX9_layLeg p_98 w_98 F J al p1 (3 : Int32) x3 al_98 → (Q x4 F al_98 he ma)))) ∧ (¬ (200 : Int32) < x5 → ((¬ x4 = (-1 : Int32) → (∃ (p_98 : Nat) (w_98 : Nat), preX9_layLeg p_98 w_98 F J al p1 (3 : Int32) x3 ∧ (∀ (al_98 : Nat → Int32), postX9_layLeg p_98 w_98 F J al p1 (3 : Int32) x3 al_98 → (Q x4 F al_98 he ma)))) ∧ (x4 = (-1 : Int32) → (∃ (p_57 : Nat) (w_57 : Nat), preX9_layLeg p_57 w_57 F J al p1 (3 : Int32) x5 ∧ (∀ (al_57 : Nat → Int32), postX9_layLeg p_57 w_57 F J al p1 (3 : Int32) x5 al_57 → (∃ (T_62 : Cd) (G0_62 : Lg) (G1_62 : Lg) (lg_62 : Nat) (lim_62 : Nat), preX9_laysLeg T_62 G0_62 G1_62 lg_62 lim_62 F J al_57 he ma p1 ∧ (∀ (F_62 : Nat → Int32) (he_62 : Nat → Int32) (ma_62 : Nat → Int32), postX9_laysLeg T_62 G0_62 G1_62 lg_62 lim_62 F J al_57 he ma p1 F_62 he_62 ma_62 → ((¬ (F_62 21) = p2 → (vX9_needs_c38 J p1 p2 Q n x3 (-1 : Int32) (x5 + (1 : Int32)) F_62 al_57 he_62 ma_62)) ∧ ((F_62 21) = p2 → ((¬ (F_62 22) = 0 → (vX9_needs_c38 J p1 p2 Q n x3 (-1 : Int32) (x5 + (1 : Int32)) F_62 al_57 he_62 ma_62)) ∧ ((F_62 22) = 0 → (vX9_needs_c38 J p1 p2 Q n x3 x5 (x5 + (1 : Int32)) F_62 al_57 he_62 ma_62)))))))))))))
set_option maxHeartbeats 4000000 in
set_option maxRecDepth 100000 in
theorem kX9_needs_c38 {p : Program} {l : Launch} {e : Env} {s : State} {m : MethodId} {args : Array Value} {below : List Frame} {meth : Method} {c : Code} {g : GP} {qM : Nat} {q1 : Nat} {q2 : Nat} {q3 : Nat} {q4 : Nat} {q5 : Nat} {q6 : Nat} {q7 : Nat} {q8 : Nat} {q9 : Nat} {q10 : Nat} {q11 : Nat} {J : Nat → Int64} {p1 : Int32} {p2 : Int32} {Q : Int32 → (Nat → Int32) → (Nat → Int32) → (Nat → Int32) → (Nat → Int32) → Prop} {A : Nat → Prop} (S : CallFix p m c cX9_needs 6 s args wsX9_needs RX9) (hr : meth.sig.returnType = (some .int)) (hlocks : meth.locks = false) (hG : GK g s) (hA : ∀ q : Nat, s.heap.size ≤ q → A q) : ∀ (n : Nat), ∀ (x3 : Int32) (x4 : Int32) (x5 : Int32) (F : Nat → Int32) (al : Nat → Int32) (he : Nat → Int32) (ma : Nat → Int32), vX9_needs_c38 J p1 p2 Q n x3 x4 x5 F al he ma → ∀ (H : Heap) (locs : List Loc), va_P g.1 vwCl [(qM, .inr (9, [.int (F 0), .ref q1, .ref q2, .ref q3, .int (F 4), .int (F 5), .int (F 6), .int (F 7), .int (F 8), .int (F 9), .long (J 10), .int (F 11), .int (F 12), .int (F 13), .ref q4, .int (F 15), .ref q5, .ref q6, .ref q7, .int (F 19), .ref q8, .int (F 21), .int (F 22), .int (F 23), .int (F 24), .ref q9, .ref q10, .ref q11, .long (J 28)])), (q1, .inl (g.2 0, 376, .inl al)), (q7, .inl (g.2 0, 200, .inl he)), (q8, .inl (g.2 0, 65, .inl ma))] H → va_D A [(qM, .inr (9, [.int (F 0), .ref q1, .ref q2, .ref q3, .int (F 4), .int (F 5), .int (F 6), .int (F 7), .int (F 8), .int (F 9), .long (J 10), .int (F 11), .int (F 12), .int (F 13), .ref q4, .int (F 15), .ref q5, .ref q6, .ref q7, .int (F 19), .ref q8, .int (F 21), .int (F 22), .int (F 23), .int (F 24), .ref q9, .ref q10, .ref q11, .long (J 28)])), (q1, .inl (g.2 0, 376, .inl al)), (q7, .inl (g.2 0, 200, .inl he)), (q8, .inl (g.2 0, 65, .inl ma))] → va_S A s.heap H locs → ∀ (ls : Array Slot), lv_has ls 6 [(0, .ref qM), (1, .int p1), (2, .int p2), (3, .int x3), (4, .int x4), (5, .int x5)] → W p l e (headSpec wsX9_needs rmX9_needs).room s m args below meth c H locs 0 0 (MQ below (va_Qi (fun (r : Int32) (u : (Nat → Int32) × (Nat → Int32) × (Nat → Int32) × (Nat → Int32)) => Q r u.1 u.2.1 u.2.2.1 u.2.2.2) (fun (u : (Nat → Int32) × (Nat → Int32) × (Nat → Int32) × (Nat → Int32)) t => va_P g.1 vwCl [(qM, .inr (9, [.int (u.1 0), .ref q1, .ref q2, .ref q3, .int (u.1 4), .int (u.1 5), .int (u.1 6), .int (u.1 7), .int (u.1 8), .int (u.1 9), .long (J 10), .int (u.1 11), .int (u.1 12), .int (u.1 13), .ref q4, .int (u.1 15), .ref q5, .ref q6, .ref q7, .int (u.1 19), .ref q8, .int (u.1 21), .int (u.1 22), .int (u.1 23), .int (u.1 24), .ref q9, .ref q10, .ref q11, .long (J 28)])), (q1, .inl (g.2 0, 376, .inl u.2.1)), (q7, .inl (g.2 0, 200, .inl u.2.2.1)), (q8, .inl (g.2 0, 65, .inl u.2.2.2))] t.heap ∧ va_D A [(qM, .inr (9, [.int (u.1 0), .ref q1, .ref q2, .ref q3, .int (u.1 4), .int (u.1 5), .int (u.1 6), .int (u.1 7), .int (u.1 8), .int (u.1 9), .long (J 10), .int (u.1 11), .int (u.1 12), .int (u.1 13), .ref q4, .int (u.1 15), .ref q5, .ref q6, .ref q7, .int (u.1 19), .ref q8, .int (u.1 21), .int (u.1 22), .int (u.1 23), .int (u.1 24), .ref q9, .ref q10, .ref q11, .long (J 28)])), (q1, .inl (g.2 0, 376, .inl u.2.1)), (q7, .inl (g.2 0, 200, .inl u.2.2.1)), (q8, .inl (g.2 0, 65, .inl u.2.2.2))]) A) args s 0 0 A) (F0 m 38 ls []) := by
  obtain ⟨hx, hb, hml, hown, hts⟩ := id S
  have hK := hG.1
  intro n
  induction n with
  | zero => intro x3 x4 x5 F al he ma hv; exact hv.elim
  | succ n ih =>
    intro x3 x4 x5 F al he ma hv H locs hP hD hS ls hl
    refine lv_iload hx hb dX9_needs_38 (lv_at hl 5 rfl) ?_
    refine lv_sipush (v := (200 : Int32)) hx hb dX9_needs_40 (by decide) ?_
    obtain ⟨hvt, hvf⟩ := hv
    refine lv_icmp_gt (tgt := 94) hx hb dX9_needs_43 (by decide) (fun hc => ?_) (fun hc => ?_)
    · have hv := hvt hc
      refine lv_aload_n hx hb dX9_needs_94 rfl (lv_at hl 0 rfl) ?_
      refine lv_iload_n hx hb dX9_needs_95 rfl (lv_at hl 1 rfl) ?_
      refine lv_iconst (v := (3 : Int32)) hx hb dX9_needs_96 (by decide) ?_
      refine lv_iload_n hx hb dX9_needs_97 rfl (lv_at hl 3 rfl) ?_
      obtain ⟨p_98, w_98, ho_1, hv⟩ := hv
      have hPc := hP.sub (ws' := [(qM, .inr (9, [.int (F 0), .ref q1, .ref q2, .ref q3, .int (F 4), .int (F 5), .int (F 6), .int (F 7), .int (F 8), .int (F 9), .long (J 10), .int (F 11), .int (F 12), .int (F 13), .ref q4, .int (F 15), .ref q5, .ref q6, .ref q7, .int (F 19), .ref q8, .int (F 21), .int (F 22), .int (F 23), .int (F 24), .ref q9, .ref q10, .ref q11, .long (J 28)])), (q1, .inl (g.2 0, 376, .inl al))]) [0, 1] rfl
      have hDc := hD.sub (ws' := [(qM, .inr (9, [.int (F 0), .ref q1, .ref q2, .ref q3, .int (F 4), .int (F 5), .int (F 6), .int (F 7), .int (F 8), .int (F 9), .long (J 10), .int (F 11), .int (F 12), .int (F 13), .ref q4, .int (F 15), .ref q5, .ref q6, .ref q7, .int (F 19), .ref q8, .int (F 21), .int (F 22), .int (F 23), .int (F 24), .ref q9, .ref q10, .ref q11, .long (J 28)])), (q1, .inl (g.2 0, 376, .inl al))]) [0, 1] (by decide) rfl
      have hFc := va_free (wc := [(qM, .inr (9, [.int (F 0), .ref q1, .ref q2, .ref q3, .int (F 4), .int (F 5), .int (F 6), .int (F 7), .int (F 8), .int (F 9), .long (J 10), .int (F 11), .int (F 12), .int (F 13), .ref q4, .int (F 15), .ref q5, .ref q6, .ref q7, .int (F 19), .ref q8, .int (F 21), .int (F 22), .int (F 23), .int (F 24), .ref q9, .ref q10, .ref q11, .long (J 28)])), (q1, .inl (g.2 0, 376, .inl al))]) hD hS hA [0, 1] rfl
      refine va_callv (va_runV (As := [.int p1, .int (3 : Int32), .int x3]) (rest := []) S (wX9_layLeg l g qM q1 q2 q3 q4 q5 q6 q7 q8 q9 q10 q11 H.size F J al p1 (3 : Int32) x3 (sX9_layLeg p_98 w_98 F J al p1 (3 : Int32) x3 ho_1)) (cwV 3 hts gX9_needs_X9_layLeg rfl rfl rfl (by decide +kernel) ⟨Nat.le_of_ble_eq_true rfl, Nat.le_of_ble_eq_true rfl⟩) ⟨blindRW, va_recv hK hP (ci := 9) (q0 := 0) rfl rfl, fun U hU hW => ⟨rfl, by rw [hU], by rw [hU]; exact hPc, hG.warm hW, hDc.weaken (fun _ _ _ _ => trivial)⟩⟩ rfl rfl hl.1 rfl (lv_room (Nat.le_of_ble_eq_true rfl)) dX9_needs_98 ⟨Nat.le_of_ble_eq_true rfl, Nat.le_of_ble_eq_true rfl⟩) hS (fun q _ h => hFc q h) hFc (fun u t H1 locs ht hvm hw hB hz1 hk1 hS => ?_)
      obtain ⟨al_98, rfl⟩ : ∃ z, z = u := ⟨_, rfl⟩
      obtain ⟨hP1, hD1⟩ := hB
      rw [ht] at hP1
      have hv := hv al_98 hw
      obtain ⟨hP, hD⟩ := va_join (wr := [(q7, .inl (g.2 0, 200, .inl he)), (q8, .inl (g.2 0, 65, .inl ma))]) (w1 := [(qM, .inr (9, [.int (F 0), .ref q1, .ref q2, .ref q3, .int (F 4), .int (F 5), .int (F 6), .int (F 7), .int (F 8), .int (F 9), .long (J 10), .int (F 11), .int (F 12), .int (F 13), .ref q4, .int (F 15), .ref q5, .ref q6, .ref q7, .int (F 19), .ref q8, .int (F 21), .int (F 22), .int (F 23), .int (F 24), .ref q9, .ref q10, .ref q11, .long (J 28)])), (q1, .inl (g.2 0, 376, .inl al_98))]) hP hD [0, 1] [2, 3] rfl rfl (by decide) (by decide) hk1 hFc hP1 hD1
      clear hP1 hD1 hPc hDc hFc hk1
      generalize H1 = H at hP hS ⊢
      have hP : va_P g.1 vwCl [(q7, .inl (g.2 0, 200, .inl he)), (q8, .inl (g.2 0, 65, .inl ma)), (qM, .inr (9, [.int (F 0), .ref q1, .ref q2, .ref q3, .int (F 4), .int (F 5), .int (F 6), .int (F 7), .int (F 8), .int (F 9), .long (J 10), .int (F 11), .int (F 12), .int (F 13), .ref q4, .int (F 15), .ref q5, .ref q6, .ref q7, .int (F 19), .ref q8, .int (F 21), .int (F 22), .int (F 23), .int (F 24), .ref q9, .ref q10, .ref q11, .long (J 28)])), (q1, .inl (g.2 0, 376, .inl al_98))] H := hP
      have hD : va_D A [(q7, .inl (g.2 0, 200, .inl he)), (q8, .inl (g.2 0, 65, .inl ma)), (qM, .inr (9, [.int (F 0), .ref q1, .ref q2, .ref q3, .int (F 4), .int (F 5), .int (F 6), .int (F 7), .int (F 8), .int (F 9), .long (J 10), .int (F 11), .int (F 12), .int (F 13), .ref q4, .int (F 15), .ref q5, .ref q6, .ref q7, .int (F 19), .ref q8, .int (F 21), .int (F 22), .int (F 23), .int (F 24), .ref q9, .ref q10, .ref q11, .long (J 28)])), (q1, .inl (g.2 0, 376, .inl al_98))] := hD
      refine lv_iload hx hb dX9_needs_101 (lv_at hl 4 rfl) ?_
      have hP9 := hP.sub (ws' := [(qM, .inr (9, [.int (F 0), .ref q1, .ref q2, .ref q3, .int (F 4), .int (F 5), .int (F 6), .int (F 7), .int (F 8), .int (F 9), .long (J 10), .int (F 11), .int (F 12), .int (F 13), .ref q4, .int (F 15), .ref q5, .ref q6, .ref q7, .int (F 19), .ref q8, .int (F 21), .int (F 22), .int (F 23), .int (F 24), .ref q9, .ref q10, .ref q11, .long (J 28)])), (q1, .inl (g.2 0, 376, .inl al_98)), (q7, .inl (g.2 0, 200, .inl he)), (q8, .inl (g.2 0, 65, .inl ma))]) [2, 3, 0, 1] rfl
      have hD9 := hD.sub (ws' := [(qM, .inr (9, [.int (F 0), .ref q1, .ref q2, .ref q3, .int (F 4), .int (F 5), .int (F 6), .int (F 7), .int (F 8), .int (F 9), .long (J 10), .int (F 11), .int (F 12), .int (F 13), .ref q4, .int (F 15), .ref q5, .ref q6, .ref q7, .int (F 19), .ref q8, .int (F 21), .int (F 22), .int (F 23), .int (F 24), .ref q9, .ref q10, .ref q11, .long (J 28)])), (q1, .inl (g.2 0, 376, .inl al_98)), (q7, .inl (g.2 0, 200, .inl he)), (q8, .inl (g.2 0, 65, .inl ma))]) [2, 3, 0, 1] (by decide) rfl
      exact W.iret (v := x4) hx hb hr (fun t ht hW => ⟨⟨_, (F, al_98, he, ma), rfl, hv, by rw [ht]; exact hP9, hD9⟩, hS.F ht⟩) hS.2.2 dX9_needs_103
    · have hv := hvf hc
      refine lv_iload hx hb dX9_needs_46 (lv_at hl 4 rfl) ?_
      refine lv_iconst (v := (-1 : Int32)) hx hb dX9_needs_48 (by decide) ?_
      obtain ⟨hvt, hvf⟩ := hv
      refine lv_icmp_ne (tgt := 94) hx hb dX9_needs_49 (by decide) (fun hc => ?_) (fun hc => ?_)
      · have hv := hvt hc
        refine lv_aload_n hx hb dX9_needs_94 rfl (lv_at hl 0 rfl) ?_
        refine lv_iload_n hx hb dX9_needs_95 rfl (lv_at hl 1 rfl) ?_
        refine lv_iconst (v := (3 : Int32)) hx hb dX9_needs_96 (by decide) ?_
        refine lv_iload_n hx hb dX9_needs_97 rfl (lv_at hl 3 rfl) ?_
        obtain ⟨p_98, w_98, ho_2, hv⟩ := hv
        have hPc := hP.sub (ws' := [(qM, .inr (9, [.int (F 0), .ref q1, .ref q2, .ref q3, .int (F 4), .int (F 5), .int (F 6), .int (F 7), .int (F 8), .int (F 9), .long (J 10), .int (F 11), .int (F 12), .int (F 13), .ref q4, .int (F 15), .ref q5, .ref q6, .ref q7, .int (F 19), .ref q8, .int (F 21), .int (F 22), .int (F 23), .int (F 24), .ref q9, .ref q10, .ref q11, .long (J 28)])), (q1, .inl (g.2 0, 376, .inl al))]) [0, 1] rfl
        have hDc := hD.sub (ws' := [(qM, .inr (9, [.int (F 0), .ref q1, .ref q2, .ref q3, .int (F 4), .int (F 5), .int (F 6), .int (F 7), .int (F 8), .int (F 9), .long (J 10), .int (F 11), .int (F 12), .int (F 13), .ref q4, .int (F 15), .ref q5, .ref q6, .ref q7, .int (F 19), .ref q8, .int (F 21), .int (F 22), .int (F 23), .int (F 24), .ref q9, .ref q10, .ref q11, .long (J 28)])), (q1, .inl (g.2 0, 376, .inl al))]) [0, 1] (by decide) rfl
        have hFc := va_free (wc := [(qM, .inr (9, [.int (F 0), .ref q1, .ref q2, .ref q3, .int (F 4), .int (F 5), .int (F 6), .int (F 7), .int (F 8), .int (F 9), .long (J 10), .int (F 11), .int (F 12), .int (F 13), .ref q4, .int (F 15), .ref q5, .ref q6, .ref q7, .int (F 19), .ref q8, .int (F 21), .int (F 22), .int (F 23), .int (F 24), .ref q9, .ref q10, .ref q11, .long (J 28)])), (q1, .inl (g.2 0, 376, .inl al))]) hD hS hA [0, 1] rfl
        refine va_callv (va_runV (As := [.int p1, .int (3 : Int32), .int x3]) (rest := []) S (wX9_layLeg l g qM q1 q2 q3 q4 q5 q6 q7 q8 q9 q10 q11 H.size F J al p1 (3 : Int32) x3 (sX9_layLeg p_98 w_98 F J al p1 (3 : Int32) x3 ho_2)) (cwV 3 hts gX9_needs_X9_layLeg rfl rfl rfl (by decide +kernel) ⟨Nat.le_of_ble_eq_true rfl, Nat.le_of_ble_eq_true rfl⟩) ⟨blindRW, va_recv hK hP (ci := 9) (q0 := 0) rfl rfl, fun U hU hW => ⟨rfl, by rw [hU], by rw [hU]; exact hPc, hG.warm hW, hDc.weaken (fun _ _ _ _ => trivial)⟩⟩ rfl rfl hl.1 rfl (lv_room (Nat.le_of_ble_eq_true rfl)) dX9_needs_98 ⟨Nat.le_of_ble_eq_true rfl, Nat.le_of_ble_eq_true rfl⟩) hS (fun q _ h => hFc q h) hFc (fun u t H1 locs ht hvm hw hB hz1 hk1 hS => ?_)
        obtain ⟨al_98, rfl⟩ : ∃ z, z = u := ⟨_, rfl⟩
        obtain ⟨hP1, hD1⟩ := hB
        rw [ht] at hP1
        have hv := hv al_98 hw
        obtain ⟨hP, hD⟩ := va_join (wr := [(q7, .inl (g.2 0, 200, .inl he)), (q8, .inl (g.2 0, 65, .inl ma))]) (w1 := [(qM, .inr (9, [.int (F 0), .ref q1, .ref q2, .ref q3, .int (F 4), .int (F 5), .int (F 6), .int (F 7), .int (F 8), .int (F 9), .long (J 10), .int (F 11), .int (F 12), .int (F 13), .ref q4, .int (F 15), .ref q5, .ref q6, .ref q7, .int (F 19), .ref q8, .int (F 21), .int (F 22), .int (F 23), .int (F 24), .ref q9, .ref q10, .ref q11, .long (J 28)])), (q1, .inl (g.2 0, 376, .inl al_98))]) hP hD [0, 1] [2, 3] rfl rfl (by decide) (by decide) hk1 hFc hP1 hD1
        clear hP1 hD1 hPc hDc hFc hk1
        generalize H1 = H at hP hS ⊢
        have hP : va_P g.1 vwCl [(q7, .inl (g.2 0, 200, .inl he)), (q8, .inl (g.2 0, 65, .inl ma)), (qM, .inr (9, [.int (F 0), .ref q1, .ref q2, .ref q3, .int (F 4), .int (F 5), .int (F 6), .int (F 7), .int (F 8), .int (F 9), .long (J 10), .int (F 11), .int (F 12), .int (F 13), .ref q4, .int (F 15), .ref q5, .ref q6, .ref q7, .int (F 19), .ref q8, .int (F 21), .int (F 22), .int (F 23), .int (F 24), .ref q9, .ref q10, .ref q11, .long (J 28)])), (q1, .inl (g.2 0, 376, .inl al_98))] H := hP
        have hD : va_D A [(q7, .inl (g.2 0, 200, .inl he)), (q8, .inl (g.2 0, 65, .inl ma)), (qM, .inr (9, [.int (F 0), .ref q1, .ref q2, .ref q3, .int (F 4), .int (F 5), .int (F 6), .int (F 7), .int (F 8), .int (F 9), .long (J 10), .int (F 11), .int (F 12), .int (F 13), .ref q4, .int (F 15), .ref q5, .ref q6, .ref q7, .int (F 19), .ref q8, .int (F 21), .int (F 22), .int (F 23), .int (F 24), .ref q9, .ref q10, .ref q11, .long (J 28)])), (q1, .inl (g.2 0, 376, .inl al_98))] := hD
        refine lv_iload hx hb dX9_needs_101 (lv_at hl 4 rfl) ?_
        have hP9 := hP.sub (ws' := [(qM, .inr (9, [.int (F 0), .ref q1, .ref q2, .ref q3, .int (F 4), .int (F 5), .int (F 6), .int (F 7), .int (F 8), .int (F 9), .long (J 10), .int (F 11), .int (F 12), .int (F 13), .ref q4, .int (F 15), .ref q5, .ref q6, .ref q7, .int (F 19), .ref q8, .int (F 21), .int (F 22), .int (F 23), .int (F 24), .ref q9, .ref q10, .ref q11, .long (J 28)])), (q1, .inl (g.2 0, 376, .inl al_98)), (q7, .inl (g.2 0, 200, .inl he)), (q8, .inl (g.2 0, 65, .inl ma))]) [2, 3, 0, 1] rfl
        have hD9 := hD.sub (ws' := [(qM, .inr (9, [.int (F 0), .ref q1, .ref q2, .ref q3, .int (F 4), .int (F 5), .int (F 6), .int (F 7), .int (F 8), .int (F 9), .long (J 10), .int (F 11), .int (F 12), .int (F 13), .ref q4, .int (F 15), .ref q5, .ref q6, .ref q7, .int (F 19), .ref q8, .int (F 21), .int (F 22), .int (F 23), .int (F 24), .ref q9, .ref q10, .ref q11, .long (J 28)])), (q1, .inl (g.2 0, 376, .inl al_98)), (q7, .inl (g.2 0, 200, .inl he)), (q8, .inl (g.2 0, 65, .inl ma))]) [2, 3, 0, 1] (by decide) rfl
        exact W.iret (v := x4) hx hb hr (fun t ht hW => ⟨⟨_, (F, al_98, he, ma), rfl, hv, by rw [ht]; exact hP9, hD9⟩, hS.F ht⟩) hS.2.2 dX9_needs_103
      · have hv := hvf hc
        refine lv_aload_n hx hb dX9_needs_52 rfl (lv_at hl 0 rfl) ?_
        refine lv_iload_n hx hb dX9_needs_53 rfl (lv_at hl 1 rfl) ?_
        refine lv_iconst (v := (3 : Int32)) hx hb dX9_needs_54 (by decide) ?_
        refine lv_iload hx hb dX9_needs_55 (lv_at hl 5 rfl) ?_
        obtain ⟨p_57, w_57, ho_3, hv⟩ := hv
        have hPc := hP.sub (ws' := [(qM, .inr (9, [.int (F 0), .ref q1, .ref q2, .ref q3, .int (F 4), .int (F 5), .int (F 6), .int (F 7), .int (F 8), .int (F 9), .long (J 10), .int (F 11), .int (F 12), .int (F 13), .ref q4, .int (F 15), .ref q5, .ref q6, .ref q7, .int (F 19), .ref q8, .int (F 21), .int (F 22), .int (F 23), .int (F 24), .ref q9, .ref q10, .ref q11, .long (J 28)])), (q1, .inl (g.2 0, 376, .inl al))]) [0, 1] rfl
        have hDc := hD.sub (ws' := [(qM, .inr (9, [.int (F 0), .ref q1, .ref q2, .ref q3, .int (F 4), .int (F 5), .int (F 6), .int (F 7), .int (F 8), .int (F 9), .long (J 10), .int (F 11), .int (F 12), .int (F 13), .ref q4, .int (F 15), .ref q5, .ref q6, .ref q7, .int (F 19), .ref q8, .int (F 21), .int (F 22), .int (F 23), .int (F 24), .ref q9, .ref q10, .ref q11, .long (J 28)])), (q1, .inl (g.2 0, 376, .inl al))]) [0, 1] (by decide) rfl
        have hFc := va_free (wc := [(qM, .inr (9, [.int (F 0), .ref q1, .ref q2, .ref q3, .int (F 4), .int (F 5), .int (F 6), .int (F 7), .int (F 8), .int (F 9), .long (J 10), .int (F 11), .int (F 12), .int (F 13), .ref q4, .int (F 15), .ref q5, .ref q6, .ref q7, .int (F 19), .ref q8, .int (F 21), .int (F 22), .int (F 23), .int (F 24), .ref q9, .ref q10, .ref q11, .long (J 28)])), (q1, .inl (g.2 0, 376, .inl al))]) hD hS hA [0, 1] rfl
        refine va_callv (va_runV (As := [.int p1, .int (3 : Int32), .int x5]) (rest := []) S (wX9_layLeg l g qM q1 q2 q3 q4 q5 q6 q7 q8 q9 q10 q11 H.size F J al p1 (3 : Int32) x5 (sX9_layLeg p_57 w_57 F J al p1 (3 : Int32) x5 ho_3)) (cwV 3 hts gX9_needs_X9_layLeg rfl rfl rfl (by decide +kernel) ⟨Nat.le_of_ble_eq_true rfl, Nat.le_of_ble_eq_true rfl⟩) ⟨blindRW, va_recv hK hP (ci := 9) (q0 := 0) rfl rfl, fun U hU hW => ⟨rfl, by rw [hU], by rw [hU]; exact hPc, hG.warm hW, hDc.weaken (fun _ _ _ _ => trivial)⟩⟩ rfl rfl hl.1 rfl (lv_room (Nat.le_of_ble_eq_true rfl)) dX9_needs_57 ⟨Nat.le_of_ble_eq_true rfl, Nat.le_of_ble_eq_true rfl⟩) hS (fun q _ h => hFc q h) hFc (fun u t H1 locs ht hvm hw hB hz1 hk1 hS => ?_)
        obtain ⟨al_57, rfl⟩ : ∃ z, z = u := ⟨_, rfl⟩
        obtain ⟨hP1, hD1⟩ := hB
        rw [ht] at hP1
        have hv := hv al_57 hw
        obtain ⟨hP, hD⟩ := va_join (wr := [(q7, .inl (g.2 0, 200, .inl he)), (q8, .inl (g.2 0, 65, .inl ma))]) (w1 := [(qM, .inr (9, [.int (F 0), .ref q1, .ref q2, .ref q3, .int (F 4), .int (F 5), .int (F 6), .int (F 7), .int (F 8), .int (F 9), .long (J 10), .int (F 11), .int (F 12), .int (F 13), .ref q4, .int (F 15), .ref q5, .ref q6, .ref q7, .int (F 19), .ref q8, .int (F 21), .int (F 22), .int (F 23), .int (F 24), .ref q9, .ref q10, .ref q11, .long (J 28)])), (q1, .inl (g.2 0, 376, .inl al_57))]) hP hD [0, 1] [2, 3] rfl rfl (by decide) (by decide) hk1 hFc hP1 hD1
        clear hP1 hD1 hPc hDc hFc hk1
        generalize H1 = H at hP hS ⊢
        have hP : va_P g.1 vwCl [(q7, .inl (g.2 0, 200, .inl he)), (q8, .inl (g.2 0, 65, .inl ma)), (qM, .inr (9, [.int (F 0), .ref q1, .ref q2, .ref q3, .int (F 4), .int (F 5), .int (F 6), .int (F 7), .int (F 8), .int (F 9), .long (J 10), .int (F 11), .int (F 12), .int (F 13), .ref q4, .int (F 15), .ref q5, .ref q6, .ref q7, .int (F 19), .ref q8, .int (F 21), .int (F 22), .int (F 23), .int (F 24), .ref q9, .ref q10, .ref q11, .long (J 28)])), (q1, .inl (g.2 0, 376, .inl al_57))] H := hP
        have hD : va_D A [(q7, .inl (g.2 0, 200, .inl he)), (q8, .inl (g.2 0, 65, .inl ma)), (qM, .inr (9, [.int (F 0), .ref q1, .ref q2, .ref q3, .int (F 4), .int (F 5), .int (F 6), .int (F 7), .int (F 8), .int (F 9), .long (J 10), .int (F 11), .int (F 12), .int (F 13), .ref q4, .int (F 15), .ref q5, .ref q6, .ref q7, .int (F 19), .ref q8, .int (F 21), .int (F 22), .int (F 23), .int (F 24), .ref q9, .ref q10, .ref q11, .long (J 28)])), (q1, .inl (g.2 0, 376, .inl al_57))] := hD
        refine lv_aload_n hx hb dX9_needs_60 rfl (lv_at hl 0 rfl) ?_
        refine lv_iload_n hx hb dX9_needs_61 rfl (lv_at hl 1 rfl) ?_
        obtain ⟨T_62, G0_62, G1_62, lg_62, lim_62, ho_4, hv⟩ := hv
        have hPc := hP.sub (ws' := [(qM, .inr (9, [.int (F 0), .ref q1, .ref q2, .ref q3, .int (F 4), .int (F 5), .int (F 6), .int (F 7), .int (F 8), .int (F 9), .long (J 10), .int (F 11), .int (F 12), .int (F 13), .ref q4, .int (F 15), .ref q5, .ref q6, .ref q7, .int (F 19), .ref q8, .int (F 21), .int (F 22), .int (F 23), .int (F 24), .ref q9, .ref q10, .ref q11, .long (J 28)])), (q1, .inl (g.2 0, 376, .inl al_57)), (q7, .inl (g.2 0, 200, .inl he)), (q8, .inl (g.2 0, 65, .inl ma))]) [2, 3, 0, 1] rfl
        have hDc := hD.sub (ws' := [(qM, .inr (9, [.int (F 0), .ref q1, .ref q2, .ref q3, .int (F 4), .int (F 5), .int (F 6), .int (F 7), .int (F 8), .int (F 9), .long (J 10), .int (F 11), .int (F 12), .int (F 13), .ref q4, .int (F 15), .ref q5, .ref q6, .ref q7, .int (F 19), .ref q8, .int (F 21), .int (F 22), .int (F 23), .int (F 24), .ref q9, .ref q10, .ref q11, .long (J 28)])), (q1, .inl (g.2 0, 376, .inl al_57)), (q7, .inl (g.2 0, 200, .inl he)), (q8, .inl (g.2 0, 65, .inl ma))]) [2, 3, 0, 1] (by decide) rfl
        have hFc := va_free (wc := [(qM, .inr (9, [.int (F 0), .ref q1, .ref q2, .ref q3, .int (F 4), .int (F 5), .int (F 6), .int (F 7), .int (F 8), .int (F 9), .long (J 10), .int (F 11), .int (F 12), .int (F 13), .ref q4, .int (F 15), .ref q5, .ref q6, .ref q7, .int (F 19), .ref q8, .int (F 21), .int (F 22), .int (F 23), .int (F 24), .ref q9, .ref q10, .ref q11, .long (J 28)])), (q1, .inl (g.2 0, 376, .inl al_57)), (q7, .inl (g.2 0, 200, .inl he)), (q8, .inl (g.2 0, 65, .inl ma))]) hD hS hA [2, 3, 0, 1] rfl
        refine va_callv (va_runV (As := [.int p1]) (rest := []) S (wX9_laysLeg l g qM q1 q2 q3 q4 q5 q6 q7 q8 q9 q10 q11 H.size F J al_57 he ma p1 (sX9_laysLeg T_62 G0_62 G1_62 lg_62 lim_62 F J al_57 he ma p1 ho_4)) (cwV 1 hts gX9_needs_X9_laysLeg rfl rfl rfl (by decide +kernel) ⟨Nat.le_of_ble_eq_true rfl, Nat.le_of_ble_eq_true rfl⟩) ⟨blindRW, va_recv hK hP (ci := 9) (q0 := 2) rfl rfl, fun U hU hW => ⟨rfl, by rw [hU], by rw [hU]; exact hPc, hG.warm hW, hDc.weaken (fun _ _ _ _ => trivial)⟩⟩ rfl rfl hl.1 rfl (lv_room (Nat.le_of_ble_eq_true rfl)) dX9_needs_62 ⟨Nat.le_of_ble_eq_true rfl, Nat.le_of_ble_eq_true rfl⟩) hS (fun q _ h => hFc q h) hFc (fun u t H1 locs ht hvm hw hB hz1 hk1 hS => ?_)
        obtain ⟨F_62, he_62, ma_62⟩ := u
        obtain ⟨hP1, hD1⟩ := hB
        rw [ht] at hP1
        have hv := hv F_62 he_62 ma_62 hw
        obtain ⟨hP, hD⟩ := va_join (wr := []) (w1 := [(qM, .inr (9, [.int (F_62 0), .ref q1, .ref q2, .ref q3, .int (F_62 4), .int (F_62 5), .int (F_62 6), .int (F_62 7), .int (F_62 8), .int (F_62 9), .long (J 10), .int (F_62 11), .int (F_62 12), .int (F_62 13), .ref q4, .int (F_62 15), .ref q5, .ref q6, .ref q7, .int (F_62 19), .ref q8, .int (F_62 21), .int (F_62 22), .int (F_62 23), .int (F_62 24), .ref q9, .ref q10, .ref q11, .long (J 28)])), (q1, .inl (g.2 0, 376, .inl al_57)), (q7, .inl (g.2 0, 200, .inl he_62)), (q8, .inl (g.2 0, 65, .inl ma_62))]) hP hD [2, 3, 0, 1] [] rfl rfl (by decide) (by decide) hk1 hFc hP1 hD1
        clear hP1 hD1 hPc hDc hFc hk1
        generalize H1 = H at hP hS ⊢
        have hP : va_P g.1 vwCl [(qM, .inr (9, [.int (F_62 0), .ref q1, .ref q2, .ref q3, .int (F_62 4), .int (F_62 5), .int (F_62 6), .int (F_62 7), .int (F_62 8), .int (F_62 9), .long (J 10), .int (F_62 11), .int (F_62 12), .int (F_62 13), .ref q4, .int (F_62 15), .ref q5, .ref q6, .ref q7, .int (F_62 19), .ref q8, .int (F_62 21), .int (F_62 22), .int (F_62 23), .int (F_62 24), .ref q9, .ref q10, .ref q11, .long (J 28)])), (q1, .inl (g.2 0, 376, .inl al_57)), (q7, .inl (g.2 0, 200, .inl he_62)), (q8, .inl (g.2 0, 65, .inl ma_62))] H := hP
        have hD : va_D A [(qM, .inr (9, [.int (F_62 0), .ref q1, .ref q2, .ref q3, .int (F_62 4), .int (F_62 5), .int (F_62 6), .int (F_62 7), .int (F_62 8), .int (F_62 9), .long (J 10), .int (F_62 11), .int (F_62 12), .int (F_62 13), .ref q4, .int (F_62 15), .ref q5, .ref q6, .ref q7, .int (F_62 19), .ref q8, .int (F_62 21), .int (F_62 22), .int (F_62 23), .int (F_62 24), .ref q9, .ref q10, .ref q11, .long (J 28)])), (q1, .inl (g.2 0, 376, .inl al_57)), (q7, .inl (g.2 0, 200, .inl he_62)), (q8, .inl (g.2 0, 65, .inl ma_62))] := hD
        refine lv_aload_n hx hb dX9_needs_65 rfl (lv_at hl 0 rfl) ?_
        refine va_get (D := g.1) (ci := 9) (v := .int (F_62 21)) (C := RX9) (T := TX9) (N := 29) hx hb hts inX9_needs_9 hown hK hP 0 rfl rfl 21 (by decide) (hts (.fieldLink RX9 266 "RangeCodesModel" "distance" "I") (List.mem_of_getElem? (i := 2) rfl)) (fun _ h9 => h9) rfl dX9_needs_66 ?_
        refine lv_iload_n hx hb dX9_needs_69 rfl (lv_at hl 2 rfl) ?_
        obtain ⟨hvt, hvf⟩ := hv
        refine lv_icmp_ne (tgt := 85) hx hb dX9_needs_70 (by decide) (fun hc => ?_) (fun hc => ?_)
        · have hv := hvt hc
          refine lv_iconst (v := (-1 : Int32)) hx hb dX9_needs_85 (by decide) ?_
          refine lv_istore (lv' := [(4, .int (-1 : Int32)), (0, .ref qM), (1, .int p1), (2, .int p2), (3, .int x3), (5, .int x5)]) hx hb dX9_needs_86 hl (by decide) rfl (fun ls hl => ?_)
          refine lv_iinc (v := (x5 + (1 : Int32))) (lv' := [(5, .int (x5 + (1 : Int32))), (4, .int (-1 : Int32)), (0, .ref qM), (1, .int p1), (2, .int p2), (3, .int x3)]) hx hb dX9_needs_88 hl (k := 5) rfl rfl (by decide) rfl (fun ls hl => ?_)
          refine lv_goto (tgt := 38) hx hb dX9_needs_91 (by decide) ?_
          exact ih _ _ _ _ _ _ _ hv _ _ (hP.sub (ws' := [(qM, .inr (9, [.int (F_62 0), .ref q1, .ref q2, .ref q3, .int (F_62 4), .int (F_62 5), .int (F_62 6), .int (F_62 7), .int (F_62 8), .int (F_62 9), .long (J 10), .int (F_62 11), .int (F_62 12), .int (F_62 13), .ref q4, .int (F_62 15), .ref q5, .ref q6, .ref q7, .int (F_62 19), .ref q8, .int (F_62 21), .int (F_62 22), .int (F_62 23), .int (F_62 24), .ref q9, .ref q10, .ref q11, .long (J 28)])), (q1, .inl (g.2 0, 376, .inl al_57)), (q7, .inl (g.2 0, 200, .inl he_62)), (q8, .inl (g.2 0, 65, .inl ma_62))]) [0, 1, 2, 3] rfl) (hD.sub (ws' := [(qM, .inr (9, [.int (F_62 0), .ref q1, .ref q2, .ref q3, .int (F_62 4), .int (F_62 5), .int (F_62 6), .int (F_62 7), .int (F_62 8), .int (F_62 9), .long (J 10), .int (F_62 11), .int (F_62 12), .int (F_62 13), .ref q4, .int (F_62 15), .ref q5, .ref q6, .ref q7, .int (F_62 19), .ref q8, .int (F_62 21), .int (F_62 22), .int (F_62 23), .int (F_62 24), .ref q9, .ref q10, .ref q11, .long (J 28)])), (q1, .inl (g.2 0, 376, .inl al_57)), (q7, .inl (g.2 0, 200, .inl he_62)), (q8, .inl (g.2 0, 65, .inl ma_62))]) [0, 1, 2, 3] (by decide) rfl) hS ls (lv_sub hl [2, 3, 4, 5, 1, 0] rfl)
        · have hv := hvf hc
          refine lv_aload_n hx hb dX9_needs_73 rfl (lv_at hl 0 rfl) ?_
          refine va_get (D := g.1) (ci := 9) (v := .int (F_62 22)) (C := RX9) (T := TX9) (N := 29) hx hb hts inX9_needs_9 hown hK hP 0 rfl rfl 22 (by decide) (hts (.fieldLink RX9 269 "RangeCodesModel" "wrong" "I") (List.mem_of_getElem? (i := 3) rfl)) (fun _ h9 => h9) rfl dX9_needs_74 ?_
          obtain ⟨hvt, hvf⟩ := hv
          refine lv_if_ne (tgt := 85) hx hb dX9_needs_77 (by decide) (fun hc => ?_) (fun hc => ?_)
          · have hv := hvt hc
            refine lv_iconst (v := (-1 : Int32)) hx hb dX9_needs_85 (by decide) ?_
            refine lv_istore (lv' := [(4, .int (-1 : Int32)), (0, .ref qM), (1, .int p1), (2, .int p2), (3, .int x3), (5, .int x5)]) hx hb dX9_needs_86 hl (by decide) rfl (fun ls hl => ?_)
            refine lv_iinc (v := (x5 + (1 : Int32))) (lv' := [(5, .int (x5 + (1 : Int32))), (4, .int (-1 : Int32)), (0, .ref qM), (1, .int p1), (2, .int p2), (3, .int x3)]) hx hb dX9_needs_88 hl (k := 5) rfl rfl (by decide) rfl (fun ls hl => ?_)
            refine lv_goto (tgt := 38) hx hb dX9_needs_91 (by decide) ?_
            exact ih _ _ _ _ _ _ _ hv _ _ (hP.sub (ws' := [(qM, .inr (9, [.int (F_62 0), .ref q1, .ref q2, .ref q3, .int (F_62 4), .int (F_62 5), .int (F_62 6), .int (F_62 7), .int (F_62 8), .int (F_62 9), .long (J 10), .int (F_62 11), .int (F_62 12), .int (F_62 13), .ref q4, .int (F_62 15), .ref q5, .ref q6, .ref q7, .int (F_62 19), .ref q8, .int (F_62 21), .int (F_62 22), .int (F_62 23), .int (F_62 24), .ref q9, .ref q10, .ref q11, .long (J 28)])), (q1, .inl (g.2 0, 376, .inl al_57)), (q7, .inl (g.2 0, 200, .inl he_62)), (q8, .inl (g.2 0, 65, .inl ma_62))]) [0, 1, 2, 3] rfl) (hD.sub (ws' := [(qM, .inr (9, [.int (F_62 0), .ref q1, .ref q2, .ref q3, .int (F_62 4), .int (F_62 5), .int (F_62 6), .int (F_62 7), .int (F_62 8), .int (F_62 9), .long (J 10), .int (F_62 11), .int (F_62 12), .int (F_62 13), .ref q4, .int (F_62 15), .ref q5, .ref q6, .ref q7, .int (F_62 19), .ref q8, .int (F_62 21), .int (F_62 22), .int (F_62 23), .int (F_62 24), .ref q9, .ref q10, .ref q11, .long (J 28)])), (q1, .inl (g.2 0, 376, .inl al_57)), (q7, .inl (g.2 0, 200, .inl he_62)), (q8, .inl (g.2 0, 65, .inl ma_62))]) [0, 1, 2, 3] (by decide) rfl) hS ls (lv_sub hl [2, 3, 4, 5, 1, 0] rfl)
          · have hv := hvf hc
            refine lv_iload hx hb dX9_needs_80 (lv_at hl 5 rfl) ?_
            refine lv_goto (tgt := 86) hx hb dX9_needs_82 (by decide) ?_
            refine lv_istore (lv' := [(4, .int x5), (0, .ref qM), (1, .int p1), (2, .int p2), (3, .int x3), (5, .int x5)]) hx hb dX9_needs_86 hl (by decide) rfl (fun ls hl => ?_)
            refine lv_iinc (v := (x5 + (1 : Int32))) (lv' := [(5, .int (x5 + (1 : Int32))), (4, .int x5), (0, .ref qM), (1, .int p1), (2, .int p2), (3, .int x3)]) hx hb dX9_needs_88 hl (k := 5) rfl rfl (by decide) rfl (fun ls hl => ?_)
            refine lv_goto (tgt := 38) hx hb dX9_needs_91 (by decide) ?_
            exact ih _ _ _ _ _ _ _ hv _ _ (hP.sub (ws' := [(qM, .inr (9, [.int (F_62 0), .ref q1, .ref q2, .ref q3, .int (F_62 4), .int (F_62 5), .int (F_62 6), .int (F_62 7), .int (F_62 8), .int (F_62 9), .long (J 10), .int (F_62 11), .int (F_62 12), .int (F_62 13), .ref q4, .int (F_62 15), .ref q5, .ref q6, .ref q7, .int (F_62 19), .ref q8, .int (F_62 21), .int (F_62 22), .int (F_62 23), .int (F_62 24), .ref q9, .ref q10, .ref q11, .long (J 28)])), (q1, .inl (g.2 0, 376, .inl al_57)), (q7, .inl (g.2 0, 200, .inl he_62)), (q8, .inl (g.2 0, 65, .inl ma_62))]) [0, 1, 2, 3] rfl) (hD.sub (ws' := [(qM, .inr (9, [.int (F_62 0), .ref q1, .ref q2, .ref q3, .int (F_62 4), .int (F_62 5), .int (F_62 6), .int (F_62 7), .int (F_62 8), .int (F_62 9), .long (J 10), .int (F_62 11), .int (F_62 12), .int (F_62 13), .ref q4, .int (F_62 15), .ref q5, .ref q6, .ref q7, .int (F_62 19), .ref q8, .int (F_62 21), .int (F_62 22), .int (F_62 23), .int (F_62 24), .ref q9, .ref q10, .ref q11, .long (J 28)])), (q1, .inl (g.2 0, 376, .inl al_57)), (q7, .inl (g.2 0, 200, .inl he_62)), (q8, .inl (g.2 0, 65, .inl ma_62))]) [0, 1, 2, 3] (by decide) rfl) hS ls (lv_sub hl [2, 3, 4, 5, 1, 0] rfl)
def vX9_needs (F : Nat → Int32) (J : Nat → Int64) (al : Nat → Int32) (he : Nat → Int32) (ma : Nat → Int32) (p1 : Int32) (p2 : Int32) (Q : Int32 → (Nat → Int32) → (Nat → Int32) → (Nat → Int32) → (Nat → Int32) → Prop) : Prop := (preX9_isLeg p1 ∧ (∀ r_6 : Int32, postX9_isLeg p1 r_6 → ((r_6 = 0 → (Q (-1 : Int32) (upd F 0 (0 : Int32)) al he ma)) ∧ (¬ r_6 = 0 → (preX9_in p2 (0 : Int32) (9999 : Int32) ∧ (∀ r_17 : Int32, postX9_in p2 (0 : Int32) (9999 : Int32) r_17 → ((¬ r_17 = 0 → (∃ (p_28 : Nat) (w_28 : Nat), preX9_ofLeg p_28 w_28 (upd F 0 (0 : Int32)) J al p1 (3 : Int32) ∧ (∀ r_28 : Int32, postX9_ofLeg p_28 w_28 (upd F 0 (0 : Int32)) J al p1 (3 : Int32) r_28 → (∃ nn, vX9_needs_c38 J p1 p2 Q nn r_28 (-1 : Int32) (1 : Int32) (upd F 0 (0 : Int32)) al he ma)))) ∧ (r_17 = 0 → (Q (-1 : Int32) (upd F 0 (0 : Int32)) al he ma)))))))))
set_option maxHeartbeats 4000000 in
set_option maxRecDepth 100000 in
theorem wX9_needs (l : Launch) (g : GP) (qM : Nat) (q1 : Nat) (q2 : Nat) (q3 : Nat) (q4 : Nat) (q5 : Nat) (q6 : Nat) (q7 : Nat) (q8 : Nat) (q9 : Nat) (q10 : Nat) (q11 : Nat) (sz : Nat) (F : Nat → Int32) (J : Nat → Int64) (al : Nat → Int32) (he : Nat → Int32) (ma : Nat → Int32) (p1 : Int32) (p2 : Int32) {Q : Int32 → (Nat → Int32) → (Nat → Int32) → (Nat → Int32) → (Nat → Int32) → Prop} (hv : vX9_needs F J al he ma p1 p2 Q) : Met l yX9_needs wsX9_needs rmX9_needs (va_Pc [.ref qM, .int p1, .int p2] (fun U => U.heap.size = sz ∧ va_P g.1 vwCl [(qM, .inr (9, [.int (F 0), .ref q1, .ref q2, .ref q3, .int (F 4), .int (F 5), .int (F 6), .int (F 7), .int (F 8), .int (F 9), .long (J 10), .int (F 11), .int (F 12), .int (F 13), .ref q4, .int (F 15), .ref q5, .ref q6, .ref q7, .int (F 19), .ref q8, .int (F 21), .int (F 22), .int (F 23), .int (F 24), .ref q9, .ref q10, .ref q11, .long (J 28)])), (q1, .inl (g.2 0, 376, .inl al)), (q7, .inl (g.2 0, 200, .inl he)), (q8, .inl (g.2 0, 65, .inl ma))] U.heap ∧ GK g U ∧ va_D (fun _ => True) [(qM, .inr (9, [.int (F 0), .ref q1, .ref q2, .ref q3, .int (F 4), .int (F 5), .int (F 6), .int (F 7), .int (F 8), .int (F 9), .long (J 10), .int (F 11), .int (F 12), .int (F 13), .ref q4, .int (F 15), .ref q5, .ref q6, .ref q7, .int (F 19), .ref q8, .int (F 21), .int (F 22), .int (F 23), .int (F 24), .ref q9, .ref q10, .ref q11, .long (J 28)])), (q1, .inl (g.2 0, 376, .inl al)), (q7, .inl (g.2 0, 200, .inl he)), (q8, .inl (g.2 0, 65, .inl ma))])) (va_Qi (fun (r : Int32) (u : (Nat → Int32) × (Nat → Int32) × (Nat → Int32) × (Nat → Int32)) => Q r u.1 u.2.1 u.2.2.1 u.2.2.2) (fun (u : (Nat → Int32) × (Nat → Int32) × (Nat → Int32) × (Nat → Int32)) t => va_P g.1 vwCl [(qM, .inr (9, [.int (u.1 0), .ref q1, .ref q2, .ref q3, .int (u.1 4), .int (u.1 5), .int (u.1 6), .int (u.1 7), .int (u.1 8), .int (u.1 9), .long (J 10), .int (u.1 11), .int (u.1 12), .int (u.1 13), .ref q4, .int (u.1 15), .ref q5, .ref q6, .ref q7, .int (u.1 19), .ref q8, .int (u.1 21), .int (u.1 22), .int (u.1 23), .int (u.1 24), .ref q9, .ref q10, .ref q11, .long (J 28)])), (q1, .inl (g.2 0, 376, .inl u.2.1)), (q7, .inl (g.2 0, 200, .inl u.2.2.1)), (q8, .inl (g.2 0, 65, .inl u.2.2.2))] t.heap ∧ va_D (va_A [(qM, .inr (9, [.int (F 0), .ref q1, .ref q2, .ref q3, .int (F 4), .int (F 5), .int (F 6), .int (F 7), .int (F 8), .int (F 9), .long (J 10), .int (F 11), .int (F 12), .int (F 13), .ref q4, .int (F 15), .ref q5, .ref q6, .ref q7, .int (F 19), .ref q8, .int (F 21), .int (F 22), .int (F 23), .int (F 24), .ref q9, .ref q10, .ref q11, .long (J 28)])), (q1, .inl (g.2 0, 376, .inl al)), (q7, .inl (g.2 0, 200, .inl he)), (q8, .inl (g.2 0, 65, .inl ma))] sz) [(qM, .inr (9, [.int (u.1 0), .ref q1, .ref q2, .ref q3, .int (u.1 4), .int (u.1 5), .int (u.1 6), .int (u.1 7), .int (u.1 8), .int (u.1 9), .long (J 10), .int (u.1 11), .int (u.1 12), .int (u.1 13), .ref q4, .int (u.1 15), .ref q5, .ref q6, .ref q7, .int (u.1 19), .ref q8, .int (u.1 21), .int (u.1 22), .int (u.1 23), .int (u.1 24), .ref q9, .ref q10, .ref q11, .long (J 28)])), (q1, .inl (g.2 0, 376, .inl u.2.1)), (q7, .inl (g.2 0, 200, .inl u.2.2.1)), (q8, .inl (g.2 0, 65, .inl u.2.2.2))]) (va_A [(qM, .inr (9, [.int (F 0), .ref q1, .ref q2, .ref q3, .int (F 4), .int (F 5), .int (F 6), .int (F 7), .int (F 8), .int (F 9), .long (J 10), .int (F 11), .int (F 12), .int (F 13), .ref q4, .int (F 15), .ref q5, .ref q6, .ref q7, .int (F 19), .ref q8, .int (F 21), .int (F 22), .int (F 23), .int (F 24), .ref q9, .ref q10, .ref q11, .long (J 28)])), (q1, .inl (g.2 0, 376, .inl al)), (q7, .inl (g.2 0, 200, .inl he)), (q8, .inl (g.2 0, 65, .inl ma))] sz)) 0 0 (va_A [(qM, .inr (9, [.int (F 0), .ref q1, .ref q2, .ref q3, .int (F 4), .int (F 5), .int (F 6), .int (F 7), .int (F 8), .int (F 9), .long (J 10), .int (F 11), .int (F 12), .int (F 13), .ref q4, .int (F 15), .ref q5, .ref q6, .ref q7, .int (F 19), .ref q8, .int (F 21), .int (F 22), .int (F 23), .int (F 24), .ref q9, .ref q10, .ref q11, .long (J 28)])), (q1, .inl (g.2 0, 376, .inl al)), (q7, .inl (g.2 0, 200, .inl he)), (q8, .inl (g.2 0, 65, .inl ma))] sz) := by
  refine Met.ofW (cc := cX9_needs) (maxL := 6) (ret := (some .int)) (by decide) rfl ?_
  intro p e s m args below meth c s₁ B hml hv'
  obtain ⟨rfl, hsz, hP, hG, hD0⟩ := hv'
  have S : CallFix p m c cX9_needs 6 s _ wsX9_needs RX9 := ⟨B.exec, B.bytes, hml, findClass_of_methodNamed B.named, atoms_spec (ws := wsX9_needs) B.pre⟩
  obtain ⟨hx, hb, hml, hown, hts⟩ := id S
  have hK := hG.1
  have hr := B.returns
  have hlocks := B.notSynchronized
  subst hsz
  have hD := hD0.self (sz := s.heap.size)
  generalize hAe : va_A [(qM, .inr (9, [.int (F 0), .ref q1, .ref q2, .ref q3, .int (F 4), .int (F 5), .int (F 6), .int (F 7), .int (F 8), .int (F 9), .long (J 10), .int (F 11), .int (F 12), .int (F 13), .ref q4, .int (F 15), .ref q5, .ref q6, .ref q7, .int (F 19), .ref q8, .int (F 21), .int (F 22), .int (F 23), .int (F 24), .ref q9, .ref q10, .ref q11, .long (J 28)])), (q1, .inl (g.2 0, 376, .inl al)), (q7, .inl (g.2 0, 200, .inl he)), (q8, .inl (g.2 0, 65, .inl ma))] s.heap.size = A at hD ⊢
  have hA : ∀ q : Nat, s.heap.size ≤ q → A q := fun q h => by rw [← hAe]; exact Or.inr h
  have hS : va_S A s.heap s.heap [] := va_S.rf
  clear hD0 hAe
  have hl := lv_entry ([.ref qM, .int p1, .int p2]) (n := 6) (Nat.le_of_ble_eq_true rfl)
  rw [lg_entry_eq]
  generalize (lg_sl ([.ref qM, .int p1, .int p2]) ++ List.replicate (6 - (lg_sl ([.ref qM, .int p1, .int p2])).length) Slot.unset).toArray = ls at hl ⊢
  have hl : lv_has ls 6 [(0, .ref qM), (1, .int p1), (2, .int p2)] := hl
  unfold vX9_needs at hv
  refine lv_aload_n hx hb dX9_needs_0 rfl (lv_at hl 0 rfl) ?_
  refine lv_iconst (v := (0 : Int32)) hx hb dX9_needs_1 (by decide) ?_
  refine va_put (D := g.1) (ci := 9) (v := .int (0 : Int32)) (ty := .int) (C := RX9) (T := TX9) (N := 29) hx hb hts inX9_needs_9 tyX9 tyX9_ok nmX9 hown hK hP hD hS 0 rfl rfl 0 (by decide) (hts (.fieldLink RX9 51 "RangeCodesModel" "raised" "I") (List.mem_of_getElem? (i := 1) rfl)) (fun _ h9 => h9) rfl (by decide +kernel) rfl rfl (Nat.le_of_ble_eq_true rfl) dX9_needs_2 (fun H locs hP hD hS => ?_)
  have hP : va_P g.1 vwCl [(qM, .inr (9, [.int (0 : Int32), .ref q1, .ref q2, .ref q3, .int (F 4), .int (F 5), .int (F 6), .int (F 7), .int (F 8), .int (F 9), .long (J 10), .int (F 11), .int (F 12), .int (F 13), .ref q4, .int (F 15), .ref q5, .ref q6, .ref q7, .int (F 19), .ref q8, .int (F 21), .int (F 22), .int (F 23), .int (F 24), .ref q9, .ref q10, .ref q11, .long (J 28)])), (q1, .inl (g.2 0, 376, .inl al)), (q7, .inl (g.2 0, 200, .inl he)), (q8, .inl (g.2 0, 65, .inl ma))] H := hP
  have hD : va_D A [(qM, .inr (9, [.int (0 : Int32), .ref q1, .ref q2, .ref q3, .int (F 4), .int (F 5), .int (F 6), .int (F 7), .int (F 8), .int (F 9), .long (J 10), .int (F 11), .int (F 12), .int (F 13), .ref q4, .int (F 15), .ref q5, .ref q6, .ref q7, .int (F 19), .ref q8, .int (F 21), .int (F 22), .int (F 23), .int (F 24), .ref q9, .ref q10, .ref q11, .long (J 28)])), (q1, .inl (g.2 0, 376, .inl al)), (q7, .inl (g.2 0, 200, .inl he)), (q8, .inl (g.2 0, 65, .inl ma))] := hD
  refine lv_iload_n hx hb dX9_needs_5 rfl (lv_at hl 1 rfl) ?_
  obtain ⟨ho_1, hv⟩ := hv
  refine vp_callSi (W.runS (As := [.int p1]) (rest := []) S (wX9_isLeg l g p1 (sX9_isLeg p1 ho_1)) (va_cwS 1 hts gX9_needs_X9_isLeg rfl rfl rfl (by decide +kernel) ⟨Nat.le_of_ble_eq_true rfl, Nat.le_of_ble_eq_true rfl⟩) ⟨blindRO, fun U hU hW => ⟨rfl, by rw [hU]; exact hP.sub (ws' := []) [] rfl, hG.warm hW⟩⟩ rfl rfl hl.1 rfl (lv_room (Nat.le_of_ble_eq_true rfl)) dX9_needs_6 ⟨Nat.le_of_ble_eq_true rfl, Nat.le_of_ble_eq_true rfl⟩) (fun r_6 hr_6 => ?_)
  have hv := hv r_6 hr_6
  obtain ⟨hvt, hvf⟩ := hv
  refine lv_if_eq (tgt := 23) hx hb dX9_needs_9 (by decide) (fun hc => ?_) (fun hc => ?_)
  · have hv := hvt hc
    refine lv_iconst (v := (-1 : Int32)) hx hb dX9_needs_23 (by decide) ?_
    have hP9 := hP.sub (ws' := [(qM, .inr (9, [.int ((upd F 0 (0 : Int32)) 0), .ref q1, .ref q2, .ref q3, .int ((upd F 0 (0 : Int32)) 4), .int ((upd F 0 (0 : Int32)) 5), .int ((upd F 0 (0 : Int32)) 6), .int ((upd F 0 (0 : Int32)) 7), .int ((upd F 0 (0 : Int32)) 8), .int ((upd F 0 (0 : Int32)) 9), .long (J 10), .int ((upd F 0 (0 : Int32)) 11), .int ((upd F 0 (0 : Int32)) 12), .int ((upd F 0 (0 : Int32)) 13), .ref q4, .int ((upd F 0 (0 : Int32)) 15), .ref q5, .ref q6, .ref q7, .int ((upd F 0 (0 : Int32)) 19), .ref q8, .int ((upd F 0 (0 : Int32)) 21), .int ((upd F 0 (0 : Int32)) 22), .int ((upd F 0 (0 : Int32)) 23), .int ((upd F 0 (0 : Int32)) 24), .ref q9, .ref q10, .ref q11, .long (J 28)])), (q1, .inl (g.2 0, 376, .inl al)), (q7, .inl (g.2 0, 200, .inl he)), (q8, .inl (g.2 0, 65, .inl ma))]) [0, 1, 2, 3] rfl
    have hD9 := hD.sub (ws' := [(qM, .inr (9, [.int ((upd F 0 (0 : Int32)) 0), .ref q1, .ref q2, .ref q3, .int ((upd F 0 (0 : Int32)) 4), .int ((upd F 0 (0 : Int32)) 5), .int ((upd F 0 (0 : Int32)) 6), .int ((upd F 0 (0 : Int32)) 7), .int ((upd F 0 (0 : Int32)) 8), .int ((upd F 0 (0 : Int32)) 9), .long (J 10), .int ((upd F 0 (0 : Int32)) 11), .int ((upd F 0 (0 : Int32)) 12), .int ((upd F 0 (0 : Int32)) 13), .ref q4, .int ((upd F 0 (0 : Int32)) 15), .ref q5, .ref q6, .ref q7, .int ((upd F 0 (0 : Int32)) 19), .ref q8, .int ((upd F 0 (0 : Int32)) 21), .int ((upd F 0 (0 : Int32)) 22), .int ((upd F 0 (0 : Int32)) 23), .int ((upd F 0 (0 : Int32)) 24), .ref q9, .ref q10, .ref q11, .long (J 28)])), (q1, .inl (g.2 0, 376, .inl al)), (q7, .inl (g.2 0, 200, .inl he)), (q8, .inl (g.2 0, 65, .inl ma))]) [0, 1, 2, 3] (by decide) rfl
    exact W.iret (v := (-1 : Int32)) hx hb hr (fun t ht hW => ⟨⟨_, ((upd F 0 (0 : Int32)), al, he, ma), rfl, hv, by rw [ht]; exact hP9, hD9⟩, hS.F ht⟩) hS.2.2 dX9_needs_24
  · have hv := hvf hc
    refine lv_iload_n hx hb dX9_needs_12 rfl (lv_at hl 2 rfl) ?_
    refine lv_iconst (v := (0 : Int32)) hx hb dX9_needs_13 (by decide) ?_
    refine lv_sipush (v := (9999 : Int32)) hx hb dX9_needs_14 (by decide) ?_
    obtain ⟨ho_2, hv⟩ := hv
    refine vp_callSi (W.runS (As := [.int p2, .int (0 : Int32), .int (9999 : Int32)]) (rest := []) S (wX9_in l g p2 (0 : Int32) (9999 : Int32) (sX9_in p2 (0 : Int32) (9999 : Int32) ho_2)) (va_cwS 3 hts gX9_needs_X9_in rfl rfl rfl (by decide +kernel) ⟨Nat.le_of_ble_eq_true rfl, Nat.le_of_ble_eq_true rfl⟩) ⟨blindRO, fun U hU hW => ⟨rfl, by rw [hU]; exact hP.sub (ws' := []) [] rfl, hG.warm hW⟩⟩ rfl rfl hl.1 rfl (lv_room (Nat.le_of_ble_eq_true rfl)) dX9_needs_17 ⟨Nat.le_of_ble_eq_true rfl, Nat.le_of_ble_eq_true rfl⟩) (fun r_17 hr_17 => ?_)
    have hv := hv r_17 hr_17
    obtain ⟨hvt, hvf⟩ := hv
    refine lv_if_ne (tgt := 25) hx hb dX9_needs_20 (by decide) (fun hc => ?_) (fun hc => ?_)
    · have hv := hvt hc
      refine lv_aload_n hx hb dX9_needs_25 rfl (lv_at hl 0 rfl) ?_
      refine lv_iload_n hx hb dX9_needs_26 rfl (lv_at hl 1 rfl) ?_
      refine lv_iconst (v := (3 : Int32)) hx hb dX9_needs_27 (by decide) ?_
      obtain ⟨p_28, w_28, ho_3, hv⟩ := hv
      refine vp_callSi (W.runV (As := [.int p1, .int (3 : Int32)]) (rest := []) S (wX9_ofLeg l g qM q1 q2 q3 q4 q5 q6 q7 q8 q9 q10 q11 (upd F 0 (0 : Int32)) J al p1 (3 : Int32) (sX9_ofLeg p_28 w_28 (upd F 0 (0 : Int32)) J al p1 (3 : Int32) ho_3)) (cwV 2 hts gX9_needs_X9_ofLeg rfl rfl rfl (by decide +kernel) ⟨Nat.le_of_ble_eq_true rfl, Nat.le_of_ble_eq_true rfl⟩) ⟨blindRO, va_recv hK hP (ci := 9) (q0 := 0) rfl rfl, fun U hU hW => ⟨rfl, by rw [hU]; exact hP.sub (ws' := [(qM, .inr (9, [.int ((upd F 0 (0 : Int32)) 0), .ref q1, .ref q2, .ref q3, .int ((upd F 0 (0 : Int32)) 4), .int ((upd F 0 (0 : Int32)) 5), .int ((upd F 0 (0 : Int32)) 6), .int ((upd F 0 (0 : Int32)) 7), .int ((upd F 0 (0 : Int32)) 8), .int ((upd F 0 (0 : Int32)) 9), .long (J 10), .int ((upd F 0 (0 : Int32)) 11), .int ((upd F 0 (0 : Int32)) 12), .int ((upd F 0 (0 : Int32)) 13), .ref q4, .int ((upd F 0 (0 : Int32)) 15), .ref q5, .ref q6, .ref q7, .int ((upd F 0 (0 : Int32)) 19), .ref q8, .int ((upd F 0 (0 : Int32)) 21), .int ((upd F 0 (0 : Int32)) 22), .int ((upd F 0 (0 : Int32)) 23), .int ((upd F 0 (0 : Int32)) 24), .ref q9, .ref q10, .ref q11, .long (J 28)])), (q1, .inl (g.2 0, 376, .inl al))]) [0, 1] rfl, hG.warm hW⟩⟩ rfl rfl hl.1 rfl (lv_room (Nat.le_of_ble_eq_true rfl)) dX9_needs_28 ⟨Nat.le_of_ble_eq_true rfl, Nat.le_of_ble_eq_true rfl⟩) (fun r_28 hr_28 => ?_)
      have hv := hv r_28 hr_28
      refine lv_istore_n (lv' := [(3, .int r_28), (0, .ref qM), (1, .int p1), (2, .int p2)]) hx hb dX9_needs_31 rfl hl (by decide) rfl (fun ls hl => ?_)
      refine lv_iconst (v := (-1 : Int32)) hx hb dX9_needs_32 (by decide) ?_
      refine lv_istore (lv' := [(4, .int (-1 : Int32)), (3, .int r_28), (0, .ref qM), (1, .int p1), (2, .int p2)]) hx hb dX9_needs_33 hl (by decide) rfl (fun ls hl => ?_)
      refine lv_iconst (v := (1 : Int32)) hx hb dX9_needs_35 (by decide) ?_
      refine lv_istore (lv' := [(5, .int (1 : Int32)), (4, .int (-1 : Int32)), (3, .int r_28), (0, .ref qM), (1, .int p1), (2, .int p2)]) hx hb dX9_needs_36 hl (by decide) rfl (fun ls hl => ?_)
      obtain ⟨nn, hv⟩ := hv
      exact kX9_needs_c38 S hr hlocks hG hA nn _ _ _ _ _ _ _ hv _ _ (hP.sub (ws' := [(qM, .inr (9, [.int ((upd F 0 (0 : Int32)) 0), .ref q1, .ref q2, .ref q3, .int ((upd F 0 (0 : Int32)) 4), .int ((upd F 0 (0 : Int32)) 5), .int ((upd F 0 (0 : Int32)) 6), .int ((upd F 0 (0 : Int32)) 7), .int ((upd F 0 (0 : Int32)) 8), .int ((upd F 0 (0 : Int32)) 9), .long (J 10), .int ((upd F 0 (0 : Int32)) 11), .int ((upd F 0 (0 : Int32)) 12), .int ((upd F 0 (0 : Int32)) 13), .ref q4, .int ((upd F 0 (0 : Int32)) 15), .ref q5, .ref q6, .ref q7, .int ((upd F 0 (0 : Int32)) 19), .ref q8, .int ((upd F 0 (0 : Int32)) 21), .int ((upd F 0 (0 : Int32)) 22), .int ((upd F 0 (0 : Int32)) 23), .int ((upd F 0 (0 : Int32)) 24), .ref q9, .ref q10, .ref q11, .long (J 28)])), (q1, .inl (g.2 0, 376, .inl al)), (q7, .inl (g.2 0, 200, .inl he)), (q8, .inl (g.2 0, 65, .inl ma))]) [0, 1, 2, 3] rfl) (hD.sub (ws' := [(qM, .inr (9, [.int ((upd F 0 (0 : Int32)) 0), .ref q1, .ref q2, .ref q3, .int ((upd F 0 (0 : Int32)) 4), .int ((upd F 0 (0 : Int32)) 5), .int ((upd F 0 (0 : Int32)) 6), .int ((upd F 0 (0 : Int32)) 7), .int ((upd F 0 (0 : Int32)) 8), .int ((upd F 0 (0 : Int32)) 9), .long (J 10), .int ((upd F 0 (0 : Int32)) 11), .int ((upd F 0 (0 : Int32)) 12), .int ((upd F 0 (0 : Int32)) 13), .ref q4, .int ((upd F 0 (0 : Int32)) 15), .ref q5, .ref q6, .ref q7, .int ((upd F 0 (0 : Int32)) 19), .ref q8, .int ((upd F 0 (0 : Int32)) 21), .int ((upd F 0 (0 : Int32)) 22), .int ((upd F 0 (0 : Int32)) 23), .int ((upd F 0 (0 : Int32)) 24), .ref q9, .ref q10, .ref q11, .long (J 28)])), (q1, .inl (g.2 0, 376, .inl al)), (q7, .inl (g.2 0, 200, .inl he)), (q8, .inl (g.2 0, 65, .inl ma))]) [0, 1, 2, 3] (by decide) rfl) hS ls (lv_sub hl [3, 4, 5, 2, 1, 0] rfl)
    · have hv := hvf hc
      refine lv_iconst (v := (-1 : Int32)) hx hb dX9_needs_23 (by decide) ?_
      have hP9 := hP.sub (ws' := [(qM, .inr (9, [.int ((upd F 0 (0 : Int32)) 0), .ref q1, .ref q2, .ref q3, .int ((upd F 0 (0 : Int32)) 4), .int ((upd F 0 (0 : Int32)) 5), .int ((upd F 0 (0 : Int32)) 6), .int ((upd F 0 (0 : Int32)) 7), .int ((upd F 0 (0 : Int32)) 8), .int ((upd F 0 (0 : Int32)) 9), .long (J 10), .int ((upd F 0 (0 : Int32)) 11), .int ((upd F 0 (0 : Int32)) 12), .int ((upd F 0 (0 : Int32)) 13), .ref q4, .int ((upd F 0 (0 : Int32)) 15), .ref q5, .ref q6, .ref q7, .int ((upd F 0 (0 : Int32)) 19), .ref q8, .int ((upd F 0 (0 : Int32)) 21), .int ((upd F 0 (0 : Int32)) 22), .int ((upd F 0 (0 : Int32)) 23), .int ((upd F 0 (0 : Int32)) 24), .ref q9, .ref q10, .ref q11, .long (J 28)])), (q1, .inl (g.2 0, 376, .inl al)), (q7, .inl (g.2 0, 200, .inl he)), (q8, .inl (g.2 0, 65, .inl ma))]) [0, 1, 2, 3] rfl
      have hD9 := hD.sub (ws' := [(qM, .inr (9, [.int ((upd F 0 (0 : Int32)) 0), .ref q1, .ref q2, .ref q3, .int ((upd F 0 (0 : Int32)) 4), .int ((upd F 0 (0 : Int32)) 5), .int ((upd F 0 (0 : Int32)) 6), .int ((upd F 0 (0 : Int32)) 7), .int ((upd F 0 (0 : Int32)) 8), .int ((upd F 0 (0 : Int32)) 9), .long (J 10), .int ((upd F 0 (0 : Int32)) 11), .int ((upd F 0 (0 : Int32)) 12), .int ((upd F 0 (0 : Int32)) 13), .ref q4, .int ((upd F 0 (0 : Int32)) 15), .ref q5, .ref q6, .ref q7, .int ((upd F 0 (0 : Int32)) 19), .ref q8, .int ((upd F 0 (0 : Int32)) 21), .int ((upd F 0 (0 : Int32)) 22), .int ((upd F 0 (0 : Int32)) 23), .int ((upd F 0 (0 : Int32)) 24), .ref q9, .ref q10, .ref q11, .long (J 28)])), (q1, .inl (g.2 0, 376, .inl al)), (q7, .inl (g.2 0, 200, .inl he)), (q8, .inl (g.2 0, 65, .inl ma))]) [0, 1, 2, 3] (by decide) rfl
      exact W.iret (v := (-1 : Int32)) hx hb hr (fun t ht hW => ⟨⟨_, ((upd F 0 (0 : Int32)), al, he, ma), rfl, hv, by rw [ht]; exact hP9, hD9⟩, hS.F ht⟩) hS.2.2 dX9_needs_24
theorem bc_0 : bcn 0 13 = 0 := by decide
theorem ds_all {T : Cd} {b : Nat → Nat} {lim d : Nat} : (dsO T b lim = some d ∧ wrW T b lim = 0) ↔ (joS T b (2 ^ cn T - 1) (cn T) = some d ∧ d < lim) := by
  constructor
  · intro ⟨h1, h2⟩
    have hq : hasD T b lim := by
      by_cases q : hasD T b lim
      · exact q
      · rw [dsO_none q] at h1; cases h1
    obtain ⟨d2, e1, e2, e3, e4⟩ := dsO_some hq
    rw [h2, Nat.sub_zero] at e2
    rw [h1] at e1; cases e1
    exact ⟨e2, e3⟩
  · intro ⟨h1, h2⟩
    have hne : neB T b lim (2 ^ cn T - 1) = true := by unfold neB; rw [h1]; exact decide_eq_true h2
    have hok : okW T b lim 0 0 = true := by
      unfold okW
      rw [bc_0, Nat.sub_zero, hne]; rfl
    have hp2 := Nat.two_pow_pos (cn T)
    have hf : fa_first (okW T b lim 0) (2 ^ cn T) = 0 := ff_eq hp2 hok (fun j hj => absurd hj (by omega))
    have hfw : fewW T b lim = 0 := ff_eq (by omega) (decide_eq_true (by rw [hf]; exact hp2)) (fun j hj => absurd hj (by omega))
    have hw : wrW T b lim = 0 := by unfold wrW; rw [hfw]; exact hf
    refine ⟨?_, hw⟩
    unfold dsO
    rw [if_pos (by rw [hfw]; omega), hw, Nat.sub_zero]; exact h1
theorem sX9_needs_38 (T : Cd) (G0 G1 : Lg) (lim l : Nat) (J : Nat → Int64) (al : Nat → Int32) (p1 p2 : Int32) (H : fcR T G0 G1 lim al) (hl2 : l < 2) (e1 : p1.toInt = (l : Int)) (h2 : 0 ≤ p2.toInt) (x3 : Int32) (h3 : x3 = al (20 + 37 * l + 3)) (Q : Int32 → (Nat → Int32) → (Nat → Int32) → (Nat → Int32) → (Nat → Int32) → Prop) (hQ : ∀ (r : Int32) F' he' ma', r.toInt = spNeeds T G0 G1 lim p1.toInt p2.toInt → Q r F' al he' ma') : ∀ (n i : Nat) (x4 x5 : Int32) (F al2 he ma : Nat → Int32), x5.toInt = ((i + 1 : Nat) : Int) → i ≤ 200 → 202 ≤ i + n → (∃ y, al2 = upd al (20 + 37 * l + 3) y) → ((x4.toInt = -1 ∧ ∀ j, j < i → ¬ (p2.toInt < (lim : Int) ∧ ndB T G0 G1 lim l p2.toInt.toNat j = true)) ∨ (0 ≤ x4.toInt ∧ x4.toInt = spNeeds T G0 G1 lim p1.toInt p2.toInt)) → vX9_needs_c38 J p1 p2 Q n x3 x4 x5 F al2 he ma
  | 0, i, x4, x5, F, al2, he, ma, _, hi, hn, _, _ => absurd hn (by omega)
  | n + 1, i, x4, x5, F, al2, he, ma, h5, hi, hn, ⟨y, ha2⟩, h4 => by
    obtain ⟨hT, h0, h1, hlim, hl9, hl1⟩ := id H
    have hok : p1.toInt = 0 ∨ p1.toInt = 1 := by omega
    have el : p1.toInt.toNat = l := by omega
    have fin : ∀ (x : Int32), x.toInt = spNeeds T G0 G1 lim p1.toInt p2.toInt → ∃ (p_98 : Nat) (w_98 : Nat), preX9_layLeg p_98 w_98 F J al2 p1 (3 : Int32) x3 ∧ (∀ (al_98 : Nat → Int32), postX9_layLeg p_98 w_98 F J al2 p1 (3 : Int32) x3 al_98 → (Q x F al_98 he ma)) := by
      intro x hx
      refine ⟨l, 3, ⟨e1, rfl, by omega⟩, fun al3 ha3 => ?_⟩
      have ha3 : al3 = upd al2 (20 + 37 * l + 3) x3 := ha3
      rw [ha3, ha2, upd_back h3]
      exact hQ _ _ _ _ hx
    rw [vX9_needs_c38, fa_lt, z200, h5]
    refine ⟨fun hc => fin _ ?_, fun hc => ?_⟩
    · rcases h4 with ⟨h4, hb⟩ | ⟨_, h4⟩
      · have : i = 200 := by omega
        subst this
        rw [h4]
        unfold spNeeds
        by_cases hlt : p2.toInt < (lim : Int)
        · rw [if_pos ⟨hok, h2, hlt⟩, el, ff_none (fun j hj => by
            have := hb j hj
            cases hn2 : ndB T G0 G1 lim l p2.toInt.toNat j
            · rfl
            · exact absurd ⟨hlt, hn2⟩ this), if_neg (by omega)]
        · rw [if_neg (fun q => hlt q.2.2)]
      · exact h4
    · rw [fa_eq x4, zm1]
      refine ⟨fun hd => fin _ ?_, fun hd => ?_⟩
      · rcases h4 with ⟨h4, hb⟩ | ⟨_, h4⟩
        · exact absurd h4 hd
        · exact h4
      · have hb : ∀ j, j < i → ¬ (p2.toInt < (lim : Int) ∧ ndB T G0 G1 lim l p2.toInt.toNat j = true) := by
          rcases h4 with ⟨_, hb⟩ | ⟨h4, _⟩
          · exact hb
          · exact absurd h4 (by omega)
        have hi2 : i < 200 := by omega
        refine ⟨l, 3, ⟨e1, rfl, by omega⟩, fun al3 ha3 => ?_⟩
        have ha3 : al3 = upd al (20 + 37 * l + 3) x5 := by
          have ha3 : al3 = upd al2 (20 + 37 * l + 3) x5 := ha3
          rw [ha3, ha2]
          funext j
          by_cases e : j = 20 + 37 * l + 3
          · subst e; rw [upd_eq, upd_eq]
          · rw [upd_ne e, upd_ne e, upd_ne e]
        have HS := fcR_S H hl2 (j := 3) (v := ((i + 1 : Nat) : Int)) (Or.inr ⟨rfl, by omega, by omega⟩) h5
        refine ⟨T, _, _, p1.toInt.toNat, lim, by rw [ha3, ← el] at *; exact fcR_ll HS _ _ _ _ hok, fun F2 he2 ma2 hq => ?_⟩
        have h2' := rlC_of hq
        have hD := h2'.2.2.1
        rw [el, bN_3 T G0 G1 lim hl2] at hD
        have hO := isO_op (isD_O hD)
        have nd : (p2.toInt < (lim : Int) ∧ ndB T G0 G1 lim l p2.toInt.toNat i = true) ↔ (dsO T (bA T G0 G1 lim l (gfr (pkG G0 G1 l)) (i + 1)) lim = some p2.toInt.toNat ∧ wrW T (bA T G0 G1 lim l (gfr (pkG G0 G1 l)) (i + 1)) lim = 0) := by
          rw [ds_all]
          have e : ndB T G0 G1 lim l p2.toInt.toNat i = decide (joS T (bA T G0 G1 lim l (gfr (pkG G0 G1 l)) (i + 1)) (2 ^ cn T - 1) (cn T) = some p2.toInt.toNat) := rfl
          rw [e, decide_eq_true_eq]
          constructor
          · intro q; exact ⟨q.2, by omega⟩
          · intro q; exact ⟨by omega, q.1⟩
        have go : ¬ (p2.toInt < (lim : Int) ∧ ndB T G0 G1 lim l p2.toInt.toNat i = true) → vX9_needs_c38 J p1 p2 Q n x3 (-1 : Int32) (x5 + (1 : Int32)) F2 al3 he2 ma2 := fun hf =>
          sX9_needs_38 T G0 G1 lim l J al p1 p2 H hl2 e1 h2 x3 h3 Q hQ n (i + 1) _ _ F2 al3 he2 ma2 (q_1 h5 (by omega)) (by omega) (by omega) ⟨_, ha3⟩ (Or.inl ⟨rfl, fun j hj => by
            rcases Nat.lt_or_ge j i with z | z
            · exact hb j z
            · have : j = i := by omega
              subst this; exact hf⟩)
        rw [fa_eq (F2 21), hO, fa_eq (F2 22), z0]
        refine ⟨fun hf => go ?_, fun hf => ?_⟩
        · rw [nd]
          intro q
          rw [q.1] at hf
          exact hf (show ((p2.toInt.toNat : Nat) : Int) = _ by omega)
        · cases hds : dsO T (bA T G0 G1 lim l (gfr (pkG G0 G1 l)) (i + 1)) lim with
          | none => rw [hds] at hf; exact absurd (show (-1 : Int) = p2.toInt from hf) (by omega)
          | some d =>
            have hS := isD_S hD hds
            rw [hds] at hf
            have hf : (d : Int) = p2.toInt := hf
            have hdl := dsO_lt hds
            rw [hS.2.1]
            refine ⟨fun hw => go ?_, fun hw => ?_⟩
            · rw [nd]
              intro q
              exact hw (by rw [q.2]; rfl)
            · have ht : p2.toInt < (lim : Int) ∧ ndB T G0 G1 lim l p2.toInt.toNat i = true := nd.mpr ⟨by rw [hds]; exact congrArg some (by omega), by omega⟩
              refine sX9_needs_38 T G0 G1 lim l J al p1 p2 H hl2 e1 h2 x3 h3 Q hQ n (i + 1) _ _ F2 al3 he2 ma2 (q_1 h5 (by omega)) (by omega) (by omega) ⟨_, ha3⟩ (Or.inr ⟨by omega, ?_⟩)
              have hff : fa_first (ndB T G0 G1 lim l p2.toInt.toNat) 200 = i := ff_eq hi2 ht.2 (fun j hj => by
                cases hn2 : ndB T G0 G1 lim l p2.toInt.toNat j
                · rfl
                · exact absurd ⟨ht.1, hn2⟩ (hb j hj))
              unfold spNeeds
              rw [if_pos ⟨hok, h2, ht.1⟩, el, hff, if_pos hi2]; exact h5
abbrev preX9_needs (T : Cd) (G0 : Lg) (G1 : Lg) (lim : Nat) (F : Nat → Int32) (J : Nat → Int64) (al : Nat → Int32) (he : Nat → Int32) (ma : Nat → Int32) (p1 : Int32) (p2 : Int32) : Prop := fcR T G0 G1 lim al
abbrev postX9_needs (T : Cd) (G0 : Lg) (G1 : Lg) (lim : Nat) (F : Nat → Int32) (J : Nat → Int64) (al : Nat → Int32) (he : Nat → Int32) (ma : Nat → Int32) (p1 : Int32) (p2 : Int32) (r : Int32) (F' : Nat → Int32) (al' : Nat → Int32) (he' : Nat → Int32) (ma' : Nat → Int32) : Prop := r.toInt = spNeeds T G0 G1 lim p1.toInt p2.toInt ∧ al' = al
theorem sX9_needs (T : Cd) (G0 : Lg) (G1 : Lg) (lim : Nat) (F : Nat → Int32) (J : Nat → Int64) (al : Nat → Int32) (he : Nat → Int32) (ma : Nat → Int32) (p1 : Int32) (p2 : Int32) (H : preX9_needs T G0 G1 lim F J al he ma p1 p2) : vX9_needs F J al he ma p1 p2 (postX9_needs T G0 G1 lim F J al he ma p1 p2) := by
  obtain ⟨hT, h0, h1, hlim, hl9, hl1⟩ := id H
  refine ⟨trivial, fun r hr => ?_⟩
  have hr : r = if p1.toInt = 0 ∨ p1.toInt = 1 then 1 else 0 := hr
  rw [hr, q_if1]
  refine ⟨fun hc => ⟨by unfold spNeeds; rw [if_neg (fun q => hc q.1)]; rfl, rfl⟩, fun hc => ⟨trivial, fun r2 hr2 => ?_⟩⟩
  have hc := Decidable.not_not.mp hc
  have hr2 : r2 = if 0 ≤ p2.toInt ∧ p2.toInt ≤ 9999 then 1 else 0 := hr2
  rw [hr2, q_if1]
  refine ⟨fun hd => ?_, fun hd => ⟨by unfold spNeeds; rw [if_neg (fun q => hd ⟨q.2.1, by omega⟩)]; rfl, rfl⟩⟩
  have hd := Decidable.not_not.mp hd
  refine ⟨p1.toInt.toNat, 3, ⟨by omega, rfl, by omega⟩, fun r3 hr3 => ?_⟩
  have hr3 : r3 = al (20 + 37 * p1.toInt.toNat + 3) := hr3
  exact ⟨202, sX9_needs_38 T G0 G1 lim p1.toInt.toNat J al p1 p2 H (by omega) (by omega) hd.1 r3 hr3 _ (fun r F' he' ma' h => ⟨h, rfl⟩) 202 0 _ _ _ al he ma rfl (by omega) (by omega) ⟨r3, by
    rw [hr3]
    funext j
    by_cases e : j = 20 + 37 * p1.toInt.toNat + 3
    · subst e; rw [upd_eq]
    · rw [upd_ne e]⟩ (Or.inl ⟨rfl, fun j hj => absurd hj (by omega)⟩)⟩
