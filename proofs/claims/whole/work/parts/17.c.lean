set_option maxRecDepth 20000 in
theorem ggX9_chip_X9_chipAt : GoodIn wsX9_chip wsX9_chipAt := goodIn_r _ [6, 7, 8, 9, 10, 5, 11, 12, 13, 14, 15, 16, 17, 18, 19, 20, 21, 22, 23, 24, 25, 26, 27, 28, 29, 30, 31, 32, 33, 34, 35, 36, 37, 38, 39, 40, 41, 42, 43, 44, 45, 46, 47, 48, 49, 50] (by decide +kernel) (by decide +kernel)
set_option maxRecDepth 20000 in
theorem gX9_chip_X9_chipAt : GoodIn wsX9_chip (wsV RX9 229 RX9 yX9_chipAt wsX9_chipAt) := goodIn_app (goodIn_of _ (by decide +kernel)) ggX9_chip_X9_chipAt
theorem dX9_chip_0 : decode cX9_chip 0 = .ok (.aload_n 0, 1) := by decide +kernel
theorem dX9_chip_1 : decode cX9_chip 1 = .ok (.iconst 0, 1) := by decide +kernel
theorem dX9_chip_2 : decode cX9_chip 2 = .ok (.putfield 51, 3) := by decide +kernel
theorem dX9_chip_5 : decode cX9_chip 5 = .ok (.aload_n 0, 1) := by decide +kernel
theorem dX9_chip_6 : decode cX9_chip 6 = .ok (.iload_n 1, 1) := by decide +kernel
theorem dX9_chip_7 : decode cX9_chip 7 = .ok (.invokevirtual 229, 3) := by decide +kernel
theorem dX9_chip_10 : decode cX9_chip 10 = .ok (.ifCond .eq 7, 3) := by decide +kernel
theorem dX9_chip_13 : decode cX9_chip 13 = .ok (.iconst 1, 1) := by decide +kernel
theorem dX9_chip_14 : decode cX9_chip 14 = .ok (.goto 4, 3) := by decide +kernel
theorem dX9_chip_17 : decode cX9_chip 17 = .ok (.iconst 0, 1) := by decide +kernel
theorem dX9_chip_18 : decode cX9_chip 18 = .ok (.ireturn, 1) := by decide +kernel
abbrev rmX9_chip : Room := { frames := 3, cells := 0, slots := 0, locals := 67 }
theorem inX9_chip_9 : ∀ w ∈ wsX90, w ∈ wsX9_chip := by decide +kernel
def vX9_chip (F : Nat → Int32) (J : Nat → Int64) (al : Nat → Int32) (p1 : Int32) (Q : Int32 → (Nat → Int32) → Prop) : Prop := (∃ (T_7 : Cd), preX9_chipAt T_7 (upd F 0 (0 : Int32)) J al p1 ∧ (∀ r_7 : Int32, postX9_chipAt T_7 (upd F 0 (0 : Int32)) J al p1 r_7 → ((r_7 = 0 → (Q (0 : Int32) (upd F 0 (0 : Int32)))) ∧ (¬ r_7 = 0 → (Q (1 : Int32) (upd F 0 (0 : Int32)))))))
set_option maxHeartbeats 4000000 in
set_option maxRecDepth 100000 in
theorem wX9_chip (l : Launch) (g : GP) (qM : Nat) (q1 : Nat) (q2 : Nat) (q3 : Nat) (q4 : Nat) (q5 : Nat) (q6 : Nat) (q7 : Nat) (q8 : Nat) (q9 : Nat) (q10 : Nat) (q11 : Nat) (sz : Nat) (F : Nat → Int32) (J : Nat → Int64) (al : Nat → Int32) (p1 : Int32) {Q : Int32 → (Nat → Int32) → Prop} (hv : vX9_chip F J al p1 Q) : Met l yX9_chip wsX9_chip rmX9_chip (va_Pc [.ref qM, .int p1] (fun U => U.heap.size = sz ∧ va_P g.1 vwCl [(qM, .inr (9, [.int (F 0), .ref q1, .ref q2, .ref q3, .int (F 4), .int (F 5), .int (F 6), .int (F 7), .int (F 8), .int (F 9), .long (J 10), .int (F 11), .int (F 12), .int (F 13), .ref q4, .int (F 15), .ref q5, .ref q6, .ref q7, .int (F 19), .ref q8, .int (F 21), .int (F 22), .int (F 23), .int (F 24), .ref q9, .ref q10, .ref q11, .long (J 28)])), (q1, .inl (g.2 0, 376, .inl al))] U.heap ∧ GK g U ∧ va_D (fun _ => True) [(qM, .inr (9, [.int (F 0), .ref q1, .ref q2, .ref q3, .int (F 4), .int (F 5), .int (F 6), .int (F 7), .int (F 8), .int (F 9), .long (J 10), .int (F 11), .int (F 12), .int (F 13), .ref q4, .int (F 15), .ref q5, .ref q6, .ref q7, .int (F 19), .ref q8, .int (F 21), .int (F 22), .int (F 23), .int (F 24), .ref q9, .ref q10, .ref q11, .long (J 28)])), (q1, .inl (g.2 0, 376, .inl al))])) (va_Qi (fun (r : Int32) (u : (Nat → Int32)) => Q r u) (fun (u : (Nat → Int32)) t => va_P g.1 vwCl [(qM, .inr (9, [.int (u 0), .ref q1, .ref q2, .ref q3, .int (u 4), .int (u 5), .int (u 6), .int (u 7), .int (u 8), .int (u 9), .long (J 10), .int (u 11), .int (u 12), .int (u 13), .ref q4, .int (u 15), .ref q5, .ref q6, .ref q7, .int (u 19), .ref q8, .int (u 21), .int (u 22), .int (u 23), .int (u 24), .ref q9, .ref q10, .ref q11, .long (J 28)])), (q1, .inl (g.2 0, 376, .inl al))] t.heap ∧ va_D (va_A [(qM, .inr (9, [.int (F 0), .ref q1, .ref q2, .ref q3, .int (F 4), .int (F 5), .int (F 6), .int (F 7), .int (F 8), .int (F 9), .long (J 10), .int (F 11), .int (F 12), .int (F 13), .ref q4, .int (F 15), .ref q5, .ref q6, .ref q7, .int (F 19), .ref q8, .int (F 21), .int (F 22), .int (F 23), .int (F 24), .ref q9, .ref q10, .ref q11, .long (J 28)])), (q1, .inl (g.2 0, 376, .inl al))] sz) [(qM, .inr (9, [.int (u 0), .ref q1, .ref q2, .ref q3, .int (u 4), .int (u 5), .int (u 6), .int (u 7), .int (u 8), .int (u 9), .long (J 10), .int (u 11), .int (u 12), .int (u 13), .ref q4, .int (u 15), .ref q5, .ref q6, .ref q7, .int (u 19), .ref q8, .int (u 21), .int (u 22), .int (u 23), .int (u 24), .ref q9, .ref q10, .ref q11, .long (J 28)])), (q1, .inl (g.2 0, 376, .inl al))]) (va_A [(qM, .inr (9, [.int (F 0), .ref q1, .ref q2, .ref q3, .int (F 4), .int (F 5), .int (F 6), .int (F 7), .int (F 8), .int (F 9), .long (J 10), .int (F 11), .int (F 12), .int (F 13), .ref q4, .int (F 15), .ref q5, .ref q6, .ref q7, .int (F 19), .ref q8, .int (F 21), .int (F 22), .int (F 23), .int (F 24), .ref q9, .ref q10, .ref q11, .long (J 28)])), (q1, .inl (g.2 0, 376, .inl al))] sz)) 0 0 (va_A [(qM, .inr (9, [.int (F 0), .ref q1, .ref q2, .ref q3, .int (F 4), .int (F 5), .int (F 6), .int (F 7), .int (F 8), .int (F 9), .long (J 10), .int (F 11), .int (F 12), .int (F 13), .ref q4, .int (F 15), .ref q5, .ref q6, .ref q7, .int (F 19), .ref q8, .int (F 21), .int (F 22), .int (F 23), .int (F 24), .ref q9, .ref q10, .ref q11, .long (J 28)])), (q1, .inl (g.2 0, 376, .inl al))] sz) := by
  refine Met.ofW (cc := cX9_chip) (maxL := 2) (ret := (some .int)) (by decide) rfl ?_
  intro p e s m args below meth c s₁ B hml hv'
  obtain ⟨rfl, hsz, hP, hG, hD0⟩ := hv'
  have S : CallFix p m c cX9_chip 2 s _ wsX9_chip RX9 := ⟨B.exec, B.bytes, hml, findClass_of_methodNamed B.named, atoms_spec (ws := wsX9_chip) B.pre⟩
  obtain ⟨hx, hb, hml, hown, hts⟩ := id S
  have hK := hG.1
  have hr := B.returns
  have hlocks := B.notSynchronized
  subst hsz
  have hD := hD0.self (sz := s.heap.size)
  generalize hAe : va_A [(qM, .inr (9, [.int (F 0), .ref q1, .ref q2, .ref q3, .int (F 4), .int (F 5), .int (F 6), .int (F 7), .int (F 8), .int (F 9), .long (J 10), .int (F 11), .int (F 12), .int (F 13), .ref q4, .int (F 15), .ref q5, .ref q6, .ref q7, .int (F 19), .ref q8, .int (F 21), .int (F 22), .int (F 23), .int (F 24), .ref q9, .ref q10, .ref q11, .long (J 28)])), (q1, .inl (g.2 0, 376, .inl al))] s.heap.size = A at hD ⊢
  have hA : ∀ q : Nat, s.heap.size ≤ q → A q := fun q h => by rw [← hAe]; exact Or.inr h
  have hS : va_S A s.heap s.heap [] := va_S.rf
  clear hD0 hAe
  have hl := lv_entry ([.ref qM, .int p1]) (n := 2) (Nat.le_of_ble_eq_true rfl)
  rw [lg_entry_eq]
  generalize (lg_sl ([.ref qM, .int p1]) ++ List.replicate (2 - (lg_sl ([.ref qM, .int p1])).length) Slot.unset).toArray = ls at hl ⊢
  have hl : lv_has ls 2 [(0, .ref qM), (1, .int p1)] := hl
  unfold vX9_chip at hv
  refine lv_aload_n hx hb dX9_chip_0 rfl (lv_at hl 0 rfl) ?_
  refine lv_iconst (v := (0 : Int32)) hx hb dX9_chip_1 (by decide) ?_
  refine va_put (D := g.1) (ci := 9) (v := .int (0 : Int32)) (ty := .int) (C := RX9) (T := TX9) (N := 29) hx hb hts inX9_chip_9 tyX9 tyX9_ok nmX9 hown hK hP hD hS 0 rfl rfl 0 (by decide) (hts (.fieldLink RX9 51 "RangeCodesModel" "raised" "I") (List.mem_of_getElem? (i := 1) rfl)) (fun _ h9 => h9) rfl (by decide +kernel) rfl rfl (Nat.le_of_ble_eq_true rfl) dX9_chip_2 (fun H locs hP hD hS => ?_)
  have hP : va_P g.1 vwCl [(qM, .inr (9, [.int (0 : Int32), .ref q1, .ref q2, .ref q3, .int (F 4), .int (F 5), .int (F 6), .int (F 7), .int (F 8), .int (F 9), .long (J 10), .int (F 11), .int (F 12), .int (F 13), .ref q4, .int (F 15), .ref q5, .ref q6, .ref q7, .int (F 19), .ref q8, .int (F 21), .int (F 22), .int (F 23), .int (F 24), .ref q9, .ref q10, .ref q11, .long (J 28)])), (q1, .inl (g.2 0, 376, .inl al))] H := hP
  have hD : va_D A [(qM, .inr (9, [.int (0 : Int32), .ref q1, .ref q2, .ref q3, .int (F 4), .int (F 5), .int (F 6), .int (F 7), .int (F 8), .int (F 9), .long (J 10), .int (F 11), .int (F 12), .int (F 13), .ref q4, .int (F 15), .ref q5, .ref q6, .ref q7, .int (F 19), .ref q8, .int (F 21), .int (F 22), .int (F 23), .int (F 24), .ref q9, .ref q10, .ref q11, .long (J 28)])), (q1, .inl (g.2 0, 376, .inl al))] := hD
  refine lv_aload_n hx hb dX9_chip_5 rfl (lv_at hl 0 rfl) ?_
  refine lv_iload_n hx hb dX9_chip_6 rfl (lv_at hl 1 rfl) ?_
  obtain ⟨T_7, ho_1, hv⟩ := hv
  refine vp_callSi (W.runV (As := [.int p1]) (rest := []) S (wX9_chipAt l g qM q1 q2 q3 q4 q5 q6 q7 q8 q9 q10 q11 (upd F 0 (0 : Int32)) J al p1 (sX9_chipAt T_7 (upd F 0 (0 : Int32)) J al p1 ho_1)) (cwV 1 hts gX9_chip_X9_chipAt rfl rfl rfl (by decide +kernel) ⟨Nat.le_of_ble_eq_true rfl, Nat.le_of_ble_eq_true rfl⟩) ⟨blindRO, va_recv hK hP (ci := 9) (q0 := 0) rfl rfl, fun U hU hW => ⟨rfl, by rw [hU]; exact hP.sub (ws' := [(qM, .inr (9, [.int ((upd F 0 (0 : Int32)) 0), .ref q1, .ref q2, .ref q3, .int ((upd F 0 (0 : Int32)) 4), .int ((upd F 0 (0 : Int32)) 5), .int ((upd F 0 (0 : Int32)) 6), .int ((upd F 0 (0 : Int32)) 7), .int ((upd F 0 (0 : Int32)) 8), .int ((upd F 0 (0 : Int32)) 9), .long (J 10), .int ((upd F 0 (0 : Int32)) 11), .int ((upd F 0 (0 : Int32)) 12), .int ((upd F 0 (0 : Int32)) 13), .ref q4, .int ((upd F 0 (0 : Int32)) 15), .ref q5, .ref q6, .ref q7, .int ((upd F 0 (0 : Int32)) 19), .ref q8, .int ((upd F 0 (0 : Int32)) 21), .int ((upd F 0 (0 : Int32)) 22), .int ((upd F 0 (0 : Int32)) 23), .int ((upd F 0 (0 : Int32)) 24), .ref q9, .ref q10, .ref q11, .long (J 28)])), (q1, .inl (g.2 0, 376, .inl al))]) [0, 1] rfl, hG.warm hW⟩⟩ rfl rfl hl.1 rfl (lv_room (Nat.le_of_ble_eq_true rfl)) dX9_chip_7 ⟨Nat.le_of_ble_eq_true rfl, Nat.le_of_ble_eq_true rfl⟩) (fun r_7 hr_7 => ?_)
  have hv := hv r_7 hr_7
  obtain ⟨hvt, hvf⟩ := hv
  refine lv_if_eq (tgt := 17) hx hb dX9_chip_10 (by decide) (fun hc => ?_) (fun hc => ?_)
  · have hv := hvt hc
    refine lv_iconst (v := (0 : Int32)) hx hb dX9_chip_17 (by decide) ?_
    have hP9 := hP.sub (ws' := [(qM, .inr (9, [.int ((upd F 0 (0 : Int32)) 0), .ref q1, .ref q2, .ref q3, .int ((upd F 0 (0 : Int32)) 4), .int ((upd F 0 (0 : Int32)) 5), .int ((upd F 0 (0 : Int32)) 6), .int ((upd F 0 (0 : Int32)) 7), .int ((upd F 0 (0 : Int32)) 8), .int ((upd F 0 (0 : Int32)) 9), .long (J 10), .int ((upd F 0 (0 : Int32)) 11), .int ((upd F 0 (0 : Int32)) 12), .int ((upd F 0 (0 : Int32)) 13), .ref q4, .int ((upd F 0 (0 : Int32)) 15), .ref q5, .ref q6, .ref q7, .int ((upd F 0 (0 : Int32)) 19), .ref q8, .int ((upd F 0 (0 : Int32)) 21), .int ((upd F 0 (0 : Int32)) 22), .int ((upd F 0 (0 : Int32)) 23), .int ((upd F 0 (0 : Int32)) 24), .ref q9, .ref q10, .ref q11, .long (J 28)])), (q1, .inl (g.2 0, 376, .inl al))]) [0, 1] rfl
    have hD9 := hD.sub (ws' := [(qM, .inr (9, [.int ((upd F 0 (0 : Int32)) 0), .ref q1, .ref q2, .ref q3, .int ((upd F 0 (0 : Int32)) 4), .int ((upd F 0 (0 : Int32)) 5), .int ((upd F 0 (0 : Int32)) 6), .int ((upd F 0 (0 : Int32)) 7), .int ((upd F 0 (0 : Int32)) 8), .int ((upd F 0 (0 : Int32)) 9), .long (J 10), .int ((upd F 0 (0 : Int32)) 11), .int ((upd F 0 (0 : Int32)) 12), .int ((upd F 0 (0 : Int32)) 13), .ref q4, .int ((upd F 0 (0 : Int32)) 15), .ref q5, .ref q6, .ref q7, .int ((upd F 0 (0 : Int32)) 19), .ref q8, .int ((upd F 0 (0 : Int32)) 21), .int ((upd F 0 (0 : Int32)) 22), .int ((upd F 0 (0 : Int32)) 23), .int ((upd F 0 (0 : Int32)) 24), .ref q9, .ref q10, .ref q11, .long (J 28)])), (q1, .inl (g.2 0, 376, .inl al))]) [0, 1] (by decide) rfl
    exact W.iret (v := (0 : Int32)) hx hb hr (fun t ht hW => ⟨⟨_, ((upd F 0 (0 : Int32))), rfl, hv, by rw [ht]; exact hP9, hD9⟩, hS.F ht⟩) hS.2.2 dX9_chip_18
  · have hv := hvf hc
    refine lv_iconst (v := (1 : Int32)) hx hb dX9_chip_13 (by decide) ?_
    refine lv_goto (tgt := 18) hx hb dX9_chip_14 (by decide) ?_
    have hP9 := hP.sub (ws' := [(qM, .inr (9, [.int ((upd F 0 (0 : Int32)) 0), .ref q1, .ref q2, .ref q3, .int ((upd F 0 (0 : Int32)) 4), .int ((upd F 0 (0 : Int32)) 5), .int ((upd F 0 (0 : Int32)) 6), .int ((upd F 0 (0 : Int32)) 7), .int ((upd F 0 (0 : Int32)) 8), .int ((upd F 0 (0 : Int32)) 9), .long (J 10), .int ((upd F 0 (0 : Int32)) 11), .int ((upd F 0 (0 : Int32)) 12), .int ((upd F 0 (0 : Int32)) 13), .ref q4, .int ((upd F 0 (0 : Int32)) 15), .ref q5, .ref q6, .ref q7, .int ((upd F 0 (0 : Int32)) 19), .ref q8, .int ((upd F 0 (0 : Int32)) 21), .int ((upd F 0 (0 : Int32)) 22), .int ((upd F 0 (0 : Int32)) 23), .int ((upd F 0 (0 : Int32)) 24), .ref q9, .ref q10, .ref q11, .long (J 28)])), (q1, .inl (g.2 0, 376, .inl al))]) [0, 1] rfl
    have hD9 := hD.sub (ws' := [(qM, .inr (9, [.int ((upd F 0 (0 : Int32)) 0), .ref q1, .ref q2, .ref q3, .int ((upd F 0 (0 : Int32)) 4), .int ((upd F 0 (0 : Int32)) 5), .int ((upd F 0 (0 : Int32)) 6), .int ((upd F 0 (0 : Int32)) 7), .int ((upd F 0 (0 : Int32)) 8), .int ((upd F 0 (0 : Int32)) 9), .long (J 10), .int ((upd F 0 (0 : Int32)) 11), .int ((upd F 0 (0 : Int32)) 12), .int ((upd F 0 (0 : Int32)) 13), .ref q4, .int ((upd F 0 (0 : Int32)) 15), .ref q5, .ref q6, .ref q7, .int ((upd F 0 (0 : Int32)) 19), .ref q8, .int ((upd F 0 (0 : Int32)) 21), .int ((upd F 0 (0 : Int32)) 22), .int ((upd F 0 (0 : Int32)) 23), .int ((upd F 0 (0 : Int32)) 24), .ref q9, .ref q10, .ref q11, .long (J 28)])), (q1, .inl (g.2 0, 376, .inl al))]) [0, 1] (by decide) rfl
    exact W.iret (v := (1 : Int32)) hx hb hr (fun t ht hW => ⟨⟨_, ((upd F 0 (0 : Int32))), rfl, hv, by rw [ht]; exact hP9, hD9⟩, hS.F ht⟩) hS.2.2 dX9_chip_18
abbrev preX9_chip (T : Cd) (G0 : Lg) (G1 : Lg) (lim : Nat) (F : Nat → Int32) (J : Nat → Int64) (al : Nat → Int32) (p1 : Int32) : Prop := fcR T G0 G1 lim al
abbrev postX9_chip (T : Cd) (G0 : Lg) (G1 : Lg) (lim : Nat) (F : Nat → Int32) (J : Nat → Int64) (al : Nat → Int32) (p1 : Int32) (r : Int32) (F' : Nat → Int32) : Prop := r.toInt = if coB T p1.toInt then 1 else 0
theorem sX9_chip (T : Cd) (G0 : Lg) (G1 : Lg) (lim : Nat) (F : Nat → Int32) (J : Nat → Int64) (al : Nat → Int32) (p1 : Int32) (H : preX9_chip T G0 G1 lim F J al p1) : vX9_chip F J al p1 (postX9_chip T G0 G1 lim F J al p1) := by
  refine ⟨T, H.1, fun r hr => ?_⟩
  have hr : r = if coB T p1.toInt then 1 else 0 := hr
  unfold postX9_chip
  rw [hr]
  cases coB T p1.toInt
  · exact ⟨fun _ => rfl, fun q => absurd rfl q⟩
  · exact ⟨fun q => absurd q (by decide), fun _ => rfl⟩
set_option maxRecDepth 20000 in
theorem ggX9_code_X9_of : GoodIn wsX9_code wsX9_of := goodIn_r _ [7, 2, 25, 26, 27, 28, 29, 30, 31, 32, 33, 34, 35, 36, 37, 38, 39, 40, 41, 42, 43, 44, 45, 46, 47, 48, 49, 50, 51, 52, 53] (by decide +kernel) (by decide +kernel)
set_option maxRecDepth 20000 in
theorem gX9_code_X9_of : GoodIn wsX9_code (wsV RX9 195 RX9 yX9_of wsX9_of) := goodIn_app (goodIn_of _ (by decide +kernel)) ggX9_code_X9_of
set_option maxRecDepth 20000 in
theorem ggX9_code_X9_everyPart : GoodIn wsX9_code wsX9_everyPart := goodIn_r _ [11, 2, 25, 26, 27, 28, 29, 30, 31, 32, 33, 34, 35, 36, 37, 38, 39, 40, 41, 42, 43, 44, 45, 46, 47, 48, 49, 50, 51, 52, 53] (by decide +kernel) (by decide +kernel)
set_option maxRecDepth 20000 in
theorem gX9_code_X9_everyPart : GoodIn wsX9_code (wsV RX9 210 RX9 yX9_everyPart wsX9_everyPart) := goodIn_app (goodIn_of _ (by decide +kernel)) ggX9_code_X9_everyPart
set_option maxRecDepth 20000 in
theorem ggX9_code_X9_commonOf : GoodIn wsX9_code wsX9_commonOf := goodIn_r _ [15, 2, 16, 17, 6, 18, 3, 4, 5, 7, 19, 20, 21, 22, 23, 24, 25, 26, 27, 28, 29, 30, 31, 32, 33, 34, 35, 36, 37, 38, 39, 40, 41, 42, 43, 44, 45, 46, 47, 48, 49, 50, 51, 52, 53] (by decide +kernel) (by decide +kernel)
set_option maxRecDepth 20000 in
theorem gX9_code_X9_commonOf : GoodIn wsX9_code (wsV RX9 213 RX9 yX9_commonOf wsX9_commonOf) := goodIn_app (goodIn_of _ (by decide +kernel)) ggX9_code_X9_commonOf
theorem dX9_code_0 : decode cX9_code 0 = .ok (.aload_n 0, 1) := by decide +kernel
theorem dX9_code_1 : decode cX9_code 1 = .ok (.iconst 0, 1) := by decide +kernel
theorem dX9_code_2 : decode cX9_code 2 = .ok (.putfield 51, 3) := by decide +kernel
theorem dX9_code_5 : decode cX9_code 5 = .ok (.iconst 0, 1) := by decide +kernel
theorem dX9_code_6 : decode cX9_code 6 = .ok (.istore_n 2, 1) := by decide +kernel
theorem dX9_code_7 : decode cX9_code 7 = .ok (.iconst 0, 1) := by decide +kernel
theorem dX9_code_8 : decode cX9_code 8 = .ok (.istore_n 3, 1) := by decide +kernel
theorem dX9_code_9 : decode cX9_code 9 = .ok (.iload_n 3, 1) := by decide +kernel
theorem dX9_code_10 : decode cX9_code 10 = .ok (.aload_n 0, 1) := by decide +kernel
theorem dX9_code_11 : decode cX9_code 11 = .ok (.getfield 7, 3) := by decide +kernel
theorem dX9_code_14 : decode cX9_code 14 = .ok (.iconst 0, 1) := by decide +kernel
theorem dX9_code_15 : decode cX9_code 15 = .ok (.iaload, 1) := by decide +kernel
theorem dX9_code_16 : decode cX9_code 16 = .ok (.if_icmp .ge 18, 3) := by decide +kernel
theorem dX9_code_19 : decode cX9_code 19 = .ok (.iload_n 2, 1) := by decide +kernel
theorem dX9_code_20 : decode cX9_code 20 = .ok (.aload_n 0, 1) := by decide +kernel
theorem dX9_code_21 : decode cX9_code 21 = .ok (.iload_n 3, 1) := by decide +kernel
theorem dX9_code_22 : decode cX9_code 22 = .ok (.iconst 1, 1) := by decide +kernel
theorem dX9_code_23 : decode cX9_code 23 = .ok (.invokevirtual 195, 3) := by decide +kernel
theorem dX9_code_26 : decode cX9_code 26 = .ok (.iadd, 1) := by decide +kernel
theorem dX9_code_27 : decode cX9_code 27 = .ok (.istore_n 2, 1) := by decide +kernel
theorem dX9_code_28 : decode cX9_code 28 = .ok (.iinc 3 1, 3) := by decide +kernel
theorem dX9_code_31 : decode cX9_code 31 = .ok (.goto (-22), 3) := by decide +kernel
theorem dX9_code_34 : decode cX9_code 34 = .ok (.iload_n 1, 1) := by decide +kernel
theorem dX9_code_35 : decode cX9_code 35 = .ok (.tableswitch 65 0 4 #[33, 40, 49, 56, 58], 33) := by decide +kernel
theorem dX9_code_68 : decode cX9_code 68 = .ok (.aload_n 0, 1) := by decide +kernel
theorem dX9_code_69 : decode cX9_code 69 = .ok (.getfield 7, 3) := by decide +kernel
theorem dX9_code_72 : decode cX9_code 72 = .ok (.iconst 0, 1) := by decide +kernel
theorem dX9_code_73 : decode cX9_code 73 = .ok (.iaload, 1) := by decide +kernel
theorem dX9_code_74 : decode cX9_code 74 = .ok (.ireturn, 1) := by decide +kernel
theorem dX9_code_75 : decode cX9_code 75 = .ok (.aload_n 0, 1) := by decide +kernel
theorem dX9_code_76 : decode cX9_code 76 = .ok (.aload_n 0, 1) := by decide +kernel
theorem dX9_code_77 : decode cX9_code 77 = .ok (.invokevirtual 210, 3) := by decide +kernel
theorem dX9_code_80 : decode cX9_code 80 = .ok (.invokevirtual 213, 3) := by decide +kernel
theorem dX9_code_83 : decode cX9_code 83 = .ok (.ireturn, 1) := by decide +kernel
theorem dX9_code_84 : decode cX9_code 84 = .ok (.aload_n 0, 1) := by decide +kernel
theorem dX9_code_85 : decode cX9_code 85 = .ok (.getfield 7, 3) := by decide +kernel
theorem dX9_code_88 : decode cX9_code 88 = .ok (.iconst 1, 1) := by decide +kernel
theorem dX9_code_89 : decode cX9_code 89 = .ok (.iaload, 1) := by decide +kernel
theorem dX9_code_90 : decode cX9_code 90 = .ok (.ireturn, 1) := by decide +kernel
theorem dX9_code_91 : decode cX9_code 91 = .ok (.iload_n 2, 1) := by decide +kernel
theorem dX9_code_92 : decode cX9_code 92 = .ok (.ireturn, 1) := by decide +kernel
theorem dX9_code_93 : decode cX9_code 93 = .ok (.aload_n 0, 1) := by decide +kernel
theorem dX9_code_94 : decode cX9_code 94 = .ok (.getfield 7, 3) := by decide +kernel
theorem dX9_code_97 : decode cX9_code 97 = .ok (.iconst 2, 1) := by decide +kernel
theorem dX9_code_98 : decode cX9_code 98 = .ok (.iaload, 1) := by decide +kernel
theorem dX9_code_99 : decode cX9_code 99 = .ok (.ireturn, 1) := by decide +kernel
theorem dX9_code_100 : decode cX9_code 100 = .ok (.iconst (-1), 1) := by decide +kernel
theorem dX9_code_101 : decode cX9_code 101 = .ok (.ireturn, 1) := by decide +kernel
abbrev rmX9_code : Room := { frames := 3, cells := 0, slots := 0, locals := 73 }
theorem inX9_code_9 : ∀ w ∈ wsX90, w ∈ wsX9_code := by decide +kernel
def vX9_code_c9 (J : Nat → Int64) (al : Nat → Int32) (p1 : Int32) (Q : Int32 → (Nat → Int32) → Prop) : Nat → Int32 → Int32 → (Nat → Int32) → Prop
  | 0, _, _, _ => False
  | n + 1, x2, x3, F => (((al 0) ≤ x3 → ((p1 = (0 : Int32) → (Q (al 0) F)) ∧ ((p1 = (1 : Int32) → (∃ (T_77 : Cd), preX9_everyPart T_77 F J al ∧ (∀ r_77 : Int32, postX9_everyPart T_77 F J al r_77 → (∃ (T_80 : Cd) (s_80 : Nat), preX9_commonOf T_80 s_80 F J al r_77 ∧ (∀ r_80 : Int32, postX9_commonOf T_80 s_80 F J al r_77 r_80 → (Q r_80 F)))))) ∧ ((p1 = (2 : Int32) → (Q (al 1) F)) ∧ ((p1 = (3 : Int32) → (Q x2 F)) ∧ ((p1 = (4 : Int32) → (Q (al 2) F)) ∧ (¬ p1 = (0 : Int32) → ¬ p1 = (1 : Int32) → ¬ p1 = (2 : Int32) → ¬ p1 = (3 : Int32) → ¬ p1 = (4 : Int32) → (Q (-1 : Int32) F)))))))) ∧ (¬ (al 0) ≤ x3 → (∃ (p_23 : Nat) (w_23 : Nat), preX9_of p_23 w_23 F J al x3 (1 : Int32) ∧ (∀ r_23 : Int32, postX9_of p_23 w_23 F J al x3 (1 : Int32) r_23 → (vX9_code_c9 J al p1 Q n (x2 + r_23) (x3 + (1 : Int32)) F)))))
set_option maxHeartbeats 4000000 in
set_option maxRecDepth 100000 in
theorem kX9_code_c9 {p : Program} {l : Launch} {e : Env} {s : State} {m : MethodId} {args : Array Value} {below : List Frame} {meth : Method} {c : Code} {g : GP} {qM : Nat} {q1 : Nat} {q2 : Nat} {q3 : Nat} {q4 : Nat} {q5 : Nat} {q6 : Nat} {q7 : Nat} {q8 : Nat} {q9 : Nat} {q10 : Nat} {q11 : Nat} {J : Nat → Int64} {al : Nat → Int32} {p1 : Int32} {Q : Int32 → (Nat → Int32) → Prop} {A : Nat → Prop} (S : CallFix p m c cX9_code 4 s args wsX9_code RX9) (hr : meth.sig.returnType = (some .int)) (hlocks : meth.locks = false) (hG : GK g s) (hA : ∀ q : Nat, s.heap.size ≤ q → A q) : ∀ (n : Nat), ∀ (x2 : Int32) (x3 : Int32) (F : Nat → Int32), vX9_code_c9 J al p1 Q n x2 x3 F → ∀ (H : Heap) (locs : List Loc), va_P g.1 vwCl [(qM, .inr (9, [.int (F 0), .ref q1, .ref q2, .ref q3, .int (F 4), .int (F 5), .int (F 6), .int (F 7), .int (F 8), .int (F 9), .long (J 10), .int (F 11), .int (F 12), .int (F 13), .ref q4, .int (F 15), .ref q5, .ref q6, .ref q7, .int (F 19), .ref q8, .int (F 21), .int (F 22), .int (F 23), .int (F 24), .ref q9, .ref q10, .ref q11, .long (J 28)])), (q1, .inl (g.2 0, 376, .inl al))] H → va_D A [(qM, .inr (9, [.int (F 0), .ref q1, .ref q2, .ref q3, .int (F 4), .int (F 5), .int (F 6), .int (F 7), .int (F 8), .int (F 9), .long (J 10), .int (F 11), .int (F 12), .int (F 13), .ref q4, .int (F 15), .ref q5, .ref q6, .ref q7, .int (F 19), .ref q8, .int (F 21), .int (F 22), .int (F 23), .int (F 24), .ref q9, .ref q10, .ref q11, .long (J 28)])), (q1, .inl (g.2 0, 376, .inl al))] → va_S A s.heap H locs → ∀ (ls : Array Slot), lv_has ls 4 [(0, .ref qM), (1, .int p1), (2, .int x2), (3, .int x3)] → W p l e (headSpec wsX9_code rmX9_code).room s m args below meth c H locs 0 0 (MQ below (va_Qi (fun (r : Int32) (u : (Nat → Int32)) => Q r u) (fun (u : (Nat → Int32)) t => va_P g.1 vwCl [(qM, .inr (9, [.int (u 0), .ref q1, .ref q2, .ref q3, .int (u 4), .int (u 5), .int (u 6), .int (u 7), .int (u 8), .int (u 9), .long (J 10), .int (u 11), .int (u 12), .int (u 13), .ref q4, .int (u 15), .ref q5, .ref q6, .ref q7, .int (u 19), .ref q8, .int (u 21), .int (u 22), .int (u 23), .int (u 24), .ref q9, .ref q10, .ref q11, .long (J 28)])), (q1, .inl (g.2 0, 376, .inl al))] t.heap ∧ va_D A [(qM, .inr (9, [.int (u 0), .ref q1, .ref q2, .ref q3, .int (u 4), .int (u 5), .int (u 6), .int (u 7), .int (u 8), .int (u 9), .long (J 10), .int (u 11), .int (u 12), .int (u 13), .ref q4, .int (u 15), .ref q5, .ref q6, .ref q7, .int (u 19), .ref q8, .int (u 21), .int (u 22), .int (u 23), .int (u 24), .ref q9, .ref q10, .ref q11, .long (J 28)])), (q1, .inl (g.2 0, 376, .inl al))]) A) args s 0 0 A) (F0 m 9 ls []) := by
  obtain ⟨hx, hb, hml, hown, hts⟩ := id S
  have hK := hG.1
  intro n
  induction n with
  | zero => intro x2 x3 F hv; exact hv.elim
  | succ n ih =>
    intro x2 x3 F hv H locs hP hD hS ls hl
    refine lv_iload_n hx hb dX9_code_9 rfl (lv_at hl 3 rfl) ?_
    refine lv_aload_n hx hb dX9_code_10 rfl (lv_at hl 0 rfl) ?_
    refine va_get (D := g.1) (ci := 9) (v := .ref q1) (C := RX9) (T := TX9) (N := 29) hx hb hts inX9_code_9 hown hK hP 0 rfl rfl 1 (by decide) (hts (.fieldLink RX9 7 "RangeCodesModel" "all" "[I") (List.mem_of_getElem? (i := 2) rfl)) (fun _ h9 => h9) rfl dX9_code_11 ?_
    refine lv_iconst (v := (0 : Int32)) hx hb dX9_code_14 (by decide) ?_
    refine va_iald hx hb hK hP 1 0 rfl rfl (by unfold vp_in; decide) dX9_code_15 ?_
    obtain ⟨hvt, hvf⟩ := hv
    refine lv_icmp_ge (tgt := 34) hx hb dX9_code_16 (by decide) (fun hc => ?_) (fun hc => ?_)
    · have hv := hvt hc
      refine lv_iload_n hx hb dX9_code_34 rfl (lv_at hl 1 rfl) ?_
      obtain ⟨hvc, hv⟩ := hv
      by_cases hs0 : p1 = (0 : Int32)
      · have hv := hvc hs0
        refine lv_tableIn (tgt := 68) hx hb dX9_code_35 (by rw [hs0]; decide) (by rw [hs0]; decide) (by rw [hs0]; rfl) (by decide) ?_
        refine lv_aload_n hx hb dX9_code_68 rfl (lv_at hl 0 rfl) ?_
        refine va_get (D := g.1) (ci := 9) (v := .ref q1) (C := RX9) (T := TX9) (N := 29) hx hb hts inX9_code_9 hown hK hP 0 rfl rfl 1 (by decide) (hts (.fieldLink RX9 7 "RangeCodesModel" "all" "[I") (List.mem_of_getElem? (i := 2) rfl)) (fun _ h9 => h9) rfl dX9_code_69 ?_
        refine lv_iconst (v := (0 : Int32)) hx hb dX9_code_72 (by decide) ?_
        refine va_iald hx hb hK hP 1 0 rfl rfl (by unfold vp_in; decide) dX9_code_73 ?_
        have hP9 := hP.sub (ws' := [(qM, .inr (9, [.int (F 0), .ref q1, .ref q2, .ref q3, .int (F 4), .int (F 5), .int (F 6), .int (F 7), .int (F 8), .int (F 9), .long (J 10), .int (F 11), .int (F 12), .int (F 13), .ref q4, .int (F 15), .ref q5, .ref q6, .ref q7, .int (F 19), .ref q8, .int (F 21), .int (F 22), .int (F 23), .int (F 24), .ref q9, .ref q10, .ref q11, .long (J 28)])), (q1, .inl (g.2 0, 376, .inl al))]) [0, 1] rfl
        have hD9 := hD.sub (ws' := [(qM, .inr (9, [.int (F 0), .ref q1, .ref q2, .ref q3, .int (F 4), .int (F 5), .int (F 6), .int (F 7), .int (F 8), .int (F 9), .long (J 10), .int (F 11), .int (F 12), .int (F 13), .ref q4, .int (F 15), .ref q5, .ref q6, .ref q7, .int (F 19), .ref q8, .int (F 21), .int (F 22), .int (F 23), .int (F 24), .ref q9, .ref q10, .ref q11, .long (J 28)])), (q1, .inl (g.2 0, 376, .inl al))]) [0, 1] (by decide) rfl
        exact W.iret (v := (al 0)) hx hb hr (fun t ht hW => ⟨⟨_, (F), rfl, hv, by rw [ht]; exact hP9, hD9⟩, hS.F ht⟩) hS.2.2 dX9_code_74
      obtain ⟨hvc, hv⟩ := hv
      by_cases hs1 : p1 = (1 : Int32)
      · have hv := hvc hs1
        refine lv_tableIn (tgt := 75) hx hb dX9_code_35 (by rw [hs1]; decide) (by rw [hs1]; decide) (by rw [hs1]; rfl) (by decide) ?_
        refine lv_aload_n hx hb dX9_code_75 rfl (lv_at hl 0 rfl) ?_
        refine lv_aload_n hx hb dX9_code_76 rfl (lv_at hl 0 rfl) ?_
        obtain ⟨T_77, ho_1, hv⟩ := hv
        refine vp_callSi (W.runV (As := []) (rest := [.ref qM]) S (wX9_everyPart l g qM q1 q2 q3 q4 q5 q6 q7 q8 q9 q10 q11 F J al (sX9_everyPart T_77 F J al ho_1)) (cwV 0 hts gX9_code_X9_everyPart rfl rfl rfl (by decide +kernel) ⟨Nat.le_of_ble_eq_true rfl, Nat.le_of_ble_eq_true rfl⟩) ⟨blindRO, va_recv hK hP (ci := 9) (q0 := 0) rfl rfl, fun U hU hW => ⟨rfl, by rw [hU]; exact hP.sub (ws' := [(qM, .inr (9, [.int (F 0), .ref q1, .ref q2, .ref q3, .int (F 4), .int (F 5), .int (F 6), .int (F 7), .int (F 8), .int (F 9), .long (J 10), .int (F 11), .int (F 12), .int (F 13), .ref q4, .int (F 15), .ref q5, .ref q6, .ref q7, .int (F 19), .ref q8, .int (F 21), .int (F 22), .int (F 23), .int (F 24), .ref q9, .ref q10, .ref q11, .long (J 28)])), (q1, .inl (g.2 0, 376, .inl al))]) [0, 1] rfl, hG.warm hW⟩⟩ rfl rfl hl.1 rfl (lv_room (Nat.le_of_ble_eq_true rfl)) dX9_code_77 ⟨Nat.le_of_ble_eq_true rfl, Nat.le_of_ble_eq_true rfl⟩) (fun r_77 hr_77 => ?_)
        have hv := hv r_77 hr_77
        obtain ⟨T_80, s_80, ho_2, hv⟩ := hv
        refine vp_callSi (W.runV (As := [.int r_77]) (rest := []) S (wX9_commonOf l g qM q1 q2 q3 q4 q5 q6 q7 q8 q9 q10 q11 F J al r_77 (sX9_commonOf T_80 s_80 F J al r_77 ho_2)) (cwV 1 hts gX9_code_X9_commonOf rfl rfl rfl (by decide +kernel) ⟨Nat.le_of_ble_eq_true rfl, Nat.le_of_ble_eq_true rfl⟩) ⟨blindRO, va_recv hK hP (ci := 9) (q0 := 0) rfl rfl, fun U hU hW => ⟨rfl, by rw [hU]; exact hP.sub (ws' := [(qM, .inr (9, [.int (F 0), .ref q1, .ref q2, .ref q3, .int (F 4), .int (F 5), .int (F 6), .int (F 7), .int (F 8), .int (F 9), .long (J 10), .int (F 11), .int (F 12), .int (F 13), .ref q4, .int (F 15), .ref q5, .ref q6, .ref q7, .int (F 19), .ref q8, .int (F 21), .int (F 22), .int (F 23), .int (F 24), .ref q9, .ref q10, .ref q11, .long (J 28)])), (q1, .inl (g.2 0, 376, .inl al))]) [0, 1] rfl, hG.warm hW⟩⟩ rfl rfl hl.1 rfl (lv_room (Nat.le_of_ble_eq_true rfl)) dX9_code_80 ⟨Nat.le_of_ble_eq_true rfl, Nat.le_of_ble_eq_true rfl⟩) (fun r_80 hr_80 => ?_)
        have hv := hv r_80 hr_80
        have hP9 := hP.sub (ws' := [(qM, .inr (9, [.int (F 0), .ref q1, .ref q2, .ref q3, .int (F 4), .int (F 5), .int (F 6), .int (F 7), .int (F 8), .int (F 9), .long (J 10), .int (F 11), .int (F 12), .int (F 13), .ref q4, .int (F 15), .ref q5, .ref q6, .ref q7, .int (F 19), .ref q8, .int (F 21), .int (F 22), .int (F 23), .int (F 24), .ref q9, .ref q10, .ref q11, .long (J 28)])), (q1, .inl (g.2 0, 376, .inl al))]) [0, 1] rfl
        have hD9 := hD.sub (ws' := [(qM, .inr (9, [.int (F 0), .ref q1, .ref q2, .ref q3, .int (F 4), .int (F 5), .int (F 6), .int (F 7), .int (F 8), .int (F 9), .long (J 10), .int (F 11), .int (F 12), .int (F 13), .ref q4, .int (F 15), .ref q5, .ref q6, .ref q7, .int (F 19), .ref q8, .int (F 21), .int (F 22), .int (F 23), .int (F 24), .ref q9, .ref q10, .ref q11, .long (J 28)])), (q1, .inl (g.2 0, 376, .inl al))]) [0, 1] (by decide) rfl
        exact W.iret (v := r_80) hx hb hr (fun t ht hW => ⟨⟨_, (F), rfl, hv, by rw [ht]; exact hP9, hD9⟩, hS.F ht⟩) hS.2.2 dX9_code_83
      obtain ⟨hvc, hv⟩ := hv
      by_cases hs2 : p1 = (2 : Int32)
      · have hv := hvc hs2
        refine lv_tableIn (tgt := 84) hx hb dX9_code_35 (by rw [hs2]; decide) (by rw [hs2]; decide) (by rw [hs2]; rfl) (by decide) ?_
        refine lv_aload_n hx hb dX9_code_84 rfl (lv_at hl 0 rfl) ?_
        refine va_get (D := g.1) (ci := 9) (v := .ref q1) (C := RX9) (T := TX9) (N := 29) hx hb hts inX9_code_9 hown hK hP 0 rfl rfl 1 (by decide) (hts (.fieldLink RX9 7 "RangeCodesModel" "all" "[I") (List.mem_of_getElem? (i := 2) rfl)) (fun _ h9 => h9) rfl dX9_code_85 ?_
        refine lv_iconst (v := (1 : Int32)) hx hb dX9_code_88 (by decide) ?_
        refine va_iald hx hb hK hP 1 0 rfl rfl (by unfold vp_in; decide) dX9_code_89 ?_
        have hP9 := hP.sub (ws' := [(qM, .inr (9, [.int (F 0), .ref q1, .ref q2, .ref q3, .int (F 4), .int (F 5), .int (F 6), .int (F 7), .int (F 8), .int (F 9), .long (J 10), .int (F 11), .int (F 12), .int (F 13), .ref q4, .int (F 15), .ref q5, .ref q6, .ref q7, .int (F 19), .ref q8, .int (F 21), .int (F 22), .int (F 23), .int (F 24), .ref q9, .ref q10, .ref q11, .long (J 28)])), (q1, .inl (g.2 0, 376, .inl al))]) [0, 1] rfl
        have hD9 := hD.sub (ws' := [(qM, .inr (9, [.int (F 0), .ref q1, .ref q2, .ref q3, .int (F 4), .int (F 5), .int (F 6), .int (F 7), .int (F 8), .int (F 9), .long (J 10), .int (F 11), .int (F 12), .int (F 13), .ref q4, .int (F 15), .ref q5, .ref q6, .ref q7, .int (F 19), .ref q8, .int (F 21), .int (F 22), .int (F 23), .int (F 24), .ref q9, .ref q10, .ref q11, .long (J 28)])), (q1, .inl (g.2 0, 376, .inl al))]) [0, 1] (by decide) rfl
        exact W.iret (v := (al 1)) hx hb hr (fun t ht hW => ⟨⟨_, (F), rfl, hv, by rw [ht]; exact hP9, hD9⟩, hS.F ht⟩) hS.2.2 dX9_code_90
      obtain ⟨hvc, hv⟩ := hv
      by_cases hs3 : p1 = (3 : Int32)
      · have hv := hvc hs3
        refine lv_tableIn (tgt := 91) hx hb dX9_code_35 (by rw [hs3]; decide) (by rw [hs3]; decide) (by rw [hs3]; rfl) (by decide) ?_
        refine lv_iload_n hx hb dX9_code_91 rfl (lv_at hl 2 rfl) ?_
        have hP9 := hP.sub (ws' := [(qM, .inr (9, [.int (F 0), .ref q1, .ref q2, .ref q3, .int (F 4), .int (F 5), .int (F 6), .int (F 7), .int (F 8), .int (F 9), .long (J 10), .int (F 11), .int (F 12), .int (F 13), .ref q4, .int (F 15), .ref q5, .ref q6, .ref q7, .int (F 19), .ref q8, .int (F 21), .int (F 22), .int (F 23), .int (F 24), .ref q9, .ref q10, .ref q11, .long (J 28)])), (q1, .inl (g.2 0, 376, .inl al))]) [0, 1] rfl
        have hD9 := hD.sub (ws' := [(qM, .inr (9, [.int (F 0), .ref q1, .ref q2, .ref q3, .int (F 4), .int (F 5), .int (F 6), .int (F 7), .int (F 8), .int (F 9), .long (J 10), .int (F 11), .int (F 12), .int (F 13), .ref q4, .int (F 15), .ref q5, .ref q6, .ref q7, .int (F 19), .ref q8, .int (F 21), .int (F 22), .int (F 23), .int (F 24), .ref q9, .ref q10, .ref q11, .long (J 28)])), (q1, .inl (g.2 0, 376, .inl al))]) [0, 1] (by decide) rfl
        exact W.iret (v := x2) hx hb hr (fun t ht hW => ⟨⟨_, (F), rfl, hv, by rw [ht]; exact hP9, hD9⟩, hS.F ht⟩) hS.2.2 dX9_code_92
      obtain ⟨hvc, hv⟩ := hv
      by_cases hs4 : p1 = (4 : Int32)
      · have hv := hvc hs4
        refine lv_tableIn (tgt := 93) hx hb dX9_code_35 (by rw [hs4]; decide) (by rw [hs4]; decide) (by rw [hs4]; rfl) (by decide) ?_
        refine lv_aload_n hx hb dX9_code_93 rfl (lv_at hl 0 rfl) ?_
        refine va_get (D := g.1) (ci := 9) (v := .ref q1) (C := RX9) (T := TX9) (N := 29) hx hb hts inX9_code_9 hown hK hP 0 rfl rfl 1 (by decide) (hts (.fieldLink RX9 7 "RangeCodesModel" "all" "[I") (List.mem_of_getElem? (i := 2) rfl)) (fun _ h9 => h9) rfl dX9_code_94 ?_
        refine lv_iconst (v := (2 : Int32)) hx hb dX9_code_97 (by decide) ?_
        refine va_iald hx hb hK hP 1 0 rfl rfl (by unfold vp_in; decide) dX9_code_98 ?_
        have hP9 := hP.sub (ws' := [(qM, .inr (9, [.int (F 0), .ref q1, .ref q2, .ref q3, .int (F 4), .int (F 5), .int (F 6), .int (F 7), .int (F 8), .int (F 9), .long (J 10), .int (F 11), .int (F 12), .int (F 13), .ref q4, .int (F 15), .ref q5, .ref q6, .ref q7, .int (F 19), .ref q8, .int (F 21), .int (F 22), .int (F 23), .int (F 24), .ref q9, .ref q10, .ref q11, .long (J 28)])), (q1, .inl (g.2 0, 376, .inl al))]) [0, 1] rfl
        have hD9 := hD.sub (ws' := [(qM, .inr (9, [.int (F 0), .ref q1, .ref q2, .ref q3, .int (F 4), .int (F 5), .int (F 6), .int (F 7), .int (F 8), .int (F 9), .long (J 10), .int (F 11), .int (F 12), .int (F 13), .ref q4, .int (F 15), .ref q5, .ref q6, .ref q7, .int (F 19), .ref q8, .int (F 21), .int (F 22), .int (F 23), .int (F 24), .ref q9, .ref q10, .ref q11, .long (J 28)])), (q1, .inl (g.2 0, 376, .inl al))]) [0, 1] (by decide) rfl
        exact W.iret (v := (al 2)) hx hb hr (fun t ht hW => ⟨⟨_, (F), rfl, hv, by rw [ht]; exact hP9, hD9⟩, hS.F ht⟩) hS.2.2 dX9_code_99
      have hv := hv hs0 hs1 hs2 hs3 hs4
      have hsT : p1.toInt < 0 ∨ 4 < p1.toInt := by
        have ht0 := lv_neT (a := 0) hs0 (by decide)
        have ht1 := lv_neT (a := 1) hs1 (by decide)
        have ht2 := lv_neT (a := 2) hs2 (by decide)
        have ht3 := lv_neT (a := 3) hs3 (by decide)
        have ht4 := lv_neT (a := 4) hs4 (by decide)
        omega
      refine lv_tableOut (tgt := 100) hx hb dX9_code_35 hsT (by decide) ?_
      refine lv_iconst (v := (-1 : Int32)) hx hb dX9_code_100 (by decide) ?_
      have hP9 := hP.sub (ws' := [(qM, .inr (9, [.int (F 0), .ref q1, .ref q2, .ref q3, .int (F 4), .int (F 5), .int (F 6), .int (F 7), .int (F 8), .int (F 9), .long (J 10), .int (F 11), .int (F 12), .int (F 13), .ref q4, .int (F 15), .ref q5, .ref q6, .ref q7, .int (F 19), .ref q8, .int (F 21), .int (F 22), .int (F 23), .int (F 24), .ref q9, .ref q10, .ref q11, .long (J 28)])), (q1, .inl (g.2 0, 376, .inl al))]) [0, 1] rfl
      have hD9 := hD.sub (ws' := [(qM, .inr (9, [.int (F 0), .ref q1, .ref q2, .ref q3, .int (F 4), .int (F 5), .int (F 6), .int (F 7), .int (F 8), .int (F 9), .long (J 10), .int (F 11), .int (F 12), .int (F 13), .ref q4, .int (F 15), .ref q5, .ref q6, .ref q7, .int (F 19), .ref q8, .int (F 21), .int (F 22), .int (F 23), .int (F 24), .ref q9, .ref q10, .ref q11, .long (J 28)])), (q1, .inl (g.2 0, 376, .inl al))]) [0, 1] (by decide) rfl
      exact W.iret (v := (-1 : Int32)) hx hb hr (fun t ht hW => ⟨⟨_, (F), rfl, hv, by rw [ht]; exact hP9, hD9⟩, hS.F ht⟩) hS.2.2 dX9_code_101
    · have hv := hvf hc
      refine lv_iload_n hx hb dX9_code_19 rfl (lv_at hl 2 rfl) ?_
      refine lv_aload_n hx hb dX9_code_20 rfl (lv_at hl 0 rfl) ?_
      refine lv_iload_n hx hb dX9_code_21 rfl (lv_at hl 3 rfl) ?_
      refine lv_iconst (v := (1 : Int32)) hx hb dX9_code_22 (by decide) ?_
      obtain ⟨p_23, w_23, ho_3, hv⟩ := hv
      refine vp_callSi (W.runV (As := [.int x3, .int (1 : Int32)]) (rest := [.int x2]) S (wX9_of l g qM q1 q2 q3 q4 q5 q6 q7 q8 q9 q10 q11 F J al x3 (1 : Int32) (sX9_of p_23 w_23 F J al x3 (1 : Int32) ho_3)) (cwV 2 hts gX9_code_X9_of rfl rfl rfl (by decide +kernel) ⟨Nat.le_of_ble_eq_true rfl, Nat.le_of_ble_eq_true rfl⟩) ⟨blindRO, va_recv hK hP (ci := 9) (q0 := 0) rfl rfl, fun U hU hW => ⟨rfl, by rw [hU]; exact hP.sub (ws' := [(qM, .inr (9, [.int (F 0), .ref q1, .ref q2, .ref q3, .int (F 4), .int (F 5), .int (F 6), .int (F 7), .int (F 8), .int (F 9), .long (J 10), .int (F 11), .int (F 12), .int (F 13), .ref q4, .int (F 15), .ref q5, .ref q6, .ref q7, .int (F 19), .ref q8, .int (F 21), .int (F 22), .int (F 23), .int (F 24), .ref q9, .ref q10, .ref q11, .long (J 28)])), (q1, .inl (g.2 0, 376, .inl al))]) [0, 1] rfl, hG.warm hW⟩⟩ rfl rfl hl.1 rfl (lv_room (Nat.le_of_ble_eq_true rfl)) dX9_code_23 ⟨Nat.le_of_ble_eq_true rfl, Nat.le_of_ble_eq_true rfl⟩) (fun r_23 hr_23 => ?_)
      have hv := hv r_23 hr_23
      refine lv_iadd hx hb dX9_code_26 ?_
      refine lv_istore_n (lv' := [(2, .int (x2 + r_23)), (0, .ref qM), (1, .int p1), (3, .int x3)]) hx hb dX9_code_27 rfl hl (by decide) rfl (fun ls hl => ?_)
      refine lv_iinc (v := (x3 + (1 : Int32))) (lv' := [(3, .int (x3 + (1 : Int32))), (2, .int (x2 + r_23)), (0, .ref qM), (1, .int p1)]) hx hb dX9_code_28 hl (k := 3) rfl rfl (by decide) rfl (fun ls hl => ?_)
      refine lv_goto (tgt := 9) hx hb dX9_code_31 (by decide) ?_
      exact ih _ _ _ hv _ _ (hP.sub (ws' := [(qM, .inr (9, [.int (F 0), .ref q1, .ref q2, .ref q3, .int (F 4), .int (F 5), .int (F 6), .int (F 7), .int (F 8), .int (F 9), .long (J 10), .int (F 11), .int (F 12), .int (F 13), .ref q4, .int (F 15), .ref q5, .ref q6, .ref q7, .int (F 19), .ref q8, .int (F 21), .int (F 22), .int (F 23), .int (F 24), .ref q9, .ref q10, .ref q11, .long (J 28)])), (q1, .inl (g.2 0, 376, .inl al))]) [0, 1] rfl) (hD.sub (ws' := [(qM, .inr (9, [.int (F 0), .ref q1, .ref q2, .ref q3, .int (F 4), .int (F 5), .int (F 6), .int (F 7), .int (F 8), .int (F 9), .long (J 10), .int (F 11), .int (F 12), .int (F 13), .ref q4, .int (F 15), .ref q5, .ref q6, .ref q7, .int (F 19), .ref q8, .int (F 21), .int (F 22), .int (F 23), .int (F 24), .ref q9, .ref q10, .ref q11, .long (J 28)])), (q1, .inl (g.2 0, 376, .inl al))]) [0, 1] (by decide) rfl) hS ls (lv_sub hl [2, 3, 1, 0] rfl)
def vX9_code (F : Nat → Int32) (J : Nat → Int64) (al : Nat → Int32) (p1 : Int32) (Q : Int32 → (Nat → Int32) → Prop) : Prop := (∃ nn, vX9_code_c9 J al p1 Q nn (0 : Int32) (0 : Int32) (upd F 0 (0 : Int32)))
set_option maxHeartbeats 4000000 in
set_option maxRecDepth 100000 in
theorem wX9_code (l : Launch) (g : GP) (qM : Nat) (q1 : Nat) (q2 : Nat) (q3 : Nat) (q4 : Nat) (q5 : Nat) (q6 : Nat) (q7 : Nat) (q8 : Nat) (q9 : Nat) (q10 : Nat) (q11 : Nat) (sz : Nat) (F : Nat → Int32) (J : Nat → Int64) (al : Nat → Int32) (p1 : Int32) {Q : Int32 → (Nat → Int32) → Prop} (hv : vX9_code F J al p1 Q) : Met l yX9_code wsX9_code rmX9_code (va_Pc [.ref qM, .int p1] (fun U => U.heap.size = sz ∧ va_P g.1 vwCl [(qM, .inr (9, [.int (F 0), .ref q1, .ref q2, .ref q3, .int (F 4), .int (F 5), .int (F 6), .int (F 7), .int (F 8), .int (F 9), .long (J 10), .int (F 11), .int (F 12), .int (F 13), .ref q4, .int (F 15), .ref q5, .ref q6, .ref q7, .int (F 19), .ref q8, .int (F 21), .int (F 22), .int (F 23), .int (F 24), .ref q9, .ref q10, .ref q11, .long (J 28)])), (q1, .inl (g.2 0, 376, .inl al))] U.heap ∧ GK g U ∧ va_D (fun _ => True) [(qM, .inr (9, [.int (F 0), .ref q1, .ref q2, .ref q3, .int (F 4), .int (F 5), .int (F 6), .int (F 7), .int (F 8), .int (F 9), .long (J 10), .int (F 11), .int (F 12), .int (F 13), .ref q4, .int (F 15), .ref q5, .ref q6, .ref q7, .int (F 19), .ref q8, .int (F 21), .int (F 22), .int (F 23), .int (F 24), .ref q9, .ref q10, .ref q11, .long (J 28)])), (q1, .inl (g.2 0, 376, .inl al))])) (va_Qi (fun (r : Int32) (u : (Nat → Int32)) => Q r u) (fun (u : (Nat → Int32)) t => va_P g.1 vwCl [(qM, .inr (9, [.int (u 0), .ref q1, .ref q2, .ref q3, .int (u 4), .int (u 5), .int (u 6), .int (u 7), .int (u 8), .int (u 9), .long (J 10), .int (u 11), .int (u 12), .int (u 13), .ref q4, .int (u 15), .ref q5, .ref q6, .ref q7, .int (u 19), .ref q8, .int (u 21), .int (u 22), .int (u 23), .int (u 24), .ref q9, .ref q10, .ref q11, .long (J 28)])), (q1, .inl (g.2 0, 376, .inl al))] t.heap ∧ va_D (va_A [(qM, .inr (9, [.int (F 0), .ref q1, .ref q2, .ref q3, .int (F 4), .int (F 5), .int (F 6), .int (F 7), .int (F 8), .int (F 9), .long (J 10), .int (F 11), .int (F 12), .int (F 13), .ref q4, .int (F 15), .ref q5, .ref q6, .ref q7, .int (F 19), .ref q8, .int (F 21), .int (F 22), .int (F 23), .int (F 24), .ref q9, .ref q10, .ref q11, .long (J 28)])), (q1, .inl (g.2 0, 376, .inl al))] sz) [(qM, .inr (9, [.int (u 0), .ref q1, .ref q2, .ref q3, .int (u 4), .int (u 5), .int (u 6), .int (u 7), .int (u 8), .int (u 9), .long (J 10), .int (u 11), .int (u 12), .int (u 13), .ref q4, .int (u 15), .ref q5, .ref q6, .ref q7, .int (u 19), .ref q8, .int (u 21), .int (u 22), .int (u 23), .int (u 24), .ref q9, .ref q10, .ref q11, .long (J 28)])), (q1, .inl (g.2 0, 376, .inl al))]) (va_A [(qM, .inr (9, [.int (F 0), .ref q1, .ref q2, .ref q3, .int (F 4), .int (F 5), .int (F 6), .int (F 7), .int (F 8), .int (F 9), .long (J 10), .int (F 11), .int (F 12), .int (F 13), .ref q4, .int (F 15), .ref q5, .ref q6, .ref q7, .int (F 19), .ref q8, .int (F 21), .int (F 22), .int (F 23), .int (F 24), .ref q9, .ref q10, .ref q11, .long (J 28)])), (q1, .inl (g.2 0, 376, .inl al))] sz)) 0 0 (va_A [(qM, .inr (9, [.int (F 0), .ref q1, .ref q2, .ref q3, .int (F 4), .int (F 5), .int (F 6), .int (F 7), .int (F 8), .int (F 9), .long (J 10), .int (F 11), .int (F 12), .int (F 13), .ref q4, .int (F 15), .ref q5, .ref q6, .ref q7, .int (F 19), .ref q8, .int (F 21), .int (F 22), .int (F 23), .int (F 24), .ref q9, .ref q10, .ref q11, .long (J 28)])), (q1, .inl (g.2 0, 376, .inl al))] sz) := by
  refine Met.ofW (cc := cX9_code) (maxL := 4) (ret := (some .int)) (by decide) rfl ?_
  intro p e s m args below meth c s₁ B hml hv'
  obtain ⟨rfl, hsz, hP, hG, hD0⟩ := hv'
  have S : CallFix p m c cX9_code 4 s _ wsX9_code RX9 := ⟨B.exec, B.bytes, hml, findClass_of_methodNamed B.named, atoms_spec (ws := wsX9_code) B.pre⟩
  obtain ⟨hx, hb, hml, hown, hts⟩ := id S
  have hK := hG.1
  have hr := B.returns
  have hlocks := B.notSynchronized
  subst hsz
  have hD := hD0.self (sz := s.heap.size)
  generalize hAe : va_A [(qM, .inr (9, [.int (F 0), .ref q1, .ref q2, .ref q3, .int (F 4), .int (F 5), .int (F 6), .int (F 7), .int (F 8), .int (F 9), .long (J 10), .int (F 11), .int (F 12), .int (F 13), .ref q4, .int (F 15), .ref q5, .ref q6, .ref q7, .int (F 19), .ref q8, .int (F 21), .int (F 22), .int (F 23), .int (F 24), .ref q9, .ref q10, .ref q11, .long (J 28)])), (q1, .inl (g.2 0, 376, .inl al))] s.heap.size = A at hD ⊢
  have hA : ∀ q : Nat, s.heap.size ≤ q → A q := fun q h => by rw [← hAe]; exact Or.inr h
  have hS : va_S A s.heap s.heap [] := va_S.rf
  clear hD0 hAe
  have hl := lv_entry ([.ref qM, .int p1]) (n := 4) (Nat.le_of_ble_eq_true rfl)
  rw [lg_entry_eq]
  generalize (lg_sl ([.ref qM, .int p1]) ++ List.replicate (4 - (lg_sl ([.ref qM, .int p1])).length) Slot.unset).toArray = ls at hl ⊢
  have hl : lv_has ls 4 [(0, .ref qM), (1, .int p1)] := hl
  unfold vX9_code at hv
  refine lv_aload_n hx hb dX9_code_0 rfl (lv_at hl 0 rfl) ?_
  refine lv_iconst (v := (0 : Int32)) hx hb dX9_code_1 (by decide) ?_
  refine va_put (D := g.1) (ci := 9) (v := .int (0 : Int32)) (ty := .int) (C := RX9) (T := TX9) (N := 29) hx hb hts inX9_code_9 tyX9 tyX9_ok nmX9 hown hK hP hD hS 0 rfl rfl 0 (by decide) (hts (.fieldLink RX9 51 "RangeCodesModel" "raised" "I") (List.mem_of_getElem? (i := 1) rfl)) (fun _ h9 => h9) rfl (by decide +kernel) rfl rfl (Nat.le_of_ble_eq_true rfl) dX9_code_2 (fun H locs hP hD hS => ?_)
  have hP : va_P g.1 vwCl [(qM, .inr (9, [.int (0 : Int32), .ref q1, .ref q2, .ref q3, .int (F 4), .int (F 5), .int (F 6), .int (F 7), .int (F 8), .int (F 9), .long (J 10), .int (F 11), .int (F 12), .int (F 13), .ref q4, .int (F 15), .ref q5, .ref q6, .ref q7, .int (F 19), .ref q8, .int (F 21), .int (F 22), .int (F 23), .int (F 24), .ref q9, .ref q10, .ref q11, .long (J 28)])), (q1, .inl (g.2 0, 376, .inl al))] H := hP
  have hD : va_D A [(qM, .inr (9, [.int (0 : Int32), .ref q1, .ref q2, .ref q3, .int (F 4), .int (F 5), .int (F 6), .int (F 7), .int (F 8), .int (F 9), .long (J 10), .int (F 11), .int (F 12), .int (F 13), .ref q4, .int (F 15), .ref q5, .ref q6, .ref q7, .int (F 19), .ref q8, .int (F 21), .int (F 22), .int (F 23), .int (F 24), .ref q9, .ref q10, .ref q11, .long (J 28)])), (q1, .inl (g.2 0, 376, .inl al))] := hD
  refine lv_iconst (v := (0 : Int32)) hx hb dX9_code_5 (by decide) ?_
  refine lv_istore_n (lv' := [(2, .int (0 : Int32)), (0, .ref qM), (1, .int p1)]) hx hb dX9_code_6 rfl hl (by decide) rfl (fun ls hl => ?_)
  refine lv_iconst (v := (0 : Int32)) hx hb dX9_code_7 (by decide) ?_
  refine lv_istore_n (lv' := [(3, .int (0 : Int32)), (2, .int (0 : Int32)), (0, .ref qM), (1, .int p1)]) hx hb dX9_code_8 rfl hl (by decide) rfl (fun ls hl => ?_)
  obtain ⟨nn, hv⟩ := hv
  exact kX9_code_c9 S hr hlocks hG hA nn _ _ _ hv _ _ (hP.sub (ws' := [(qM, .inr (9, [.int ((upd F 0 (0 : Int32)) 0), .ref q1, .ref q2, .ref q3, .int ((upd F 0 (0 : Int32)) 4), .int ((upd F 0 (0 : Int32)) 5), .int ((upd F 0 (0 : Int32)) 6), .int ((upd F 0 (0 : Int32)) 7), .int ((upd F 0 (0 : Int32)) 8), .int ((upd F 0 (0 : Int32)) 9), .long (J 10), .int ((upd F 0 (0 : Int32)) 11), .int ((upd F 0 (0 : Int32)) 12), .int ((upd F 0 (0 : Int32)) 13), .ref q4, .int ((upd F 0 (0 : Int32)) 15), .ref q5, .ref q6, .ref q7, .int ((upd F 0 (0 : Int32)) 19), .ref q8, .int ((upd F 0 (0 : Int32)) 21), .int ((upd F 0 (0 : Int32)) 22), .int ((upd F 0 (0 : Int32)) 23), .int ((upd F 0 (0 : Int32)) 24), .ref q9, .ref q10, .ref q11, .long (J 28)])), (q1, .inl (g.2 0, 376, .inl al))]) [0, 1] rfl) (hD.sub (ws' := [(qM, .inr (9, [.int ((upd F 0 (0 : Int32)) 0), .ref q1, .ref q2, .ref q3, .int ((upd F 0 (0 : Int32)) 4), .int ((upd F 0 (0 : Int32)) 5), .int ((upd F 0 (0 : Int32)) 6), .int ((upd F 0 (0 : Int32)) 7), .int ((upd F 0 (0 : Int32)) 8), .int ((upd F 0 (0 : Int32)) 9), .long (J 10), .int ((upd F 0 (0 : Int32)) 11), .int ((upd F 0 (0 : Int32)) 12), .int ((upd F 0 (0 : Int32)) 13), .ref q4, .int ((upd F 0 (0 : Int32)) 15), .ref q5, .ref q6, .ref q7, .int ((upd F 0 (0 : Int32)) 19), .ref q8, .int ((upd F 0 (0 : Int32)) 21), .int ((upd F 0 (0 : Int32)) 22), .int ((upd F 0 (0 : Int32)) 23), .int ((upd F 0 (0 : Int32)) 24), .ref q9, .ref q10, .ref q11, .long (J 28)])), (q1, .inl (g.2 0, 376, .inl al))]) [0, 1] (by decide) rfl) hS ls (lv_sub hl [2, 3, 1, 0] rfl)
theorem voS_e (T : Cd) {n k : Nat} (h : k < n) : voS T (2 ^ n - 1) (k + 1) = voS T (2 ^ n - 1) k + cV T k := by
  rw [voS, if_pos (by rw [Nat.testBit_two_pow_sub_one]; simp [h])]
theorem sX9_code_9 (T : Cd) (G0 : Lg) (G1 : Lg) (lim : Nat) (F : Nat → Int32) (J : Nat → Int64) (al : Nat → Int32) (p1 : Int32) (H : fcR T G0 G1 lim al) (h2 : 0 ≤ (al 2).toInt) (Q : Int32 → (Nat → Int32) → Prop) (hQ : ∀ r : Int32, r.toInt = spCode T lim (al 2).toInt.toNat p1.toInt → Q r F) : ∀ (n i : Nat) (x2 x3 : Int32), x2.toInt = (voS T (2 ^ cn T - 1) i : Int) → x3.toInt = (i : Int) → i ≤ cn T → cn T + 1 ≤ i + n → vX9_code_c9 J al p1 Q n x2 x3 F
  | 0, i, x2, x3, _, _, hi, hn => absurd hn (by omega)
  | n + 1, i, x2, x3, hx2, hx3, hi, hn => by
    obtain ⟨hT, hg0, hg1, hlim, hl9, hl1⟩ := id H
    have hn5 := hT.1.2
    rw [vX9_code_c9, q_le hT.1.1 hx3]
    refine ⟨fun hc => ?_, fun hc => ⟨i, 1, ⟨hx3, rfl, by omega⟩, fun r hr => ?_⟩⟩
    · have : i = cn T := by omega
      subst this
      unfold spCode at hQ
      simp only [fa_eq p1, z0, z1, z2, z3, z4]
      refine ⟨fun q => hQ _ ?_, fun q => ⟨T, hT.1, fun r hr => ⟨T, 2 ^ cn T - 1, ⟨hT.1, hT.2.1, hr⟩, fun r2 hr2 => hQ _ ?_⟩⟩, fun q => hQ _ ?_, fun q => hQ _ ?_, fun q => hQ _ ?_, fun a b c d e => hQ _ ?_⟩
      · rw [if_pos q]; exact hT.1.1
      · rw [if_neg (by omega), if_pos q]; exact hr2
      · rw [if_neg (by omega), if_neg (by omega), if_pos q]; exact hlim
      · rw [if_neg (by omega), if_neg (by omega), if_neg (by omega), if_pos q]; exact hx2
      · rw [if_neg (by omega), if_neg (by omega), if_neg (by omega), if_neg (by omega), if_pos q]; omega
      · rw [if_neg a, if_neg b, if_neg c, if_neg d, if_neg e]; rfl
    · have hv := mT_V hT (p := i) (by omega)
      have hr : r.toInt = (cV T i : Int) := by rw [hr]; exact hv.1
      have hle := voS_le (fun p hp => (hT.2.2.1 p hp).2) (2 ^ cn T - 1) i (by omega)
      refine sX9_code_9 T G0 G1 lim F J al p1 H h2 Q hQ n (i + 1) _ _ ?_ (q_1 hx3 (by omega)) (by omega) (by omega)
      rw [voS_e T (by omega)]; exact q_addN hx2 hr (by omega)
abbrev preX9_code (T : Cd) (G0 : Lg) (G1 : Lg) (lim : Nat) (F : Nat → Int32) (J : Nat → Int64) (al : Nat → Int32) (p1 : Int32) : Prop := fcR T G0 G1 lim al ∧ 0 ≤ (al 2).toInt
abbrev postX9_code (T : Cd) (G0 : Lg) (G1 : Lg) (lim : Nat) (F : Nat → Int32) (J : Nat → Int64) (al : Nat → Int32) (p1 : Int32) (r : Int32) (F' : Nat → Int32) : Prop := r.toInt = spCode T lim (al 2).toInt.toNat p1.toInt
theorem sX9_code (T : Cd) (G0 : Lg) (G1 : Lg) (lim : Nat) (F : Nat → Int32) (J : Nat → Int64) (al : Nat → Int32) (p1 : Int32) (H : preX9_code T G0 G1 lim F J al p1) : vX9_code F J al p1 (postX9_code T G0 G1 lim F J al p1) := ⟨cn T + 1, sX9_code_9 T G0 G1 lim (upd F 0 (0 : Int32)) J al p1 H.1 H.2 _ (fun r h => h) _ 0 0 0 rfl rfl (by omega) (by omega)⟩
set_option maxRecDepth 20000 in
theorem ggX9_enough_X9_everyPart : GoodIn wsX9_enough wsX9_everyPart := goodIn_r _ [7, 2, 31, 32, 33, 34, 35, 36, 37, 38, 39, 40, 41, 42, 43, 44, 45, 46, 47, 48, 49, 50, 51, 52, 53, 54, 55, 56, 57, 58, 59] (by decide +kernel) (by decide +kernel)
set_option maxRecDepth 20000 in
theorem gX9_enough_X9_everyPart : GoodIn wsX9_enough (wsV RX9 210 RX9 yX9_everyPart wsX9_everyPart) := goodIn_app (goodIn_of _ (by decide +kernel)) ggX9_enough_X9_everyPart
set_option maxRecDepth 20000 in
theorem ggX9_enough_X9_commonOf : GoodIn wsX9_enough wsX9_commonOf := goodIn_r _ [11, 2, 12, 13, 6, 14, 15, 16, 17, 18, 19, 20, 21, 22, 23, 24, 31, 32, 33, 34, 35, 36, 37, 38, 39, 40, 41, 42, 43, 44, 45, 46, 47, 48, 49, 50, 51, 52, 53, 54, 55, 56, 57, 58, 59] (by decide +kernel) (by decide +kernel)
set_option maxRecDepth 20000 in
theorem gX9_enough_X9_commonOf : GoodIn wsX9_enough (wsV RX9 213 RX9 yX9_commonOf wsX9_commonOf) := goodIn_app (goodIn_of _ (by decide +kernel)) ggX9_enough_X9_commonOf
set_option maxRecDepth 20000 in
theorem ggX9_enough_X9_ones : GoodIn wsX9_enough wsX9_ones := goodIn_r _ [27] (by decide +kernel) (by decide +kernel)
set_option maxRecDepth 20000 in
theorem gX9_enough_X9_ones : GoodIn wsX9_enough (va_wsS RX9 216 yX9_ones wsX9_ones) := goodIn_app (goodIn_of _ (by decide +kernel)) ggX9_enough_X9_ones
set_option maxRecDepth 20000 in
theorem ggX9_enough_X9_in : GoodIn wsX9_enough wsX9_in := goodIn_r _ [30] (by decide +kernel) (by decide +kernel)
set_option maxRecDepth 20000 in
theorem gX9_enough_X9_in : GoodIn wsX9_enough (va_wsS RX9 63 yX9_in wsX9_in) := goodIn_app (goodIn_of _ (by decide +kernel)) ggX9_enough_X9_in
theorem dX9_enough_0 : decode cX9_enough 0 = .ok (.aload_n 0, 1) := by decide +kernel
theorem dX9_enough_1 : decode cX9_enough 1 = .ok (.iconst 0, 1) := by decide +kernel
theorem dX9_enough_2 : decode cX9_enough 2 = .ok (.putfield 51, 3) := by decide +kernel
theorem dX9_enough_5 : decode cX9_enough 5 = .ok (.iconst (-1), 1) := by decide +kernel
theorem dX9_enough_6 : decode cX9_enough 6 = .ok (.istore_n 2, 1) := by decide +kernel
theorem dX9_enough_7 : decode cX9_enough 7 = .ok (.iconst 0, 1) := by decide +kernel
theorem dX9_enough_8 : decode cX9_enough 8 = .ok (.istore_n 3, 1) := by decide +kernel
theorem dX9_enough_9 : decode cX9_enough 9 = .ok (.iload_n 3, 1) := by decide +kernel
theorem dX9_enough_10 : decode cX9_enough 10 = .ok (.aload_n 0, 1) := by decide +kernel
theorem dX9_enough_11 : decode cX9_enough 11 = .ok (.invokevirtual 210, 3) := by decide +kernel
theorem dX9_enough_14 : decode cX9_enough 14 = .ok (.if_icmp .gt 41, 3) := by decide +kernel
theorem dX9_enough_17 : decode cX9_enough 17 = .ok (.aload_n 0, 1) := by decide +kernel
theorem dX9_enough_18 : decode cX9_enough 18 = .ok (.iload_n 3, 1) := by decide +kernel
theorem dX9_enough_19 : decode cX9_enough 19 = .ok (.invokevirtual 213, 3) := by decide +kernel
theorem dX9_enough_22 : decode cX9_enough 22 = .ok (.aload_n 0, 1) := by decide +kernel
theorem dX9_enough_23 : decode cX9_enough 23 = .ok (.getfield 7, 3) := by decide +kernel
theorem dX9_enough_26 : decode cX9_enough 26 = .ok (.iconst 1, 1) := by decide +kernel
theorem dX9_enough_27 : decode cX9_enough 27 = .ok (.iaload, 1) := by decide +kernel
theorem dX9_enough_28 : decode cX9_enough 28 = .ok (.if_icmp .lt 21, 3) := by decide +kernel
theorem dX9_enough_31 : decode cX9_enough 31 = .ok (.iload_n 2, 1) := by decide +kernel
theorem dX9_enough_32 : decode cX9_enough 32 = .ok (.iconst (-1), 1) := by decide +kernel
theorem dX9_enough_33 : decode cX9_enough 33 = .ok (.if_icmp .eq 14, 3) := by decide +kernel
theorem dX9_enough_36 : decode cX9_enough 36 = .ok (.iload_n 3, 1) := by decide +kernel
theorem dX9_enough_37 : decode cX9_enough 37 = .ok (.invokestatic 216, 3) := by decide +kernel
theorem dX9_enough_40 : decode cX9_enough 40 = .ok (.iload_n 2, 1) := by decide +kernel
theorem dX9_enough_41 : decode cX9_enough 41 = .ok (.invokestatic 216, 3) := by decide +kernel
theorem dX9_enough_44 : decode cX9_enough 44 = .ok (.if_icmp .ge 5, 3) := by decide +kernel
theorem dX9_enough_47 : decode cX9_enough 47 = .ok (.iload_n 3, 1) := by decide +kernel
theorem dX9_enough_48 : decode cX9_enough 48 = .ok (.istore_n 2, 1) := by decide +kernel
theorem dX9_enough_49 : decode cX9_enough 49 = .ok (.iinc 3 1, 3) := by decide +kernel
theorem dX9_enough_52 : decode cX9_enough 52 = .ok (.goto (-43), 3) := by decide +kernel
theorem dX9_enough_55 : decode cX9_enough 55 = .ok (.iload_n 2, 1) := by decide +kernel
theorem dX9_enough_56 : decode cX9_enough 56 = .ok (.iconst (-1), 1) := by decide +kernel
theorem dX9_enough_57 : decode cX9_enough 57 = .ok (.if_icmp .eq 12, 3) := by decide +kernel
theorem dX9_enough_60 : decode cX9_enough 60 = .ok (.iload_n 1, 1) := by decide +kernel
theorem dX9_enough_61 : decode cX9_enough 61 = .ok (.iconst 0, 1) := by decide +kernel
theorem dX9_enough_62 : decode cX9_enough 62 = .ok (.iconst 1, 1) := by decide +kernel
theorem dX9_enough_63 : decode cX9_enough 63 = .ok (.invokestatic 63, 3) := by decide +kernel
theorem dX9_enough_66 : decode cX9_enough 66 = .ok (.ifCond .ne 7, 3) := by decide +kernel
theorem dX9_enough_69 : decode cX9_enough 69 = .ok (.iconst (-1), 1) := by decide +kernel
theorem dX9_enough_70 : decode cX9_enough 70 = .ok (.goto 22, 3) := by decide +kernel
theorem dX9_enough_73 : decode cX9_enough 73 = .ok (.iload_n 1, 1) := by decide +kernel
theorem dX9_enough_74 : decode cX9_enough 74 = .ok (.ifCond .ne 7, 3) := by decide +kernel
theorem dX9_enough_77 : decode cX9_enough 77 = .ok (.iload_n 2, 1) := by decide +kernel
theorem dX9_enough_78 : decode cX9_enough 78 = .ok (.goto 14, 3) := by decide +kernel
theorem dX9_enough_81 : decode cX9_enough 81 = .ok (.aload_n 0, 1) := by decide +kernel
theorem dX9_enough_82 : decode cX9_enough 82 = .ok (.getfield 7, 3) := by decide +kernel
theorem dX9_enough_85 : decode cX9_enough 85 = .ok (.iconst 0, 1) := by decide +kernel
theorem dX9_enough_86 : decode cX9_enough 86 = .ok (.iaload, 1) := by decide +kernel
theorem dX9_enough_87 : decode cX9_enough 87 = .ok (.iload_n 2, 1) := by decide +kernel
theorem dX9_enough_88 : decode cX9_enough 88 = .ok (.invokestatic 216, 3) := by decide +kernel
theorem dX9_enough_91 : decode cX9_enough 91 = .ok (.isub, 1) := by decide +kernel
theorem dX9_enough_92 : decode cX9_enough 92 = .ok (.ireturn, 1) := by decide +kernel
abbrev rmX9_enough : Room := { frames := 3, cells := 0, slots := 0, locals := 73 }
theorem inX9_enough_9 : ∀ w ∈ wsX90, w ∈ wsX9_enough := by decide +kernel
def vX9_enough_c9 (J : Nat → Int64) (al : Nat → Int32) (p1 : Int32) (Q : Int32 → (Nat → Int32) → Prop) : Nat → Int32 → Int32 → (Nat → Int32) → Prop
  | 0, _, _, _ => False
  | n + 1, x2, x3, F => (∃ (T_11 : Cd), preX9_everyPart T_11 F J al ∧ (∀ r_11 : Int32, postX9_everyPart T_11 F J al r_11 → ((r_11 < x3 → ((x2 = (-1 : Int32) → (Q (-1 : Int32) F)) ∧ (¬ x2 = (-1 : Int32) → (preX9_in p1 (0 : Int32) (1 : Int32) ∧ (∀ r_63 : Int32, postX9_in p1 (0 : Int32) (1 : Int32) r_63 → ((¬ r_63 = 0 → ((¬ p1 = 0 → (∃ (s_88 : Nat), preX9_ones s_88 x2 ∧ (∀ r_88 : Int32, postX9_ones s_88 x2 r_88 → (Q ((al 0) - r_88) F)))) ∧ (p1 = 0 → (Q x2 F)))) ∧ (r_63 = 0 → (Q (-1 : Int32) F)))))))) ∧ (¬ r_11 < x3 → (∃ (T_19 : Cd) (s_19 : Nat), preX9_commonOf T_19 s_19 F J al x3 ∧ (∀ r_19 : Int32, postX9_commonOf T_19 s_19 F J al x3 r_19 → ((r_19 < (al 1) → (vX9_enough_c9 J al p1 Q n x2 (x3 + (1 : Int32)) F)) ∧ (¬ r_19 < (al 1) → ((x2 = (-1 : Int32) → (vX9_enough_c9 J al p1 Q n x3 (x3 + (1 : Int32)) F)) ∧ (¬ x2 = (-1 : Int32) → (∃ (s_37 : Nat), preX9_ones s_37 x3 ∧ (∀ r_37 : Int32, postX9_ones s_37 x3 r_37 → (∃ (s_41 : Nat), preX9_ones s_41 x2 ∧ (∀ r_41 : Int32, postX9_ones s_41 x2 r_41 → ((r_41 ≤ r_37 → (vX9_enough_c9 J al p1 Q n x2 (x3 + (1 : Int32)) F)) ∧ (¬ r_41 ≤ r_37 → (vX9_enough_c9 J al p1 Q n x3 (x3 + (1 : Int32)) F)))))))))))))))))
set_option maxHeartbeats 4000000 in
set_option maxRecDepth 100000 in
theorem kX9_enough_c9 {p : Program} {l : Launch} {e : Env} {s : State} {m : MethodId} {args : Array Value} {below : List Frame} {meth : Method} {c : Code} {g : GP} {qM : Nat} {q1 : Nat} {q2 : Nat} {q3 : Nat} {q4 : Nat} {q5 : Nat} {q6 : Nat} {q7 : Nat} {q8 : Nat} {q9 : Nat} {q10 : Nat} {q11 : Nat} {J : Nat → Int64} {al : Nat → Int32} {p1 : Int32} {Q : Int32 → (Nat → Int32) → Prop} {A : Nat → Prop} (S : CallFix p m c cX9_enough 4 s args wsX9_enough RX9) (hr : meth.sig.returnType = (some .int)) (hlocks : meth.locks = false) (hG : GK g s) (hA : ∀ q : Nat, s.heap.size ≤ q → A q) : ∀ (n : Nat), ∀ (x2 : Int32) (x3 : Int32) (F : Nat → Int32), vX9_enough_c9 J al p1 Q n x2 x3 F → ∀ (H : Heap) (locs : List Loc), va_P g.1 vwCl [(qM, .inr (9, [.int (F 0), .ref q1, .ref q2, .ref q3, .int (F 4), .int (F 5), .int (F 6), .int (F 7), .int (F 8), .int (F 9), .long (J 10), .int (F 11), .int (F 12), .int (F 13), .ref q4, .int (F 15), .ref q5, .ref q6, .ref q7, .int (F 19), .ref q8, .int (F 21), .int (F 22), .int (F 23), .int (F 24), .ref q9, .ref q10, .ref q11, .long (J 28)])), (q1, .inl (g.2 0, 376, .inl al))] H → va_D A [(qM, .inr (9, [.int (F 0), .ref q1, .ref q2, .ref q3, .int (F 4), .int (F 5), .int (F 6), .int (F 7), .int (F 8), .int (F 9), .long (J 10), .int (F 11), .int (F 12), .int (F 13), .ref q4, .int (F 15), .ref q5, .ref q6, .ref q7, .int (F 19), .ref q8, .int (F 21), .int (F 22), .int (F 23), .int (F 24), .ref q9, .ref q10, .ref q11, .long (J 28)])), (q1, .inl (g.2 0, 376, .inl al))] → va_S A s.heap H locs → ∀ (ls : Array Slot), lv_has ls 4 [(0, .ref qM), (1, .int p1), (2, .int x2), (3, .int x3)] → W p l e (headSpec wsX9_enough rmX9_enough).room s m args below meth c H locs 0 0 (MQ below (va_Qi (fun (r : Int32) (u : (Nat → Int32)) => Q r u) (fun (u : (Nat → Int32)) t => va_P g.1 vwCl [(qM, .inr (9, [.int (u 0), .ref q1, .ref q2, .ref q3, .int (u 4), .int (u 5), .int (u 6), .int (u 7), .int (u 8), .int (u 9), .long (J 10), .int (u 11), .int (u 12), .int (u 13), .ref q4, .int (u 15), .ref q5, .ref q6, .ref q7, .int (u 19), .ref q8, .int (u 21), .int (u 22), .int (u 23), .int (u 24), .ref q9, .ref q10, .ref q11, .long (J 28)])), (q1, .inl (g.2 0, 376, .inl al))] t.heap ∧ va_D A [(qM, .inr (9, [.int (u 0), .ref q1, .ref q2, .ref q3, .int (u 4), .int (u 5), .int (u 6), .int (u 7), .int (u 8), .int (u 9), .long (J 10), .int (u 11), .int (u 12), .int (u 13), .ref q4, .int (u 15), .ref q5, .ref q6, .ref q7, .int (u 19), .ref q8, .int (u 21), .int (u 22), .int (u 23), .int (u 24), .ref q9, .ref q10, .ref q11, .long (J 28)])), (q1, .inl (g.2 0, 376, .inl al))]) A) args s 0 0 A) (F0 m 9 ls []) := by
  obtain ⟨hx, hb, hml, hown, hts⟩ := id S
  have hK := hG.1
  intro n
  induction n with
  | zero => intro x2 x3 F hv; exact hv.elim
  | succ n ih =>
    intro x2 x3 F hv H locs hP hD hS ls hl
    refine lv_iload_n hx hb dX9_enough_9 rfl (lv_at hl 3 rfl) ?_
    refine lv_aload_n hx hb dX9_enough_10 rfl (lv_at hl 0 rfl) ?_
    obtain ⟨T_11, ho_1, hv⟩ := hv
    refine vp_callSi (W.runV (As := []) (rest := [.int x3]) S (wX9_everyPart l g qM q1 q2 q3 q4 q5 q6 q7 q8 q9 q10 q11 F J al (sX9_everyPart T_11 F J al ho_1)) (cwV 0 hts gX9_enough_X9_everyPart rfl rfl rfl (by decide +kernel) ⟨Nat.le_of_ble_eq_true rfl, Nat.le_of_ble_eq_true rfl⟩) ⟨blindRO, va_recv hK hP (ci := 9) (q0 := 0) rfl rfl, fun U hU hW => ⟨rfl, by rw [hU]; exact hP.sub (ws' := [(qM, .inr (9, [.int (F 0), .ref q1, .ref q2, .ref q3, .int (F 4), .int (F 5), .int (F 6), .int (F 7), .int (F 8), .int (F 9), .long (J 10), .int (F 11), .int (F 12), .int (F 13), .ref q4, .int (F 15), .ref q5, .ref q6, .ref q7, .int (F 19), .ref q8, .int (F 21), .int (F 22), .int (F 23), .int (F 24), .ref q9, .ref q10, .ref q11, .long (J 28)])), (q1, .inl (g.2 0, 376, .inl al))]) [0, 1] rfl, hG.warm hW⟩⟩ rfl rfl hl.1 rfl (lv_room (Nat.le_of_ble_eq_true rfl)) dX9_enough_11 ⟨Nat.le_of_ble_eq_true rfl, Nat.le_of_ble_eq_true rfl⟩) (fun r_11 hr_11 => ?_)
    have hv := hv r_11 hr_11
    obtain ⟨hvt, hvf⟩ := hv
    refine lv_icmp_gt (tgt := 55) hx hb dX9_enough_14 (by decide) (fun hc => ?_) (fun hc => ?_)
    · have hv := hvt hc
      refine lv_iload_n hx hb dX9_enough_55 rfl (lv_at hl 2 rfl) ?_
      refine lv_iconst (v := (-1 : Int32)) hx hb dX9_enough_56 (by decide) ?_
      obtain ⟨hvt, hvf⟩ := hv
      refine lv_icmp_eq (tgt := 69) hx hb dX9_enough_57 (by decide) (fun hc => ?_) (fun hc => ?_)
      · have hv := hvt hc
        refine lv_iconst (v := (-1 : Int32)) hx hb dX9_enough_69 (by decide) ?_
        refine lv_goto (tgt := 92) hx hb dX9_enough_70 (by decide) ?_
        have hP9 := hP.sub (ws' := [(qM, .inr (9, [.int (F 0), .ref q1, .ref q2, .ref q3, .int (F 4), .int (F 5), .int (F 6), .int (F 7), .int (F 8), .int (F 9), .long (J 10), .int (F 11), .int (F 12), .int (F 13), .ref q4, .int (F 15), .ref q5, .ref q6, .ref q7, .int (F 19), .ref q8, .int (F 21), .int (F 22), .int (F 23), .int (F 24), .ref q9, .ref q10, .ref q11, .long (J 28)])), (q1, .inl (g.2 0, 376, .inl al))]) [0, 1] rfl
        have hD9 := hD.sub (ws' := [(qM, .inr (9, [.int (F 0), .ref q1, .ref q2, .ref q3, .int (F 4), .int (F 5), .int (F 6), .int (F 7), .int (F 8), .int (F 9), .long (J 10), .int (F 11), .int (F 12), .int (F 13), .ref q4, .int (F 15), .ref q5, .ref q6, .ref q7, .int (F 19), .ref q8, .int (F 21), .int (F 22), .int (F 23), .int (F 24), .ref q9, .ref q10, .ref q11, .long (J 28)])), (q1, .inl (g.2 0, 376, .inl al))]) [0, 1] (by decide) rfl
        exact W.iret (v := (-1 : Int32)) hx hb hr (fun t ht hW => ⟨⟨_, (F), rfl, hv, by rw [ht]; exact hP9, hD9⟩, hS.F ht⟩) hS.2.2 dX9_enough_92
      · have hv := hvf hc
        refine lv_iload_n hx hb dX9_enough_60 rfl (lv_at hl 1 rfl) ?_
        refine lv_iconst (v := (0 : Int32)) hx hb dX9_enough_61 (by decide) ?_
        refine lv_iconst (v := (1 : Int32)) hx hb dX9_enough_62 (by decide) ?_
        obtain ⟨ho_2, hv⟩ := hv
        refine vp_callSi (W.runS (As := [.int p1, .int (0 : Int32), .int (1 : Int32)]) (rest := []) S (wX9_in l g p1 (0 : Int32) (1 : Int32) (sX9_in p1 (0 : Int32) (1 : Int32) ho_2)) (va_cwS 3 hts gX9_enough_X9_in rfl rfl rfl (by decide +kernel) ⟨Nat.le_of_ble_eq_true rfl, Nat.le_of_ble_eq_true rfl⟩) ⟨blindRO, fun U hU hW => ⟨rfl, by rw [hU]; exact hP.sub (ws' := []) [] rfl, hG.warm hW⟩⟩ rfl rfl hl.1 rfl (lv_room (Nat.le_of_ble_eq_true rfl)) dX9_enough_63 ⟨Nat.le_of_ble_eq_true rfl, Nat.le_of_ble_eq_true rfl⟩) (fun r_63 hr_63 => ?_)
        have hv := hv r_63 hr_63
        obtain ⟨hvt, hvf⟩ := hv
        refine lv_if_ne (tgt := 73) hx hb dX9_enough_66 (by decide) (fun hc => ?_) (fun hc => ?_)
        · have hv := hvt hc
          refine lv_iload_n hx hb dX9_enough_73 rfl (lv_at hl 1 rfl) ?_
          obtain ⟨hvt, hvf⟩ := hv
          refine lv_if_ne (tgt := 81) hx hb dX9_enough_74 (by decide) (fun hc => ?_) (fun hc => ?_)
          · have hv := hvt hc
            refine lv_aload_n hx hb dX9_enough_81 rfl (lv_at hl 0 rfl) ?_
            refine va_get (D := g.1) (ci := 9) (v := .ref q1) (C := RX9) (T := TX9) (N := 29) hx hb hts inX9_enough_9 hown hK hP 0 rfl rfl 1 (by decide) (hts (.fieldLink RX9 7 "RangeCodesModel" "all" "[I") (List.mem_of_getElem? (i := 2) rfl)) (fun _ h9 => h9) rfl dX9_enough_82 ?_
            refine lv_iconst (v := (0 : Int32)) hx hb dX9_enough_85 (by decide) ?_
            refine va_iald hx hb hK hP 1 0 rfl rfl (by unfold vp_in; decide) dX9_enough_86 ?_
            refine lv_iload_n hx hb dX9_enough_87 rfl (lv_at hl 2 rfl) ?_
            obtain ⟨s_88, ho_3, hv⟩ := hv
            refine vp_callSi (W.runS (As := [.int x2]) (rest := [.int (al 0)]) S (wX9_ones l g x2 (sX9_ones s_88 x2 ho_3)) (va_cwS 1 hts gX9_enough_X9_ones rfl rfl rfl (by decide +kernel) ⟨Nat.le_of_ble_eq_true rfl, Nat.le_of_ble_eq_true rfl⟩) ⟨blindRO, fun U hU hW => ⟨rfl, by rw [hU]; exact hP.sub (ws' := []) [] rfl, hG.warm hW⟩⟩ rfl rfl hl.1 rfl (lv_room (Nat.le_of_ble_eq_true rfl)) dX9_enough_88 ⟨Nat.le_of_ble_eq_true rfl, Nat.le_of_ble_eq_true rfl⟩) (fun r_88 hr_88 => ?_)
            have hv := hv r_88 hr_88
            refine lv_isub hx hb dX9_enough_91 ?_
            have hP9 := hP.sub (ws' := [(qM, .inr (9, [.int (F 0), .ref q1, .ref q2, .ref q3, .int (F 4), .int (F 5), .int (F 6), .int (F 7), .int (F 8), .int (F 9), .long (J 10), .int (F 11), .int (F 12), .int (F 13), .ref q4, .int (F 15), .ref q5, .ref q6, .ref q7, .int (F 19), .ref q8, .int (F 21), .int (F 22), .int (F 23), .int (F 24), .ref q9, .ref q10, .ref q11, .long (J 28)])), (q1, .inl (g.2 0, 376, .inl al))]) [0, 1] rfl
            have hD9 := hD.sub (ws' := [(qM, .inr (9, [.int (F 0), .ref q1, .ref q2, .ref q3, .int (F 4), .int (F 5), .int (F 6), .int (F 7), .int (F 8), .int (F 9), .long (J 10), .int (F 11), .int (F 12), .int (F 13), .ref q4, .int (F 15), .ref q5, .ref q6, .ref q7, .int (F 19), .ref q8, .int (F 21), .int (F 22), .int (F 23), .int (F 24), .ref q9, .ref q10, .ref q11, .long (J 28)])), (q1, .inl (g.2 0, 376, .inl al))]) [0, 1] (by decide) rfl
            exact W.iret (v := ((al 0) - r_88)) hx hb hr (fun t ht hW => ⟨⟨_, (F), rfl, hv, by rw [ht]; exact hP9, hD9⟩, hS.F ht⟩) hS.2.2 dX9_enough_92
          · have hv := hvf hc
            refine lv_iload_n hx hb dX9_enough_77 rfl (lv_at hl 2 rfl) ?_
            refine lv_goto (tgt := 92) hx hb dX9_enough_78 (by decide) ?_
            have hP9 := hP.sub (ws' := [(qM, .inr (9, [.int (F 0), .ref q1, .ref q2, .ref q3, .int (F 4), .int (F 5), .int (F 6), .int (F 7), .int (F 8), .int (F 9), .long (J 10), .int (F 11), .int (F 12), .int (F 13), .ref q4, .int (F 15), .ref q5, .ref q6, .ref q7, .int (F 19), .ref q8, .int (F 21), .int (F 22), .int (F 23), .int (F 24), .ref q9, .ref q10, .ref q11, .long (J 28)])), (q1, .inl (g.2 0, 376, .inl al))]) [0, 1] rfl
            have hD9 := hD.sub (ws' := [(qM, .inr (9, [.int (F 0), .ref q1, .ref q2, .ref q3, .int (F 4), .int (F 5), .int (F 6), .int (F 7), .int (F 8), .int (F 9), .long (J 10), .int (F 11), .int (F 12), .int (F 13), .ref q4, .int (F 15), .ref q5, .ref q6, .ref q7, .int (F 19), .ref q8, .int (F 21), .int (F 22), .int (F 23), .int (F 24), .ref q9, .ref q10, .ref q11, .long (J 28)])), (q1, .inl (g.2 0, 376, .inl al))]) [0, 1] (by decide) rfl
            exact W.iret (v := x2) hx hb hr (fun t ht hW => ⟨⟨_, (F), rfl, hv, by rw [ht]; exact hP9, hD9⟩, hS.F ht⟩) hS.2.2 dX9_enough_92
        · have hv := hvf hc
          refine lv_iconst (v := (-1 : Int32)) hx hb dX9_enough_69 (by decide) ?_
          refine lv_goto (tgt := 92) hx hb dX9_enough_70 (by decide) ?_
          have hP9 := hP.sub (ws' := [(qM, .inr (9, [.int (F 0), .ref q1, .ref q2, .ref q3, .int (F 4), .int (F 5), .int (F 6), .int (F 7), .int (F 8), .int (F 9), .long (J 10), .int (F 11), .int (F 12), .int (F 13), .ref q4, .int (F 15), .ref q5, .ref q6, .ref q7, .int (F 19), .ref q8, .int (F 21), .int (F 22), .int (F 23), .int (F 24), .ref q9, .ref q10, .ref q11, .long (J 28)])), (q1, .inl (g.2 0, 376, .inl al))]) [0, 1] rfl
          have hD9 := hD.sub (ws' := [(qM, .inr (9, [.int (F 0), .ref q1, .ref q2, .ref q3, .int (F 4), .int (F 5), .int (F 6), .int (F 7), .int (F 8), .int (F 9), .long (J 10), .int (F 11), .int (F 12), .int (F 13), .ref q4, .int (F 15), .ref q5, .ref q6, .ref q7, .int (F 19), .ref q8, .int (F 21), .int (F 22), .int (F 23), .int (F 24), .ref q9, .ref q10, .ref q11, .long (J 28)])), (q1, .inl (g.2 0, 376, .inl al))]) [0, 1] (by decide) rfl
          exact W.iret (v := (-1 : Int32)) hx hb hr (fun t ht hW => ⟨⟨_, (F), rfl, hv, by rw [ht]; exact hP9, hD9⟩, hS.F ht⟩) hS.2.2 dX9_enough_92
    · have hv := hvf hc
      refine lv_aload_n hx hb dX9_enough_17 rfl (lv_at hl 0 rfl) ?_
      refine lv_iload_n hx hb dX9_enough_18 rfl (lv_at hl 3 rfl) ?_
      obtain ⟨T_19, s_19, ho_4, hv⟩ := hv
      refine vp_callSi (W.runV (As := [.int x3]) (rest := []) S (wX9_commonOf l g qM q1 q2 q3 q4 q5 q6 q7 q8 q9 q10 q11 F J al x3 (sX9_commonOf T_19 s_19 F J al x3 ho_4)) (cwV 1 hts gX9_enough_X9_commonOf rfl rfl rfl (by decide +kernel) ⟨Nat.le_of_ble_eq_true rfl, Nat.le_of_ble_eq_true rfl⟩) ⟨blindRO, va_recv hK hP (ci := 9) (q0 := 0) rfl rfl, fun U hU hW => ⟨rfl, by rw [hU]; exact hP.sub (ws' := [(qM, .inr (9, [.int (F 0), .ref q1, .ref q2, .ref q3, .int (F 4), .int (F 5), .int (F 6), .int (F 7), .int (F 8), .int (F 9), .long (J 10), .int (F 11), .int (F 12), .int (F 13), .ref q4, .int (F 15), .ref q5, .ref q6, .ref q7, .int (F 19), .ref q8, .int (F 21), .int (F 22), .int (F 23), .int (F 24), .ref q9, .ref q10, .ref q11, .long (J 28)])), (q1, .inl (g.2 0, 376, .inl al))]) [0, 1] rfl, hG.warm hW⟩⟩ rfl rfl hl.1 rfl (lv_room (Nat.le_of_ble_eq_true rfl)) dX9_enough_19 ⟨Nat.le_of_ble_eq_true rfl, Nat.le_of_ble_eq_true rfl⟩) (fun r_19 hr_19 => ?_)
      have hv := hv r_19 hr_19
      refine lv_aload_n hx hb dX9_enough_22 rfl (lv_at hl 0 rfl) ?_
      refine va_get (D := g.1) (ci := 9) (v := .ref q1) (C := RX9) (T := TX9) (N := 29) hx hb hts inX9_enough_9 hown hK hP 0 rfl rfl 1 (by decide) (hts (.fieldLink RX9 7 "RangeCodesModel" "all" "[I") (List.mem_of_getElem? (i := 2) rfl)) (fun _ h9 => h9) rfl dX9_enough_23 ?_
      refine lv_iconst (v := (1 : Int32)) hx hb dX9_enough_26 (by decide) ?_
      refine va_iald hx hb hK hP 1 0 rfl rfl (by unfold vp_in; decide) dX9_enough_27 ?_
      obtain ⟨hvt, hvf⟩ := hv
      refine lv_icmp_lt (tgt := 49) hx hb dX9_enough_28 (by decide) (fun hc => ?_) (fun hc => ?_)
      · have hv := hvt hc
        refine lv_iinc (v := (x3 + (1 : Int32))) (lv' := [(3, .int (x3 + (1 : Int32))), (0, .ref qM), (1, .int p1), (2, .int x2)]) hx hb dX9_enough_49 hl (k := 3) rfl rfl (by decide) rfl (fun ls hl => ?_)
        refine lv_goto (tgt := 9) hx hb dX9_enough_52 (by decide) ?_
        exact ih _ _ _ hv _ _ (hP.sub (ws' := [(qM, .inr (9, [.int (F 0), .ref q1, .ref q2, .ref q3, .int (F 4), .int (F 5), .int (F 6), .int (F 7), .int (F 8), .int (F 9), .long (J 10), .int (F 11), .int (F 12), .int (F 13), .ref q4, .int (F 15), .ref q5, .ref q6, .ref q7, .int (F 19), .ref q8, .int (F 21), .int (F 22), .int (F 23), .int (F 24), .ref q9, .ref q10, .ref q11, .long (J 28)])), (q1, .inl (g.2 0, 376, .inl al))]) [0, 1] rfl) (hD.sub (ws' := [(qM, .inr (9, [.int (F 0), .ref q1, .ref q2, .ref q3, .int (F 4), .int (F 5), .int (F 6), .int (F 7), .int (F 8), .int (F 9), .long (J 10), .int (F 11), .int (F 12), .int (F 13), .ref q4, .int (F 15), .ref q5, .ref q6, .ref q7, .int (F 19), .ref q8, .int (F 21), .int (F 22), .int (F 23), .int (F 24), .ref q9, .ref q10, .ref q11, .long (J 28)])), (q1, .inl (g.2 0, 376, .inl al))]) [0, 1] (by decide) rfl) hS ls (lv_sub hl [1, 2, 3, 0] rfl)
      · have hv := hvf hc
        refine lv_iload_n hx hb dX9_enough_31 rfl (lv_at hl 2 rfl) ?_
        refine lv_iconst (v := (-1 : Int32)) hx hb dX9_enough_32 (by decide) ?_
        obtain ⟨hvt, hvf⟩ := hv
        refine lv_icmp_eq (tgt := 47) hx hb dX9_enough_33 (by decide) (fun hc => ?_) (fun hc => ?_)
        · have hv := hvt hc
          refine lv_iload_n hx hb dX9_enough_47 rfl (lv_at hl 3 rfl) ?_
          refine lv_istore_n (lv' := [(2, .int x3), (0, .ref qM), (1, .int p1), (3, .int x3)]) hx hb dX9_enough_48 rfl hl (by decide) rfl (fun ls hl => ?_)
          refine lv_iinc (v := (x3 + (1 : Int32))) (lv' := [(3, .int (x3 + (1 : Int32))), (2, .int x3), (0, .ref qM), (1, .int p1)]) hx hb dX9_enough_49 hl (k := 3) rfl rfl (by decide) rfl (fun ls hl => ?_)
          refine lv_goto (tgt := 9) hx hb dX9_enough_52 (by decide) ?_
          exact ih _ _ _ hv _ _ (hP.sub (ws' := [(qM, .inr (9, [.int (F 0), .ref q1, .ref q2, .ref q3, .int (F 4), .int (F 5), .int (F 6), .int (F 7), .int (F 8), .int (F 9), .long (J 10), .int (F 11), .int (F 12), .int (F 13), .ref q4, .int (F 15), .ref q5, .ref q6, .ref q7, .int (F 19), .ref q8, .int (F 21), .int (F 22), .int (F 23), .int (F 24), .ref q9, .ref q10, .ref q11, .long (J 28)])), (q1, .inl (g.2 0, 376, .inl al))]) [0, 1] rfl) (hD.sub (ws' := [(qM, .inr (9, [.int (F 0), .ref q1, .ref q2, .ref q3, .int (F 4), .int (F 5), .int (F 6), .int (F 7), .int (F 8), .int (F 9), .long (J 10), .int (F 11), .int (F 12), .int (F 13), .ref q4, .int (F 15), .ref q5, .ref q6, .ref q7, .int (F 19), .ref q8, .int (F 21), .int (F 22), .int (F 23), .int (F 24), .ref q9, .ref q10, .ref q11, .long (J 28)])), (q1, .inl (g.2 0, 376, .inl al))]) [0, 1] (by decide) rfl) hS ls (lv_sub hl [2, 3, 1, 0] rfl)
        · have hv := hvf hc
          refine lv_iload_n hx hb dX9_enough_36 rfl (lv_at hl 3 rfl) ?_
          obtain ⟨s_37, ho_5, hv⟩ := hv
          refine vp_callSi (W.runS (As := [.int x3]) (rest := []) S (wX9_ones l g x3 (sX9_ones s_37 x3 ho_5)) (va_cwS 1 hts gX9_enough_X9_ones rfl rfl rfl (by decide +kernel) ⟨Nat.le_of_ble_eq_true rfl, Nat.le_of_ble_eq_true rfl⟩) ⟨blindRO, fun U hU hW => ⟨rfl, by rw [hU]; exact hP.sub (ws' := []) [] rfl, hG.warm hW⟩⟩ rfl rfl hl.1 rfl (lv_room (Nat.le_of_ble_eq_true rfl)) dX9_enough_37 ⟨Nat.le_of_ble_eq_true rfl, Nat.le_of_ble_eq_true rfl⟩) (fun r_37 hr_37 => ?_)
          have hv := hv r_37 hr_37
          refine lv_iload_n hx hb dX9_enough_40 rfl (lv_at hl 2 rfl) ?_
          obtain ⟨s_41, ho_6, hv⟩ := hv
          refine vp_callSi (W.runS (As := [.int x2]) (rest := [.int r_37]) S (wX9_ones l g x2 (sX9_ones s_41 x2 ho_6)) (va_cwS 1 hts gX9_enough_X9_ones rfl rfl rfl (by decide +kernel) ⟨Nat.le_of_ble_eq_true rfl, Nat.le_of_ble_eq_true rfl⟩) ⟨blindRO, fun U hU hW => ⟨rfl, by rw [hU]; exact hP.sub (ws' := []) [] rfl, hG.warm hW⟩⟩ rfl rfl hl.1 rfl (lv_room (Nat.le_of_ble_eq_true rfl)) dX9_enough_41 ⟨Nat.le_of_ble_eq_true rfl, Nat.le_of_ble_eq_true rfl⟩) (fun r_41 hr_41 => ?_)
          have hv := hv r_41 hr_41
          obtain ⟨hvt, hvf⟩ := hv
          refine lv_icmp_ge (tgt := 49) hx hb dX9_enough_44 (by decide) (fun hc => ?_) (fun hc => ?_)
          · have hv := hvt hc
            refine lv_iinc (v := (x3 + (1 : Int32))) (lv' := [(3, .int (x3 + (1 : Int32))), (0, .ref qM), (1, .int p1), (2, .int x2)]) hx hb dX9_enough_49 hl (k := 3) rfl rfl (by decide) rfl (fun ls hl => ?_)
            refine lv_goto (tgt := 9) hx hb dX9_enough_52 (by decide) ?_
            exact ih _ _ _ hv _ _ (hP.sub (ws' := [(qM, .inr (9, [.int (F 0), .ref q1, .ref q2, .ref q3, .int (F 4), .int (F 5), .int (F 6), .int (F 7), .int (F 8), .int (F 9), .long (J 10), .int (F 11), .int (F 12), .int (F 13), .ref q4, .int (F 15), .ref q5, .ref q6, .ref q7, .int (F 19), .ref q8, .int (F 21), .int (F 22), .int (F 23), .int (F 24), .ref q9, .ref q10, .ref q11, .long (J 28)])), (q1, .inl (g.2 0, 376, .inl al))]) [0, 1] rfl) (hD.sub (ws' := [(qM, .inr (9, [.int (F 0), .ref q1, .ref q2, .ref q3, .int (F 4), .int (F 5), .int (F 6), .int (F 7), .int (F 8), .int (F 9), .long (J 10), .int (F 11), .int (F 12), .int (F 13), .ref q4, .int (F 15), .ref q5, .ref q6, .ref q7, .int (F 19), .ref q8, .int (F 21), .int (F 22), .int (F 23), .int (F 24), .ref q9, .ref q10, .ref q11, .long (J 28)])), (q1, .inl (g.2 0, 376, .inl al))]) [0, 1] (by decide) rfl) hS ls (lv_sub hl [1, 2, 3, 0] rfl)
          · have hv := hvf hc
            refine lv_iload_n hx hb dX9_enough_47 rfl (lv_at hl 3 rfl) ?_
            refine lv_istore_n (lv' := [(2, .int x3), (0, .ref qM), (1, .int p1), (3, .int x3)]) hx hb dX9_enough_48 rfl hl (by decide) rfl (fun ls hl => ?_)
            refine lv_iinc (v := (x3 + (1 : Int32))) (lv' := [(3, .int (x3 + (1 : Int32))), (2, .int x3), (0, .ref qM), (1, .int p1)]) hx hb dX9_enough_49 hl (k := 3) rfl rfl (by decide) rfl (fun ls hl => ?_)
            refine lv_goto (tgt := 9) hx hb dX9_enough_52 (by decide) ?_
            exact ih _ _ _ hv _ _ (hP.sub (ws' := [(qM, .inr (9, [.int (F 0), .ref q1, .ref q2, .ref q3, .int (F 4), .int (F 5), .int (F 6), .int (F 7), .int (F 8), .int (F 9), .long (J 10), .int (F 11), .int (F 12), .int (F 13), .ref q4, .int (F 15), .ref q5, .ref q6, .ref q7, .int (F 19), .ref q8, .int (F 21), .int (F 22), .int (F 23), .int (F 24), .ref q9, .ref q10, .ref q11, .long (J 28)])), (q1, .inl (g.2 0, 376, .inl al))]) [0, 1] rfl) (hD.sub (ws' := [(qM, .inr (9, [.int (F 0), .ref q1, .ref q2, .ref q3, .int (F 4), .int (F 5), .int (F 6), .int (F 7), .int (F 8), .int (F 9), .long (J 10), .int (F 11), .int (F 12), .int (F 13), .ref q4, .int (F 15), .ref q5, .ref q6, .ref q7, .int (F 19), .ref q8, .int (F 21), .int (F 22), .int (F 23), .int (F 24), .ref q9, .ref q10, .ref q11, .long (J 28)])), (q1, .inl (g.2 0, 376, .inl al))]) [0, 1] (by decide) rfl) hS ls (lv_sub hl [2, 3, 1, 0] rfl)
def vX9_enough (F : Nat → Int32) (J : Nat → Int64) (al : Nat → Int32) (p1 : Int32) (Q : Int32 → (Nat → Int32) → Prop) : Prop := (∃ nn, vX9_enough_c9 J al p1 Q nn (-1 : Int32) (0 : Int32) (upd F 0 (0 : Int32)))
set_option maxHeartbeats 4000000 in
set_option maxRecDepth 100000 in
theorem wX9_enough (l : Launch) (g : GP) (qM : Nat) (q1 : Nat) (q2 : Nat) (q3 : Nat) (q4 : Nat) (q5 : Nat) (q6 : Nat) (q7 : Nat) (q8 : Nat) (q9 : Nat) (q10 : Nat) (q11 : Nat) (sz : Nat) (F : Nat → Int32) (J : Nat → Int64) (al : Nat → Int32) (p1 : Int32) {Q : Int32 → (Nat → Int32) → Prop} (hv : vX9_enough F J al p1 Q) : Met l yX9_enough wsX9_enough rmX9_enough (va_Pc [.ref qM, .int p1] (fun U => U.heap.size = sz ∧ va_P g.1 vwCl [(qM, .inr (9, [.int (F 0), .ref q1, .ref q2, .ref q3, .int (F 4), .int (F 5), .int (F 6), .int (F 7), .int (F 8), .int (F 9), .long (J 10), .int (F 11), .int (F 12), .int (F 13), .ref q4, .int (F 15), .ref q5, .ref q6, .ref q7, .int (F 19), .ref q8, .int (F 21), .int (F 22), .int (F 23), .int (F 24), .ref q9, .ref q10, .ref q11, .long (J 28)])), (q1, .inl (g.2 0, 376, .inl al))] U.heap ∧ GK g U ∧ va_D (fun _ => True) [(qM, .inr (9, [.int (F 0), .ref q1, .ref q2, .ref q3, .int (F 4), .int (F 5), .int (F 6), .int (F 7), .int (F 8), .int (F 9), .long (J 10), .int (F 11), .int (F 12), .int (F 13), .ref q4, .int (F 15), .ref q5, .ref q6, .ref q7, .int (F 19), .ref q8, .int (F 21), .int (F 22), .int (F 23), .int (F 24), .ref q9, .ref q10, .ref q11, .long (J 28)])), (q1, .inl (g.2 0, 376, .inl al))])) (va_Qi (fun (r : Int32) (u : (Nat → Int32)) => Q r u) (fun (u : (Nat → Int32)) t => va_P g.1 vwCl [(qM, .inr (9, [.int (u 0), .ref q1, .ref q2, .ref q3, .int (u 4), .int (u 5), .int (u 6), .int (u 7), .int (u 8), .int (u 9), .long (J 10), .int (u 11), .int (u 12), .int (u 13), .ref q4, .int (u 15), .ref q5, .ref q6, .ref q7, .int (u 19), .ref q8, .int (u 21), .int (u 22), .int (u 23), .int (u 24), .ref q9, .ref q10, .ref q11, .long (J 28)])), (q1, .inl (g.2 0, 376, .inl al))] t.heap ∧ va_D (va_A [(qM, .inr (9, [.int (F 0), .ref q1, .ref q2, .ref q3, .int (F 4), .int (F 5), .int (F 6), .int (F 7), .int (F 8), .int (F 9), .long (J 10), .int (F 11), .int (F 12), .int (F 13), .ref q4, .int (F 15), .ref q5, .ref q6, .ref q7, .int (F 19), .ref q8, .int (F 21), .int (F 22), .int (F 23), .int (F 24), .ref q9, .ref q10, .ref q11, .long (J 28)])), (q1, .inl (g.2 0, 376, .inl al))] sz) [(qM, .inr (9, [.int (u 0), .ref q1, .ref q2, .ref q3, .int (u 4), .int (u 5), .int (u 6), .int (u 7), .int (u 8), .int (u 9), .long (J 10), .int (u 11), .int (u 12), .int (u 13), .ref q4, .int (u 15), .ref q5, .ref q6, .ref q7, .int (u 19), .ref q8, .int (u 21), .int (u 22), .int (u 23), .int (u 24), .ref q9, .ref q10, .ref q11, .long (J 28)])), (q1, .inl (g.2 0, 376, .inl al))]) (va_A [(qM, .inr (9, [.int (F 0), .ref q1, .ref q2, .ref q3, .int (F 4), .int (F 5), .int (F 6), .int (F 7), .int (F 8), .int (F 9), .long (J 10), .int (F 11), .int (F 12), .int (F 13), .ref q4, .int (F 15), .ref q5, .ref q6, .ref q7, .int (F 19), .ref q8, .int (F 21), .int (F 22), .int (F 23), .int (F 24), .ref q9, .ref q10, .ref q11, .long (J 28)])), (q1, .inl (g.2 0, 376, .inl al))] sz)) 0 0 (va_A [(qM, .inr (9, [.int (F 0), .ref q1, .ref q2, .ref q3, .int (F 4), .int (F 5), .int (F 6), .int (F 7), .int (F 8), .int (F 9), .long (J 10), .int (F 11), .int (F 12), .int (F 13), .ref q4, .int (F 15), .ref q5, .ref q6, .ref q7, .int (F 19), .ref q8, .int (F 21), .int (F 22), .int (F 23), .int (F 24), .ref q9, .ref q10, .ref q11, .long (J 28)])), (q1, .inl (g.2 0, 376, .inl al))] sz) := by
  refine Met.ofW (cc := cX9_enough) (maxL := 4) (ret := (some .int)) (by decide) rfl ?_
  intro p e s m args below meth c s₁ B hml hv'
  obtain ⟨rfl, hsz, hP, hG, hD0⟩ := hv'
  have S : CallFix p m c cX9_enough 4 s _ wsX9_enough RX9 := ⟨B.exec, B.bytes, hml, findClass_of_methodNamed B.named, atoms_spec (ws := wsX9_enough) B.pre⟩
  obtain ⟨hx, hb, hml, hown, hts⟩ := id S
  have hK := hG.1
  have hr := B.returns
  have hlocks := B.notSynchronized
  subst hsz
  have hD := hD0.self (sz := s.heap.size)
  generalize hAe : va_A [(qM, .inr (9, [.int (F 0), .ref q1, .ref q2, .ref q3, .int (F 4), .int (F 5), .int (F 6), .int (F 7), .int (F 8), .int (F 9), .long (J 10), .int (F 11), .int (F 12), .int (F 13), .ref q4, .int (F 15), .ref q5, .ref q6, .ref q7, .int (F 19), .ref q8, .int (F 21), .int (F 22), .int (F 23), .int (F 24), .ref q9, .ref q10, .ref q11, .long (J 28)])), (q1, .inl (g.2 0, 376, .inl al))] s.heap.size = A at hD ⊢
  have hA : ∀ q : Nat, s.heap.size ≤ q → A q := fun q h => by rw [← hAe]; exact Or.inr h
  have hS : va_S A s.heap s.heap [] := va_S.rf
  clear hD0 hAe
  have hl := lv_entry ([.ref qM, .int p1]) (n := 4) (Nat.le_of_ble_eq_true rfl)
  rw [lg_entry_eq]
  generalize (lg_sl ([.ref qM, .int p1]) ++ List.replicate (4 - (lg_sl ([.ref qM, .int p1])).length) Slot.unset).toArray = ls at hl ⊢
  have hl : lv_has ls 4 [(0, .ref qM), (1, .int p1)] := hl
  unfold vX9_enough at hv
  refine lv_aload_n hx hb dX9_enough_0 rfl (lv_at hl 0 rfl) ?_
  refine lv_iconst (v := (0 : Int32)) hx hb dX9_enough_1 (by decide) ?_
  refine va_put (D := g.1) (ci := 9) (v := .int (0 : Int32)) (ty := .int) (C := RX9) (T := TX9) (N := 29) hx hb hts inX9_enough_9 tyX9 tyX9_ok nmX9 hown hK hP hD hS 0 rfl rfl 0 (by decide) (hts (.fieldLink RX9 51 "RangeCodesModel" "raised" "I") (List.mem_of_getElem? (i := 1) rfl)) (fun _ h9 => h9) rfl (by decide +kernel) rfl rfl (Nat.le_of_ble_eq_true rfl) dX9_enough_2 (fun H locs hP hD hS => ?_)
  have hP : va_P g.1 vwCl [(qM, .inr (9, [.int (0 : Int32), .ref q1, .ref q2, .ref q3, .int (F 4), .int (F 5), .int (F 6), .int (F 7), .int (F 8), .int (F 9), .long (J 10), .int (F 11), .int (F 12), .int (F 13), .ref q4, .int (F 15), .ref q5, .ref q6, .ref q7, .int (F 19), .ref q8, .int (F 21), .int (F 22), .int (F 23), .int (F 24), .ref q9, .ref q10, .ref q11, .long (J 28)])), (q1, .inl (g.2 0, 376, .inl al))] H := hP
  have hD : va_D A [(qM, .inr (9, [.int (0 : Int32), .ref q1, .ref q2, .ref q3, .int (F 4), .int (F 5), .int (F 6), .int (F 7), .int (F 8), .int (F 9), .long (J 10), .int (F 11), .int (F 12), .int (F 13), .ref q4, .int (F 15), .ref q5, .ref q6, .ref q7, .int (F 19), .ref q8, .int (F 21), .int (F 22), .int (F 23), .int (F 24), .ref q9, .ref q10, .ref q11, .long (J 28)])), (q1, .inl (g.2 0, 376, .inl al))] := hD
  refine lv_iconst (v := (-1 : Int32)) hx hb dX9_enough_5 (by decide) ?_
  refine lv_istore_n (lv' := [(2, .int (-1 : Int32)), (0, .ref qM), (1, .int p1)]) hx hb dX9_enough_6 rfl hl (by decide) rfl (fun ls hl => ?_)
  refine lv_iconst (v := (0 : Int32)) hx hb dX9_enough_7 (by decide) ?_
  refine lv_istore_n (lv' := [(3, .int (0 : Int32)), (2, .int (-1 : Int32)), (0, .ref qM), (1, .int p1)]) hx hb dX9_enough_8 rfl hl (by decide) rfl (fun ls hl => ?_)
  obtain ⟨nn, hv⟩ := hv
  exact kX9_enough_c9 S hr hlocks hG hA nn _ _ _ hv _ _ (hP.sub (ws' := [(qM, .inr (9, [.int ((upd F 0 (0 : Int32)) 0), .ref q1, .ref q2, .ref q3, .int ((upd F 0 (0 : Int32)) 4), .int ((upd F 0 (0 : Int32)) 5), .int ((upd F 0 (0 : Int32)) 6), .int ((upd F 0 (0 : Int32)) 7), .int ((upd F 0 (0 : Int32)) 8), .int ((upd F 0 (0 : Int32)) 9), .long (J 10), .int ((upd F 0 (0 : Int32)) 11), .int ((upd F 0 (0 : Int32)) 12), .int ((upd F 0 (0 : Int32)) 13), .ref q4, .int ((upd F 0 (0 : Int32)) 15), .ref q5, .ref q6, .ref q7, .int ((upd F 0 (0 : Int32)) 19), .ref q8, .int ((upd F 0 (0 : Int32)) 21), .int ((upd F 0 (0 : Int32)) 22), .int ((upd F 0 (0 : Int32)) 23), .int ((upd F 0 (0 : Int32)) 24), .ref q9, .ref q10, .ref q11, .long (J 28)])), (q1, .inl (g.2 0, 376, .inl al))]) [0, 1] rfl) (hD.sub (ws' := [(qM, .inr (9, [.int ((upd F 0 (0 : Int32)) 0), .ref q1, .ref q2, .ref q3, .int ((upd F 0 (0 : Int32)) 4), .int ((upd F 0 (0 : Int32)) 5), .int ((upd F 0 (0 : Int32)) 6), .int ((upd F 0 (0 : Int32)) 7), .int ((upd F 0 (0 : Int32)) 8), .int ((upd F 0 (0 : Int32)) 9), .long (J 10), .int ((upd F 0 (0 : Int32)) 11), .int ((upd F 0 (0 : Int32)) 12), .int ((upd F 0 (0 : Int32)) 13), .ref q4, .int ((upd F 0 (0 : Int32)) 15), .ref q5, .ref q6, .ref q7, .int ((upd F 0 (0 : Int32)) 19), .ref q8, .int ((upd F 0 (0 : Int32)) 21), .int ((upd F 0 (0 : Int32)) 22), .int ((upd F 0 (0 : Int32)) 23), .int ((upd F 0 (0 : Int32)) 24), .ref q9, .ref q10, .ref q11, .long (J 28)])), (q1, .inl (g.2 0, 376, .inl al))]) [0, 1] (by decide) rfl) hS ls (lv_sub hl [2, 3, 1, 0] rfl)
theorem sX9_enough_9 (T : Cd) (G0 : Lg) (G1 : Lg) (lim : Nat) (F : Nat → Int32) (J : Nat → Int64) (al : Nat → Int32) (p1 : Int32) (H : fcR T G0 G1 lim al) (Q : Int32 → (Nat → Int32) → Prop) (hQ : ∀ r : Int32, r.toInt = spEnough T lim p1.toInt → Q r F) : ∀ (n i : Nat) (o : Option Nat) (x2 x3 : Int32), isNo o x2 → x3.toInt = (i : Int) → (match o with | none => ∀ j, j < i → ¬ lim ≤ lcS T j (cn T) | some b => b < i ∧ lim ≤ lcS T b (cn T) ∧ ∀ j, j < i → lim ≤ lcS T j (cn T) → bcn b 13 ≤ bcn j 13 ∧ (bcn j 13 = bcn b 13 → b ≤ j)) → i ≤ 2 ^ cn T → 2 ^ cn T + 1 ≤ i + n → vX9_enough_c9 J al p1 Q n x2 x3 F
  | 0, i, o, x2, x3, _, _, _, hi, hn => absurd hn (by omega)
  | n + 1, i, o, x2, x3, h2, h3, ho, hi, hn => by
    obtain ⟨hT, hg0, hg1, hlim, hl9, hl1⟩ := id H
    have hn5 := hT.1.2
    have hp := p32_le hn5
    have hp1 := Nat.two_pow_pos (cn T)
    rw [vX9_enough_c9]
    refine ⟨T, hT.1, fun r hr => ?_⟩
    have hr : r.toInt = ((2 ^ cn T - 1 : Nat) : Int) := hr
    rw [q_lt hr h3]
    refine ⟨fun hc => ?_, fun hc => ⟨T, i, ⟨hT.1, hT.2.1, h3⟩, fun r2 hr2 => ?_⟩⟩
    · have : i = 2 ^ cn T := by omega
      subst this
      rw [fa_eq x2, zm1]
      cases o with
      | none =>
        have h2 : x2.toInt = -1 := h2
        refine ⟨fun _ => hQ _ ?_, fun q => absurd h2 q⟩
        have hno : ∀ f, ¬ fa_first (okE T lim f) (2 ^ cn T) < 2 ^ cn T := fun f => by
          rw [ff_none (fun j hj => by unfold okE; rw [decide_eq_false (p := lim ≤ lcS T j (cn T)) (ho j hj), Bool.and_false])]; omega
        unfold spEnough enF
        rw [if_neg (fun q => by rw [ff_none (fun j hj => decide_eq_false (hno j))] at q; omega)]; rfl
      | some b =>
        have h2 : x2.toInt = (b : Int) := h2
        obtain ⟨hb1, hb2, hb3⟩ := ho
        have hbc := bc_n (cn T) hn5 b hb1
        have hff : fa_first (okE T lim (bcn b 13)) (2 ^ cn T) = b := ff_eq hb1 (by unfold okE; rw [decide_eq_true rfl, decide_eq_true hb2]; rfl) (fun j hj => by
          unfold okE
          by_cases q : bcn j 13 = bcn b 13
          · by_cases q2 : lim ≤ lcS T j (cn T)
            · have := (hb3 j (by omega) q2).2 q; omega
            · rw [decide_eq_false (p := lim ≤ lcS T j (cn T)) q2, Bool.and_false]
          · rw [decide_eq_false q]; rfl)
        have hef : enF T lim = bcn b 13 := ff_eq (by omega) (decide_eq_true (by rw [hff]; exact hb1)) (fun f hf => decide_eq_false (fun q => by
          have h1 := fa_first_yes _ _ q
          unfold okE at h1
          rw [Bool.and_eq_true, decide_eq_true_iff, decide_eq_true_iff] at h1
          have h3 := hb3 _ q h1.2
          have h4 := h1.1
          unfold okE at h3
          omega))
        refine ⟨fun q => absurd q (by omega), fun _ => ⟨trivial, fun r3 hr3 => ?_⟩⟩
        have hr3 : r3 = if 0 ≤ p1.toInt ∧ p1.toInt ≤ 1 then 1 else 0 := hr3
        rw [hr3, q_if1, fa_eq p1, z0]
        unfold spEnough at hQ
        rw [hef, hff] at hQ
        refine ⟨fun q => ⟨fun q0 => ⟨b, h2, fun r4 hr4 => hQ _ ?_⟩, fun q0 => hQ _ ?_⟩, fun q => hQ _ ?_⟩
        · have q := Decidable.not_not.mp q
          have hr4 : r4.toInt = ((bcn b 13 : Nat) : Int) := hr4
          rw [if_pos ⟨by omega, by omega⟩, if_neg q0]; exact q_sub hT.1.1 hr4 (by omega) (by omega)
        · rw [if_pos ⟨Or.inl q0, by omega⟩, if_pos q0]; exact h2
        · rw [if_neg (fun z => by omega)]; rfl
    · have hr2 : r2.toInt = ((lcS T i (cn T) : Nat) : Int) := hr2
      have h3s := q_1 h3 (by omega)
      rw [q_lt hr2 hlim, fa_eq x2, zm1]
      refine ⟨fun hz => sX9_enough_9 T G0 G1 lim F J al p1 H Q hQ n (i + 1) o _ _ h2 h3s ?_ (by omega) (by omega), fun hz => ?_⟩
      · cases o with
        | none =>
          intro j hj
          by_cases e : j = i
          · subst e; omega
          · exact ho j (by omega)
        | some b =>
          obtain ⟨hb1, hb2, hb3⟩ := ho
          refine ⟨by omega, hb2, fun j hj hj2 => ?_⟩
          by_cases e : j = i
          · subst e; omega
          · exact hb3 j (by omega) hj2
      · cases o with
        | none =>
          have h2 : x2.toInt = -1 := h2
          refine ⟨fun _ => sX9_enough_9 T G0 G1 lim F J al p1 H Q hQ n (i + 1) (some i) _ _ h3 h3s ⟨by omega, by omega, fun j hj hj2 => ?_⟩ (by omega) (by omega), fun q => absurd h2 q⟩
          by_cases e : j = i
          · subst e; exact ⟨Nat.le_refl _, fun _ => Nat.le_refl _⟩
          · exact absurd hj2 (ho j (by omega))
        | some b =>
          have h2 : x2.toInt = (b : Int) := h2
          obtain ⟨hb1, hb2, hb3⟩ := ho
          refine ⟨fun q => absurd q (by omega), fun _ => ⟨i, h3, fun r4 hr4 => ⟨b, h2, fun r5 hr5 => ?_⟩⟩⟩
          have hr4 : r4.toInt = ((bcn i 13 : Nat) : Int) := hr4
          have hr5 : r5.toInt = ((bcn b 13 : Nat) : Int) := hr5
          rw [q_le hr5 hr4]
          refine ⟨fun q => sX9_enough_9 T G0 G1 lim F J al p1 H Q hQ n (i + 1) (some b) _ _ h2 h3s ⟨by omega, hb2, fun j hj hj2 => ?_⟩ (by omega) (by omega), fun q => sX9_enough_9 T G0 G1 lim F J al p1 H Q hQ n (i + 1) (some i) _ _ h3 h3s ⟨by omega, by omega, fun j hj hj2 => ?_⟩ (by omega) (by omega)⟩
          · by_cases e : j = i
            · subst e; exact ⟨by omega, fun _ => by omega⟩
            · exact hb3 j (by omega) hj2
          · by_cases e : j = i
            · subst e; exact ⟨Nat.le_refl _, fun _ => Nat.le_refl _⟩
            · have := hb3 j (by omega) hj2
              exact ⟨by omega, fun _ => by omega⟩
abbrev preX9_enough (T : Cd) (G0 : Lg) (G1 : Lg) (lim : Nat) (F : Nat → Int32) (J : Nat → Int64) (al : Nat → Int32) (p1 : Int32) : Prop := fcR T G0 G1 lim al
abbrev postX9_enough (T : Cd) (G0 : Lg) (G1 : Lg) (lim : Nat) (F : Nat → Int32) (J : Nat → Int64) (al : Nat → Int32) (p1 : Int32) (r : Int32) (F' : Nat → Int32) : Prop := r.toInt = spEnough T lim p1.toInt
theorem sX9_enough (T : Cd) (G0 : Lg) (G1 : Lg) (lim : Nat) (F : Nat → Int32) (J : Nat → Int64) (al : Nat → Int32) (p1 : Int32) (H : preX9_enough T G0 G1 lim F J al p1) : vX9_enough F J al p1 (postX9_enough T G0 G1 lim F J al p1) := ⟨2 ^ cn T + 1, sX9_enough_9 T G0 G1 lim (upd F 0 (0 : Int32)) J al p1 H _ (fun r h => h) _ 0 none _ _ rfl rfl (fun j hj => absurd hj (by omega)) (Nat.zero_le _) (by omega)⟩
theorem dX9_fault_0 : decode cX9_fault 0 = .ok (.aload_n 0, 1) := by decide +kernel
theorem dX9_fault_1 : decode cX9_fault 1 = .ok (.iconst 0, 1) := by decide +kernel
theorem dX9_fault_2 : decode cX9_fault 2 = .ok (.putfield 51, 3) := by decide +kernel
theorem dX9_fault_5 : decode cX9_fault 5 = .ok (.iload_n 1, 1) := by decide +kernel
theorem dX9_fault_6 : decode cX9_fault 6 = .ok (.ifCond .eq 12, 3) := by decide +kernel
theorem dX9_fault_9 : decode cX9_fault 9 = .ok (.aload_n 0, 1) := by decide +kernel
theorem dX9_fault_10 : decode cX9_fault 10 = .ok (.getfield 7, 3) := by decide +kernel
theorem dX9_fault_13 : decode cX9_fault 13 = .ok (.iconst 4, 1) := by decide +kernel
theorem dX9_fault_14 : decode cX9_fault 14 = .ok (.iaload, 1) := by decide +kernel
theorem dX9_fault_15 : decode cX9_fault 15 = .ok (.goto 9, 3) := by decide +kernel
theorem dX9_fault_18 : decode cX9_fault 18 = .ok (.aload_n 0, 1) := by decide +kernel
theorem dX9_fault_19 : decode cX9_fault 19 = .ok (.getfield 7, 3) := by decide +kernel
theorem dX9_fault_22 : decode cX9_fault 22 = .ok (.iconst 3, 1) := by decide +kernel
theorem dX9_fault_23 : decode cX9_fault 23 = .ok (.iaload, 1) := by decide +kernel
theorem dX9_fault_24 : decode cX9_fault 24 = .ok (.ireturn, 1) := by decide +kernel
abbrev rmX9_fault : Room := { frames := 0, cells := 0, slots := 0, locals := 0 }
theorem inX9_fault_9 : ∀ w ∈ wsX90, w ∈ wsX9_fault := by decide +kernel
def vX9_fault (F : Nat → Int32) (J : Nat → Int64) (al : Nat → Int32) (p1 : Int32) (Q : Int32 → (Nat → Int32) → Prop) : Prop := ((p1 = 0 → (Q (al 3) (upd F 0 (0 : Int32)))) ∧ (¬ p1 = 0 → (Q (al 4) (upd F 0 (0 : Int32)))))
set_option maxHeartbeats 4000000 in
set_option maxRecDepth 100000 in
theorem wX9_fault (l : Launch) (g : GP) (qM : Nat) (q1 : Nat) (q2 : Nat) (q3 : Nat) (q4 : Nat) (q5 : Nat) (q6 : Nat) (q7 : Nat) (q8 : Nat) (q9 : Nat) (q10 : Nat) (q11 : Nat) (sz : Nat) (F : Nat → Int32) (J : Nat → Int64) (al : Nat → Int32) (p1 : Int32) {Q : Int32 → (Nat → Int32) → Prop} (hv : vX9_fault F J al p1 Q) : Met l yX9_fault wsX9_fault rmX9_fault (va_Pc [.ref qM, .int p1] (fun U => U.heap.size = sz ∧ va_P g.1 vwCl [(qM, .inr (9, [.int (F 0), .ref q1, .ref q2, .ref q3, .int (F 4), .int (F 5), .int (F 6), .int (F 7), .int (F 8), .int (F 9), .long (J 10), .int (F 11), .int (F 12), .int (F 13), .ref q4, .int (F 15), .ref q5, .ref q6, .ref q7, .int (F 19), .ref q8, .int (F 21), .int (F 22), .int (F 23), .int (F 24), .ref q9, .ref q10, .ref q11, .long (J 28)])), (q1, .inl (g.2 0, 376, .inl al))] U.heap ∧ GK g U ∧ va_D (fun _ => True) [(qM, .inr (9, [.int (F 0), .ref q1, .ref q2, .ref q3, .int (F 4), .int (F 5), .int (F 6), .int (F 7), .int (F 8), .int (F 9), .long (J 10), .int (F 11), .int (F 12), .int (F 13), .ref q4, .int (F 15), .ref q5, .ref q6, .ref q7, .int (F 19), .ref q8, .int (F 21), .int (F 22), .int (F 23), .int (F 24), .ref q9, .ref q10, .ref q11, .long (J 28)])), (q1, .inl (g.2 0, 376, .inl al))])) (va_Qi (fun (r : Int32) (u : (Nat → Int32)) => Q r u) (fun (u : (Nat → Int32)) t => va_P g.1 vwCl [(qM, .inr (9, [.int (u 0), .ref q1, .ref q2, .ref q3, .int (u 4), .int (u 5), .int (u 6), .int (u 7), .int (u 8), .int (u 9), .long (J 10), .int (u 11), .int (u 12), .int (u 13), .ref q4, .int (u 15), .ref q5, .ref q6, .ref q7, .int (u 19), .ref q8, .int (u 21), .int (u 22), .int (u 23), .int (u 24), .ref q9, .ref q10, .ref q11, .long (J 28)])), (q1, .inl (g.2 0, 376, .inl al))] t.heap ∧ va_D (va_A [(qM, .inr (9, [.int (F 0), .ref q1, .ref q2, .ref q3, .int (F 4), .int (F 5), .int (F 6), .int (F 7), .int (F 8), .int (F 9), .long (J 10), .int (F 11), .int (F 12), .int (F 13), .ref q4, .int (F 15), .ref q5, .ref q6, .ref q7, .int (F 19), .ref q8, .int (F 21), .int (F 22), .int (F 23), .int (F 24), .ref q9, .ref q10, .ref q11, .long (J 28)])), (q1, .inl (g.2 0, 376, .inl al))] sz) [(qM, .inr (9, [.int (u 0), .ref q1, .ref q2, .ref q3, .int (u 4), .int (u 5), .int (u 6), .int (u 7), .int (u 8), .int (u 9), .long (J 10), .int (u 11), .int (u 12), .int (u 13), .ref q4, .int (u 15), .ref q5, .ref q6, .ref q7, .int (u 19), .ref q8, .int (u 21), .int (u 22), .int (u 23), .int (u 24), .ref q9, .ref q10, .ref q11, .long (J 28)])), (q1, .inl (g.2 0, 376, .inl al))]) (va_A [(qM, .inr (9, [.int (F 0), .ref q1, .ref q2, .ref q3, .int (F 4), .int (F 5), .int (F 6), .int (F 7), .int (F 8), .int (F 9), .long (J 10), .int (F 11), .int (F 12), .int (F 13), .ref q4, .int (F 15), .ref q5, .ref q6, .ref q7, .int (F 19), .ref q8, .int (F 21), .int (F 22), .int (F 23), .int (F 24), .ref q9, .ref q10, .ref q11, .long (J 28)])), (q1, .inl (g.2 0, 376, .inl al))] sz)) 0 0 (va_A [(qM, .inr (9, [.int (F 0), .ref q1, .ref q2, .ref q3, .int (F 4), .int (F 5), .int (F 6), .int (F 7), .int (F 8), .int (F 9), .long (J 10), .int (F 11), .int (F 12), .int (F 13), .ref q4, .int (F 15), .ref q5, .ref q6, .ref q7, .int (F 19), .ref q8, .int (F 21), .int (F 22), .int (F 23), .int (F 24), .ref q9, .ref q10, .ref q11, .long (J 28)])), (q1, .inl (g.2 0, 376, .inl al))] sz) := by
  refine Met.ofW (cc := cX9_fault) (maxL := 2) (ret := (some .int)) (by decide) rfl ?_
  intro p e s m args below meth c s₁ B hml hv'
  obtain ⟨rfl, hsz, hP, hG, hD0⟩ := hv'
  have S : CallFix p m c cX9_fault 2 s _ wsX9_fault RX9 := ⟨B.exec, B.bytes, hml, findClass_of_methodNamed B.named, atoms_spec (ws := wsX9_fault) B.pre⟩
  obtain ⟨hx, hb, hml, hown, hts⟩ := id S
  have hK := hG.1
  have hr := B.returns
  have hlocks := B.notSynchronized
  subst hsz
  have hD := hD0.self (sz := s.heap.size)
  generalize hAe : va_A [(qM, .inr (9, [.int (F 0), .ref q1, .ref q2, .ref q3, .int (F 4), .int (F 5), .int (F 6), .int (F 7), .int (F 8), .int (F 9), .long (J 10), .int (F 11), .int (F 12), .int (F 13), .ref q4, .int (F 15), .ref q5, .ref q6, .ref q7, .int (F 19), .ref q8, .int (F 21), .int (F 22), .int (F 23), .int (F 24), .ref q9, .ref q10, .ref q11, .long (J 28)])), (q1, .inl (g.2 0, 376, .inl al))] s.heap.size = A at hD ⊢
  have hA : ∀ q : Nat, s.heap.size ≤ q → A q := fun q h => by rw [← hAe]; exact Or.inr h
  have hS : va_S A s.heap s.heap [] := va_S.rf
  clear hD0 hAe
  have hl := lv_entry ([.ref qM, .int p1]) (n := 2) (Nat.le_of_ble_eq_true rfl)
  rw [lg_entry_eq]
  generalize (lg_sl ([.ref qM, .int p1]) ++ List.replicate (2 - (lg_sl ([.ref qM, .int p1])).length) Slot.unset).toArray = ls at hl ⊢
  have hl : lv_has ls 2 [(0, .ref qM), (1, .int p1)] := hl
  unfold vX9_fault at hv
  refine lv_aload_n hx hb dX9_fault_0 rfl (lv_at hl 0 rfl) ?_
  refine lv_iconst (v := (0 : Int32)) hx hb dX9_fault_1 (by decide) ?_
  refine va_put (D := g.1) (ci := 9) (v := .int (0 : Int32)) (ty := .int) (C := RX9) (T := TX9) (N := 29) hx hb hts inX9_fault_9 tyX9 tyX9_ok nmX9 hown hK hP hD hS 0 rfl rfl 0 (by decide) (hts (.fieldLink RX9 51 "RangeCodesModel" "raised" "I") (List.mem_of_getElem? (i := 1) rfl)) (fun _ h9 => h9) rfl (by decide +kernel) rfl rfl (Nat.le_of_ble_eq_true rfl) dX9_fault_2 (fun H locs hP hD hS => ?_)
  have hP : va_P g.1 vwCl [(qM, .inr (9, [.int (0 : Int32), .ref q1, .ref q2, .ref q3, .int (F 4), .int (F 5), .int (F 6), .int (F 7), .int (F 8), .int (F 9), .long (J 10), .int (F 11), .int (F 12), .int (F 13), .ref q4, .int (F 15), .ref q5, .ref q6, .ref q7, .int (F 19), .ref q8, .int (F 21), .int (F 22), .int (F 23), .int (F 24), .ref q9, .ref q10, .ref q11, .long (J 28)])), (q1, .inl (g.2 0, 376, .inl al))] H := hP
  have hD : va_D A [(qM, .inr (9, [.int (0 : Int32), .ref q1, .ref q2, .ref q3, .int (F 4), .int (F 5), .int (F 6), .int (F 7), .int (F 8), .int (F 9), .long (J 10), .int (F 11), .int (F 12), .int (F 13), .ref q4, .int (F 15), .ref q5, .ref q6, .ref q7, .int (F 19), .ref q8, .int (F 21), .int (F 22), .int (F 23), .int (F 24), .ref q9, .ref q10, .ref q11, .long (J 28)])), (q1, .inl (g.2 0, 376, .inl al))] := hD
  refine lv_iload_n hx hb dX9_fault_5 rfl (lv_at hl 1 rfl) ?_
  obtain ⟨hvt, hvf⟩ := hv
  refine lv_if_eq (tgt := 18) hx hb dX9_fault_6 (by decide) (fun hc => ?_) (fun hc => ?_)
  · have hv := hvt hc
    refine lv_aload_n hx hb dX9_fault_18 rfl (lv_at hl 0 rfl) ?_
    refine va_get (D := g.1) (ci := 9) (v := .ref q1) (C := RX9) (T := TX9) (N := 29) hx hb hts inX9_fault_9 hown hK hP 0 rfl rfl 1 (by decide) (hts (.fieldLink RX9 7 "RangeCodesModel" "all" "[I") (List.mem_of_getElem? (i := 2) rfl)) (fun _ h9 => h9) rfl dX9_fault_19 ?_
    refine lv_iconst (v := (3 : Int32)) hx hb dX9_fault_22 (by decide) ?_
    refine va_iald hx hb hK hP 1 0 rfl rfl (by unfold vp_in; decide) dX9_fault_23 ?_
    have hP9 := hP.sub (ws' := [(qM, .inr (9, [.int ((upd F 0 (0 : Int32)) 0), .ref q1, .ref q2, .ref q3, .int ((upd F 0 (0 : Int32)) 4), .int ((upd F 0 (0 : Int32)) 5), .int ((upd F 0 (0 : Int32)) 6), .int ((upd F 0 (0 : Int32)) 7), .int ((upd F 0 (0 : Int32)) 8), .int ((upd F 0 (0 : Int32)) 9), .long (J 10), .int ((upd F 0 (0 : Int32)) 11), .int ((upd F 0 (0 : Int32)) 12), .int ((upd F 0 (0 : Int32)) 13), .ref q4, .int ((upd F 0 (0 : Int32)) 15), .ref q5, .ref q6, .ref q7, .int ((upd F 0 (0 : Int32)) 19), .ref q8, .int ((upd F 0 (0 : Int32)) 21), .int ((upd F 0 (0 : Int32)) 22), .int ((upd F 0 (0 : Int32)) 23), .int ((upd F 0 (0 : Int32)) 24), .ref q9, .ref q10, .ref q11, .long (J 28)])), (q1, .inl (g.2 0, 376, .inl al))]) [0, 1] rfl
    have hD9 := hD.sub (ws' := [(qM, .inr (9, [.int ((upd F 0 (0 : Int32)) 0), .ref q1, .ref q2, .ref q3, .int ((upd F 0 (0 : Int32)) 4), .int ((upd F 0 (0 : Int32)) 5), .int ((upd F 0 (0 : Int32)) 6), .int ((upd F 0 (0 : Int32)) 7), .int ((upd F 0 (0 : Int32)) 8), .int ((upd F 0 (0 : Int32)) 9), .long (J 10), .int ((upd F 0 (0 : Int32)) 11), .int ((upd F 0 (0 : Int32)) 12), .int ((upd F 0 (0 : Int32)) 13), .ref q4, .int ((upd F 0 (0 : Int32)) 15), .ref q5, .ref q6, .ref q7, .int ((upd F 0 (0 : Int32)) 19), .ref q8, .int ((upd F 0 (0 : Int32)) 21), .int ((upd F 0 (0 : Int32)) 22), .int ((upd F 0 (0 : Int32)) 23), .int ((upd F 0 (0 : Int32)) 24), .ref q9, .ref q10, .ref q11, .long (J 28)])), (q1, .inl (g.2 0, 376, .inl al))]) [0, 1] (by decide) rfl
    exact W.iret (v := (al 3)) hx hb hr (fun t ht hW => ⟨⟨_, ((upd F 0 (0 : Int32))), rfl, hv, by rw [ht]; exact hP9, hD9⟩, hS.F ht⟩) hS.2.2 dX9_fault_24
  · have hv := hvf hc
    refine lv_aload_n hx hb dX9_fault_9 rfl (lv_at hl 0 rfl) ?_
    refine va_get (D := g.1) (ci := 9) (v := .ref q1) (C := RX9) (T := TX9) (N := 29) hx hb hts inX9_fault_9 hown hK hP 0 rfl rfl 1 (by decide) (hts (.fieldLink RX9 7 "RangeCodesModel" "all" "[I") (List.mem_of_getElem? (i := 2) rfl)) (fun _ h9 => h9) rfl dX9_fault_10 ?_
    refine lv_iconst (v := (4 : Int32)) hx hb dX9_fault_13 (by decide) ?_
    refine va_iald hx hb hK hP 1 0 rfl rfl (by unfold vp_in; decide) dX9_fault_14 ?_
    refine lv_goto (tgt := 24) hx hb dX9_fault_15 (by decide) ?_
    have hP9 := hP.sub (ws' := [(qM, .inr (9, [.int ((upd F 0 (0 : Int32)) 0), .ref q1, .ref q2, .ref q3, .int ((upd F 0 (0 : Int32)) 4), .int ((upd F 0 (0 : Int32)) 5), .int ((upd F 0 (0 : Int32)) 6), .int ((upd F 0 (0 : Int32)) 7), .int ((upd F 0 (0 : Int32)) 8), .int ((upd F 0 (0 : Int32)) 9), .long (J 10), .int ((upd F 0 (0 : Int32)) 11), .int ((upd F 0 (0 : Int32)) 12), .int ((upd F 0 (0 : Int32)) 13), .ref q4, .int ((upd F 0 (0 : Int32)) 15), .ref q5, .ref q6, .ref q7, .int ((upd F 0 (0 : Int32)) 19), .ref q8, .int ((upd F 0 (0 : Int32)) 21), .int ((upd F 0 (0 : Int32)) 22), .int ((upd F 0 (0 : Int32)) 23), .int ((upd F 0 (0 : Int32)) 24), .ref q9, .ref q10, .ref q11, .long (J 28)])), (q1, .inl (g.2 0, 376, .inl al))]) [0, 1] rfl
    have hD9 := hD.sub (ws' := [(qM, .inr (9, [.int ((upd F 0 (0 : Int32)) 0), .ref q1, .ref q2, .ref q3, .int ((upd F 0 (0 : Int32)) 4), .int ((upd F 0 (0 : Int32)) 5), .int ((upd F 0 (0 : Int32)) 6), .int ((upd F 0 (0 : Int32)) 7), .int ((upd F 0 (0 : Int32)) 8), .int ((upd F 0 (0 : Int32)) 9), .long (J 10), .int ((upd F 0 (0 : Int32)) 11), .int ((upd F 0 (0 : Int32)) 12), .int ((upd F 0 (0 : Int32)) 13), .ref q4, .int ((upd F 0 (0 : Int32)) 15), .ref q5, .ref q6, .ref q7, .int ((upd F 0 (0 : Int32)) 19), .ref q8, .int ((upd F 0 (0 : Int32)) 21), .int ((upd F 0 (0 : Int32)) 22), .int ((upd F 0 (0 : Int32)) 23), .int ((upd F 0 (0 : Int32)) 24), .ref q9, .ref q10, .ref q11, .long (J 28)])), (q1, .inl (g.2 0, 376, .inl al))]) [0, 1] (by decide) rfl
    exact W.iret (v := (al 4)) hx hb hr (fun t ht hW => ⟨⟨_, ((upd F 0 (0 : Int32))), rfl, hv, by rw [ht]; exact hP9, hD9⟩, hS.F ht⟩) hS.2.2 dX9_fault_24
abbrev preX9_fault (F : Nat → Int32) (J : Nat → Int64) (al : Nat → Int32) (p1 : Int32) : Prop := True
abbrev postX9_fault (F : Nat → Int32) (J : Nat → Int64) (al : Nat → Int32) (p1 : Int32) (r : Int32) (F' : Nat → Int32) : Prop := r = if p1.toInt = 0 then al 3 else al 4
theorem sX9_fault (F : Nat → Int32) (J : Nat → Int64) (al : Nat → Int32) (p1 : Int32) (H : preX9_fault F J al p1) : vX9_fault F J al p1 (postX9_fault F J al p1) := by
  unfold vX9_fault postX9_fault
  rw [fa_eq p1, z0]
  exact ⟨fun q => by rw [if_pos q], fun q => by rw [if_neg q]⟩
set_option maxRecDepth 20000 in
theorem ggX9_limit_X9_in : GoodIn wsX9_limit wsX9_in := goodIn_r _ [6] (by decide +kernel) (by decide +kernel)
set_option maxRecDepth 20000 in
theorem gX9_limit_X9_in : GoodIn wsX9_limit (va_wsS RX9 63 yX9_in wsX9_in) := goodIn_app (goodIn_of _ (by decide +kernel)) ggX9_limit_X9_in
theorem dX9_limit_0 : decode cX9_limit 0 = .ok (.aload_n 0, 1) := by decide +kernel
theorem dX9_limit_1 : decode cX9_limit 1 = .ok (.iconst 0, 1) := by decide +kernel
theorem dX9_limit_2 : decode cX9_limit 2 = .ok (.putfield 51, 3) := by decide +kernel
theorem dX9_limit_5 : decode cX9_limit 5 = .ok (.iload_n 1, 1) := by decide +kernel
theorem dX9_limit_6 : decode cX9_limit 6 = .ok (.iconst 1, 1) := by decide +kernel
theorem dX9_limit_7 : decode cX9_limit 7 = .ok (.sipush 9999, 3) := by decide +kernel
theorem dX9_limit_10 : decode cX9_limit 10 = .ok (.invokestatic 63, 3) := by decide +kernel
theorem dX9_limit_13 : decode cX9_limit 13 = .ok (.ifCond .eq 13, 3) := by decide +kernel
theorem dX9_limit_16 : decode cX9_limit 16 = .ok (.aload_n 0, 1) := by decide +kernel
theorem dX9_limit_17 : decode cX9_limit 17 = .ok (.getfield 7, 3) := by decide +kernel
theorem dX9_limit_20 : decode cX9_limit 20 = .ok (.iconst 1, 1) := by decide +kernel
theorem dX9_limit_21 : decode cX9_limit 21 = .ok (.iaload, 1) := by decide +kernel
theorem dX9_limit_22 : decode cX9_limit 22 = .ok (.iload_n 1, 1) := by decide +kernel
theorem dX9_limit_23 : decode cX9_limit 23 = .ok (.if_icmp .ne 5, 3) := by decide +kernel
theorem dX9_limit_26 : decode cX9_limit 26 = .ok (.iconst 0, 1) := by decide +kernel
theorem dX9_limit_27 : decode cX9_limit 27 = .ok (.ireturn, 1) := by decide +kernel
theorem dX9_limit_28 : decode cX9_limit 28 = .ok (.aload_n 0, 1) := by decide +kernel
theorem dX9_limit_29 : decode cX9_limit 29 = .ok (.getfield 7, 3) := by decide +kernel
theorem dX9_limit_32 : decode cX9_limit 32 = .ok (.iconst 1, 1) := by decide +kernel
theorem dX9_limit_33 : decode cX9_limit 33 = .ok (.iload_n 1, 1) := by decide +kernel
theorem dX9_limit_34 : decode cX9_limit 34 = .ok (.iastore, 1) := by decide +kernel
theorem dX9_limit_35 : decode cX9_limit 35 = .ok (.iconst 1, 1) := by decide +kernel
theorem dX9_limit_36 : decode cX9_limit 36 = .ok (.ireturn, 1) := by decide +kernel
abbrev rmX9_limit : Room := { frames := 1, cells := 0, slots := 0, locals := 22 }
theorem inX9_limit_9 : ∀ w ∈ wsX90, w ∈ wsX9_limit := by decide +kernel
def vX9_limit (F : Nat → Int32) (J : Nat → Int64) (al : Nat → Int32) (p1 : Int32) (Q : Int32 → (Nat → Int32) → (Nat → Int32) → Prop) : Prop := (preX9_in p1 (1 : Int32) (9999 : Int32) ∧ (∀ r_10 : Int32, postX9_in p1 (1 : Int32) (9999 : Int32) r_10 → ((r_10 = 0 → (Q (0 : Int32) (upd F 0 (0 : Int32)) al)) ∧ (¬ r_10 = 0 → ((¬ (al 1) = p1 → (Q (1 : Int32) (upd F 0 (0 : Int32)) (upd al 1 p1))) ∧ ((al 1) = p1 → (Q (0 : Int32) (upd F 0 (0 : Int32)) al)))))))
set_option maxHeartbeats 4000000 in
set_option maxRecDepth 100000 in
theorem wX9_limit (l : Launch) (g : GP) (qM : Nat) (q1 : Nat) (q2 : Nat) (q3 : Nat) (q4 : Nat) (q5 : Nat) (q6 : Nat) (q7 : Nat) (q8 : Nat) (q9 : Nat) (q10 : Nat) (q11 : Nat) (sz : Nat) (F : Nat → Int32) (J : Nat → Int64) (al : Nat → Int32) (p1 : Int32) {Q : Int32 → (Nat → Int32) → (Nat → Int32) → Prop} (hv : vX9_limit F J al p1 Q) : Met l yX9_limit wsX9_limit rmX9_limit (va_Pc [.ref qM, .int p1] (fun U => U.heap.size = sz ∧ va_P g.1 vwCl [(qM, .inr (9, [.int (F 0), .ref q1, .ref q2, .ref q3, .int (F 4), .int (F 5), .int (F 6), .int (F 7), .int (F 8), .int (F 9), .long (J 10), .int (F 11), .int (F 12), .int (F 13), .ref q4, .int (F 15), .ref q5, .ref q6, .ref q7, .int (F 19), .ref q8, .int (F 21), .int (F 22), .int (F 23), .int (F 24), .ref q9, .ref q10, .ref q11, .long (J 28)])), (q1, .inl (g.2 0, 376, .inl al))] U.heap ∧ GK g U ∧ va_D (fun _ => True) [(qM, .inr (9, [.int (F 0), .ref q1, .ref q2, .ref q3, .int (F 4), .int (F 5), .int (F 6), .int (F 7), .int (F 8), .int (F 9), .long (J 10), .int (F 11), .int (F 12), .int (F 13), .ref q4, .int (F 15), .ref q5, .ref q6, .ref q7, .int (F 19), .ref q8, .int (F 21), .int (F 22), .int (F 23), .int (F 24), .ref q9, .ref q10, .ref q11, .long (J 28)])), (q1, .inl (g.2 0, 376, .inl al))])) (va_Qi (fun (r : Int32) (u : (Nat → Int32) × (Nat → Int32)) => Q r u.1 u.2) (fun (u : (Nat → Int32) × (Nat → Int32)) t => va_P g.1 vwCl [(qM, .inr (9, [.int (u.1 0), .ref q1, .ref q2, .ref q3, .int (u.1 4), .int (u.1 5), .int (u.1 6), .int (u.1 7), .int (u.1 8), .int (u.1 9), .long (J 10), .int (u.1 11), .int (u.1 12), .int (u.1 13), .ref q4, .int (u.1 15), .ref q5, .ref q6, .ref q7, .int (u.1 19), .ref q8, .int (u.1 21), .int (u.1 22), .int (u.1 23), .int (u.1 24), .ref q9, .ref q10, .ref q11, .long (J 28)])), (q1, .inl (g.2 0, 376, .inl u.2))] t.heap ∧ va_D (va_A [(qM, .inr (9, [.int (F 0), .ref q1, .ref q2, .ref q3, .int (F 4), .int (F 5), .int (F 6), .int (F 7), .int (F 8), .int (F 9), .long (J 10), .int (F 11), .int (F 12), .int (F 13), .ref q4, .int (F 15), .ref q5, .ref q6, .ref q7, .int (F 19), .ref q8, .int (F 21), .int (F 22), .int (F 23), .int (F 24), .ref q9, .ref q10, .ref q11, .long (J 28)])), (q1, .inl (g.2 0, 376, .inl al))] sz) [(qM, .inr (9, [.int (u.1 0), .ref q1, .ref q2, .ref q3, .int (u.1 4), .int (u.1 5), .int (u.1 6), .int (u.1 7), .int (u.1 8), .int (u.1 9), .long (J 10), .int (u.1 11), .int (u.1 12), .int (u.1 13), .ref q4, .int (u.1 15), .ref q5, .ref q6, .ref q7, .int (u.1 19), .ref q8, .int (u.1 21), .int (u.1 22), .int (u.1 23), .int (u.1 24), .ref q9, .ref q10, .ref q11, .long (J 28)])), (q1, .inl (g.2 0, 376, .inl u.2))]) (va_A [(qM, .inr (9, [.int (F 0), .ref q1, .ref q2, .ref q3, .int (F 4), .int (F 5), .int (F 6), .int (F 7), .int (F 8), .int (F 9), .long (J 10), .int (F 11), .int (F 12), .int (F 13), .ref q4, .int (F 15), .ref q5, .ref q6, .ref q7, .int (F 19), .ref q8, .int (F 21), .int (F 22), .int (F 23), .int (F 24), .ref q9, .ref q10, .ref q11, .long (J 28)])), (q1, .inl (g.2 0, 376, .inl al))] sz)) 0 0 (va_A [(qM, .inr (9, [.int (F 0), .ref q1, .ref q2, .ref q3, .int (F 4), .int (F 5), .int (F 6), .int (F 7), .int (F 8), .int (F 9), .long (J 10), .int (F 11), .int (F 12), .int (F 13), .ref q4, .int (F 15), .ref q5, .ref q6, .ref q7, .int (F 19), .ref q8, .int (F 21), .int (F 22), .int (F 23), .int (F 24), .ref q9, .ref q10, .ref q11, .long (J 28)])), (q1, .inl (g.2 0, 376, .inl al))] sz) := by
  refine Met.ofW (cc := cX9_limit) (maxL := 2) (ret := (some .boolean)) (by decide) rfl ?_
  intro p e s m args below meth c s₁ B hml hv'
  obtain ⟨rfl, hsz, hP, hG, hD0⟩ := hv'
  have S : CallFix p m c cX9_limit 2 s _ wsX9_limit RX9 := ⟨B.exec, B.bytes, hml, findClass_of_methodNamed B.named, atoms_spec (ws := wsX9_limit) B.pre⟩
  obtain ⟨hx, hb, hml, hown, hts⟩ := id S
  have hK := hG.1
  have hr := B.returns
  have hlocks := B.notSynchronized
  subst hsz
  have hD := hD0.self (sz := s.heap.size)
  generalize hAe : va_A [(qM, .inr (9, [.int (F 0), .ref q1, .ref q2, .ref q3, .int (F 4), .int (F 5), .int (F 6), .int (F 7), .int (F 8), .int (F 9), .long (J 10), .int (F 11), .int (F 12), .int (F 13), .ref q4, .int (F 15), .ref q5, .ref q6, .ref q7, .int (F 19), .ref q8, .int (F 21), .int (F 22), .int (F 23), .int (F 24), .ref q9, .ref q10, .ref q11, .long (J 28)])), (q1, .inl (g.2 0, 376, .inl al))] s.heap.size = A at hD ⊢
  have hA : ∀ q : Nat, s.heap.size ≤ q → A q := fun q h => by rw [← hAe]; exact Or.inr h
  have hS : va_S A s.heap s.heap [] := va_S.rf
  clear hD0 hAe
  have hl := lv_entry ([.ref qM, .int p1]) (n := 2) (Nat.le_of_ble_eq_true rfl)
  rw [lg_entry_eq]
  generalize (lg_sl ([.ref qM, .int p1]) ++ List.replicate (2 - (lg_sl ([.ref qM, .int p1])).length) Slot.unset).toArray = ls at hl ⊢
  have hl : lv_has ls 2 [(0, .ref qM), (1, .int p1)] := hl
  unfold vX9_limit at hv
  refine lv_aload_n hx hb dX9_limit_0 rfl (lv_at hl 0 rfl) ?_
  refine lv_iconst (v := (0 : Int32)) hx hb dX9_limit_1 (by decide) ?_
  refine va_put (D := g.1) (ci := 9) (v := .int (0 : Int32)) (ty := .int) (C := RX9) (T := TX9) (N := 29) hx hb hts inX9_limit_9 tyX9 tyX9_ok nmX9 hown hK hP hD hS 0 rfl rfl 0 (by decide) (hts (.fieldLink RX9 51 "RangeCodesModel" "raised" "I") (List.mem_of_getElem? (i := 1) rfl)) (fun _ h9 => h9) rfl (by decide +kernel) rfl rfl (Nat.le_of_ble_eq_true rfl) dX9_limit_2 (fun H locs hP hD hS => ?_)
  have hP : va_P g.1 vwCl [(qM, .inr (9, [.int (0 : Int32), .ref q1, .ref q2, .ref q3, .int (F 4), .int (F 5), .int (F 6), .int (F 7), .int (F 8), .int (F 9), .long (J 10), .int (F 11), .int (F 12), .int (F 13), .ref q4, .int (F 15), .ref q5, .ref q6, .ref q7, .int (F 19), .ref q8, .int (F 21), .int (F 22), .int (F 23), .int (F 24), .ref q9, .ref q10, .ref q11, .long (J 28)])), (q1, .inl (g.2 0, 376, .inl al))] H := hP
  have hD : va_D A [(qM, .inr (9, [.int (0 : Int32), .ref q1, .ref q2, .ref q3, .int (F 4), .int (F 5), .int (F 6), .int (F 7), .int (F 8), .int (F 9), .long (J 10), .int (F 11), .int (F 12), .int (F 13), .ref q4, .int (F 15), .ref q5, .ref q6, .ref q7, .int (F 19), .ref q8, .int (F 21), .int (F 22), .int (F 23), .int (F 24), .ref q9, .ref q10, .ref q11, .long (J 28)])), (q1, .inl (g.2 0, 376, .inl al))] := hD
  refine lv_iload_n hx hb dX9_limit_5 rfl (lv_at hl 1 rfl) ?_
  refine lv_iconst (v := (1 : Int32)) hx hb dX9_limit_6 (by decide) ?_
  refine lv_sipush (v := (9999 : Int32)) hx hb dX9_limit_7 (by decide) ?_
  obtain ⟨ho_1, hv⟩ := hv
  refine vp_callSi (W.runS (As := [.int p1, .int (1 : Int32), .int (9999 : Int32)]) (rest := []) S (wX9_in l g p1 (1 : Int32) (9999 : Int32) (sX9_in p1 (1 : Int32) (9999 : Int32) ho_1)) (va_cwS 3 hts gX9_limit_X9_in rfl rfl rfl (by decide +kernel) ⟨Nat.le_of_ble_eq_true rfl, Nat.le_of_ble_eq_true rfl⟩) ⟨blindRO, fun U hU hW => ⟨rfl, by rw [hU]; exact hP.sub (ws' := []) [] rfl, hG.warm hW⟩⟩ rfl rfl hl.1 rfl (lv_room (Nat.le_of_ble_eq_true rfl)) dX9_limit_10 ⟨Nat.le_of_ble_eq_true rfl, Nat.le_of_ble_eq_true rfl⟩) (fun r_10 hr_10 => ?_)
  have hv := hv r_10 hr_10
  obtain ⟨hvt, hvf⟩ := hv
  refine lv_if_eq (tgt := 26) hx hb dX9_limit_13 (by decide) (fun hc => ?_) (fun hc => ?_)
  · have hv := hvt hc
    refine lv_iconst (v := (0 : Int32)) hx hb dX9_limit_26 (by decide) ?_
    have hP9 := hP.sub (ws' := [(qM, .inr (9, [.int ((upd F 0 (0 : Int32)) 0), .ref q1, .ref q2, .ref q3, .int ((upd F 0 (0 : Int32)) 4), .int ((upd F 0 (0 : Int32)) 5), .int ((upd F 0 (0 : Int32)) 6), .int ((upd F 0 (0 : Int32)) 7), .int ((upd F 0 (0 : Int32)) 8), .int ((upd F 0 (0 : Int32)) 9), .long (J 10), .int ((upd F 0 (0 : Int32)) 11), .int ((upd F 0 (0 : Int32)) 12), .int ((upd F 0 (0 : Int32)) 13), .ref q4, .int ((upd F 0 (0 : Int32)) 15), .ref q5, .ref q6, .ref q7, .int ((upd F 0 (0 : Int32)) 19), .ref q8, .int ((upd F 0 (0 : Int32)) 21), .int ((upd F 0 (0 : Int32)) 22), .int ((upd F 0 (0 : Int32)) 23), .int ((upd F 0 (0 : Int32)) 24), .ref q9, .ref q10, .ref q11, .long (J 28)])), (q1, .inl (g.2 0, 376, .inl al))]) [0, 1] rfl
    have hD9 := hD.sub (ws' := [(qM, .inr (9, [.int ((upd F 0 (0 : Int32)) 0), .ref q1, .ref q2, .ref q3, .int ((upd F 0 (0 : Int32)) 4), .int ((upd F 0 (0 : Int32)) 5), .int ((upd F 0 (0 : Int32)) 6), .int ((upd F 0 (0 : Int32)) 7), .int ((upd F 0 (0 : Int32)) 8), .int ((upd F 0 (0 : Int32)) 9), .long (J 10), .int ((upd F 0 (0 : Int32)) 11), .int ((upd F 0 (0 : Int32)) 12), .int ((upd F 0 (0 : Int32)) 13), .ref q4, .int ((upd F 0 (0 : Int32)) 15), .ref q5, .ref q6, .ref q7, .int ((upd F 0 (0 : Int32)) 19), .ref q8, .int ((upd F 0 (0 : Int32)) 21), .int ((upd F 0 (0 : Int32)) 22), .int ((upd F 0 (0 : Int32)) 23), .int ((upd F 0 (0 : Int32)) 24), .ref q9, .ref q10, .ref q11, .long (J 28)])), (q1, .inl (g.2 0, 376, .inl al))]) [0, 1] (by decide) rfl
    exact W.zret (v := (0 : Int32)) (ty := .boolean) hx hb hr rfl (fun t ht hW => ⟨⟨_, ((upd F 0 (0 : Int32)), al), rfl, hv, by rw [ht]; exact hP9, hD9⟩, hS.F ht⟩) hS.2.2 dX9_limit_27
  · have hv := hvf hc
    refine lv_aload_n hx hb dX9_limit_16 rfl (lv_at hl 0 rfl) ?_
    refine va_get (D := g.1) (ci := 9) (v := .ref q1) (C := RX9) (T := TX9) (N := 29) hx hb hts inX9_limit_9 hown hK hP 0 rfl rfl 1 (by decide) (hts (.fieldLink RX9 7 "RangeCodesModel" "all" "[I") (List.mem_of_getElem? (i := 2) rfl)) (fun _ h9 => h9) rfl dX9_limit_17 ?_
    refine lv_iconst (v := (1 : Int32)) hx hb dX9_limit_20 (by decide) ?_
    refine va_iald hx hb hK hP 1 0 rfl rfl (by unfold vp_in; decide) dX9_limit_21 ?_
    refine lv_iload_n hx hb dX9_limit_22 rfl (lv_at hl 1 rfl) ?_
    obtain ⟨hvt, hvf⟩ := hv
    refine lv_icmp_ne (tgt := 28) hx hb dX9_limit_23 (by decide) (fun hc => ?_) (fun hc => ?_)
    · have hv := hvt hc
      refine lv_aload_n hx hb dX9_limit_28 rfl (lv_at hl 0 rfl) ?_
      refine va_get (D := g.1) (ci := 9) (v := .ref q1) (C := RX9) (T := TX9) (N := 29) hx hb hts inX9_limit_9 hown hK hP 0 rfl rfl 1 (by decide) (hts (.fieldLink RX9 7 "RangeCodesModel" "all" "[I") (List.mem_of_getElem? (i := 2) rfl)) (fun _ h9 => h9) rfl dX9_limit_29 ?_
      refine lv_iconst (v := (1 : Int32)) hx hb dX9_limit_32 (by decide) ?_
      refine lv_iload_n hx hb dX9_limit_33 rfl (lv_at hl 1 rfl) ?_
      refine va_iast hx hb hK hP hD hS 1 0 rfl rfl (by unfold vp_in; decide) dX9_limit_34 (fun H locs hP hD hS => ?_)
      have hP : va_P g.1 vwCl [(qM, .inr (9, [.int (0 : Int32), .ref q1, .ref q2, .ref q3, .int (F 4), .int (F 5), .int (F 6), .int (F 7), .int (F 8), .int (F 9), .long (J 10), .int (F 11), .int (F 12), .int (F 13), .ref q4, .int (F 15), .ref q5, .ref q6, .ref q7, .int (F 19), .ref q8, .int (F 21), .int (F 22), .int (F 23), .int (F 24), .ref q9, .ref q10, .ref q11, .long (J 28)])), (q1, .inl (g.2 0, 376, .inl (upd al 1 p1)))] H := hP
      have hD : va_D A [(qM, .inr (9, [.int (0 : Int32), .ref q1, .ref q2, .ref q3, .int (F 4), .int (F 5), .int (F 6), .int (F 7), .int (F 8), .int (F 9), .long (J 10), .int (F 11), .int (F 12), .int (F 13), .ref q4, .int (F 15), .ref q5, .ref q6, .ref q7, .int (F 19), .ref q8, .int (F 21), .int (F 22), .int (F 23), .int (F 24), .ref q9, .ref q10, .ref q11, .long (J 28)])), (q1, .inl (g.2 0, 376, .inl (upd al 1 p1)))] := hD
      refine lv_iconst (v := (1 : Int32)) hx hb dX9_limit_35 (by decide) ?_
      have hP9 := hP.sub (ws' := [(qM, .inr (9, [.int ((upd F 0 (0 : Int32)) 0), .ref q1, .ref q2, .ref q3, .int ((upd F 0 (0 : Int32)) 4), .int ((upd F 0 (0 : Int32)) 5), .int ((upd F 0 (0 : Int32)) 6), .int ((upd F 0 (0 : Int32)) 7), .int ((upd F 0 (0 : Int32)) 8), .int ((upd F 0 (0 : Int32)) 9), .long (J 10), .int ((upd F 0 (0 : Int32)) 11), .int ((upd F 0 (0 : Int32)) 12), .int ((upd F 0 (0 : Int32)) 13), .ref q4, .int ((upd F 0 (0 : Int32)) 15), .ref q5, .ref q6, .ref q7, .int ((upd F 0 (0 : Int32)) 19), .ref q8, .int ((upd F 0 (0 : Int32)) 21), .int ((upd F 0 (0 : Int32)) 22), .int ((upd F 0 (0 : Int32)) 23), .int ((upd F 0 (0 : Int32)) 24), .ref q9, .ref q10, .ref q11, .long (J 28)])), (q1, .inl (g.2 0, 376, .inl (upd al 1 p1)))]) [0, 1] rfl
      have hD9 := hD.sub (ws' := [(qM, .inr (9, [.int ((upd F 0 (0 : Int32)) 0), .ref q1, .ref q2, .ref q3, .int ((upd F 0 (0 : Int32)) 4), .int ((upd F 0 (0 : Int32)) 5), .int ((upd F 0 (0 : Int32)) 6), .int ((upd F 0 (0 : Int32)) 7), .int ((upd F 0 (0 : Int32)) 8), .int ((upd F 0 (0 : Int32)) 9), .long (J 10), .int ((upd F 0 (0 : Int32)) 11), .int ((upd F 0 (0 : Int32)) 12), .int ((upd F 0 (0 : Int32)) 13), .ref q4, .int ((upd F 0 (0 : Int32)) 15), .ref q5, .ref q6, .ref q7, .int ((upd F 0 (0 : Int32)) 19), .ref q8, .int ((upd F 0 (0 : Int32)) 21), .int ((upd F 0 (0 : Int32)) 22), .int ((upd F 0 (0 : Int32)) 23), .int ((upd F 0 (0 : Int32)) 24), .ref q9, .ref q10, .ref q11, .long (J 28)])), (q1, .inl (g.2 0, 376, .inl (upd al 1 p1)))]) [0, 1] (by decide) rfl
      exact W.zret (v := (1 : Int32)) (ty := .boolean) hx hb hr rfl (fun t ht hW => ⟨⟨_, ((upd F 0 (0 : Int32)), (upd al 1 p1)), rfl, hv, by rw [ht]; exact hP9, hD9⟩, hS.F ht⟩) hS.2.2 dX9_limit_36
    · have hv := hvf hc
      refine lv_iconst (v := (0 : Int32)) hx hb dX9_limit_26 (by decide) ?_
      have hP9 := hP.sub (ws' := [(qM, .inr (9, [.int ((upd F 0 (0 : Int32)) 0), .ref q1, .ref q2, .ref q3, .int ((upd F 0 (0 : Int32)) 4), .int ((upd F 0 (0 : Int32)) 5), .int ((upd F 0 (0 : Int32)) 6), .int ((upd F 0 (0 : Int32)) 7), .int ((upd F 0 (0 : Int32)) 8), .int ((upd F 0 (0 : Int32)) 9), .long (J 10), .int ((upd F 0 (0 : Int32)) 11), .int ((upd F 0 (0 : Int32)) 12), .int ((upd F 0 (0 : Int32)) 13), .ref q4, .int ((upd F 0 (0 : Int32)) 15), .ref q5, .ref q6, .ref q7, .int ((upd F 0 (0 : Int32)) 19), .ref q8, .int ((upd F 0 (0 : Int32)) 21), .int ((upd F 0 (0 : Int32)) 22), .int ((upd F 0 (0 : Int32)) 23), .int ((upd F 0 (0 : Int32)) 24), .ref q9, .ref q10, .ref q11, .long (J 28)])), (q1, .inl (g.2 0, 376, .inl al))]) [0, 1] rfl
      have hD9 := hD.sub (ws' := [(qM, .inr (9, [.int ((upd F 0 (0 : Int32)) 0), .ref q1, .ref q2, .ref q3, .int ((upd F 0 (0 : Int32)) 4), .int ((upd F 0 (0 : Int32)) 5), .int ((upd F 0 (0 : Int32)) 6), .int ((upd F 0 (0 : Int32)) 7), .int ((upd F 0 (0 : Int32)) 8), .int ((upd F 0 (0 : Int32)) 9), .long (J 10), .int ((upd F 0 (0 : Int32)) 11), .int ((upd F 0 (0 : Int32)) 12), .int ((upd F 0 (0 : Int32)) 13), .ref q4, .int ((upd F 0 (0 : Int32)) 15), .ref q5, .ref q6, .ref q7, .int ((upd F 0 (0 : Int32)) 19), .ref q8, .int ((upd F 0 (0 : Int32)) 21), .int ((upd F 0 (0 : Int32)) 22), .int ((upd F 0 (0 : Int32)) 23), .int ((upd F 0 (0 : Int32)) 24), .ref q9, .ref q10, .ref q11, .long (J 28)])), (q1, .inl (g.2 0, 376, .inl al))]) [0, 1] (by decide) rfl
      exact W.zret (v := (0 : Int32)) (ty := .boolean) hx hb hr rfl (fun t ht hW => ⟨⟨_, ((upd F 0 (0 : Int32)), al), rfl, hv, by rw [ht]; exact hP9, hD9⟩, hS.F ht⟩) hS.2.2 dX9_limit_27
abbrev preX9_limit (T : Cd) (G0 : Lg) (G1 : Lg) (lim : Nat) (F : Nat → Int32) (J : Nat → Int64) (al : Nat → Int32) (p1 : Int32) : Prop := fcR T G0 G1 lim al
abbrev postX9_limit (T : Cd) (G0 : Lg) (G1 : Lg) (lim : Nat) (F : Nat → Int32) (J : Nat → Int64) (al : Nat → Int32) (p1 : Int32) (r : Int32) (F' : Nat → Int32) (al' : Nat → Int32) : Prop := r.toInt = spLimit lim p1.toInt ∧ fcR T G0 G1 (nxLim lim p1.toInt) al' ∧ kpA al al'
theorem sX9_limit (T : Cd) (G0 : Lg) (G1 : Lg) (lim : Nat) (F : Nat → Int32) (J : Nat → Int64) (al : Nat → Int32) (p1 : Int32) (H : preX9_limit T G0 G1 lim F J al p1) : vX9_limit F J al p1 (postX9_limit T G0 G1 lim F J al p1) := by
  obtain ⟨hT, h0, h1, hlim, hl9, hl1⟩ := id H
  refine ⟨trivial, fun r hr => ?_⟩
  have hr : r = if 1 ≤ p1.toInt ∧ p1.toInt ≤ 9999 then 1 else 0 := hr
  unfold postX9_limit spLimit nxLim
  rw [hr, q_if1]
  refine ⟨fun a => ⟨by rw [if_neg (fun q => a q.1)]; rfl, by rw [if_neg a]; exact H, kpA_rf al⟩, fun a => ?_⟩
  have a := Decidable.not_not.mp a
  rw [fa_eq (al 1), hlim, if_pos a]
  refine ⟨fun b => ⟨by rw [if_pos ⟨a, fun q => b q.symm⟩]; rfl, ⟨?_, mG_ne h0 (by omega) _, mG_ne h1 (by omega) _, by rw [upd_eq]; omega, by omega, by omega⟩, kpA_up (by omega)⟩, fun b => ⟨by rw [if_neg (fun q => q.2 b.symm)]; rfl, ?_, kpA_rf al⟩⟩
  · have hn5 := hT.1.2
    refine ⟨?_, fun q hq => ?_, fun q hq => ?_, fun q hq => ?_⟩
    · rw [upd_ne (by omega)]; exact hT.1
    · show (upd al 1 p1 (5 + 3 * q)).toInt = _ ∧ _
      rw [upd_ne (by omega)]; exact hT.2.1 q hq
    · show (upd al 1 p1 (6 + 3 * q)).toInt = _ ∧ _
      rw [upd_ne (by omega)]; exact hT.2.2.1 q hq
    · show (upd al 1 p1 (7 + 3 * q)).toInt = _ ∧ _
      rw [upd_ne (by omega)]; exact hT.2.2.2 q hq
  · have : p1.toInt.toNat = lim := by omega
    rw [this]; exact H
set_option maxRecDepth 20000 in
theorem ggX9_vote_X9_isPart : GoodIn wsX9_vote wsX9_isPart := goodIn_r _ [6, 7, 8, 9, 5, 10, 19, 20, 21, 22, 23, 24, 25, 26, 27, 28, 29, 30, 31, 32, 33, 34, 35, 36, 37, 38, 39, 40, 41, 42, 43, 44, 45, 46, 47] (by decide +kernel) (by decide +kernel)
set_option maxRecDepth 20000 in
theorem gX9_vote_X9_isPart : GoodIn wsX9_vote (wsV RX9 192 RX9 yX9_isPart wsX9_isPart) := goodIn_app (goodIn_of _ (by decide +kernel)) ggX9_vote_X9_isPart
set_option maxRecDepth 20000 in
theorem ggX9_vote_X9_in : GoodIn wsX9_vote wsX9_in := goodIn_r _ [10] (by decide +kernel) (by decide +kernel)
set_option maxRecDepth 20000 in
theorem gX9_vote_X9_in : GoodIn wsX9_vote (va_wsS RX9 63 yX9_in wsX9_in) := goodIn_app (goodIn_of _ (by decide +kernel)) ggX9_vote_X9_in
set_option maxRecDepth 20000 in
theorem ggX9_vote_X9_of : GoodIn wsX9_vote wsX9_of := goodIn_r _ [14, 7, 19, 20, 21, 22, 23, 24, 25, 26, 27, 28, 29, 30, 31, 32, 33, 34, 35, 36, 37, 38, 39, 40, 41, 42, 43, 44, 45, 46, 47] (by decide +kernel) (by decide +kernel)
set_option maxRecDepth 20000 in
theorem gX9_vote_X9_of : GoodIn wsX9_vote (wsV RX9 195 RX9 yX9_of wsX9_of) := goodIn_app (goodIn_of _ (by decide +kernel)) ggX9_vote_X9_of
set_option maxRecDepth 20000 in
theorem ggX9_vote_X9_lays : GoodIn wsX9_vote wsX9_lays := goodIn_r _ [18, 7, 19, 20, 21, 22, 23, 24, 25, 26, 27, 28, 29, 30, 31, 32, 33, 34, 35, 36, 37, 38, 39, 40, 41, 42, 43, 44, 45, 46, 47] (by decide +kernel) (by decide +kernel)
set_option maxRecDepth 20000 in
theorem gX9_vote_X9_lays : GoodIn wsX9_vote (wsV RX9 198 RX9 yX9_lays wsX9_lays) := goodIn_app (goodIn_of _ (by decide +kernel)) ggX9_vote_X9_lays
theorem dX9_vote_0 : decode cX9_vote 0 = .ok (.aload_n 0, 1) := by decide +kernel
theorem dX9_vote_1 : decode cX9_vote 1 = .ok (.iconst 0, 1) := by decide +kernel
theorem dX9_vote_2 : decode cX9_vote 2 = .ok (.putfield 51, 3) := by decide +kernel
theorem dX9_vote_5 : decode cX9_vote 5 = .ok (.aload_n 0, 1) := by decide +kernel
theorem dX9_vote_6 : decode cX9_vote 6 = .ok (.iload_n 1, 1) := by decide +kernel
theorem dX9_vote_7 : decode cX9_vote 7 = .ok (.invokevirtual 192, 3) := by decide +kernel
theorem dX9_vote_10 : decode cX9_vote 10 = .ok (.ifCond .eq 23, 3) := by decide +kernel
theorem dX9_vote_13 : decode cX9_vote 13 = .ok (.iload_n 2, 1) := by decide +kernel
theorem dX9_vote_14 : decode cX9_vote 14 = .ok (.iconst 1, 1) := by decide +kernel
theorem dX9_vote_15 : decode cX9_vote 15 = .ok (.bipush 9, 2) := by decide +kernel
theorem dX9_vote_17 : decode cX9_vote 17 = .ok (.invokestatic 63, 3) := by decide +kernel
theorem dX9_vote_20 : decode cX9_vote 20 = .ok (.ifCond .eq 13, 3) := by decide +kernel
theorem dX9_vote_23 : decode cX9_vote 23 = .ok (.aload_n 0, 1) := by decide +kernel
theorem dX9_vote_24 : decode cX9_vote 24 = .ok (.iload_n 1, 1) := by decide +kernel
theorem dX9_vote_25 : decode cX9_vote 25 = .ok (.iconst 1, 1) := by decide +kernel
theorem dX9_vote_26 : decode cX9_vote 26 = .ok (.invokevirtual 195, 3) := by decide +kernel
theorem dX9_vote_29 : decode cX9_vote 29 = .ok (.iload_n 2, 1) := by decide +kernel
theorem dX9_vote_30 : decode cX9_vote 30 = .ok (.if_icmp .ne 5, 3) := by decide +kernel
theorem dX9_vote_33 : decode cX9_vote 33 = .ok (.iconst 0, 1) := by decide +kernel
theorem dX9_vote_34 : decode cX9_vote 34 = .ok (.ireturn, 1) := by decide +kernel
theorem dX9_vote_35 : decode cX9_vote 35 = .ok (.aload_n 0, 1) := by decide +kernel
theorem dX9_vote_36 : decode cX9_vote 36 = .ok (.iload_n 1, 1) := by decide +kernel
theorem dX9_vote_37 : decode cX9_vote 37 = .ok (.iconst 1, 1) := by decide +kernel
theorem dX9_vote_38 : decode cX9_vote 38 = .ok (.iload_n 2, 1) := by decide +kernel
theorem dX9_vote_39 : decode cX9_vote 39 = .ok (.invokevirtual 198, 3) := by decide +kernel
theorem dX9_vote_42 : decode cX9_vote 42 = .ok (.iconst 1, 1) := by decide +kernel
theorem dX9_vote_43 : decode cX9_vote 43 = .ok (.ireturn, 1) := by decide +kernel
abbrev rmX9_vote : Room := { frames := 2, cells := 0, slots := 0, locals := 43 }
theorem inX9_vote_9 : ∀ w ∈ wsX90, w ∈ wsX9_vote := by decide +kernel
def vX9_vote (F : Nat → Int32) (J : Nat → Int64) (al : Nat → Int32) (p1 : Int32) (p2 : Int32) (Q : Int32 → (Nat → Int32) → (Nat → Int32) → Prop) : Prop := (∃ (n_7 : Nat), preX9_isPart n_7 (upd F 0 (0 : Int32)) J al p1 ∧ (∀ r_7 : Int32, postX9_isPart n_7 (upd F 0 (0 : Int32)) J al p1 r_7 → ((r_7 = 0 → (Q (0 : Int32) (upd F 0 (0 : Int32)) al)) ∧ (¬ r_7 = 0 → (preX9_in p2 (1 : Int32) (9 : Int32) ∧ (∀ r_17 : Int32, postX9_in p2 (1 : Int32) (9 : Int32) r_17 → ((r_17 = 0 → (Q (0 : Int32) (upd F 0 (0 : Int32)) al)) ∧ (¬ r_17 = 0 → (∃ (p_26 : Nat) (w_26 : Nat), preX9_of p_26 w_26 (upd F 0 (0 : Int32)) J al p1 (1 : Int32) ∧ (∀ r_26 : Int32, postX9_of p_26 w_26 (upd F 0 (0 : Int32)) J al p1 (1 : Int32) r_26 → ((¬ r_26 = p2 → (∃ (p_39 : Nat) (w_39 : Nat), preX9_lays p_39 w_39 (upd F 0 (0 : Int32)) J al p1 (1 : Int32) p2 ∧ (∀ (al_39 : Nat → Int32), postX9_lays p_39 w_39 (upd F 0 (0 : Int32)) J al p1 (1 : Int32) p2 al_39 → (Q (1 : Int32) (upd F 0 (0 : Int32)) al_39)))) ∧ (r_26 = p2 → (Q (0 : Int32) (upd F 0 (0 : Int32)) al)))))))))))))
set_option maxHeartbeats 4000000 in
set_option maxRecDepth 100000 in
theorem wX9_vote (l : Launch) (g : GP) (qM : Nat) (q1 : Nat) (q2 : Nat) (q3 : Nat) (q4 : Nat) (q5 : Nat) (q6 : Nat) (q7 : Nat) (q8 : Nat) (q9 : Nat) (q10 : Nat) (q11 : Nat) (sz : Nat) (F : Nat → Int32) (J : Nat → Int64) (al : Nat → Int32) (p1 : Int32) (p2 : Int32) {Q : Int32 → (Nat → Int32) → (Nat → Int32) → Prop} (hv : vX9_vote F J al p1 p2 Q) : Met l yX9_vote wsX9_vote rmX9_vote (va_Pc [.ref qM, .int p1, .int p2] (fun U => U.heap.size = sz ∧ va_P g.1 vwCl [(qM, .inr (9, [.int (F 0), .ref q1, .ref q2, .ref q3, .int (F 4), .int (F 5), .int (F 6), .int (F 7), .int (F 8), .int (F 9), .long (J 10), .int (F 11), .int (F 12), .int (F 13), .ref q4, .int (F 15), .ref q5, .ref q6, .ref q7, .int (F 19), .ref q8, .int (F 21), .int (F 22), .int (F 23), .int (F 24), .ref q9, .ref q10, .ref q11, .long (J 28)])), (q1, .inl (g.2 0, 376, .inl al))] U.heap ∧ GK g U ∧ va_D (fun _ => True) [(qM, .inr (9, [.int (F 0), .ref q1, .ref q2, .ref q3, .int (F 4), .int (F 5), .int (F 6), .int (F 7), .int (F 8), .int (F 9), .long (J 10), .int (F 11), .int (F 12), .int (F 13), .ref q4, .int (F 15), .ref q5, .ref q6, .ref q7, .int (F 19), .ref q8, .int (F 21), .int (F 22), .int (F 23), .int (F 24), .ref q9, .ref q10, .ref q11, .long (J 28)])), (q1, .inl (g.2 0, 376, .inl al))])) (va_Qi (fun (r : Int32) (u : (Nat → Int32) × (Nat → Int32)) => Q r u.1 u.2) (fun (u : (Nat → Int32) × (Nat → Int32)) t => va_P g.1 vwCl [(qM, .inr (9, [.int (u.1 0), .ref q1, .ref q2, .ref q3, .int (u.1 4), .int (u.1 5), .int (u.1 6), .int (u.1 7), .int (u.1 8), .int (u.1 9), .long (J 10), .int (u.1 11), .int (u.1 12), .int (u.1 13), .ref q4, .int (u.1 15), .ref q5, .ref q6, .ref q7, .int (u.1 19), .ref q8, .int (u.1 21), .int (u.1 22), .int (u.1 23), .int (u.1 24), .ref q9, .ref q10, .ref q11, .long (J 28)])), (q1, .inl (g.2 0, 376, .inl u.2))] t.heap ∧ va_D (va_A [(qM, .inr (9, [.int (F 0), .ref q1, .ref q2, .ref q3, .int (F 4), .int (F 5), .int (F 6), .int (F 7), .int (F 8), .int (F 9), .long (J 10), .int (F 11), .int (F 12), .int (F 13), .ref q4, .int (F 15), .ref q5, .ref q6, .ref q7, .int (F 19), .ref q8, .int (F 21), .int (F 22), .int (F 23), .int (F 24), .ref q9, .ref q10, .ref q11, .long (J 28)])), (q1, .inl (g.2 0, 376, .inl al))] sz) [(qM, .inr (9, [.int (u.1 0), .ref q1, .ref q2, .ref q3, .int (u.1 4), .int (u.1 5), .int (u.1 6), .int (u.1 7), .int (u.1 8), .int (u.1 9), .long (J 10), .int (u.1 11), .int (u.1 12), .int (u.1 13), .ref q4, .int (u.1 15), .ref q5, .ref q6, .ref q7, .int (u.1 19), .ref q8, .int (u.1 21), .int (u.1 22), .int (u.1 23), .int (u.1 24), .ref q9, .ref q10, .ref q11, .long (J 28)])), (q1, .inl (g.2 0, 376, .inl u.2))]) (va_A [(qM, .inr (9, [.int (F 0), .ref q1, .ref q2, .ref q3, .int (F 4), .int (F 5), .int (F 6), .int (F 7), .int (F 8), .int (F 9), .long (J 10), .int (F 11), .int (F 12), .int (F 13), .ref q4, .int (F 15), .ref q5, .ref q6, .ref q7, .int (F 19), .ref q8, .int (F 21), .int (F 22), .int (F 23), .int (F 24), .ref q9, .ref q10, .ref q11, .long (J 28)])), (q1, .inl (g.2 0, 376, .inl al))] sz)) 0 0 (va_A [(qM, .inr (9, [.int (F 0), .ref q1, .ref q2, .ref q3, .int (F 4), .int (F 5), .int (F 6), .int (F 7), .int (F 8), .int (F 9), .long (J 10), .int (F 11), .int (F 12), .int (F 13), .ref q4, .int (F 15), .ref q5, .ref q6, .ref q7, .int (F 19), .ref q8, .int (F 21), .int (F 22), .int (F 23), .int (F 24), .ref q9, .ref q10, .ref q11, .long (J 28)])), (q1, .inl (g.2 0, 376, .inl al))] sz) := by
  refine Met.ofW (cc := cX9_vote) (maxL := 3) (ret := (some .boolean)) (by decide) rfl ?_
  intro p e s m args below meth c s₁ B hml hv'
  obtain ⟨rfl, hsz, hP, hG, hD0⟩ := hv'
  have S : CallFix p m c cX9_vote 3 s _ wsX9_vote RX9 := ⟨B.exec, B.bytes, hml, findClass_of_methodNamed B.named, atoms_spec (ws := wsX9_vote) B.pre⟩
  obtain ⟨hx, hb, hml, hown, hts⟩ := id S
  have hK := hG.1
  have hr := B.returns
  have hlocks := B.notSynchronized
  subst hsz
  have hD := hD0.self (sz := s.heap.size)
  generalize hAe : va_A [(qM, .inr (9, [.int (F 0), .ref q1, .ref q2, .ref q3, .int (F 4), .int (F 5), .int (F 6), .int (F 7), .int (F 8), .int (F 9), .long (J 10), .int (F 11), .int (F 12), .int (F 13), .ref q4, .int (F 15), .ref q5, .ref q6, .ref q7, .int (F 19), .ref q8, .int (F 21), .int (F 22), .int (F 23), .int (F 24), .ref q9, .ref q10, .ref q11, .long (J 28)])), (q1, .inl (g.2 0, 376, .inl al))] s.heap.size = A at hD ⊢
  have hA : ∀ q : Nat, s.heap.size ≤ q → A q := fun q h => by rw [← hAe]; exact Or.inr h
  have hS : va_S A s.heap s.heap [] := va_S.rf
  clear hD0 hAe
  have hl := lv_entry ([.ref qM, .int p1, .int p2]) (n := 3) (Nat.le_of_ble_eq_true rfl)
  rw [lg_entry_eq]
  generalize (lg_sl ([.ref qM, .int p1, .int p2]) ++ List.replicate (3 - (lg_sl ([.ref qM, .int p1, .int p2])).length) Slot.unset).toArray = ls at hl ⊢
  have hl : lv_has ls 3 [(0, .ref qM), (1, .int p1), (2, .int p2)] := hl
  unfold vX9_vote at hv
  refine lv_aload_n hx hb dX9_vote_0 rfl (lv_at hl 0 rfl) ?_
  refine lv_iconst (v := (0 : Int32)) hx hb dX9_vote_1 (by decide) ?_
  refine va_put (D := g.1) (ci := 9) (v := .int (0 : Int32)) (ty := .int) (C := RX9) (T := TX9) (N := 29) hx hb hts inX9_vote_9 tyX9 tyX9_ok nmX9 hown hK hP hD hS 0 rfl rfl 0 (by decide) (hts (.fieldLink RX9 51 "RangeCodesModel" "raised" "I") (List.mem_of_getElem? (i := 1) rfl)) (fun _ h9 => h9) rfl (by decide +kernel) rfl rfl (Nat.le_of_ble_eq_true rfl) dX9_vote_2 (fun H locs hP hD hS => ?_)
  have hP : va_P g.1 vwCl [(qM, .inr (9, [.int (0 : Int32), .ref q1, .ref q2, .ref q3, .int (F 4), .int (F 5), .int (F 6), .int (F 7), .int (F 8), .int (F 9), .long (J 10), .int (F 11), .int (F 12), .int (F 13), .ref q4, .int (F 15), .ref q5, .ref q6, .ref q7, .int (F 19), .ref q8, .int (F 21), .int (F 22), .int (F 23), .int (F 24), .ref q9, .ref q10, .ref q11, .long (J 28)])), (q1, .inl (g.2 0, 376, .inl al))] H := hP
  have hD : va_D A [(qM, .inr (9, [.int (0 : Int32), .ref q1, .ref q2, .ref q3, .int (F 4), .int (F 5), .int (F 6), .int (F 7), .int (F 8), .int (F 9), .long (J 10), .int (F 11), .int (F 12), .int (F 13), .ref q4, .int (F 15), .ref q5, .ref q6, .ref q7, .int (F 19), .ref q8, .int (F 21), .int (F 22), .int (F 23), .int (F 24), .ref q9, .ref q10, .ref q11, .long (J 28)])), (q1, .inl (g.2 0, 376, .inl al))] := hD
  refine lv_aload_n hx hb dX9_vote_5 rfl (lv_at hl 0 rfl) ?_
  refine lv_iload_n hx hb dX9_vote_6 rfl (lv_at hl 1 rfl) ?_
  obtain ⟨n_7, ho_1, hv⟩ := hv
  refine vp_callSi (W.runV (As := [.int p1]) (rest := []) S (wX9_isPart l g qM q1 q2 q3 q4 q5 q6 q7 q8 q9 q10 q11 (upd F 0 (0 : Int32)) J al p1 (sX9_isPart n_7 (upd F 0 (0 : Int32)) J al p1 ho_1)) (cwV 1 hts gX9_vote_X9_isPart rfl rfl rfl (by decide +kernel) ⟨Nat.le_of_ble_eq_true rfl, Nat.le_of_ble_eq_true rfl⟩) ⟨blindRO, va_recv hK hP (ci := 9) (q0 := 0) rfl rfl, fun U hU hW => ⟨rfl, by rw [hU]; exact hP.sub (ws' := [(qM, .inr (9, [.int ((upd F 0 (0 : Int32)) 0), .ref q1, .ref q2, .ref q3, .int ((upd F 0 (0 : Int32)) 4), .int ((upd F 0 (0 : Int32)) 5), .int ((upd F 0 (0 : Int32)) 6), .int ((upd F 0 (0 : Int32)) 7), .int ((upd F 0 (0 : Int32)) 8), .int ((upd F 0 (0 : Int32)) 9), .long (J 10), .int ((upd F 0 (0 : Int32)) 11), .int ((upd F 0 (0 : Int32)) 12), .int ((upd F 0 (0 : Int32)) 13), .ref q4, .int ((upd F 0 (0 : Int32)) 15), .ref q5, .ref q6, .ref q7, .int ((upd F 0 (0 : Int32)) 19), .ref q8, .int ((upd F 0 (0 : Int32)) 21), .int ((upd F 0 (0 : Int32)) 22), .int ((upd F 0 (0 : Int32)) 23), .int ((upd F 0 (0 : Int32)) 24), .ref q9, .ref q10, .ref q11, .long (J 28)])), (q1, .inl (g.2 0, 376, .inl al))]) [0, 1] rfl, hG.warm hW⟩⟩ rfl rfl hl.1 rfl (lv_room (Nat.le_of_ble_eq_true rfl)) dX9_vote_7 ⟨Nat.le_of_ble_eq_true rfl, Nat.le_of_ble_eq_true rfl⟩) (fun r_7 hr_7 => ?_)
  have hv := hv r_7 hr_7
  obtain ⟨hvt, hvf⟩ := hv
  refine lv_if_eq (tgt := 33) hx hb dX9_vote_10 (by decide) (fun hc => ?_) (fun hc => ?_)
  · have hv := hvt hc
    refine lv_iconst (v := (0 : Int32)) hx hb dX9_vote_33 (by decide) ?_
    have hP9 := hP.sub (ws' := [(qM, .inr (9, [.int ((upd F 0 (0 : Int32)) 0), .ref q1, .ref q2, .ref q3, .int ((upd F 0 (0 : Int32)) 4), .int ((upd F 0 (0 : Int32)) 5), .int ((upd F 0 (0 : Int32)) 6), .int ((upd F 0 (0 : Int32)) 7), .int ((upd F 0 (0 : Int32)) 8), .int ((upd F 0 (0 : Int32)) 9), .long (J 10), .int ((upd F 0 (0 : Int32)) 11), .int ((upd F 0 (0 : Int32)) 12), .int ((upd F 0 (0 : Int32)) 13), .ref q4, .int ((upd F 0 (0 : Int32)) 15), .ref q5, .ref q6, .ref q7, .int ((upd F 0 (0 : Int32)) 19), .ref q8, .int ((upd F 0 (0 : Int32)) 21), .int ((upd F 0 (0 : Int32)) 22), .int ((upd F 0 (0 : Int32)) 23), .int ((upd F 0 (0 : Int32)) 24), .ref q9, .ref q10, .ref q11, .long (J 28)])), (q1, .inl (g.2 0, 376, .inl al))]) [0, 1] rfl
    have hD9 := hD.sub (ws' := [(qM, .inr (9, [.int ((upd F 0 (0 : Int32)) 0), .ref q1, .ref q2, .ref q3, .int ((upd F 0 (0 : Int32)) 4), .int ((upd F 0 (0 : Int32)) 5), .int ((upd F 0 (0 : Int32)) 6), .int ((upd F 0 (0 : Int32)) 7), .int ((upd F 0 (0 : Int32)) 8), .int ((upd F 0 (0 : Int32)) 9), .long (J 10), .int ((upd F 0 (0 : Int32)) 11), .int ((upd F 0 (0 : Int32)) 12), .int ((upd F 0 (0 : Int32)) 13), .ref q4, .int ((upd F 0 (0 : Int32)) 15), .ref q5, .ref q6, .ref q7, .int ((upd F 0 (0 : Int32)) 19), .ref q8, .int ((upd F 0 (0 : Int32)) 21), .int ((upd F 0 (0 : Int32)) 22), .int ((upd F 0 (0 : Int32)) 23), .int ((upd F 0 (0 : Int32)) 24), .ref q9, .ref q10, .ref q11, .long (J 28)])), (q1, .inl (g.2 0, 376, .inl al))]) [0, 1] (by decide) rfl
    exact W.zret (v := (0 : Int32)) (ty := .boolean) hx hb hr rfl (fun t ht hW => ⟨⟨_, ((upd F 0 (0 : Int32)), al), rfl, hv, by rw [ht]; exact hP9, hD9⟩, hS.F ht⟩) hS.2.2 dX9_vote_34
  · have hv := hvf hc
    refine lv_iload_n hx hb dX9_vote_13 rfl (lv_at hl 2 rfl) ?_
    refine lv_iconst (v := (1 : Int32)) hx hb dX9_vote_14 (by decide) ?_
    refine lv_bipush (v := (9 : Int32)) hx hb dX9_vote_15 (by decide) ?_
    obtain ⟨ho_2, hv⟩ := hv
    refine vp_callSi (W.runS (As := [.int p2, .int (1 : Int32), .int (9 : Int32)]) (rest := []) S (wX9_in l g p2 (1 : Int32) (9 : Int32) (sX9_in p2 (1 : Int32) (9 : Int32) ho_2)) (va_cwS 3 hts gX9_vote_X9_in rfl rfl rfl (by decide +kernel) ⟨Nat.le_of_ble_eq_true rfl, Nat.le_of_ble_eq_true rfl⟩) ⟨blindRO, fun U hU hW => ⟨rfl, by rw [hU]; exact hP.sub (ws' := []) [] rfl, hG.warm hW⟩⟩ rfl rfl hl.1 rfl (lv_room (Nat.le_of_ble_eq_true rfl)) dX9_vote_17 ⟨Nat.le_of_ble_eq_true rfl, Nat.le_of_ble_eq_true rfl⟩) (fun r_17 hr_17 => ?_)
    have hv := hv r_17 hr_17
    obtain ⟨hvt, hvf⟩ := hv
    refine lv_if_eq (tgt := 33) hx hb dX9_vote_20 (by decide) (fun hc => ?_) (fun hc => ?_)
    · have hv := hvt hc
      refine lv_iconst (v := (0 : Int32)) hx hb dX9_vote_33 (by decide) ?_
      have hP9 := hP.sub (ws' := [(qM, .inr (9, [.int ((upd F 0 (0 : Int32)) 0), .ref q1, .ref q2, .ref q3, .int ((upd F 0 (0 : Int32)) 4), .int ((upd F 0 (0 : Int32)) 5), .int ((upd F 0 (0 : Int32)) 6), .int ((upd F 0 (0 : Int32)) 7), .int ((upd F 0 (0 : Int32)) 8), .int ((upd F 0 (0 : Int32)) 9), .long (J 10), .int ((upd F 0 (0 : Int32)) 11), .int ((upd F 0 (0 : Int32)) 12), .int ((upd F 0 (0 : Int32)) 13), .ref q4, .int ((upd F 0 (0 : Int32)) 15), .ref q5, .ref q6, .ref q7, .int ((upd F 0 (0 : Int32)) 19), .ref q8, .int ((upd F 0 (0 : Int32)) 21), .int ((upd F 0 (0 : Int32)) 22), .int ((upd F 0 (0 : Int32)) 23), .int ((upd F 0 (0 : Int32)) 24), .ref q9, .ref q10, .ref q11, .long (J 28)])), (q1, .inl (g.2 0, 376, .inl al))]) [0, 1] rfl
      have hD9 := hD.sub (ws' := [(qM, .inr (9, [.int ((upd F 0 (0 : Int32)) 0), .ref q1, .ref q2, .ref q3, .int ((upd F 0 (0 : Int32)) 4), .int ((upd F 0 (0 : Int32)) 5), .int ((upd F 0 (0 : Int32)) 6), .int ((upd F 0 (0 : Int32)) 7), .int ((upd F 0 (0 : Int32)) 8), .int ((upd F 0 (0 : Int32)) 9), .long (J 10), .int ((upd F 0 (0 : Int32)) 11), .int ((upd F 0 (0 : Int32)) 12), .int ((upd F 0 (0 : Int32)) 13), .ref q4, .int ((upd F 0 (0 : Int32)) 15), .ref q5, .ref q6, .ref q7, .int ((upd F 0 (0 : Int32)) 19), .ref q8, .int ((upd F 0 (0 : Int32)) 21), .int ((upd F 0 (0 : Int32)) 22), .int ((upd F 0 (0 : Int32)) 23), .int ((upd F 0 (0 : Int32)) 24), .ref q9, .ref q10, .ref q11, .long (J 28)])), (q1, .inl (g.2 0, 376, .inl al))]) [0, 1] (by decide) rfl
      exact W.zret (v := (0 : Int32)) (ty := .boolean) hx hb hr rfl (fun t ht hW => ⟨⟨_, ((upd F 0 (0 : Int32)), al), rfl, hv, by rw [ht]; exact hP9, hD9⟩, hS.F ht⟩) hS.2.2 dX9_vote_34
    · have hv := hvf hc
      refine lv_aload_n hx hb dX9_vote_23 rfl (lv_at hl 0 rfl) ?_
      refine lv_iload_n hx hb dX9_vote_24 rfl (lv_at hl 1 rfl) ?_
      refine lv_iconst (v := (1 : Int32)) hx hb dX9_vote_25 (by decide) ?_
      obtain ⟨p_26, w_26, ho_3, hv⟩ := hv
      refine vp_callSi (W.runV (As := [.int p1, .int (1 : Int32)]) (rest := []) S (wX9_of l g qM q1 q2 q3 q4 q5 q6 q7 q8 q9 q10 q11 (upd F 0 (0 : Int32)) J al p1 (1 : Int32) (sX9_of p_26 w_26 (upd F 0 (0 : Int32)) J al p1 (1 : Int32) ho_3)) (cwV 2 hts gX9_vote_X9_of rfl rfl rfl (by decide +kernel) ⟨Nat.le_of_ble_eq_true rfl, Nat.le_of_ble_eq_true rfl⟩) ⟨blindRO, va_recv hK hP (ci := 9) (q0 := 0) rfl rfl, fun U hU hW => ⟨rfl, by rw [hU]; exact hP.sub (ws' := [(qM, .inr (9, [.int ((upd F 0 (0 : Int32)) 0), .ref q1, .ref q2, .ref q3, .int ((upd F 0 (0 : Int32)) 4), .int ((upd F 0 (0 : Int32)) 5), .int ((upd F 0 (0 : Int32)) 6), .int ((upd F 0 (0 : Int32)) 7), .int ((upd F 0 (0 : Int32)) 8), .int ((upd F 0 (0 : Int32)) 9), .long (J 10), .int ((upd F 0 (0 : Int32)) 11), .int ((upd F 0 (0 : Int32)) 12), .int ((upd F 0 (0 : Int32)) 13), .ref q4, .int ((upd F 0 (0 : Int32)) 15), .ref q5, .ref q6, .ref q7, .int ((upd F 0 (0 : Int32)) 19), .ref q8, .int ((upd F 0 (0 : Int32)) 21), .int ((upd F 0 (0 : Int32)) 22), .int ((upd F 0 (0 : Int32)) 23), .int ((upd F 0 (0 : Int32)) 24), .ref q9, .ref q10, .ref q11, .long (J 28)])), (q1, .inl (g.2 0, 376, .inl al))]) [0, 1] rfl, hG.warm hW⟩⟩ rfl rfl hl.1 rfl (lv_room (Nat.le_of_ble_eq_true rfl)) dX9_vote_26 ⟨Nat.le_of_ble_eq_true rfl, Nat.le_of_ble_eq_true rfl⟩) (fun r_26 hr_26 => ?_)
      have hv := hv r_26 hr_26
      refine lv_iload_n hx hb dX9_vote_29 rfl (lv_at hl 2 rfl) ?_
      obtain ⟨hvt, hvf⟩ := hv
      refine lv_icmp_ne (tgt := 35) hx hb dX9_vote_30 (by decide) (fun hc => ?_) (fun hc => ?_)
      · have hv := hvt hc
        refine lv_aload_n hx hb dX9_vote_35 rfl (lv_at hl 0 rfl) ?_
        refine lv_iload_n hx hb dX9_vote_36 rfl (lv_at hl 1 rfl) ?_
        refine lv_iconst (v := (1 : Int32)) hx hb dX9_vote_37 (by decide) ?_
        refine lv_iload_n hx hb dX9_vote_38 rfl (lv_at hl 2 rfl) ?_
        obtain ⟨p_39, w_39, ho_4, hv⟩ := hv
        have hPc := hP.sub (ws' := [(qM, .inr (9, [.int ((upd F 0 (0 : Int32)) 0), .ref q1, .ref q2, .ref q3, .int ((upd F 0 (0 : Int32)) 4), .int ((upd F 0 (0 : Int32)) 5), .int ((upd F 0 (0 : Int32)) 6), .int ((upd F 0 (0 : Int32)) 7), .int ((upd F 0 (0 : Int32)) 8), .int ((upd F 0 (0 : Int32)) 9), .long (J 10), .int ((upd F 0 (0 : Int32)) 11), .int ((upd F 0 (0 : Int32)) 12), .int ((upd F 0 (0 : Int32)) 13), .ref q4, .int ((upd F 0 (0 : Int32)) 15), .ref q5, .ref q6, .ref q7, .int ((upd F 0 (0 : Int32)) 19), .ref q8, .int ((upd F 0 (0 : Int32)) 21), .int ((upd F 0 (0 : Int32)) 22), .int ((upd F 0 (0 : Int32)) 23), .int ((upd F 0 (0 : Int32)) 24), .ref q9, .ref q10, .ref q11, .long (J 28)])), (q1, .inl (g.2 0, 376, .inl al))]) [0, 1] rfl
        have hDc := hD.sub (ws' := [(qM, .inr (9, [.int ((upd F 0 (0 : Int32)) 0), .ref q1, .ref q2, .ref q3, .int ((upd F 0 (0 : Int32)) 4), .int ((upd F 0 (0 : Int32)) 5), .int ((upd F 0 (0 : Int32)) 6), .int ((upd F 0 (0 : Int32)) 7), .int ((upd F 0 (0 : Int32)) 8), .int ((upd F 0 (0 : Int32)) 9), .long (J 10), .int ((upd F 0 (0 : Int32)) 11), .int ((upd F 0 (0 : Int32)) 12), .int ((upd F 0 (0 : Int32)) 13), .ref q4, .int ((upd F 0 (0 : Int32)) 15), .ref q5, .ref q6, .ref q7, .int ((upd F 0 (0 : Int32)) 19), .ref q8, .int ((upd F 0 (0 : Int32)) 21), .int ((upd F 0 (0 : Int32)) 22), .int ((upd F 0 (0 : Int32)) 23), .int ((upd F 0 (0 : Int32)) 24), .ref q9, .ref q10, .ref q11, .long (J 28)])), (q1, .inl (g.2 0, 376, .inl al))]) [0, 1] (by decide) rfl
        have hFc := va_free (wc := [(qM, .inr (9, [.int ((upd F 0 (0 : Int32)) 0), .ref q1, .ref q2, .ref q3, .int ((upd F 0 (0 : Int32)) 4), .int ((upd F 0 (0 : Int32)) 5), .int ((upd F 0 (0 : Int32)) 6), .int ((upd F 0 (0 : Int32)) 7), .int ((upd F 0 (0 : Int32)) 8), .int ((upd F 0 (0 : Int32)) 9), .long (J 10), .int ((upd F 0 (0 : Int32)) 11), .int ((upd F 0 (0 : Int32)) 12), .int ((upd F 0 (0 : Int32)) 13), .ref q4, .int ((upd F 0 (0 : Int32)) 15), .ref q5, .ref q6, .ref q7, .int ((upd F 0 (0 : Int32)) 19), .ref q8, .int ((upd F 0 (0 : Int32)) 21), .int ((upd F 0 (0 : Int32)) 22), .int ((upd F 0 (0 : Int32)) 23), .int ((upd F 0 (0 : Int32)) 24), .ref q9, .ref q10, .ref q11, .long (J 28)])), (q1, .inl (g.2 0, 376, .inl al))]) hD hS hA [0, 1] rfl
        refine va_callv (va_runV (As := [.int p1, .int (1 : Int32), .int p2]) (rest := []) S (wX9_lays l g qM q1 q2 q3 q4 q5 q6 q7 q8 q9 q10 q11 H.size (upd F 0 (0 : Int32)) J al p1 (1 : Int32) p2 (sX9_lays p_39 w_39 (upd F 0 (0 : Int32)) J al p1 (1 : Int32) p2 ho_4)) (cwV 3 hts gX9_vote_X9_lays rfl rfl rfl (by decide +kernel) ⟨Nat.le_of_ble_eq_true rfl, Nat.le_of_ble_eq_true rfl⟩) ⟨blindRW, va_recv hK hP (ci := 9) (q0 := 0) rfl rfl, fun U hU hW => ⟨rfl, by rw [hU], by rw [hU]; exact hPc, hG.warm hW, hDc.weaken (fun _ _ _ _ => trivial)⟩⟩ rfl rfl hl.1 rfl (lv_room (Nat.le_of_ble_eq_true rfl)) dX9_vote_39 ⟨Nat.le_of_ble_eq_true rfl, Nat.le_of_ble_eq_true rfl⟩) hS (fun q _ h => hFc q h) hFc (fun u t H1 locs ht hvm hw hB hz1 hk1 hS => ?_)
        obtain ⟨al_39, rfl⟩ : ∃ z, z = u := ⟨_, rfl⟩
        obtain ⟨hP1, hD1⟩ := hB
        rw [ht] at hP1
        have hv := hv al_39 hw
        obtain ⟨hP, hD⟩ := va_join (wr := []) (w1 := [(qM, .inr (9, [.int (0 : Int32), .ref q1, .ref q2, .ref q3, .int (F 4), .int (F 5), .int (F 6), .int (F 7), .int (F 8), .int (F 9), .long (J 10), .int (F 11), .int (F 12), .int (F 13), .ref q4, .int (F 15), .ref q5, .ref q6, .ref q7, .int (F 19), .ref q8, .int (F 21), .int (F 22), .int (F 23), .int (F 24), .ref q9, .ref q10, .ref q11, .long (J 28)])), (q1, .inl (g.2 0, 376, .inl al_39))]) hP hD [0, 1] [] rfl rfl (by decide) (by decide) hk1 hFc hP1 hD1
        clear hP1 hD1 hPc hDc hFc hk1
        generalize H1 = H at hP hS ⊢
        have hP : va_P g.1 vwCl [(qM, .inr (9, [.int (0 : Int32), .ref q1, .ref q2, .ref q3, .int (F 4), .int (F 5), .int (F 6), .int (F 7), .int (F 8), .int (F 9), .long (J 10), .int (F 11), .int (F 12), .int (F 13), .ref q4, .int (F 15), .ref q5, .ref q6, .ref q7, .int (F 19), .ref q8, .int (F 21), .int (F 22), .int (F 23), .int (F 24), .ref q9, .ref q10, .ref q11, .long (J 28)])), (q1, .inl (g.2 0, 376, .inl al_39))] H := hP
        have hD : va_D A [(qM, .inr (9, [.int (0 : Int32), .ref q1, .ref q2, .ref q3, .int (F 4), .int (F 5), .int (F 6), .int (F 7), .int (F 8), .int (F 9), .long (J 10), .int (F 11), .int (F 12), .int (F 13), .ref q4, .int (F 15), .ref q5, .ref q6, .ref q7, .int (F 19), .ref q8, .int (F 21), .int (F 22), .int (F 23), .int (F 24), .ref q9, .ref q10, .ref q11, .long (J 28)])), (q1, .inl (g.2 0, 376, .inl al_39))] := hD
        refine lv_iconst (v := (1 : Int32)) hx hb dX9_vote_42 (by decide) ?_
        have hP9 := hP.sub (ws' := [(qM, .inr (9, [.int ((upd F 0 (0 : Int32)) 0), .ref q1, .ref q2, .ref q3, .int ((upd F 0 (0 : Int32)) 4), .int ((upd F 0 (0 : Int32)) 5), .int ((upd F 0 (0 : Int32)) 6), .int ((upd F 0 (0 : Int32)) 7), .int ((upd F 0 (0 : Int32)) 8), .int ((upd F 0 (0 : Int32)) 9), .long (J 10), .int ((upd F 0 (0 : Int32)) 11), .int ((upd F 0 (0 : Int32)) 12), .int ((upd F 0 (0 : Int32)) 13), .ref q4, .int ((upd F 0 (0 : Int32)) 15), .ref q5, .ref q6, .ref q7, .int ((upd F 0 (0 : Int32)) 19), .ref q8, .int ((upd F 0 (0 : Int32)) 21), .int ((upd F 0 (0 : Int32)) 22), .int ((upd F 0 (0 : Int32)) 23), .int ((upd F 0 (0 : Int32)) 24), .ref q9, .ref q10, .ref q11, .long (J 28)])), (q1, .inl (g.2 0, 376, .inl al_39))]) [0, 1] rfl
        have hD9 := hD.sub (ws' := [(qM, .inr (9, [.int ((upd F 0 (0 : Int32)) 0), .ref q1, .ref q2, .ref q3, .int ((upd F 0 (0 : Int32)) 4), .int ((upd F 0 (0 : Int32)) 5), .int ((upd F 0 (0 : Int32)) 6), .int ((upd F 0 (0 : Int32)) 7), .int ((upd F 0 (0 : Int32)) 8), .int ((upd F 0 (0 : Int32)) 9), .long (J 10), .int ((upd F 0 (0 : Int32)) 11), .int ((upd F 0 (0 : Int32)) 12), .int ((upd F 0 (0 : Int32)) 13), .ref q4, .int ((upd F 0 (0 : Int32)) 15), .ref q5, .ref q6, .ref q7, .int ((upd F 0 (0 : Int32)) 19), .ref q8, .int ((upd F 0 (0 : Int32)) 21), .int ((upd F 0 (0 : Int32)) 22), .int ((upd F 0 (0 : Int32)) 23), .int ((upd F 0 (0 : Int32)) 24), .ref q9, .ref q10, .ref q11, .long (J 28)])), (q1, .inl (g.2 0, 376, .inl al_39))]) [0, 1] (by decide) rfl
        exact W.zret (v := (1 : Int32)) (ty := .boolean) hx hb hr rfl (fun t ht hW => ⟨⟨_, ((upd F 0 (0 : Int32)), al_39), rfl, hv, by rw [ht]; exact hP9, hD9⟩, hS.F ht⟩) hS.2.2 dX9_vote_43
      · have hv := hvf hc
        refine lv_iconst (v := (0 : Int32)) hx hb dX9_vote_33 (by decide) ?_
        have hP9 := hP.sub (ws' := [(qM, .inr (9, [.int ((upd F 0 (0 : Int32)) 0), .ref q1, .ref q2, .ref q3, .int ((upd F 0 (0 : Int32)) 4), .int ((upd F 0 (0 : Int32)) 5), .int ((upd F 0 (0 : Int32)) 6), .int ((upd F 0 (0 : Int32)) 7), .int ((upd F 0 (0 : Int32)) 8), .int ((upd F 0 (0 : Int32)) 9), .long (J 10), .int ((upd F 0 (0 : Int32)) 11), .int ((upd F 0 (0 : Int32)) 12), .int ((upd F 0 (0 : Int32)) 13), .ref q4, .int ((upd F 0 (0 : Int32)) 15), .ref q5, .ref q6, .ref q7, .int ((upd F 0 (0 : Int32)) 19), .ref q8, .int ((upd F 0 (0 : Int32)) 21), .int ((upd F 0 (0 : Int32)) 22), .int ((upd F 0 (0 : Int32)) 23), .int ((upd F 0 (0 : Int32)) 24), .ref q9, .ref q10, .ref q11, .long (J 28)])), (q1, .inl (g.2 0, 376, .inl al))]) [0, 1] rfl
        have hD9 := hD.sub (ws' := [(qM, .inr (9, [.int ((upd F 0 (0 : Int32)) 0), .ref q1, .ref q2, .ref q3, .int ((upd F 0 (0 : Int32)) 4), .int ((upd F 0 (0 : Int32)) 5), .int ((upd F 0 (0 : Int32)) 6), .int ((upd F 0 (0 : Int32)) 7), .int ((upd F 0 (0 : Int32)) 8), .int ((upd F 0 (0 : Int32)) 9), .long (J 10), .int ((upd F 0 (0 : Int32)) 11), .int ((upd F 0 (0 : Int32)) 12), .int ((upd F 0 (0 : Int32)) 13), .ref q4, .int ((upd F 0 (0 : Int32)) 15), .ref q5, .ref q6, .ref q7, .int ((upd F 0 (0 : Int32)) 19), .ref q8, .int ((upd F 0 (0 : Int32)) 21), .int ((upd F 0 (0 : Int32)) 22), .int ((upd F 0 (0 : Int32)) 23), .int ((upd F 0 (0 : Int32)) 24), .ref q9, .ref q10, .ref q11, .long (J 28)])), (q1, .inl (g.2 0, 376, .inl al))]) [0, 1] (by decide) rfl
        exact W.zret (v := (0 : Int32)) (ty := .boolean) hx hb hr rfl (fun t ht hW => ⟨⟨_, ((upd F 0 (0 : Int32)), al), rfl, hv, by rw [ht]; exact hP9, hD9⟩, hS.F ht⟩) hS.2.2 dX9_vote_34
abbrev preX9_vote (T : Cd) (G0 : Lg) (G1 : Lg) (lim : Nat) (F : Nat → Int32) (J : Nat → Int64) (al : Nat → Int32) (p1 : Int32) (p2 : Int32) : Prop := fcR T G0 G1 lim al
abbrev postX9_vote (T : Cd) (G0 : Lg) (G1 : Lg) (lim : Nat) (F : Nat → Int32) (J : Nat → Int64) (al : Nat → Int32) (p1 : Int32) (p2 : Int32) (r : Int32) (F' : Nat → Int32) (al' : Nat → Int32) : Prop := r.toInt = spVote T p1.toInt p2.toInt ∧ fcR (nxVot T p1.toInt p2.toInt) G0 G1 lim al' ∧ kpA al al'
theorem sX9_vote (T : Cd) (G0 : Lg) (G1 : Lg) (lim : Nat) (F : Nat → Int32) (J : Nat → Int64) (al : Nat → Int32) (p1 : Int32) (p2 : Int32) (H : preX9_vote T G0 G1 lim F J al p1 p2) : vX9_vote F J al p1 p2 (postX9_vote T G0 G1 lim F J al p1 p2) := by
  obtain ⟨hT, h0, h1, hlim, hl9, hl1⟩ := id H
  have hn5 := hT.1.2
  have no : ¬ ((0 ≤ p1.toInt ∧ p1.toInt < (cn T : Int)) ∧ (1 ≤ p2.toInt ∧ p2.toInt ≤ 9) ∧ p2.toInt ≠ (cV T p1.toInt.toNat : Int)) → (0 : Int32).toInt = spVote T p1.toInt p2.toInt ∧ fcR (nxVot T p1.toInt p2.toInt) G0 G1 lim al ∧ kpA al al := fun q => by
    unfold spVote nxVot
    rw [if_neg q, if_neg q]; exact ⟨rfl, H, kpA_rf al⟩
  refine ⟨cn T, hT.1.1, fun r hr => ?_⟩
  have hr : r = if 0 ≤ p1.toInt ∧ p1.toInt < (cn T : Int) then 1 else 0 := hr
  rw [hr, q_if1]
  refine ⟨fun a => no (fun q => a q.1), fun a => ⟨trivial, fun r2 hr2 => ?_⟩⟩
  have a := Decidable.not_not.mp a
  have hr2 : r2 = if 1 ≤ p2.toInt ∧ p2.toInt ≤ 9 then 1 else 0 := hr2
  rw [hr2, q_if1]
  refine ⟨fun b => no (fun q => b q.2.1), fun b => ?_⟩
  have b := Decidable.not_not.mp b
  have e : p1.toInt = (p1.toInt.toNat : Int) := by omega
  have hp : p1.toInt.toNat < cn T := by omega
  have hv := mT_V hT hp
  refine ⟨p1.toInt.toNat, 1, ⟨e, rfl, by omega⟩, fun r3 hr3 => ?_⟩
  have hr3 : r3.toInt = (cV T p1.toInt.toNat : Int) := by rw [hr3]; exact hv.1
  rw [fa_eq r3, hr3]
  refine ⟨fun c => ⟨p1.toInt.toNat, 1, ⟨e, rfl, by omega⟩, fun al2 ha => ?_⟩, fun c => no (fun q => q.2.2 c.symm)⟩
  have ha : al2 = upd al (5 + 3 * p1.toInt.toNat + 1) p2 := ha
  have hc : (0 ≤ p1.toInt ∧ p1.toInt < (cn T : Int)) ∧ (1 ≤ p2.toInt ∧ p2.toInt ≤ 9) ∧ p2.toInt ≠ (cV T p1.toInt.toNat : Int) := ⟨a, b, fun q => c q.symm⟩
  unfold postX9_vote spVote nxVot
  rw [if_pos hc, if_pos hc, ha]
  exact ⟨rfl, fcR_wV H hp (by omega) (by omega), kpA_up (by omega)⟩
set_option maxRecDepth 20000 in
theorem ggX9_clean_X9_isLeg : GoodIn wsX9_clean wsX9_isLeg := goodIn_r _ [5, 6, 7, 4, 8] (by decide +kernel) (by decide +kernel)
set_option maxRecDepth 20000 in
theorem gX9_clean_X9_isLeg : GoodIn wsX9_clean (va_wsS RX9 182 yX9_isLeg wsX9_isLeg) := goodIn_app (goodIn_of _ (by decide +kernel)) ggX9_clean_X9_isLeg
set_option maxRecDepth 20000 in
theorem ggX9_clean_X9_ofLeg : GoodIn wsX9_clean wsX9_ofLeg := goodIn_r _ [12, 13, 18, 19, 20, 21, 22, 23, 24, 25, 26, 27, 28, 29, 30, 31, 32, 33, 34, 35, 36, 37, 38, 39, 40, 41, 42, 43, 44, 45, 46] (by decide +kernel) (by decide +kernel)
set_option maxRecDepth 20000 in
theorem gX9_clean_X9_ofLeg : GoodIn wsX9_clean (wsV RX9 185 RX9 yX9_ofLeg wsX9_ofLeg) := goodIn_app (goodIn_of _ (by decide +kernel)) ggX9_clean_X9_ofLeg
set_option maxRecDepth 20000 in
theorem ggX9_clean_X9_layLeg : GoodIn wsX9_clean wsX9_layLeg := goodIn_r _ [17, 13, 18, 19, 20, 21, 22, 23, 24, 25, 26, 27, 28, 29, 30, 31, 32, 33, 34, 35, 36, 37, 38, 39, 40, 41, 42, 43, 44, 45, 46] (by decide +kernel) (by decide +kernel)
set_option maxRecDepth 20000 in
theorem gX9_clean_X9_layLeg : GoodIn wsX9_clean (wsV RX9 188 RX9 yX9_layLeg wsX9_layLeg) := goodIn_app (goodIn_of _ (by decide +kernel)) ggX9_clean_X9_layLeg
theorem dX9_clean_0 : decode cX9_clean 0 = .ok (.aload_n 0, 1) := by decide +kernel
theorem dX9_clean_1 : decode cX9_clean 1 = .ok (.iconst 0, 1) := by decide +kernel
theorem dX9_clean_2 : decode cX9_clean 2 = .ok (.putfield 51, 3) := by decide +kernel
theorem dX9_clean_5 : decode cX9_clean 5 = .ok (.iload_n 1, 1) := by decide +kernel
theorem dX9_clean_6 : decode cX9_clean 6 = .ok (.invokestatic 182, 3) := by decide +kernel
theorem dX9_clean_9 : decode cX9_clean 9 = .ok (.ifCond .ne 5, 3) := by decide +kernel
theorem dX9_clean_12 : decode cX9_clean 12 = .ok (.iconst (-1), 1) := by decide +kernel
theorem dX9_clean_13 : decode cX9_clean 13 = .ok (.ireturn, 1) := by decide +kernel
theorem dX9_clean_14 : decode cX9_clean 14 = .ok (.aload_n 0, 1) := by decide +kernel
theorem dX9_clean_15 : decode cX9_clean 15 = .ok (.iload_n 1, 1) := by decide +kernel
theorem dX9_clean_16 : decode cX9_clean 16 = .ok (.bipush 6, 2) := by decide +kernel
theorem dX9_clean_18 : decode cX9_clean 18 = .ok (.invokevirtual 185, 3) := by decide +kernel
theorem dX9_clean_21 : decode cX9_clean 21 = .ok (.istore_n 2, 1) := by decide +kernel
theorem dX9_clean_22 : decode cX9_clean 22 = .ok (.aload_n 0, 1) := by decide +kernel
theorem dX9_clean_23 : decode cX9_clean 23 = .ok (.iload_n 1, 1) := by decide +kernel
theorem dX9_clean_24 : decode cX9_clean 24 = .ok (.bipush 6, 2) := by decide +kernel
theorem dX9_clean_26 : decode cX9_clean 26 = .ok (.iconst 0, 1) := by decide +kernel
theorem dX9_clean_27 : decode cX9_clean 27 = .ok (.invokevirtual 188, 3) := by decide +kernel
theorem dX9_clean_30 : decode cX9_clean 30 = .ok (.iload_n 2, 1) := by decide +kernel
theorem dX9_clean_31 : decode cX9_clean 31 = .ok (.ireturn, 1) := by decide +kernel
abbrev rmX9_clean : Room := { frames := 2, cells := 0, slots := 0, locals := 42 }
theorem inX9_clean_9 : ∀ w ∈ wsX90, w ∈ wsX9_clean := by decide +kernel
def vX9_clean (F : Nat → Int32) (J : Nat → Int64) (al : Nat → Int32) (p1 : Int32) (Q : Int32 → (Nat → Int32) → (Nat → Int32) → Prop) : Prop := (preX9_isLeg p1 ∧ (∀ r_6 : Int32, postX9_isLeg p1 r_6 → ((¬ r_6 = 0 → (∃ (p_18 : Nat) (w_18 : Nat), preX9_ofLeg p_18 w_18 (upd F 0 (0 : Int32)) J al p1 (6 : Int32) ∧ (∀ r_18 : Int32, postX9_ofLeg p_18 w_18 (upd F 0 (0 : Int32)) J al p1 (6 : Int32) r_18 → (∃ (p_27 : Nat) (w_27 : Nat), preX9_layLeg p_27 w_27 (upd F 0 (0 : Int32)) J al p1 (6 : Int32) (0 : Int32) ∧ (∀ (al_27 : Nat → Int32), postX9_layLeg p_27 w_27 (upd F 0 (0 : Int32)) J al p1 (6 : Int32) (0 : Int32) al_27 → (Q r_18 (upd F 0 (0 : Int32)) al_27)))))) ∧ (r_6 = 0 → (Q (-1 : Int32) (upd F 0 (0 : Int32)) al)))))
set_option maxHeartbeats 4000000 in
set_option maxRecDepth 100000 in
theorem wX9_clean (l : Launch) (g : GP) (qM : Nat) (q1 : Nat) (q2 : Nat) (q3 : Nat) (q4 : Nat) (q5 : Nat) (q6 : Nat) (q7 : Nat) (q8 : Nat) (q9 : Nat) (q10 : Nat) (q11 : Nat) (sz : Nat) (F : Nat → Int32) (J : Nat → Int64) (al : Nat → Int32) (p1 : Int32) {Q : Int32 → (Nat → Int32) → (Nat → Int32) → Prop} (hv : vX9_clean F J al p1 Q) : Met l yX9_clean wsX9_clean rmX9_clean (va_Pc [.ref qM, .int p1] (fun U => U.heap.size = sz ∧ va_P g.1 vwCl [(qM, .inr (9, [.int (F 0), .ref q1, .ref q2, .ref q3, .int (F 4), .int (F 5), .int (F 6), .int (F 7), .int (F 8), .int (F 9), .long (J 10), .int (F 11), .int (F 12), .int (F 13), .ref q4, .int (F 15), .ref q5, .ref q6, .ref q7, .int (F 19), .ref q8, .int (F 21), .int (F 22), .int (F 23), .int (F 24), .ref q9, .ref q10, .ref q11, .long (J 28)])), (q1, .inl (g.2 0, 376, .inl al))] U.heap ∧ GK g U ∧ va_D (fun _ => True) [(qM, .inr (9, [.int (F 0), .ref q1, .ref q2, .ref q3, .int (F 4), .int (F 5), .int (F 6), .int (F 7), .int (F 8), .int (F 9), .long (J 10), .int (F 11), .int (F 12), .int (F 13), .ref q4, .int (F 15), .ref q5, .ref q6, .ref q7, .int (F 19), .ref q8, .int (F 21), .int (F 22), .int (F 23), .int (F 24), .ref q9, .ref q10, .ref q11, .long (J 28)])), (q1, .inl (g.2 0, 376, .inl al))])) (va_Qi (fun (r : Int32) (u : (Nat → Int32) × (Nat → Int32)) => Q r u.1 u.2) (fun (u : (Nat → Int32) × (Nat → Int32)) t => va_P g.1 vwCl [(qM, .inr (9, [.int (u.1 0), .ref q1, .ref q2, .ref q3, .int (u.1 4), .int (u.1 5), .int (u.1 6), .int (u.1 7), .int (u.1 8), .int (u.1 9), .long (J 10), .int (u.1 11), .int (u.1 12), .int (u.1 13), .ref q4, .int (u.1 15), .ref q5, .ref q6, .ref q7, .int (u.1 19), .ref q8, .int (u.1 21), .int (u.1 22), .int (u.1 23), .int (u.1 24), .ref q9, .ref q10, .ref q11, .long (J 28)])), (q1, .inl (g.2 0, 376, .inl u.2))] t.heap ∧ va_D (va_A [(qM, .inr (9, [.int (F 0), .ref q1, .ref q2, .ref q3, .int (F 4), .int (F 5), .int (F 6), .int (F 7), .int (F 8), .int (F 9), .long (J 10), .int (F 11), .int (F 12), .int (F 13), .ref q4, .int (F 15), .ref q5, .ref q6, .ref q7, .int (F 19), .ref q8, .int (F 21), .int (F 22), .int (F 23), .int (F 24), .ref q9, .ref q10, .ref q11, .long (J 28)])), (q1, .inl (g.2 0, 376, .inl al))] sz) [(qM, .inr (9, [.int (u.1 0), .ref q1, .ref q2, .ref q3, .int (u.1 4), .int (u.1 5), .int (u.1 6), .int (u.1 7), .int (u.1 8), .int (u.1 9), .long (J 10), .int (u.1 11), .int (u.1 12), .int (u.1 13), .ref q4, .int (u.1 15), .ref q5, .ref q6, .ref q7, .int (u.1 19), .ref q8, .int (u.1 21), .int (u.1 22), .int (u.1 23), .int (u.1 24), .ref q9, .ref q10, .ref q11, .long (J 28)])), (q1, .inl (g.2 0, 376, .inl u.2))]) (va_A [(qM, .inr (9, [.int (F 0), .ref q1, .ref q2, .ref q3, .int (F 4), .int (F 5), .int (F 6), .int (F 7), .int (F 8), .int (F 9), .long (J 10), .int (F 11), .int (F 12), .int (F 13), .ref q4, .int (F 15), .ref q5, .ref q6, .ref q7, .int (F 19), .ref q8, .int (F 21), .int (F 22), .int (F 23), .int (F 24), .ref q9, .ref q10, .ref q11, .long (J 28)])), (q1, .inl (g.2 0, 376, .inl al))] sz)) 0 0 (va_A [(qM, .inr (9, [.int (F 0), .ref q1, .ref q2, .ref q3, .int (F 4), .int (F 5), .int (F 6), .int (F 7), .int (F 8), .int (F 9), .long (J 10), .int (F 11), .int (F 12), .int (F 13), .ref q4, .int (F 15), .ref q5, .ref q6, .ref q7, .int (F 19), .ref q8, .int (F 21), .int (F 22), .int (F 23), .int (F 24), .ref q9, .ref q10, .ref q11, .long (J 28)])), (q1, .inl (g.2 0, 376, .inl al))] sz) := by
  refine Met.ofW (cc := cX9_clean) (maxL := 3) (ret := (some .int)) (by decide) rfl ?_
  intro p e s m args below meth c s₁ B hml hv'
  obtain ⟨rfl, hsz, hP, hG, hD0⟩ := hv'
  have S : CallFix p m c cX9_clean 3 s _ wsX9_clean RX9 := ⟨B.exec, B.bytes, hml, findClass_of_methodNamed B.named, atoms_spec (ws := wsX9_clean) B.pre⟩
  obtain ⟨hx, hb, hml, hown, hts⟩ := id S
  have hK := hG.1
  have hr := B.returns
  have hlocks := B.notSynchronized
  subst hsz
  have hD := hD0.self (sz := s.heap.size)
  generalize hAe : va_A [(qM, .inr (9, [.int (F 0), .ref q1, .ref q2, .ref q3, .int (F 4), .int (F 5), .int (F 6), .int (F 7), .int (F 8), .int (F 9), .long (J 10), .int (F 11), .int (F 12), .int (F 13), .ref q4, .int (F 15), .ref q5, .ref q6, .ref q7, .int (F 19), .ref q8, .int (F 21), .int (F 22), .int (F 23), .int (F 24), .ref q9, .ref q10, .ref q11, .long (J 28)])), (q1, .inl (g.2 0, 376, .inl al))] s.heap.size = A at hD ⊢
  have hA : ∀ q : Nat, s.heap.size ≤ q → A q := fun q h => by rw [← hAe]; exact Or.inr h
  have hS : va_S A s.heap s.heap [] := va_S.rf
  clear hD0 hAe
  have hl := lv_entry ([.ref qM, .int p1]) (n := 3) (Nat.le_of_ble_eq_true rfl)
  rw [lg_entry_eq]
  generalize (lg_sl ([.ref qM, .int p1]) ++ List.replicate (3 - (lg_sl ([.ref qM, .int p1])).length) Slot.unset).toArray = ls at hl ⊢
  have hl : lv_has ls 3 [(0, .ref qM), (1, .int p1)] := hl
  unfold vX9_clean at hv
  refine lv_aload_n hx hb dX9_clean_0 rfl (lv_at hl 0 rfl) ?_
  refine lv_iconst (v := (0 : Int32)) hx hb dX9_clean_1 (by decide) ?_
  refine va_put (D := g.1) (ci := 9) (v := .int (0 : Int32)) (ty := .int) (C := RX9) (T := TX9) (N := 29) hx hb hts inX9_clean_9 tyX9 tyX9_ok nmX9 hown hK hP hD hS 0 rfl rfl 0 (by decide) (hts (.fieldLink RX9 51 "RangeCodesModel" "raised" "I") (List.mem_of_getElem? (i := 1) rfl)) (fun _ h9 => h9) rfl (by decide +kernel) rfl rfl (Nat.le_of_ble_eq_true rfl) dX9_clean_2 (fun H locs hP hD hS => ?_)
  have hP : va_P g.1 vwCl [(qM, .inr (9, [.int (0 : Int32), .ref q1, .ref q2, .ref q3, .int (F 4), .int (F 5), .int (F 6), .int (F 7), .int (F 8), .int (F 9), .long (J 10), .int (F 11), .int (F 12), .int (F 13), .ref q4, .int (F 15), .ref q5, .ref q6, .ref q7, .int (F 19), .ref q8, .int (F 21), .int (F 22), .int (F 23), .int (F 24), .ref q9, .ref q10, .ref q11, .long (J 28)])), (q1, .inl (g.2 0, 376, .inl al))] H := hP
  have hD : va_D A [(qM, .inr (9, [.int (0 : Int32), .ref q1, .ref q2, .ref q3, .int (F 4), .int (F 5), .int (F 6), .int (F 7), .int (F 8), .int (F 9), .long (J 10), .int (F 11), .int (F 12), .int (F 13), .ref q4, .int (F 15), .ref q5, .ref q6, .ref q7, .int (F 19), .ref q8, .int (F 21), .int (F 22), .int (F 23), .int (F 24), .ref q9, .ref q10, .ref q11, .long (J 28)])), (q1, .inl (g.2 0, 376, .inl al))] := hD
  refine lv_iload_n hx hb dX9_clean_5 rfl (lv_at hl 1 rfl) ?_
  obtain ⟨ho_1, hv⟩ := hv
  refine vp_callSi (W.runS (As := [.int p1]) (rest := []) S (wX9_isLeg l g p1 (sX9_isLeg p1 ho_1)) (va_cwS 1 hts gX9_clean_X9_isLeg rfl rfl rfl (by decide +kernel) ⟨Nat.le_of_ble_eq_true rfl, Nat.le_of_ble_eq_true rfl⟩) ⟨blindRO, fun U hU hW => ⟨rfl, by rw [hU]; exact hP.sub (ws' := []) [] rfl, hG.warm hW⟩⟩ rfl rfl hl.1 rfl (lv_room (Nat.le_of_ble_eq_true rfl)) dX9_clean_6 ⟨Nat.le_of_ble_eq_true rfl, Nat.le_of_ble_eq_true rfl⟩) (fun r_6 hr_6 => ?_)
  have hv := hv r_6 hr_6
  obtain ⟨hvt, hvf⟩ := hv
  refine lv_if_ne (tgt := 14) hx hb dX9_clean_9 (by decide) (fun hc => ?_) (fun hc => ?_)
  · have hv := hvt hc
    refine lv_aload_n hx hb dX9_clean_14 rfl (lv_at hl 0 rfl) ?_
    refine lv_iload_n hx hb dX9_clean_15 rfl (lv_at hl 1 rfl) ?_
    refine lv_bipush (v := (6 : Int32)) hx hb dX9_clean_16 (by decide) ?_
    obtain ⟨p_18, w_18, ho_2, hv⟩ := hv
    refine vp_callSi (W.runV (As := [.int p1, .int (6 : Int32)]) (rest := []) S (wX9_ofLeg l g qM q1 q2 q3 q4 q5 q6 q7 q8 q9 q10 q11 (upd F 0 (0 : Int32)) J al p1 (6 : Int32) (sX9_ofLeg p_18 w_18 (upd F 0 (0 : Int32)) J al p1 (6 : Int32) ho_2)) (cwV 2 hts gX9_clean_X9_ofLeg rfl rfl rfl (by decide +kernel) ⟨Nat.le_of_ble_eq_true rfl, Nat.le_of_ble_eq_true rfl⟩) ⟨blindRO, va_recv hK hP (ci := 9) (q0 := 0) rfl rfl, fun U hU hW => ⟨rfl, by rw [hU]; exact hP.sub (ws' := [(qM, .inr (9, [.int ((upd F 0 (0 : Int32)) 0), .ref q1, .ref q2, .ref q3, .int ((upd F 0 (0 : Int32)) 4), .int ((upd F 0 (0 : Int32)) 5), .int ((upd F 0 (0 : Int32)) 6), .int ((upd F 0 (0 : Int32)) 7), .int ((upd F 0 (0 : Int32)) 8), .int ((upd F 0 (0 : Int32)) 9), .long (J 10), .int ((upd F 0 (0 : Int32)) 11), .int ((upd F 0 (0 : Int32)) 12), .int ((upd F 0 (0 : Int32)) 13), .ref q4, .int ((upd F 0 (0 : Int32)) 15), .ref q5, .ref q6, .ref q7, .int ((upd F 0 (0 : Int32)) 19), .ref q8, .int ((upd F 0 (0 : Int32)) 21), .int ((upd F 0 (0 : Int32)) 22), .int ((upd F 0 (0 : Int32)) 23), .int ((upd F 0 (0 : Int32)) 24), .ref q9, .ref q10, .ref q11, .long (J 28)])), (q1, .inl (g.2 0, 376, .inl al))]) [0, 1] rfl, hG.warm hW⟩⟩ rfl rfl hl.1 rfl (lv_room (Nat.le_of_ble_eq_true rfl)) dX9_clean_18 ⟨Nat.le_of_ble_eq_true rfl, Nat.le_of_ble_eq_true rfl⟩) (fun r_18 hr_18 => ?_)
    have hv := hv r_18 hr_18
    refine lv_istore_n (lv' := [(2, .int r_18), (0, .ref qM), (1, .int p1)]) hx hb dX9_clean_21 rfl hl (by decide) rfl (fun ls hl => ?_)
    refine lv_aload_n hx hb dX9_clean_22 rfl (lv_at hl 1 rfl) ?_
    refine lv_iload_n hx hb dX9_clean_23 rfl (lv_at hl 2 rfl) ?_
    refine lv_bipush (v := (6 : Int32)) hx hb dX9_clean_24 (by decide) ?_
    refine lv_iconst (v := (0 : Int32)) hx hb dX9_clean_26 (by decide) ?_
    obtain ⟨p_27, w_27, ho_3, hv⟩ := hv
    have hPc := hP.sub (ws' := [(qM, .inr (9, [.int ((upd F 0 (0 : Int32)) 0), .ref q1, .ref q2, .ref q3, .int ((upd F 0 (0 : Int32)) 4), .int ((upd F 0 (0 : Int32)) 5), .int ((upd F 0 (0 : Int32)) 6), .int ((upd F 0 (0 : Int32)) 7), .int ((upd F 0 (0 : Int32)) 8), .int ((upd F 0 (0 : Int32)) 9), .long (J 10), .int ((upd F 0 (0 : Int32)) 11), .int ((upd F 0 (0 : Int32)) 12), .int ((upd F 0 (0 : Int32)) 13), .ref q4, .int ((upd F 0 (0 : Int32)) 15), .ref q5, .ref q6, .ref q7, .int ((upd F 0 (0 : Int32)) 19), .ref q8, .int ((upd F 0 (0 : Int32)) 21), .int ((upd F 0 (0 : Int32)) 22), .int ((upd F 0 (0 : Int32)) 23), .int ((upd F 0 (0 : Int32)) 24), .ref q9, .ref q10, .ref q11, .long (J 28)])), (q1, .inl (g.2 0, 376, .inl al))]) [0, 1] rfl
    have hDc := hD.sub (ws' := [(qM, .inr (9, [.int ((upd F 0 (0 : Int32)) 0), .ref q1, .ref q2, .ref q3, .int ((upd F 0 (0 : Int32)) 4), .int ((upd F 0 (0 : Int32)) 5), .int ((upd F 0 (0 : Int32)) 6), .int ((upd F 0 (0 : Int32)) 7), .int ((upd F 0 (0 : Int32)) 8), .int ((upd F 0 (0 : Int32)) 9), .long (J 10), .int ((upd F 0 (0 : Int32)) 11), .int ((upd F 0 (0 : Int32)) 12), .int ((upd F 0 (0 : Int32)) 13), .ref q4, .int ((upd F 0 (0 : Int32)) 15), .ref q5, .ref q6, .ref q7, .int ((upd F 0 (0 : Int32)) 19), .ref q8, .int ((upd F 0 (0 : Int32)) 21), .int ((upd F 0 (0 : Int32)) 22), .int ((upd F 0 (0 : Int32)) 23), .int ((upd F 0 (0 : Int32)) 24), .ref q9, .ref q10, .ref q11, .long (J 28)])), (q1, .inl (g.2 0, 376, .inl al))]) [0, 1] (by decide) rfl
    have hFc := va_free (wc := [(qM, .inr (9, [.int ((upd F 0 (0 : Int32)) 0), .ref q1, .ref q2, .ref q3, .int ((upd F 0 (0 : Int32)) 4), .int ((upd F 0 (0 : Int32)) 5), .int ((upd F 0 (0 : Int32)) 6), .int ((upd F 0 (0 : Int32)) 7), .int ((upd F 0 (0 : Int32)) 8), .int ((upd F 0 (0 : Int32)) 9), .long (J 10), .int ((upd F 0 (0 : Int32)) 11), .int ((upd F 0 (0 : Int32)) 12), .int ((upd F 0 (0 : Int32)) 13), .ref q4, .int ((upd F 0 (0 : Int32)) 15), .ref q5, .ref q6, .ref q7, .int ((upd F 0 (0 : Int32)) 19), .ref q8, .int ((upd F 0 (0 : Int32)) 21), .int ((upd F 0 (0 : Int32)) 22), .int ((upd F 0 (0 : Int32)) 23), .int ((upd F 0 (0 : Int32)) 24), .ref q9, .ref q10, .ref q11, .long (J 28)])), (q1, .inl (g.2 0, 376, .inl al))]) hD hS hA [0, 1] rfl
    refine va_callv (va_runV (As := [.int p1, .int (6 : Int32), .int (0 : Int32)]) (rest := []) S (wX9_layLeg l g qM q1 q2 q3 q4 q5 q6 q7 q8 q9 q10 q11 H.size (upd F 0 (0 : Int32)) J al p1 (6 : Int32) (0 : Int32) (sX9_layLeg p_27 w_27 (upd F 0 (0 : Int32)) J al p1 (6 : Int32) (0 : Int32) ho_3)) (cwV 3 hts gX9_clean_X9_layLeg rfl rfl rfl (by decide +kernel) ⟨Nat.le_of_ble_eq_true rfl, Nat.le_of_ble_eq_true rfl⟩) ⟨blindRW, va_recv hK hP (ci := 9) (q0 := 0) rfl rfl, fun U hU hW => ⟨rfl, by rw [hU], by rw [hU]; exact hPc, hG.warm hW, hDc.weaken (fun _ _ _ _ => trivial)⟩⟩ rfl rfl hl.1 rfl (lv_room (Nat.le_of_ble_eq_true rfl)) dX9_clean_27 ⟨Nat.le_of_ble_eq_true rfl, Nat.le_of_ble_eq_true rfl⟩) hS (fun q _ h => hFc q h) hFc (fun u t H1 locs ht hvm hw hB hz1 hk1 hS => ?_)
    obtain ⟨al_27, rfl⟩ : ∃ z, z = u := ⟨_, rfl⟩
    obtain ⟨hP1, hD1⟩ := hB
    rw [ht] at hP1
    have hv := hv al_27 hw
    obtain ⟨hP, hD⟩ := va_join (wr := []) (w1 := [(qM, .inr (9, [.int (0 : Int32), .ref q1, .ref q2, .ref q3, .int (F 4), .int (F 5), .int (F 6), .int (F 7), .int (F 8), .int (F 9), .long (J 10), .int (F 11), .int (F 12), .int (F 13), .ref q4, .int (F 15), .ref q5, .ref q6, .ref q7, .int (F 19), .ref q8, .int (F 21), .int (F 22), .int (F 23), .int (F 24), .ref q9, .ref q10, .ref q11, .long (J 28)])), (q1, .inl (g.2 0, 376, .inl al_27))]) hP hD [0, 1] [] rfl rfl (by decide) (by decide) hk1 hFc hP1 hD1
    clear hP1 hD1 hPc hDc hFc hk1
    generalize H1 = H at hP hS ⊢
    have hP : va_P g.1 vwCl [(qM, .inr (9, [.int (0 : Int32), .ref q1, .ref q2, .ref q3, .int (F 4), .int (F 5), .int (F 6), .int (F 7), .int (F 8), .int (F 9), .long (J 10), .int (F 11), .int (F 12), .int (F 13), .ref q4, .int (F 15), .ref q5, .ref q6, .ref q7, .int (F 19), .ref q8, .int (F 21), .int (F 22), .int (F 23), .int (F 24), .ref q9, .ref q10, .ref q11, .long (J 28)])), (q1, .inl (g.2 0, 376, .inl al_27))] H := hP
    have hD : va_D A [(qM, .inr (9, [.int (0 : Int32), .ref q1, .ref q2, .ref q3, .int (F 4), .int (F 5), .int (F 6), .int (F 7), .int (F 8), .int (F 9), .long (J 10), .int (F 11), .int (F 12), .int (F 13), .ref q4, .int (F 15), .ref q5, .ref q6, .ref q7, .int (F 19), .ref q8, .int (F 21), .int (F 22), .int (F 23), .int (F 24), .ref q9, .ref q10, .ref q11, .long (J 28)])), (q1, .inl (g.2 0, 376, .inl al_27))] := hD
    refine lv_iload_n hx hb dX9_clean_30 rfl (lv_at hl 0 rfl) ?_
    have hP9 := hP.sub (ws' := [(qM, .inr (9, [.int ((upd F 0 (0 : Int32)) 0), .ref q1, .ref q2, .ref q3, .int ((upd F 0 (0 : Int32)) 4), .int ((upd F 0 (0 : Int32)) 5), .int ((upd F 0 (0 : Int32)) 6), .int ((upd F 0 (0 : Int32)) 7), .int ((upd F 0 (0 : Int32)) 8), .int ((upd F 0 (0 : Int32)) 9), .long (J 10), .int ((upd F 0 (0 : Int32)) 11), .int ((upd F 0 (0 : Int32)) 12), .int ((upd F 0 (0 : Int32)) 13), .ref q4, .int ((upd F 0 (0 : Int32)) 15), .ref q5, .ref q6, .ref q7, .int ((upd F 0 (0 : Int32)) 19), .ref q8, .int ((upd F 0 (0 : Int32)) 21), .int ((upd F 0 (0 : Int32)) 22), .int ((upd F 0 (0 : Int32)) 23), .int ((upd F 0 (0 : Int32)) 24), .ref q9, .ref q10, .ref q11, .long (J 28)])), (q1, .inl (g.2 0, 376, .inl al_27))]) [0, 1] rfl
    have hD9 := hD.sub (ws' := [(qM, .inr (9, [.int ((upd F 0 (0 : Int32)) 0), .ref q1, .ref q2, .ref q3, .int ((upd F 0 (0 : Int32)) 4), .int ((upd F 0 (0 : Int32)) 5), .int ((upd F 0 (0 : Int32)) 6), .int ((upd F 0 (0 : Int32)) 7), .int ((upd F 0 (0 : Int32)) 8), .int ((upd F 0 (0 : Int32)) 9), .long (J 10), .int ((upd F 0 (0 : Int32)) 11), .int ((upd F 0 (0 : Int32)) 12), .int ((upd F 0 (0 : Int32)) 13), .ref q4, .int ((upd F 0 (0 : Int32)) 15), .ref q5, .ref q6, .ref q7, .int ((upd F 0 (0 : Int32)) 19), .ref q8, .int ((upd F 0 (0 : Int32)) 21), .int ((upd F 0 (0 : Int32)) 22), .int ((upd F 0 (0 : Int32)) 23), .int ((upd F 0 (0 : Int32)) 24), .ref q9, .ref q10, .ref q11, .long (J 28)])), (q1, .inl (g.2 0, 376, .inl al_27))]) [0, 1] (by decide) rfl
    exact W.iret (v := r_18) hx hb hr (fun t ht hW => ⟨⟨_, ((upd F 0 (0 : Int32)), al_27), rfl, hv, by rw [ht]; exact hP9, hD9⟩, hS.F ht⟩) hS.2.2 dX9_clean_31
  · have hv := hvf hc
    refine lv_iconst (v := (-1 : Int32)) hx hb dX9_clean_12 (by decide) ?_
    have hP9 := hP.sub (ws' := [(qM, .inr (9, [.int ((upd F 0 (0 : Int32)) 0), .ref q1, .ref q2, .ref q3, .int ((upd F 0 (0 : Int32)) 4), .int ((upd F 0 (0 : Int32)) 5), .int ((upd F 0 (0 : Int32)) 6), .int ((upd F 0 (0 : Int32)) 7), .int ((upd F 0 (0 : Int32)) 8), .int ((upd F 0 (0 : Int32)) 9), .long (J 10), .int ((upd F 0 (0 : Int32)) 11), .int ((upd F 0 (0 : Int32)) 12), .int ((upd F 0 (0 : Int32)) 13), .ref q4, .int ((upd F 0 (0 : Int32)) 15), .ref q5, .ref q6, .ref q7, .int ((upd F 0 (0 : Int32)) 19), .ref q8, .int ((upd F 0 (0 : Int32)) 21), .int ((upd F 0 (0 : Int32)) 22), .int ((upd F 0 (0 : Int32)) 23), .int ((upd F 0 (0 : Int32)) 24), .ref q9, .ref q10, .ref q11, .long (J 28)])), (q1, .inl (g.2 0, 376, .inl al))]) [0, 1] rfl
    have hD9 := hD.sub (ws' := [(qM, .inr (9, [.int ((upd F 0 (0 : Int32)) 0), .ref q1, .ref q2, .ref q3, .int ((upd F 0 (0 : Int32)) 4), .int ((upd F 0 (0 : Int32)) 5), .int ((upd F 0 (0 : Int32)) 6), .int ((upd F 0 (0 : Int32)) 7), .int ((upd F 0 (0 : Int32)) 8), .int ((upd F 0 (0 : Int32)) 9), .long (J 10), .int ((upd F 0 (0 : Int32)) 11), .int ((upd F 0 (0 : Int32)) 12), .int ((upd F 0 (0 : Int32)) 13), .ref q4, .int ((upd F 0 (0 : Int32)) 15), .ref q5, .ref q6, .ref q7, .int ((upd F 0 (0 : Int32)) 19), .ref q8, .int ((upd F 0 (0 : Int32)) 21), .int ((upd F 0 (0 : Int32)) 22), .int ((upd F 0 (0 : Int32)) 23), .int ((upd F 0 (0 : Int32)) 24), .ref q9, .ref q10, .ref q11, .long (J 28)])), (q1, .inl (g.2 0, 376, .inl al))]) [0, 1] (by decide) rfl
    exact W.iret (v := (-1 : Int32)) hx hb hr (fun t ht hW => ⟨⟨_, ((upd F 0 (0 : Int32)), al), rfl, hv, by rw [ht]; exact hP9, hD9⟩, hS.F ht⟩) hS.2.2 dX9_clean_13
theorem mG_gC {G : Lg} {l : Nat} {al : Nat → Int32} (h : mG G l al) : mG (gC G) l (upd al (20 + 37 * l + 6) 0) := by
  obtain ⟨ok, h2, h3, h4⟩ := h
  refine ⟨⟨ok.1, ok.2.1, ok.2.2.1, ok.2.2.2.1, ok.2.2.2.2.1, ok.2.2.2.2.2.1, Nat.zero_le _, fun j hj => absurd hj (Nat.not_lt_zero j)⟩, ?_, fun j hj => ?_, fun j hj => absurd hj (Nat.not_lt_zero j)⟩
  · rw [show 26 + 37 * l = 20 + 37 * l + 6 by omega, upd_eq]; rfl
  · show (upd al _ _ (20 + 37 * l + j)).toInt = _
    rw [upd_ne (by omega)]; exact h3 j hj
abbrev preX9_clean (T : Cd) (G0 : Lg) (G1 : Lg) (lim : Nat) (F : Nat → Int32) (J : Nat → Int64) (al : Nat → Int32) (p1 : Int32) : Prop := fcR T G0 G1 lim al
abbrev postX9_clean (T : Cd) (G0 : Lg) (G1 : Lg) (lim : Nat) (F : Nat → Int32) (J : Nat → Int64) (al : Nat → Int32) (p1 : Int32) (r : Int32) (F' : Nat → Int32) (al' : Nat → Int32) : Prop := r.toInt = spClean G0 G1 p1.toInt ∧ fcR T (nxC0 G0 p1.toInt) (nxC1 G1 p1.toInt) lim al' ∧ kpA al al'
theorem sX9_clean (T : Cd) (G0 : Lg) (G1 : Lg) (lim : Nat) (F : Nat → Int32) (J : Nat → Int64) (al : Nat → Int32) (p1 : Int32) (H : preX9_clean T G0 G1 lim F J al p1) : vX9_clean F J al p1 (postX9_clean T G0 G1 lim F J al p1) := by
  obtain ⟨hT, h0, h1, hlim, hl9, hl1⟩ := id H
  refine ⟨trivial, fun r hr => ?_⟩
  have hr : r = if p1.toInt = 0 ∨ p1.toInt = 1 then 1 else 0 := hr
  unfold postX9_clean spClean nxC0 nxC1
  rw [hr, q_if1]
  refine ⟨fun hc => ?_, fun hc => by rw [if_neg hc, if_neg (by omega), if_neg (by omega)]; exact ⟨rfl, H, kpA_rf al⟩⟩
  have hc := Decidable.not_not.mp hc
  have hG := pk_mG h0 h1 (l := p1.toInt.toNat) (by omega)
  have hmk := mG_mk hG
  refine ⟨p1.toInt.toNat, 6, ⟨by omega, rfl, by omega⟩, fun r2 hr2 => ⟨p1.toInt.toNat, 6, ⟨by omega, rfl, by omega⟩, fun al2 ha => ?_⟩⟩
  have hr2 : r2 = al (20 + 37 * p1.toInt.toNat + 6) := hr2
  have ha : al2 = upd al (20 + 37 * p1.toInt.toNat + 6) 0 := ha
  rw [if_pos hc, ha]
  refine ⟨by rw [hr2]; exact hmk.1, ⟨mT_leg hT hT.1.2 (by omega) _, ?_, ?_, by rw [upd_ne (by omega)]; exact hlim, hl9, hl1⟩, kpA_up (by omega)⟩
  · rcases hc with e | e
    · rw [if_pos e, show p1.toInt.toNat = 0 by omega]; exact mG_gC h0
    · rw [if_neg (by omega), show p1.toInt.toNat = 1 by omega]; exact mG_ne h0 (by omega) _
  · rcases hc with e | e
    · rw [if_neg (by omega), show p1.toInt.toNat = 0 by omega]; exact mG_ne h1 (by omega) _
    · rw [if_pos e, show p1.toInt.toNat = 1 by omega]; exact mG_gC h1
set_option maxRecDepth 20000 in
theorem ggX9_mark_X9_isLeg : GoodIn wsX9_mark wsX9_isLeg := goodIn_r _ [5, 6, 7, 4, 8] (by decide +kernel) (by decide +kernel)
set_option maxRecDepth 20000 in
theorem gX9_mark_X9_isLeg : GoodIn wsX9_mark (va_wsS RX9 182 yX9_isLeg wsX9_isLeg) := goodIn_app (goodIn_of _ (by decide +kernel)) ggX9_mark_X9_isLeg
set_option maxRecDepth 20000 in
theorem ggX9_mark_X9_in : GoodIn wsX9_mark wsX9_in := goodIn_r _ [8] (by decide +kernel) (by decide +kernel)
set_option maxRecDepth 20000 in
theorem gX9_mark_X9_in : GoodIn wsX9_mark (va_wsS RX9 63 yX9_in wsX9_in) := goodIn_app (goodIn_of _ (by decide +kernel)) ggX9_mark_X9_in
set_option maxRecDepth 20000 in
theorem ggX9_mark_X9_ofLeg : GoodIn wsX9_mark wsX9_ofLeg := goodIn_r _ [12, 13, 18, 19, 20, 21, 22, 23, 24, 25, 26, 27, 28, 29, 30, 31, 32, 33, 34, 35, 36, 37, 38, 39, 40, 41, 42, 43, 44, 45, 46] (by decide +kernel) (by decide +kernel)
set_option maxRecDepth 20000 in
theorem gX9_mark_X9_ofLeg : GoodIn wsX9_mark (wsV RX9 185 RX9 yX9_ofLeg wsX9_ofLeg) := goodIn_app (goodIn_of _ (by decide +kernel)) ggX9_mark_X9_ofLeg
set_option maxRecDepth 20000 in
theorem ggX9_mark_X9_layLeg : GoodIn wsX9_mark wsX9_layLeg := goodIn_r _ [17, 13, 18, 19, 20, 21, 22, 23, 24, 25, 26, 27, 28, 29, 30, 31, 32, 33, 34, 35, 36, 37, 38, 39, 40, 41, 42, 43, 44, 45, 46] (by decide +kernel) (by decide +kernel)
set_option maxRecDepth 20000 in
theorem gX9_mark_X9_layLeg : GoodIn wsX9_mark (wsV RX9 188 RX9 yX9_layLeg wsX9_layLeg) := goodIn_app (goodIn_of _ (by decide +kernel)) ggX9_mark_X9_layLeg
theorem dX9_mark_0 : decode cX9_mark 0 = .ok (.aload_n 0, 1) := by decide +kernel
theorem dX9_mark_1 : decode cX9_mark 1 = .ok (.iconst 0, 1) := by decide +kernel
theorem dX9_mark_2 : decode cX9_mark 2 = .ok (.putfield 51, 3) := by decide +kernel
theorem dX9_mark_5 : decode cX9_mark 5 = .ok (.iload_n 1, 1) := by decide +kernel
theorem dX9_mark_6 : decode cX9_mark 6 = .ok (.invokestatic 182, 3) := by decide +kernel
theorem dX9_mark_9 : decode cX9_mark 9 = .ok (.ifCond .eq 35, 3) := by decide +kernel
theorem dX9_mark_12 : decode cX9_mark 12 = .ok (.iload_n 2, 1) := by decide +kernel
theorem dX9_mark_13 : decode cX9_mark 13 = .ok (.iconst 0, 1) := by decide +kernel
theorem dX9_mark_14 : decode cX9_mark 14 = .ok (.iconst 2, 1) := by decide +kernel
theorem dX9_mark_15 : decode cX9_mark 15 = .ok (.invokestatic 63, 3) := by decide +kernel
theorem dX9_mark_18 : decode cX9_mark 18 = .ok (.ifCond .eq 26, 3) := by decide +kernel
theorem dX9_mark_21 : decode cX9_mark 21 = .ok (.iload_n 3, 1) := by decide +kernel
theorem dX9_mark_22 : decode cX9_mark 22 = .ok (.iconst 0, 1) := by decide +kernel
theorem dX9_mark_23 : decode cX9_mark 23 = .ok (.sipush 199, 3) := by decide +kernel
theorem dX9_mark_26 : decode cX9_mark 26 = .ok (.invokestatic 63, 3) := by decide +kernel
theorem dX9_mark_29 : decode cX9_mark 29 = .ok (.ifCond .eq 15, 3) := by decide +kernel
theorem dX9_mark_32 : decode cX9_mark 32 = .ok (.aload_n 0, 1) := by decide +kernel
theorem dX9_mark_33 : decode cX9_mark 33 = .ok (.iload_n 1, 1) := by decide +kernel
theorem dX9_mark_34 : decode cX9_mark 34 = .ok (.bipush 6, 2) := by decide +kernel
theorem dX9_mark_36 : decode cX9_mark 36 = .ok (.invokevirtual 185, 3) := by decide +kernel
theorem dX9_mark_39 : decode cX9_mark 39 = .ok (.bipush 10, 2) := by decide +kernel
theorem dX9_mark_41 : decode cX9_mark 41 = .ok (.if_icmp .ne 5, 3) := by decide +kernel
theorem dX9_mark_44 : decode cX9_mark 44 = .ok (.iconst (-1), 1) := by decide +kernel
theorem dX9_mark_45 : decode cX9_mark 45 = .ok (.ireturn, 1) := by decide +kernel
theorem dX9_mark_46 : decode cX9_mark 46 = .ok (.bipush 7, 2) := by decide +kernel
theorem dX9_mark_48 : decode cX9_mark 48 = .ok (.iconst 3, 1) := by decide +kernel
theorem dX9_mark_49 : decode cX9_mark 49 = .ok (.aload_n 0, 1) := by decide +kernel
theorem dX9_mark_50 : decode cX9_mark 50 = .ok (.iload_n 1, 1) := by decide +kernel
theorem dX9_mark_51 : decode cX9_mark 51 = .ok (.bipush 6, 2) := by decide +kernel
theorem dX9_mark_53 : decode cX9_mark 53 = .ok (.invokevirtual 185, 3) := by decide +kernel
theorem dX9_mark_56 : decode cX9_mark 56 = .ok (.imul, 1) := by decide +kernel
theorem dX9_mark_57 : decode cX9_mark 57 = .ok (.iadd, 1) := by decide +kernel
theorem dX9_mark_58 : decode cX9_mark 58 = .ok (.istore 4, 2) := by decide +kernel
theorem dX9_mark_60 : decode cX9_mark 60 = .ok (.aload_n 0, 1) := by decide +kernel
theorem dX9_mark_61 : decode cX9_mark 61 = .ok (.iload_n 1, 1) := by decide +kernel
theorem dX9_mark_62 : decode cX9_mark 62 = .ok (.iload 4, 2) := by decide +kernel
theorem dX9_mark_64 : decode cX9_mark 64 = .ok (.iload_n 2, 1) := by decide +kernel
theorem dX9_mark_65 : decode cX9_mark 65 = .ok (.invokevirtual 188, 3) := by decide +kernel
theorem dX9_mark_68 : decode cX9_mark 68 = .ok (.aload_n 0, 1) := by decide +kernel
theorem dX9_mark_69 : decode cX9_mark 69 = .ok (.iload_n 1, 1) := by decide +kernel
theorem dX9_mark_70 : decode cX9_mark 70 = .ok (.iload 4, 2) := by decide +kernel
theorem dX9_mark_72 : decode cX9_mark 72 = .ok (.iconst 1, 1) := by decide +kernel
theorem dX9_mark_73 : decode cX9_mark 73 = .ok (.iadd, 1) := by decide +kernel
theorem dX9_mark_74 : decode cX9_mark 74 = .ok (.iload_n 3, 1) := by decide +kernel
theorem dX9_mark_75 : decode cX9_mark 75 = .ok (.invokevirtual 188, 3) := by decide +kernel
theorem dX9_mark_78 : decode cX9_mark 78 = .ok (.aload_n 0, 1) := by decide +kernel
theorem dX9_mark_79 : decode cX9_mark 79 = .ok (.iload_n 1, 1) := by decide +kernel
theorem dX9_mark_80 : decode cX9_mark 80 = .ok (.iload 4, 2) := by decide +kernel
theorem dX9_mark_82 : decode cX9_mark 82 = .ok (.iconst 2, 1) := by decide +kernel
theorem dX9_mark_83 : decode cX9_mark 83 = .ok (.iadd, 1) := by decide +kernel
theorem dX9_mark_84 : decode cX9_mark 84 = .ok (.iload_n 3, 1) := by decide +kernel
theorem dX9_mark_85 : decode cX9_mark 85 = .ok (.invokevirtual 188, 3) := by decide +kernel
theorem dX9_mark_88 : decode cX9_mark 88 = .ok (.aload_n 0, 1) := by decide +kernel
theorem dX9_mark_89 : decode cX9_mark 89 = .ok (.iload_n 1, 1) := by decide +kernel
theorem dX9_mark_90 : decode cX9_mark 90 = .ok (.bipush 6, 2) := by decide +kernel
theorem dX9_mark_92 : decode cX9_mark 92 = .ok (.aload_n 0, 1) := by decide +kernel
theorem dX9_mark_93 : decode cX9_mark 93 = .ok (.iload_n 1, 1) := by decide +kernel
theorem dX9_mark_94 : decode cX9_mark 94 = .ok (.bipush 6, 2) := by decide +kernel
theorem dX9_mark_96 : decode cX9_mark 96 = .ok (.invokevirtual 185, 3) := by decide +kernel
theorem dX9_mark_99 : decode cX9_mark 99 = .ok (.iconst 1, 1) := by decide +kernel
theorem dX9_mark_100 : decode cX9_mark 100 = .ok (.iadd, 1) := by decide +kernel
theorem dX9_mark_101 : decode cX9_mark 101 = .ok (.invokevirtual 188, 3) := by decide +kernel
theorem dX9_mark_104 : decode cX9_mark 104 = .ok (.aload_n 0, 1) := by decide +kernel
theorem dX9_mark_105 : decode cX9_mark 105 = .ok (.iload_n 1, 1) := by decide +kernel
theorem dX9_mark_106 : decode cX9_mark 106 = .ok (.bipush 6, 2) := by decide +kernel
theorem dX9_mark_108 : decode cX9_mark 108 = .ok (.invokevirtual 185, 3) := by decide +kernel
theorem dX9_mark_111 : decode cX9_mark 111 = .ok (.ireturn, 1) := by decide +kernel
abbrev rmX9_mark : Room := { frames := 2, cells := 0, slots := 0, locals := 42 }
theorem inX9_mark_9 : ∀ w ∈ wsX90, w ∈ wsX9_mark := by decide +kernel
def vX9_mark (F : Nat → Int32) (J : Nat → Int64) (al : Nat → Int32) (p1 : Int32) (p2 : Int32) (p3 : Int32) (Q : Int32 → (Nat → Int32) → (Nat → Int32) → Prop) : Prop := (preX9_isLeg p1 ∧ (∀ r_6 : Int32, postX9_isLeg p1 r_6 → ((r_6 = 0 → (Q (-1 : Int32) (upd F 0 (0 : Int32)) al)) ∧ (¬ r_6 = 0 → (preX9_in p2 (0 : Int32) (2 : Int32) ∧ (∀ r_15 : Int32, postX9_in p2 (0 : Int32) (2 : Int32) r_15 → ((r_15 = 0 → (Q (-1 : Int32) (upd F 0 (0 : Int32)) al)) ∧ (¬ r_15 = 0 → (preX9_in p3 (0 : Int32) (199 : Int32) ∧ (∀ r_26 : Int32, postX9_in p3 (0 : Int32) (199 : Int32) r_26 → ((r_26 = 0 → (Q (-1 : Int32) (upd F 0 (0 : Int32)) al)) ∧ (¬ r_26 = 0 → (∃ (p_36 : Nat) (w_36 : Nat), preX9_ofLeg p_36 w_36 (upd F 0 (0 : Int32)) J al p1 (6 : Int32) ∧ (∀ r_36 : Int32, postX9_ofLeg p_36 w_36 (upd F 0 (0 : Int32)) J al p1 (6 : Int32) r_36 → ((¬ r_36 = (10 : Int32) → (∃ (p_53 : Nat) (w_53 : Nat), preX9_ofLeg p_53 w_53 (upd F 0 (0 : Int32)) J al p1 (6 : Int32) ∧ (∀ r_53 : Int32, postX9_ofLeg p_53 w_53 (upd F 0 (0 : Int32)) J al p1 (6 : Int32) r_53 → (∀ y_58 : Int32, y_58 = ((7 : Int32) + ((3 : Int32) * r_53)) → (∃ (p_65 : Nat) (w_65 : Nat), preX9_layLeg p_65 w_65 (upd F 0 (0 : Int32)) J al p1 y_58 p2 ∧ (∀ (al_65 : Nat → Int32), postX9_layLeg p_65 w_65 (upd F 0 (0 : Int32)) J al p1 y_58 p2 al_65 → (∃ (p_75 : Nat) (w_75 : Nat), preX9_layLeg p_75 w_75 (upd F 0 (0 : Int32)) J al_65 p1 (y_58 + (1 : Int32)) p3 ∧ (∀ (al_75 : Nat → Int32), postX9_layLeg p_75 w_75 (upd F 0 (0 : Int32)) J al_65 p1 (y_58 + (1 : Int32)) p3 al_75 → (∃ (p_85 : Nat) (w_85 : Nat), preX9_layLeg p_85 w_85 (upd F 0 (0 : Int32)) J al_75 p1 (y_58 + (2 : Int32)) p3 ∧ (∀ (al_85 : Nat → Int32), postX9_layLeg p_85 w_85 (upd F 0 (0 : Int32)) J al_75 p1 (y_58 + (2 : Int32)) p3 al_85 → (∃ (p_96 : Nat) (w_96 : Nat), preX9_ofLeg p_96 w_96 (upd F 0 (0 : Int32)) J al_85 p1 (6 : Int32) ∧ (∀ r_96 : Int32, postX9_ofLeg p_96 w_96 (upd F 0 (0 : Int32)) J al_85 p1 (6 : Int32) r_96 → (∃ (p_101 : Nat) (w_101 : Nat), preX9_layLeg p_101 w_101 (upd F 0 (0 : Int32)) J al_85 p1 (6 : Int32) (r_96 + (1 : Int32)) ∧ (∀ (al_101 : Nat → Int32), postX9_layLeg p_101 w_101 (upd F 0 (0 : Int32)) J al_85 p1 (6 : Int32) (r_96 + (1 : Int32)) al_101 → (∃ (p_108 : Nat) (w_108 : Nat), preX9_ofLeg p_108 w_108 (upd F 0 (0 : Int32)) J al_101 p1 (6 : Int32) ∧ (∀ r_108 : Int32, postX9_ofLeg p_108 w_108 (upd F 0 (0 : Int32)) J al_101 p1 (6 : Int32) r_108 → (Q r_108 (upd F 0 (0 : Int32)) al_101))))))))))))))))) ∧ (r_36 = (10 : Int32) → (Q (-1 : Int32) (upd F 0 (0 : Int32)) al)))))))))))))))))
set_option maxHeartbeats 4000000 in
set_option maxRecDepth 100000 in
theorem wX9_mark (l : Launch) (g : GP) (qM : Nat) (q1 : Nat) (q2 : Nat) (q3 : Nat) (q4 : Nat) (q5 : Nat) (q6 : Nat) (q7 : Nat) (q8 : Nat) (q9 : Nat) (q10 : Nat) (q11 : Nat) (sz : Nat) (F : Nat → Int32) (J : Nat → Int64) (al : Nat → Int32) (p1 : Int32) (p2 : Int32) (p3 : Int32) {Q : Int32 → (Nat → Int32) → (Nat → Int32) → Prop} (hv : vX9_mark F J al p1 p2 p3 Q) : Met l yX9_mark wsX9_mark rmX9_mark (va_Pc [.ref qM, .int p1, .int p2, .int p3] (fun U => U.heap.size = sz ∧ va_P g.1 vwCl [(qM, .inr (9, [.int (F 0), .ref q1, .ref q2, .ref q3, .int (F 4), .int (F 5), .int (F 6), .int (F 7), .int (F 8), .int (F 9), .long (J 10), .int (F 11), .int (F 12), .int (F 13), .ref q4, .int (F 15), .ref q5, .ref q6, .ref q7, .int (F 19), .ref q8, .int (F 21), .int (F 22), .int (F 23), .int (F 24), .ref q9, .ref q10, .ref q11, .long (J 28)])), (q1, .inl (g.2 0, 376, .inl al))] U.heap ∧ GK g U ∧ va_D (fun _ => True) [(qM, .inr (9, [.int (F 0), .ref q1, .ref q2, .ref q3, .int (F 4), .int (F 5), .int (F 6), .int (F 7), .int (F 8), .int (F 9), .long (J 10), .int (F 11), .int (F 12), .int (F 13), .ref q4, .int (F 15), .ref q5, .ref q6, .ref q7, .int (F 19), .ref q8, .int (F 21), .int (F 22), .int (F 23), .int (F 24), .ref q9, .ref q10, .ref q11, .long (J 28)])), (q1, .inl (g.2 0, 376, .inl al))])) (va_Qi (fun (r : Int32) (u : (Nat → Int32) × (Nat → Int32)) => Q r u.1 u.2) (fun (u : (Nat → Int32) × (Nat → Int32)) t => va_P g.1 vwCl [(qM, .inr (9, [.int (u.1 0), .ref q1, .ref q2, .ref q3, .int (u.1 4), .int (u.1 5), .int (u.1 6), .int (u.1 7), .int (u.1 8), .int (u.1 9), .long (J 10), .int (u.1 11), .int (u.1 12), .int (u.1 13), .ref q4, .int (u.1 15), .ref q5, .ref q6, .ref q7, .int (u.1 19), .ref q8, .int (u.1 21), .int (u.1 22), .int (u.1 23), .int (u.1 24), .ref q9, .ref q10, .ref q11, .long (J 28)])), (q1, .inl (g.2 0, 376, .inl u.2))] t.heap ∧ va_D (va_A [(qM, .inr (9, [.int (F 0), .ref q1, .ref q2, .ref q3, .int (F 4), .int (F 5), .int (F 6), .int (F 7), .int (F 8), .int (F 9), .long (J 10), .int (F 11), .int (F 12), .int (F 13), .ref q4, .int (F 15), .ref q5, .ref q6, .ref q7, .int (F 19), .ref q8, .int (F 21), .int (F 22), .int (F 23), .int (F 24), .ref q9, .ref q10, .ref q11, .long (J 28)])), (q1, .inl (g.2 0, 376, .inl al))] sz) [(qM, .inr (9, [.int (u.1 0), .ref q1, .ref q2, .ref q3, .int (u.1 4), .int (u.1 5), .int (u.1 6), .int (u.1 7), .int (u.1 8), .int (u.1 9), .long (J 10), .int (u.1 11), .int (u.1 12), .int (u.1 13), .ref q4, .int (u.1 15), .ref q5, .ref q6, .ref q7, .int (u.1 19), .ref q8, .int (u.1 21), .int (u.1 22), .int (u.1 23), .int (u.1 24), .ref q9, .ref q10, .ref q11, .long (J 28)])), (q1, .inl (g.2 0, 376, .inl u.2))]) (va_A [(qM, .inr (9, [.int (F 0), .ref q1, .ref q2, .ref q3, .int (F 4), .int (F 5), .int (F 6), .int (F 7), .int (F 8), .int (F 9), .long (J 10), .int (F 11), .int (F 12), .int (F 13), .ref q4, .int (F 15), .ref q5, .ref q6, .ref q7, .int (F 19), .ref q8, .int (F 21), .int (F 22), .int (F 23), .int (F 24), .ref q9, .ref q10, .ref q11, .long (J 28)])), (q1, .inl (g.2 0, 376, .inl al))] sz)) 0 0 (va_A [(qM, .inr (9, [.int (F 0), .ref q1, .ref q2, .ref q3, .int (F 4), .int (F 5), .int (F 6), .int (F 7), .int (F 8), .int (F 9), .long (J 10), .int (F 11), .int (F 12), .int (F 13), .ref q4, .int (F 15), .ref q5, .ref q6, .ref q7, .int (F 19), .ref q8, .int (F 21), .int (F 22), .int (F 23), .int (F 24), .ref q9, .ref q10, .ref q11, .long (J 28)])), (q1, .inl (g.2 0, 376, .inl al))] sz) := by
  refine Met.ofW (cc := cX9_mark) (maxL := 5) (ret := (some .int)) (by decide) rfl ?_
  intro p e s m args below meth c s₁ B hml hv'
  obtain ⟨rfl, hsz, hP, hG, hD0⟩ := hv'
  have S : CallFix p m c cX9_mark 5 s _ wsX9_mark RX9 := ⟨B.exec, B.bytes, hml, findClass_of_methodNamed B.named, atoms_spec (ws := wsX9_mark) B.pre⟩
  obtain ⟨hx, hb, hml, hown, hts⟩ := id S
  have hK := hG.1
  have hr := B.returns
  have hlocks := B.notSynchronized
  subst hsz
  have hD := hD0.self (sz := s.heap.size)
  generalize hAe : va_A [(qM, .inr (9, [.int (F 0), .ref q1, .ref q2, .ref q3, .int (F 4), .int (F 5), .int (F 6), .int (F 7), .int (F 8), .int (F 9), .long (J 10), .int (F 11), .int (F 12), .int (F 13), .ref q4, .int (F 15), .ref q5, .ref q6, .ref q7, .int (F 19), .ref q8, .int (F 21), .int (F 22), .int (F 23), .int (F 24), .ref q9, .ref q10, .ref q11, .long (J 28)])), (q1, .inl (g.2 0, 376, .inl al))] s.heap.size = A at hD ⊢
  have hA : ∀ q : Nat, s.heap.size ≤ q → A q := fun q h => by rw [← hAe]; exact Or.inr h
  have hS : va_S A s.heap s.heap [] := va_S.rf
  clear hD0 hAe
  have hl := lv_entry ([.ref qM, .int p1, .int p2, .int p3]) (n := 5) (Nat.le_of_ble_eq_true rfl)
  rw [lg_entry_eq]
  generalize (lg_sl ([.ref qM, .int p1, .int p2, .int p3]) ++ List.replicate (5 - (lg_sl ([.ref qM, .int p1, .int p2, .int p3])).length) Slot.unset).toArray = ls at hl ⊢
  have hl : lv_has ls 5 [(0, .ref qM), (1, .int p1), (2, .int p2), (3, .int p3)] := hl
  unfold vX9_mark at hv
  refine lv_aload_n hx hb dX9_mark_0 rfl (lv_at hl 0 rfl) ?_
  refine lv_iconst (v := (0 : Int32)) hx hb dX9_mark_1 (by decide) ?_
  refine va_put (D := g.1) (ci := 9) (v := .int (0 : Int32)) (ty := .int) (C := RX9) (T := TX9) (N := 29) hx hb hts inX9_mark_9 tyX9 tyX9_ok nmX9 hown hK hP hD hS 0 rfl rfl 0 (by decide) (hts (.fieldLink RX9 51 "RangeCodesModel" "raised" "I") (List.mem_of_getElem? (i := 1) rfl)) (fun _ h9 => h9) rfl (by decide +kernel) rfl rfl (Nat.le_of_ble_eq_true rfl) dX9_mark_2 (fun H locs hP hD hS => ?_)
  have hP : va_P g.1 vwCl [(qM, .inr (9, [.int (0 : Int32), .ref q1, .ref q2, .ref q3, .int (F 4), .int (F 5), .int (F 6), .int (F 7), .int (F 8), .int (F 9), .long (J 10), .int (F 11), .int (F 12), .int (F 13), .ref q4, .int (F 15), .ref q5, .ref q6, .ref q7, .int (F 19), .ref q8, .int (F 21), .int (F 22), .int (F 23), .int (F 24), .ref q9, .ref q10, .ref q11, .long (J 28)])), (q1, .inl (g.2 0, 376, .inl al))] H := hP
  have hD : va_D A [(qM, .inr (9, [.int (0 : Int32), .ref q1, .ref q2, .ref q3, .int (F 4), .int (F 5), .int (F 6), .int (F 7), .int (F 8), .int (F 9), .long (J 10), .int (F 11), .int (F 12), .int (F 13), .ref q4, .int (F 15), .ref q5, .ref q6, .ref q7, .int (F 19), .ref q8, .int (F 21), .int (F 22), .int (F 23), .int (F 24), .ref q9, .ref q10, .ref q11, .long (J 28)])), (q1, .inl (g.2 0, 376, .inl al))] := hD
  refine lv_iload_n hx hb dX9_mark_5 rfl (lv_at hl 1 rfl) ?_
  obtain ⟨ho_1, hv⟩ := hv
  refine vp_callSi (W.runS (As := [.int p1]) (rest := []) S (wX9_isLeg l g p1 (sX9_isLeg p1 ho_1)) (va_cwS 1 hts gX9_mark_X9_isLeg rfl rfl rfl (by decide +kernel) ⟨Nat.le_of_ble_eq_true rfl, Nat.le_of_ble_eq_true rfl⟩) ⟨blindRO, fun U hU hW => ⟨rfl, by rw [hU]; exact hP.sub (ws' := []) [] rfl, hG.warm hW⟩⟩ rfl rfl hl.1 rfl (lv_room (Nat.le_of_ble_eq_true rfl)) dX9_mark_6 ⟨Nat.le_of_ble_eq_true rfl, Nat.le_of_ble_eq_true rfl⟩) (fun r_6 hr_6 => ?_)
  have hv := hv r_6 hr_6
  obtain ⟨hvt, hvf⟩ := hv
  refine lv_if_eq (tgt := 44) hx hb dX9_mark_9 (by decide) (fun hc => ?_) (fun hc => ?_)
  · have hv := hvt hc
    refine lv_iconst (v := (-1 : Int32)) hx hb dX9_mark_44 (by decide) ?_
    have hP9 := hP.sub (ws' := [(qM, .inr (9, [.int ((upd F 0 (0 : Int32)) 0), .ref q1, .ref q2, .ref q3, .int ((upd F 0 (0 : Int32)) 4), .int ((upd F 0 (0 : Int32)) 5), .int ((upd F 0 (0 : Int32)) 6), .int ((upd F 0 (0 : Int32)) 7), .int ((upd F 0 (0 : Int32)) 8), .int ((upd F 0 (0 : Int32)) 9), .long (J 10), .int ((upd F 0 (0 : Int32)) 11), .int ((upd F 0 (0 : Int32)) 12), .int ((upd F 0 (0 : Int32)) 13), .ref q4, .int ((upd F 0 (0 : Int32)) 15), .ref q5, .ref q6, .ref q7, .int ((upd F 0 (0 : Int32)) 19), .ref q8, .int ((upd F 0 (0 : Int32)) 21), .int ((upd F 0 (0 : Int32)) 22), .int ((upd F 0 (0 : Int32)) 23), .int ((upd F 0 (0 : Int32)) 24), .ref q9, .ref q10, .ref q11, .long (J 28)])), (q1, .inl (g.2 0, 376, .inl al))]) [0, 1] rfl
    have hD9 := hD.sub (ws' := [(qM, .inr (9, [.int ((upd F 0 (0 : Int32)) 0), .ref q1, .ref q2, .ref q3, .int ((upd F 0 (0 : Int32)) 4), .int ((upd F 0 (0 : Int32)) 5), .int ((upd F 0 (0 : Int32)) 6), .int ((upd F 0 (0 : Int32)) 7), .int ((upd F 0 (0 : Int32)) 8), .int ((upd F 0 (0 : Int32)) 9), .long (J 10), .int ((upd F 0 (0 : Int32)) 11), .int ((upd F 0 (0 : Int32)) 12), .int ((upd F 0 (0 : Int32)) 13), .ref q4, .int ((upd F 0 (0 : Int32)) 15), .ref q5, .ref q6, .ref q7, .int ((upd F 0 (0 : Int32)) 19), .ref q8, .int ((upd F 0 (0 : Int32)) 21), .int ((upd F 0 (0 : Int32)) 22), .int ((upd F 0 (0 : Int32)) 23), .int ((upd F 0 (0 : Int32)) 24), .ref q9, .ref q10, .ref q11, .long (J 28)])), (q1, .inl (g.2 0, 376, .inl al))]) [0, 1] (by decide) rfl
    exact W.iret (v := (-1 : Int32)) hx hb hr (fun t ht hW => ⟨⟨_, ((upd F 0 (0 : Int32)), al), rfl, hv, by rw [ht]; exact hP9, hD9⟩, hS.F ht⟩) hS.2.2 dX9_mark_45
  · have hv := hvf hc
    refine lv_iload_n hx hb dX9_mark_12 rfl (lv_at hl 2 rfl) ?_
    refine lv_iconst (v := (0 : Int32)) hx hb dX9_mark_13 (by decide) ?_
    refine lv_iconst (v := (2 : Int32)) hx hb dX9_mark_14 (by decide) ?_
    obtain ⟨ho_2, hv⟩ := hv
    refine vp_callSi (W.runS (As := [.int p2, .int (0 : Int32), .int (2 : Int32)]) (rest := []) S (wX9_in l g p2 (0 : Int32) (2 : Int32) (sX9_in p2 (0 : Int32) (2 : Int32) ho_2)) (va_cwS 3 hts gX9_mark_X9_in rfl rfl rfl (by decide +kernel) ⟨Nat.le_of_ble_eq_true rfl, Nat.le_of_ble_eq_true rfl⟩) ⟨blindRO, fun U hU hW => ⟨rfl, by rw [hU]; exact hP.sub (ws' := []) [] rfl, hG.warm hW⟩⟩ rfl rfl hl.1 rfl (lv_room (Nat.le_of_ble_eq_true rfl)) dX9_mark_15 ⟨Nat.le_of_ble_eq_true rfl, Nat.le_of_ble_eq_true rfl⟩) (fun r_15 hr_15 => ?_)
    have hv := hv r_15 hr_15
    obtain ⟨hvt, hvf⟩ := hv
    refine lv_if_eq (tgt := 44) hx hb dX9_mark_18 (by decide) (fun hc => ?_) (fun hc => ?_)
    · have hv := hvt hc
      refine lv_iconst (v := (-1 : Int32)) hx hb dX9_mark_44 (by decide) ?_
      have hP9 := hP.sub (ws' := [(qM, .inr (9, [.int ((upd F 0 (0 : Int32)) 0), .ref q1, .ref q2, .ref q3, .int ((upd F 0 (0 : Int32)) 4), .int ((upd F 0 (0 : Int32)) 5), .int ((upd F 0 (0 : Int32)) 6), .int ((upd F 0 (0 : Int32)) 7), .int ((upd F 0 (0 : Int32)) 8), .int ((upd F 0 (0 : Int32)) 9), .long (J 10), .int ((upd F 0 (0 : Int32)) 11), .int ((upd F 0 (0 : Int32)) 12), .int ((upd F 0 (0 : Int32)) 13), .ref q4, .int ((upd F 0 (0 : Int32)) 15), .ref q5, .ref q6, .ref q7, .int ((upd F 0 (0 : Int32)) 19), .ref q8, .int ((upd F 0 (0 : Int32)) 21), .int ((upd F 0 (0 : Int32)) 22), .int ((upd F 0 (0 : Int32)) 23), .int ((upd F 0 (0 : Int32)) 24), .ref q9, .ref q10, .ref q11, .long (J 28)])), (q1, .inl (g.2 0, 376, .inl al))]) [0, 1] rfl
      have hD9 := hD.sub (ws' := [(qM, .inr (9, [.int ((upd F 0 (0 : Int32)) 0), .ref q1, .ref q2, .ref q3, .int ((upd F 0 (0 : Int32)) 4), .int ((upd F 0 (0 : Int32)) 5), .int ((upd F 0 (0 : Int32)) 6), .int ((upd F 0 (0 : Int32)) 7), .int ((upd F 0 (0 : Int32)) 8), .int ((upd F 0 (0 : Int32)) 9), .long (J 10), .int ((upd F 0 (0 : Int32)) 11), .int ((upd F 0 (0 : Int32)) 12), .int ((upd F 0 (0 : Int32)) 13), .ref q4, .int ((upd F 0 (0 : Int32)) 15), .ref q5, .ref q6, .ref q7, .int ((upd F 0 (0 : Int32)) 19), .ref q8, .int ((upd F 0 (0 : Int32)) 21), .int ((upd F 0 (0 : Int32)) 22), .int ((upd F 0 (0 : Int32)) 23), .int ((upd F 0 (0 : Int32)) 24), .ref q9, .ref q10, .ref q11, .long (J 28)])), (q1, .inl (g.2 0, 376, .inl al))]) [0, 1] (by decide) rfl
      exact W.iret (v := (-1 : Int32)) hx hb hr (fun t ht hW => ⟨⟨_, ((upd F 0 (0 : Int32)), al), rfl, hv, by rw [ht]; exact hP9, hD9⟩, hS.F ht⟩) hS.2.2 dX9_mark_45
    · have hv := hvf hc
      refine lv_iload_n hx hb dX9_mark_21 rfl (lv_at hl 3 rfl) ?_
      refine lv_iconst (v := (0 : Int32)) hx hb dX9_mark_22 (by decide) ?_
      refine lv_sipush (v := (199 : Int32)) hx hb dX9_mark_23 (by decide) ?_
      obtain ⟨ho_3, hv⟩ := hv
      refine vp_callSi (W.runS (As := [.int p3, .int (0 : Int32), .int (199 : Int32)]) (rest := []) S (wX9_in l g p3 (0 : Int32) (199 : Int32) (sX9_in p3 (0 : Int32) (199 : Int32) ho_3)) (va_cwS 3 hts gX9_mark_X9_in rfl rfl rfl (by decide +kernel) ⟨Nat.le_of_ble_eq_true rfl, Nat.le_of_ble_eq_true rfl⟩) ⟨blindRO, fun U hU hW => ⟨rfl, by rw [hU]; exact hP.sub (ws' := []) [] rfl, hG.warm hW⟩⟩ rfl rfl hl.1 rfl (lv_room (Nat.le_of_ble_eq_true rfl)) dX9_mark_26 ⟨Nat.le_of_ble_eq_true rfl, Nat.le_of_ble_eq_true rfl⟩) (fun r_26 hr_26 => ?_)
      have hv := hv r_26 hr_26
      obtain ⟨hvt, hvf⟩ := hv
      refine lv_if_eq (tgt := 44) hx hb dX9_mark_29 (by decide) (fun hc => ?_) (fun hc => ?_)
      · have hv := hvt hc
        refine lv_iconst (v := (-1 : Int32)) hx hb dX9_mark_44 (by decide) ?_
        have hP9 := hP.sub (ws' := [(qM, .inr (9, [.int ((upd F 0 (0 : Int32)) 0), .ref q1, .ref q2, .ref q3, .int ((upd F 0 (0 : Int32)) 4), .int ((upd F 0 (0 : Int32)) 5), .int ((upd F 0 (0 : Int32)) 6), .int ((upd F 0 (0 : Int32)) 7), .int ((upd F 0 (0 : Int32)) 8), .int ((upd F 0 (0 : Int32)) 9), .long (J 10), .int ((upd F 0 (0 : Int32)) 11), .int ((upd F 0 (0 : Int32)) 12), .int ((upd F 0 (0 : Int32)) 13), .ref q4, .int ((upd F 0 (0 : Int32)) 15), .ref q5, .ref q6, .ref q7, .int ((upd F 0 (0 : Int32)) 19), .ref q8, .int ((upd F 0 (0 : Int32)) 21), .int ((upd F 0 (0 : Int32)) 22), .int ((upd F 0 (0 : Int32)) 23), .int ((upd F 0 (0 : Int32)) 24), .ref q9, .ref q10, .ref q11, .long (J 28)])), (q1, .inl (g.2 0, 376, .inl al))]) [0, 1] rfl
        have hD9 := hD.sub (ws' := [(qM, .inr (9, [.int ((upd F 0 (0 : Int32)) 0), .ref q1, .ref q2, .ref q3, .int ((upd F 0 (0 : Int32)) 4), .int ((upd F 0 (0 : Int32)) 5), .int ((upd F 0 (0 : Int32)) 6), .int ((upd F 0 (0 : Int32)) 7), .int ((upd F 0 (0 : Int32)) 8), .int ((upd F 0 (0 : Int32)) 9), .long (J 10), .int ((upd F 0 (0 : Int32)) 11), .int ((upd F 0 (0 : Int32)) 12), .int ((upd F 0 (0 : Int32)) 13), .ref q4, .int ((upd F 0 (0 : Int32)) 15), .ref q5, .ref q6, .ref q7, .int ((upd F 0 (0 : Int32)) 19), .ref q8, .int ((upd F 0 (0 : Int32)) 21), .int ((upd F 0 (0 : Int32)) 22), .int ((upd F 0 (0 : Int32)) 23), .int ((upd F 0 (0 : Int32)) 24), .ref q9, .ref q10, .ref q11, .long (J 28)])), (q1, .inl (g.2 0, 376, .inl al))]) [0, 1] (by decide) rfl
        exact W.iret (v := (-1 : Int32)) hx hb hr (fun t ht hW => ⟨⟨_, ((upd F 0 (0 : Int32)), al), rfl, hv, by rw [ht]; exact hP9, hD9⟩, hS.F ht⟩) hS.2.2 dX9_mark_45
      · have hv := hvf hc
        refine lv_aload_n hx hb dX9_mark_32 rfl (lv_at hl 0 rfl) ?_
        refine lv_iload_n hx hb dX9_mark_33 rfl (lv_at hl 1 rfl) ?_
        refine lv_bipush (v := (6 : Int32)) hx hb dX9_mark_34 (by decide) ?_
        obtain ⟨p_36, w_36, ho_4, hv⟩ := hv
        refine vp_callSi (W.runV (As := [.int p1, .int (6 : Int32)]) (rest := []) S (wX9_ofLeg l g qM q1 q2 q3 q4 q5 q6 q7 q8 q9 q10 q11 (upd F 0 (0 : Int32)) J al p1 (6 : Int32) (sX9_ofLeg p_36 w_36 (upd F 0 (0 : Int32)) J al p1 (6 : Int32) ho_4)) (cwV 2 hts gX9_mark_X9_ofLeg rfl rfl rfl (by decide +kernel) ⟨Nat.le_of_ble_eq_true rfl, Nat.le_of_ble_eq_true rfl⟩) ⟨blindRO, va_recv hK hP (ci := 9) (q0 := 0) rfl rfl, fun U hU hW => ⟨rfl, by rw [hU]; exact hP.sub (ws' := [(qM, .inr (9, [.int ((upd F 0 (0 : Int32)) 0), .ref q1, .ref q2, .ref q3, .int ((upd F 0 (0 : Int32)) 4), .int ((upd F 0 (0 : Int32)) 5), .int ((upd F 0 (0 : Int32)) 6), .int ((upd F 0 (0 : Int32)) 7), .int ((upd F 0 (0 : Int32)) 8), .int ((upd F 0 (0 : Int32)) 9), .long (J 10), .int ((upd F 0 (0 : Int32)) 11), .int ((upd F 0 (0 : Int32)) 12), .int ((upd F 0 (0 : Int32)) 13), .ref q4, .int ((upd F 0 (0 : Int32)) 15), .ref q5, .ref q6, .ref q7, .int ((upd F 0 (0 : Int32)) 19), .ref q8, .int ((upd F 0 (0 : Int32)) 21), .int ((upd F 0 (0 : Int32)) 22), .int ((upd F 0 (0 : Int32)) 23), .int ((upd F 0 (0 : Int32)) 24), .ref q9, .ref q10, .ref q11, .long (J 28)])), (q1, .inl (g.2 0, 376, .inl al))]) [0, 1] rfl, hG.warm hW⟩⟩ rfl rfl hl.1 rfl (lv_room (Nat.le_of_ble_eq_true rfl)) dX9_mark_36 ⟨Nat.le_of_ble_eq_true rfl, Nat.le_of_ble_eq_true rfl⟩) (fun r_36 hr_36 => ?_)
        have hv := hv r_36 hr_36
        refine lv_bipush (v := (10 : Int32)) hx hb dX9_mark_39 (by decide) ?_
        obtain ⟨hvt, hvf⟩ := hv
        refine lv_icmp_ne (tgt := 46) hx hb dX9_mark_41 (by decide) (fun hc => ?_) (fun hc => ?_)
        · have hv := hvt hc
          refine lv_bipush (v := (7 : Int32)) hx hb dX9_mark_46 (by decide) ?_
          refine lv_iconst (v := (3 : Int32)) hx hb dX9_mark_48 (by decide) ?_
          refine lv_aload_n hx hb dX9_mark_49 rfl (lv_at hl 0 rfl) ?_
          refine lv_iload_n hx hb dX9_mark_50 rfl (lv_at hl 1 rfl) ?_
          refine lv_bipush (v := (6 : Int32)) hx hb dX9_mark_51 (by decide) ?_
          obtain ⟨p_53, w_53, ho_5, hv⟩ := hv
          refine vp_callSi (W.runV (As := [.int p1, .int (6 : Int32)]) (rest := [.int (3 : Int32), .int (7 : Int32)]) S (wX9_ofLeg l g qM q1 q2 q3 q4 q5 q6 q7 q8 q9 q10 q11 (upd F 0 (0 : Int32)) J al p1 (6 : Int32) (sX9_ofLeg p_53 w_53 (upd F 0 (0 : Int32)) J al p1 (6 : Int32) ho_5)) (cwV 2 hts gX9_mark_X9_ofLeg rfl rfl rfl (by decide +kernel) ⟨Nat.le_of_ble_eq_true rfl, Nat.le_of_ble_eq_true rfl⟩) ⟨blindRO, va_recv hK hP (ci := 9) (q0 := 0) rfl rfl, fun U hU hW => ⟨rfl, by rw [hU]; exact hP.sub (ws' := [(qM, .inr (9, [.int ((upd F 0 (0 : Int32)) 0), .ref q1, .ref q2, .ref q3, .int ((upd F 0 (0 : Int32)) 4), .int ((upd F 0 (0 : Int32)) 5), .int ((upd F 0 (0 : Int32)) 6), .int ((upd F 0 (0 : Int32)) 7), .int ((upd F 0 (0 : Int32)) 8), .int ((upd F 0 (0 : Int32)) 9), .long (J 10), .int ((upd F 0 (0 : Int32)) 11), .int ((upd F 0 (0 : Int32)) 12), .int ((upd F 0 (0 : Int32)) 13), .ref q4, .int ((upd F 0 (0 : Int32)) 15), .ref q5, .ref q6, .ref q7, .int ((upd F 0 (0 : Int32)) 19), .ref q8, .int ((upd F 0 (0 : Int32)) 21), .int ((upd F 0 (0 : Int32)) 22), .int ((upd F 0 (0 : Int32)) 23), .int ((upd F 0 (0 : Int32)) 24), .ref q9, .ref q10, .ref q11, .long (J 28)])), (q1, .inl (g.2 0, 376, .inl al))]) [0, 1] rfl, hG.warm hW⟩⟩ rfl rfl hl.1 rfl (lv_room (Nat.le_of_ble_eq_true rfl)) dX9_mark_53 ⟨Nat.le_of_ble_eq_true rfl, Nat.le_of_ble_eq_true rfl⟩) (fun r_53 hr_53 => ?_)
          have hv := hv r_53 hr_53
          refine lv_imul hx hb dX9_mark_56 ?_
          refine lv_iadd hx hb dX9_mark_57 ?_
          refine lv_topi (fun y_58 ey_58 => ?_)
          have hv := hv y_58 ey_58
          refine lv_istore (lv' := [(4, .int y_58), (0, .ref qM), (1, .int p1), (2, .int p2), (3, .int p3)]) hx hb dX9_mark_58 hl (by decide) rfl (fun ls hl => ?_)
          refine lv_aload_n hx hb dX9_mark_60 rfl (lv_at hl 1 rfl) ?_
          refine lv_iload_n hx hb dX9_mark_61 rfl (lv_at hl 2 rfl) ?_
          refine lv_iload hx hb dX9_mark_62 (lv_at hl 0 rfl) ?_
          refine lv_iload_n hx hb dX9_mark_64 rfl (lv_at hl 3 rfl) ?_
          obtain ⟨p_65, w_65, ho_6, hv⟩ := hv
          have hPc := hP.sub (ws' := [(qM, .inr (9, [.int ((upd F 0 (0 : Int32)) 0), .ref q1, .ref q2, .ref q3, .int ((upd F 0 (0 : Int32)) 4), .int ((upd F 0 (0 : Int32)) 5), .int ((upd F 0 (0 : Int32)) 6), .int ((upd F 0 (0 : Int32)) 7), .int ((upd F 0 (0 : Int32)) 8), .int ((upd F 0 (0 : Int32)) 9), .long (J 10), .int ((upd F 0 (0 : Int32)) 11), .int ((upd F 0 (0 : Int32)) 12), .int ((upd F 0 (0 : Int32)) 13), .ref q4, .int ((upd F 0 (0 : Int32)) 15), .ref q5, .ref q6, .ref q7, .int ((upd F 0 (0 : Int32)) 19), .ref q8, .int ((upd F 0 (0 : Int32)) 21), .int ((upd F 0 (0 : Int32)) 22), .int ((upd F 0 (0 : Int32)) 23), .int ((upd F 0 (0 : Int32)) 24), .ref q9, .ref q10, .ref q11, .long (J 28)])), (q1, .inl (g.2 0, 376, .inl al))]) [0, 1] rfl
          have hDc := hD.sub (ws' := [(qM, .inr (9, [.int ((upd F 0 (0 : Int32)) 0), .ref q1, .ref q2, .ref q3, .int ((upd F 0 (0 : Int32)) 4), .int ((upd F 0 (0 : Int32)) 5), .int ((upd F 0 (0 : Int32)) 6), .int ((upd F 0 (0 : Int32)) 7), .int ((upd F 0 (0 : Int32)) 8), .int ((upd F 0 (0 : Int32)) 9), .long (J 10), .int ((upd F 0 (0 : Int32)) 11), .int ((upd F 0 (0 : Int32)) 12), .int ((upd F 0 (0 : Int32)) 13), .ref q4, .int ((upd F 0 (0 : Int32)) 15), .ref q5, .ref q6, .ref q7, .int ((upd F 0 (0 : Int32)) 19), .ref q8, .int ((upd F 0 (0 : Int32)) 21), .int ((upd F 0 (0 : Int32)) 22), .int ((upd F 0 (0 : Int32)) 23), .int ((upd F 0 (0 : Int32)) 24), .ref q9, .ref q10, .ref q11, .long (J 28)])), (q1, .inl (g.2 0, 376, .inl al))]) [0, 1] (by decide) rfl
          have hFc := va_free (wc := [(qM, .inr (9, [.int ((upd F 0 (0 : Int32)) 0), .ref q1, .ref q2, .ref q3, .int ((upd F 0 (0 : Int32)) 4), .int ((upd F 0 (0 : Int32)) 5), .int ((upd F 0 (0 : Int32)) 6), .int ((upd F 0 (0 : Int32)) 7), .int ((upd F 0 (0 : Int32)) 8), .int ((upd F 0 (0 : Int32)) 9), .long (J 10), .int ((upd F 0 (0 : Int32)) 11), .int ((upd F 0 (0 : Int32)) 12), .int ((upd F 0 (0 : Int32)) 13), .ref q4, .int ((upd F 0 (0 : Int32)) 15), .ref q5, .ref q6, .ref q7, .int ((upd F 0 (0 : Int32)) 19), .ref q8, .int ((upd F 0 (0 : Int32)) 21), .int ((upd F 0 (0 : Int32)) 22), .int ((upd F 0 (0 : Int32)) 23), .int ((upd F 0 (0 : Int32)) 24), .ref q9, .ref q10, .ref q11, .long (J 28)])), (q1, .inl (g.2 0, 376, .inl al))]) hD hS hA [0, 1] rfl
          refine va_callv (va_runV (As := [.int p1, .int y_58, .int p2]) (rest := []) S (wX9_layLeg l g qM q1 q2 q3 q4 q5 q6 q7 q8 q9 q10 q11 H.size (upd F 0 (0 : Int32)) J al p1 y_58 p2 (sX9_layLeg p_65 w_65 (upd F 0 (0 : Int32)) J al p1 y_58 p2 ho_6)) (cwV 3 hts gX9_mark_X9_layLeg rfl rfl rfl (by decide +kernel) ⟨Nat.le_of_ble_eq_true rfl, Nat.le_of_ble_eq_true rfl⟩) ⟨blindRW, va_recv hK hP (ci := 9) (q0 := 0) rfl rfl, fun U hU hW => ⟨rfl, by rw [hU], by rw [hU]; exact hPc, hG.warm hW, hDc.weaken (fun _ _ _ _ => trivial)⟩⟩ rfl rfl hl.1 rfl (lv_room (Nat.le_of_ble_eq_true rfl)) dX9_mark_65 ⟨Nat.le_of_ble_eq_true rfl, Nat.le_of_ble_eq_true rfl⟩) hS (fun q _ h => hFc q h) hFc (fun u t H1 locs ht hvm hw hB hz1 hk1 hS => ?_)
          obtain ⟨al_65, rfl⟩ : ∃ z, z = u := ⟨_, rfl⟩
          obtain ⟨hP1, hD1⟩ := hB
          rw [ht] at hP1
          have hv := hv al_65 hw
          obtain ⟨hP, hD⟩ := va_join (wr := []) (w1 := [(qM, .inr (9, [.int (0 : Int32), .ref q1, .ref q2, .ref q3, .int (F 4), .int (F 5), .int (F 6), .int (F 7), .int (F 8), .int (F 9), .long (J 10), .int (F 11), .int (F 12), .int (F 13), .ref q4, .int (F 15), .ref q5, .ref q6, .ref q7, .int (F 19), .ref q8, .int (F 21), .int (F 22), .int (F 23), .int (F 24), .ref q9, .ref q10, .ref q11, .long (J 28)])), (q1, .inl (g.2 0, 376, .inl al_65))]) hP hD [0, 1] [] rfl rfl (by decide) (by decide) hk1 hFc hP1 hD1
          clear hP1 hD1 hPc hDc hFc hk1
          generalize H1 = H at hP hS ⊢
          have hP : va_P g.1 vwCl [(qM, .inr (9, [.int (0 : Int32), .ref q1, .ref q2, .ref q3, .int (F 4), .int (F 5), .int (F 6), .int (F 7), .int (F 8), .int (F 9), .long (J 10), .int (F 11), .int (F 12), .int (F 13), .ref q4, .int (F 15), .ref q5, .ref q6, .ref q7, .int (F 19), .ref q8, .int (F 21), .int (F 22), .int (F 23), .int (F 24), .ref q9, .ref q10, .ref q11, .long (J 28)])), (q1, .inl (g.2 0, 376, .inl al_65))] H := hP
          have hD : va_D A [(qM, .inr (9, [.int (0 : Int32), .ref q1, .ref q2, .ref q3, .int (F 4), .int (F 5), .int (F 6), .int (F 7), .int (F 8), .int (F 9), .long (J 10), .int (F 11), .int (F 12), .int (F 13), .ref q4, .int (F 15), .ref q5, .ref q6, .ref q7, .int (F 19), .ref q8, .int (F 21), .int (F 22), .int (F 23), .int (F 24), .ref q9, .ref q10, .ref q11, .long (J 28)])), (q1, .inl (g.2 0, 376, .inl al_65))] := hD
          refine lv_aload_n hx hb dX9_mark_68 rfl (lv_at hl 1 rfl) ?_
          refine lv_iload_n hx hb dX9_mark_69 rfl (lv_at hl 2 rfl) ?_
          refine lv_iload hx hb dX9_mark_70 (lv_at hl 0 rfl) ?_
          refine lv_iconst (v := (1 : Int32)) hx hb dX9_mark_72 (by decide) ?_
          refine lv_iadd hx hb dX9_mark_73 ?_
          refine lv_iload_n hx hb dX9_mark_74 rfl (lv_at hl 4 rfl) ?_
          obtain ⟨p_75, w_75, ho_7, hv⟩ := hv
          have hPc := hP.sub (ws' := [(qM, .inr (9, [.int ((upd F 0 (0 : Int32)) 0), .ref q1, .ref q2, .ref q3, .int ((upd F 0 (0 : Int32)) 4), .int ((upd F 0 (0 : Int32)) 5), .int ((upd F 0 (0 : Int32)) 6), .int ((upd F 0 (0 : Int32)) 7), .int ((upd F 0 (0 : Int32)) 8), .int ((upd F 0 (0 : Int32)) 9), .long (J 10), .int ((upd F 0 (0 : Int32)) 11), .int ((upd F 0 (0 : Int32)) 12), .int ((upd F 0 (0 : Int32)) 13), .ref q4, .int ((upd F 0 (0 : Int32)) 15), .ref q5, .ref q6, .ref q7, .int ((upd F 0 (0 : Int32)) 19), .ref q8, .int ((upd F 0 (0 : Int32)) 21), .int ((upd F 0 (0 : Int32)) 22), .int ((upd F 0 (0 : Int32)) 23), .int ((upd F 0 (0 : Int32)) 24), .ref q9, .ref q10, .ref q11, .long (J 28)])), (q1, .inl (g.2 0, 376, .inl al_65))]) [0, 1] rfl
          have hDc := hD.sub (ws' := [(qM, .inr (9, [.int ((upd F 0 (0 : Int32)) 0), .ref q1, .ref q2, .ref q3, .int ((upd F 0 (0 : Int32)) 4), .int ((upd F 0 (0 : Int32)) 5), .int ((upd F 0 (0 : Int32)) 6), .int ((upd F 0 (0 : Int32)) 7), .int ((upd F 0 (0 : Int32)) 8), .int ((upd F 0 (0 : Int32)) 9), .long (J 10), .int ((upd F 0 (0 : Int32)) 11), .int ((upd F 0 (0 : Int32)) 12), .int ((upd F 0 (0 : Int32)) 13), .ref q4, .int ((upd F 0 (0 : Int32)) 15), .ref q5, .ref q6, .ref q7, .int ((upd F 0 (0 : Int32)) 19), .ref q8, .int ((upd F 0 (0 : Int32)) 21), .int ((upd F 0 (0 : Int32)) 22), .int ((upd F 0 (0 : Int32)) 23), .int ((upd F 0 (0 : Int32)) 24), .ref q9, .ref q10, .ref q11, .long (J 28)])), (q1, .inl (g.2 0, 376, .inl al_65))]) [0, 1] (by decide) rfl
          have hFc := va_free (wc := [(qM, .inr (9, [.int ((upd F 0 (0 : Int32)) 0), .ref q1, .ref q2, .ref q3, .int ((upd F 0 (0 : Int32)) 4), .int ((upd F 0 (0 : Int32)) 5), .int ((upd F 0 (0 : Int32)) 6), .int ((upd F 0 (0 : Int32)) 7), .int ((upd F 0 (0 : Int32)) 8), .int ((upd F 0 (0 : Int32)) 9), .long (J 10), .int ((upd F 0 (0 : Int32)) 11), .int ((upd F 0 (0 : Int32)) 12), .int ((upd F 0 (0 : Int32)) 13), .ref q4, .int ((upd F 0 (0 : Int32)) 15), .ref q5, .ref q6, .ref q7, .int ((upd F 0 (0 : Int32)) 19), .ref q8, .int ((upd F 0 (0 : Int32)) 21), .int ((upd F 0 (0 : Int32)) 22), .int ((upd F 0 (0 : Int32)) 23), .int ((upd F 0 (0 : Int32)) 24), .ref q9, .ref q10, .ref q11, .long (J 28)])), (q1, .inl (g.2 0, 376, .inl al_65))]) hD hS hA [0, 1] rfl
          refine va_callv (va_runV (As := [.int p1, .int (y_58 + (1 : Int32)), .int p3]) (rest := []) S (wX9_layLeg l g qM q1 q2 q3 q4 q5 q6 q7 q8 q9 q10 q11 H.size (upd F 0 (0 : Int32)) J al_65 p1 (y_58 + (1 : Int32)) p3 (sX9_layLeg p_75 w_75 (upd F 0 (0 : Int32)) J al_65 p1 (y_58 + (1 : Int32)) p3 ho_7)) (cwV 3 hts gX9_mark_X9_layLeg rfl rfl rfl (by decide +kernel) ⟨Nat.le_of_ble_eq_true rfl, Nat.le_of_ble_eq_true rfl⟩) ⟨blindRW, va_recv hK hP (ci := 9) (q0 := 0) rfl rfl, fun U hU hW => ⟨rfl, by rw [hU], by rw [hU]; exact hPc, hG.warm hW, hDc.weaken (fun _ _ _ _ => trivial)⟩⟩ rfl rfl hl.1 rfl (lv_room (Nat.le_of_ble_eq_true rfl)) dX9_mark_75 ⟨Nat.le_of_ble_eq_true rfl, Nat.le_of_ble_eq_true rfl⟩) hS (fun q _ h => hFc q h) hFc (fun u t H1 locs ht hvm hw hB hz1 hk1 hS => ?_)
          obtain ⟨al_75, rfl⟩ : ∃ z, z = u := ⟨_, rfl⟩
          obtain ⟨hP1, hD1⟩ := hB
          rw [ht] at hP1
          have hv := hv al_75 hw
          obtain ⟨hP, hD⟩ := va_join (wr := []) (w1 := [(qM, .inr (9, [.int (0 : Int32), .ref q1, .ref q2, .ref q3, .int (F 4), .int (F 5), .int (F 6), .int (F 7), .int (F 8), .int (F 9), .long (J 10), .int (F 11), .int (F 12), .int (F 13), .ref q4, .int (F 15), .ref q5, .ref q6, .ref q7, .int (F 19), .ref q8, .int (F 21), .int (F 22), .int (F 23), .int (F 24), .ref q9, .ref q10, .ref q11, .long (J 28)])), (q1, .inl (g.2 0, 376, .inl al_75))]) hP hD [0, 1] [] rfl rfl (by decide) (by decide) hk1 hFc hP1 hD1
          clear hP1 hD1 hPc hDc hFc hk1
          generalize H1 = H at hP hS ⊢
          have hP : va_P g.1 vwCl [(qM, .inr (9, [.int (0 : Int32), .ref q1, .ref q2, .ref q3, .int (F 4), .int (F 5), .int (F 6), .int (F 7), .int (F 8), .int (F 9), .long (J 10), .int (F 11), .int (F 12), .int (F 13), .ref q4, .int (F 15), .ref q5, .ref q6, .ref q7, .int (F 19), .ref q8, .int (F 21), .int (F 22), .int (F 23), .int (F 24), .ref q9, .ref q10, .ref q11, .long (J 28)])), (q1, .inl (g.2 0, 376, .inl al_75))] H := hP
          have hD : va_D A [(qM, .inr (9, [.int (0 : Int32), .ref q1, .ref q2, .ref q3, .int (F 4), .int (F 5), .int (F 6), .int (F 7), .int (F 8), .int (F 9), .long (J 10), .int (F 11), .int (F 12), .int (F 13), .ref q4, .int (F 15), .ref q5, .ref q6, .ref q7, .int (F 19), .ref q8, .int (F 21), .int (F 22), .int (F 23), .int (F 24), .ref q9, .ref q10, .ref q11, .long (J 28)])), (q1, .inl (g.2 0, 376, .inl al_75))] := hD
          refine lv_aload_n hx hb dX9_mark_78 rfl (lv_at hl 1 rfl) ?_
          refine lv_iload_n hx hb dX9_mark_79 rfl (lv_at hl 2 rfl) ?_
          refine lv_iload hx hb dX9_mark_80 (lv_at hl 0 rfl) ?_
          refine lv_iconst (v := (2 : Int32)) hx hb dX9_mark_82 (by decide) ?_
          refine lv_iadd hx hb dX9_mark_83 ?_
          refine lv_iload_n hx hb dX9_mark_84 rfl (lv_at hl 4 rfl) ?_
          obtain ⟨p_85, w_85, ho_8, hv⟩ := hv
          have hPc := hP.sub (ws' := [(qM, .inr (9, [.int ((upd F 0 (0 : Int32)) 0), .ref q1, .ref q2, .ref q3, .int ((upd F 0 (0 : Int32)) 4), .int ((upd F 0 (0 : Int32)) 5), .int ((upd F 0 (0 : Int32)) 6), .int ((upd F 0 (0 : Int32)) 7), .int ((upd F 0 (0 : Int32)) 8), .int ((upd F 0 (0 : Int32)) 9), .long (J 10), .int ((upd F 0 (0 : Int32)) 11), .int ((upd F 0 (0 : Int32)) 12), .int ((upd F 0 (0 : Int32)) 13), .ref q4, .int ((upd F 0 (0 : Int32)) 15), .ref q5, .ref q6, .ref q7, .int ((upd F 0 (0 : Int32)) 19), .ref q8, .int ((upd F 0 (0 : Int32)) 21), .int ((upd F 0 (0 : Int32)) 22), .int ((upd F 0 (0 : Int32)) 23), .int ((upd F 0 (0 : Int32)) 24), .ref q9, .ref q10, .ref q11, .long (J 28)])), (q1, .inl (g.2 0, 376, .inl al_75))]) [0, 1] rfl
          have hDc := hD.sub (ws' := [(qM, .inr (9, [.int ((upd F 0 (0 : Int32)) 0), .ref q1, .ref q2, .ref q3, .int ((upd F 0 (0 : Int32)) 4), .int ((upd F 0 (0 : Int32)) 5), .int ((upd F 0 (0 : Int32)) 6), .int ((upd F 0 (0 : Int32)) 7), .int ((upd F 0 (0 : Int32)) 8), .int ((upd F 0 (0 : Int32)) 9), .long (J 10), .int ((upd F 0 (0 : Int32)) 11), .int ((upd F 0 (0 : Int32)) 12), .int ((upd F 0 (0 : Int32)) 13), .ref q4, .int ((upd F 0 (0 : Int32)) 15), .ref q5, .ref q6, .ref q7, .int ((upd F 0 (0 : Int32)) 19), .ref q8, .int ((upd F 0 (0 : Int32)) 21), .int ((upd F 0 (0 : Int32)) 22), .int ((upd F 0 (0 : Int32)) 23), .int ((upd F 0 (0 : Int32)) 24), .ref q9, .ref q10, .ref q11, .long (J 28)])), (q1, .inl (g.2 0, 376, .inl al_75))]) [0, 1] (by decide) rfl
          have hFc := va_free (wc := [(qM, .inr (9, [.int ((upd F 0 (0 : Int32)) 0), .ref q1, .ref q2, .ref q3, .int ((upd F 0 (0 : Int32)) 4), .int ((upd F 0 (0 : Int32)) 5), .int ((upd F 0 (0 : Int32)) 6), .int ((upd F 0 (0 : Int32)) 7), .int ((upd F 0 (0 : Int32)) 8), .int ((upd F 0 (0 : Int32)) 9), .long (J 10), .int ((upd F 0 (0 : Int32)) 11), .int ((upd F 0 (0 : Int32)) 12), .int ((upd F 0 (0 : Int32)) 13), .ref q4, .int ((upd F 0 (0 : Int32)) 15), .ref q5, .ref q6, .ref q7, .int ((upd F 0 (0 : Int32)) 19), .ref q8, .int ((upd F 0 (0 : Int32)) 21), .int ((upd F 0 (0 : Int32)) 22), .int ((upd F 0 (0 : Int32)) 23), .int ((upd F 0 (0 : Int32)) 24), .ref q9, .ref q10, .ref q11, .long (J 28)])), (q1, .inl (g.2 0, 376, .inl al_75))]) hD hS hA [0, 1] rfl
          refine va_callv (va_runV (As := [.int p1, .int (y_58 + (2 : Int32)), .int p3]) (rest := []) S (wX9_layLeg l g qM q1 q2 q3 q4 q5 q6 q7 q8 q9 q10 q11 H.size (upd F 0 (0 : Int32)) J al_75 p1 (y_58 + (2 : Int32)) p3 (sX9_layLeg p_85 w_85 (upd F 0 (0 : Int32)) J al_75 p1 (y_58 + (2 : Int32)) p3 ho_8)) (cwV 3 hts gX9_mark_X9_layLeg rfl rfl rfl (by decide +kernel) ⟨Nat.le_of_ble_eq_true rfl, Nat.le_of_ble_eq_true rfl⟩) ⟨blindRW, va_recv hK hP (ci := 9) (q0 := 0) rfl rfl, fun U hU hW => ⟨rfl, by rw [hU], by rw [hU]; exact hPc, hG.warm hW, hDc.weaken (fun _ _ _ _ => trivial)⟩⟩ rfl rfl hl.1 rfl (lv_room (Nat.le_of_ble_eq_true rfl)) dX9_mark_85 ⟨Nat.le_of_ble_eq_true rfl, Nat.le_of_ble_eq_true rfl⟩) hS (fun q _ h => hFc q h) hFc (fun u t H1 locs ht hvm hw hB hz1 hk1 hS => ?_)
          obtain ⟨al_85, rfl⟩ : ∃ z, z = u := ⟨_, rfl⟩
          obtain ⟨hP1, hD1⟩ := hB
          rw [ht] at hP1
          have hv := hv al_85 hw
          obtain ⟨hP, hD⟩ := va_join (wr := []) (w1 := [(qM, .inr (9, [.int (0 : Int32), .ref q1, .ref q2, .ref q3, .int (F 4), .int (F 5), .int (F 6), .int (F 7), .int (F 8), .int (F 9), .long (J 10), .int (F 11), .int (F 12), .int (F 13), .ref q4, .int (F 15), .ref q5, .ref q6, .ref q7, .int (F 19), .ref q8, .int (F 21), .int (F 22), .int (F 23), .int (F 24), .ref q9, .ref q10, .ref q11, .long (J 28)])), (q1, .inl (g.2 0, 376, .inl al_85))]) hP hD [0, 1] [] rfl rfl (by decide) (by decide) hk1 hFc hP1 hD1
          clear hP1 hD1 hPc hDc hFc hk1
          generalize H1 = H at hP hS ⊢
          have hP : va_P g.1 vwCl [(qM, .inr (9, [.int (0 : Int32), .ref q1, .ref q2, .ref q3, .int (F 4), .int (F 5), .int (F 6), .int (F 7), .int (F 8), .int (F 9), .long (J 10), .int (F 11), .int (F 12), .int (F 13), .ref q4, .int (F 15), .ref q5, .ref q6, .ref q7, .int (F 19), .ref q8, .int (F 21), .int (F 22), .int (F 23), .int (F 24), .ref q9, .ref q10, .ref q11, .long (J 28)])), (q1, .inl (g.2 0, 376, .inl al_85))] H := hP
          have hD : va_D A [(qM, .inr (9, [.int (0 : Int32), .ref q1, .ref q2, .ref q3, .int (F 4), .int (F 5), .int (F 6), .int (F 7), .int (F 8), .int (F 9), .long (J 10), .int (F 11), .int (F 12), .int (F 13), .ref q4, .int (F 15), .ref q5, .ref q6, .ref q7, .int (F 19), .ref q8, .int (F 21), .int (F 22), .int (F 23), .int (F 24), .ref q9, .ref q10, .ref q11, .long (J 28)])), (q1, .inl (g.2 0, 376, .inl al_85))] := hD
          refine lv_aload_n hx hb dX9_mark_88 rfl (lv_at hl 1 rfl) ?_
          refine lv_iload_n hx hb dX9_mark_89 rfl (lv_at hl 2 rfl) ?_
          refine lv_bipush (v := (6 : Int32)) hx hb dX9_mark_90 (by decide) ?_
          refine lv_aload_n hx hb dX9_mark_92 rfl (lv_at hl 1 rfl) ?_
          refine lv_iload_n hx hb dX9_mark_93 rfl (lv_at hl 2 rfl) ?_
          refine lv_bipush (v := (6 : Int32)) hx hb dX9_mark_94 (by decide) ?_
          obtain ⟨p_96, w_96, ho_9, hv⟩ := hv
          refine vp_callSi (W.runV (As := [.int p1, .int (6 : Int32)]) (rest := [.int (6 : Int32), .int p1, .ref qM]) S (wX9_ofLeg l g qM q1 q2 q3 q4 q5 q6 q7 q8 q9 q10 q11 (upd F 0 (0 : Int32)) J al_85 p1 (6 : Int32) (sX9_ofLeg p_96 w_96 (upd F 0 (0 : Int32)) J al_85 p1 (6 : Int32) ho_9)) (cwV 2 hts gX9_mark_X9_ofLeg rfl rfl rfl (by decide +kernel) ⟨Nat.le_of_ble_eq_true rfl, Nat.le_of_ble_eq_true rfl⟩) ⟨blindRO, va_recv hK hP (ci := 9) (q0 := 0) rfl rfl, fun U hU hW => ⟨rfl, by rw [hU]; exact hP.sub (ws' := [(qM, .inr (9, [.int ((upd F 0 (0 : Int32)) 0), .ref q1, .ref q2, .ref q3, .int ((upd F 0 (0 : Int32)) 4), .int ((upd F 0 (0 : Int32)) 5), .int ((upd F 0 (0 : Int32)) 6), .int ((upd F 0 (0 : Int32)) 7), .int ((upd F 0 (0 : Int32)) 8), .int ((upd F 0 (0 : Int32)) 9), .long (J 10), .int ((upd F 0 (0 : Int32)) 11), .int ((upd F 0 (0 : Int32)) 12), .int ((upd F 0 (0 : Int32)) 13), .ref q4, .int ((upd F 0 (0 : Int32)) 15), .ref q5, .ref q6, .ref q7, .int ((upd F 0 (0 : Int32)) 19), .ref q8, .int ((upd F 0 (0 : Int32)) 21), .int ((upd F 0 (0 : Int32)) 22), .int ((upd F 0 (0 : Int32)) 23), .int ((upd F 0 (0 : Int32)) 24), .ref q9, .ref q10, .ref q11, .long (J 28)])), (q1, .inl (g.2 0, 376, .inl al_85))]) [0, 1] rfl, hG.warm hW⟩⟩ rfl rfl hl.1 rfl (lv_room (Nat.le_of_ble_eq_true rfl)) dX9_mark_96 ⟨Nat.le_of_ble_eq_true rfl, Nat.le_of_ble_eq_true rfl⟩) (fun r_96 hr_96 => ?_)
          have hv := hv r_96 hr_96
          refine lv_iconst (v := (1 : Int32)) hx hb dX9_mark_99 (by decide) ?_
          refine lv_iadd hx hb dX9_mark_100 ?_
          obtain ⟨p_101, w_101, ho_10, hv⟩ := hv
          have hPc := hP.sub (ws' := [(qM, .inr (9, [.int ((upd F 0 (0 : Int32)) 0), .ref q1, .ref q2, .ref q3, .int ((upd F 0 (0 : Int32)) 4), .int ((upd F 0 (0 : Int32)) 5), .int ((upd F 0 (0 : Int32)) 6), .int ((upd F 0 (0 : Int32)) 7), .int ((upd F 0 (0 : Int32)) 8), .int ((upd F 0 (0 : Int32)) 9), .long (J 10), .int ((upd F 0 (0 : Int32)) 11), .int ((upd F 0 (0 : Int32)) 12), .int ((upd F 0 (0 : Int32)) 13), .ref q4, .int ((upd F 0 (0 : Int32)) 15), .ref q5, .ref q6, .ref q7, .int ((upd F 0 (0 : Int32)) 19), .ref q8, .int ((upd F 0 (0 : Int32)) 21), .int ((upd F 0 (0 : Int32)) 22), .int ((upd F 0 (0 : Int32)) 23), .int ((upd F 0 (0 : Int32)) 24), .ref q9, .ref q10, .ref q11, .long (J 28)])), (q1, .inl (g.2 0, 376, .inl al_85))]) [0, 1] rfl
          have hDc := hD.sub (ws' := [(qM, .inr (9, [.int ((upd F 0 (0 : Int32)) 0), .ref q1, .ref q2, .ref q3, .int ((upd F 0 (0 : Int32)) 4), .int ((upd F 0 (0 : Int32)) 5), .int ((upd F 0 (0 : Int32)) 6), .int ((upd F 0 (0 : Int32)) 7), .int ((upd F 0 (0 : Int32)) 8), .int ((upd F 0 (0 : Int32)) 9), .long (J 10), .int ((upd F 0 (0 : Int32)) 11), .int ((upd F 0 (0 : Int32)) 12), .int ((upd F 0 (0 : Int32)) 13), .ref q4, .int ((upd F 0 (0 : Int32)) 15), .ref q5, .ref q6, .ref q7, .int ((upd F 0 (0 : Int32)) 19), .ref q8, .int ((upd F 0 (0 : Int32)) 21), .int ((upd F 0 (0 : Int32)) 22), .int ((upd F 0 (0 : Int32)) 23), .int ((upd F 0 (0 : Int32)) 24), .ref q9, .ref q10, .ref q11, .long (J 28)])), (q1, .inl (g.2 0, 376, .inl al_85))]) [0, 1] (by decide) rfl
          have hFc := va_free (wc := [(qM, .inr (9, [.int ((upd F 0 (0 : Int32)) 0), .ref q1, .ref q2, .ref q3, .int ((upd F 0 (0 : Int32)) 4), .int ((upd F 0 (0 : Int32)) 5), .int ((upd F 0 (0 : Int32)) 6), .int ((upd F 0 (0 : Int32)) 7), .int ((upd F 0 (0 : Int32)) 8), .int ((upd F 0 (0 : Int32)) 9), .long (J 10), .int ((upd F 0 (0 : Int32)) 11), .int ((upd F 0 (0 : Int32)) 12), .int ((upd F 0 (0 : Int32)) 13), .ref q4, .int ((upd F 0 (0 : Int32)) 15), .ref q5, .ref q6, .ref q7, .int ((upd F 0 (0 : Int32)) 19), .ref q8, .int ((upd F 0 (0 : Int32)) 21), .int ((upd F 0 (0 : Int32)) 22), .int ((upd F 0 (0 : Int32)) 23), .int ((upd F 0 (0 : Int32)) 24), .ref q9, .ref q10, .ref q11, .long (J 28)])), (q1, .inl (g.2 0, 376, .inl al_85))]) hD hS hA [0, 1] rfl
          refine va_callv (va_runV (As := [.int p1, .int (6 : Int32), .int (r_96 + (1 : Int32))]) (rest := []) S (wX9_layLeg l g qM q1 q2 q3 q4 q5 q6 q7 q8 q9 q10 q11 H.size (upd F 0 (0 : Int32)) J al_85 p1 (6 : Int32) (r_96 + (1 : Int32)) (sX9_layLeg p_101 w_101 (upd F 0 (0 : Int32)) J al_85 p1 (6 : Int32) (r_96 + (1 : Int32)) ho_10)) (cwV 3 hts gX9_mark_X9_layLeg rfl rfl rfl (by decide +kernel) ⟨Nat.le_of_ble_eq_true rfl, Nat.le_of_ble_eq_true rfl⟩) ⟨blindRW, va_recv hK hP (ci := 9) (q0 := 0) rfl rfl, fun U hU hW => ⟨rfl, by rw [hU], by rw [hU]; exact hPc, hG.warm hW, hDc.weaken (fun _ _ _ _ => trivial)⟩⟩ rfl rfl hl.1 rfl (lv_room (Nat.le_of_ble_eq_true rfl)) dX9_mark_101 ⟨Nat.le_of_ble_eq_true rfl, Nat.le_of_ble_eq_true rfl⟩) hS (fun q _ h => hFc q h) hFc (fun u t H1 locs ht hvm hw hB hz1 hk1 hS => ?_)
          obtain ⟨al_101, rfl⟩ : ∃ z, z = u := ⟨_, rfl⟩
          obtain ⟨hP1, hD1⟩ := hB
          rw [ht] at hP1
          have hv := hv al_101 hw
          obtain ⟨hP, hD⟩ := va_join (wr := []) (w1 := [(qM, .inr (9, [.int (0 : Int32), .ref q1, .ref q2, .ref q3, .int (F 4), .int (F 5), .int (F 6), .int (F 7), .int (F 8), .int (F 9), .long (J 10), .int (F 11), .int (F 12), .int (F 13), .ref q4, .int (F 15), .ref q5, .ref q6, .ref q7, .int (F 19), .ref q8, .int (F 21), .int (F 22), .int (F 23), .int (F 24), .ref q9, .ref q10, .ref q11, .long (J 28)])), (q1, .inl (g.2 0, 376, .inl al_101))]) hP hD [0, 1] [] rfl rfl (by decide) (by decide) hk1 hFc hP1 hD1
          clear hP1 hD1 hPc hDc hFc hk1
          generalize H1 = H at hP hS ⊢
          have hP : va_P g.1 vwCl [(qM, .inr (9, [.int (0 : Int32), .ref q1, .ref q2, .ref q3, .int (F 4), .int (F 5), .int (F 6), .int (F 7), .int (F 8), .int (F 9), .long (J 10), .int (F 11), .int (F 12), .int (F 13), .ref q4, .int (F 15), .ref q5, .ref q6, .ref q7, .int (F 19), .ref q8, .int (F 21), .int (F 22), .int (F 23), .int (F 24), .ref q9, .ref q10, .ref q11, .long (J 28)])), (q1, .inl (g.2 0, 376, .inl al_101))] H := hP
          have hD : va_D A [(qM, .inr (9, [.int (0 : Int32), .ref q1, .ref q2, .ref q3, .int (F 4), .int (F 5), .int (F 6), .int (F 7), .int (F 8), .int (F 9), .long (J 10), .int (F 11), .int (F 12), .int (F 13), .ref q4, .int (F 15), .ref q5, .ref q6, .ref q7, .int (F 19), .ref q8, .int (F 21), .int (F 22), .int (F 23), .int (F 24), .ref q9, .ref q10, .ref q11, .long (J 28)])), (q1, .inl (g.2 0, 376, .inl al_101))] := hD
          refine lv_aload_n hx hb dX9_mark_104 rfl (lv_at hl 1 rfl) ?_
          refine lv_iload_n hx hb dX9_mark_105 rfl (lv_at hl 2 rfl) ?_
          refine lv_bipush (v := (6 : Int32)) hx hb dX9_mark_106 (by decide) ?_
          obtain ⟨p_108, w_108, ho_11, hv⟩ := hv
          refine vp_callSi (W.runV (As := [.int p1, .int (6 : Int32)]) (rest := []) S (wX9_ofLeg l g qM q1 q2 q3 q4 q5 q6 q7 q8 q9 q10 q11 (upd F 0 (0 : Int32)) J al_101 p1 (6 : Int32) (sX9_ofLeg p_108 w_108 (upd F 0 (0 : Int32)) J al_101 p1 (6 : Int32) ho_11)) (cwV 2 hts gX9_mark_X9_ofLeg rfl rfl rfl (by decide +kernel) ⟨Nat.le_of_ble_eq_true rfl, Nat.le_of_ble_eq_true rfl⟩) ⟨blindRO, va_recv hK hP (ci := 9) (q0 := 0) rfl rfl, fun U hU hW => ⟨rfl, by rw [hU]; exact hP.sub (ws' := [(qM, .inr (9, [.int ((upd F 0 (0 : Int32)) 0), .ref q1, .ref q2, .ref q3, .int ((upd F 0 (0 : Int32)) 4), .int ((upd F 0 (0 : Int32)) 5), .int ((upd F 0 (0 : Int32)) 6), .int ((upd F 0 (0 : Int32)) 7), .int ((upd F 0 (0 : Int32)) 8), .int ((upd F 0 (0 : Int32)) 9), .long (J 10), .int ((upd F 0 (0 : Int32)) 11), .int ((upd F 0 (0 : Int32)) 12), .int ((upd F 0 (0 : Int32)) 13), .ref q4, .int ((upd F 0 (0 : Int32)) 15), .ref q5, .ref q6, .ref q7, .int ((upd F 0 (0 : Int32)) 19), .ref q8, .int ((upd F 0 (0 : Int32)) 21), .int ((upd F 0 (0 : Int32)) 22), .int ((upd F 0 (0 : Int32)) 23), .int ((upd F 0 (0 : Int32)) 24), .ref q9, .ref q10, .ref q11, .long (J 28)])), (q1, .inl (g.2 0, 376, .inl al_101))]) [0, 1] rfl, hG.warm hW⟩⟩ rfl rfl hl.1 rfl (lv_room (Nat.le_of_ble_eq_true rfl)) dX9_mark_108 ⟨Nat.le_of_ble_eq_true rfl, Nat.le_of_ble_eq_true rfl⟩) (fun r_108 hr_108 => ?_)
          have hv := hv r_108 hr_108
          have hP9 := hP.sub (ws' := [(qM, .inr (9, [.int ((upd F 0 (0 : Int32)) 0), .ref q1, .ref q2, .ref q3, .int ((upd F 0 (0 : Int32)) 4), .int ((upd F 0 (0 : Int32)) 5), .int ((upd F 0 (0 : Int32)) 6), .int ((upd F 0 (0 : Int32)) 7), .int ((upd F 0 (0 : Int32)) 8), .int ((upd F 0 (0 : Int32)) 9), .long (J 10), .int ((upd F 0 (0 : Int32)) 11), .int ((upd F 0 (0 : Int32)) 12), .int ((upd F 0 (0 : Int32)) 13), .ref q4, .int ((upd F 0 (0 : Int32)) 15), .ref q5, .ref q6, .ref q7, .int ((upd F 0 (0 : Int32)) 19), .ref q8, .int ((upd F 0 (0 : Int32)) 21), .int ((upd F 0 (0 : Int32)) 22), .int ((upd F 0 (0 : Int32)) 23), .int ((upd F 0 (0 : Int32)) 24), .ref q9, .ref q10, .ref q11, .long (J 28)])), (q1, .inl (g.2 0, 376, .inl al_101))]) [0, 1] rfl
          have hD9 := hD.sub (ws' := [(qM, .inr (9, [.int ((upd F 0 (0 : Int32)) 0), .ref q1, .ref q2, .ref q3, .int ((upd F 0 (0 : Int32)) 4), .int ((upd F 0 (0 : Int32)) 5), .int ((upd F 0 (0 : Int32)) 6), .int ((upd F 0 (0 : Int32)) 7), .int ((upd F 0 (0 : Int32)) 8), .int ((upd F 0 (0 : Int32)) 9), .long (J 10), .int ((upd F 0 (0 : Int32)) 11), .int ((upd F 0 (0 : Int32)) 12), .int ((upd F 0 (0 : Int32)) 13), .ref q4, .int ((upd F 0 (0 : Int32)) 15), .ref q5, .ref q6, .ref q7, .int ((upd F 0 (0 : Int32)) 19), .ref q8, .int ((upd F 0 (0 : Int32)) 21), .int ((upd F 0 (0 : Int32)) 22), .int ((upd F 0 (0 : Int32)) 23), .int ((upd F 0 (0 : Int32)) 24), .ref q9, .ref q10, .ref q11, .long (J 28)])), (q1, .inl (g.2 0, 376, .inl al_101))]) [0, 1] (by decide) rfl
          exact W.iret (v := r_108) hx hb hr (fun t ht hW => ⟨⟨_, ((upd F 0 (0 : Int32)), al_101), rfl, hv, by rw [ht]; exact hP9, hD9⟩, hS.F ht⟩) hS.2.2 dX9_mark_111
        · have hv := hvf hc
          refine lv_iconst (v := (-1 : Int32)) hx hb dX9_mark_44 (by decide) ?_
          have hP9 := hP.sub (ws' := [(qM, .inr (9, [.int ((upd F 0 (0 : Int32)) 0), .ref q1, .ref q2, .ref q3, .int ((upd F 0 (0 : Int32)) 4), .int ((upd F 0 (0 : Int32)) 5), .int ((upd F 0 (0 : Int32)) 6), .int ((upd F 0 (0 : Int32)) 7), .int ((upd F 0 (0 : Int32)) 8), .int ((upd F 0 (0 : Int32)) 9), .long (J 10), .int ((upd F 0 (0 : Int32)) 11), .int ((upd F 0 (0 : Int32)) 12), .int ((upd F 0 (0 : Int32)) 13), .ref q4, .int ((upd F 0 (0 : Int32)) 15), .ref q5, .ref q6, .ref q7, .int ((upd F 0 (0 : Int32)) 19), .ref q8, .int ((upd F 0 (0 : Int32)) 21), .int ((upd F 0 (0 : Int32)) 22), .int ((upd F 0 (0 : Int32)) 23), .int ((upd F 0 (0 : Int32)) 24), .ref q9, .ref q10, .ref q11, .long (J 28)])), (q1, .inl (g.2 0, 376, .inl al))]) [0, 1] rfl
          have hD9 := hD.sub (ws' := [(qM, .inr (9, [.int ((upd F 0 (0 : Int32)) 0), .ref q1, .ref q2, .ref q3, .int ((upd F 0 (0 : Int32)) 4), .int ((upd F 0 (0 : Int32)) 5), .int ((upd F 0 (0 : Int32)) 6), .int ((upd F 0 (0 : Int32)) 7), .int ((upd F 0 (0 : Int32)) 8), .int ((upd F 0 (0 : Int32)) 9), .long (J 10), .int ((upd F 0 (0 : Int32)) 11), .int ((upd F 0 (0 : Int32)) 12), .int ((upd F 0 (0 : Int32)) 13), .ref q4, .int ((upd F 0 (0 : Int32)) 15), .ref q5, .ref q6, .ref q7, .int ((upd F 0 (0 : Int32)) 19), .ref q8, .int ((upd F 0 (0 : Int32)) 21), .int ((upd F 0 (0 : Int32)) 22), .int ((upd F 0 (0 : Int32)) 23), .int ((upd F 0 (0 : Int32)) 24), .ref q9, .ref q10, .ref q11, .long (J 28)])), (q1, .inl (g.2 0, 376, .inl al))]) [0, 1] (by decide) rfl
          exact W.iret (v := (-1 : Int32)) hx hb hr (fun t ht hW => ⟨⟨_, ((upd F 0 (0 : Int32)), al), rfl, hv, by rw [ht]; exact hP9, hD9⟩, hS.F ht⟩) hS.2.2 dX9_mark_45
def up4 (al : Nat → Int32) (l m : Nat) (x y z w : Int32) : Nat → Int32 := upd (upd (upd (upd al (20 + 37 * l + (7 + 3 * m)) x) (20 + 37 * l + (7 + 3 * m + 1)) y) (20 + 37 * l + (7 + 3 * m + 2)) z) (20 + 37 * l + 6) w
theorem up4_ne {al : Nat → Int32} {l m k : Nat} {x y z w : Int32} (h1 : k ≠ 20 + 37 * l + (7 + 3 * m)) (h2 : k ≠ 20 + 37 * l + (7 + 3 * m + 1)) (h3 : k ≠ 20 + 37 * l + (7 + 3 * m + 2)) (h4 : k ≠ 20 + 37 * l + 6) : up4 al l m x y z w k = al k := by
  unfold up4; rw [upd_ne h4, upd_ne h3, upd_ne h2, upd_ne h1]
theorem mG_gA {G : Lg} {l : Nat} {al : Nat → Int32} (h : mG G l al) {k i j : Nat} (hm : gm G < 10) (hk : k ≤ 3) (hij : i ≤ j) (hj : j ≤ 199) (hkj : k ≠ 3 → j = i) {x y z w : Int32} (hx : x.toInt = (k : Int)) (hy : y.toInt = (i : Int)) (hz : z.toInt = (j : Int)) (hw : w.toInt = ((gm G + 1 : Nat) : Int)) : mG (gA G k i j) l (up4 al l (gm G) x y z w) := by
  obtain ⟨ok, h2, h3, h4⟩ := h
  refine ⟨okG_gA ok hm hk hij hj hkj, ?_, fun q hq => ?_, fun q hq => ?_⟩
  · rw [show 26 + 37 * l = 20 + 37 * l + 6 by omega]; unfold up4; rw [upd_eq]; exact hw
  · show (up4 al l (gm G) x y z w (20 + 37 * l + q)).toInt = _
    rw [up4_ne (by omega) (by omega) (by omega) (by omega)]; exact h3 q hq
  · have hq : q < gm G + 1 := hq
    show (up4 al l (gm G) x y z w (27 + 37 * l + 3 * q)).toInt = ((if q = gm G then k else gk G q : Nat) : Int) ∧ (up4 al l (gm G) x y z w (28 + 37 * l + 3 * q)).toInt = ((if q = gm G then i else gf G q : Nat) : Int) ∧ (up4 al l (gm G) x y z w (29 + 37 * l + 3 * q)).toInt = ((if q = gm G then j else gl G q : Nat) : Int)
    by_cases e : q = gm G
    · subst e
      simp only [if_pos rfl]
      refine ⟨?_, ?_, ?_⟩
      · unfold up4; rw [upd_ne (by omega), upd_ne (by omega), upd_ne (by omega), show 27 + 37 * l + 3 * gm G = 20 + 37 * l + (7 + 3 * gm G) by omega, upd_eq]; exact hx
      · unfold up4; rw [upd_ne (by omega), upd_ne (by omega), show 28 + 37 * l + 3 * gm G = 20 + 37 * l + (7 + 3 * gm G + 1) by omega, upd_eq]; exact hy
      · unfold up4; rw [upd_ne (by omega), show 29 + 37 * l + 3 * gm G = 20 + 37 * l + (7 + 3 * gm G + 2) by omega, upd_eq]; exact hz
    · simp only [if_neg e]
      rw [up4_ne (by omega) (by omega) (by omega) (by omega), up4_ne (by omega) (by omega) (by omega) (by omega), up4_ne (by omega) (by omega) (by omega) (by omega)]
      exact h4 q (by omega)
abbrev preX9_mark (T : Cd) (G0 : Lg) (G1 : Lg) (lim : Nat) (F : Nat → Int32) (J : Nat → Int64) (al : Nat → Int32) (p1 : Int32) (p2 : Int32) (p3 : Int32) : Prop := fcR T G0 G1 lim al
abbrev postX9_mark (T : Cd) (G0 : Lg) (G1 : Lg) (lim : Nat) (F : Nat → Int32) (J : Nat → Int64) (al : Nat → Int32) (p1 : Int32) (p2 : Int32) (p3 : Int32) (r : Int32) (F' : Nat → Int32) (al' : Nat → Int32) : Prop := r.toInt = spMark G0 G1 p1.toInt p2.toInt p3.toInt ∧ fcR T (nxM0 G0 p1.toInt p2.toInt p3.toInt) (nxM1 G1 p1.toInt p2.toInt p3.toInt) lim al' ∧ kpA al al'
theorem sX9_mark (T : Cd) (G0 : Lg) (G1 : Lg) (lim : Nat) (F : Nat → Int32) (J : Nat → Int64) (al : Nat → Int32) (p1 : Int32) (p2 : Int32) (p3 : Int32) (H : preX9_mark T G0 G1 lim F J al p1 p2 p3) : vX9_mark F J al p1 p2 p3 (postX9_mark T G0 G1 lim F J al p1 p2 p3) := by
  obtain ⟨hT, h0, h1, hlim, hl9, hl1⟩ := id H
  have hn5 := hT.1.2
  have no : ¬ ((p1.toInt = 0 ∨ p1.toInt = 1) ∧ (0 ≤ p2.toInt ∧ p2.toInt ≤ 2) ∧ (0 ≤ p3.toInt ∧ p3.toInt ≤ 199) ∧ gm (pkG G0 G1 p1.toInt.toNat) < 10) → (-1 : Int32).toInt = spMark G0 G1 p1.toInt p2.toInt p3.toInt ∧ fcR T (nxM0 G0 p1.toInt p2.toInt p3.toInt) (nxM1 G1 p1.toInt p2.toInt p3.toInt) lim al ∧ kpA al al := fun q => by
    unfold spMark nxM0 nxM1
    rw [if_neg q, if_neg (fun z => q ⟨Or.inl z.1, z.2.1, z.2.2.1, by rw [show p1.toInt.toNat = 0 by omega]; exact z.2.2.2⟩), if_neg (fun z => q ⟨Or.inr z.1, z.2.1, z.2.2.1, by rw [show p1.toInt.toNat = 1 by omega]; exact z.2.2.2⟩)]
    exact ⟨rfl, H, kpA_rf al⟩
  refine ⟨trivial, fun r hr => ?_⟩
  have hr : r = if p1.toInt = 0 ∨ p1.toInt = 1 then 1 else 0 := hr
  rw [hr, q_if1]
  refine ⟨fun a => no (fun q => a q.1), fun a => ⟨trivial, fun r2 hr2 => ?_⟩⟩
  have a := Decidable.not_not.mp a
  have hr2 : r2 = if 0 ≤ p2.toInt ∧ p2.toInt ≤ 2 then 1 else 0 := hr2
  rw [hr2, q_if1]
  refine ⟨fun b => no (fun q => b q.2.1), fun b => ⟨trivial, fun r3 hr3 => ?_⟩⟩
  have b := Decidable.not_not.mp b
  have hr3 : r3 = if 0 ≤ p3.toInt ∧ p3.toInt ≤ 199 then 1 else 0 := hr3
  rw [hr3, q_if1]
  refine ⟨fun c => no (fun q => c q.2.2.1), fun c => ?_⟩
  have c := Decidable.not_not.mp c
  have hl2 : p1.toInt.toNat < 2 := by omega
  have e1 : p1.toInt = (p1.toInt.toNat : Int) := by omega
  have hG := pk_mG h0 h1 hl2
  have hmk := mG_mk hG
  refine ⟨p1.toInt.toNat, 6, ⟨e1, rfl, by omega⟩, fun r4 hr4 => ?_⟩
  have hr4 : r4.toInt = (gm (pkG G0 G1 p1.toInt.toNat) : Int) := by rw [hr4]; exact hmk.1
  rw [fa_eq r4, z10, hr4]
  refine ⟨fun d => ⟨p1.toInt.toNat, 6, ⟨e1, rfl, by omega⟩, fun r5 hr5 y hy => ?_⟩, fun d => no (fun q => by omega)⟩
  have hr5 : r5.toInt = (gm (pkG G0 G1 p1.toInt.toNat) : Int) := by rw [hr5]; exact hmk.1
  have hy0 : y.toInt = ((7 + 3 * gm (pkG G0 G1 p1.toInt.toNat) : Nat) : Int) := by rw [hy]; exact q_7 hr5 (by omega)
  have hy1 := q_1 hy0 (by omega)
  have hy2 : (y + (2 : Int32)).toInt = ((7 + 3 * gm (pkG G0 G1 p1.toInt.toNat) + 2 : Nat) : Int) := q_addN (b := 2) hy0 rfl (by omega)
  refine ⟨p1.toInt.toNat, _, ⟨e1, hy0, by omega⟩, fun a1 ha1 => ⟨p1.toInt.toNat, _, ⟨e1, hy1, by omega⟩, fun a2 ha2 => ⟨p1.toInt.toNat, _, ⟨e1, hy2, by omega⟩, fun a3 ha3 => ⟨p1.toInt.toNat, 6, ⟨e1, rfl, by omega⟩, fun r6 hr6 => ⟨p1.toInt.toNat, 6, ⟨e1, rfl, by omega⟩, fun a4 ha4 => ⟨p1.toInt.toNat, 6, ⟨e1, rfl, by omega⟩, fun r7 hr7 => ?_⟩⟩⟩⟩⟩⟩
  have ha1 : a1 = upd al (20 + 37 * p1.toInt.toNat + (7 + 3 * gm (pkG G0 G1 p1.toInt.toNat))) p2 := ha1
  have ha2 : a2 = upd a1 (20 + 37 * p1.toInt.toNat + (7 + 3 * gm (pkG G0 G1 p1.toInt.toNat) + 1)) p3 := ha2
  have ha3 : a3 = upd a2 (20 + 37 * p1.toInt.toNat + (7 + 3 * gm (pkG G0 G1 p1.toInt.toNat) + 2)) p3 := ha3
  have ha4 : a4 = upd a3 (20 + 37 * p1.toInt.toNat + 6) (r6 + (1 : Int32)) := ha4
  have hr6 : r6 = a3 (20 + 37 * p1.toInt.toNat + 6) := hr6
  have hr7 : r7 = a4 (20 + 37 * p1.toInt.toNat + 6) := hr7
  have h6 : r6.toInt = (gm (pkG G0 G1 p1.toInt.toNat) : Int) := by
    rw [hr6, ha3, ha2, ha1, upd_ne (by omega), upd_ne (by omega), upd_ne (by omega)]; exact hmk.1
  have h61 := q_1 h6 (by omega)
  have h7 : r7.toInt = ((gm (pkG G0 G1 p1.toInt.toNat) + 1 : Nat) : Int) := by rw [hr7, ha4, upd_eq]; exact h61
  have hau : a4 = up4 al p1.toInt.toNat (gm (pkG G0 G1 p1.toInt.toNat)) p2 p3 p3 (r6 + (1 : Int32)) := by rw [ha4, ha3, ha2, ha1]; rfl
  have hm10 : gm (pkG G0 G1 p1.toInt.toNat) < 10 := by omega
  have hA := mG_gA hG (k := p2.toInt.toNat) (i := p3.toInt.toNat) (j := p3.toInt.toNat) hm10 (by omega) (Nat.le_refl _) (by omega) (fun _ => rfl) (x := p2) (y := p3) (z := p3) (w := r6 + (1 : Int32)) (by omega) (by omega) (by omega) h61
  have hmT : mT T a4 := by
    rw [ha4, ha3, ha2, ha1]
    exact mT_leg (mT_leg (mT_leg (mT_leg hT hn5 (by omega) _) hn5 (by omega) _) hn5 (by omega) _) hn5 (by omega) _
  have hkp : kpA al a4 := fun k hk => by rw [hau]; exact up4_ne (by omega) (by omega) (by omega) (by omega)
  have ha41 : (a4 1).toInt = (lim : Int) := by rw [hau, up4_ne (by omega) (by omega) (by omega) (by omega)]; exact hlim
  have nG : ∀ (G : Lg) (l2 : Nat), mG G l2 al → l2 < 2 → l2 ≠ p1.toInt.toNat → mG G l2 a4 := fun G l2 h hl hne => by
    rw [ha4, ha3, ha2, ha1]
    exact mG_ne (mG_ne (mG_ne (mG_ne h (by omega) _) (by omega) _) (by omega) _) (by omega) _
  unfold postX9_mark spMark nxM0 nxM1
  rw [if_pos ⟨a, b, c, hm10⟩]
  refine ⟨by rw [h7]; omega, ⟨hmT, ?_, ?_, ha41, hl9, hl1⟩, hkp⟩
  · rcases a with e | e
    · have e0 : p1.toInt.toNat = 0 := by omega
      rw [e0] at hA hm10 hau
      rw [if_pos ⟨e, b, c, hm10⟩, hau]; exact hA
    · rw [if_neg (fun z => by omega)]; exact nG G0 0 h0 (by omega) (by omega)
  · rcases a with e | e
    · rw [if_neg (fun z => by omega)]; exact nG G1 1 h1 (by omega) (by omega)
    · have e0 : p1.toInt.toNat = 1 := by omega
      rw [e0] at hA hm10 hau
      rw [if_pos ⟨e, b, c, hm10⟩, hau]; exact hA
