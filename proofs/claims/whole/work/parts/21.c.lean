theorem dX9_fails_0 : decode cX9_fails 0 = .ok (.aload_n 0, 1) := by decide +kernel
theorem dX9_fails_1 : decode cX9_fails 1 = .ok (.aload_n 0, 1) := by decide +kernel
theorem dX9_fails_2 : decode cX9_fails 2 = .ok (.getfield 79, 3) := by decide +kernel
theorem dX9_fails_5 : decode cX9_fails 5 = .ok (.putfield 95, 3) := by decide +kernel
theorem dX9_fails_8 : decode cX9_fails 8 = .ok (.iconst 0, 1) := by decide +kernel
theorem dX9_fails_9 : decode cX9_fails 9 = .ok (.ireturn, 1) := by decide +kernel
abbrev rmX9_fails : Room := { frames := 0, cells := 0, slots := 0, locals := 0 }
theorem inX9_fails_9 : ∀ w ∈ wsX90, w ∈ wsX9_fails := by decide +kernel
def vX9_fails (F : Nat → Int32) (J : Nat → Int64) (Q : Int32 → (Nat → Int32) → Prop) : Prop := (Q (0 : Int32) (upd F 11 (F 6)))
set_option maxHeartbeats 4000000 in
set_option maxRecDepth 100000 in
theorem wX9_fails (l : Launch) (g : GP) (qM : Nat) (q1 : Nat) (q2 : Nat) (q3 : Nat) (q4 : Nat) (q5 : Nat) (q6 : Nat) (q7 : Nat) (q8 : Nat) (q9 : Nat) (q10 : Nat) (q11 : Nat) (sz : Nat) (F : Nat → Int32) (J : Nat → Int64) {Q : Int32 → (Nat → Int32) → Prop} (hv : vX9_fails F J Q) : Met l yX9_fails wsX9_fails rmX9_fails (va_Pc [.ref qM] (fun U => U.heap.size = sz ∧ va_P g.1 vwCl [(qM, .inr (9, [.int (F 0), .ref q1, .ref q2, .ref q3, .int (F 4), .int (F 5), .int (F 6), .int (F 7), .int (F 8), .int (F 9), .long (J 10), .int (F 11), .int (F 12), .int (F 13), .ref q4, .int (F 15), .ref q5, .ref q6, .ref q7, .int (F 19), .ref q8, .int (F 21), .int (F 22), .int (F 23), .int (F 24), .ref q9, .ref q10, .ref q11, .long (J 28)]))] U.heap ∧ GK g U ∧ va_D (fun _ => True) [(qM, .inr (9, [.int (F 0), .ref q1, .ref q2, .ref q3, .int (F 4), .int (F 5), .int (F 6), .int (F 7), .int (F 8), .int (F 9), .long (J 10), .int (F 11), .int (F 12), .int (F 13), .ref q4, .int (F 15), .ref q5, .ref q6, .ref q7, .int (F 19), .ref q8, .int (F 21), .int (F 22), .int (F 23), .int (F 24), .ref q9, .ref q10, .ref q11, .long (J 28)]))])) (va_Qi (fun (r : Int32) (u : (Nat → Int32)) => Q r u) (fun (u : (Nat → Int32)) t => va_P g.1 vwCl [(qM, .inr (9, [.int (u 0), .ref q1, .ref q2, .ref q3, .int (u 4), .int (u 5), .int (u 6), .int (u 7), .int (u 8), .int (u 9), .long (J 10), .int (u 11), .int (u 12), .int (u 13), .ref q4, .int (u 15), .ref q5, .ref q6, .ref q7, .int (u 19), .ref q8, .int (u 21), .int (u 22), .int (u 23), .int (u 24), .ref q9, .ref q10, .ref q11, .long (J 28)]))] t.heap ∧ va_D (va_A [(qM, .inr (9, [.int (F 0), .ref q1, .ref q2, .ref q3, .int (F 4), .int (F 5), .int (F 6), .int (F 7), .int (F 8), .int (F 9), .long (J 10), .int (F 11), .int (F 12), .int (F 13), .ref q4, .int (F 15), .ref q5, .ref q6, .ref q7, .int (F 19), .ref q8, .int (F 21), .int (F 22), .int (F 23), .int (F 24), .ref q9, .ref q10, .ref q11, .long (J 28)]))] sz) [(qM, .inr (9, [.int (u 0), .ref q1, .ref q2, .ref q3, .int (u 4), .int (u 5), .int (u 6), .int (u 7), .int (u 8), .int (u 9), .long (J 10), .int (u 11), .int (u 12), .int (u 13), .ref q4, .int (u 15), .ref q5, .ref q6, .ref q7, .int (u 19), .ref q8, .int (u 21), .int (u 22), .int (u 23), .int (u 24), .ref q9, .ref q10, .ref q11, .long (J 28)]))]) (va_A [(qM, .inr (9, [.int (F 0), .ref q1, .ref q2, .ref q3, .int (F 4), .int (F 5), .int (F 6), .int (F 7), .int (F 8), .int (F 9), .long (J 10), .int (F 11), .int (F 12), .int (F 13), .ref q4, .int (F 15), .ref q5, .ref q6, .ref q7, .int (F 19), .ref q8, .int (F 21), .int (F 22), .int (F 23), .int (F 24), .ref q9, .ref q10, .ref q11, .long (J 28)]))] sz)) 0 0 (va_A [(qM, .inr (9, [.int (F 0), .ref q1, .ref q2, .ref q3, .int (F 4), .int (F 5), .int (F 6), .int (F 7), .int (F 8), .int (F 9), .long (J 10), .int (F 11), .int (F 12), .int (F 13), .ref q4, .int (F 15), .ref q5, .ref q6, .ref q7, .int (F 19), .ref q8, .int (F 21), .int (F 22), .int (F 23), .int (F 24), .ref q9, .ref q10, .ref q11, .long (J 28)]))] sz) := by
  refine Met.ofW (cc := cX9_fails) (maxL := 1) (ret := (some .boolean)) (by decide) rfl ?_
  intro p e s m args below meth c s₁ B hml hv'
  obtain ⟨rfl, hsz, hP, hG, hD0⟩ := hv'
  have S : CallFix p m c cX9_fails 1 s _ wsX9_fails RX9 := ⟨B.exec, B.bytes, hml, findClass_of_methodNamed B.named, atoms_spec (ws := wsX9_fails) B.pre⟩
  obtain ⟨hx, hb, hml, hown, hts⟩ := id S
  have hK := hG.1
  have hr := B.returns
  have hlocks := B.notSynchronized
  subst hsz
  have hD := hD0.self (sz := s.heap.size)
  generalize hAe : va_A [(qM, .inr (9, [.int (F 0), .ref q1, .ref q2, .ref q3, .int (F 4), .int (F 5), .int (F 6), .int (F 7), .int (F 8), .int (F 9), .long (J 10), .int (F 11), .int (F 12), .int (F 13), .ref q4, .int (F 15), .ref q5, .ref q6, .ref q7, .int (F 19), .ref q8, .int (F 21), .int (F 22), .int (F 23), .int (F 24), .ref q9, .ref q10, .ref q11, .long (J 28)]))] s.heap.size = A at hD ⊢
  have hA : ∀ q : Nat, s.heap.size ≤ q → A q := fun q h => by rw [← hAe]; exact Or.inr h
  have hS : va_S A s.heap s.heap [] := va_S.rf
  clear hD0 hAe
  have hl := lv_entry ([.ref qM]) (n := 1) (Nat.le_of_ble_eq_true rfl)
  rw [lg_entry_eq]
  generalize (lg_sl ([.ref qM]) ++ List.replicate (1 - (lg_sl ([.ref qM])).length) Slot.unset).toArray = ls at hl ⊢
  have hl : lv_has ls 1 [(0, .ref qM)] := hl
  unfold vX9_fails at hv
  refine lv_aload_n hx hb dX9_fails_0 rfl (lv_at hl 0 rfl) ?_
  refine lv_aload_n hx hb dX9_fails_1 rfl (lv_at hl 0 rfl) ?_
  refine va_get (D := g.1) (ci := 9) (v := .int (F 6)) (C := RX9) (T := TX9) (N := 29) hx hb hts inX9_fails_9 hown hK hP 0 rfl rfl 6 (by decide) (hts (.fieldLink RX9 79 "RangeCodesModel" "begin" "I") (List.mem_of_getElem? (i := 1) rfl)) (fun _ h9 => h9) rfl dX9_fails_2 ?_
  refine va_put (D := g.1) (ci := 9) (v := .int (F 6)) (ty := .int) (C := RX9) (T := TX9) (N := 29) hx hb hts inX9_fails_9 tyX9 tyX9_ok nmX9 hown hK hP hD hS 0 rfl rfl 11 (by decide) (hts (.fieldLink RX9 95 "RangeCodesModel" "wrongAt" "I") (List.mem_of_getElem? (i := 2) rfl)) (fun _ h9 => h9) rfl (by decide +kernel) rfl rfl (Nat.le_of_ble_eq_true rfl) dX9_fails_5 (fun H locs hP hD hS => ?_)
  have hP : va_P g.1 vwCl [(qM, .inr (9, [.int (F 0), .ref q1, .ref q2, .ref q3, .int (F 4), .int (F 5), .int (F 6), .int (F 7), .int (F 8), .int (F 9), .long (J 10), .int (F 6), .int (F 12), .int (F 13), .ref q4, .int (F 15), .ref q5, .ref q6, .ref q7, .int (F 19), .ref q8, .int (F 21), .int (F 22), .int (F 23), .int (F 24), .ref q9, .ref q10, .ref q11, .long (J 28)]))] H := hP
  have hD : va_D A [(qM, .inr (9, [.int (F 0), .ref q1, .ref q2, .ref q3, .int (F 4), .int (F 5), .int (F 6), .int (F 7), .int (F 8), .int (F 9), .long (J 10), .int (F 6), .int (F 12), .int (F 13), .ref q4, .int (F 15), .ref q5, .ref q6, .ref q7, .int (F 19), .ref q8, .int (F 21), .int (F 22), .int (F 23), .int (F 24), .ref q9, .ref q10, .ref q11, .long (J 28)]))] := hD
  refine lv_iconst (v := (0 : Int32)) hx hb dX9_fails_8 (by decide) ?_
  have hP9 := hP.sub (ws' := [(qM, .inr (9, [.int ((upd F 11 (F 6)) 0), .ref q1, .ref q2, .ref q3, .int ((upd F 11 (F 6)) 4), .int ((upd F 11 (F 6)) 5), .int ((upd F 11 (F 6)) 6), .int ((upd F 11 (F 6)) 7), .int ((upd F 11 (F 6)) 8), .int ((upd F 11 (F 6)) 9), .long (J 10), .int ((upd F 11 (F 6)) 11), .int ((upd F 11 (F 6)) 12), .int ((upd F 11 (F 6)) 13), .ref q4, .int ((upd F 11 (F 6)) 15), .ref q5, .ref q6, .ref q7, .int ((upd F 11 (F 6)) 19), .ref q8, .int ((upd F 11 (F 6)) 21), .int ((upd F 11 (F 6)) 22), .int ((upd F 11 (F 6)) 23), .int ((upd F 11 (F 6)) 24), .ref q9, .ref q10, .ref q11, .long (J 28)]))]) [0] rfl
  have hD9 := hD.sub (ws' := [(qM, .inr (9, [.int ((upd F 11 (F 6)) 0), .ref q1, .ref q2, .ref q3, .int ((upd F 11 (F 6)) 4), .int ((upd F 11 (F 6)) 5), .int ((upd F 11 (F 6)) 6), .int ((upd F 11 (F 6)) 7), .int ((upd F 11 (F 6)) 8), .int ((upd F 11 (F 6)) 9), .long (J 10), .int ((upd F 11 (F 6)) 11), .int ((upd F 11 (F 6)) 12), .int ((upd F 11 (F 6)) 13), .ref q4, .int ((upd F 11 (F 6)) 15), .ref q5, .ref q6, .ref q7, .int ((upd F 11 (F 6)) 19), .ref q8, .int ((upd F 11 (F 6)) 21), .int ((upd F 11 (F 6)) 22), .int ((upd F 11 (F 6)) 23), .int ((upd F 11 (F 6)) 24), .ref q9, .ref q10, .ref q11, .long (J 28)]))]) [0] (by decide) rfl
  exact W.zret (v := (0 : Int32)) (ty := .boolean) hx hb hr rfl (fun t ht hW => ⟨⟨_, ((upd F 11 (F 6))), rfl, hv, by rw [ht]; exact hP9, hD9⟩, hS.F ht⟩) hS.2.2 dX9_fails_9
abbrev preX9_fails (F : Nat → Int32) (J : Nat → Int64) : Prop := True
abbrev postX9_fails (F : Nat → Int32) (J : Nat → Int64) (r : Int32) (F' : Nat → Int32) : Prop := r = 0 ∧ F' = upd F 11 (F 6)
theorem sX9_fails (F : Nat → Int32) (J : Nat → Int64) (H : preX9_fails F J) : vX9_fails F J (postX9_fails F J) := ⟨rfl, rfl⟩
theorem dX9_isBad_0 : decode cX9_isBad 0 = .ok (.aload_n 0, 1) := by decide +kernel
theorem dX9_isBad_1 : decode cX9_isBad 1 = .ok (.getfield 98, 3) := by decide +kernel
theorem dX9_isBad_4 : decode cX9_isBad 4 = .ok (.ifCond .eq 27, 3) := by decide +kernel
theorem dX9_isBad_7 : decode cX9_isBad 7 = .ok (.iload_n 2, 1) := by decide +kernel
theorem dX9_isBad_8 : decode cX9_isBad 8 = .ok (.aload_n 0, 1) := by decide +kernel
theorem dX9_isBad_9 : decode cX9_isBad 9 = .ok (.getfield 101, 3) := by decide +kernel
theorem dX9_isBad_12 : decode cX9_isBad 12 = .ok (.if_icmp .lt 19, 3) := by decide +kernel
theorem dX9_isBad_15 : decode cX9_isBad 15 = .ok (.iload_n 2, 1) := by decide +kernel
theorem dX9_isBad_16 : decode cX9_isBad 16 = .ok (.aload_n 0, 1) := by decide +kernel
theorem dX9_isBad_17 : decode cX9_isBad 17 = .ok (.getfield 101, 3) := by decide +kernel
theorem dX9_isBad_20 : decode cX9_isBad 20 = .ok (.if_icmp .ne 21, 3) := by decide +kernel
theorem dX9_isBad_23 : decode cX9_isBad 23 = .ok (.iload_n 1, 1) := by decide +kernel
theorem dX9_isBad_24 : decode cX9_isBad 24 = .ok (.aload_n 0, 1) := by decide +kernel
theorem dX9_isBad_25 : decode cX9_isBad 25 = .ok (.getfield 98, 3) := by decide +kernel
theorem dX9_isBad_28 : decode cX9_isBad 28 = .ok (.if_icmp .ge 13, 3) := by decide +kernel
theorem dX9_isBad_31 : decode cX9_isBad 31 = .ok (.aload_n 0, 1) := by decide +kernel
theorem dX9_isBad_32 : decode cX9_isBad 32 = .ok (.iload_n 1, 1) := by decide +kernel
theorem dX9_isBad_33 : decode cX9_isBad 33 = .ok (.putfield 98, 3) := by decide +kernel
theorem dX9_isBad_36 : decode cX9_isBad 36 = .ok (.aload_n 0, 1) := by decide +kernel
theorem dX9_isBad_37 : decode cX9_isBad 37 = .ok (.iload_n 2, 1) := by decide +kernel
theorem dX9_isBad_38 : decode cX9_isBad 38 = .ok (.putfield 101, 3) := by decide +kernel
theorem dX9_isBad_41 : decode cX9_isBad 41 = .ok (.return_, 1) := by decide +kernel
abbrev rmX9_isBad : Room := { frames := 0, cells := 0, slots := 0, locals := 0 }
theorem inX9_isBad_9 : ∀ w ∈ wsX90, w ∈ wsX9_isBad := by decide +kernel
def vX9_isBad (F : Nat → Int32) (J : Nat → Int64) (p1 : Int32) (p2 : Int32) (Q : (Nat → Int32) → Prop) : Prop := (((F 13) = 0 → (Q (upd (upd F 12 p2) 13 p1))) ∧ (¬ (F 13) = 0 → ((p2 < (F 12) → (Q (upd (upd F 12 p2) 13 p1))) ∧ (¬ p2 < (F 12) → ((¬ p2 = (F 12) → (Q F)) ∧ (p2 = (F 12) → (((F 13) ≤ p1 → (Q F)) ∧ (¬ (F 13) ≤ p1 → (Q (upd (upd F 12 p2) 13 p1))))))))))
set_option maxHeartbeats 4000000 in
set_option maxRecDepth 100000 in
theorem wX9_isBad (l : Launch) (g : GP) (qM : Nat) (q1 : Nat) (q2 : Nat) (q3 : Nat) (q4 : Nat) (q5 : Nat) (q6 : Nat) (q7 : Nat) (q8 : Nat) (q9 : Nat) (q10 : Nat) (q11 : Nat) (sz : Nat) (F : Nat → Int32) (J : Nat → Int64) (p1 : Int32) (p2 : Int32) {Q : (Nat → Int32) → Prop} (hv : vX9_isBad F J p1 p2 Q) : Met l yX9_isBad wsX9_isBad rmX9_isBad (va_Pc [.ref qM, .int p1, .int p2] (fun U => U.heap.size = sz ∧ va_P g.1 vwCl [(qM, .inr (9, [.int (F 0), .ref q1, .ref q2, .ref q3, .int (F 4), .int (F 5), .int (F 6), .int (F 7), .int (F 8), .int (F 9), .long (J 10), .int (F 11), .int (F 12), .int (F 13), .ref q4, .int (F 15), .ref q5, .ref q6, .ref q7, .int (F 19), .ref q8, .int (F 21), .int (F 22), .int (F 23), .int (F 24), .ref q9, .ref q10, .ref q11, .long (J 28)]))] U.heap ∧ GK g U ∧ va_D (fun _ => True) [(qM, .inr (9, [.int (F 0), .ref q1, .ref q2, .ref q3, .int (F 4), .int (F 5), .int (F 6), .int (F 7), .int (F 8), .int (F 9), .long (J 10), .int (F 11), .int (F 12), .int (F 13), .ref q4, .int (F 15), .ref q5, .ref q6, .ref q7, .int (F 19), .ref q8, .int (F 21), .int (F 22), .int (F 23), .int (F 24), .ref q9, .ref q10, .ref q11, .long (J 28)]))])) (va_Qv (fun (u : (Nat → Int32)) => Q u) (fun (u : (Nat → Int32)) t => va_P g.1 vwCl [(qM, .inr (9, [.int (u 0), .ref q1, .ref q2, .ref q3, .int (u 4), .int (u 5), .int (u 6), .int (u 7), .int (u 8), .int (u 9), .long (J 10), .int (u 11), .int (u 12), .int (u 13), .ref q4, .int (u 15), .ref q5, .ref q6, .ref q7, .int (u 19), .ref q8, .int (u 21), .int (u 22), .int (u 23), .int (u 24), .ref q9, .ref q10, .ref q11, .long (J 28)]))] t.heap ∧ va_D (va_A [(qM, .inr (9, [.int (F 0), .ref q1, .ref q2, .ref q3, .int (F 4), .int (F 5), .int (F 6), .int (F 7), .int (F 8), .int (F 9), .long (J 10), .int (F 11), .int (F 12), .int (F 13), .ref q4, .int (F 15), .ref q5, .ref q6, .ref q7, .int (F 19), .ref q8, .int (F 21), .int (F 22), .int (F 23), .int (F 24), .ref q9, .ref q10, .ref q11, .long (J 28)]))] sz) [(qM, .inr (9, [.int (u 0), .ref q1, .ref q2, .ref q3, .int (u 4), .int (u 5), .int (u 6), .int (u 7), .int (u 8), .int (u 9), .long (J 10), .int (u 11), .int (u 12), .int (u 13), .ref q4, .int (u 15), .ref q5, .ref q6, .ref q7, .int (u 19), .ref q8, .int (u 21), .int (u 22), .int (u 23), .int (u 24), .ref q9, .ref q10, .ref q11, .long (J 28)]))]) (va_A [(qM, .inr (9, [.int (F 0), .ref q1, .ref q2, .ref q3, .int (F 4), .int (F 5), .int (F 6), .int (F 7), .int (F 8), .int (F 9), .long (J 10), .int (F 11), .int (F 12), .int (F 13), .ref q4, .int (F 15), .ref q5, .ref q6, .ref q7, .int (F 19), .ref q8, .int (F 21), .int (F 22), .int (F 23), .int (F 24), .ref q9, .ref q10, .ref q11, .long (J 28)]))] sz)) 0 0 (va_A [(qM, .inr (9, [.int (F 0), .ref q1, .ref q2, .ref q3, .int (F 4), .int (F 5), .int (F 6), .int (F 7), .int (F 8), .int (F 9), .long (J 10), .int (F 11), .int (F 12), .int (F 13), .ref q4, .int (F 15), .ref q5, .ref q6, .ref q7, .int (F 19), .ref q8, .int (F 21), .int (F 22), .int (F 23), .int (F 24), .ref q9, .ref q10, .ref q11, .long (J 28)]))] sz) := by
  refine Met.ofW (cc := cX9_isBad) (maxL := 3) (ret := none) (by decide) rfl ?_
  intro p e s m args below meth c s₁ B hml hv'
  obtain ⟨rfl, hsz, hP, hG, hD0⟩ := hv'
  have S : CallFix p m c cX9_isBad 3 s _ wsX9_isBad RX9 := ⟨B.exec, B.bytes, hml, findClass_of_methodNamed B.named, atoms_spec (ws := wsX9_isBad) B.pre⟩
  obtain ⟨hx, hb, hml, hown, hts⟩ := id S
  have hK := hG.1
  have hr := B.returns
  have hlocks := B.notSynchronized
  subst hsz
  have hD := hD0.self (sz := s.heap.size)
  generalize hAe : va_A [(qM, .inr (9, [.int (F 0), .ref q1, .ref q2, .ref q3, .int (F 4), .int (F 5), .int (F 6), .int (F 7), .int (F 8), .int (F 9), .long (J 10), .int (F 11), .int (F 12), .int (F 13), .ref q4, .int (F 15), .ref q5, .ref q6, .ref q7, .int (F 19), .ref q8, .int (F 21), .int (F 22), .int (F 23), .int (F 24), .ref q9, .ref q10, .ref q11, .long (J 28)]))] s.heap.size = A at hD ⊢
  have hA : ∀ q : Nat, s.heap.size ≤ q → A q := fun q h => by rw [← hAe]; exact Or.inr h
  have hS : va_S A s.heap s.heap [] := va_S.rf
  clear hD0 hAe
  have hl := lv_entry ([.ref qM, .int p1, .int p2]) (n := 3) (Nat.le_of_ble_eq_true rfl)
  rw [lg_entry_eq]
  generalize (lg_sl ([.ref qM, .int p1, .int p2]) ++ List.replicate (3 - (lg_sl ([.ref qM, .int p1, .int p2])).length) Slot.unset).toArray = ls at hl ⊢
  have hl : lv_has ls 3 [(0, .ref qM), (1, .int p1), (2, .int p2)] := hl
  unfold vX9_isBad at hv
  refine lv_aload_n hx hb dX9_isBad_0 rfl (lv_at hl 0 rfl) ?_
  refine va_get (D := g.1) (ci := 9) (v := .int (F 13)) (C := RX9) (T := TX9) (N := 29) hx hb hts inX9_isBad_9 hown hK hP 0 rfl rfl 13 (by decide) (hts (.fieldLink RX9 98 "RangeCodesModel" "bad" "I") (List.mem_of_getElem? (i := 1) rfl)) (fun _ h9 => h9) rfl dX9_isBad_1 ?_
  obtain ⟨hvt, hvf⟩ := hv
  refine lv_if_eq (tgt := 31) hx hb dX9_isBad_4 (by decide) (fun hc => ?_) (fun hc => ?_)
  · have hv := hvt hc
    refine lv_aload_n hx hb dX9_isBad_31 rfl (lv_at hl 0 rfl) ?_
    refine lv_iload_n hx hb dX9_isBad_32 rfl (lv_at hl 1 rfl) ?_
    refine va_put (D := g.1) (ci := 9) (v := .int p1) (ty := .int) (C := RX9) (T := TX9) (N := 29) hx hb hts inX9_isBad_9 tyX9 tyX9_ok nmX9 hown hK hP hD hS 0 rfl rfl 13 (by decide) (hts (.fieldLink RX9 98 "RangeCodesModel" "bad" "I") (List.mem_of_getElem? (i := 1) rfl)) (fun _ h9 => h9) rfl (by decide +kernel) rfl rfl (Nat.le_of_ble_eq_true rfl) dX9_isBad_33 (fun H locs hP hD hS => ?_)
    have hP : va_P g.1 vwCl [(qM, .inr (9, [.int (F 0), .ref q1, .ref q2, .ref q3, .int (F 4), .int (F 5), .int (F 6), .int (F 7), .int (F 8), .int (F 9), .long (J 10), .int (F 11), .int (F 12), .int p1, .ref q4, .int (F 15), .ref q5, .ref q6, .ref q7, .int (F 19), .ref q8, .int (F 21), .int (F 22), .int (F 23), .int (F 24), .ref q9, .ref q10, .ref q11, .long (J 28)]))] H := hP
    have hD : va_D A [(qM, .inr (9, [.int (F 0), .ref q1, .ref q2, .ref q3, .int (F 4), .int (F 5), .int (F 6), .int (F 7), .int (F 8), .int (F 9), .long (J 10), .int (F 11), .int (F 12), .int p1, .ref q4, .int (F 15), .ref q5, .ref q6, .ref q7, .int (F 19), .ref q8, .int (F 21), .int (F 22), .int (F 23), .int (F 24), .ref q9, .ref q10, .ref q11, .long (J 28)]))] := hD
    refine lv_aload_n hx hb dX9_isBad_36 rfl (lv_at hl 0 rfl) ?_
    refine lv_iload_n hx hb dX9_isBad_37 rfl (lv_at hl 2 rfl) ?_
    refine va_put (D := g.1) (ci := 9) (v := .int p2) (ty := .int) (C := RX9) (T := TX9) (N := 29) hx hb hts inX9_isBad_9 tyX9 tyX9_ok nmX9 hown hK hP hD hS 0 rfl rfl 12 (by decide) (hts (.fieldLink RX9 101 "RangeCodesModel" "badAt" "I") (List.mem_of_getElem? (i := 2) rfl)) (fun _ h9 => h9) rfl (by decide +kernel) rfl rfl (Nat.le_of_ble_eq_true rfl) dX9_isBad_38 (fun H locs hP hD hS => ?_)
    have hP : va_P g.1 vwCl [(qM, .inr (9, [.int (F 0), .ref q1, .ref q2, .ref q3, .int (F 4), .int (F 5), .int (F 6), .int (F 7), .int (F 8), .int (F 9), .long (J 10), .int (F 11), .int p2, .int p1, .ref q4, .int (F 15), .ref q5, .ref q6, .ref q7, .int (F 19), .ref q8, .int (F 21), .int (F 22), .int (F 23), .int (F 24), .ref q9, .ref q10, .ref q11, .long (J 28)]))] H := hP
    have hD : va_D A [(qM, .inr (9, [.int (F 0), .ref q1, .ref q2, .ref q3, .int (F 4), .int (F 5), .int (F 6), .int (F 7), .int (F 8), .int (F 9), .long (J 10), .int (F 11), .int p2, .int p1, .ref q4, .int (F 15), .ref q5, .ref q6, .ref q7, .int (F 19), .ref q8, .int (F 21), .int (F 22), .int (F 23), .int (F 24), .ref q9, .ref q10, .ref q11, .long (J 28)]))] := hD
    have hP9 := hP.sub (ws' := [(qM, .inr (9, [.int ((upd (upd F 12 p2) 13 p1) 0), .ref q1, .ref q2, .ref q3, .int ((upd (upd F 12 p2) 13 p1) 4), .int ((upd (upd F 12 p2) 13 p1) 5), .int ((upd (upd F 12 p2) 13 p1) 6), .int ((upd (upd F 12 p2) 13 p1) 7), .int ((upd (upd F 12 p2) 13 p1) 8), .int ((upd (upd F 12 p2) 13 p1) 9), .long (J 10), .int ((upd (upd F 12 p2) 13 p1) 11), .int ((upd (upd F 12 p2) 13 p1) 12), .int ((upd (upd F 12 p2) 13 p1) 13), .ref q4, .int ((upd (upd F 12 p2) 13 p1) 15), .ref q5, .ref q6, .ref q7, .int ((upd (upd F 12 p2) 13 p1) 19), .ref q8, .int ((upd (upd F 12 p2) 13 p1) 21), .int ((upd (upd F 12 p2) 13 p1) 22), .int ((upd (upd F 12 p2) 13 p1) 23), .int ((upd (upd F 12 p2) 13 p1) 24), .ref q9, .ref q10, .ref q11, .long (J 28)]))]) [0] rfl
    have hD9 := hD.sub (ws' := [(qM, .inr (9, [.int ((upd (upd F 12 p2) 13 p1) 0), .ref q1, .ref q2, .ref q3, .int ((upd (upd F 12 p2) 13 p1) 4), .int ((upd (upd F 12 p2) 13 p1) 5), .int ((upd (upd F 12 p2) 13 p1) 6), .int ((upd (upd F 12 p2) 13 p1) 7), .int ((upd (upd F 12 p2) 13 p1) 8), .int ((upd (upd F 12 p2) 13 p1) 9), .long (J 10), .int ((upd (upd F 12 p2) 13 p1) 11), .int ((upd (upd F 12 p2) 13 p1) 12), .int ((upd (upd F 12 p2) 13 p1) 13), .ref q4, .int ((upd (upd F 12 p2) 13 p1) 15), .ref q5, .ref q6, .ref q7, .int ((upd (upd F 12 p2) 13 p1) 19), .ref q8, .int ((upd (upd F 12 p2) 13 p1) 21), .int ((upd (upd F 12 p2) 13 p1) 22), .int ((upd (upd F 12 p2) 13 p1) 23), .int ((upd (upd F 12 p2) 13 p1) 24), .ref q9, .ref q10, .ref q11, .long (J 28)]))]) [0] (by decide) rfl
    exact W.vret hx hb hr (fun t ht hW => ⟨⟨((upd (upd F 12 p2) 13 p1)), rfl, hv, by rw [ht]; exact hP9, hD9⟩, hS.F ht⟩) hS.2.2 dX9_isBad_41
  · have hv := hvf hc
    refine lv_iload_n hx hb dX9_isBad_7 rfl (lv_at hl 2 rfl) ?_
    refine lv_aload_n hx hb dX9_isBad_8 rfl (lv_at hl 0 rfl) ?_
    refine va_get (D := g.1) (ci := 9) (v := .int (F 12)) (C := RX9) (T := TX9) (N := 29) hx hb hts inX9_isBad_9 hown hK hP 0 rfl rfl 12 (by decide) (hts (.fieldLink RX9 101 "RangeCodesModel" "badAt" "I") (List.mem_of_getElem? (i := 2) rfl)) (fun _ h9 => h9) rfl dX9_isBad_9 ?_
    obtain ⟨hvt, hvf⟩ := hv
    refine lv_icmp_lt (tgt := 31) hx hb dX9_isBad_12 (by decide) (fun hc => ?_) (fun hc => ?_)
    · have hv := hvt hc
      refine lv_aload_n hx hb dX9_isBad_31 rfl (lv_at hl 0 rfl) ?_
      refine lv_iload_n hx hb dX9_isBad_32 rfl (lv_at hl 1 rfl) ?_
      refine va_put (D := g.1) (ci := 9) (v := .int p1) (ty := .int) (C := RX9) (T := TX9) (N := 29) hx hb hts inX9_isBad_9 tyX9 tyX9_ok nmX9 hown hK hP hD hS 0 rfl rfl 13 (by decide) (hts (.fieldLink RX9 98 "RangeCodesModel" "bad" "I") (List.mem_of_getElem? (i := 1) rfl)) (fun _ h9 => h9) rfl (by decide +kernel) rfl rfl (Nat.le_of_ble_eq_true rfl) dX9_isBad_33 (fun H locs hP hD hS => ?_)
      have hP : va_P g.1 vwCl [(qM, .inr (9, [.int (F 0), .ref q1, .ref q2, .ref q3, .int (F 4), .int (F 5), .int (F 6), .int (F 7), .int (F 8), .int (F 9), .long (J 10), .int (F 11), .int (F 12), .int p1, .ref q4, .int (F 15), .ref q5, .ref q6, .ref q7, .int (F 19), .ref q8, .int (F 21), .int (F 22), .int (F 23), .int (F 24), .ref q9, .ref q10, .ref q11, .long (J 28)]))] H := hP
      have hD : va_D A [(qM, .inr (9, [.int (F 0), .ref q1, .ref q2, .ref q3, .int (F 4), .int (F 5), .int (F 6), .int (F 7), .int (F 8), .int (F 9), .long (J 10), .int (F 11), .int (F 12), .int p1, .ref q4, .int (F 15), .ref q5, .ref q6, .ref q7, .int (F 19), .ref q8, .int (F 21), .int (F 22), .int (F 23), .int (F 24), .ref q9, .ref q10, .ref q11, .long (J 28)]))] := hD
      refine lv_aload_n hx hb dX9_isBad_36 rfl (lv_at hl 0 rfl) ?_
      refine lv_iload_n hx hb dX9_isBad_37 rfl (lv_at hl 2 rfl) ?_
      refine va_put (D := g.1) (ci := 9) (v := .int p2) (ty := .int) (C := RX9) (T := TX9) (N := 29) hx hb hts inX9_isBad_9 tyX9 tyX9_ok nmX9 hown hK hP hD hS 0 rfl rfl 12 (by decide) (hts (.fieldLink RX9 101 "RangeCodesModel" "badAt" "I") (List.mem_of_getElem? (i := 2) rfl)) (fun _ h9 => h9) rfl (by decide +kernel) rfl rfl (Nat.le_of_ble_eq_true rfl) dX9_isBad_38 (fun H locs hP hD hS => ?_)
      have hP : va_P g.1 vwCl [(qM, .inr (9, [.int (F 0), .ref q1, .ref q2, .ref q3, .int (F 4), .int (F 5), .int (F 6), .int (F 7), .int (F 8), .int (F 9), .long (J 10), .int (F 11), .int p2, .int p1, .ref q4, .int (F 15), .ref q5, .ref q6, .ref q7, .int (F 19), .ref q8, .int (F 21), .int (F 22), .int (F 23), .int (F 24), .ref q9, .ref q10, .ref q11, .long (J 28)]))] H := hP
      have hD : va_D A [(qM, .inr (9, [.int (F 0), .ref q1, .ref q2, .ref q3, .int (F 4), .int (F 5), .int (F 6), .int (F 7), .int (F 8), .int (F 9), .long (J 10), .int (F 11), .int p2, .int p1, .ref q4, .int (F 15), .ref q5, .ref q6, .ref q7, .int (F 19), .ref q8, .int (F 21), .int (F 22), .int (F 23), .int (F 24), .ref q9, .ref q10, .ref q11, .long (J 28)]))] := hD
      have hP9 := hP.sub (ws' := [(qM, .inr (9, [.int ((upd (upd F 12 p2) 13 p1) 0), .ref q1, .ref q2, .ref q3, .int ((upd (upd F 12 p2) 13 p1) 4), .int ((upd (upd F 12 p2) 13 p1) 5), .int ((upd (upd F 12 p2) 13 p1) 6), .int ((upd (upd F 12 p2) 13 p1) 7), .int ((upd (upd F 12 p2) 13 p1) 8), .int ((upd (upd F 12 p2) 13 p1) 9), .long (J 10), .int ((upd (upd F 12 p2) 13 p1) 11), .int ((upd (upd F 12 p2) 13 p1) 12), .int ((upd (upd F 12 p2) 13 p1) 13), .ref q4, .int ((upd (upd F 12 p2) 13 p1) 15), .ref q5, .ref q6, .ref q7, .int ((upd (upd F 12 p2) 13 p1) 19), .ref q8, .int ((upd (upd F 12 p2) 13 p1) 21), .int ((upd (upd F 12 p2) 13 p1) 22), .int ((upd (upd F 12 p2) 13 p1) 23), .int ((upd (upd F 12 p2) 13 p1) 24), .ref q9, .ref q10, .ref q11, .long (J 28)]))]) [0] rfl
      have hD9 := hD.sub (ws' := [(qM, .inr (9, [.int ((upd (upd F 12 p2) 13 p1) 0), .ref q1, .ref q2, .ref q3, .int ((upd (upd F 12 p2) 13 p1) 4), .int ((upd (upd F 12 p2) 13 p1) 5), .int ((upd (upd F 12 p2) 13 p1) 6), .int ((upd (upd F 12 p2) 13 p1) 7), .int ((upd (upd F 12 p2) 13 p1) 8), .int ((upd (upd F 12 p2) 13 p1) 9), .long (J 10), .int ((upd (upd F 12 p2) 13 p1) 11), .int ((upd (upd F 12 p2) 13 p1) 12), .int ((upd (upd F 12 p2) 13 p1) 13), .ref q4, .int ((upd (upd F 12 p2) 13 p1) 15), .ref q5, .ref q6, .ref q7, .int ((upd (upd F 12 p2) 13 p1) 19), .ref q8, .int ((upd (upd F 12 p2) 13 p1) 21), .int ((upd (upd F 12 p2) 13 p1) 22), .int ((upd (upd F 12 p2) 13 p1) 23), .int ((upd (upd F 12 p2) 13 p1) 24), .ref q9, .ref q10, .ref q11, .long (J 28)]))]) [0] (by decide) rfl
      exact W.vret hx hb hr (fun t ht hW => ⟨⟨((upd (upd F 12 p2) 13 p1)), rfl, hv, by rw [ht]; exact hP9, hD9⟩, hS.F ht⟩) hS.2.2 dX9_isBad_41
    · have hv := hvf hc
      refine lv_iload_n hx hb dX9_isBad_15 rfl (lv_at hl 2 rfl) ?_
      refine lv_aload_n hx hb dX9_isBad_16 rfl (lv_at hl 0 rfl) ?_
      refine va_get (D := g.1) (ci := 9) (v := .int (F 12)) (C := RX9) (T := TX9) (N := 29) hx hb hts inX9_isBad_9 hown hK hP 0 rfl rfl 12 (by decide) (hts (.fieldLink RX9 101 "RangeCodesModel" "badAt" "I") (List.mem_of_getElem? (i := 2) rfl)) (fun _ h9 => h9) rfl dX9_isBad_17 ?_
      obtain ⟨hvt, hvf⟩ := hv
      refine lv_icmp_ne (tgt := 41) hx hb dX9_isBad_20 (by decide) (fun hc => ?_) (fun hc => ?_)
      · have hv := hvt hc
        have hP9 := hP.sub (ws' := [(qM, .inr (9, [.int (F 0), .ref q1, .ref q2, .ref q3, .int (F 4), .int (F 5), .int (F 6), .int (F 7), .int (F 8), .int (F 9), .long (J 10), .int (F 11), .int (F 12), .int (F 13), .ref q4, .int (F 15), .ref q5, .ref q6, .ref q7, .int (F 19), .ref q8, .int (F 21), .int (F 22), .int (F 23), .int (F 24), .ref q9, .ref q10, .ref q11, .long (J 28)]))]) [0] rfl
        have hD9 := hD.sub (ws' := [(qM, .inr (9, [.int (F 0), .ref q1, .ref q2, .ref q3, .int (F 4), .int (F 5), .int (F 6), .int (F 7), .int (F 8), .int (F 9), .long (J 10), .int (F 11), .int (F 12), .int (F 13), .ref q4, .int (F 15), .ref q5, .ref q6, .ref q7, .int (F 19), .ref q8, .int (F 21), .int (F 22), .int (F 23), .int (F 24), .ref q9, .ref q10, .ref q11, .long (J 28)]))]) [0] (by decide) rfl
        exact W.vret hx hb hr (fun t ht hW => ⟨⟨(F), rfl, hv, by rw [ht]; exact hP9, hD9⟩, hS.F ht⟩) hS.2.2 dX9_isBad_41
      · have hv := hvf hc
        refine lv_iload_n hx hb dX9_isBad_23 rfl (lv_at hl 1 rfl) ?_
        refine lv_aload_n hx hb dX9_isBad_24 rfl (lv_at hl 0 rfl) ?_
        refine va_get (D := g.1) (ci := 9) (v := .int (F 13)) (C := RX9) (T := TX9) (N := 29) hx hb hts inX9_isBad_9 hown hK hP 0 rfl rfl 13 (by decide) (hts (.fieldLink RX9 98 "RangeCodesModel" "bad" "I") (List.mem_of_getElem? (i := 1) rfl)) (fun _ h9 => h9) rfl dX9_isBad_25 ?_
        obtain ⟨hvt, hvf⟩ := hv
        refine lv_icmp_ge (tgt := 41) hx hb dX9_isBad_28 (by decide) (fun hc => ?_) (fun hc => ?_)
        · have hv := hvt hc
          have hP9 := hP.sub (ws' := [(qM, .inr (9, [.int (F 0), .ref q1, .ref q2, .ref q3, .int (F 4), .int (F 5), .int (F 6), .int (F 7), .int (F 8), .int (F 9), .long (J 10), .int (F 11), .int (F 12), .int (F 13), .ref q4, .int (F 15), .ref q5, .ref q6, .ref q7, .int (F 19), .ref q8, .int (F 21), .int (F 22), .int (F 23), .int (F 24), .ref q9, .ref q10, .ref q11, .long (J 28)]))]) [0] rfl
          have hD9 := hD.sub (ws' := [(qM, .inr (9, [.int (F 0), .ref q1, .ref q2, .ref q3, .int (F 4), .int (F 5), .int (F 6), .int (F 7), .int (F 8), .int (F 9), .long (J 10), .int (F 11), .int (F 12), .int (F 13), .ref q4, .int (F 15), .ref q5, .ref q6, .ref q7, .int (F 19), .ref q8, .int (F 21), .int (F 22), .int (F 23), .int (F 24), .ref q9, .ref q10, .ref q11, .long (J 28)]))]) [0] (by decide) rfl
          exact W.vret hx hb hr (fun t ht hW => ⟨⟨(F), rfl, hv, by rw [ht]; exact hP9, hD9⟩, hS.F ht⟩) hS.2.2 dX9_isBad_41
        · have hv := hvf hc
          refine lv_aload_n hx hb dX9_isBad_31 rfl (lv_at hl 0 rfl) ?_
          refine lv_iload_n hx hb dX9_isBad_32 rfl (lv_at hl 1 rfl) ?_
          refine va_put (D := g.1) (ci := 9) (v := .int p1) (ty := .int) (C := RX9) (T := TX9) (N := 29) hx hb hts inX9_isBad_9 tyX9 tyX9_ok nmX9 hown hK hP hD hS 0 rfl rfl 13 (by decide) (hts (.fieldLink RX9 98 "RangeCodesModel" "bad" "I") (List.mem_of_getElem? (i := 1) rfl)) (fun _ h9 => h9) rfl (by decide +kernel) rfl rfl (Nat.le_of_ble_eq_true rfl) dX9_isBad_33 (fun H locs hP hD hS => ?_)
          have hP : va_P g.1 vwCl [(qM, .inr (9, [.int (F 0), .ref q1, .ref q2, .ref q3, .int (F 4), .int (F 5), .int (F 6), .int (F 7), .int (F 8), .int (F 9), .long (J 10), .int (F 11), .int (F 12), .int p1, .ref q4, .int (F 15), .ref q5, .ref q6, .ref q7, .int (F 19), .ref q8, .int (F 21), .int (F 22), .int (F 23), .int (F 24), .ref q9, .ref q10, .ref q11, .long (J 28)]))] H := hP
          have hD : va_D A [(qM, .inr (9, [.int (F 0), .ref q1, .ref q2, .ref q3, .int (F 4), .int (F 5), .int (F 6), .int (F 7), .int (F 8), .int (F 9), .long (J 10), .int (F 11), .int (F 12), .int p1, .ref q4, .int (F 15), .ref q5, .ref q6, .ref q7, .int (F 19), .ref q8, .int (F 21), .int (F 22), .int (F 23), .int (F 24), .ref q9, .ref q10, .ref q11, .long (J 28)]))] := hD
          refine lv_aload_n hx hb dX9_isBad_36 rfl (lv_at hl 0 rfl) ?_
          refine lv_iload_n hx hb dX9_isBad_37 rfl (lv_at hl 2 rfl) ?_
          refine va_put (D := g.1) (ci := 9) (v := .int p2) (ty := .int) (C := RX9) (T := TX9) (N := 29) hx hb hts inX9_isBad_9 tyX9 tyX9_ok nmX9 hown hK hP hD hS 0 rfl rfl 12 (by decide) (hts (.fieldLink RX9 101 "RangeCodesModel" "badAt" "I") (List.mem_of_getElem? (i := 2) rfl)) (fun _ h9 => h9) rfl (by decide +kernel) rfl rfl (Nat.le_of_ble_eq_true rfl) dX9_isBad_38 (fun H locs hP hD hS => ?_)
          have hP : va_P g.1 vwCl [(qM, .inr (9, [.int (F 0), .ref q1, .ref q2, .ref q3, .int (F 4), .int (F 5), .int (F 6), .int (F 7), .int (F 8), .int (F 9), .long (J 10), .int (F 11), .int p2, .int p1, .ref q4, .int (F 15), .ref q5, .ref q6, .ref q7, .int (F 19), .ref q8, .int (F 21), .int (F 22), .int (F 23), .int (F 24), .ref q9, .ref q10, .ref q11, .long (J 28)]))] H := hP
          have hD : va_D A [(qM, .inr (9, [.int (F 0), .ref q1, .ref q2, .ref q3, .int (F 4), .int (F 5), .int (F 6), .int (F 7), .int (F 8), .int (F 9), .long (J 10), .int (F 11), .int p2, .int p1, .ref q4, .int (F 15), .ref q5, .ref q6, .ref q7, .int (F 19), .ref q8, .int (F 21), .int (F 22), .int (F 23), .int (F 24), .ref q9, .ref q10, .ref q11, .long (J 28)]))] := hD
          have hP9 := hP.sub (ws' := [(qM, .inr (9, [.int ((upd (upd F 12 p2) 13 p1) 0), .ref q1, .ref q2, .ref q3, .int ((upd (upd F 12 p2) 13 p1) 4), .int ((upd (upd F 12 p2) 13 p1) 5), .int ((upd (upd F 12 p2) 13 p1) 6), .int ((upd (upd F 12 p2) 13 p1) 7), .int ((upd (upd F 12 p2) 13 p1) 8), .int ((upd (upd F 12 p2) 13 p1) 9), .long (J 10), .int ((upd (upd F 12 p2) 13 p1) 11), .int ((upd (upd F 12 p2) 13 p1) 12), .int ((upd (upd F 12 p2) 13 p1) 13), .ref q4, .int ((upd (upd F 12 p2) 13 p1) 15), .ref q5, .ref q6, .ref q7, .int ((upd (upd F 12 p2) 13 p1) 19), .ref q8, .int ((upd (upd F 12 p2) 13 p1) 21), .int ((upd (upd F 12 p2) 13 p1) 22), .int ((upd (upd F 12 p2) 13 p1) 23), .int ((upd (upd F 12 p2) 13 p1) 24), .ref q9, .ref q10, .ref q11, .long (J 28)]))]) [0] rfl
          have hD9 := hD.sub (ws' := [(qM, .inr (9, [.int ((upd (upd F 12 p2) 13 p1) 0), .ref q1, .ref q2, .ref q3, .int ((upd (upd F 12 p2) 13 p1) 4), .int ((upd (upd F 12 p2) 13 p1) 5), .int ((upd (upd F 12 p2) 13 p1) 6), .int ((upd (upd F 12 p2) 13 p1) 7), .int ((upd (upd F 12 p2) 13 p1) 8), .int ((upd (upd F 12 p2) 13 p1) 9), .long (J 10), .int ((upd (upd F 12 p2) 13 p1) 11), .int ((upd (upd F 12 p2) 13 p1) 12), .int ((upd (upd F 12 p2) 13 p1) 13), .ref q4, .int ((upd (upd F 12 p2) 13 p1) 15), .ref q5, .ref q6, .ref q7, .int ((upd (upd F 12 p2) 13 p1) 19), .ref q8, .int ((upd (upd F 12 p2) 13 p1) 21), .int ((upd (upd F 12 p2) 13 p1) 22), .int ((upd (upd F 12 p2) 13 p1) 23), .int ((upd (upd F 12 p2) 13 p1) 24), .ref q9, .ref q10, .ref q11, .long (J 28)]))]) [0] (by decide) rfl
          exact W.vret hx hb hr (fun t ht hW => ⟨⟨((upd (upd F 12 p2) 13 p1)), rfl, hv, by rw [ht]; exact hP9, hD9⟩, hS.F ht⟩) hS.2.2 dX9_isBad_41
def fm (F : Nat → Int32) : Ft := ((F 13).toInt, (F 12).toInt)
def flB (f : Ft) (p : Nat) : Prop := f.1 ≠ 0 → f.2 < (p : Int)
abbrev preX9_isBad (f : Int × Int) (F : Nat → Int32) (J : Nat → Int64) (p1 : Int32) (p2 : Int32) : Prop := fm F = f ∧ flB f p2.toInt.toNat ∧ 0 ≤ p2.toInt
abbrev postX9_isBad (f : Int × Int) (F : Nat → Int32) (J : Nat → Int64) (p1 : Int32) (p2 : Int32) (F' : Nat → Int32) : Prop := fm F' = noF f p1.toInt p2.toInt.toNat ∧ ∀ k, k ≠ 12 → k ≠ 13 → F' k = F k
theorem sX9_isBad (f : Int × Int) (F : Nat → Int32) (J : Nat → Int64) (p1 : Int32) (p2 : Int32) (H : preX9_isBad f F J p1 p2) : vX9_isBad F J p1 p2 (postX9_isBad f F J p1 p2) := by
  obtain ⟨rfl, h2, h3⟩ := H
  unfold vX9_isBad postX9_isBad noF
  rw [fa_eq (F 13), z0]
  have kp : ∀ k, k ≠ 12 → k ≠ 13 → upd (upd F 12 p2) 13 p1 k = F k := fun k h1 h2 => by rw [upd_ne h2, upd_ne h1]
  refine ⟨fun c => ⟨?_, kp⟩, fun c => ?_⟩
  · rw [if_pos (show (fm F).1 = 0 from c)]
    show (p1.toInt, p2.toInt) = (p1.toInt, ((p2.toInt.toNat : Nat) : Int))
    rw [Int.toNat_of_nonneg h3]
  · rw [if_neg (show ¬ (fm F).1 = 0 from c)]
    have h := h2 c
    have h : (F 12).toInt < ((p2.toInt.toNat : Nat) : Int) := h
    rw [fa_lt p2, fa_eq p2]
    exact ⟨fun q => absurd q (by omega), fun _ => ⟨fun _ => ⟨rfl, fun _ _ _ => rfl⟩, fun q => absurd q (by omega)⟩⟩
set_option maxRecDepth 20000 in
theorem ggX9_takes_X9_fails : GoodIn wsX9_takes wsX9_fails := goodIn_r _ [9, 4, 10, 33, 34, 35, 36, 37, 38, 39, 40, 41, 42, 43, 44, 45, 46, 47, 48, 49, 50, 51, 52, 53, 54, 55, 56, 57, 58, 59, 60, 61] (by decide +kernel) (by decide +kernel)
set_option maxRecDepth 20000 in
theorem gX9_takes_X9_fails : GoodIn wsX9_takes (wsV RX9 104 RX9 yX9_fails wsX9_fails) := goodIn_app (goodIn_of _ (by decide +kernel)) ggX9_takes_X9_fails
set_option maxRecDepth 20000 in
theorem ggX9_takes_X9_in : GoodIn wsX9_takes wsX9_in := goodIn_r _ [13] (by decide +kernel) (by decide +kernel)
set_option maxRecDepth 20000 in
theorem gX9_takes_X9_in : GoodIn wsX9_takes (va_wsS RX9 63 yX9_in wsX9_in) := goodIn_app (goodIn_of _ (by decide +kernel)) ggX9_takes_X9_in
set_option maxRecDepth 20000 in
theorem ggX9_takes_X9_isBad : GoodIn wsX9_takes wsX9_isBad := goodIn_r _ [17, 18, 19, 33, 34, 35, 36, 37, 38, 39, 40, 41, 42, 43, 44, 45, 46, 47, 48, 49, 50, 51, 52, 53, 54, 55, 56, 57, 58, 59, 60, 61] (by decide +kernel) (by decide +kernel)
set_option maxRecDepth 20000 in
theorem gX9_takes_X9_isBad : GoodIn wsX9_takes (wsV RX9 111 RX9 yX9_isBad wsX9_isBad) := goodIn_app (goodIn_of _ (by decide +kernel)) ggX9_takes_X9_isBad
set_option maxRecDepth 20000 in
theorem ggX9_takes_X9_token : GoodIn wsX9_takes wsX9_token := goodIn_r _ [23, 24, 4, 25, 1, 26, 2, 27, 28, 29, 8, 30, 31, 32, 11, 12, 13, 33, 34, 35, 36, 37, 38, 39, 40, 41, 42, 43, 44, 45, 46, 47, 48, 49, 50, 51, 52, 53, 54, 55, 56, 57, 58, 59, 60, 61] (by decide +kernel) (by decide +kernel)
set_option maxRecDepth 20000 in
theorem gX9_takes_X9_token : GoodIn wsX9_takes (wsV RX9 115 RX9 yX9_token wsX9_token) := goodIn_app (goodIn_of _ (by decide +kernel)) ggX9_takes_X9_token
theorem dX9_takes_0 : decode cX9_takes 0 = .ok (.aload_n 0, 1) := by decide +kernel
theorem dX9_takes_1 : decode cX9_takes 1 = .ok (.getfield 86, 3) := by decide +kernel
theorem dX9_takes_4 : decode cX9_takes 4 = .ok (.iconst 3, 1) := by decide +kernel
theorem dX9_takes_5 : decode cX9_takes 5 = .ok (.if_icmp .eq 8, 3) := by decide +kernel
theorem dX9_takes_8 : decode cX9_takes 8 = .ok (.aload_n 0, 1) := by decide +kernel
theorem dX9_takes_9 : decode cX9_takes 9 = .ok (.invokevirtual 104, 3) := by decide +kernel
theorem dX9_takes_12 : decode cX9_takes 12 = .ok (.ireturn, 1) := by decide +kernel
theorem dX9_takes_13 : decode cX9_takes 13 = .ok (.aload_n 0, 1) := by decide +kernel
theorem dX9_takes_14 : decode cX9_takes 14 = .ok (.aload_n 0, 1) := by decide +kernel
theorem dX9_takes_15 : decode cX9_takes 15 = .ok (.getfield 92, 3) := by decide +kernel
theorem dX9_takes_18 : decode cX9_takes 18 = .ok (.putfield 108, 3) := by decide +kernel
theorem dX9_takes_21 : decode cX9_takes 21 = .ok (.aload_n 0, 1) := by decide +kernel
theorem dX9_takes_22 : decode cX9_takes 22 = .ok (.getfield 92, 3) := by decide +kernel
theorem dX9_takes_25 : decode cX9_takes 25 = .ok (.iload_n 1, 1) := by decide +kernel
theorem dX9_takes_26 : decode cX9_takes 26 = .ok (.iload_n 2, 1) := by decide +kernel
theorem dX9_takes_27 : decode cX9_takes 27 = .ok (.invokestatic 63, 3) := by decide +kernel
theorem dX9_takes_30 : decode cX9_takes 30 = .ok (.ifCond .ne 12, 3) := by decide +kernel
theorem dX9_takes_33 : decode cX9_takes 33 = .ok (.aload_n 0, 1) := by decide +kernel
theorem dX9_takes_34 : decode cX9_takes 34 = .ok (.iconst 2, 1) := by decide +kernel
theorem dX9_takes_35 : decode cX9_takes 35 = .ok (.aload_n 0, 1) := by decide +kernel
theorem dX9_takes_36 : decode cX9_takes 36 = .ok (.getfield 79, 3) := by decide +kernel
theorem dX9_takes_39 : decode cX9_takes 39 = .ok (.invokevirtual 111, 3) := by decide +kernel
theorem dX9_takes_42 : decode cX9_takes 42 = .ok (.aload_n 0, 1) := by decide +kernel
theorem dX9_takes_43 : decode cX9_takes 43 = .ok (.invokevirtual 115, 3) := by decide +kernel
theorem dX9_takes_46 : decode cX9_takes 46 = .ok (.iconst 1, 1) := by decide +kernel
theorem dX9_takes_47 : decode cX9_takes 47 = .ok (.ireturn, 1) := by decide +kernel
abbrev rmX9_takes : Room := { frames := 2, cells := 0, slots := 0, locals := 44 }
theorem inX9_takes_9 : ∀ w ∈ wsX90, w ∈ wsX9_takes := by decide +kernel
def vX9_takes (F : Nat → Int32) (J : Nat → Int64) (tx : Nat → Int32) (p1 : Int32) (p2 : Int32) (Q : Int32 → (Nat → Int32) → (Nat → Int64) → Prop) : Prop := (((F 7) = (3 : Int32) → (preX9_in (F 8) p1 p2 ∧ (∀ r_27 : Int32, postX9_in (F 8) p1 p2 r_27 → ((¬ r_27 = 0 → (∃ (b_43 : Nat → Int32) (nb_43 : Nat) (i_43 : Nat), preX9_token b_43 nb_43 i_43 (upd F 15 (F 8)) J tx ∧ (∀ (F_43 : Nat → Int32) (J_43 : Nat → Int64), postX9_token b_43 nb_43 i_43 (upd F 15 (F 8)) J tx F_43 J_43 → (Q (1 : Int32) F_43 J_43)))) ∧ (r_27 = 0 → (∃ (f_39 : Int × Int), preX9_isBad f_39 (upd F 15 (F 8)) J (2 : Int32) (F 6) ∧ (∀ (F_39 : Nat → Int32), postX9_isBad f_39 (upd F 15 (F 8)) J (2 : Int32) (F 6) F_39 → (∃ (b_43 : Nat → Int32) (nb_43 : Nat) (i_43 : Nat), preX9_token b_43 nb_43 i_43 F_39 J tx ∧ (∀ (F_43 : Nat → Int32) (J_43 : Nat → Int64), postX9_token b_43 nb_43 i_43 F_39 J tx F_43 J_43 → (Q (1 : Int32) F_43 J_43)))))))))) ∧ (¬ (F 7) = (3 : Int32) → (preX9_fails F J ∧ (∀ (r_9 : Int32) (F_9 : Nat → Int32), postX9_fails F J r_9 F_9 → (narrow .boolean (.int r_9) = .int r_9 ∧ (Q r_9 F_9 J))))))
set_option maxHeartbeats 4000000 in
set_option maxRecDepth 100000 in
theorem wX9_takes (l : Launch) (g : GP) (qM : Nat) (q1 : Nat) (q2 : Nat) (q3 : Nat) (q4 : Nat) (q5 : Nat) (q6 : Nat) (q7 : Nat) (q8 : Nat) (q9 : Nat) (q10 : Nat) (q11 : Nat) (sz : Nat) (F : Nat → Int32) (J : Nat → Int64) (tx : Nat → Int32) (p1 : Int32) (p2 : Int32) {Q : Int32 → (Nat → Int32) → (Nat → Int64) → Prop} (hv : vX9_takes F J tx p1 p2 Q) : Met l yX9_takes wsX9_takes rmX9_takes (va_Pc [.ref qM, .int p1, .int p2] (fun U => U.heap.size = sz ∧ va_P g.1 vwCl [(qM, .inr (9, [.int (F 0), .ref q1, .ref q2, .ref q3, .int (F 4), .int (F 5), .int (F 6), .int (F 7), .int (F 8), .int (F 9), .long (J 10), .int (F 11), .int (F 12), .int (F 13), .ref q4, .int (F 15), .ref q5, .ref q6, .ref q7, .int (F 19), .ref q8, .int (F 21), .int (F 22), .int (F 23), .int (F 24), .ref q9, .ref q10, .ref q11, .long (J 28)])), (q2, .inl (g.2 1, 2000, .inl tx))] U.heap ∧ GK g U ∧ va_D (fun _ => True) [(qM, .inr (9, [.int (F 0), .ref q1, .ref q2, .ref q3, .int (F 4), .int (F 5), .int (F 6), .int (F 7), .int (F 8), .int (F 9), .long (J 10), .int (F 11), .int (F 12), .int (F 13), .ref q4, .int (F 15), .ref q5, .ref q6, .ref q7, .int (F 19), .ref q8, .int (F 21), .int (F 22), .int (F 23), .int (F 24), .ref q9, .ref q10, .ref q11, .long (J 28)])), (q2, .inl (g.2 1, 2000, .inl tx))])) (va_Qi (fun (r : Int32) (u : (Nat → Int32) × (Nat → Int64)) => Q r u.1 u.2) (fun (u : (Nat → Int32) × (Nat → Int64)) t => va_P g.1 vwCl [(qM, .inr (9, [.int (u.1 0), .ref q1, .ref q2, .ref q3, .int (u.1 4), .int (u.1 5), .int (u.1 6), .int (u.1 7), .int (u.1 8), .int (u.1 9), .long (u.2 10), .int (u.1 11), .int (u.1 12), .int (u.1 13), .ref q4, .int (u.1 15), .ref q5, .ref q6, .ref q7, .int (u.1 19), .ref q8, .int (u.1 21), .int (u.1 22), .int (u.1 23), .int (u.1 24), .ref q9, .ref q10, .ref q11, .long (u.2 28)])), (q2, .inl (g.2 1, 2000, .inl tx))] t.heap ∧ va_D (va_A [(qM, .inr (9, [.int (F 0), .ref q1, .ref q2, .ref q3, .int (F 4), .int (F 5), .int (F 6), .int (F 7), .int (F 8), .int (F 9), .long (J 10), .int (F 11), .int (F 12), .int (F 13), .ref q4, .int (F 15), .ref q5, .ref q6, .ref q7, .int (F 19), .ref q8, .int (F 21), .int (F 22), .int (F 23), .int (F 24), .ref q9, .ref q10, .ref q11, .long (J 28)])), (q2, .inl (g.2 1, 2000, .inl tx))] sz) [(qM, .inr (9, [.int (u.1 0), .ref q1, .ref q2, .ref q3, .int (u.1 4), .int (u.1 5), .int (u.1 6), .int (u.1 7), .int (u.1 8), .int (u.1 9), .long (u.2 10), .int (u.1 11), .int (u.1 12), .int (u.1 13), .ref q4, .int (u.1 15), .ref q5, .ref q6, .ref q7, .int (u.1 19), .ref q8, .int (u.1 21), .int (u.1 22), .int (u.1 23), .int (u.1 24), .ref q9, .ref q10, .ref q11, .long (u.2 28)])), (q2, .inl (g.2 1, 2000, .inl tx))]) (va_A [(qM, .inr (9, [.int (F 0), .ref q1, .ref q2, .ref q3, .int (F 4), .int (F 5), .int (F 6), .int (F 7), .int (F 8), .int (F 9), .long (J 10), .int (F 11), .int (F 12), .int (F 13), .ref q4, .int (F 15), .ref q5, .ref q6, .ref q7, .int (F 19), .ref q8, .int (F 21), .int (F 22), .int (F 23), .int (F 24), .ref q9, .ref q10, .ref q11, .long (J 28)])), (q2, .inl (g.2 1, 2000, .inl tx))] sz)) 0 0 (va_A [(qM, .inr (9, [.int (F 0), .ref q1, .ref q2, .ref q3, .int (F 4), .int (F 5), .int (F 6), .int (F 7), .int (F 8), .int (F 9), .long (J 10), .int (F 11), .int (F 12), .int (F 13), .ref q4, .int (F 15), .ref q5, .ref q6, .ref q7, .int (F 19), .ref q8, .int (F 21), .int (F 22), .int (F 23), .int (F 24), .ref q9, .ref q10, .ref q11, .long (J 28)])), (q2, .inl (g.2 1, 2000, .inl tx))] sz) := by
  refine Met.ofW (cc := cX9_takes) (maxL := 3) (ret := (some .boolean)) (by decide) rfl ?_
  intro p e s m args below meth c s₁ B hml hv'
  obtain ⟨rfl, hsz, hP, hG, hD0⟩ := hv'
  have S : CallFix p m c cX9_takes 3 s _ wsX9_takes RX9 := ⟨B.exec, B.bytes, hml, findClass_of_methodNamed B.named, atoms_spec (ws := wsX9_takes) B.pre⟩
  obtain ⟨hx, hb, hml, hown, hts⟩ := id S
  have hK := hG.1
  have hr := B.returns
  have hlocks := B.notSynchronized
  subst hsz
  have hD := hD0.self (sz := s.heap.size)
  generalize hAe : va_A [(qM, .inr (9, [.int (F 0), .ref q1, .ref q2, .ref q3, .int (F 4), .int (F 5), .int (F 6), .int (F 7), .int (F 8), .int (F 9), .long (J 10), .int (F 11), .int (F 12), .int (F 13), .ref q4, .int (F 15), .ref q5, .ref q6, .ref q7, .int (F 19), .ref q8, .int (F 21), .int (F 22), .int (F 23), .int (F 24), .ref q9, .ref q10, .ref q11, .long (J 28)])), (q2, .inl (g.2 1, 2000, .inl tx))] s.heap.size = A at hD ⊢
  have hA : ∀ q : Nat, s.heap.size ≤ q → A q := fun q h => by rw [← hAe]; exact Or.inr h
  have hS : va_S A s.heap s.heap [] := va_S.rf
  clear hD0 hAe
  have hl := lv_entry ([.ref qM, .int p1, .int p2]) (n := 3) (Nat.le_of_ble_eq_true rfl)
  rw [lg_entry_eq]
  generalize (lg_sl ([.ref qM, .int p1, .int p2]) ++ List.replicate (3 - (lg_sl ([.ref qM, .int p1, .int p2])).length) Slot.unset).toArray = ls at hl ⊢
  have hl : lv_has ls 3 [(0, .ref qM), (1, .int p1), (2, .int p2)] := hl
  unfold vX9_takes at hv
  refine lv_aload_n hx hb dX9_takes_0 rfl (lv_at hl 0 rfl) ?_
  refine va_get (D := g.1) (ci := 9) (v := .int (F 7)) (C := RX9) (T := TX9) (N := 29) hx hb hts inX9_takes_9 hown hK hP 0 rfl rfl 7 (by decide) (hts (.fieldLink RX9 86 "RangeCodesModel" "sort" "I") (List.mem_of_getElem? (i := 1) rfl)) (fun _ h9 => h9) rfl dX9_takes_1 ?_
  refine lv_iconst (v := (3 : Int32)) hx hb dX9_takes_4 (by decide) ?_
  obtain ⟨hvt, hvf⟩ := hv
  refine lv_icmp_eq (tgt := 13) hx hb dX9_takes_5 (by decide) (fun hc => ?_) (fun hc => ?_)
  · have hv := hvt hc
    refine lv_aload_n hx hb dX9_takes_13 rfl (lv_at hl 0 rfl) ?_
    refine lv_aload_n hx hb dX9_takes_14 rfl (lv_at hl 0 rfl) ?_
    refine va_get (D := g.1) (ci := 9) (v := .int (F 8)) (C := RX9) (T := TX9) (N := 29) hx hb hts inX9_takes_9 hown hK hP 0 rfl rfl 8 (by decide) (hts (.fieldLink RX9 92 "RangeCodesModel" "value" "I") (List.mem_of_getElem? (i := 2) rfl)) (fun _ h9 => h9) rfl dX9_takes_15 ?_
    refine va_put (D := g.1) (ci := 9) (v := .int (F 8)) (ty := .int) (C := RX9) (T := TX9) (N := 29) hx hb hts inX9_takes_9 tyX9 tyX9_ok nmX9 hown hK hP hD hS 0 rfl rfl 15 (by decide) (hts (.fieldLink RX9 108 "RangeCodesModel" "read" "I") (List.mem_of_getElem? (i := 3) rfl)) (fun _ h9 => h9) rfl (by decide +kernel) rfl rfl (Nat.le_of_ble_eq_true rfl) dX9_takes_18 (fun H locs hP hD hS => ?_)
    have hP : va_P g.1 vwCl [(qM, .inr (9, [.int (F 0), .ref q1, .ref q2, .ref q3, .int (F 4), .int (F 5), .int (F 6), .int (F 7), .int (F 8), .int (F 9), .long (J 10), .int (F 11), .int (F 12), .int (F 13), .ref q4, .int (F 8), .ref q5, .ref q6, .ref q7, .int (F 19), .ref q8, .int (F 21), .int (F 22), .int (F 23), .int (F 24), .ref q9, .ref q10, .ref q11, .long (J 28)])), (q2, .inl (g.2 1, 2000, .inl tx))] H := hP
    have hD : va_D A [(qM, .inr (9, [.int (F 0), .ref q1, .ref q2, .ref q3, .int (F 4), .int (F 5), .int (F 6), .int (F 7), .int (F 8), .int (F 9), .long (J 10), .int (F 11), .int (F 12), .int (F 13), .ref q4, .int (F 8), .ref q5, .ref q6, .ref q7, .int (F 19), .ref q8, .int (F 21), .int (F 22), .int (F 23), .int (F 24), .ref q9, .ref q10, .ref q11, .long (J 28)])), (q2, .inl (g.2 1, 2000, .inl tx))] := hD
    refine lv_aload_n hx hb dX9_takes_21 rfl (lv_at hl 0 rfl) ?_
    refine va_get (D := g.1) (ci := 9) (v := .int (F 8)) (C := RX9) (T := TX9) (N := 29) hx hb hts inX9_takes_9 hown hK hP 0 rfl rfl 8 (by decide) (hts (.fieldLink RX9 92 "RangeCodesModel" "value" "I") (List.mem_of_getElem? (i := 2) rfl)) (fun _ h9 => h9) rfl dX9_takes_22 ?_
    refine lv_iload_n hx hb dX9_takes_25 rfl (lv_at hl 1 rfl) ?_
    refine lv_iload_n hx hb dX9_takes_26 rfl (lv_at hl 2 rfl) ?_
    obtain ⟨ho_1, hv⟩ := hv
    refine vp_callSi (W.runS (As := [.int (F 8), .int p1, .int p2]) (rest := []) S (wX9_in l g (F 8) p1 p2 (sX9_in (F 8) p1 p2 ho_1)) (va_cwS 3 hts gX9_takes_X9_in rfl rfl rfl (by decide +kernel) ⟨Nat.le_of_ble_eq_true rfl, Nat.le_of_ble_eq_true rfl⟩) ⟨blindRO, fun U hU hW => ⟨rfl, by rw [hU]; exact hP.sub (ws' := []) [] rfl, hG.warm hW⟩⟩ rfl rfl hl.1 rfl (lv_room (Nat.le_of_ble_eq_true rfl)) dX9_takes_27 ⟨Nat.le_of_ble_eq_true rfl, Nat.le_of_ble_eq_true rfl⟩) (fun r_27 hr_27 => ?_)
    have hv := hv r_27 hr_27
    obtain ⟨hvt, hvf⟩ := hv
    refine lv_if_ne (tgt := 42) hx hb dX9_takes_30 (by decide) (fun hc => ?_) (fun hc => ?_)
    · have hv := hvt hc
      refine lv_aload_n hx hb dX9_takes_42 rfl (lv_at hl 0 rfl) ?_
      obtain ⟨b_43, nb_43, i_43, ho_2, hv⟩ := hv
      have hPc := hP.sub (ws' := [(qM, .inr (9, [.int ((upd F 15 (F 8)) 0), .ref q1, .ref q2, .ref q3, .int ((upd F 15 (F 8)) 4), .int ((upd F 15 (F 8)) 5), .int ((upd F 15 (F 8)) 6), .int ((upd F 15 (F 8)) 7), .int ((upd F 15 (F 8)) 8), .int ((upd F 15 (F 8)) 9), .long (J 10), .int ((upd F 15 (F 8)) 11), .int ((upd F 15 (F 8)) 12), .int ((upd F 15 (F 8)) 13), .ref q4, .int ((upd F 15 (F 8)) 15), .ref q5, .ref q6, .ref q7, .int ((upd F 15 (F 8)) 19), .ref q8, .int ((upd F 15 (F 8)) 21), .int ((upd F 15 (F 8)) 22), .int ((upd F 15 (F 8)) 23), .int ((upd F 15 (F 8)) 24), .ref q9, .ref q10, .ref q11, .long (J 28)])), (q2, .inl (g.2 1, 2000, .inl tx))]) [0, 1] rfl
      have hDc := hD.sub (ws' := [(qM, .inr (9, [.int ((upd F 15 (F 8)) 0), .ref q1, .ref q2, .ref q3, .int ((upd F 15 (F 8)) 4), .int ((upd F 15 (F 8)) 5), .int ((upd F 15 (F 8)) 6), .int ((upd F 15 (F 8)) 7), .int ((upd F 15 (F 8)) 8), .int ((upd F 15 (F 8)) 9), .long (J 10), .int ((upd F 15 (F 8)) 11), .int ((upd F 15 (F 8)) 12), .int ((upd F 15 (F 8)) 13), .ref q4, .int ((upd F 15 (F 8)) 15), .ref q5, .ref q6, .ref q7, .int ((upd F 15 (F 8)) 19), .ref q8, .int ((upd F 15 (F 8)) 21), .int ((upd F 15 (F 8)) 22), .int ((upd F 15 (F 8)) 23), .int ((upd F 15 (F 8)) 24), .ref q9, .ref q10, .ref q11, .long (J 28)])), (q2, .inl (g.2 1, 2000, .inl tx))]) [0, 1] (by decide) rfl
      have hFc := va_free (wc := [(qM, .inr (9, [.int ((upd F 15 (F 8)) 0), .ref q1, .ref q2, .ref q3, .int ((upd F 15 (F 8)) 4), .int ((upd F 15 (F 8)) 5), .int ((upd F 15 (F 8)) 6), .int ((upd F 15 (F 8)) 7), .int ((upd F 15 (F 8)) 8), .int ((upd F 15 (F 8)) 9), .long (J 10), .int ((upd F 15 (F 8)) 11), .int ((upd F 15 (F 8)) 12), .int ((upd F 15 (F 8)) 13), .ref q4, .int ((upd F 15 (F 8)) 15), .ref q5, .ref q6, .ref q7, .int ((upd F 15 (F 8)) 19), .ref q8, .int ((upd F 15 (F 8)) 21), .int ((upd F 15 (F 8)) 22), .int ((upd F 15 (F 8)) 23), .int ((upd F 15 (F 8)) 24), .ref q9, .ref q10, .ref q11, .long (J 28)])), (q2, .inl (g.2 1, 2000, .inl tx))]) hD hS hA [0, 1] rfl
      refine va_callv (va_runV (As := []) (rest := []) S (wX9_token l g qM q1 q2 q3 q4 q5 q6 q7 q8 q9 q10 q11 H.size (upd F 15 (F 8)) J tx (sX9_token b_43 nb_43 i_43 (upd F 15 (F 8)) J tx ho_2)) (cwV 0 hts gX9_takes_X9_token rfl rfl rfl (by decide +kernel) ⟨Nat.le_of_ble_eq_true rfl, Nat.le_of_ble_eq_true rfl⟩) ⟨blindRW, va_recv hK hP (ci := 9) (q0 := 0) rfl rfl, fun U hU hW => ⟨rfl, by rw [hU], by rw [hU]; exact hPc, hG.warm hW, hDc.weaken (fun _ _ _ _ => trivial)⟩⟩ rfl rfl hl.1 rfl (lv_room (Nat.le_of_ble_eq_true rfl)) dX9_takes_43 ⟨Nat.le_of_ble_eq_true rfl, Nat.le_of_ble_eq_true rfl⟩) hS (fun q _ h => hFc q h) hFc (fun u t H1 locs ht hvm hw hB hz1 hk1 hS => ?_)
      obtain ⟨F_43, J_43⟩ := u
      obtain ⟨hP1, hD1⟩ := hB
      rw [ht] at hP1
      have hv := hv F_43 J_43 hw
      obtain ⟨hP, hD⟩ := va_join (wr := []) (w1 := [(qM, .inr (9, [.int (F_43 0), .ref q1, .ref q2, .ref q3, .int (F_43 4), .int (F_43 5), .int (F_43 6), .int (F_43 7), .int (F_43 8), .int (F_43 9), .long (J_43 10), .int (F_43 11), .int (F_43 12), .int (F_43 13), .ref q4, .int (F_43 15), .ref q5, .ref q6, .ref q7, .int (F_43 19), .ref q8, .int (F_43 21), .int (F_43 22), .int (F_43 23), .int (F_43 24), .ref q9, .ref q10, .ref q11, .long (J_43 28)])), (q2, .inl (g.2 1, 2000, .inl tx))]) hP hD [0, 1] [] rfl rfl (by decide) (by decide) hk1 hFc hP1 hD1
      clear hP1 hD1 hPc hDc hFc hk1
      generalize H1 = H at hP hS ⊢
      have hP : va_P g.1 vwCl [(qM, .inr (9, [.int (F_43 0), .ref q1, .ref q2, .ref q3, .int (F_43 4), .int (F_43 5), .int (F_43 6), .int (F_43 7), .int (F_43 8), .int (F_43 9), .long (J_43 10), .int (F_43 11), .int (F_43 12), .int (F_43 13), .ref q4, .int (F_43 15), .ref q5, .ref q6, .ref q7, .int (F_43 19), .ref q8, .int (F_43 21), .int (F_43 22), .int (F_43 23), .int (F_43 24), .ref q9, .ref q10, .ref q11, .long (J_43 28)])), (q2, .inl (g.2 1, 2000, .inl tx))] H := hP
      have hD : va_D A [(qM, .inr (9, [.int (F_43 0), .ref q1, .ref q2, .ref q3, .int (F_43 4), .int (F_43 5), .int (F_43 6), .int (F_43 7), .int (F_43 8), .int (F_43 9), .long (J_43 10), .int (F_43 11), .int (F_43 12), .int (F_43 13), .ref q4, .int (F_43 15), .ref q5, .ref q6, .ref q7, .int (F_43 19), .ref q8, .int (F_43 21), .int (F_43 22), .int (F_43 23), .int (F_43 24), .ref q9, .ref q10, .ref q11, .long (J_43 28)])), (q2, .inl (g.2 1, 2000, .inl tx))] := hD
      refine lv_iconst (v := (1 : Int32)) hx hb dX9_takes_46 (by decide) ?_
      have hP9 := hP.sub (ws' := [(qM, .inr (9, [.int (F_43 0), .ref q1, .ref q2, .ref q3, .int (F_43 4), .int (F_43 5), .int (F_43 6), .int (F_43 7), .int (F_43 8), .int (F_43 9), .long (J_43 10), .int (F_43 11), .int (F_43 12), .int (F_43 13), .ref q4, .int (F_43 15), .ref q5, .ref q6, .ref q7, .int (F_43 19), .ref q8, .int (F_43 21), .int (F_43 22), .int (F_43 23), .int (F_43 24), .ref q9, .ref q10, .ref q11, .long (J_43 28)])), (q2, .inl (g.2 1, 2000, .inl tx))]) [0, 1] rfl
      have hD9 := hD.sub (ws' := [(qM, .inr (9, [.int (F_43 0), .ref q1, .ref q2, .ref q3, .int (F_43 4), .int (F_43 5), .int (F_43 6), .int (F_43 7), .int (F_43 8), .int (F_43 9), .long (J_43 10), .int (F_43 11), .int (F_43 12), .int (F_43 13), .ref q4, .int (F_43 15), .ref q5, .ref q6, .ref q7, .int (F_43 19), .ref q8, .int (F_43 21), .int (F_43 22), .int (F_43 23), .int (F_43 24), .ref q9, .ref q10, .ref q11, .long (J_43 28)])), (q2, .inl (g.2 1, 2000, .inl tx))]) [0, 1] (by decide) rfl
      exact W.zret (v := (1 : Int32)) (ty := .boolean) hx hb hr rfl (fun t ht hW => ⟨⟨_, (F_43, J_43), rfl, hv, by rw [ht]; exact hP9, hD9⟩, hS.F ht⟩) hS.2.2 dX9_takes_47
    · have hv := hvf hc
      refine lv_aload_n hx hb dX9_takes_33 rfl (lv_at hl 0 rfl) ?_
      refine lv_iconst (v := (2 : Int32)) hx hb dX9_takes_34 (by decide) ?_
      refine lv_aload_n hx hb dX9_takes_35 rfl (lv_at hl 0 rfl) ?_
      refine va_get (D := g.1) (ci := 9) (v := .int (F 6)) (C := RX9) (T := TX9) (N := 29) hx hb hts inX9_takes_9 hown hK hP 0 rfl rfl 6 (by decide) (hts (.fieldLink RX9 79 "RangeCodesModel" "begin" "I") (List.mem_of_getElem? (i := 4) rfl)) (fun _ h9 => h9) rfl dX9_takes_36 ?_
      obtain ⟨f_39, ho_3, hv⟩ := hv
      have hPc := hP.sub (ws' := [(qM, .inr (9, [.int ((upd F 15 (F 8)) 0), .ref q1, .ref q2, .ref q3, .int ((upd F 15 (F 8)) 4), .int ((upd F 15 (F 8)) 5), .int ((upd F 15 (F 8)) 6), .int ((upd F 15 (F 8)) 7), .int ((upd F 15 (F 8)) 8), .int ((upd F 15 (F 8)) 9), .long (J 10), .int ((upd F 15 (F 8)) 11), .int ((upd F 15 (F 8)) 12), .int ((upd F 15 (F 8)) 13), .ref q4, .int ((upd F 15 (F 8)) 15), .ref q5, .ref q6, .ref q7, .int ((upd F 15 (F 8)) 19), .ref q8, .int ((upd F 15 (F 8)) 21), .int ((upd F 15 (F 8)) 22), .int ((upd F 15 (F 8)) 23), .int ((upd F 15 (F 8)) 24), .ref q9, .ref q10, .ref q11, .long (J 28)]))]) [0] rfl
      have hDc := hD.sub (ws' := [(qM, .inr (9, [.int ((upd F 15 (F 8)) 0), .ref q1, .ref q2, .ref q3, .int ((upd F 15 (F 8)) 4), .int ((upd F 15 (F 8)) 5), .int ((upd F 15 (F 8)) 6), .int ((upd F 15 (F 8)) 7), .int ((upd F 15 (F 8)) 8), .int ((upd F 15 (F 8)) 9), .long (J 10), .int ((upd F 15 (F 8)) 11), .int ((upd F 15 (F 8)) 12), .int ((upd F 15 (F 8)) 13), .ref q4, .int ((upd F 15 (F 8)) 15), .ref q5, .ref q6, .ref q7, .int ((upd F 15 (F 8)) 19), .ref q8, .int ((upd F 15 (F 8)) 21), .int ((upd F 15 (F 8)) 22), .int ((upd F 15 (F 8)) 23), .int ((upd F 15 (F 8)) 24), .ref q9, .ref q10, .ref q11, .long (J 28)]))]) [0] (by decide) rfl
      have hFc := va_free (wc := [(qM, .inr (9, [.int ((upd F 15 (F 8)) 0), .ref q1, .ref q2, .ref q3, .int ((upd F 15 (F 8)) 4), .int ((upd F 15 (F 8)) 5), .int ((upd F 15 (F 8)) 6), .int ((upd F 15 (F 8)) 7), .int ((upd F 15 (F 8)) 8), .int ((upd F 15 (F 8)) 9), .long (J 10), .int ((upd F 15 (F 8)) 11), .int ((upd F 15 (F 8)) 12), .int ((upd F 15 (F 8)) 13), .ref q4, .int ((upd F 15 (F 8)) 15), .ref q5, .ref q6, .ref q7, .int ((upd F 15 (F 8)) 19), .ref q8, .int ((upd F 15 (F 8)) 21), .int ((upd F 15 (F 8)) 22), .int ((upd F 15 (F 8)) 23), .int ((upd F 15 (F 8)) 24), .ref q9, .ref q10, .ref q11, .long (J 28)]))]) hD hS hA [0] rfl
      refine va_callv (va_runV (As := [.int (2 : Int32), .int (F 6)]) (rest := []) S (wX9_isBad l g qM q1 q2 q3 q4 q5 q6 q7 q8 q9 q10 q11 H.size (upd F 15 (F 8)) J (2 : Int32) (F 6) (sX9_isBad f_39 (upd F 15 (F 8)) J (2 : Int32) (F 6) ho_3)) (cwV 2 hts gX9_takes_X9_isBad rfl rfl rfl (by decide +kernel) ⟨Nat.le_of_ble_eq_true rfl, Nat.le_of_ble_eq_true rfl⟩) ⟨blindRW, va_recv hK hP (ci := 9) (q0 := 0) rfl rfl, fun U hU hW => ⟨rfl, by rw [hU], by rw [hU]; exact hPc, hG.warm hW, hDc.weaken (fun _ _ _ _ => trivial)⟩⟩ rfl rfl hl.1 rfl (lv_room (Nat.le_of_ble_eq_true rfl)) dX9_takes_39 ⟨Nat.le_of_ble_eq_true rfl, Nat.le_of_ble_eq_true rfl⟩) hS (fun q _ h => hFc q h) hFc (fun u t H1 locs ht hvm hw hB hz1 hk1 hS => ?_)
      obtain ⟨F_39, rfl⟩ : ∃ z, z = u := ⟨_, rfl⟩
      obtain ⟨hP1, hD1⟩ := hB
      rw [ht] at hP1
      have hv := hv F_39 hw
      obtain ⟨hP, hD⟩ := va_join (wr := [(q2, .inl (g.2 1, 2000, .inl tx))]) (w1 := [(qM, .inr (9, [.int (F_39 0), .ref q1, .ref q2, .ref q3, .int (F_39 4), .int (F_39 5), .int (F_39 6), .int (F_39 7), .int (F_39 8), .int (F_39 9), .long (J 10), .int (F_39 11), .int (F_39 12), .int (F_39 13), .ref q4, .int (F_39 15), .ref q5, .ref q6, .ref q7, .int (F_39 19), .ref q8, .int (F_39 21), .int (F_39 22), .int (F_39 23), .int (F_39 24), .ref q9, .ref q10, .ref q11, .long (J 28)]))]) hP hD [0] [1] rfl rfl (by decide) (by decide) hk1 hFc hP1 hD1
      clear hP1 hD1 hPc hDc hFc hk1
      generalize H1 = H at hP hS ⊢
      have hP : va_P g.1 vwCl [(q2, .inl (g.2 1, 2000, .inl tx)), (qM, .inr (9, [.int (F_39 0), .ref q1, .ref q2, .ref q3, .int (F_39 4), .int (F_39 5), .int (F_39 6), .int (F_39 7), .int (F_39 8), .int (F_39 9), .long (J 10), .int (F_39 11), .int (F_39 12), .int (F_39 13), .ref q4, .int (F_39 15), .ref q5, .ref q6, .ref q7, .int (F_39 19), .ref q8, .int (F_39 21), .int (F_39 22), .int (F_39 23), .int (F_39 24), .ref q9, .ref q10, .ref q11, .long (J 28)]))] H := hP
      have hD : va_D A [(q2, .inl (g.2 1, 2000, .inl tx)), (qM, .inr (9, [.int (F_39 0), .ref q1, .ref q2, .ref q3, .int (F_39 4), .int (F_39 5), .int (F_39 6), .int (F_39 7), .int (F_39 8), .int (F_39 9), .long (J 10), .int (F_39 11), .int (F_39 12), .int (F_39 13), .ref q4, .int (F_39 15), .ref q5, .ref q6, .ref q7, .int (F_39 19), .ref q8, .int (F_39 21), .int (F_39 22), .int (F_39 23), .int (F_39 24), .ref q9, .ref q10, .ref q11, .long (J 28)]))] := hD
      refine lv_aload_n hx hb dX9_takes_42 rfl (lv_at hl 0 rfl) ?_
      obtain ⟨b_43, nb_43, i_43, ho_4, hv⟩ := hv
      have hPc := hP.sub (ws' := [(qM, .inr (9, [.int (F_39 0), .ref q1, .ref q2, .ref q3, .int (F_39 4), .int (F_39 5), .int (F_39 6), .int (F_39 7), .int (F_39 8), .int (F_39 9), .long (J 10), .int (F_39 11), .int (F_39 12), .int (F_39 13), .ref q4, .int (F_39 15), .ref q5, .ref q6, .ref q7, .int (F_39 19), .ref q8, .int (F_39 21), .int (F_39 22), .int (F_39 23), .int (F_39 24), .ref q9, .ref q10, .ref q11, .long (J 28)])), (q2, .inl (g.2 1, 2000, .inl tx))]) [1, 0] rfl
      have hDc := hD.sub (ws' := [(qM, .inr (9, [.int (F_39 0), .ref q1, .ref q2, .ref q3, .int (F_39 4), .int (F_39 5), .int (F_39 6), .int (F_39 7), .int (F_39 8), .int (F_39 9), .long (J 10), .int (F_39 11), .int (F_39 12), .int (F_39 13), .ref q4, .int (F_39 15), .ref q5, .ref q6, .ref q7, .int (F_39 19), .ref q8, .int (F_39 21), .int (F_39 22), .int (F_39 23), .int (F_39 24), .ref q9, .ref q10, .ref q11, .long (J 28)])), (q2, .inl (g.2 1, 2000, .inl tx))]) [1, 0] (by decide) rfl
      have hFc := va_free (wc := [(qM, .inr (9, [.int (F_39 0), .ref q1, .ref q2, .ref q3, .int (F_39 4), .int (F_39 5), .int (F_39 6), .int (F_39 7), .int (F_39 8), .int (F_39 9), .long (J 10), .int (F_39 11), .int (F_39 12), .int (F_39 13), .ref q4, .int (F_39 15), .ref q5, .ref q6, .ref q7, .int (F_39 19), .ref q8, .int (F_39 21), .int (F_39 22), .int (F_39 23), .int (F_39 24), .ref q9, .ref q10, .ref q11, .long (J 28)])), (q2, .inl (g.2 1, 2000, .inl tx))]) hD hS hA [1, 0] rfl
      refine va_callv (va_runV (As := []) (rest := []) S (wX9_token l g qM q1 q2 q3 q4 q5 q6 q7 q8 q9 q10 q11 H.size F_39 J tx (sX9_token b_43 nb_43 i_43 F_39 J tx ho_4)) (cwV 0 hts gX9_takes_X9_token rfl rfl rfl (by decide +kernel) ⟨Nat.le_of_ble_eq_true rfl, Nat.le_of_ble_eq_true rfl⟩) ⟨blindRW, va_recv hK hP (ci := 9) (q0 := 1) rfl rfl, fun U hU hW => ⟨rfl, by rw [hU], by rw [hU]; exact hPc, hG.warm hW, hDc.weaken (fun _ _ _ _ => trivial)⟩⟩ rfl rfl hl.1 rfl (lv_room (Nat.le_of_ble_eq_true rfl)) dX9_takes_43 ⟨Nat.le_of_ble_eq_true rfl, Nat.le_of_ble_eq_true rfl⟩) hS (fun q _ h => hFc q h) hFc (fun u t H1 locs ht hvm hw hB hz1 hk1 hS => ?_)
      obtain ⟨F_43, J_43⟩ := u
      obtain ⟨hP1, hD1⟩ := hB
      rw [ht] at hP1
      have hv := hv F_43 J_43 hw
      obtain ⟨hP, hD⟩ := va_join (wr := []) (w1 := [(qM, .inr (9, [.int (F_43 0), .ref q1, .ref q2, .ref q3, .int (F_43 4), .int (F_43 5), .int (F_43 6), .int (F_43 7), .int (F_43 8), .int (F_43 9), .long (J_43 10), .int (F_43 11), .int (F_43 12), .int (F_43 13), .ref q4, .int (F_43 15), .ref q5, .ref q6, .ref q7, .int (F_43 19), .ref q8, .int (F_43 21), .int (F_43 22), .int (F_43 23), .int (F_43 24), .ref q9, .ref q10, .ref q11, .long (J_43 28)])), (q2, .inl (g.2 1, 2000, .inl tx))]) hP hD [1, 0] [] rfl rfl (by decide) (by decide) hk1 hFc hP1 hD1
      clear hP1 hD1 hPc hDc hFc hk1
      generalize H1 = H at hP hS ⊢
      have hP : va_P g.1 vwCl [(qM, .inr (9, [.int (F_43 0), .ref q1, .ref q2, .ref q3, .int (F_43 4), .int (F_43 5), .int (F_43 6), .int (F_43 7), .int (F_43 8), .int (F_43 9), .long (J_43 10), .int (F_43 11), .int (F_43 12), .int (F_43 13), .ref q4, .int (F_43 15), .ref q5, .ref q6, .ref q7, .int (F_43 19), .ref q8, .int (F_43 21), .int (F_43 22), .int (F_43 23), .int (F_43 24), .ref q9, .ref q10, .ref q11, .long (J_43 28)])), (q2, .inl (g.2 1, 2000, .inl tx))] H := hP
      have hD : va_D A [(qM, .inr (9, [.int (F_43 0), .ref q1, .ref q2, .ref q3, .int (F_43 4), .int (F_43 5), .int (F_43 6), .int (F_43 7), .int (F_43 8), .int (F_43 9), .long (J_43 10), .int (F_43 11), .int (F_43 12), .int (F_43 13), .ref q4, .int (F_43 15), .ref q5, .ref q6, .ref q7, .int (F_43 19), .ref q8, .int (F_43 21), .int (F_43 22), .int (F_43 23), .int (F_43 24), .ref q9, .ref q10, .ref q11, .long (J_43 28)])), (q2, .inl (g.2 1, 2000, .inl tx))] := hD
      refine lv_iconst (v := (1 : Int32)) hx hb dX9_takes_46 (by decide) ?_
      have hP9 := hP.sub (ws' := [(qM, .inr (9, [.int (F_43 0), .ref q1, .ref q2, .ref q3, .int (F_43 4), .int (F_43 5), .int (F_43 6), .int (F_43 7), .int (F_43 8), .int (F_43 9), .long (J_43 10), .int (F_43 11), .int (F_43 12), .int (F_43 13), .ref q4, .int (F_43 15), .ref q5, .ref q6, .ref q7, .int (F_43 19), .ref q8, .int (F_43 21), .int (F_43 22), .int (F_43 23), .int (F_43 24), .ref q9, .ref q10, .ref q11, .long (J_43 28)])), (q2, .inl (g.2 1, 2000, .inl tx))]) [0, 1] rfl
      have hD9 := hD.sub (ws' := [(qM, .inr (9, [.int (F_43 0), .ref q1, .ref q2, .ref q3, .int (F_43 4), .int (F_43 5), .int (F_43 6), .int (F_43 7), .int (F_43 8), .int (F_43 9), .long (J_43 10), .int (F_43 11), .int (F_43 12), .int (F_43 13), .ref q4, .int (F_43 15), .ref q5, .ref q6, .ref q7, .int (F_43 19), .ref q8, .int (F_43 21), .int (F_43 22), .int (F_43 23), .int (F_43 24), .ref q9, .ref q10, .ref q11, .long (J_43 28)])), (q2, .inl (g.2 1, 2000, .inl tx))]) [0, 1] (by decide) rfl
      exact W.zret (v := (1 : Int32)) (ty := .boolean) hx hb hr rfl (fun t ht hW => ⟨⟨_, (F_43, J_43), rfl, hv, by rw [ht]; exact hP9, hD9⟩, hS.F ht⟩) hS.2.2 dX9_takes_47
  · have hv := hvf hc
    refine lv_aload_n hx hb dX9_takes_8 rfl (lv_at hl 0 rfl) ?_
    obtain ⟨ho_5, hv⟩ := hv
    have hPc := hP.sub (ws' := [(qM, .inr (9, [.int (F 0), .ref q1, .ref q2, .ref q3, .int (F 4), .int (F 5), .int (F 6), .int (F 7), .int (F 8), .int (F 9), .long (J 10), .int (F 11), .int (F 12), .int (F 13), .ref q4, .int (F 15), .ref q5, .ref q6, .ref q7, .int (F 19), .ref q8, .int (F 21), .int (F 22), .int (F 23), .int (F 24), .ref q9, .ref q10, .ref q11, .long (J 28)]))]) [0] rfl
    have hDc := hD.sub (ws' := [(qM, .inr (9, [.int (F 0), .ref q1, .ref q2, .ref q3, .int (F 4), .int (F 5), .int (F 6), .int (F 7), .int (F 8), .int (F 9), .long (J 10), .int (F 11), .int (F 12), .int (F 13), .ref q4, .int (F 15), .ref q5, .ref q6, .ref q7, .int (F 19), .ref q8, .int (F 21), .int (F 22), .int (F 23), .int (F 24), .ref q9, .ref q10, .ref q11, .long (J 28)]))]) [0] (by decide) rfl
    have hFc := va_free (wc := [(qM, .inr (9, [.int (F 0), .ref q1, .ref q2, .ref q3, .int (F 4), .int (F 5), .int (F 6), .int (F 7), .int (F 8), .int (F 9), .long (J 10), .int (F 11), .int (F 12), .int (F 13), .ref q4, .int (F 15), .ref q5, .ref q6, .ref q7, .int (F 19), .ref q8, .int (F 21), .int (F 22), .int (F 23), .int (F 24), .ref q9, .ref q10, .ref q11, .long (J 28)]))]) hD hS hA [0] rfl
    refine va_calli (va_runV (As := []) (rest := []) S (wX9_fails l g qM q1 q2 q3 q4 q5 q6 q7 q8 q9 q10 q11 s.heap.size F J (sX9_fails F J ho_5)) (cwV 0 hts gX9_takes_X9_fails rfl rfl rfl (by decide +kernel) ⟨Nat.le_of_ble_eq_true rfl, Nat.le_of_ble_eq_true rfl⟩) ⟨blindRW, va_recv hK hP (ci := 9) (q0 := 0) rfl rfl, fun U hU hW => ⟨rfl, by rw [hU], by rw [hU]; exact hPc, hG.warm hW, hDc.weaken (fun _ _ _ _ => trivial)⟩⟩ rfl rfl hl.1 rfl (lv_room (Nat.le_of_ble_eq_true rfl)) dX9_takes_9 ⟨Nat.le_of_ble_eq_true rfl, Nat.le_of_ble_eq_true rfl⟩) hS (fun q _ h => hFc q h) hFc (fun r_9 u t H1 locs ht hvm hw hB hz1 hk1 hS => ?_)
    obtain ⟨F_9, rfl⟩ : ∃ z, z = u := ⟨_, rfl⟩
    obtain ⟨hP1, hD1⟩ := hB
    rw [ht] at hP1
    have hv := hv r_9 F_9 hw
    obtain ⟨hP, hD⟩ := va_join (wr := [(q2, .inl (g.2 1, 2000, .inl tx))]) (w1 := [(qM, .inr (9, [.int (F_9 0), .ref q1, .ref q2, .ref q3, .int (F_9 4), .int (F_9 5), .int (F_9 6), .int (F_9 7), .int (F_9 8), .int (F_9 9), .long (J 10), .int (F_9 11), .int (F_9 12), .int (F_9 13), .ref q4, .int (F_9 15), .ref q5, .ref q6, .ref q7, .int (F_9 19), .ref q8, .int (F_9 21), .int (F_9 22), .int (F_9 23), .int (F_9 24), .ref q9, .ref q10, .ref q11, .long (J 28)]))]) hP hD [0] [1] rfl rfl (by decide) (by decide) hk1 hFc hP1 hD1
    clear hP1 hD1 hPc hDc hFc hk1
    generalize H1 = H at hP hS ⊢
    have hP : va_P g.1 vwCl [(q2, .inl (g.2 1, 2000, .inl tx)), (qM, .inr (9, [.int (F_9 0), .ref q1, .ref q2, .ref q3, .int (F_9 4), .int (F_9 5), .int (F_9 6), .int (F_9 7), .int (F_9 8), .int (F_9 9), .long (J 10), .int (F_9 11), .int (F_9 12), .int (F_9 13), .ref q4, .int (F_9 15), .ref q5, .ref q6, .ref q7, .int (F_9 19), .ref q8, .int (F_9 21), .int (F_9 22), .int (F_9 23), .int (F_9 24), .ref q9, .ref q10, .ref q11, .long (J 28)]))] H := hP
    have hD : va_D A [(q2, .inl (g.2 1, 2000, .inl tx)), (qM, .inr (9, [.int (F_9 0), .ref q1, .ref q2, .ref q3, .int (F_9 4), .int (F_9 5), .int (F_9 6), .int (F_9 7), .int (F_9 8), .int (F_9 9), .long (J 10), .int (F_9 11), .int (F_9 12), .int (F_9 13), .ref q4, .int (F_9 15), .ref q5, .ref q6, .ref q7, .int (F_9 19), .ref q8, .int (F_9 21), .int (F_9 22), .int (F_9 23), .int (F_9 24), .ref q9, .ref q10, .ref q11, .long (J 28)]))] := hD
    have hP9 := hP.sub (ws' := [(qM, .inr (9, [.int (F_9 0), .ref q1, .ref q2, .ref q3, .int (F_9 4), .int (F_9 5), .int (F_9 6), .int (F_9 7), .int (F_9 8), .int (F_9 9), .long (J 10), .int (F_9 11), .int (F_9 12), .int (F_9 13), .ref q4, .int (F_9 15), .ref q5, .ref q6, .ref q7, .int (F_9 19), .ref q8, .int (F_9 21), .int (F_9 22), .int (F_9 23), .int (F_9 24), .ref q9, .ref q10, .ref q11, .long (J 28)])), (q2, .inl (g.2 1, 2000, .inl tx))]) [1, 0] rfl
    have hD9 := hD.sub (ws' := [(qM, .inr (9, [.int (F_9 0), .ref q1, .ref q2, .ref q3, .int (F_9 4), .int (F_9 5), .int (F_9 6), .int (F_9 7), .int (F_9 8), .int (F_9 9), .long (J 10), .int (F_9 11), .int (F_9 12), .int (F_9 13), .ref q4, .int (F_9 15), .ref q5, .ref q6, .ref q7, .int (F_9 19), .ref q8, .int (F_9 21), .int (F_9 22), .int (F_9 23), .int (F_9 24), .ref q9, .ref q10, .ref q11, .long (J 28)])), (q2, .inl (g.2 1, 2000, .inl tx))]) [1, 0] (by decide) rfl
    obtain ⟨hn, hv⟩ := hv
    exact W.zret (v := r_9) (ty := .boolean) hx hb hr hn (fun t ht hW => ⟨⟨_, (F_9, J), rfl, hv, by rw [ht]; exact hP9, hD9⟩, hS.F ht⟩) hS.2.2 dX9_takes_12
theorem rdM_kp {b : Nat → Int32} {nb i : Nat} {F F' : Nat → Int32} {J : Nat → Int64} (h : rdM b nb i F J) (hk : ∀ k, k ≤ 9 → F' k = F k) : rdM b nb i F' J := by
  unfold rdM
  rw [hk 4 (by decide), hk 5 (by decide), hk 6 (by decide), hk 7 (by decide), hk 8 (by decide), hk 9 (by decide)]
  exact h
theorem rdM_at {b : Nat → Int32} {nb i : Nat} {F tx : Nat → Int32} {J : Nat → Int64} (h : rdM b nb i F J) (ht : isTx b nb tx) : atM b nb (tE b nb i) F tx := ⟨h.1, h.2.1, h.2.2.2.2.1, (tE_le b h.2.2.1).2, ht⟩
theorem fm_kp {F F' : Nat → Int32} (h : kpF F F') : fm F' = fm F := by unfold fm; rw [h.2.1, h.2.2.1]
theorem flB_w {f : Ft} {p q : Nat} (h : flB f p) (hpq : p ≤ q) : flB f q := fun z => by have := h z; omega
theorem flB_no {f : Ft} {k : Int} {s q : Nat} (h : flB f s) (hq : s < q) : flB (noF f k s) q := by
  unfold noF
  split
  · exact fun _ => by show (s : Int) < (q : Int); omega
  · exact flB_w h (by omega)
theorem flB_if {c : Prop} [Decidable c] {f : Ft} {k : Int} {s q : Nat} (h : flB f s) (hq : s < q) : flB (if c then noF f k s else f) q := by
  split
  · exact flB_no h hq
  · exact flB_w h (by omega)
/-- behind a line: the reference's answer, its next token, its notes -/
def rmA (b : Nat → Int32) (nb : Nat) (o : Ou) (r : Int32) (F' : Nat → Int32) (J' : Nat → Int64) : Prop := (r = if o.1 = true then 1 else 0) ∧ (o.1 = true → rdM b nb o.2.1 F' J' ∧ fm F' = o.2.2 ∧ flB o.2.2 (tS b nb o.2.1)) ∧ (o.1 = false → (F' 11).toInt = o.2.2.2)
abbrev preX9_takes (b : Nat → Int32) (nb : Nat) (i : Nat) (f : Int × Int) (F : Nat → Int32) (J : Nat → Int64) (tx : Nat → Int32) (p1 : Int32) (p2 : Int32) : Prop := rdM b nb i F J ∧ isTx b nb tx ∧ fm F = f ∧ flB f (tS b nb i)
abbrev postX9_takes (b : Nat → Int32) (nb : Nat) (i : Nat) (f : Int × Int) (F : Nat → Int32) (J : Nat → Int64) (tx : Nat → Int32) (p1 : Int32) (p2 : Int32) (r : Int32) (F' : Nat → Int32) (J' : Nat → Int64) : Prop := rmA b nb (numS b nb i p1.toInt p2.toInt f) r F' J' ∧ ((numS b nb i p1.toInt p2.toInt f).1 = true → (F' 15).toInt = (tV b nb i : Int))
theorem sX9_takes (b : Nat → Int32) (nb : Nat) (i : Nat) (f : Int × Int) (F : Nat → Int32) (J : Nat → Int64) (tx : Nat → Int32) (p1 : Int32) (p2 : Int32) (H : preX9_takes b nb i f F J tx p1 p2) : vX9_takes F J tx p1 p2 (postX9_takes b nb i f F J tx p1 p2) := by
  obtain ⟨hr, htx, hf, hfl⟩ := H
  obtain ⟨h5, hnb, hi, h6, h4, h7, h8, h9⟩ := id hr
  have hsl := tS_le b hi
  unfold vX9_takes
  rw [fa_eq (F 7), h7, z3, soK_3 (tK_le b nb i)]
  refine ⟨fun c => ⟨trivial, fun r hr2 => ?_⟩, fun c => ⟨trivial, fun r F2 h2 => ?_⟩⟩
  · have h8 := h8 c
    have hgt := tE_gt b hi (by omega)
    have hel := tE_le b hi
    have hs2 := tS_le b hel.2
    have hr2 : r = if p1.toInt ≤ (tV b nb i : Int) ∧ (tV b nb i : Int) ≤ p2.toInt then 1 else 0 := by rw [← h8]; exact hr2
    have eo : numS b nb i p1.toInt p2.toInt f = (true, tE b nb i, if (tV b nb i : Int) < p1.toInt ∨ p2.toInt < (tV b nb i : Int) then noF f 2 (tS b nb i) else f) := by unfold numS; rw [if_pos c]
    have nx : ∀ F1 : Nat → Int32, fm F1 = (if (tV b nb i : Int) < p1.toInt ∨ p2.toInt < (tV b nb i : Int) then noF f 2 (tS b nb i) else f) → (F1 4).toInt = (tE b nb i : Int) → (F1 5).toInt = (nb : Int) → (F1 15).toInt = (tV b nb i : Int) → ∃ (b_43 : Nat → Int32) (nb_43 i_43 : Nat), preX9_token b_43 nb_43 i_43 F1 J tx ∧ ∀ (F_43 : Nat → Int32) (J_43 : Nat → Int64), postX9_token b_43 nb_43 i_43 F1 J tx F_43 J_43 → postX9_takes b nb i f F J tx p1 p2 1 F_43 J_43 := fun F1 e1 e2 e3 e4 => ⟨b, nb, tE b nb i, ⟨e3, hnb, e2, hel.2, htx⟩, fun F3 J3 h3 => by
      unfold postX9_takes
      rw [eo]
      refine ⟨⟨rfl, fun _ => ⟨h3.1, by rw [fm_kp h3.2]; exact e1, ?_⟩, fun q => absurd (show true = false from q) (by decide)⟩, fun _ => by rw [h3.2.2.2.2]; exact e4⟩
      exact flB_if hfl (by show tS b nb i < tS b nb (tE b nb i); omega)⟩
    rw [hr2, q_if1]
    refine ⟨fun d => nx _ (by rw [if_neg (fun q => by omega)]; exact hf) h4 h5 h8, fun d => ⟨f, ⟨hf, by rw [h6]; exact hfl, by rw [h6]; omega⟩, fun F3 h3 => ?_⟩⟩
    refine nx F3 ?_ (by rw [h3.2 4 (by decide) (by decide)]; exact h4) (by rw [h3.2 5 (by decide) (by decide)]; exact h5) (by rw [h3.2 15 (by decide) (by decide)]; exact h8)
    rw [h3.1, if_pos (by omega), h6]; rfl
  · have eo : numS b nb i p1.toInt p2.toInt f = rfS (tS b nb i) := by unfold numS; rw [if_neg c]
    obtain ⟨e1, e2⟩ := h2
    subst e1 e2
    refine ⟨rfl, ?_⟩
    unfold postX9_takes
    rw [eo]
    exact ⟨⟨rfl, fun q => absurd q rfS_1, fun _ => h6⟩, fun q => absurd q rfS_1⟩
theorem dX9_rowOf_0 : decode cX9_rowOf 0 = .ok (.iconst 0, 1) := by decide +kernel
theorem dX9_rowOf_1 : decode cX9_rowOf 1 = .ok (.istore_n 1, 1) := by decide +kernel
theorem dX9_rowOf_2 : decode cX9_rowOf 2 = .ok (.iconst 0, 1) := by decide +kernel
theorem dX9_rowOf_3 : decode cX9_rowOf 3 = .ok (.istore_n 2, 1) := by decide +kernel
theorem dX9_rowOf_4 : decode cX9_rowOf 4 = .ok (.iload_n 2, 1) := by decide +kernel
theorem dX9_rowOf_5 : decode cX9_rowOf 5 = .ok (.aload_n 0, 1) := by decide +kernel
theorem dX9_rowOf_6 : decode cX9_rowOf 6 = .ok (.getfield 89, 3) := by decide +kernel
theorem dX9_rowOf_9 : decode cX9_rowOf 9 = .ok (.if_icmp .ge 51, 3) := by decide +kernel
theorem dX9_rowOf_12 : decode cX9_rowOf 12 = .ok (.aload_n 0, 1) := by decide +kernel
theorem dX9_rowOf_13 : decode cX9_rowOf 13 = .ok (.getfield 13, 3) := by decide +kernel
theorem dX9_rowOf_16 : decode cX9_rowOf 16 = .ok (.aload_n 0, 1) := by decide +kernel
theorem dX9_rowOf_17 : decode cX9_rowOf 17 = .ok (.getfield 79, 3) := by decide +kernel
theorem dX9_rowOf_20 : decode cX9_rowOf 20 = .ok (.iload_n 2, 1) := by decide +kernel
theorem dX9_rowOf_21 : decode cX9_rowOf 21 = .ok (.iadd, 1) := by decide +kernel
theorem dX9_rowOf_22 : decode cX9_rowOf 22 = .ok (.baload, 1) := by decide +kernel
theorem dX9_rowOf_23 : decode cX9_rowOf 23 = .ok (.istore_n 3, 1) := by decide +kernel
theorem dX9_rowOf_24 : decode cX9_rowOf 24 = .ok (.iload_n 3, 1) := by decide +kernel
theorem dX9_rowOf_25 : decode cX9_rowOf 25 = .ok (.bipush 120, 2) := by decide +kernel
theorem dX9_rowOf_27 : decode cX9_rowOf 27 = .ok (.if_icmp .eq 11, 3) := by decide +kernel
theorem dX9_rowOf_30 : decode cX9_rowOf 30 = .ok (.iload_n 3, 1) := by decide +kernel
theorem dX9_rowOf_31 : decode cX9_rowOf 31 = .ok (.bipush 111, 2) := by decide +kernel
theorem dX9_rowOf_33 : decode cX9_rowOf 33 = .ok (.if_icmp .eq 5, 3) := by decide +kernel
theorem dX9_rowOf_36 : decode cX9_rowOf 36 = .ok (.iconst (-1), 1) := by decide +kernel
theorem dX9_rowOf_37 : decode cX9_rowOf 37 = .ok (.ireturn, 1) := by decide +kernel
theorem dX9_rowOf_38 : decode cX9_rowOf 38 = .ok (.iload_n 1, 1) := by decide +kernel
theorem dX9_rowOf_39 : decode cX9_rowOf 39 = .ok (.iload_n 3, 1) := by decide +kernel
theorem dX9_rowOf_40 : decode cX9_rowOf 40 = .ok (.bipush 120, 2) := by decide +kernel
theorem dX9_rowOf_42 : decode cX9_rowOf 42 = .ok (.if_icmp .ne 9, 3) := by decide +kernel
theorem dX9_rowOf_45 : decode cX9_rowOf 45 = .ok (.iconst 1, 1) := by decide +kernel
theorem dX9_rowOf_46 : decode cX9_rowOf 46 = .ok (.iload_n 2, 1) := by decide +kernel
theorem dX9_rowOf_47 : decode cX9_rowOf 47 = .ok (.ishl, 1) := by decide +kernel
theorem dX9_rowOf_48 : decode cX9_rowOf 48 = .ok (.goto 4, 3) := by decide +kernel
theorem dX9_rowOf_51 : decode cX9_rowOf 51 = .ok (.iconst 0, 1) := by decide +kernel
theorem dX9_rowOf_52 : decode cX9_rowOf 52 = .ok (.ior, 1) := by decide +kernel
theorem dX9_rowOf_53 : decode cX9_rowOf 53 = .ok (.istore_n 1, 1) := by decide +kernel
theorem dX9_rowOf_54 : decode cX9_rowOf 54 = .ok (.iinc 2 1, 3) := by decide +kernel
theorem dX9_rowOf_57 : decode cX9_rowOf 57 = .ok (.goto (-53), 3) := by decide +kernel
theorem dX9_rowOf_60 : decode cX9_rowOf 60 = .ok (.iload_n 1, 1) := by decide +kernel
theorem dX9_rowOf_61 : decode cX9_rowOf 61 = .ok (.ireturn, 1) := by decide +kernel
abbrev rmX9_rowOf : Room := { frames := 0, cells := 0, slots := 0, locals := 0 }
theorem inX9_rowOf_9 : ∀ w ∈ wsX90, w ∈ wsX9_rowOf := by decide +kernel
def vX9_rowOf_c38 (F : Nat → Int32) (J : Nat → Int64) (tx : Nat → Int32) (Q : Int32 → Prop) (K4 : Int32 → Int32 → Prop) (x1 : Int32) (x2 : Int32) (x3 : Int32) : Prop := ((¬ x3 = (120 : Int32) → (K4 (x1 ||| (0 : Int32)) (x2 + (1 : Int32)))) ∧ (x3 = (120 : Int32) → (∀ y_53 : Int32, y_53 = (x1 ||| ((1 : Int32) <<< (x2 &&& 31))) → (K4 y_53 (x2 + (1 : Int32))))))
set_option maxHeartbeats 4000000 in
set_option maxRecDepth 100000 in
theorem kX9_rowOf_c38 {p : Program} {l : Launch} {e : Env} {s : State} {m : MethodId} {args : Array Value} {below : List Frame} {meth : Method} {c : Code} {g : GP} {qM : Nat} {q1 : Nat} {q2 : Nat} {q3 : Nat} {q4 : Nat} {q5 : Nat} {q6 : Nat} {q7 : Nat} {q8 : Nat} {q9 : Nat} {q10 : Nat} {q11 : Nat} {F : Nat → Int32} {J : Nat → Int64} {tx : Nat → Int32}  {Q : Int32 → Prop} {K4 : Int32 → Int32 → Prop} (S : CallFix p m c cX9_rowOf 4 s args wsX9_rowOf RX9) (hr : meth.sig.returnType = (some .int)) (hlocks : meth.locks = false) (hG : GK g s) (hP : va_P g.1 vwCl [(qM, .inr (9, [.int (F 0), .ref q1, .ref q2, .ref q3, .int (F 4), .int (F 5), .int (F 6), .int (F 7), .int (F 8), .int (F 9), .long (J 10), .int (F 11), .int (F 12), .int (F 13), .ref q4, .int (F 15), .ref q5, .ref q6, .ref q7, .int (F 19), .ref q8, .int (F 21), .int (F 22), .int (F 23), .int (F 24), .ref q9, .ref q10, .ref q11, .long (J 28)])), (q2, .inl (g.2 1, 2000, .inl tx))] s.heap) (kk4 : ∀ (x1 : Int32) (x2 : Int32), K4 x1 x2 → ∀ (ls : Array Slot), lv_has ls 4 [(0, .ref qM), (1, .int x1), (2, .int x2)] → W p l e (headSpec wsX9_rowOf rmX9_rowOf).room s m args below meth c s.heap [] 0 0 (MQ below (vp_Si Q) args s 0 0 (fun _ => False)) (F0 m 4 ls [])) : ∀ (x1 : Int32) (x2 : Int32) (x3 : Int32), vX9_rowOf_c38 F J tx Q K4 x1 x2 x3 → ∀ (ls : Array Slot), lv_has ls 4 [(0, .ref qM), (1, .int x1), (2, .int x2), (3, .int x3)] → W p l e (headSpec wsX9_rowOf rmX9_rowOf).room s m args below meth c s.heap [] 0 0 (MQ below (vp_Si Q) args s 0 0 (fun _ => False)) (F0 m 38 ls []) := by
  obtain ⟨hx, hb, hml, hown, hts⟩ := id S
  have hK := hG.1
  intro x1 x2 x3 hv ls hl
  unfold vX9_rowOf_c38 at hv
  refine lv_iload_n hx hb dX9_rowOf_38 rfl (lv_at hl 1 rfl) ?_
  refine lv_iload_n hx hb dX9_rowOf_39 rfl (lv_at hl 3 rfl) ?_
  refine lv_bipush (v := (120 : Int32)) hx hb dX9_rowOf_40 (by decide) ?_
  obtain ⟨hvt, hvf⟩ := hv
  refine lv_icmp_ne (tgt := 51) hx hb dX9_rowOf_42 (by decide) (fun hc => ?_) (fun hc => ?_)
  · have hv := hvt hc
    refine lv_iconst (v := (0 : Int32)) hx hb dX9_rowOf_51 (by decide) ?_
    refine lv_ior hx hb dX9_rowOf_52 ?_
    refine lv_istore_n (lv' := [(1, .int (x1 ||| (0 : Int32))), (0, .ref qM), (2, .int x2), (3, .int x3)]) hx hb dX9_rowOf_53 rfl hl (by decide) rfl (fun ls hl => ?_)
    refine lv_iinc (v := (x2 + (1 : Int32))) (lv' := [(2, .int (x2 + (1 : Int32))), (1, .int (x1 ||| (0 : Int32))), (0, .ref qM), (3, .int x3)]) hx hb dX9_rowOf_54 hl (k := 2) rfl rfl (by decide) rfl (fun ls hl => ?_)
    refine lv_goto (tgt := 4) hx hb dX9_rowOf_57 (by decide) ?_
    exact kk4 _ _ hv ls (lv_sub hl [2, 1, 0] rfl)
  · have hv := hvf hc
    refine lv_iconst (v := (1 : Int32)) hx hb dX9_rowOf_45 (by decide) ?_
    refine lv_iload_n hx hb dX9_rowOf_46 rfl (lv_at hl 2 rfl) ?_
    refine lv_ishl hx hb dX9_rowOf_47 ?_
    refine lv_goto (tgt := 52) hx hb dX9_rowOf_48 (by decide) ?_
    refine lv_ior hx hb dX9_rowOf_52 ?_
    refine lv_topi (fun y_53 ey_53 => ?_)
    have hv := hv y_53 ey_53
    refine lv_istore_n (lv' := [(1, .int y_53), (0, .ref qM), (2, .int x2), (3, .int x3)]) hx hb dX9_rowOf_53 rfl hl (by decide) rfl (fun ls hl => ?_)
    refine lv_iinc (v := (x2 + (1 : Int32))) (lv' := [(2, .int (x2 + (1 : Int32))), (1, .int y_53), (0, .ref qM), (3, .int x3)]) hx hb dX9_rowOf_54 hl (k := 2) rfl rfl (by decide) rfl (fun ls hl => ?_)
    refine lv_goto (tgt := 4) hx hb dX9_rowOf_57 (by decide) ?_
    exact kk4 _ _ hv ls (lv_sub hl [2, 1, 0] rfl)
def vX9_rowOf_c4 (F : Nat → Int32) (J : Nat → Int64) (tx : Nat → Int32) (Q : Int32 → Prop) : Nat → Int32 → Int32 → Prop
  | 0, _, _ => False
  | n + 1, x1, x2 => (((F 9) ≤ x2 → (Q x1)) ∧ (¬ (F 9) ≤ x2 → (vp_in ((F 6) + x2) 2000 ∧ (∀ y_23 : Int32, y_23 = (tx ((F 6) + x2).toNatClampNeg) → ((y_23 = (120 : Int32) → (vX9_rowOf_c38 F J tx Q (vX9_rowOf_c4 F J tx Q n) x1 x2 y_23)) ∧ (¬ y_23 = (120 : Int32) → ((y_23 = (111 : Int32) → (vX9_rowOf_c38 F J tx Q (vX9_rowOf_c4 F J tx Q n) x1 x2 y_23)) ∧ (¬ y_23 = (111 : Int32) → (Q (-1 : Int32))))))))))
set_option maxHeartbeats 4000000 in
set_option maxRecDepth 100000 in
theorem kX9_rowOf_c4 {p : Program} {l : Launch} {e : Env} {s : State} {m : MethodId} {args : Array Value} {below : List Frame} {meth : Method} {c : Code} {g : GP} {qM : Nat} {q1 : Nat} {q2 : Nat} {q3 : Nat} {q4 : Nat} {q5 : Nat} {q6 : Nat} {q7 : Nat} {q8 : Nat} {q9 : Nat} {q10 : Nat} {q11 : Nat} {F : Nat → Int32} {J : Nat → Int64} {tx : Nat → Int32}  {Q : Int32 → Prop} (S : CallFix p m c cX9_rowOf 4 s args wsX9_rowOf RX9) (hr : meth.sig.returnType = (some .int)) (hlocks : meth.locks = false) (hG : GK g s) (hP : va_P g.1 vwCl [(qM, .inr (9, [.int (F 0), .ref q1, .ref q2, .ref q3, .int (F 4), .int (F 5), .int (F 6), .int (F 7), .int (F 8), .int (F 9), .long (J 10), .int (F 11), .int (F 12), .int (F 13), .ref q4, .int (F 15), .ref q5, .ref q6, .ref q7, .int (F 19), .ref q8, .int (F 21), .int (F 22), .int (F 23), .int (F 24), .ref q9, .ref q10, .ref q11, .long (J 28)])), (q2, .inl (g.2 1, 2000, .inl tx))] s.heap) : ∀ (n : Nat), ∀ (x1 : Int32) (x2 : Int32), vX9_rowOf_c4 F J tx Q n x1 x2 → ∀ (ls : Array Slot), lv_has ls 4 [(0, .ref qM), (1, .int x1), (2, .int x2)] → W p l e (headSpec wsX9_rowOf rmX9_rowOf).room s m args below meth c s.heap [] 0 0 (MQ below (vp_Si Q) args s 0 0 (fun _ => False)) (F0 m 4 ls []) := by
  obtain ⟨hx, hb, hml, hown, hts⟩ := id S
  have hK := hG.1
  intro n
  induction n with
  | zero => intro x1 x2 hv; exact hv.elim
  | succ n ih =>
    intro x1 x2 hv ls hl
    refine lv_iload_n hx hb dX9_rowOf_4 rfl (lv_at hl 2 rfl) ?_
    refine lv_aload_n hx hb dX9_rowOf_5 rfl (lv_at hl 0 rfl) ?_
    refine va_get (D := g.1) (ci := 9) (v := .int (F 9)) (C := RX9) (T := TX9) (N := 29) hx hb hts inX9_rowOf_9 hown hK hP 0 rfl rfl 9 (by decide) (hts (.fieldLink RX9 89 "RangeCodesModel" "letters" "I") (List.mem_of_getElem? (i := 1) rfl)) (fun _ h9 => h9) rfl dX9_rowOf_6 ?_
    obtain ⟨hvt, hvf⟩ := hv
    refine lv_icmp_ge (tgt := 60) hx hb dX9_rowOf_9 (by decide) (fun hc => ?_) (fun hc => ?_)
    · have hv := hvt hc
      refine lv_iload_n hx hb dX9_rowOf_60 rfl (lv_at hl 1 rfl) ?_
      exact W.iret (v := x1) hx hb hr (fun t ht hW => ⟨_, rfl, hv, ht⟩) (fun _ h => by cases h) dX9_rowOf_61
    · have hv := hvf hc
      refine lv_aload_n hx hb dX9_rowOf_12 rfl (lv_at hl 0 rfl) ?_
      refine va_get (D := g.1) (ci := 9) (v := .ref q2) (C := RX9) (T := TX9) (N := 29) hx hb hts inX9_rowOf_9 hown hK hP 0 rfl rfl 2 (by decide) (hts (.fieldLink RX9 13 "RangeCodesModel" "text" "[B") (List.mem_of_getElem? (i := 2) rfl)) (fun _ h9 => h9) rfl dX9_rowOf_13 ?_
      refine lv_aload_n hx hb dX9_rowOf_16 rfl (lv_at hl 0 rfl) ?_
      refine va_get (D := g.1) (ci := 9) (v := .int (F 6)) (C := RX9) (T := TX9) (N := 29) hx hb hts inX9_rowOf_9 hown hK hP 0 rfl rfl 6 (by decide) (hts (.fieldLink RX9 79 "RangeCodesModel" "begin" "I") (List.mem_of_getElem? (i := 3) rfl)) (fun _ h9 => h9) rfl dX9_rowOf_17 ?_
      refine lv_iload_n hx hb dX9_rowOf_20 rfl (lv_at hl 2 rfl) ?_
      refine lv_iadd hx hb dX9_rowOf_21 ?_
      obtain ⟨ho_1, hv⟩ := hv
      refine va_bald hx hb hK hP 1 1 rfl rfl ho_1 dX9_rowOf_22 ?_
      refine lv_topi (fun y_23 ey_23 => ?_)
      have hv := hv y_23 ey_23
      refine lv_istore_n (lv' := [(3, .int y_23), (0, .ref qM), (1, .int x1), (2, .int x2)]) hx hb dX9_rowOf_23 rfl hl (by decide) rfl (fun ls hl => ?_)
      refine lv_iload_n hx hb dX9_rowOf_24 rfl (lv_at hl 0 rfl) ?_
      refine lv_bipush (v := (120 : Int32)) hx hb dX9_rowOf_25 (by decide) ?_
      obtain ⟨hvt, hvf⟩ := hv
      refine lv_icmp_eq (tgt := 38) hx hb dX9_rowOf_27 (by decide) (fun hc => ?_) (fun hc => ?_)
      · have hv := hvt hc
        exact kX9_rowOf_c38 S hr hlocks hG hP ih _ _ _ hv ls (lv_sub hl [1, 2, 3, 0] rfl)
      · have hv := hvf hc
        refine lv_iload_n hx hb dX9_rowOf_30 rfl (lv_at hl 0 rfl) ?_
        refine lv_bipush (v := (111 : Int32)) hx hb dX9_rowOf_31 (by decide) ?_
        obtain ⟨hvt, hvf⟩ := hv
        refine lv_icmp_eq (tgt := 38) hx hb dX9_rowOf_33 (by decide) (fun hc => ?_) (fun hc => ?_)
        · have hv := hvt hc
          exact kX9_rowOf_c38 S hr hlocks hG hP ih _ _ _ hv ls (lv_sub hl [1, 2, 3, 0] rfl)
        · have hv := hvf hc
          refine lv_iconst (v := (-1 : Int32)) hx hb dX9_rowOf_36 (by decide) ?_
          exact W.iret (v := (-1 : Int32)) hx hb hr (fun t ht hW => ⟨_, rfl, hv, ht⟩) (fun _ h => by cases h) dX9_rowOf_37
def vX9_rowOf (F : Nat → Int32) (J : Nat → Int64) (tx : Nat → Int32) (Q : Int32 → Prop) : Prop := (∃ nn, vX9_rowOf_c4 F J tx Q nn (0 : Int32) (0 : Int32))
set_option maxHeartbeats 4000000 in
set_option maxRecDepth 100000 in
theorem wX9_rowOf (l : Launch) (g : GP) (qM : Nat) (q1 : Nat) (q2 : Nat) (q3 : Nat) (q4 : Nat) (q5 : Nat) (q6 : Nat) (q7 : Nat) (q8 : Nat) (q9 : Nat) (q10 : Nat) (q11 : Nat) (F : Nat → Int32) (J : Nat → Int64) (tx : Nat → Int32) {Q : Int32 → Prop} (hv : vX9_rowOf F J tx Q) : Met l yX9_rowOf wsX9_rowOf rmX9_rowOf (va_Pc [.ref qM] (fun U => va_P g.1 vwCl [(qM, .inr (9, [.int (F 0), .ref q1, .ref q2, .ref q3, .int (F 4), .int (F 5), .int (F 6), .int (F 7), .int (F 8), .int (F 9), .long (J 10), .int (F 11), .int (F 12), .int (F 13), .ref q4, .int (F 15), .ref q5, .ref q6, .ref q7, .int (F 19), .ref q8, .int (F 21), .int (F 22), .int (F 23), .int (F 24), .ref q9, .ref q10, .ref q11, .long (J 28)])), (q2, .inl (g.2 1, 2000, .inl tx))] U.heap ∧ GK g U)) (vp_Si Q) 0 0 (fun _ => False) := by
  refine Met.ofW (cc := cX9_rowOf) (maxL := 4) (ret := (some .int)) (by decide) rfl ?_
  intro p e s m args below meth c s₁ B hml hv'
  obtain ⟨rfl, hP, hG⟩ := hv'
  have S : CallFix p m c cX9_rowOf 4 s _ wsX9_rowOf RX9 := ⟨B.exec, B.bytes, hml, findClass_of_methodNamed B.named, atoms_spec (ws := wsX9_rowOf) B.pre⟩
  obtain ⟨hx, hb, hml, hown, hts⟩ := id S
  have hK := hG.1
  have hr := B.returns
  have hlocks := B.notSynchronized
  have hl := lv_entry ([.ref qM]) (n := 4) (Nat.le_of_ble_eq_true rfl)
  rw [lg_entry_eq]
  generalize (lg_sl ([.ref qM]) ++ List.replicate (4 - (lg_sl ([.ref qM])).length) Slot.unset).toArray = ls at hl ⊢
  have hl : lv_has ls 4 [(0, .ref qM)] := hl
  unfold vX9_rowOf at hv
  refine lv_iconst (v := (0 : Int32)) hx hb dX9_rowOf_0 (by decide) ?_
  refine lv_istore_n (lv' := [(1, .int (0 : Int32)), (0, .ref qM)]) hx hb dX9_rowOf_1 rfl hl (by decide) rfl (fun ls hl => ?_)
  refine lv_iconst (v := (0 : Int32)) hx hb dX9_rowOf_2 (by decide) ?_
  refine lv_istore_n (lv' := [(2, .int (0 : Int32)), (1, .int (0 : Int32)), (0, .ref qM)]) hx hb dX9_rowOf_3 rfl hl (by decide) rfl (fun ls hl => ?_)
  obtain ⟨nn, hv⟩ := hv
  exact kX9_rowOf_c4 S hr hlocks hG hP nn _ _ hv ls (lv_sub hl [2, 1, 0] rfl)
abbrev preX9_rowOf (b : Nat → Int32) (nb : Nat) (i : Nat) (F : Nat → Int32) (J : Nat → Int64) (tx : Nat → Int32) : Prop := rdM b nb i F J ∧ isTx b nb tx ∧ tK b nb i = 1
abbrev postX9_rowOf (b : Nat → Int32) (nb : Nat) (i : Nat) (F : Nat → Int32) (J : Nat → Int64) (tx : Nat → Int32) (r : Int32) : Prop := ((∀ j, j < tE b nb i - tS b nb i → (b (tS b nb i + j)).toInt = 120 ∨ (b (tS b nb i + j)).toInt = 111) → r.toInt = (rwN b nb i : Int)) ∧ (¬ (∀ j, j < tE b nb i - tS b nb i → (b (tS b nb i + j)).toInt = 120 ∨ (b (tS b nb i + j)).toInt = 111) → r = -1)
theorem sX9_rowOf_4 (b : Nat → Int32) (nb : Nat) (i : Nat) (F : Nat → Int32) (J : Nat → Int64) (tx : Nat → Int32) (H : preX9_rowOf b nb i F J tx) : ∀ (n k : Nat) (x1 x2 : Int32), x1.toInt = (trN (fun k => decide ((b (tS b nb i + k)).toInt = 120)) k : Int) → x2.toInt = (k : Int) → k ≤ tE b nb i - tS b nb i → (∀ j, j < k → (b (tS b nb i + j)).toInt = 120 ∨ (b (tS b nb i + j)).toInt = 111) → tE b nb i - tS b nb i + 1 ≤ k + n → vX9_rowOf_c4 F J tx (postX9_rowOf b nb i F J tx) n x1 x2
  | 0, k, x1, x2, _, _, _, _, hf => absurd hf (by omega)
  | n + 1, k, x1, x2, h1, h2, hk, hall, hf => by
    obtain ⟨hr, htx, hk1⟩ := id H
    obtain ⟨h5, hnb, hi, h6, h4, h7, h8, h9⟩ := id hr
    have hel := tE_le b hi
    have h13 := (tK_1 hk1).2.2
    rw [vX9_rowOf_c4, q_le (h9 hk1).1 h2]
    refine ⟨fun c => ?_, fun c => ?_⟩
    · have e : k = tE b nb i - tS b nb i := by omega
      rw [e] at h1 hall
      exact ⟨fun _ => h1, fun q => absurd hall q⟩
    · have ha := q_addN h6 h2 (by omega)
      refine ⟨q_in ha (by omega), fun y ey => ?_⟩
      rw [q_cl ha, (htx _ (by omega)).1] at ey
      rw [ey, fa_eq (b _), fa_eq (b _), show (120 : Int32).toInt = 120 from rfl, show (111 : Int32).toInt = 111 from rfl]
      have hlt := trN_lt (fun k => decide ((b (tS b nb i + k)).toInt = 120)) k
      have hp : 2 ^ k ≤ 2 ^ 12 := Nat.pow_le_pow_right (by decide) (by omega)
      have nx : ∀ _ : (b (tS b nb i + k)).toInt = 120 ∨ (b (tS b nb i + k)).toInt = 111, vX9_rowOf_c38 F J tx (postX9_rowOf b nb i F J tx) (vX9_rowOf_c4 F J tx (postX9_rowOf b nb i F J tx) n) x1 x2 (b (tS b nb i + k)) := fun q => by
        have al : ∀ j, j < k + 1 → (b (tS b nb i + j)).toInt = 120 ∨ (b (tS b nb i + j)).toInt = 111 := fun j hj => by
          by_cases e : j = k
          · subst e; exact q
          · exact hall j (by omega)
        unfold vX9_rowOf_c38
        rw [fa_eq (b _), show (120 : Int32).toInt = 120 from rfl]
        refine ⟨fun d => sX9_rowOf_4 b nb i F J tx H n (k + 1) _ _ ?_ (q_1 h2 (by omega)) (by omega) al (by omega), fun d z ez => sX9_rowOf_4 b nb i F J tx H n (k + 1) _ _ ?_ (q_1 h2 (by omega)) (by omega) al (by omega)⟩
        · rw [trN, if_neg (fun q => d (of_decide_eq_true q)), Nat.add_zero, show x1 ||| (0 : Int32) = x1 from Int32.or_zero]; exact h1
        · have e1 := q_shlN (x := (1 : Int32)) (a := 1) rfl h2 (by omega) (by omega)
          rw [ez, q_orS (b := 1) h1 hlt (by rw [e1]; omega) (by omega), trN, if_pos (decide_eq_true d)]
          omega
      refine ⟨fun d => nx (Or.inl d), fun d => ⟨fun e => nx (Or.inr e), fun e => ⟨fun q => ?_, fun _ => rfl⟩⟩⟩
      exact absurd (q k (by omega)) (fun z => z.elim d e)
theorem sX9_rowOf (b : Nat → Int32) (nb : Nat) (i : Nat) (F : Nat → Int32) (J : Nat → Int64) (tx : Nat → Int32) (H : preX9_rowOf b nb i F J tx) : vX9_rowOf F J tx (postX9_rowOf b nb i F J tx) := ⟨tE b nb i - tS b nb i + 1, sX9_rowOf_4 b nb i F J tx H _ 0 _ _ rfl rfl (by omega) (fun j hj => absurd hj (by omega)) (by omega)⟩
theorem dX9_settingOf_0 : decode cX9_settingOf 0 = .ok (.lload_n 0, 1) := by decide +kernel
theorem dX9_settingOf_1 : decode cX9_settingOf 1 = .ok (.ldc2_w 125, 3) := by decide +kernel
theorem dX9_settingOf_4 : decode cX9_settingOf 4 = .ok (.lcmp, 1) := by decide +kernel
theorem dX9_settingOf_5 : decode cX9_settingOf 5 = .ok (.ifCond .ne 7, 3) := by decide +kernel
theorem dX9_settingOf_8 : decode cX9_settingOf 8 = .ok (.iconst 0, 1) := by decide +kernel
theorem dX9_settingOf_9 : decode cX9_settingOf 9 = .ok (.goto 72, 3) := by decide +kernel
theorem dX9_settingOf_12 : decode cX9_settingOf 12 = .ok (.lload_n 0, 1) := by decide +kernel
theorem dX9_settingOf_13 : decode cX9_settingOf 13 = .ok (.ldc2_w 127, 3) := by decide +kernel
theorem dX9_settingOf_16 : decode cX9_settingOf 16 = .ok (.lcmp, 1) := by decide +kernel
theorem dX9_settingOf_17 : decode cX9_settingOf 17 = .ok (.ifCond .eq 11, 3) := by decide +kernel
theorem dX9_settingOf_20 : decode cX9_settingOf 20 = .ok (.lload_n 0, 1) := by decide +kernel
theorem dX9_settingOf_21 : decode cX9_settingOf 21 = .ok (.ldc2_w 129, 3) := by decide +kernel
theorem dX9_settingOf_24 : decode cX9_settingOf 24 = .ok (.lcmp, 1) := by decide +kernel
theorem dX9_settingOf_25 : decode cX9_settingOf 25 = .ok (.ifCond .ne 7, 3) := by decide +kernel
theorem dX9_settingOf_28 : decode cX9_settingOf 28 = .ok (.iconst 1, 1) := by decide +kernel
theorem dX9_settingOf_29 : decode cX9_settingOf 29 = .ok (.goto 52, 3) := by decide +kernel
theorem dX9_settingOf_32 : decode cX9_settingOf 32 = .ok (.lload_n 0, 1) := by decide +kernel
theorem dX9_settingOf_33 : decode cX9_settingOf 33 = .ok (.ldc2_w 131, 3) := by decide +kernel
theorem dX9_settingOf_36 : decode cX9_settingOf 36 = .ok (.lcmp, 1) := by decide +kernel
theorem dX9_settingOf_37 : decode cX9_settingOf 37 = .ok (.ifCond .ne 7, 3) := by decide +kernel
theorem dX9_settingOf_40 : decode cX9_settingOf 40 = .ok (.iconst 2, 1) := by decide +kernel
theorem dX9_settingOf_41 : decode cX9_settingOf 41 = .ok (.goto 40, 3) := by decide +kernel
theorem dX9_settingOf_44 : decode cX9_settingOf 44 = .ok (.lload_n 0, 1) := by decide +kernel
theorem dX9_settingOf_45 : decode cX9_settingOf 45 = .ok (.ldc2_w 133, 3) := by decide +kernel
theorem dX9_settingOf_48 : decode cX9_settingOf 48 = .ok (.lcmp, 1) := by decide +kernel
theorem dX9_settingOf_49 : decode cX9_settingOf 49 = .ok (.ifCond .ne 7, 3) := by decide +kernel
theorem dX9_settingOf_52 : decode cX9_settingOf 52 = .ok (.iconst 3, 1) := by decide +kernel
theorem dX9_settingOf_53 : decode cX9_settingOf 53 = .ok (.goto 28, 3) := by decide +kernel
theorem dX9_settingOf_56 : decode cX9_settingOf 56 = .ok (.lload_n 0, 1) := by decide +kernel
theorem dX9_settingOf_57 : decode cX9_settingOf 57 = .ok (.ldc2_w 135, 3) := by decide +kernel
theorem dX9_settingOf_60 : decode cX9_settingOf 60 = .ok (.lcmp, 1) := by decide +kernel
theorem dX9_settingOf_61 : decode cX9_settingOf 61 = .ok (.ifCond .ne 7, 3) := by decide +kernel
theorem dX9_settingOf_64 : decode cX9_settingOf 64 = .ok (.iconst 4, 1) := by decide +kernel
theorem dX9_settingOf_65 : decode cX9_settingOf 65 = .ok (.goto 16, 3) := by decide +kernel
theorem dX9_settingOf_68 : decode cX9_settingOf 68 = .ok (.lload_n 0, 1) := by decide +kernel
theorem dX9_settingOf_69 : decode cX9_settingOf 69 = .ok (.ldc2_w 137, 3) := by decide +kernel
theorem dX9_settingOf_72 : decode cX9_settingOf 72 = .ok (.lcmp, 1) := by decide +kernel
theorem dX9_settingOf_73 : decode cX9_settingOf 73 = .ok (.ifCond .ne 7, 3) := by decide +kernel
theorem dX9_settingOf_76 : decode cX9_settingOf 76 = .ok (.iconst 5, 1) := by decide +kernel
theorem dX9_settingOf_77 : decode cX9_settingOf 77 = .ok (.goto 4, 3) := by decide +kernel
theorem dX9_settingOf_80 : decode cX9_settingOf 80 = .ok (.iconst (-1), 1) := by decide +kernel
theorem dX9_settingOf_81 : decode cX9_settingOf 81 = .ok (.ireturn, 1) := by decide +kernel
abbrev rmX9_settingOf : Room := { frames := 0, cells := 0, slots := 0, locals := 0 }
def vX9_settingOf (p1 : Int64) (Q : Int32 → Prop) : Prop := ((¬ (lg_cmp p1 (431198331257 : Int64)) = 0 → (((lg_cmp p1 (431416239732 : Int64)) = 0 → (Q (1 : Int32))) ∧ (¬ (lg_cmp p1 (431416239732 : Int64)) = 0 → ((¬ (lg_cmp p1 (126892433305195 : Int64)) = 0 → ((¬ (lg_cmp p1 (1718775661 : Int64)) = 0 → ((¬ (lg_cmp p1 (1835101817 : Int64)) = 0 → ((¬ (lg_cmp p1 (474315584357 : Int64)) = 0 → ((¬ (lg_cmp p1 (1936024932 : Int64)) = 0 → (Q (-1 : Int32))) ∧ ((lg_cmp p1 (1936024932 : Int64)) = 0 → (Q (5 : Int32))))) ∧ ((lg_cmp p1 (474315584357 : Int64)) = 0 → (Q (4 : Int32))))) ∧ ((lg_cmp p1 (1835101817 : Int64)) = 0 → (Q (3 : Int32))))) ∧ ((lg_cmp p1 (1718775661 : Int64)) = 0 → (Q (2 : Int32))))) ∧ ((lg_cmp p1 (126892433305195 : Int64)) = 0 → (Q (1 : Int32))))))) ∧ ((lg_cmp p1 (431198331257 : Int64)) = 0 → (Q (0 : Int32))))
set_option maxHeartbeats 4000000 in
set_option maxRecDepth 100000 in
theorem wX9_settingOf (l : Launch) (g : GP)  (p1 : Int64) {Q : Int32 → Prop} (hv : vX9_settingOf p1 Q) : Met l yX9_settingOf wsX9_settingOf rmX9_settingOf (va_Pc [.long p1] (fun U => va_P g.1 vwCl [] U.heap ∧ GK g U)) (vp_Si Q) 0 0 (fun _ => False) := by
  refine Met.ofW (cc := cX9_settingOf) (maxL := 2) (ret := (some .int)) (by decide) rfl ?_
  intro p e s m args below meth c s₁ B hml hv'
  obtain ⟨rfl, hP, hG⟩ := hv'
  have S : CallFix p m c cX9_settingOf 2 s _ wsX9_settingOf RX9 := ⟨B.exec, B.bytes, hml, findClass_of_methodNamed B.named, atoms_spec (ws := wsX9_settingOf) B.pre⟩
  obtain ⟨hx, hb, hml, hown, hts⟩ := id S
  have hK := hG.1
  have hr := B.returns
  have hlocks := B.notSynchronized
  have hl := lv_entry ([.long p1]) (n := 2) (Nat.le_of_ble_eq_true rfl)
  rw [lg_entry_eq]
  generalize (lg_sl ([.long p1]) ++ List.replicate (2 - (lg_sl ([.long p1])).length) Slot.unset).toArray = ls at hl ⊢
  have hl : lv_has ls 2 [(0, .long p1)] := hl
  unfold vX9_settingOf at hv
  refine lv_lload_n hx hb dX9_settingOf_0 rfl (lv_at hl 0 rfl) ?_
  refine lv_ldc2 (v := (431198331257 : Int64)) hx hb hown (hts (.constantLong RX9 125 (431198331257)) (List.mem_of_getElem? (i := 1) rfl)) dX9_settingOf_1 ?_
  refine W.lcmp hx hb dX9_settingOf_4 ?_
  obtain ⟨hvt, hvf⟩ := hv
  refine lv_if_ne (tgt := 12) hx hb dX9_settingOf_5 (by decide) (fun hc => ?_) (fun hc => ?_)
  · have hv := hvt hc
    refine lv_lload_n hx hb dX9_settingOf_12 rfl (lv_at hl 0 rfl) ?_
    refine lv_ldc2 (v := (431416239732 : Int64)) hx hb hown (hts (.constantLong RX9 127 (431416239732)) (List.mem_of_getElem? (i := 2) rfl)) dX9_settingOf_13 ?_
    refine W.lcmp hx hb dX9_settingOf_16 ?_
    obtain ⟨hvt, hvf⟩ := hv
    refine lv_if_eq (tgt := 28) hx hb dX9_settingOf_17 (by decide) (fun hc => ?_) (fun hc => ?_)
    · have hv := hvt hc
      refine lv_iconst (v := (1 : Int32)) hx hb dX9_settingOf_28 (by decide) ?_
      refine lv_goto (tgt := 81) hx hb dX9_settingOf_29 (by decide) ?_
      exact W.iret (v := (1 : Int32)) hx hb hr (fun t ht hW => ⟨_, rfl, hv, ht⟩) (fun _ h => by cases h) dX9_settingOf_81
    · have hv := hvf hc
      refine lv_lload_n hx hb dX9_settingOf_20 rfl (lv_at hl 0 rfl) ?_
      refine lv_ldc2 (v := (126892433305195 : Int64)) hx hb hown (hts (.constantLong RX9 129 (126892433305195)) (List.mem_of_getElem? (i := 3) rfl)) dX9_settingOf_21 ?_
      refine W.lcmp hx hb dX9_settingOf_24 ?_
      obtain ⟨hvt, hvf⟩ := hv
      refine lv_if_ne (tgt := 32) hx hb dX9_settingOf_25 (by decide) (fun hc => ?_) (fun hc => ?_)
      · have hv := hvt hc
        refine lv_lload_n hx hb dX9_settingOf_32 rfl (lv_at hl 0 rfl) ?_
        refine lv_ldc2 (v := (1718775661 : Int64)) hx hb hown (hts (.constantLong RX9 131 (1718775661)) (List.mem_of_getElem? (i := 4) rfl)) dX9_settingOf_33 ?_
        refine W.lcmp hx hb dX9_settingOf_36 ?_
        obtain ⟨hvt, hvf⟩ := hv
        refine lv_if_ne (tgt := 44) hx hb dX9_settingOf_37 (by decide) (fun hc => ?_) (fun hc => ?_)
        · have hv := hvt hc
          refine lv_lload_n hx hb dX9_settingOf_44 rfl (lv_at hl 0 rfl) ?_
          refine lv_ldc2 (v := (1835101817 : Int64)) hx hb hown (hts (.constantLong RX9 133 (1835101817)) (List.mem_of_getElem? (i := 5) rfl)) dX9_settingOf_45 ?_
          refine W.lcmp hx hb dX9_settingOf_48 ?_
          obtain ⟨hvt, hvf⟩ := hv
          refine lv_if_ne (tgt := 56) hx hb dX9_settingOf_49 (by decide) (fun hc => ?_) (fun hc => ?_)
          · have hv := hvt hc
            refine lv_lload_n hx hb dX9_settingOf_56 rfl (lv_at hl 0 rfl) ?_
            refine lv_ldc2 (v := (474315584357 : Int64)) hx hb hown (hts (.constantLong RX9 135 (474315584357)) (List.mem_of_getElem? (i := 6) rfl)) dX9_settingOf_57 ?_
            refine W.lcmp hx hb dX9_settingOf_60 ?_
            obtain ⟨hvt, hvf⟩ := hv
            refine lv_if_ne (tgt := 68) hx hb dX9_settingOf_61 (by decide) (fun hc => ?_) (fun hc => ?_)
            · have hv := hvt hc
              refine lv_lload_n hx hb dX9_settingOf_68 rfl (lv_at hl 0 rfl) ?_
              refine lv_ldc2 (v := (1936024932 : Int64)) hx hb hown (hts (.constantLong RX9 137 (1936024932)) (List.mem_of_getElem? (i := 7) rfl)) dX9_settingOf_69 ?_
              refine W.lcmp hx hb dX9_settingOf_72 ?_
              obtain ⟨hvt, hvf⟩ := hv
              refine lv_if_ne (tgt := 80) hx hb dX9_settingOf_73 (by decide) (fun hc => ?_) (fun hc => ?_)
              · have hv := hvt hc
                refine lv_iconst (v := (-1 : Int32)) hx hb dX9_settingOf_80 (by decide) ?_
                exact W.iret (v := (-1 : Int32)) hx hb hr (fun t ht hW => ⟨_, rfl, hv, ht⟩) (fun _ h => by cases h) dX9_settingOf_81
              · have hv := hvf hc
                refine lv_iconst (v := (5 : Int32)) hx hb dX9_settingOf_76 (by decide) ?_
                refine lv_goto (tgt := 81) hx hb dX9_settingOf_77 (by decide) ?_
                exact W.iret (v := (5 : Int32)) hx hb hr (fun t ht hW => ⟨_, rfl, hv, ht⟩) (fun _ h => by cases h) dX9_settingOf_81
            · have hv := hvf hc
              refine lv_iconst (v := (4 : Int32)) hx hb dX9_settingOf_64 (by decide) ?_
              refine lv_goto (tgt := 81) hx hb dX9_settingOf_65 (by decide) ?_
              exact W.iret (v := (4 : Int32)) hx hb hr (fun t ht hW => ⟨_, rfl, hv, ht⟩) (fun _ h => by cases h) dX9_settingOf_81
          · have hv := hvf hc
            refine lv_iconst (v := (3 : Int32)) hx hb dX9_settingOf_52 (by decide) ?_
            refine lv_goto (tgt := 81) hx hb dX9_settingOf_53 (by decide) ?_
            exact W.iret (v := (3 : Int32)) hx hb hr (fun t ht hW => ⟨_, rfl, hv, ht⟩) (fun _ h => by cases h) dX9_settingOf_81
        · have hv := hvf hc
          refine lv_iconst (v := (2 : Int32)) hx hb dX9_settingOf_40 (by decide) ?_
          refine lv_goto (tgt := 81) hx hb dX9_settingOf_41 (by decide) ?_
          exact W.iret (v := (2 : Int32)) hx hb hr (fun t ht hW => ⟨_, rfl, hv, ht⟩) (fun _ h => by cases h) dX9_settingOf_81
      · have hv := hvf hc
        refine lv_iconst (v := (1 : Int32)) hx hb dX9_settingOf_28 (by decide) ?_
        refine lv_goto (tgt := 81) hx hb dX9_settingOf_29 (by decide) ?_
        exact W.iret (v := (1 : Int32)) hx hb hr (fun t ht hW => ⟨_, rfl, hv, ht⟩) (fun _ h => by cases h) dX9_settingOf_81
  · have hv := hvf hc
    refine lv_iconst (v := (0 : Int32)) hx hb dX9_settingOf_8 (by decide) ?_
    refine lv_goto (tgt := 81) hx hb dX9_settingOf_9 (by decide) ?_
    exact W.iret (v := (0 : Int32)) hx hb hr (fun t ht hW => ⟨_, rfl, hv, ht⟩) (fun _ h => by cases h) dX9_settingOf_81
def soI (w : Nat) : Int := if 4 ≤ w ∧ w ≤ 10 then (stJ w : Int) else -1
abbrev preX9_settingOf (b : Nat → Int32) (nb : Nat) (i : Nat) (p1 : Int64) : Prop := p1 = wdL b nb i
abbrev postX9_settingOf (b : Nat → Int32) (nb : Nat) (i : Nat) (p1 : Int64) (r : Int32) : Prop := r.toInt = soI (wI b nb i)
theorem sX9_settingOf (b : Nat → Int32) (nb : Nat) (i : Nat) (p1 : Int64) (H : preX9_settingOf b nb i p1) : vX9_settingOf p1 (postX9_settingOf b nb i p1) := by
  have H : p1 = wdL b nb i := H
  unfold vX9_settingOf postX9_settingOf
  rw [br_d p1 (k := 4) (by decide) H (431198331257 : Int64) rfl, br_d p1 (k := 5) (by decide) H (431416239732 : Int64) rfl, br_d p1 (k := 6) (by decide) H (126892433305195 : Int64) rfl, br_d p1 (k := 7) (by decide) H (1718775661 : Int64) rfl, br_d p1 (k := 8) (by decide) H (1835101817 : Int64) rfl, br_d p1 (k := 9) (by decide) H (474315584357 : Int64) rfl, br_d p1 (k := 10) (by decide) H (1936024932 : Int64) rfl]
  refine ⟨fun a => ⟨fun c => by rw [c]; rfl, fun c => ⟨fun d => ⟨fun e => ⟨fun f => ⟨fun g => ⟨fun h => ?_, fun h => by rw [h]; rfl⟩, fun g => by rw [g]; rfl⟩, fun f => by rw [f]; rfl⟩, fun e => by rw [e]; rfl⟩, fun d => by rw [d]; rfl⟩⟩, fun a => by rw [a]; rfl⟩
  unfold soI; rw [if_neg (by omega)]; rfl
theorem dX9_markOf_0 : decode cX9_markOf 0 = .ok (.lload_n 0, 1) := by decide +kernel
theorem dX9_markOf_1 : decode cX9_markOf 1 = .ok (.ldc2_w 139, 3) := by decide +kernel
theorem dX9_markOf_4 : decode cX9_markOf 4 = .ok (.lcmp, 1) := by decide +kernel
theorem dX9_markOf_5 : decode cX9_markOf 5 = .ok (.ifCond .ne 7, 3) := by decide +kernel
theorem dX9_markOf_8 : decode cX9_markOf 8 = .ok (.iconst 0, 1) := by decide +kernel
theorem dX9_markOf_9 : decode cX9_markOf 9 = .ok (.goto 40, 3) := by decide +kernel
theorem dX9_markOf_12 : decode cX9_markOf 12 = .ok (.lload_n 0, 1) := by decide +kernel
theorem dX9_markOf_13 : decode cX9_markOf 13 = .ok (.ldc2_w 141, 3) := by decide +kernel
theorem dX9_markOf_16 : decode cX9_markOf 16 = .ok (.lcmp, 1) := by decide +kernel
theorem dX9_markOf_17 : decode cX9_markOf 17 = .ok (.ifCond .ne 7, 3) := by decide +kernel
theorem dX9_markOf_20 : decode cX9_markOf 20 = .ok (.iconst 1, 1) := by decide +kernel
theorem dX9_markOf_21 : decode cX9_markOf 21 = .ok (.goto 28, 3) := by decide +kernel
theorem dX9_markOf_24 : decode cX9_markOf 24 = .ok (.lload_n 0, 1) := by decide +kernel
theorem dX9_markOf_25 : decode cX9_markOf 25 = .ok (.ldc2_w 143, 3) := by decide +kernel
theorem dX9_markOf_28 : decode cX9_markOf 28 = .ok (.lcmp, 1) := by decide +kernel
theorem dX9_markOf_29 : decode cX9_markOf 29 = .ok (.ifCond .ne 7, 3) := by decide +kernel
theorem dX9_markOf_32 : decode cX9_markOf 32 = .ok (.iconst 2, 1) := by decide +kernel
theorem dX9_markOf_33 : decode cX9_markOf 33 = .ok (.goto 16, 3) := by decide +kernel
theorem dX9_markOf_36 : decode cX9_markOf 36 = .ok (.lload_n 0, 1) := by decide +kernel
theorem dX9_markOf_37 : decode cX9_markOf 37 = .ok (.ldc2_w 145, 3) := by decide +kernel
theorem dX9_markOf_40 : decode cX9_markOf 40 = .ok (.lcmp, 1) := by decide +kernel
theorem dX9_markOf_41 : decode cX9_markOf 41 = .ok (.ifCond .ne 7, 3) := by decide +kernel
theorem dX9_markOf_44 : decode cX9_markOf 44 = .ok (.iconst 3, 1) := by decide +kernel
theorem dX9_markOf_45 : decode cX9_markOf 45 = .ok (.goto 4, 3) := by decide +kernel
theorem dX9_markOf_48 : decode cX9_markOf 48 = .ok (.iconst (-1), 1) := by decide +kernel
theorem dX9_markOf_49 : decode cX9_markOf 49 = .ok (.ireturn, 1) := by decide +kernel
abbrev rmX9_markOf : Room := { frames := 0, cells := 0, slots := 0, locals := 0 }
def vX9_markOf (p1 : Int64) (Q : Int32 → Prop) : Prop := ((¬ (lg_cmp p1 (1718380912 : Int64)) = 0 → ((¬ (lg_cmp p1 (1936484720 : Int64)) = 0 → ((¬ (lg_cmp p1 (1936419184 : Int64)) = 0 → ((¬ (lg_cmp p1 (1819243365 : Int64)) = 0 → (Q (-1 : Int32))) ∧ ((lg_cmp p1 (1819243365 : Int64)) = 0 → (Q (3 : Int32))))) ∧ ((lg_cmp p1 (1936419184 : Int64)) = 0 → (Q (2 : Int32))))) ∧ ((lg_cmp p1 (1936484720 : Int64)) = 0 → (Q (1 : Int32))))) ∧ ((lg_cmp p1 (1718380912 : Int64)) = 0 → (Q (0 : Int32))))
set_option maxHeartbeats 4000000 in
set_option maxRecDepth 100000 in
theorem wX9_markOf (l : Launch) (g : GP)  (p1 : Int64) {Q : Int32 → Prop} (hv : vX9_markOf p1 Q) : Met l yX9_markOf wsX9_markOf rmX9_markOf (va_Pc [.long p1] (fun U => va_P g.1 vwCl [] U.heap ∧ GK g U)) (vp_Si Q) 0 0 (fun _ => False) := by
  refine Met.ofW (cc := cX9_markOf) (maxL := 2) (ret := (some .int)) (by decide) rfl ?_
  intro p e s m args below meth c s₁ B hml hv'
  obtain ⟨rfl, hP, hG⟩ := hv'
  have S : CallFix p m c cX9_markOf 2 s _ wsX9_markOf RX9 := ⟨B.exec, B.bytes, hml, findClass_of_methodNamed B.named, atoms_spec (ws := wsX9_markOf) B.pre⟩
  obtain ⟨hx, hb, hml, hown, hts⟩ := id S
  have hK := hG.1
  have hr := B.returns
  have hlocks := B.notSynchronized
  have hl := lv_entry ([.long p1]) (n := 2) (Nat.le_of_ble_eq_true rfl)
  rw [lg_entry_eq]
  generalize (lg_sl ([.long p1]) ++ List.replicate (2 - (lg_sl ([.long p1])).length) Slot.unset).toArray = ls at hl ⊢
  have hl : lv_has ls 2 [(0, .long p1)] := hl
  unfold vX9_markOf at hv
  refine lv_lload_n hx hb dX9_markOf_0 rfl (lv_at hl 0 rfl) ?_
  refine lv_ldc2 (v := (1718380912 : Int64)) hx hb hown (hts (.constantLong RX9 139 (1718380912)) (List.mem_of_getElem? (i := 1) rfl)) dX9_markOf_1 ?_
  refine W.lcmp hx hb dX9_markOf_4 ?_
  obtain ⟨hvt, hvf⟩ := hv
  refine lv_if_ne (tgt := 12) hx hb dX9_markOf_5 (by decide) (fun hc => ?_) (fun hc => ?_)
  · have hv := hvt hc
    refine lv_lload_n hx hb dX9_markOf_12 rfl (lv_at hl 0 rfl) ?_
    refine lv_ldc2 (v := (1936484720 : Int64)) hx hb hown (hts (.constantLong RX9 141 (1936484720)) (List.mem_of_getElem? (i := 2) rfl)) dX9_markOf_13 ?_
    refine W.lcmp hx hb dX9_markOf_16 ?_
    obtain ⟨hvt, hvf⟩ := hv
    refine lv_if_ne (tgt := 24) hx hb dX9_markOf_17 (by decide) (fun hc => ?_) (fun hc => ?_)
    · have hv := hvt hc
      refine lv_lload_n hx hb dX9_markOf_24 rfl (lv_at hl 0 rfl) ?_
      refine lv_ldc2 (v := (1936419184 : Int64)) hx hb hown (hts (.constantLong RX9 143 (1936419184)) (List.mem_of_getElem? (i := 3) rfl)) dX9_markOf_25 ?_
      refine W.lcmp hx hb dX9_markOf_28 ?_
      obtain ⟨hvt, hvf⟩ := hv
      refine lv_if_ne (tgt := 36) hx hb dX9_markOf_29 (by decide) (fun hc => ?_) (fun hc => ?_)
      · have hv := hvt hc
        refine lv_lload_n hx hb dX9_markOf_36 rfl (lv_at hl 0 rfl) ?_
        refine lv_ldc2 (v := (1819243365 : Int64)) hx hb hown (hts (.constantLong RX9 145 (1819243365)) (List.mem_of_getElem? (i := 4) rfl)) dX9_markOf_37 ?_
        refine W.lcmp hx hb dX9_markOf_40 ?_
        obtain ⟨hvt, hvf⟩ := hv
        refine lv_if_ne (tgt := 48) hx hb dX9_markOf_41 (by decide) (fun hc => ?_) (fun hc => ?_)
        · have hv := hvt hc
          refine lv_iconst (v := (-1 : Int32)) hx hb dX9_markOf_48 (by decide) ?_
          exact W.iret (v := (-1 : Int32)) hx hb hr (fun t ht hW => ⟨_, rfl, hv, ht⟩) (fun _ h => by cases h) dX9_markOf_49
        · have hv := hvf hc
          refine lv_iconst (v := (3 : Int32)) hx hb dX9_markOf_44 (by decide) ?_
          refine lv_goto (tgt := 49) hx hb dX9_markOf_45 (by decide) ?_
          exact W.iret (v := (3 : Int32)) hx hb hr (fun t ht hW => ⟨_, rfl, hv, ht⟩) (fun _ h => by cases h) dX9_markOf_49
      · have hv := hvf hc
        refine lv_iconst (v := (2 : Int32)) hx hb dX9_markOf_32 (by decide) ?_
        refine lv_goto (tgt := 49) hx hb dX9_markOf_33 (by decide) ?_
        exact W.iret (v := (2 : Int32)) hx hb hr (fun t ht hW => ⟨_, rfl, hv, ht⟩) (fun _ h => by cases h) dX9_markOf_49
    · have hv := hvf hc
      refine lv_iconst (v := (1 : Int32)) hx hb dX9_markOf_20 (by decide) ?_
      refine lv_goto (tgt := 49) hx hb dX9_markOf_21 (by decide) ?_
      exact W.iret (v := (1 : Int32)) hx hb hr (fun t ht hW => ⟨_, rfl, hv, ht⟩) (fun _ h => by cases h) dX9_markOf_49
  · have hv := hvf hc
    refine lv_iconst (v := (0 : Int32)) hx hb dX9_markOf_8 (by decide) ?_
    refine lv_goto (tgt := 49) hx hb dX9_markOf_9 (by decide) ?_
    exact W.iret (v := (0 : Int32)) hx hb hr (fun t ht hW => ⟨_, rfl, hv, ht⟩) (fun _ h => by cases h) dX9_markOf_49
abbrev preX9_markOf (b : Nat → Int32) (nb : Nat) (i : Nat) (p1 : Int64) : Prop := p1 = wdL b nb i
abbrev postX9_markOf (b : Nat → Int32) (nb : Nat) (i : Nat) (p1 : Int64) (r : Int32) : Prop := r.toInt = mkI (wI b nb i)
theorem sX9_markOf (b : Nat → Int32) (nb : Nat) (i : Nat) (p1 : Int64) (H : preX9_markOf b nb i p1) : vX9_markOf p1 (postX9_markOf b nb i p1) := by
  have H : p1 = wdL b nb i := H
  unfold vX9_markOf postX9_markOf
  rw [br_d p1 (k := 11) (by decide) H (1718380912 : Int64) rfl, br_d p1 (k := 12) (by decide) H (1936484720 : Int64) rfl, br_d p1 (k := 13) (by decide) H (1936419184 : Int64) rfl, br_d p1 (k := 14) (by decide) H (1819243365 : Int64) rfl]
  refine ⟨fun a => ⟨fun c => ⟨fun d => ⟨fun e => ?_, fun e => by rw [e]; rfl⟩, fun d => by rw [d]; rfl⟩, fun c => by rw [c]; rfl⟩, fun a => by rw [a]; rfl⟩
  unfold mkI; rw [if_neg a, if_neg c, if_neg d, if_neg e]; rfl
