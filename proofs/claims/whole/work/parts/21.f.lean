theorem dX9_atFirst_0 : decode cX9_atFirst 0 = .ok (.iconst 0, 1) := by decide +kernel
theorem dX9_atFirst_1 : decode cX9_atFirst 1 = .ok (.istore_n 1, 1) := by decide +kernel
theorem dX9_atFirst_2 : decode cX9_atFirst 2 = .ok (.iload_n 1, 1) := by decide +kernel
theorem dX9_atFirst_3 : decode cX9_atFirst 3 = .ok (.bipush 94, 2) := by decide +kernel
theorem dX9_atFirst_5 : decode cX9_atFirst 5 = .ok (.if_icmp .ge 16, 3) := by decide +kernel
theorem dX9_atFirst_8 : decode cX9_atFirst 8 = .ok (.aload_n 0, 1) := by decide +kernel
theorem dX9_atFirst_9 : decode cX9_atFirst 9 = .ok (.getfield 21, 3) := by decide +kernel
theorem dX9_atFirst_12 : decode cX9_atFirst 12 = .ok (.iload_n 1, 1) := by decide +kernel
theorem dX9_atFirst_13 : decode cX9_atFirst 13 = .ok (.iconst 0, 1) := by decide +kernel
theorem dX9_atFirst_14 : decode cX9_atFirst 14 = .ok (.iastore, 1) := by decide +kernel
theorem dX9_atFirst_15 : decode cX9_atFirst 15 = .ok (.iinc 1 1, 3) := by decide +kernel
theorem dX9_atFirst_18 : decode cX9_atFirst 18 = .ok (.goto (-16), 3) := by decide +kernel
theorem dX9_atFirst_21 : decode cX9_atFirst 21 = .ok (.aload_n 0, 1) := by decide +kernel
theorem dX9_atFirst_22 : decode cX9_atFirst 22 = .ok (.getfield 21, 3) := by decide +kernel
theorem dX9_atFirst_25 : decode cX9_atFirst 25 = .ok (.iconst 1, 1) := by decide +kernel
theorem dX9_atFirst_26 : decode cX9_atFirst 26 = .ok (.sipush 1000, 3) := by decide +kernel
theorem dX9_atFirst_29 : decode cX9_atFirst 29 = .ok (.iastore, 1) := by decide +kernel
theorem dX9_atFirst_30 : decode cX9_atFirst 30 = .ok (.iconst 0, 1) := by decide +kernel
theorem dX9_atFirst_31 : decode cX9_atFirst 31 = .ok (.istore_n 1, 1) := by decide +kernel
theorem dX9_atFirst_32 : decode cX9_atFirst 32 = .ok (.iload_n 1, 1) := by decide +kernel
theorem dX9_atFirst_33 : decode cX9_atFirst 33 = .ok (.iconst 2, 1) := by decide +kernel
theorem dX9_atFirst_34 : decode cX9_atFirst 34 = .ok (.if_icmp .ge 25, 3) := by decide +kernel
theorem dX9_atFirst_37 : decode cX9_atFirst 37 = .ok (.aload_n 0, 1) := by decide +kernel
theorem dX9_atFirst_38 : decode cX9_atFirst 38 = .ok (.getfield 21, 3) := by decide +kernel
theorem dX9_atFirst_41 : decode cX9_atFirst 41 = .ok (.bipush 20, 2) := by decide +kernel
theorem dX9_atFirst_43 : decode cX9_atFirst 43 = .ok (.bipush 37, 2) := by decide +kernel
theorem dX9_atFirst_45 : decode cX9_atFirst 45 = .ok (.iload_n 1, 1) := by decide +kernel
theorem dX9_atFirst_46 : decode cX9_atFirst 46 = .ok (.imul, 1) := by decide +kernel
theorem dX9_atFirst_47 : decode cX9_atFirst 47 = .ok (.iadd, 1) := by decide +kernel
theorem dX9_atFirst_48 : decode cX9_atFirst 48 = .ok (.iconst 3, 1) := by decide +kernel
theorem dX9_atFirst_49 : decode cX9_atFirst 49 = .ok (.iadd, 1) := by decide +kernel
theorem dX9_atFirst_50 : decode cX9_atFirst 50 = .ok (.bipush 40, 2) := by decide +kernel
theorem dX9_atFirst_52 : decode cX9_atFirst 52 = .ok (.iastore, 1) := by decide +kernel
theorem dX9_atFirst_53 : decode cX9_atFirst 53 = .ok (.iinc 1 1, 3) := by decide +kernel
theorem dX9_atFirst_56 : decode cX9_atFirst 56 = .ok (.goto (-24), 3) := by decide +kernel
theorem dX9_atFirst_59 : decode cX9_atFirst 59 = .ok (.aload_n 0, 1) := by decide +kernel
theorem dX9_atFirst_60 : decode cX9_atFirst 60 = .ok (.iconst 0, 1) := by decide +kernel
theorem dX9_atFirst_61 : decode cX9_atFirst 61 = .ok (.putfield 98, 3) := by decide +kernel
theorem dX9_atFirst_64 : decode cX9_atFirst 64 = .ok (.aload_n 0, 1) := by decide +kernel
theorem dX9_atFirst_65 : decode cX9_atFirst 65 = .ok (.iconst (-1), 1) := by decide +kernel
theorem dX9_atFirst_66 : decode cX9_atFirst 66 = .ok (.putfield 101, 3) := by decide +kernel
theorem dX9_atFirst_69 : decode cX9_atFirst 69 = .ok (.aload_n 0, 1) := by decide +kernel
theorem dX9_atFirst_70 : decode cX9_atFirst 70 = .ok (.iconst 0, 1) := by decide +kernel
theorem dX9_atFirst_71 : decode cX9_atFirst 71 = .ok (.putfield 69, 3) := by decide +kernel
theorem dX9_atFirst_74 : decode cX9_atFirst 74 = .ok (.return_, 1) := by decide +kernel
abbrev rmX9_atFirst : Room := { frames := 0, cells := 0, slots := 0, locals := 0 }
theorem inX9_atFirst_9 : ∀ w ∈ wsX90, w ∈ wsX9_atFirst := by decide +kernel
def vX9_atFirst_c32 (J : Nat → Int64) (Q : (Nat → Int32) → (Nat → Int32) → Prop) : Nat → Int32 → (Nat → Int32) → (Nat → Int32) → Prop
  | 0, _, _, _ => False
  | n + 1, x1, F, td => (((2 : Int32) ≤ x1 → (Q (upd (upd (upd F 4 (0 : Int32)) 12 (-1 : Int32)) 13 (0 : Int32)) td)) ∧ (¬ (2 : Int32) ≤ x1 → (vp_in (((20 : Int32) + ((37 : Int32) * x1)) + (3 : Int32)) 94 ∧ (vX9_atFirst_c32 J Q n (x1 + (1 : Int32)) F (upd td (((20 : Int32) + ((37 : Int32) * x1)) + (3 : Int32)).toNatClampNeg (40 : Int32))))))
set_option maxHeartbeats 4000000 in
set_option maxRecDepth 100000 in
theorem kX9_atFirst_c32 {p : Program} {l : Launch} {e : Env} {s : State} {m : MethodId} {args : Array Value} {below : List Frame} {meth : Method} {c : Code} {g : GP} {qM : Nat} {q1 : Nat} {q2 : Nat} {q3 : Nat} {q4 : Nat} {q5 : Nat} {q6 : Nat} {q7 : Nat} {q8 : Nat} {q9 : Nat} {q10 : Nat} {q11 : Nat} {J : Nat → Int64}  {Q : (Nat → Int32) → (Nat → Int32) → Prop} {A : Nat → Prop} (S : CallFix p m c cX9_atFirst 2 s args wsX9_atFirst RX9) (hr : meth.sig.returnType = none) (hlocks : meth.locks = false) (hG : GK g s) (hA : ∀ q : Nat, s.heap.size ≤ q → A q) : ∀ (n : Nat), ∀ (x1 : Int32) (F : Nat → Int32) (td : Nat → Int32), vX9_atFirst_c32 J Q n x1 F td → ∀ (H : Heap) (locs : List Loc), va_P g.1 vwCl [(qM, .inr (9, [.int (F 0), .ref q1, .ref q2, .ref q3, .int (F 4), .int (F 5), .int (F 6), .int (F 7), .int (F 8), .int (F 9), .long (J 10), .int (F 11), .int (F 12), .int (F 13), .ref q4, .int (F 15), .ref q5, .ref q6, .ref q7, .int (F 19), .ref q8, .int (F 21), .int (F 22), .int (F 23), .int (F 24), .ref q9, .ref q10, .ref q11, .long (J 28)])), (q4, .inl (g.2 0, 94, .inl td))] H → va_D A [(qM, .inr (9, [.int (F 0), .ref q1, .ref q2, .ref q3, .int (F 4), .int (F 5), .int (F 6), .int (F 7), .int (F 8), .int (F 9), .long (J 10), .int (F 11), .int (F 12), .int (F 13), .ref q4, .int (F 15), .ref q5, .ref q6, .ref q7, .int (F 19), .ref q8, .int (F 21), .int (F 22), .int (F 23), .int (F 24), .ref q9, .ref q10, .ref q11, .long (J 28)])), (q4, .inl (g.2 0, 94, .inl td))] → va_S A s.heap H locs → ∀ (ls : Array Slot), lv_has ls 2 [(0, .ref qM), (1, .int x1)] → W p l e (headSpec wsX9_atFirst rmX9_atFirst).room s m args below meth c H locs 0 0 (MQ below (va_Qv (fun (u : (Nat → Int32) × (Nat → Int32)) => Q u.1 u.2) (fun (u : (Nat → Int32) × (Nat → Int32)) t => va_P g.1 vwCl [(qM, .inr (9, [.int (u.1 0), .ref q1, .ref q2, .ref q3, .int (u.1 4), .int (u.1 5), .int (u.1 6), .int (u.1 7), .int (u.1 8), .int (u.1 9), .long (J 10), .int (u.1 11), .int (u.1 12), .int (u.1 13), .ref q4, .int (u.1 15), .ref q5, .ref q6, .ref q7, .int (u.1 19), .ref q8, .int (u.1 21), .int (u.1 22), .int (u.1 23), .int (u.1 24), .ref q9, .ref q10, .ref q11, .long (J 28)])), (q4, .inl (g.2 0, 94, .inl u.2))] t.heap ∧ va_D A [(qM, .inr (9, [.int (u.1 0), .ref q1, .ref q2, .ref q3, .int (u.1 4), .int (u.1 5), .int (u.1 6), .int (u.1 7), .int (u.1 8), .int (u.1 9), .long (J 10), .int (u.1 11), .int (u.1 12), .int (u.1 13), .ref q4, .int (u.1 15), .ref q5, .ref q6, .ref q7, .int (u.1 19), .ref q8, .int (u.1 21), .int (u.1 22), .int (u.1 23), .int (u.1 24), .ref q9, .ref q10, .ref q11, .long (J 28)])), (q4, .inl (g.2 0, 94, .inl u.2))]) A) args s 0 0 A) (F0 m 32 ls []) := by
  obtain ⟨hx, hb, hml, hown, hts⟩ := id S
  have hK := hG.1
  intro n
  induction n with
  | zero => intro x1 F td hv; exact hv.elim
  | succ n ih =>
    intro x1 F td hv H locs hP hD hS ls hl
    refine lv_iload_n hx hb dX9_atFirst_32 rfl (lv_at hl 1 rfl) ?_
    refine lv_iconst (v := (2 : Int32)) hx hb dX9_atFirst_33 (by decide) ?_
    obtain ⟨hvt, hvf⟩ := hv
    refine lv_icmp_ge (tgt := 59) hx hb dX9_atFirst_34 (by decide) (fun hc => ?_) (fun hc => ?_)
    · have hv := hvt hc
      refine lv_aload_n hx hb dX9_atFirst_59 rfl (lv_at hl 0 rfl) ?_
      refine lv_iconst (v := (0 : Int32)) hx hb dX9_atFirst_60 (by decide) ?_
      refine va_put (D := g.1) (ci := 9) (v := .int (0 : Int32)) (ty := .int) (C := RX9) (T := TX9) (N := 29) hx hb hts inX9_atFirst_9 tyX9 tyX9_ok nmX9 hown hK hP hD hS 0 rfl rfl 13 (by decide) (hts (.fieldLink RX9 98 "RangeCodesModel" "bad" "I") (List.mem_of_getElem? (i := 2) rfl)) (fun _ h9 => h9) rfl (by decide +kernel) rfl rfl (Nat.le_of_ble_eq_true rfl) dX9_atFirst_61 (fun H locs hP hD hS => ?_)
      have hP : va_P g.1 vwCl [(qM, .inr (9, [.int (F 0), .ref q1, .ref q2, .ref q3, .int (F 4), .int (F 5), .int (F 6), .int (F 7), .int (F 8), .int (F 9), .long (J 10), .int (F 11), .int (F 12), .int (0 : Int32), .ref q4, .int (F 15), .ref q5, .ref q6, .ref q7, .int (F 19), .ref q8, .int (F 21), .int (F 22), .int (F 23), .int (F 24), .ref q9, .ref q10, .ref q11, .long (J 28)])), (q4, .inl (g.2 0, 94, .inl td))] H := hP
      have hD : va_D A [(qM, .inr (9, [.int (F 0), .ref q1, .ref q2, .ref q3, .int (F 4), .int (F 5), .int (F 6), .int (F 7), .int (F 8), .int (F 9), .long (J 10), .int (F 11), .int (F 12), .int (0 : Int32), .ref q4, .int (F 15), .ref q5, .ref q6, .ref q7, .int (F 19), .ref q8, .int (F 21), .int (F 22), .int (F 23), .int (F 24), .ref q9, .ref q10, .ref q11, .long (J 28)])), (q4, .inl (g.2 0, 94, .inl td))] := hD
      refine lv_aload_n hx hb dX9_atFirst_64 rfl (lv_at hl 0 rfl) ?_
      refine lv_iconst (v := (-1 : Int32)) hx hb dX9_atFirst_65 (by decide) ?_
      refine va_put (D := g.1) (ci := 9) (v := .int (-1 : Int32)) (ty := .int) (C := RX9) (T := TX9) (N := 29) hx hb hts inX9_atFirst_9 tyX9 tyX9_ok nmX9 hown hK hP hD hS 0 rfl rfl 12 (by decide) (hts (.fieldLink RX9 101 "RangeCodesModel" "badAt" "I") (List.mem_of_getElem? (i := 3) rfl)) (fun _ h9 => h9) rfl (by decide +kernel) rfl rfl (Nat.le_of_ble_eq_true rfl) dX9_atFirst_66 (fun H locs hP hD hS => ?_)
      have hP : va_P g.1 vwCl [(qM, .inr (9, [.int (F 0), .ref q1, .ref q2, .ref q3, .int (F 4), .int (F 5), .int (F 6), .int (F 7), .int (F 8), .int (F 9), .long (J 10), .int (F 11), .int (-1 : Int32), .int (0 : Int32), .ref q4, .int (F 15), .ref q5, .ref q6, .ref q7, .int (F 19), .ref q8, .int (F 21), .int (F 22), .int (F 23), .int (F 24), .ref q9, .ref q10, .ref q11, .long (J 28)])), (q4, .inl (g.2 0, 94, .inl td))] H := hP
      have hD : va_D A [(qM, .inr (9, [.int (F 0), .ref q1, .ref q2, .ref q3, .int (F 4), .int (F 5), .int (F 6), .int (F 7), .int (F 8), .int (F 9), .long (J 10), .int (F 11), .int (-1 : Int32), .int (0 : Int32), .ref q4, .int (F 15), .ref q5, .ref q6, .ref q7, .int (F 19), .ref q8, .int (F 21), .int (F 22), .int (F 23), .int (F 24), .ref q9, .ref q10, .ref q11, .long (J 28)])), (q4, .inl (g.2 0, 94, .inl td))] := hD
      refine lv_aload_n hx hb dX9_atFirst_69 rfl (lv_at hl 0 rfl) ?_
      refine lv_iconst (v := (0 : Int32)) hx hb dX9_atFirst_70 (by decide) ?_
      refine va_put (D := g.1) (ci := 9) (v := .int (0 : Int32)) (ty := .int) (C := RX9) (T := TX9) (N := 29) hx hb hts inX9_atFirst_9 tyX9 tyX9_ok nmX9 hown hK hP hD hS 0 rfl rfl 4 (by decide) (hts (.fieldLink RX9 69 "RangeCodesModel" "reached" "I") (List.mem_of_getElem? (i := 4) rfl)) (fun _ h9 => h9) rfl (by decide +kernel) rfl rfl (Nat.le_of_ble_eq_true rfl) dX9_atFirst_71 (fun H locs hP hD hS => ?_)
      have hP : va_P g.1 vwCl [(qM, .inr (9, [.int (F 0), .ref q1, .ref q2, .ref q3, .int (0 : Int32), .int (F 5), .int (F 6), .int (F 7), .int (F 8), .int (F 9), .long (J 10), .int (F 11), .int (-1 : Int32), .int (0 : Int32), .ref q4, .int (F 15), .ref q5, .ref q6, .ref q7, .int (F 19), .ref q8, .int (F 21), .int (F 22), .int (F 23), .int (F 24), .ref q9, .ref q10, .ref q11, .long (J 28)])), (q4, .inl (g.2 0, 94, .inl td))] H := hP
      have hD : va_D A [(qM, .inr (9, [.int (F 0), .ref q1, .ref q2, .ref q3, .int (0 : Int32), .int (F 5), .int (F 6), .int (F 7), .int (F 8), .int (F 9), .long (J 10), .int (F 11), .int (-1 : Int32), .int (0 : Int32), .ref q4, .int (F 15), .ref q5, .ref q6, .ref q7, .int (F 19), .ref q8, .int (F 21), .int (F 22), .int (F 23), .int (F 24), .ref q9, .ref q10, .ref q11, .long (J 28)])), (q4, .inl (g.2 0, 94, .inl td))] := hD
      have hP9 := hP.sub (ws' := [(qM, .inr (9, [.int ((upd (upd (upd F 4 (0 : Int32)) 12 (-1 : Int32)) 13 (0 : Int32)) 0), .ref q1, .ref q2, .ref q3, .int ((upd (upd (upd F 4 (0 : Int32)) 12 (-1 : Int32)) 13 (0 : Int32)) 4), .int ((upd (upd (upd F 4 (0 : Int32)) 12 (-1 : Int32)) 13 (0 : Int32)) 5), .int ((upd (upd (upd F 4 (0 : Int32)) 12 (-1 : Int32)) 13 (0 : Int32)) 6), .int ((upd (upd (upd F 4 (0 : Int32)) 12 (-1 : Int32)) 13 (0 : Int32)) 7), .int ((upd (upd (upd F 4 (0 : Int32)) 12 (-1 : Int32)) 13 (0 : Int32)) 8), .int ((upd (upd (upd F 4 (0 : Int32)) 12 (-1 : Int32)) 13 (0 : Int32)) 9), .long (J 10), .int ((upd (upd (upd F 4 (0 : Int32)) 12 (-1 : Int32)) 13 (0 : Int32)) 11), .int ((upd (upd (upd F 4 (0 : Int32)) 12 (-1 : Int32)) 13 (0 : Int32)) 12), .int ((upd (upd (upd F 4 (0 : Int32)) 12 (-1 : Int32)) 13 (0 : Int32)) 13), .ref q4, .int ((upd (upd (upd F 4 (0 : Int32)) 12 (-1 : Int32)) 13 (0 : Int32)) 15), .ref q5, .ref q6, .ref q7, .int ((upd (upd (upd F 4 (0 : Int32)) 12 (-1 : Int32)) 13 (0 : Int32)) 19), .ref q8, .int ((upd (upd (upd F 4 (0 : Int32)) 12 (-1 : Int32)) 13 (0 : Int32)) 21), .int ((upd (upd (upd F 4 (0 : Int32)) 12 (-1 : Int32)) 13 (0 : Int32)) 22), .int ((upd (upd (upd F 4 (0 : Int32)) 12 (-1 : Int32)) 13 (0 : Int32)) 23), .int ((upd (upd (upd F 4 (0 : Int32)) 12 (-1 : Int32)) 13 (0 : Int32)) 24), .ref q9, .ref q10, .ref q11, .long (J 28)])), (q4, .inl (g.2 0, 94, .inl td))]) [0, 1] rfl
      have hD9 := hD.sub (ws' := [(qM, .inr (9, [.int ((upd (upd (upd F 4 (0 : Int32)) 12 (-1 : Int32)) 13 (0 : Int32)) 0), .ref q1, .ref q2, .ref q3, .int ((upd (upd (upd F 4 (0 : Int32)) 12 (-1 : Int32)) 13 (0 : Int32)) 4), .int ((upd (upd (upd F 4 (0 : Int32)) 12 (-1 : Int32)) 13 (0 : Int32)) 5), .int ((upd (upd (upd F 4 (0 : Int32)) 12 (-1 : Int32)) 13 (0 : Int32)) 6), .int ((upd (upd (upd F 4 (0 : Int32)) 12 (-1 : Int32)) 13 (0 : Int32)) 7), .int ((upd (upd (upd F 4 (0 : Int32)) 12 (-1 : Int32)) 13 (0 : Int32)) 8), .int ((upd (upd (upd F 4 (0 : Int32)) 12 (-1 : Int32)) 13 (0 : Int32)) 9), .long (J 10), .int ((upd (upd (upd F 4 (0 : Int32)) 12 (-1 : Int32)) 13 (0 : Int32)) 11), .int ((upd (upd (upd F 4 (0 : Int32)) 12 (-1 : Int32)) 13 (0 : Int32)) 12), .int ((upd (upd (upd F 4 (0 : Int32)) 12 (-1 : Int32)) 13 (0 : Int32)) 13), .ref q4, .int ((upd (upd (upd F 4 (0 : Int32)) 12 (-1 : Int32)) 13 (0 : Int32)) 15), .ref q5, .ref q6, .ref q7, .int ((upd (upd (upd F 4 (0 : Int32)) 12 (-1 : Int32)) 13 (0 : Int32)) 19), .ref q8, .int ((upd (upd (upd F 4 (0 : Int32)) 12 (-1 : Int32)) 13 (0 : Int32)) 21), .int ((upd (upd (upd F 4 (0 : Int32)) 12 (-1 : Int32)) 13 (0 : Int32)) 22), .int ((upd (upd (upd F 4 (0 : Int32)) 12 (-1 : Int32)) 13 (0 : Int32)) 23), .int ((upd (upd (upd F 4 (0 : Int32)) 12 (-1 : Int32)) 13 (0 : Int32)) 24), .ref q9, .ref q10, .ref q11, .long (J 28)])), (q4, .inl (g.2 0, 94, .inl td))]) [0, 1] (by decide) rfl
      exact W.vret hx hb hr (fun t ht hW => ⟨⟨((upd (upd (upd F 4 (0 : Int32)) 12 (-1 : Int32)) 13 (0 : Int32)), td), rfl, hv, by rw [ht]; exact hP9, hD9⟩, hS.F ht⟩) hS.2.2 dX9_atFirst_74
    · have hv := hvf hc
      refine lv_aload_n hx hb dX9_atFirst_37 rfl (lv_at hl 0 rfl) ?_
      refine va_get (D := g.1) (ci := 9) (v := .ref q4) (C := RX9) (T := TX9) (N := 29) hx hb hts inX9_atFirst_9 hown hK hP 0 rfl rfl 14 (by decide) (hts (.fieldLink RX9 21 "RangeCodesModel" "told" "[I") (List.mem_of_getElem? (i := 1) rfl)) (fun _ h9 => h9) rfl dX9_atFirst_38 ?_
      refine lv_bipush (v := (20 : Int32)) hx hb dX9_atFirst_41 (by decide) ?_
      refine lv_bipush (v := (37 : Int32)) hx hb dX9_atFirst_43 (by decide) ?_
      refine lv_iload_n hx hb dX9_atFirst_45 rfl (lv_at hl 1 rfl) ?_
      refine lv_imul hx hb dX9_atFirst_46 ?_
      refine lv_iadd hx hb dX9_atFirst_47 ?_
      refine lv_iconst (v := (3 : Int32)) hx hb dX9_atFirst_48 (by decide) ?_
      refine lv_iadd hx hb dX9_atFirst_49 ?_
      refine lv_bipush (v := (40 : Int32)) hx hb dX9_atFirst_50 (by decide) ?_
      obtain ⟨ho_1, hv⟩ := hv
      refine va_iast hx hb hK hP hD hS 1 0 rfl rfl ho_1 dX9_atFirst_52 (fun H locs hP hD hS => ?_)
      have hP : va_P g.1 vwCl [(qM, .inr (9, [.int (F 0), .ref q1, .ref q2, .ref q3, .int (F 4), .int (F 5), .int (F 6), .int (F 7), .int (F 8), .int (F 9), .long (J 10), .int (F 11), .int (F 12), .int (F 13), .ref q4, .int (F 15), .ref q5, .ref q6, .ref q7, .int (F 19), .ref q8, .int (F 21), .int (F 22), .int (F 23), .int (F 24), .ref q9, .ref q10, .ref q11, .long (J 28)])), (q4, .inl (g.2 0, 94, .inl (upd td (((20 : Int32) + ((37 : Int32) * x1)) + (3 : Int32)).toNatClampNeg (40 : Int32))))] H := hP
      have hD : va_D A [(qM, .inr (9, [.int (F 0), .ref q1, .ref q2, .ref q3, .int (F 4), .int (F 5), .int (F 6), .int (F 7), .int (F 8), .int (F 9), .long (J 10), .int (F 11), .int (F 12), .int (F 13), .ref q4, .int (F 15), .ref q5, .ref q6, .ref q7, .int (F 19), .ref q8, .int (F 21), .int (F 22), .int (F 23), .int (F 24), .ref q9, .ref q10, .ref q11, .long (J 28)])), (q4, .inl (g.2 0, 94, .inl (upd td (((20 : Int32) + ((37 : Int32) * x1)) + (3 : Int32)).toNatClampNeg (40 : Int32))))] := hD
      refine lv_iinc (v := (x1 + (1 : Int32))) (lv' := [(1, .int (x1 + (1 : Int32))), (0, .ref qM)]) hx hb dX9_atFirst_53 hl (k := 1) rfl rfl (by decide) rfl (fun ls hl => ?_)
      refine lv_goto (tgt := 32) hx hb dX9_atFirst_56 (by decide) ?_
      exact ih _ _ _ hv _ _ (hP.sub (ws' := [(qM, .inr (9, [.int (F 0), .ref q1, .ref q2, .ref q3, .int (F 4), .int (F 5), .int (F 6), .int (F 7), .int (F 8), .int (F 9), .long (J 10), .int (F 11), .int (F 12), .int (F 13), .ref q4, .int (F 15), .ref q5, .ref q6, .ref q7, .int (F 19), .ref q8, .int (F 21), .int (F 22), .int (F 23), .int (F 24), .ref q9, .ref q10, .ref q11, .long (J 28)])), (q4, .inl (g.2 0, 94, .inl (upd td (((20 : Int32) + ((37 : Int32) * x1)) + (3 : Int32)).toNatClampNeg (40 : Int32))))]) [0, 1] rfl) (hD.sub (ws' := [(qM, .inr (9, [.int (F 0), .ref q1, .ref q2, .ref q3, .int (F 4), .int (F 5), .int (F 6), .int (F 7), .int (F 8), .int (F 9), .long (J 10), .int (F 11), .int (F 12), .int (F 13), .ref q4, .int (F 15), .ref q5, .ref q6, .ref q7, .int (F 19), .ref q8, .int (F 21), .int (F 22), .int (F 23), .int (F 24), .ref q9, .ref q10, .ref q11, .long (J 28)])), (q4, .inl (g.2 0, 94, .inl (upd td (((20 : Int32) + ((37 : Int32) * x1)) + (3 : Int32)).toNatClampNeg (40 : Int32))))]) [0, 1] (by decide) rfl) hS ls (lv_sub hl [1, 0] rfl)
def vX9_atFirst_c2 (J : Nat → Int64) (Q : (Nat → Int32) → (Nat → Int32) → Prop) : Nat → Int32 → (Nat → Int32) → (Nat → Int32) → Prop
  | 0, _, _, _ => False
  | n + 1, x1, F, td => (((94 : Int32) ≤ x1 → (∃ nn, vX9_atFirst_c32 J Q nn (0 : Int32) F (upd td 1 (1000 : Int32)))) ∧ (¬ (94 : Int32) ≤ x1 → (vp_in x1 94 ∧ (vX9_atFirst_c2 J Q n (x1 + (1 : Int32)) F (upd td x1.toNatClampNeg (0 : Int32))))))
set_option maxHeartbeats 4000000 in
set_option maxRecDepth 100000 in
theorem kX9_atFirst_c2 {p : Program} {l : Launch} {e : Env} {s : State} {m : MethodId} {args : Array Value} {below : List Frame} {meth : Method} {c : Code} {g : GP} {qM : Nat} {q1 : Nat} {q2 : Nat} {q3 : Nat} {q4 : Nat} {q5 : Nat} {q6 : Nat} {q7 : Nat} {q8 : Nat} {q9 : Nat} {q10 : Nat} {q11 : Nat} {J : Nat → Int64}  {Q : (Nat → Int32) → (Nat → Int32) → Prop} {A : Nat → Prop} (S : CallFix p m c cX9_atFirst 2 s args wsX9_atFirst RX9) (hr : meth.sig.returnType = none) (hlocks : meth.locks = false) (hG : GK g s) (hA : ∀ q : Nat, s.heap.size ≤ q → A q) : ∀ (n : Nat), ∀ (x1 : Int32) (F : Nat → Int32) (td : Nat → Int32), vX9_atFirst_c2 J Q n x1 F td → ∀ (H : Heap) (locs : List Loc), va_P g.1 vwCl [(qM, .inr (9, [.int (F 0), .ref q1, .ref q2, .ref q3, .int (F 4), .int (F 5), .int (F 6), .int (F 7), .int (F 8), .int (F 9), .long (J 10), .int (F 11), .int (F 12), .int (F 13), .ref q4, .int (F 15), .ref q5, .ref q6, .ref q7, .int (F 19), .ref q8, .int (F 21), .int (F 22), .int (F 23), .int (F 24), .ref q9, .ref q10, .ref q11, .long (J 28)])), (q4, .inl (g.2 0, 94, .inl td))] H → va_D A [(qM, .inr (9, [.int (F 0), .ref q1, .ref q2, .ref q3, .int (F 4), .int (F 5), .int (F 6), .int (F 7), .int (F 8), .int (F 9), .long (J 10), .int (F 11), .int (F 12), .int (F 13), .ref q4, .int (F 15), .ref q5, .ref q6, .ref q7, .int (F 19), .ref q8, .int (F 21), .int (F 22), .int (F 23), .int (F 24), .ref q9, .ref q10, .ref q11, .long (J 28)])), (q4, .inl (g.2 0, 94, .inl td))] → va_S A s.heap H locs → ∀ (ls : Array Slot), lv_has ls 2 [(0, .ref qM), (1, .int x1)] → W p l e (headSpec wsX9_atFirst rmX9_atFirst).room s m args below meth c H locs 0 0 (MQ below (va_Qv (fun (u : (Nat → Int32) × (Nat → Int32)) => Q u.1 u.2) (fun (u : (Nat → Int32) × (Nat → Int32)) t => va_P g.1 vwCl [(qM, .inr (9, [.int (u.1 0), .ref q1, .ref q2, .ref q3, .int (u.1 4), .int (u.1 5), .int (u.1 6), .int (u.1 7), .int (u.1 8), .int (u.1 9), .long (J 10), .int (u.1 11), .int (u.1 12), .int (u.1 13), .ref q4, .int (u.1 15), .ref q5, .ref q6, .ref q7, .int (u.1 19), .ref q8, .int (u.1 21), .int (u.1 22), .int (u.1 23), .int (u.1 24), .ref q9, .ref q10, .ref q11, .long (J 28)])), (q4, .inl (g.2 0, 94, .inl u.2))] t.heap ∧ va_D A [(qM, .inr (9, [.int (u.1 0), .ref q1, .ref q2, .ref q3, .int (u.1 4), .int (u.1 5), .int (u.1 6), .int (u.1 7), .int (u.1 8), .int (u.1 9), .long (J 10), .int (u.1 11), .int (u.1 12), .int (u.1 13), .ref q4, .int (u.1 15), .ref q5, .ref q6, .ref q7, .int (u.1 19), .ref q8, .int (u.1 21), .int (u.1 22), .int (u.1 23), .int (u.1 24), .ref q9, .ref q10, .ref q11, .long (J 28)])), (q4, .inl (g.2 0, 94, .inl u.2))]) A) args s 0 0 A) (F0 m 2 ls []) := by
  obtain ⟨hx, hb, hml, hown, hts⟩ := id S
  have hK := hG.1
  intro n
  induction n with
  | zero => intro x1 F td hv; exact hv.elim
  | succ n ih =>
    intro x1 F td hv H locs hP hD hS ls hl
    refine lv_iload_n hx hb dX9_atFirst_2 rfl (lv_at hl 1 rfl) ?_
    refine lv_bipush (v := (94 : Int32)) hx hb dX9_atFirst_3 (by decide) ?_
    obtain ⟨hvt, hvf⟩ := hv
    refine lv_icmp_ge (tgt := 21) hx hb dX9_atFirst_5 (by decide) (fun hc => ?_) (fun hc => ?_)
    · have hv := hvt hc
      refine lv_aload_n hx hb dX9_atFirst_21 rfl (lv_at hl 0 rfl) ?_
      refine va_get (D := g.1) (ci := 9) (v := .ref q4) (C := RX9) (T := TX9) (N := 29) hx hb hts inX9_atFirst_9 hown hK hP 0 rfl rfl 14 (by decide) (hts (.fieldLink RX9 21 "RangeCodesModel" "told" "[I") (List.mem_of_getElem? (i := 1) rfl)) (fun _ h9 => h9) rfl dX9_atFirst_22 ?_
      refine lv_iconst (v := (1 : Int32)) hx hb dX9_atFirst_25 (by decide) ?_
      refine lv_sipush (v := (1000 : Int32)) hx hb dX9_atFirst_26 (by decide) ?_
      refine va_iast hx hb hK hP hD hS 1 0 rfl rfl (by unfold vp_in; decide) dX9_atFirst_29 (fun H locs hP hD hS => ?_)
      have hP : va_P g.1 vwCl [(qM, .inr (9, [.int (F 0), .ref q1, .ref q2, .ref q3, .int (F 4), .int (F 5), .int (F 6), .int (F 7), .int (F 8), .int (F 9), .long (J 10), .int (F 11), .int (F 12), .int (F 13), .ref q4, .int (F 15), .ref q5, .ref q6, .ref q7, .int (F 19), .ref q8, .int (F 21), .int (F 22), .int (F 23), .int (F 24), .ref q9, .ref q10, .ref q11, .long (J 28)])), (q4, .inl (g.2 0, 94, .inl (upd td 1 (1000 : Int32))))] H := hP
      have hD : va_D A [(qM, .inr (9, [.int (F 0), .ref q1, .ref q2, .ref q3, .int (F 4), .int (F 5), .int (F 6), .int (F 7), .int (F 8), .int (F 9), .long (J 10), .int (F 11), .int (F 12), .int (F 13), .ref q4, .int (F 15), .ref q5, .ref q6, .ref q7, .int (F 19), .ref q8, .int (F 21), .int (F 22), .int (F 23), .int (F 24), .ref q9, .ref q10, .ref q11, .long (J 28)])), (q4, .inl (g.2 0, 94, .inl (upd td 1 (1000 : Int32))))] := hD
      refine lv_iconst (v := (0 : Int32)) hx hb dX9_atFirst_30 (by decide) ?_
      refine lv_istore_n (lv' := [(1, .int (0 : Int32)), (0, .ref qM)]) hx hb dX9_atFirst_31 rfl hl (by decide) rfl (fun ls hl => ?_)
      obtain ⟨nn, hv⟩ := hv
      exact kX9_atFirst_c32 S hr hlocks hG hA nn _ _ _ hv _ _ (hP.sub (ws' := [(qM, .inr (9, [.int (F 0), .ref q1, .ref q2, .ref q3, .int (F 4), .int (F 5), .int (F 6), .int (F 7), .int (F 8), .int (F 9), .long (J 10), .int (F 11), .int (F 12), .int (F 13), .ref q4, .int (F 15), .ref q5, .ref q6, .ref q7, .int (F 19), .ref q8, .int (F 21), .int (F 22), .int (F 23), .int (F 24), .ref q9, .ref q10, .ref q11, .long (J 28)])), (q4, .inl (g.2 0, 94, .inl (upd td 1 (1000 : Int32))))]) [0, 1] rfl) (hD.sub (ws' := [(qM, .inr (9, [.int (F 0), .ref q1, .ref q2, .ref q3, .int (F 4), .int (F 5), .int (F 6), .int (F 7), .int (F 8), .int (F 9), .long (J 10), .int (F 11), .int (F 12), .int (F 13), .ref q4, .int (F 15), .ref q5, .ref q6, .ref q7, .int (F 19), .ref q8, .int (F 21), .int (F 22), .int (F 23), .int (F 24), .ref q9, .ref q10, .ref q11, .long (J 28)])), (q4, .inl (g.2 0, 94, .inl (upd td 1 (1000 : Int32))))]) [0, 1] (by decide) rfl) hS ls (lv_sub hl [1, 0] rfl)
    · have hv := hvf hc
      refine lv_aload_n hx hb dX9_atFirst_8 rfl (lv_at hl 0 rfl) ?_
      refine va_get (D := g.1) (ci := 9) (v := .ref q4) (C := RX9) (T := TX9) (N := 29) hx hb hts inX9_atFirst_9 hown hK hP 0 rfl rfl 14 (by decide) (hts (.fieldLink RX9 21 "RangeCodesModel" "told" "[I") (List.mem_of_getElem? (i := 1) rfl)) (fun _ h9 => h9) rfl dX9_atFirst_9 ?_
      refine lv_iload_n hx hb dX9_atFirst_12 rfl (lv_at hl 1 rfl) ?_
      refine lv_iconst (v := (0 : Int32)) hx hb dX9_atFirst_13 (by decide) ?_
      obtain ⟨ho_1, hv⟩ := hv
      refine va_iast hx hb hK hP hD hS 1 0 rfl rfl ho_1 dX9_atFirst_14 (fun H locs hP hD hS => ?_)
      have hP : va_P g.1 vwCl [(qM, .inr (9, [.int (F 0), .ref q1, .ref q2, .ref q3, .int (F 4), .int (F 5), .int (F 6), .int (F 7), .int (F 8), .int (F 9), .long (J 10), .int (F 11), .int (F 12), .int (F 13), .ref q4, .int (F 15), .ref q5, .ref q6, .ref q7, .int (F 19), .ref q8, .int (F 21), .int (F 22), .int (F 23), .int (F 24), .ref q9, .ref q10, .ref q11, .long (J 28)])), (q4, .inl (g.2 0, 94, .inl (upd td x1.toNatClampNeg (0 : Int32))))] H := hP
      have hD : va_D A [(qM, .inr (9, [.int (F 0), .ref q1, .ref q2, .ref q3, .int (F 4), .int (F 5), .int (F 6), .int (F 7), .int (F 8), .int (F 9), .long (J 10), .int (F 11), .int (F 12), .int (F 13), .ref q4, .int (F 15), .ref q5, .ref q6, .ref q7, .int (F 19), .ref q8, .int (F 21), .int (F 22), .int (F 23), .int (F 24), .ref q9, .ref q10, .ref q11, .long (J 28)])), (q4, .inl (g.2 0, 94, .inl (upd td x1.toNatClampNeg (0 : Int32))))] := hD
      refine lv_iinc (v := (x1 + (1 : Int32))) (lv' := [(1, .int (x1 + (1 : Int32))), (0, .ref qM)]) hx hb dX9_atFirst_15 hl (k := 1) rfl rfl (by decide) rfl (fun ls hl => ?_)
      refine lv_goto (tgt := 2) hx hb dX9_atFirst_18 (by decide) ?_
      exact ih _ _ _ hv _ _ (hP.sub (ws' := [(qM, .inr (9, [.int (F 0), .ref q1, .ref q2, .ref q3, .int (F 4), .int (F 5), .int (F 6), .int (F 7), .int (F 8), .int (F 9), .long (J 10), .int (F 11), .int (F 12), .int (F 13), .ref q4, .int (F 15), .ref q5, .ref q6, .ref q7, .int (F 19), .ref q8, .int (F 21), .int (F 22), .int (F 23), .int (F 24), .ref q9, .ref q10, .ref q11, .long (J 28)])), (q4, .inl (g.2 0, 94, .inl (upd td x1.toNatClampNeg (0 : Int32))))]) [0, 1] rfl) (hD.sub (ws' := [(qM, .inr (9, [.int (F 0), .ref q1, .ref q2, .ref q3, .int (F 4), .int (F 5), .int (F 6), .int (F 7), .int (F 8), .int (F 9), .long (J 10), .int (F 11), .int (F 12), .int (F 13), .ref q4, .int (F 15), .ref q5, .ref q6, .ref q7, .int (F 19), .ref q8, .int (F 21), .int (F 22), .int (F 23), .int (F 24), .ref q9, .ref q10, .ref q11, .long (J 28)])), (q4, .inl (g.2 0, 94, .inl (upd td x1.toNatClampNeg (0 : Int32))))]) [0, 1] (by decide) rfl) hS ls (lv_sub hl [1, 0] rfl)
def vX9_atFirst (F : Nat → Int32) (J : Nat → Int64) (td : Nat → Int32) (Q : (Nat → Int32) → (Nat → Int32) → Prop) : Prop := (∃ nn, vX9_atFirst_c2 J Q nn (0 : Int32) F td)
set_option maxHeartbeats 4000000 in
set_option maxRecDepth 100000 in
theorem wX9_atFirst (l : Launch) (g : GP) (qM : Nat) (q1 : Nat) (q2 : Nat) (q3 : Nat) (q4 : Nat) (q5 : Nat) (q6 : Nat) (q7 : Nat) (q8 : Nat) (q9 : Nat) (q10 : Nat) (q11 : Nat) (sz : Nat) (F : Nat → Int32) (J : Nat → Int64) (td : Nat → Int32) {Q : (Nat → Int32) → (Nat → Int32) → Prop} (hv : vX9_atFirst F J td Q) : Met l yX9_atFirst wsX9_atFirst rmX9_atFirst (va_Pc [.ref qM] (fun U => U.heap.size = sz ∧ va_P g.1 vwCl [(qM, .inr (9, [.int (F 0), .ref q1, .ref q2, .ref q3, .int (F 4), .int (F 5), .int (F 6), .int (F 7), .int (F 8), .int (F 9), .long (J 10), .int (F 11), .int (F 12), .int (F 13), .ref q4, .int (F 15), .ref q5, .ref q6, .ref q7, .int (F 19), .ref q8, .int (F 21), .int (F 22), .int (F 23), .int (F 24), .ref q9, .ref q10, .ref q11, .long (J 28)])), (q4, .inl (g.2 0, 94, .inl td))] U.heap ∧ GK g U ∧ va_D (fun _ => True) [(qM, .inr (9, [.int (F 0), .ref q1, .ref q2, .ref q3, .int (F 4), .int (F 5), .int (F 6), .int (F 7), .int (F 8), .int (F 9), .long (J 10), .int (F 11), .int (F 12), .int (F 13), .ref q4, .int (F 15), .ref q5, .ref q6, .ref q7, .int (F 19), .ref q8, .int (F 21), .int (F 22), .int (F 23), .int (F 24), .ref q9, .ref q10, .ref q11, .long (J 28)])), (q4, .inl (g.2 0, 94, .inl td))])) (va_Qv (fun (u : (Nat → Int32) × (Nat → Int32)) => Q u.1 u.2) (fun (u : (Nat → Int32) × (Nat → Int32)) t => va_P g.1 vwCl [(qM, .inr (9, [.int (u.1 0), .ref q1, .ref q2, .ref q3, .int (u.1 4), .int (u.1 5), .int (u.1 6), .int (u.1 7), .int (u.1 8), .int (u.1 9), .long (J 10), .int (u.1 11), .int (u.1 12), .int (u.1 13), .ref q4, .int (u.1 15), .ref q5, .ref q6, .ref q7, .int (u.1 19), .ref q8, .int (u.1 21), .int (u.1 22), .int (u.1 23), .int (u.1 24), .ref q9, .ref q10, .ref q11, .long (J 28)])), (q4, .inl (g.2 0, 94, .inl u.2))] t.heap ∧ va_D (va_A [(qM, .inr (9, [.int (F 0), .ref q1, .ref q2, .ref q3, .int (F 4), .int (F 5), .int (F 6), .int (F 7), .int (F 8), .int (F 9), .long (J 10), .int (F 11), .int (F 12), .int (F 13), .ref q4, .int (F 15), .ref q5, .ref q6, .ref q7, .int (F 19), .ref q8, .int (F 21), .int (F 22), .int (F 23), .int (F 24), .ref q9, .ref q10, .ref q11, .long (J 28)])), (q4, .inl (g.2 0, 94, .inl td))] sz) [(qM, .inr (9, [.int (u.1 0), .ref q1, .ref q2, .ref q3, .int (u.1 4), .int (u.1 5), .int (u.1 6), .int (u.1 7), .int (u.1 8), .int (u.1 9), .long (J 10), .int (u.1 11), .int (u.1 12), .int (u.1 13), .ref q4, .int (u.1 15), .ref q5, .ref q6, .ref q7, .int (u.1 19), .ref q8, .int (u.1 21), .int (u.1 22), .int (u.1 23), .int (u.1 24), .ref q9, .ref q10, .ref q11, .long (J 28)])), (q4, .inl (g.2 0, 94, .inl u.2))]) (va_A [(qM, .inr (9, [.int (F 0), .ref q1, .ref q2, .ref q3, .int (F 4), .int (F 5), .int (F 6), .int (F 7), .int (F 8), .int (F 9), .long (J 10), .int (F 11), .int (F 12), .int (F 13), .ref q4, .int (F 15), .ref q5, .ref q6, .ref q7, .int (F 19), .ref q8, .int (F 21), .int (F 22), .int (F 23), .int (F 24), .ref q9, .ref q10, .ref q11, .long (J 28)])), (q4, .inl (g.2 0, 94, .inl td))] sz)) 0 0 (va_A [(qM, .inr (9, [.int (F 0), .ref q1, .ref q2, .ref q3, .int (F 4), .int (F 5), .int (F 6), .int (F 7), .int (F 8), .int (F 9), .long (J 10), .int (F 11), .int (F 12), .int (F 13), .ref q4, .int (F 15), .ref q5, .ref q6, .ref q7, .int (F 19), .ref q8, .int (F 21), .int (F 22), .int (F 23), .int (F 24), .ref q9, .ref q10, .ref q11, .long (J 28)])), (q4, .inl (g.2 0, 94, .inl td))] sz) := by
  refine Met.ofW (cc := cX9_atFirst) (maxL := 2) (ret := none) (by decide) rfl ?_
  intro p e s m args below meth c s₁ B hml hv'
  obtain ⟨rfl, hsz, hP, hG, hD0⟩ := hv'
  have S : CallFix p m c cX9_atFirst 2 s _ wsX9_atFirst RX9 := ⟨B.exec, B.bytes, hml, findClass_of_methodNamed B.named, atoms_spec (ws := wsX9_atFirst) B.pre⟩
  obtain ⟨hx, hb, hml, hown, hts⟩ := id S
  have hK := hG.1
  have hr := B.returns
  have hlocks := B.notSynchronized
  subst hsz
  have hD := hD0.self (sz := s.heap.size)
  generalize hAe : va_A [(qM, .inr (9, [.int (F 0), .ref q1, .ref q2, .ref q3, .int (F 4), .int (F 5), .int (F 6), .int (F 7), .int (F 8), .int (F 9), .long (J 10), .int (F 11), .int (F 12), .int (F 13), .ref q4, .int (F 15), .ref q5, .ref q6, .ref q7, .int (F 19), .ref q8, .int (F 21), .int (F 22), .int (F 23), .int (F 24), .ref q9, .ref q10, .ref q11, .long (J 28)])), (q4, .inl (g.2 0, 94, .inl td))] s.heap.size = A at hD ⊢
  have hA : ∀ q : Nat, s.heap.size ≤ q → A q := fun q h => by rw [← hAe]; exact Or.inr h
  have hS : va_S A s.heap s.heap [] := va_S.rf
  clear hD0 hAe
  have hl := lv_entry ([.ref qM]) (n := 2) (Nat.le_of_ble_eq_true rfl)
  rw [lg_entry_eq]
  generalize (lg_sl ([.ref qM]) ++ List.replicate (2 - (lg_sl ([.ref qM])).length) Slot.unset).toArray = ls at hl ⊢
  have hl : lv_has ls 2 [(0, .ref qM)] := hl
  unfold vX9_atFirst at hv
  refine lv_iconst (v := (0 : Int32)) hx hb dX9_atFirst_0 (by decide) ?_
  refine lv_istore_n (lv' := [(1, .int (0 : Int32)), (0, .ref qM)]) hx hb dX9_atFirst_1 rfl hl (by decide) rfl (fun ls hl => ?_)
  obtain ⟨nn, hv⟩ := hv
  exact kX9_atFirst_c2 S hr hlocks hG hA nn _ _ _ hv _ _ (hP.sub (ws' := [(qM, .inr (9, [.int (F 0), .ref q1, .ref q2, .ref q3, .int (F 4), .int (F 5), .int (F 6), .int (F 7), .int (F 8), .int (F 9), .long (J 10), .int (F 11), .int (F 12), .int (F 13), .ref q4, .int (F 15), .ref q5, .ref q6, .ref q7, .int (F 19), .ref q8, .int (F 21), .int (F 22), .int (F 23), .int (F 24), .ref q9, .ref q10, .ref q11, .long (J 28)])), (q4, .inl (g.2 0, 94, .inl td))]) [0, 1] rfl) (hD.sub (ws' := [(qM, .inr (9, [.int (F 0), .ref q1, .ref q2, .ref q3, .int (F 4), .int (F 5), .int (F 6), .int (F 7), .int (F 8), .int (F 9), .long (J 10), .int (F 11), .int (F 12), .int (F 13), .ref q4, .int (F 15), .ref q5, .ref q6, .ref q7, .int (F 19), .ref q8, .int (F 21), .int (F 22), .int (F 23), .int (F 24), .ref q9, .ref q10, .ref q11, .long (J 28)])), (q4, .inl (g.2 0, 94, .inl td))]) [0, 1] (by decide) rfl) hS ls (lv_sub hl [1, 0] rfl)
abbrev preX9_atFirst (F : Nat → Int32) (J : Nat → Int64) (td : Nat → Int32) : Prop := True
abbrev postX9_atFirst (F : Nat → Int32) (J : Nat → Int64) (td : Nat → Int32) (F' : Nat → Int32) (td' : Nat → Int32) : Prop := F' 5 = F 5 ∧ (F' 4).toInt = 0 ∧ fm F' = (0, -1) ∧ fcR cZ gZ gZ 1000 td' ∧ (td' 0).toInt = 0 ∧ (td' 26).toInt = 0 ∧ (td' 63).toInt = 0
theorem fcR_Z {td : Nat → Int32} (h : ∀ k, k < 94 → (td k).toInt = if k = 1 then 1000 else if k = 23 ∨ k = 60 then 40 else 0) : fcR cZ gZ gZ 1000 td := by
  have hg : ∀ l, l < 2 → mG gZ l td := fun l hl => by
    refine ⟨okG_Z, ?_, fun j hj => ?_, fun j hj => absurd hj (Nat.not_lt_zero j)⟩
    · rw [h _ (by omega), if_neg (by omega), if_neg (by omega)]; rfl
    · show (td (20 + 37 * l + j)).toInt = if j = 3 then 40 else 0
      rw [h _ (by omega), if_neg (by omega)]
      by_cases e : j = 3
      · rw [if_pos (by omega), if_pos e]
      · rw [if_neg (by omega), if_neg e]
  refine ⟨⟨⟨by rw [h 0 (by omega)]; rfl, by decide⟩, fun p hp => absurd hp (Nat.not_lt_zero p), fun p hp => absurd hp (Nat.not_lt_zero p), fun p hp => absurd hp (Nat.not_lt_zero p)⟩, hg 0 (by omega), hg 1 (by omega), by rw [h 1 (by omega)]; rfl, by decide, by decide⟩
theorem sX9_atFirst_2 (F : Nat → Int32) (J : Nat → Int64) (td : Nat → Int32) : ∀ (n k : Nat) (x1 : Int32) (td' : Nat → Int32), x1.toInt = (k : Int) → k ≤ 94 → (∀ j, j < k → td' j = 0) → 95 ≤ k + n → vX9_atFirst_c2 J (postX9_atFirst F J td) n x1 F td'
  | 0, k, x1, td', _, hk, _, hf => absurd hf (by omega)
  | n + 1, k, x1, td', h1, hk, hz, hf => by
    rw [vX9_atFirst_c2, fa_le, z94, h1]
    refine ⟨fun c => ⟨3, ?_⟩, fun c => ⟨q_in h1 (by omega), sX9_atFirst_2 F J td n (k + 1) _ _ (q_1 h1 (by omega)) (by omega) (fun j hj => ?_) (by omega)⟩⟩
    · rw [vX9_atFirst_c32, vX9_atFirst_c32, vX9_atFirst_c32]
      refine ⟨fun q => absurd q (by decide), fun _ => ⟨by unfold vp_in; decide, fun q => absurd q (by decide), fun _ => ⟨by unfold vp_in; decide, fun _ => ?_, fun q => absurd (by decide) q⟩⟩⟩
      have e1 : (((20 : Int32) + ((37 : Int32) * (0 : Int32))) + (3 : Int32)).toNatClampNeg = 23 := by decide
      have e2 : (((20 : Int32) + ((37 : Int32) * ((0 : Int32) + (1 : Int32)))) + (3 : Int32)).toNatClampNeg = 60 := by decide
      rw [e1, e2]
      have hv : ∀ k, k < 94 → (upd (upd (upd td' 1 (1000 : Int32)) 23 (40 : Int32)) 60 (40 : Int32) k).toInt = if k = 1 then 1000 else if k = 23 ∨ k = 60 then 40 else 0 := fun j hj => by
        by_cases c1 : j = 60
        · subst c1; rw [upd_eq]; rfl
        · rw [upd_ne c1]
          by_cases c2 : j = 23
          · subst c2; rw [upd_eq]; rfl
          · rw [upd_ne c2]
            by_cases c3 : j = 1
            · subst c3; rw [upd_eq]; rfl
            · rw [upd_ne c3, hz j (by omega), if_neg c3, if_neg (by omega)]; rfl
      exact ⟨rfl, rfl, rfl, fcR_Z hv, by rw [hv 0 (by omega)]; rfl, by rw [hv 26 (by omega)]; rfl, by rw [hv 63 (by omega)]; rfl⟩
    · rw [q_cl h1]
      by_cases e : j = k
      · subst e; rw [upd_eq]
      · rw [upd_ne e]; exact hz j (by omega)
theorem sX9_atFirst (F : Nat → Int32) (J : Nat → Int64) (td : Nat → Int32) (H : preX9_atFirst F J td) : vX9_atFirst F J td (postX9_atFirst F J td) := ⟨95, sX9_atFirst_2 F J td 95 0 0 td rfl (by omega) (fun j hj => absurd hj (by omega)) (by omega)⟩
theorem dX9_taken_0 : decode cX9_taken 0 = .ok (.aload_n 0, 1) := by decide +kernel
theorem dX9_taken_1 : decode cX9_taken 1 = .ok (.getfield 7, 3) := by decide +kernel
theorem dX9_taken_4 : decode cX9_taken 4 = .ok (.iconst 0, 1) := by decide +kernel
theorem dX9_taken_5 : decode cX9_taken 5 = .ok (.aload_n 0, 1) := by decide +kernel
theorem dX9_taken_6 : decode cX9_taken 6 = .ok (.getfield 21, 3) := by decide +kernel
theorem dX9_taken_9 : decode cX9_taken 9 = .ok (.iconst 0, 1) := by decide +kernel
theorem dX9_taken_10 : decode cX9_taken 10 = .ok (.iaload, 1) := by decide +kernel
theorem dX9_taken_11 : decode cX9_taken 11 = .ok (.iastore, 1) := by decide +kernel
theorem dX9_taken_12 : decode cX9_taken 12 = .ok (.aload_n 0, 1) := by decide +kernel
theorem dX9_taken_13 : decode cX9_taken 13 = .ok (.getfield 7, 3) := by decide +kernel
theorem dX9_taken_16 : decode cX9_taken 16 = .ok (.iconst 1, 1) := by decide +kernel
theorem dX9_taken_17 : decode cX9_taken 17 = .ok (.aload_n 0, 1) := by decide +kernel
theorem dX9_taken_18 : decode cX9_taken 18 = .ok (.getfield 21, 3) := by decide +kernel
theorem dX9_taken_21 : decode cX9_taken 21 = .ok (.iconst 1, 1) := by decide +kernel
theorem dX9_taken_22 : decode cX9_taken 22 = .ok (.iaload, 1) := by decide +kernel
theorem dX9_taken_23 : decode cX9_taken 23 = .ok (.iastore, 1) := by decide +kernel
theorem dX9_taken_24 : decode cX9_taken 24 = .ok (.iconst 5, 1) := by decide +kernel
theorem dX9_taken_25 : decode cX9_taken 25 = .ok (.istore_n 1, 1) := by decide +kernel
theorem dX9_taken_26 : decode cX9_taken 26 = .ok (.iload_n 1, 1) := by decide +kernel
theorem dX9_taken_27 : decode cX9_taken 27 = .ok (.bipush 94, 2) := by decide +kernel
theorem dX9_taken_29 : decode cX9_taken 29 = .ok (.if_icmp .ge 21, 3) := by decide +kernel
theorem dX9_taken_32 : decode cX9_taken 32 = .ok (.aload_n 0, 1) := by decide +kernel
theorem dX9_taken_33 : decode cX9_taken 33 = .ok (.getfield 7, 3) := by decide +kernel
theorem dX9_taken_36 : decode cX9_taken 36 = .ok (.iload_n 1, 1) := by decide +kernel
theorem dX9_taken_37 : decode cX9_taken 37 = .ok (.aload_n 0, 1) := by decide +kernel
theorem dX9_taken_38 : decode cX9_taken 38 = .ok (.getfield 21, 3) := by decide +kernel
theorem dX9_taken_41 : decode cX9_taken 41 = .ok (.iload_n 1, 1) := by decide +kernel
theorem dX9_taken_42 : decode cX9_taken 42 = .ok (.iaload, 1) := by decide +kernel
theorem dX9_taken_43 : decode cX9_taken 43 = .ok (.iastore, 1) := by decide +kernel
theorem dX9_taken_44 : decode cX9_taken 44 = .ok (.iinc 1 1, 3) := by decide +kernel
theorem dX9_taken_47 : decode cX9_taken 47 = .ok (.goto (-21), 3) := by decide +kernel
theorem dX9_taken_50 : decode cX9_taken 50 = .ok (.return_, 1) := by decide +kernel
abbrev rmX9_taken : Room := { frames := 0, cells := 0, slots := 0, locals := 0 }
theorem inX9_taken_9 : ∀ w ∈ wsX90, w ∈ wsX9_taken := by decide +kernel
def vX9_taken_c26 (F : Nat → Int32) (J : Nat → Int64) (td : Nat → Int32) (Q : (Nat → Int32) → Prop) : Nat → Int32 → (Nat → Int32) → Prop
  | 0, _, _ => False
  | n + 1, x1, al => (((94 : Int32) ≤ x1 → (Q al)) ∧ (¬ (94 : Int32) ≤ x1 → (vp_in x1 94 ∧ (vp_in x1 376 ∧ (vX9_taken_c26 F J td Q n (x1 + (1 : Int32)) (upd al x1.toNatClampNeg (td x1.toNatClampNeg)))))))
set_option maxHeartbeats 4000000 in
set_option maxRecDepth 100000 in
theorem kX9_taken_c26 {p : Program} {l : Launch} {e : Env} {s : State} {m : MethodId} {args : Array Value} {below : List Frame} {meth : Method} {c : Code} {g : GP} {qM : Nat} {q1 : Nat} {q2 : Nat} {q3 : Nat} {q4 : Nat} {q5 : Nat} {q6 : Nat} {q7 : Nat} {q8 : Nat} {q9 : Nat} {q10 : Nat} {q11 : Nat} {F : Nat → Int32} {J : Nat → Int64} {td : Nat → Int32}  {Q : (Nat → Int32) → Prop} {A : Nat → Prop} (S : CallFix p m c cX9_taken 2 s args wsX9_taken RX9) (hr : meth.sig.returnType = none) (hlocks : meth.locks = false) (hG : GK g s) (hA : ∀ q : Nat, s.heap.size ≤ q → A q) : ∀ (n : Nat), ∀ (x1 : Int32) (al : Nat → Int32), vX9_taken_c26 F J td Q n x1 al → ∀ (H : Heap) (locs : List Loc), va_P g.1 vwCl [(qM, .inr (9, [.int (F 0), .ref q1, .ref q2, .ref q3, .int (F 4), .int (F 5), .int (F 6), .int (F 7), .int (F 8), .int (F 9), .long (J 10), .int (F 11), .int (F 12), .int (F 13), .ref q4, .int (F 15), .ref q5, .ref q6, .ref q7, .int (F 19), .ref q8, .int (F 21), .int (F 22), .int (F 23), .int (F 24), .ref q9, .ref q10, .ref q11, .long (J 28)])), (q1, .inl (g.2 0, 376, .inl al)), (q4, .inl (g.2 0, 94, .inl td))] H → va_D A [(qM, .inr (9, [.int (F 0), .ref q1, .ref q2, .ref q3, .int (F 4), .int (F 5), .int (F 6), .int (F 7), .int (F 8), .int (F 9), .long (J 10), .int (F 11), .int (F 12), .int (F 13), .ref q4, .int (F 15), .ref q5, .ref q6, .ref q7, .int (F 19), .ref q8, .int (F 21), .int (F 22), .int (F 23), .int (F 24), .ref q9, .ref q10, .ref q11, .long (J 28)])), (q1, .inl (g.2 0, 376, .inl al)), (q4, .inl (g.2 0, 94, .inl td))] → va_S A s.heap H locs → ∀ (ls : Array Slot), lv_has ls 2 [(0, .ref qM), (1, .int x1)] → W p l e (headSpec wsX9_taken rmX9_taken).room s m args below meth c H locs 0 0 (MQ below (va_Qv (fun (u : (Nat → Int32)) => Q u) (fun (u : (Nat → Int32)) t => va_P g.1 vwCl [(qM, .inr (9, [.int (F 0), .ref q1, .ref q2, .ref q3, .int (F 4), .int (F 5), .int (F 6), .int (F 7), .int (F 8), .int (F 9), .long (J 10), .int (F 11), .int (F 12), .int (F 13), .ref q4, .int (F 15), .ref q5, .ref q6, .ref q7, .int (F 19), .ref q8, .int (F 21), .int (F 22), .int (F 23), .int (F 24), .ref q9, .ref q10, .ref q11, .long (J 28)])), (q1, .inl (g.2 0, 376, .inl u)), (q4, .inl (g.2 0, 94, .inl td))] t.heap ∧ va_D A [(qM, .inr (9, [.int (F 0), .ref q1, .ref q2, .ref q3, .int (F 4), .int (F 5), .int (F 6), .int (F 7), .int (F 8), .int (F 9), .long (J 10), .int (F 11), .int (F 12), .int (F 13), .ref q4, .int (F 15), .ref q5, .ref q6, .ref q7, .int (F 19), .ref q8, .int (F 21), .int (F 22), .int (F 23), .int (F 24), .ref q9, .ref q10, .ref q11, .long (J 28)])), (q1, .inl (g.2 0, 376, .inl u)), (q4, .inl (g.2 0, 94, .inl td))]) A) args s 0 0 A) (F0 m 26 ls []) := by
  obtain ⟨hx, hb, hml, hown, hts⟩ := id S
  have hK := hG.1
  intro n
  induction n with
  | zero => intro x1 al hv; exact hv.elim
  | succ n ih =>
    intro x1 al hv H locs hP hD hS ls hl
    refine lv_iload_n hx hb dX9_taken_26 rfl (lv_at hl 1 rfl) ?_
    refine lv_bipush (v := (94 : Int32)) hx hb dX9_taken_27 (by decide) ?_
    obtain ⟨hvt, hvf⟩ := hv
    refine lv_icmp_ge (tgt := 50) hx hb dX9_taken_29 (by decide) (fun hc => ?_) (fun hc => ?_)
    · have hv := hvt hc
      have hP9 := hP.sub (ws' := [(qM, .inr (9, [.int (F 0), .ref q1, .ref q2, .ref q3, .int (F 4), .int (F 5), .int (F 6), .int (F 7), .int (F 8), .int (F 9), .long (J 10), .int (F 11), .int (F 12), .int (F 13), .ref q4, .int (F 15), .ref q5, .ref q6, .ref q7, .int (F 19), .ref q8, .int (F 21), .int (F 22), .int (F 23), .int (F 24), .ref q9, .ref q10, .ref q11, .long (J 28)])), (q1, .inl (g.2 0, 376, .inl al)), (q4, .inl (g.2 0, 94, .inl td))]) [0, 1, 2] rfl
      have hD9 := hD.sub (ws' := [(qM, .inr (9, [.int (F 0), .ref q1, .ref q2, .ref q3, .int (F 4), .int (F 5), .int (F 6), .int (F 7), .int (F 8), .int (F 9), .long (J 10), .int (F 11), .int (F 12), .int (F 13), .ref q4, .int (F 15), .ref q5, .ref q6, .ref q7, .int (F 19), .ref q8, .int (F 21), .int (F 22), .int (F 23), .int (F 24), .ref q9, .ref q10, .ref q11, .long (J 28)])), (q1, .inl (g.2 0, 376, .inl al)), (q4, .inl (g.2 0, 94, .inl td))]) [0, 1, 2] (by decide) rfl
      exact W.vret hx hb hr (fun t ht hW => ⟨⟨(al), rfl, hv, by rw [ht]; exact hP9, hD9⟩, hS.F ht⟩) hS.2.2 dX9_taken_50
    · have hv := hvf hc
      refine lv_aload_n hx hb dX9_taken_32 rfl (lv_at hl 0 rfl) ?_
      refine va_get (D := g.1) (ci := 9) (v := .ref q1) (C := RX9) (T := TX9) (N := 29) hx hb hts inX9_taken_9 hown hK hP 0 rfl rfl 1 (by decide) (hts (.fieldLink RX9 7 "RangeCodesModel" "all" "[I") (List.mem_of_getElem? (i := 1) rfl)) (fun _ h9 => h9) rfl dX9_taken_33 ?_
      refine lv_iload_n hx hb dX9_taken_36 rfl (lv_at hl 1 rfl) ?_
      refine lv_aload_n hx hb dX9_taken_37 rfl (lv_at hl 0 rfl) ?_
      refine va_get (D := g.1) (ci := 9) (v := .ref q4) (C := RX9) (T := TX9) (N := 29) hx hb hts inX9_taken_9 hown hK hP 0 rfl rfl 14 (by decide) (hts (.fieldLink RX9 21 "RangeCodesModel" "told" "[I") (List.mem_of_getElem? (i := 2) rfl)) (fun _ h9 => h9) rfl dX9_taken_38 ?_
      refine lv_iload_n hx hb dX9_taken_41 rfl (lv_at hl 1 rfl) ?_
      obtain ⟨ho_1, hv⟩ := hv
      refine va_iald hx hb hK hP 2 0 rfl rfl ho_1 dX9_taken_42 ?_
      obtain ⟨ho_2, hv⟩ := hv
      refine va_iast hx hb hK hP hD hS 1 0 rfl rfl ho_2 dX9_taken_43 (fun H locs hP hD hS => ?_)
      have hP : va_P g.1 vwCl [(qM, .inr (9, [.int (F 0), .ref q1, .ref q2, .ref q3, .int (F 4), .int (F 5), .int (F 6), .int (F 7), .int (F 8), .int (F 9), .long (J 10), .int (F 11), .int (F 12), .int (F 13), .ref q4, .int (F 15), .ref q5, .ref q6, .ref q7, .int (F 19), .ref q8, .int (F 21), .int (F 22), .int (F 23), .int (F 24), .ref q9, .ref q10, .ref q11, .long (J 28)])), (q1, .inl (g.2 0, 376, .inl (upd al x1.toNatClampNeg (td x1.toNatClampNeg)))), (q4, .inl (g.2 0, 94, .inl td))] H := hP
      have hD : va_D A [(qM, .inr (9, [.int (F 0), .ref q1, .ref q2, .ref q3, .int (F 4), .int (F 5), .int (F 6), .int (F 7), .int (F 8), .int (F 9), .long (J 10), .int (F 11), .int (F 12), .int (F 13), .ref q4, .int (F 15), .ref q5, .ref q6, .ref q7, .int (F 19), .ref q8, .int (F 21), .int (F 22), .int (F 23), .int (F 24), .ref q9, .ref q10, .ref q11, .long (J 28)])), (q1, .inl (g.2 0, 376, .inl (upd al x1.toNatClampNeg (td x1.toNatClampNeg)))), (q4, .inl (g.2 0, 94, .inl td))] := hD
      refine lv_iinc (v := (x1 + (1 : Int32))) (lv' := [(1, .int (x1 + (1 : Int32))), (0, .ref qM)]) hx hb dX9_taken_44 hl (k := 1) rfl rfl (by decide) rfl (fun ls hl => ?_)
      refine lv_goto (tgt := 26) hx hb dX9_taken_47 (by decide) ?_
      exact ih _ _ hv _ _ (hP.sub (ws' := [(qM, .inr (9, [.int (F 0), .ref q1, .ref q2, .ref q3, .int (F 4), .int (F 5), .int (F 6), .int (F 7), .int (F 8), .int (F 9), .long (J 10), .int (F 11), .int (F 12), .int (F 13), .ref q4, .int (F 15), .ref q5, .ref q6, .ref q7, .int (F 19), .ref q8, .int (F 21), .int (F 22), .int (F 23), .int (F 24), .ref q9, .ref q10, .ref q11, .long (J 28)])), (q1, .inl (g.2 0, 376, .inl (upd al x1.toNatClampNeg (td x1.toNatClampNeg)))), (q4, .inl (g.2 0, 94, .inl td))]) [0, 1, 2] rfl) (hD.sub (ws' := [(qM, .inr (9, [.int (F 0), .ref q1, .ref q2, .ref q3, .int (F 4), .int (F 5), .int (F 6), .int (F 7), .int (F 8), .int (F 9), .long (J 10), .int (F 11), .int (F 12), .int (F 13), .ref q4, .int (F 15), .ref q5, .ref q6, .ref q7, .int (F 19), .ref q8, .int (F 21), .int (F 22), .int (F 23), .int (F 24), .ref q9, .ref q10, .ref q11, .long (J 28)])), (q1, .inl (g.2 0, 376, .inl (upd al x1.toNatClampNeg (td x1.toNatClampNeg)))), (q4, .inl (g.2 0, 94, .inl td))]) [0, 1, 2] (by decide) rfl) hS ls (lv_sub hl [1, 0] rfl)
def vX9_taken (F : Nat → Int32) (J : Nat → Int64) (al : Nat → Int32) (td : Nat → Int32) (Q : (Nat → Int32) → Prop) : Prop := (∃ nn, vX9_taken_c26 F J td Q nn (5 : Int32) (upd (upd al 0 (td 0)) 1 (td 1)))
set_option maxHeartbeats 4000000 in
set_option maxRecDepth 100000 in
theorem wX9_taken (l : Launch) (g : GP) (qM : Nat) (q1 : Nat) (q2 : Nat) (q3 : Nat) (q4 : Nat) (q5 : Nat) (q6 : Nat) (q7 : Nat) (q8 : Nat) (q9 : Nat) (q10 : Nat) (q11 : Nat) (sz : Nat) (F : Nat → Int32) (J : Nat → Int64) (al : Nat → Int32) (td : Nat → Int32) {Q : (Nat → Int32) → Prop} (hv : vX9_taken F J al td Q) : Met l yX9_taken wsX9_taken rmX9_taken (va_Pc [.ref qM] (fun U => U.heap.size = sz ∧ va_P g.1 vwCl [(qM, .inr (9, [.int (F 0), .ref q1, .ref q2, .ref q3, .int (F 4), .int (F 5), .int (F 6), .int (F 7), .int (F 8), .int (F 9), .long (J 10), .int (F 11), .int (F 12), .int (F 13), .ref q4, .int (F 15), .ref q5, .ref q6, .ref q7, .int (F 19), .ref q8, .int (F 21), .int (F 22), .int (F 23), .int (F 24), .ref q9, .ref q10, .ref q11, .long (J 28)])), (q1, .inl (g.2 0, 376, .inl al)), (q4, .inl (g.2 0, 94, .inl td))] U.heap ∧ GK g U ∧ va_D (fun _ => True) [(qM, .inr (9, [.int (F 0), .ref q1, .ref q2, .ref q3, .int (F 4), .int (F 5), .int (F 6), .int (F 7), .int (F 8), .int (F 9), .long (J 10), .int (F 11), .int (F 12), .int (F 13), .ref q4, .int (F 15), .ref q5, .ref q6, .ref q7, .int (F 19), .ref q8, .int (F 21), .int (F 22), .int (F 23), .int (F 24), .ref q9, .ref q10, .ref q11, .long (J 28)])), (q1, .inl (g.2 0, 376, .inl al)), (q4, .inl (g.2 0, 94, .inl td))])) (va_Qv (fun (u : (Nat → Int32)) => Q u) (fun (u : (Nat → Int32)) t => va_P g.1 vwCl [(qM, .inr (9, [.int (F 0), .ref q1, .ref q2, .ref q3, .int (F 4), .int (F 5), .int (F 6), .int (F 7), .int (F 8), .int (F 9), .long (J 10), .int (F 11), .int (F 12), .int (F 13), .ref q4, .int (F 15), .ref q5, .ref q6, .ref q7, .int (F 19), .ref q8, .int (F 21), .int (F 22), .int (F 23), .int (F 24), .ref q9, .ref q10, .ref q11, .long (J 28)])), (q1, .inl (g.2 0, 376, .inl u)), (q4, .inl (g.2 0, 94, .inl td))] t.heap ∧ va_D (va_A [(qM, .inr (9, [.int (F 0), .ref q1, .ref q2, .ref q3, .int (F 4), .int (F 5), .int (F 6), .int (F 7), .int (F 8), .int (F 9), .long (J 10), .int (F 11), .int (F 12), .int (F 13), .ref q4, .int (F 15), .ref q5, .ref q6, .ref q7, .int (F 19), .ref q8, .int (F 21), .int (F 22), .int (F 23), .int (F 24), .ref q9, .ref q10, .ref q11, .long (J 28)])), (q1, .inl (g.2 0, 376, .inl al)), (q4, .inl (g.2 0, 94, .inl td))] sz) [(qM, .inr (9, [.int (F 0), .ref q1, .ref q2, .ref q3, .int (F 4), .int (F 5), .int (F 6), .int (F 7), .int (F 8), .int (F 9), .long (J 10), .int (F 11), .int (F 12), .int (F 13), .ref q4, .int (F 15), .ref q5, .ref q6, .ref q7, .int (F 19), .ref q8, .int (F 21), .int (F 22), .int (F 23), .int (F 24), .ref q9, .ref q10, .ref q11, .long (J 28)])), (q1, .inl (g.2 0, 376, .inl u)), (q4, .inl (g.2 0, 94, .inl td))]) (va_A [(qM, .inr (9, [.int (F 0), .ref q1, .ref q2, .ref q3, .int (F 4), .int (F 5), .int (F 6), .int (F 7), .int (F 8), .int (F 9), .long (J 10), .int (F 11), .int (F 12), .int (F 13), .ref q4, .int (F 15), .ref q5, .ref q6, .ref q7, .int (F 19), .ref q8, .int (F 21), .int (F 22), .int (F 23), .int (F 24), .ref q9, .ref q10, .ref q11, .long (J 28)])), (q1, .inl (g.2 0, 376, .inl al)), (q4, .inl (g.2 0, 94, .inl td))] sz)) 0 0 (va_A [(qM, .inr (9, [.int (F 0), .ref q1, .ref q2, .ref q3, .int (F 4), .int (F 5), .int (F 6), .int (F 7), .int (F 8), .int (F 9), .long (J 10), .int (F 11), .int (F 12), .int (F 13), .ref q4, .int (F 15), .ref q5, .ref q6, .ref q7, .int (F 19), .ref q8, .int (F 21), .int (F 22), .int (F 23), .int (F 24), .ref q9, .ref q10, .ref q11, .long (J 28)])), (q1, .inl (g.2 0, 376, .inl al)), (q4, .inl (g.2 0, 94, .inl td))] sz) := by
  refine Met.ofW (cc := cX9_taken) (maxL := 2) (ret := none) (by decide) rfl ?_
  intro p e s m args below meth c s₁ B hml hv'
  obtain ⟨rfl, hsz, hP, hG, hD0⟩ := hv'
  have S : CallFix p m c cX9_taken 2 s _ wsX9_taken RX9 := ⟨B.exec, B.bytes, hml, findClass_of_methodNamed B.named, atoms_spec (ws := wsX9_taken) B.pre⟩
  obtain ⟨hx, hb, hml, hown, hts⟩ := id S
  have hK := hG.1
  have hr := B.returns
  have hlocks := B.notSynchronized
  subst hsz
  have hD := hD0.self (sz := s.heap.size)
  generalize hAe : va_A [(qM, .inr (9, [.int (F 0), .ref q1, .ref q2, .ref q3, .int (F 4), .int (F 5), .int (F 6), .int (F 7), .int (F 8), .int (F 9), .long (J 10), .int (F 11), .int (F 12), .int (F 13), .ref q4, .int (F 15), .ref q5, .ref q6, .ref q7, .int (F 19), .ref q8, .int (F 21), .int (F 22), .int (F 23), .int (F 24), .ref q9, .ref q10, .ref q11, .long (J 28)])), (q1, .inl (g.2 0, 376, .inl al)), (q4, .inl (g.2 0, 94, .inl td))] s.heap.size = A at hD ⊢
  have hA : ∀ q : Nat, s.heap.size ≤ q → A q := fun q h => by rw [← hAe]; exact Or.inr h
  have hS : va_S A s.heap s.heap [] := va_S.rf
  clear hD0 hAe
  have hl := lv_entry ([.ref qM]) (n := 2) (Nat.le_of_ble_eq_true rfl)
  rw [lg_entry_eq]
  generalize (lg_sl ([.ref qM]) ++ List.replicate (2 - (lg_sl ([.ref qM])).length) Slot.unset).toArray = ls at hl ⊢
  have hl : lv_has ls 2 [(0, .ref qM)] := hl
  unfold vX9_taken at hv
  refine lv_aload_n hx hb dX9_taken_0 rfl (lv_at hl 0 rfl) ?_
  refine va_get (D := g.1) (ci := 9) (v := .ref q1) (C := RX9) (T := TX9) (N := 29) hx hb hts inX9_taken_9 hown hK hP 0 rfl rfl 1 (by decide) (hts (.fieldLink RX9 7 "RangeCodesModel" "all" "[I") (List.mem_of_getElem? (i := 1) rfl)) (fun _ h9 => h9) rfl dX9_taken_1 ?_
  refine lv_iconst (v := (0 : Int32)) hx hb dX9_taken_4 (by decide) ?_
  refine lv_aload_n hx hb dX9_taken_5 rfl (lv_at hl 0 rfl) ?_
  refine va_get (D := g.1) (ci := 9) (v := .ref q4) (C := RX9) (T := TX9) (N := 29) hx hb hts inX9_taken_9 hown hK hP 0 rfl rfl 14 (by decide) (hts (.fieldLink RX9 21 "RangeCodesModel" "told" "[I") (List.mem_of_getElem? (i := 2) rfl)) (fun _ h9 => h9) rfl dX9_taken_6 ?_
  refine lv_iconst (v := (0 : Int32)) hx hb dX9_taken_9 (by decide) ?_
  refine va_iald hx hb hK hP 2 0 rfl rfl (by unfold vp_in; decide) dX9_taken_10 ?_
  refine va_iast hx hb hK hP hD hS 1 0 rfl rfl (by unfold vp_in; decide) dX9_taken_11 (fun H locs hP hD hS => ?_)
  have hP : va_P g.1 vwCl [(qM, .inr (9, [.int (F 0), .ref q1, .ref q2, .ref q3, .int (F 4), .int (F 5), .int (F 6), .int (F 7), .int (F 8), .int (F 9), .long (J 10), .int (F 11), .int (F 12), .int (F 13), .ref q4, .int (F 15), .ref q5, .ref q6, .ref q7, .int (F 19), .ref q8, .int (F 21), .int (F 22), .int (F 23), .int (F 24), .ref q9, .ref q10, .ref q11, .long (J 28)])), (q1, .inl (g.2 0, 376, .inl (upd al 0 (td 0)))), (q4, .inl (g.2 0, 94, .inl td))] H := hP
  have hD : va_D A [(qM, .inr (9, [.int (F 0), .ref q1, .ref q2, .ref q3, .int (F 4), .int (F 5), .int (F 6), .int (F 7), .int (F 8), .int (F 9), .long (J 10), .int (F 11), .int (F 12), .int (F 13), .ref q4, .int (F 15), .ref q5, .ref q6, .ref q7, .int (F 19), .ref q8, .int (F 21), .int (F 22), .int (F 23), .int (F 24), .ref q9, .ref q10, .ref q11, .long (J 28)])), (q1, .inl (g.2 0, 376, .inl (upd al 0 (td 0)))), (q4, .inl (g.2 0, 94, .inl td))] := hD
  refine lv_aload_n hx hb dX9_taken_12 rfl (lv_at hl 0 rfl) ?_
  refine va_get (D := g.1) (ci := 9) (v := .ref q1) (C := RX9) (T := TX9) (N := 29) hx hb hts inX9_taken_9 hown hK hP 0 rfl rfl 1 (by decide) (hts (.fieldLink RX9 7 "RangeCodesModel" "all" "[I") (List.mem_of_getElem? (i := 1) rfl)) (fun _ h9 => h9) rfl dX9_taken_13 ?_
  refine lv_iconst (v := (1 : Int32)) hx hb dX9_taken_16 (by decide) ?_
  refine lv_aload_n hx hb dX9_taken_17 rfl (lv_at hl 0 rfl) ?_
  refine va_get (D := g.1) (ci := 9) (v := .ref q4) (C := RX9) (T := TX9) (N := 29) hx hb hts inX9_taken_9 hown hK hP 0 rfl rfl 14 (by decide) (hts (.fieldLink RX9 21 "RangeCodesModel" "told" "[I") (List.mem_of_getElem? (i := 2) rfl)) (fun _ h9 => h9) rfl dX9_taken_18 ?_
  refine lv_iconst (v := (1 : Int32)) hx hb dX9_taken_21 (by decide) ?_
  refine va_iald hx hb hK hP 2 0 rfl rfl (by unfold vp_in; decide) dX9_taken_22 ?_
  refine va_iast hx hb hK hP hD hS 1 0 rfl rfl (by unfold vp_in; decide) dX9_taken_23 (fun H locs hP hD hS => ?_)
  have hP : va_P g.1 vwCl [(qM, .inr (9, [.int (F 0), .ref q1, .ref q2, .ref q3, .int (F 4), .int (F 5), .int (F 6), .int (F 7), .int (F 8), .int (F 9), .long (J 10), .int (F 11), .int (F 12), .int (F 13), .ref q4, .int (F 15), .ref q5, .ref q6, .ref q7, .int (F 19), .ref q8, .int (F 21), .int (F 22), .int (F 23), .int (F 24), .ref q9, .ref q10, .ref q11, .long (J 28)])), (q1, .inl (g.2 0, 376, .inl (upd (upd al 0 (td 0)) 1 (td 1)))), (q4, .inl (g.2 0, 94, .inl td))] H := hP
  have hD : va_D A [(qM, .inr (9, [.int (F 0), .ref q1, .ref q2, .ref q3, .int (F 4), .int (F 5), .int (F 6), .int (F 7), .int (F 8), .int (F 9), .long (J 10), .int (F 11), .int (F 12), .int (F 13), .ref q4, .int (F 15), .ref q5, .ref q6, .ref q7, .int (F 19), .ref q8, .int (F 21), .int (F 22), .int (F 23), .int (F 24), .ref q9, .ref q10, .ref q11, .long (J 28)])), (q1, .inl (g.2 0, 376, .inl (upd (upd al 0 (td 0)) 1 (td 1)))), (q4, .inl (g.2 0, 94, .inl td))] := hD
  refine lv_iconst (v := (5 : Int32)) hx hb dX9_taken_24 (by decide) ?_
  refine lv_istore_n (lv' := [(1, .int (5 : Int32)), (0, .ref qM)]) hx hb dX9_taken_25 rfl hl (by decide) rfl (fun ls hl => ?_)
  obtain ⟨nn, hv⟩ := hv
  exact kX9_taken_c26 S hr hlocks hG hA nn _ _ hv _ _ (hP.sub (ws' := [(qM, .inr (9, [.int (F 0), .ref q1, .ref q2, .ref q3, .int (F 4), .int (F 5), .int (F 6), .int (F 7), .int (F 8), .int (F 9), .long (J 10), .int (F 11), .int (F 12), .int (F 13), .ref q4, .int (F 15), .ref q5, .ref q6, .ref q7, .int (F 19), .ref q8, .int (F 21), .int (F 22), .int (F 23), .int (F 24), .ref q9, .ref q10, .ref q11, .long (J 28)])), (q1, .inl (g.2 0, 376, .inl (upd (upd al 0 (td 0)) 1 (td 1)))), (q4, .inl (g.2 0, 94, .inl td))]) [0, 1, 2] rfl) (hD.sub (ws' := [(qM, .inr (9, [.int (F 0), .ref q1, .ref q2, .ref q3, .int (F 4), .int (F 5), .int (F 6), .int (F 7), .int (F 8), .int (F 9), .long (J 10), .int (F 11), .int (F 12), .int (F 13), .ref q4, .int (F 15), .ref q5, .ref q6, .ref q7, .int (F 19), .ref q8, .int (F 21), .int (F 22), .int (F 23), .int (F 24), .ref q9, .ref q10, .ref q11, .long (J 28)])), (q1, .inl (g.2 0, 376, .inl (upd (upd al 0 (td 0)) 1 (td 1)))), (q4, .inl (g.2 0, 94, .inl td))]) [0, 1, 2] (by decide) rfl) hS ls (lv_sub hl [1, 0] rfl)
abbrev preX9_taken (T : Cd) (G0 : Lg) (G1 : Lg) (lim : Nat) (F : Nat → Int32) (J : Nat → Int64) (al : Nat → Int32) (td : Nat → Int32) : Prop := fcR T G0 G1 lim td
abbrev postX9_taken (T : Cd) (G0 : Lg) (G1 : Lg) (lim : Nat) (F : Nat → Int32) (J : Nat → Int64) (al : Nat → Int32) (td : Nat → Int32) (al' : Nat → Int32) : Prop := fcR T G0 G1 lim al' ∧ kpA al al' ∧ al' 0 = td 0
theorem sX9_taken_26 (T : Cd) (G0 : Lg) (G1 : Lg) (lim : Nat) (F : Nat → Int32) (J : Nat → Int64) (al : Nat → Int32) (td : Nat → Int32) (H : preX9_taken T G0 G1 lim F J al td) : ∀ (n k : Nat) (x1 : Int32) (al' : Nat → Int32), x1.toInt = (k : Int) → 5 ≤ k → k ≤ 94 → al' 0 = td 0 → al' 1 = td 1 → (∀ j, 5 ≤ j → j < k → al' j = td j) → kpA al al' → 95 ≤ k + n → vX9_taken_c26 F J td (postX9_taken T G0 G1 lim F J al td) n x1 al'
  | 0, k, x1, al', _, _, hk, _, _, _, _, hf => absurd hf (by omega)
  | n + 1, k, x1, al', h1, h5, hk, h0, h01, hz, hkp, hf => by
    rw [vX9_taken_c26, fa_le, z94, h1]
    refine ⟨fun c => ?_, fun c => ⟨q_in h1 (by omega), q_in h1 (by omega), sX9_taken_26 T G0 G1 lim F J al td H n (k + 1) _ _ (q_1 h1 (by omega)) (by omega) (by omega) ?_ ?_ (fun j hj1 hj2 => ?_) ?_ (by omega)⟩⟩
    · obtain ⟨f1, f2, f3, f4, f5, f6⟩ := H
      have e94 : k = 94 := by omega
      subst e94
      have hn := f1.1.2
      refine ⟨⟨⟨by rw [h0]; exact f1.1, fun p hp => ?_, fun p hp => ?_, fun p hp => ?_⟩, mG_cong f2 (fun k _ _ => hz k (by omega) (by omega)), mG_cong f3 (fun k _ _ => hz k (by omega) (by omega)), by rw [h01]; exact f4, f5, f6⟩, hkp, h0⟩
      · show (al' (5 + 3 * p)).toInt = _ ∧ _
        rw [hz _ (by omega) (by omega)]; exact f1.2.1 p hp
      · show (al' (6 + 3 * p)).toInt = _ ∧ _
        rw [hz _ (by omega) (by omega)]; exact f1.2.2.1 p hp
      · show (al' (7 + 3 * p)).toInt = _ ∧ _
        rw [hz _ (by omega) (by omega)]; exact f1.2.2.2 p hp
    · rw [q_cl h1, upd_ne (by omega)]; exact h0
    · rw [q_cl h1, upd_ne (by omega)]; exact h01
    · rw [q_cl h1]
      by_cases e : j = k
      · subst e; rw [upd_eq]
      · rw [upd_ne e]; exact hz j hj1 (by omega)
    · rw [q_cl h1]; exact kpA_tr hkp (kpA_up (by omega))
theorem sX9_taken (T : Cd) (G0 : Lg) (G1 : Lg) (lim : Nat) (F : Nat → Int32) (J : Nat → Int64) (al : Nat → Int32) (td : Nat → Int32) (H : preX9_taken T G0 G1 lim F J al td) : vX9_taken F J al td (postX9_taken T G0 G1 lim F J al td) := ⟨95, sX9_taken_26 T G0 G1 lim F J al td H 95 5 5 _ rfl (by omega) (by omega) (by rw [upd_ne (by omega), upd_eq]) (by rw [upd_eq]) (fun j h1 h2 => absurd h2 (by omega)) (kpA_tr (kpA_up (by omega)) (kpA_up (by omega))) (by omega)⟩
set_option maxRecDepth 20000 in
theorem ggX9_tune_X9_atFirst : GoodIn wsX9_tune wsX9_atFirst := goodIn_r _ [12, 13, 5, 6, 14, 95, 96, 97, 98, 99, 100, 101, 102, 103, 104, 105, 106, 107, 108, 109, 110, 111, 112, 113, 114, 115, 116, 117, 118, 119, 120, 121, 122, 123] (by decide +kernel) (by decide +kernel)
set_option maxRecDepth 20000 in
theorem gX9_tune_X9_atFirst : GoodIn wsX9_tune (wsV RX9 45 RX9 yX9_atFirst wsX9_atFirst) := goodIn_app (goodIn_of _ (by decide +kernel)) ggX9_tune_X9_atFirst
set_option maxRecDepth 20000 in
theorem ggX9_tune_X9_token : GoodIn wsX9_tune wsX9_token := goodIn_r _ [18, 14, 19, 20, 4, 21, 22, 23, 24, 25, 11, 26, 3, 27, 28, 29, 30, 95, 96, 97, 98, 99, 100, 101, 102, 103, 104, 105, 106, 107, 108, 109, 110, 111, 112, 113, 114, 115, 116, 117, 118, 119, 120, 121, 122, 123] (by decide +kernel) (by decide +kernel)
set_option maxRecDepth 20000 in
theorem gX9_tune_X9_token : GoodIn wsX9_tune (wsV RX9 115 RX9 yX9_token wsX9_token) := goodIn_app (goodIn_of _ (by decide +kernel)) ggX9_tune_X9_token
set_option maxRecDepth 20000 in
theorem ggX9_tune_X9_line : GoodIn wsX9_tune wsX9_line := goodIn_r _ [34, 4, 20, 35, 36, 37, 38, 13, 39, 40, 41, 42, 11, 43, 19, 21, 44, 45, 46, 47, 5, 6, 15, 16, 17, 18, 14, 22, 23, 24, 25, 26, 3, 27, 28, 29, 30, 48, 49, 50, 51, 52, 53, 54, 55, 7, 56, 57, 58, 59, 60, 61, 62, 63, 64, 65, 66, 67, 68, 69, 70, 71, 72, 73, 74, 75, 76, 77, 78, 79, 80, 81, 82, 83, 84, 85, 86, 87, 88, 89, 90, 95, 96, 97, 98, 99, 100, 101, 102, 103, 104, 105, 106, 107, 108, 109, 110, 111, 112, 113, 114, 115, 116, 117, 118, 119, 120, 121, 122, 123] (by decide +kernel) (by decide +kernel)
set_option maxRecDepth 20000 in
theorem gX9_tune_X9_line : GoodIn wsX9_tune (wsV RX9 179 RX9 yX9_line wsX9_line) := goodIn_app (goodIn_of _ (by decide +kernel)) ggX9_tune_X9_line
set_option maxRecDepth 20000 in
theorem ggX9_tune_X9_fails : GoodIn wsX9_tune wsX9_fails := goodIn_r _ [55, 19, 7, 95, 96, 97, 98, 99, 100, 101, 102, 103, 104, 105, 106, 107, 108, 109, 110, 111, 112, 113, 114, 115, 116, 117, 118, 119, 120, 121, 122, 123] (by decide +kernel) (by decide +kernel)
set_option maxRecDepth 20000 in
theorem gX9_tune_X9_fails : GoodIn wsX9_tune (wsV RX9 104 RX9 yX9_fails wsX9_fails) := goodIn_app (goodIn_of _ (by decide +kernel)) ggX9_tune_X9_fails
set_option maxRecDepth 20000 in
theorem ggX9_tune_X9_taken : GoodIn wsX9_tune wsX9_taken := goodIn_r _ [94, 2, 13, 95, 96, 97, 98, 99, 100, 101, 102, 103, 104, 105, 106, 107, 108, 109, 110, 111, 112, 113, 114, 115, 116, 117, 118, 119, 120, 121, 122, 123] (by decide +kernel) (by decide +kernel)
set_option maxRecDepth 20000 in
theorem gX9_tune_X9_taken : GoodIn wsX9_tune (wsV RX9 48 RX9 yX9_taken wsX9_taken) := goodIn_app (goodIn_of _ (by decide +kernel)) ggX9_tune_X9_taken
theorem dX9_tune_0 : decode cX9_tune 0 = .ok (.aload_n 0, 1) := by decide +kernel
theorem dX9_tune_1 : decode cX9_tune 1 = .ok (.iconst 0, 1) := by decide +kernel
theorem dX9_tune_2 : decode cX9_tune 2 = .ok (.putfield 51, 3) := by decide +kernel
theorem dX9_tune_5 : decode cX9_tune 5 = .ok (.aload_n 0, 1) := by decide +kernel
theorem dX9_tune_6 : decode cX9_tune 6 = .ok (.aload_n 0, 1) := by decide +kernel
theorem dX9_tune_7 : decode cX9_tune 7 = .ok (.getfield 7, 3) := by decide +kernel
theorem dX9_tune_10 : decode cX9_tune 10 = .ok (.iconst 2, 1) := by decide +kernel
theorem dX9_tune_11 : decode cX9_tune 11 = .ok (.iaload, 1) := by decide +kernel
theorem dX9_tune_12 : decode cX9_tune 12 = .ok (.putfield 72, 3) := by decide +kernel
theorem dX9_tune_15 : decode cX9_tune 15 = .ok (.aload_n 0, 1) := by decide +kernel
theorem dX9_tune_16 : decode cX9_tune 16 = .ok (.getfield 7, 3) := by decide +kernel
theorem dX9_tune_19 : decode cX9_tune 19 = .ok (.iconst 2, 1) := by decide +kernel
theorem dX9_tune_20 : decode cX9_tune 20 = .ok (.iconst 0, 1) := by decide +kernel
theorem dX9_tune_21 : decode cX9_tune 21 = .ok (.iastore, 1) := by decide +kernel
theorem dX9_tune_22 : decode cX9_tune 22 = .ok (.aload_n 0, 1) := by decide +kernel
theorem dX9_tune_23 : decode cX9_tune 23 = .ok (.invokevirtual 45, 3) := by decide +kernel
theorem dX9_tune_26 : decode cX9_tune 26 = .ok (.aload_n 0, 1) := by decide +kernel
theorem dX9_tune_27 : decode cX9_tune 27 = .ok (.invokevirtual 115, 3) := by decide +kernel
theorem dX9_tune_30 : decode cX9_tune 30 = .ok (.iconst 1, 1) := by decide +kernel
theorem dX9_tune_31 : decode cX9_tune 31 = .ok (.istore_n 1, 1) := by decide +kernel
theorem dX9_tune_32 : decode cX9_tune 32 = .ok (.iload_n 1, 1) := by decide +kernel
theorem dX9_tune_33 : decode cX9_tune 33 = .ok (.ifCond .eq 43, 3) := by decide +kernel
theorem dX9_tune_36 : decode cX9_tune 36 = .ok (.aload_n 0, 1) := by decide +kernel
theorem dX9_tune_37 : decode cX9_tune 37 = .ok (.getfield 86, 3) := by decide +kernel
theorem dX9_tune_40 : decode cX9_tune 40 = .ok (.ifCond .eq 36, 3) := by decide +kernel
theorem dX9_tune_43 : decode cX9_tune 43 = .ok (.aload_n 0, 1) := by decide +kernel
theorem dX9_tune_44 : decode cX9_tune 44 = .ok (.invokevirtual 179, 3) := by decide +kernel
theorem dX9_tune_47 : decode cX9_tune 47 = .ok (.istore_n 1, 1) := by decide +kernel
theorem dX9_tune_48 : decode cX9_tune 48 = .ok (.iload_n 1, 1) := by decide +kernel
theorem dX9_tune_49 : decode cX9_tune 49 = .ok (.ifCond .eq 16, 3) := by decide +kernel
theorem dX9_tune_52 : decode cX9_tune 52 = .ok (.aload_n 0, 1) := by decide +kernel
theorem dX9_tune_53 : decode cX9_tune 53 = .ok (.getfield 86, 3) := by decide +kernel
theorem dX9_tune_56 : decode cX9_tune 56 = .ok (.iconst 4, 1) := by decide +kernel
theorem dX9_tune_57 : decode cX9_tune 57 = .ok (.if_icmp .eq 8, 3) := by decide +kernel
theorem dX9_tune_60 : decode cX9_tune 60 = .ok (.aload_n 0, 1) := by decide +kernel
theorem dX9_tune_61 : decode cX9_tune 61 = .ok (.invokevirtual 104, 3) := by decide +kernel
theorem dX9_tune_64 : decode cX9_tune 64 = .ok (.istore_n 1, 1) := by decide +kernel
theorem dX9_tune_65 : decode cX9_tune 65 = .ok (.iload_n 1, 1) := by decide +kernel
theorem dX9_tune_66 : decode cX9_tune 66 = .ok (.ifCond .eq (-34), 3) := by decide +kernel
theorem dX9_tune_69 : decode cX9_tune 69 = .ok (.aload_n 0, 1) := by decide +kernel
theorem dX9_tune_70 : decode cX9_tune 70 = .ok (.invokevirtual 115, 3) := by decide +kernel
theorem dX9_tune_73 : decode cX9_tune 73 = .ok (.goto (-41), 3) := by decide +kernel
theorem dX9_tune_76 : decode cX9_tune 76 = .ok (.aload_n 0, 1) := by decide +kernel
theorem dX9_tune_77 : decode cX9_tune 77 = .ok (.getfield 7, 3) := by decide +kernel
theorem dX9_tune_80 : decode cX9_tune 80 = .ok (.iconst 3, 1) := by decide +kernel
theorem dX9_tune_81 : decode cX9_tune 81 = .ok (.iload_n 1, 1) := by decide +kernel
theorem dX9_tune_82 : decode cX9_tune 82 = .ok (.ifCond .eq 10, 3) := by decide +kernel
theorem dX9_tune_85 : decode cX9_tune 85 = .ok (.aload_n 0, 1) := by decide +kernel
theorem dX9_tune_86 : decode cX9_tune 86 = .ok (.getfield 98, 3) := by decide +kernel
theorem dX9_tune_89 : decode cX9_tune 89 = .ok (.goto 4, 3) := by decide +kernel
theorem dX9_tune_92 : decode cX9_tune 92 = .ok (.iconst 1, 1) := by decide +kernel
theorem dX9_tune_93 : decode cX9_tune 93 = .ok (.iastore, 1) := by decide +kernel
theorem dX9_tune_94 : decode cX9_tune 94 = .ok (.aload_n 0, 1) := by decide +kernel
theorem dX9_tune_95 : decode cX9_tune 95 = .ok (.getfield 7, 3) := by decide +kernel
theorem dX9_tune_98 : decode cX9_tune 98 = .ok (.iconst 4, 1) := by decide +kernel
theorem dX9_tune_99 : decode cX9_tune 99 = .ok (.iload_n 1, 1) := by decide +kernel
theorem dX9_tune_100 : decode cX9_tune 100 = .ok (.ifCond .eq 10, 3) := by decide +kernel
theorem dX9_tune_103 : decode cX9_tune 103 = .ok (.aload_n 0, 1) := by decide +kernel
theorem dX9_tune_104 : decode cX9_tune 104 = .ok (.getfield 101, 3) := by decide +kernel
theorem dX9_tune_107 : decode cX9_tune 107 = .ok (.goto 7, 3) := by decide +kernel
theorem dX9_tune_110 : decode cX9_tune 110 = .ok (.aload_n 0, 1) := by decide +kernel
theorem dX9_tune_111 : decode cX9_tune 111 = .ok (.getfield 95, 3) := by decide +kernel
theorem dX9_tune_114 : decode cX9_tune 114 = .ok (.iastore, 1) := by decide +kernel
theorem dX9_tune_115 : decode cX9_tune 115 = .ok (.aload_n 0, 1) := by decide +kernel
theorem dX9_tune_116 : decode cX9_tune 116 = .ok (.getfield 7, 3) := by decide +kernel
theorem dX9_tune_119 : decode cX9_tune 119 = .ok (.iconst 3, 1) := by decide +kernel
theorem dX9_tune_120 : decode cX9_tune 120 = .ok (.iaload, 1) := by decide +kernel
theorem dX9_tune_121 : decode cX9_tune 121 = .ok (.ifCond .eq 5, 3) := by decide +kernel
theorem dX9_tune_124 : decode cX9_tune 124 = .ok (.iconst (-1), 1) := by decide +kernel
theorem dX9_tune_125 : decode cX9_tune 125 = .ok (.ireturn, 1) := by decide +kernel
theorem dX9_tune_126 : decode cX9_tune 126 = .ok (.aload_n 0, 1) := by decide +kernel
theorem dX9_tune_127 : decode cX9_tune 127 = .ok (.invokevirtual 48, 3) := by decide +kernel
theorem dX9_tune_130 : decode cX9_tune 130 = .ok (.aload_n 0, 1) := by decide +kernel
theorem dX9_tune_131 : decode cX9_tune 131 = .ok (.getfield 7, 3) := by decide +kernel
theorem dX9_tune_134 : decode cX9_tune 134 = .ok (.iconst 0, 1) := by decide +kernel
theorem dX9_tune_135 : decode cX9_tune 135 = .ok (.iaload, 1) := by decide +kernel
theorem dX9_tune_136 : decode cX9_tune 136 = .ok (.ireturn, 1) := by decide +kernel
abbrev rmX9_tune : Room := { frames := 6, cells := 0, slots := 0, locals := 138 }
theorem inX9_tune_9 : ∀ w ∈ wsX90, w ∈ wsX9_tune := by decide +kernel
def vX9_tune_c114 (tx : Nat → Int32) (Q : Int32 → (Nat → Int32) → (Nat → Int64) → (Nat → Int32) → (Nat → Int32) → Prop) (s0 : Int32) (s1 : Int32) (F : Nat → Int32) (J : Nat → Int64) (al : Nat → Int32) (td : Nat → Int32) : Prop := (vp_in s1 376 ∧ ((((upd al s1.toNatClampNeg s0) 3) = 0 → (∃ (T_127 : Cd) (G0_127 : Lg) (G1_127 : Lg) (lim_127 : Nat), preX9_taken T_127 G0_127 G1_127 lim_127 F J (upd al s1.toNatClampNeg s0) td ∧ (∀ (al_127 : Nat → Int32), postX9_taken T_127 G0_127 G1_127 lim_127 F J (upd al s1.toNatClampNeg s0) td al_127 → (Q (al_127 0) F J al_127 td)))) ∧ (¬ ((upd al s1.toNatClampNeg s0) 3) = 0 → (Q (-1 : Int32) F J (upd al s1.toNatClampNeg s0) td))))
set_option maxHeartbeats 4000000 in
set_option maxRecDepth 100000 in
theorem kX9_tune_c114 {p : Program} {l : Launch} {e : Env} {s : State} {m : MethodId} {args : Array Value} {below : List Frame} {meth : Method} {c : Code} {g : GP} {qM : Nat} {q1 : Nat} {q2 : Nat} {q3 : Nat} {q4 : Nat} {q5 : Nat} {q6 : Nat} {q7 : Nat} {q8 : Nat} {q9 : Nat} {q10 : Nat} {q11 : Nat} {tx : Nat → Int32}  {Q : Int32 → (Nat → Int32) → (Nat → Int64) → (Nat → Int32) → (Nat → Int32) → Prop} {A : Nat → Prop} (S : CallFix p m c cX9_tune 2 s args wsX9_tune RX9) (hr : meth.sig.returnType = (some .int)) (hlocks : meth.locks = false) (hG : GK g s) (hA : ∀ q : Nat, s.heap.size ≤ q → A q) : ∀ (s0 : Int32) (s1 : Int32) (F : Nat → Int32) (J : Nat → Int64) (al : Nat → Int32) (td : Nat → Int32), vX9_tune_c114 tx Q s0 s1 F J al td → ∀ (H : Heap) (locs : List Loc), va_P g.1 vwCl [(qM, .inr (9, [.int (F 0), .ref q1, .ref q2, .ref q3, .int (F 4), .int (F 5), .int (F 6), .int (F 7), .int (F 8), .int (F 9), .long (J 10), .int (F 11), .int (F 12), .int (F 13), .ref q4, .int (F 15), .ref q5, .ref q6, .ref q7, .int (F 19), .ref q8, .int (F 21), .int (F 22), .int (F 23), .int (F 24), .ref q9, .ref q10, .ref q11, .long (J 28)])), (q1, .inl (g.2 0, 376, .inl al)), (q2, .inl (g.2 1, 2000, .inl tx)), (q4, .inl (g.2 0, 94, .inl td))] H → va_D A [(qM, .inr (9, [.int (F 0), .ref q1, .ref q2, .ref q3, .int (F 4), .int (F 5), .int (F 6), .int (F 7), .int (F 8), .int (F 9), .long (J 10), .int (F 11), .int (F 12), .int (F 13), .ref q4, .int (F 15), .ref q5, .ref q6, .ref q7, .int (F 19), .ref q8, .int (F 21), .int (F 22), .int (F 23), .int (F 24), .ref q9, .ref q10, .ref q11, .long (J 28)])), (q1, .inl (g.2 0, 376, .inl al)), (q2, .inl (g.2 1, 2000, .inl tx)), (q4, .inl (g.2 0, 94, .inl td))] → va_S A s.heap H locs → ∀ (ls : Array Slot), lv_has ls 2 [(0, .ref qM)] → W p l e (headSpec wsX9_tune rmX9_tune).room s m args below meth c H locs 0 0 (MQ below (va_Qi (fun (r : Int32) (u : (Nat → Int32) × (Nat → Int64) × (Nat → Int32) × (Nat → Int32)) => Q r u.1 u.2.1 u.2.2.1 u.2.2.2) (fun (u : (Nat → Int32) × (Nat → Int64) × (Nat → Int32) × (Nat → Int32)) t => va_P g.1 vwCl [(qM, .inr (9, [.int (u.1 0), .ref q1, .ref q2, .ref q3, .int (u.1 4), .int (u.1 5), .int (u.1 6), .int (u.1 7), .int (u.1 8), .int (u.1 9), .long (u.2.1 10), .int (u.1 11), .int (u.1 12), .int (u.1 13), .ref q4, .int (u.1 15), .ref q5, .ref q6, .ref q7, .int (u.1 19), .ref q8, .int (u.1 21), .int (u.1 22), .int (u.1 23), .int (u.1 24), .ref q9, .ref q10, .ref q11, .long (u.2.1 28)])), (q1, .inl (g.2 0, 376, .inl u.2.2.1)), (q2, .inl (g.2 1, 2000, .inl tx)), (q4, .inl (g.2 0, 94, .inl u.2.2.2))] t.heap ∧ va_D A [(qM, .inr (9, [.int (u.1 0), .ref q1, .ref q2, .ref q3, .int (u.1 4), .int (u.1 5), .int (u.1 6), .int (u.1 7), .int (u.1 8), .int (u.1 9), .long (u.2.1 10), .int (u.1 11), .int (u.1 12), .int (u.1 13), .ref q4, .int (u.1 15), .ref q5, .ref q6, .ref q7, .int (u.1 19), .ref q8, .int (u.1 21), .int (u.1 22), .int (u.1 23), .int (u.1 24), .ref q9, .ref q10, .ref q11, .long (u.2.1 28)])), (q1, .inl (g.2 0, 376, .inl u.2.2.1)), (q2, .inl (g.2 1, 2000, .inl tx)), (q4, .inl (g.2 0, 94, .inl u.2.2.2))]) A) args s 0 0 A) (F0 m 114 ls [.int s0, .int s1, .ref q1]) := by
  obtain ⟨hx, hb, hml, hown, hts⟩ := id S
  have hK := hG.1
  intro s0 s1 F J al td hv H locs hP hD hS ls hl
  unfold vX9_tune_c114 at hv
  obtain ⟨ho_1, hv⟩ := hv
  refine va_iast hx hb hK hP hD hS 1 0 rfl rfl ho_1 dX9_tune_114 (fun H locs hP hD hS => ?_)
  have hP : va_P g.1 vwCl [(qM, .inr (9, [.int (F 0), .ref q1, .ref q2, .ref q3, .int (F 4), .int (F 5), .int (F 6), .int (F 7), .int (F 8), .int (F 9), .long (J 10), .int (F 11), .int (F 12), .int (F 13), .ref q4, .int (F 15), .ref q5, .ref q6, .ref q7, .int (F 19), .ref q8, .int (F 21), .int (F 22), .int (F 23), .int (F 24), .ref q9, .ref q10, .ref q11, .long (J 28)])), (q1, .inl (g.2 0, 376, .inl (upd al s1.toNatClampNeg s0))), (q2, .inl (g.2 1, 2000, .inl tx)), (q4, .inl (g.2 0, 94, .inl td))] H := hP
  have hD : va_D A [(qM, .inr (9, [.int (F 0), .ref q1, .ref q2, .ref q3, .int (F 4), .int (F 5), .int (F 6), .int (F 7), .int (F 8), .int (F 9), .long (J 10), .int (F 11), .int (F 12), .int (F 13), .ref q4, .int (F 15), .ref q5, .ref q6, .ref q7, .int (F 19), .ref q8, .int (F 21), .int (F 22), .int (F 23), .int (F 24), .ref q9, .ref q10, .ref q11, .long (J 28)])), (q1, .inl (g.2 0, 376, .inl (upd al s1.toNatClampNeg s0))), (q2, .inl (g.2 1, 2000, .inl tx)), (q4, .inl (g.2 0, 94, .inl td))] := hD
  refine lv_aload_n hx hb dX9_tune_115 rfl (lv_at hl 0 rfl) ?_
  refine va_get (D := g.1) (ci := 9) (v := .ref q1) (C := RX9) (T := TX9) (N := 29) hx hb hts inX9_tune_9 hown hK hP 0 rfl rfl 1 (by decide) (hts (.fieldLink RX9 7 "RangeCodesModel" "all" "[I") (List.mem_of_getElem? (i := 2) rfl)) (fun _ h9 => h9) rfl dX9_tune_116 ?_
  refine lv_iconst (v := (3 : Int32)) hx hb dX9_tune_119 (by decide) ?_
  refine va_iald hx hb hK hP 1 0 rfl rfl (by unfold vp_in; decide) dX9_tune_120 ?_
  obtain ⟨hvt, hvf⟩ := hv
  refine lv_if_eq (tgt := 126) hx hb dX9_tune_121 (by decide) (fun hc => ?_) (fun hc => ?_)
  · have hv := hvt hc
    refine lv_aload_n hx hb dX9_tune_126 rfl (lv_at hl 0 rfl) ?_
    obtain ⟨T_127, G0_127, G1_127, lim_127, ho_2, hv⟩ := hv
    have hPc := hP.sub (ws' := [(qM, .inr (9, [.int (F 0), .ref q1, .ref q2, .ref q3, .int (F 4), .int (F 5), .int (F 6), .int (F 7), .int (F 8), .int (F 9), .long (J 10), .int (F 11), .int (F 12), .int (F 13), .ref q4, .int (F 15), .ref q5, .ref q6, .ref q7, .int (F 19), .ref q8, .int (F 21), .int (F 22), .int (F 23), .int (F 24), .ref q9, .ref q10, .ref q11, .long (J 28)])), (q1, .inl (g.2 0, 376, .inl (upd al s1.toNatClampNeg s0))), (q4, .inl (g.2 0, 94, .inl td))]) [0, 1, 3] rfl
    have hDc := hD.sub (ws' := [(qM, .inr (9, [.int (F 0), .ref q1, .ref q2, .ref q3, .int (F 4), .int (F 5), .int (F 6), .int (F 7), .int (F 8), .int (F 9), .long (J 10), .int (F 11), .int (F 12), .int (F 13), .ref q4, .int (F 15), .ref q5, .ref q6, .ref q7, .int (F 19), .ref q8, .int (F 21), .int (F 22), .int (F 23), .int (F 24), .ref q9, .ref q10, .ref q11, .long (J 28)])), (q1, .inl (g.2 0, 376, .inl (upd al s1.toNatClampNeg s0))), (q4, .inl (g.2 0, 94, .inl td))]) [0, 1, 3] (by decide) rfl
    have hFc := va_free (wc := [(qM, .inr (9, [.int (F 0), .ref q1, .ref q2, .ref q3, .int (F 4), .int (F 5), .int (F 6), .int (F 7), .int (F 8), .int (F 9), .long (J 10), .int (F 11), .int (F 12), .int (F 13), .ref q4, .int (F 15), .ref q5, .ref q6, .ref q7, .int (F 19), .ref q8, .int (F 21), .int (F 22), .int (F 23), .int (F 24), .ref q9, .ref q10, .ref q11, .long (J 28)])), (q1, .inl (g.2 0, 376, .inl (upd al s1.toNatClampNeg s0))), (q4, .inl (g.2 0, 94, .inl td))]) hD hS hA [0, 1, 3] rfl
    refine va_callv (va_runV (As := []) (rest := []) S (wX9_taken l g qM q1 q2 q3 q4 q5 q6 q7 q8 q9 q10 q11 H.size F J (upd al s1.toNatClampNeg s0) td (sX9_taken T_127 G0_127 G1_127 lim_127 F J (upd al s1.toNatClampNeg s0) td ho_2)) (cwV 0 hts gX9_tune_X9_taken rfl rfl rfl (by decide +kernel) ⟨Nat.le_of_ble_eq_true rfl, Nat.le_of_ble_eq_true rfl⟩) ⟨blindRW, va_recv hK hP (ci := 9) (q0 := 0) rfl rfl, fun U hU hW => ⟨rfl, by rw [hU], by rw [hU]; exact hPc, hG.warm hW, hDc.weaken (fun _ _ _ _ => trivial)⟩⟩ rfl rfl hl.1 rfl (lv_room (Nat.le_of_ble_eq_true rfl)) dX9_tune_127 ⟨Nat.le_of_ble_eq_true rfl, Nat.le_of_ble_eq_true rfl⟩) hS (fun q _ h => hFc q h) hFc (fun u t H1 locs ht hvm hw hB hz1 hk1 hS => ?_)
    obtain ⟨al_127, rfl⟩ : ∃ z, z = u := ⟨_, rfl⟩
    obtain ⟨hP1, hD1⟩ := hB
    rw [ht] at hP1
    have hv := hv al_127 hw
    obtain ⟨hP, hD⟩ := va_join (wr := [(q2, .inl (g.2 1, 2000, .inl tx))]) (w1 := [(qM, .inr (9, [.int (F 0), .ref q1, .ref q2, .ref q3, .int (F 4), .int (F 5), .int (F 6), .int (F 7), .int (F 8), .int (F 9), .long (J 10), .int (F 11), .int (F 12), .int (F 13), .ref q4, .int (F 15), .ref q5, .ref q6, .ref q7, .int (F 19), .ref q8, .int (F 21), .int (F 22), .int (F 23), .int (F 24), .ref q9, .ref q10, .ref q11, .long (J 28)])), (q1, .inl (g.2 0, 376, .inl al_127)), (q4, .inl (g.2 0, 94, .inl td))]) hP hD [0, 1, 3] [2] rfl rfl (by decide) (by decide) hk1 hFc hP1 hD1
    clear hP1 hD1 hPc hDc hFc hk1
    generalize H1 = H at hP hS ⊢
    have hP : va_P g.1 vwCl [(q2, .inl (g.2 1, 2000, .inl tx)), (qM, .inr (9, [.int (F 0), .ref q1, .ref q2, .ref q3, .int (F 4), .int (F 5), .int (F 6), .int (F 7), .int (F 8), .int (F 9), .long (J 10), .int (F 11), .int (F 12), .int (F 13), .ref q4, .int (F 15), .ref q5, .ref q6, .ref q7, .int (F 19), .ref q8, .int (F 21), .int (F 22), .int (F 23), .int (F 24), .ref q9, .ref q10, .ref q11, .long (J 28)])), (q1, .inl (g.2 0, 376, .inl al_127)), (q4, .inl (g.2 0, 94, .inl td))] H := hP
    have hD : va_D A [(q2, .inl (g.2 1, 2000, .inl tx)), (qM, .inr (9, [.int (F 0), .ref q1, .ref q2, .ref q3, .int (F 4), .int (F 5), .int (F 6), .int (F 7), .int (F 8), .int (F 9), .long (J 10), .int (F 11), .int (F 12), .int (F 13), .ref q4, .int (F 15), .ref q5, .ref q6, .ref q7, .int (F 19), .ref q8, .int (F 21), .int (F 22), .int (F 23), .int (F 24), .ref q9, .ref q10, .ref q11, .long (J 28)])), (q1, .inl (g.2 0, 376, .inl al_127)), (q4, .inl (g.2 0, 94, .inl td))] := hD
    refine lv_aload_n hx hb dX9_tune_130 rfl (lv_at hl 0 rfl) ?_
    refine va_get (D := g.1) (ci := 9) (v := .ref q1) (C := RX9) (T := TX9) (N := 29) hx hb hts inX9_tune_9 hown hK hP 1 rfl rfl 1 (by decide) (hts (.fieldLink RX9 7 "RangeCodesModel" "all" "[I") (List.mem_of_getElem? (i := 2) rfl)) (fun _ h9 => h9) rfl dX9_tune_131 ?_
    refine lv_iconst (v := (0 : Int32)) hx hb dX9_tune_134 (by decide) ?_
    refine va_iald hx hb hK hP 2 0 rfl rfl (by unfold vp_in; decide) dX9_tune_135 ?_
    have hP9 := hP.sub (ws' := [(qM, .inr (9, [.int (F 0), .ref q1, .ref q2, .ref q3, .int (F 4), .int (F 5), .int (F 6), .int (F 7), .int (F 8), .int (F 9), .long (J 10), .int (F 11), .int (F 12), .int (F 13), .ref q4, .int (F 15), .ref q5, .ref q6, .ref q7, .int (F 19), .ref q8, .int (F 21), .int (F 22), .int (F 23), .int (F 24), .ref q9, .ref q10, .ref q11, .long (J 28)])), (q1, .inl (g.2 0, 376, .inl al_127)), (q2, .inl (g.2 1, 2000, .inl tx)), (q4, .inl (g.2 0, 94, .inl td))]) [1, 2, 0, 3] rfl
    have hD9 := hD.sub (ws' := [(qM, .inr (9, [.int (F 0), .ref q1, .ref q2, .ref q3, .int (F 4), .int (F 5), .int (F 6), .int (F 7), .int (F 8), .int (F 9), .long (J 10), .int (F 11), .int (F 12), .int (F 13), .ref q4, .int (F 15), .ref q5, .ref q6, .ref q7, .int (F 19), .ref q8, .int (F 21), .int (F 22), .int (F 23), .int (F 24), .ref q9, .ref q10, .ref q11, .long (J 28)])), (q1, .inl (g.2 0, 376, .inl al_127)), (q2, .inl (g.2 1, 2000, .inl tx)), (q4, .inl (g.2 0, 94, .inl td))]) [1, 2, 0, 3] (by decide) rfl
    exact W.iret (v := (al_127 0)) hx hb hr (fun t ht hW => ⟨⟨_, (F, J, al_127, td), rfl, hv, by rw [ht]; exact hP9, hD9⟩, hS.F ht⟩) hS.2.2 dX9_tune_136
  · have hv := hvf hc
    refine lv_iconst (v := (-1 : Int32)) hx hb dX9_tune_124 (by decide) ?_
    have hP9 := hP.sub (ws' := [(qM, .inr (9, [.int (F 0), .ref q1, .ref q2, .ref q3, .int (F 4), .int (F 5), .int (F 6), .int (F 7), .int (F 8), .int (F 9), .long (J 10), .int (F 11), .int (F 12), .int (F 13), .ref q4, .int (F 15), .ref q5, .ref q6, .ref q7, .int (F 19), .ref q8, .int (F 21), .int (F 22), .int (F 23), .int (F 24), .ref q9, .ref q10, .ref q11, .long (J 28)])), (q1, .inl (g.2 0, 376, .inl (upd al s1.toNatClampNeg s0))), (q2, .inl (g.2 1, 2000, .inl tx)), (q4, .inl (g.2 0, 94, .inl td))]) [0, 1, 2, 3] rfl
    have hD9 := hD.sub (ws' := [(qM, .inr (9, [.int (F 0), .ref q1, .ref q2, .ref q3, .int (F 4), .int (F 5), .int (F 6), .int (F 7), .int (F 8), .int (F 9), .long (J 10), .int (F 11), .int (F 12), .int (F 13), .ref q4, .int (F 15), .ref q5, .ref q6, .ref q7, .int (F 19), .ref q8, .int (F 21), .int (F 22), .int (F 23), .int (F 24), .ref q9, .ref q10, .ref q11, .long (J 28)])), (q1, .inl (g.2 0, 376, .inl (upd al s1.toNatClampNeg s0))), (q2, .inl (g.2 1, 2000, .inl tx)), (q4, .inl (g.2 0, 94, .inl td))]) [0, 1, 2, 3] (by decide) rfl
    exact W.iret (v := (-1 : Int32)) hx hb hr (fun t ht hW => ⟨⟨_, (F, J, (upd al s1.toNatClampNeg s0), td), rfl, hv, by rw [ht]; exact hP9, hD9⟩, hS.F ht⟩) hS.2.2 dX9_tune_125
def vX9_tune_c93 (tx : Nat → Int32) (Q : Int32 → (Nat → Int32) → (Nat → Int64) → (Nat → Int32) → (Nat → Int32) → Prop) (x1 : Int32) (s0 : Int32) (s1 : Int32) (F : Nat → Int32) (J : Nat → Int64) (al : Nat → Int32) (td : Nat → Int32) : Prop := (vp_in s1 376 ∧ ((x1 = 0 → (vX9_tune_c114 tx Q (F 11) (4 : Int32) F J (upd al s1.toNatClampNeg s0) td)) ∧ (¬ x1 = 0 → (vX9_tune_c114 tx Q (F 12) (4 : Int32) F J (upd al s1.toNatClampNeg s0) td))))
set_option maxHeartbeats 4000000 in
set_option maxRecDepth 100000 in
theorem kX9_tune_c93 {p : Program} {l : Launch} {e : Env} {s : State} {m : MethodId} {args : Array Value} {below : List Frame} {meth : Method} {c : Code} {g : GP} {qM : Nat} {q1 : Nat} {q2 : Nat} {q3 : Nat} {q4 : Nat} {q5 : Nat} {q6 : Nat} {q7 : Nat} {q8 : Nat} {q9 : Nat} {q10 : Nat} {q11 : Nat} {tx : Nat → Int32}  {Q : Int32 → (Nat → Int32) → (Nat → Int64) → (Nat → Int32) → (Nat → Int32) → Prop} {A : Nat → Prop} (S : CallFix p m c cX9_tune 2 s args wsX9_tune RX9) (hr : meth.sig.returnType = (some .int)) (hlocks : meth.locks = false) (hG : GK g s) (hA : ∀ q : Nat, s.heap.size ≤ q → A q) : ∀ (x1 : Int32) (s0 : Int32) (s1 : Int32) (F : Nat → Int32) (J : Nat → Int64) (al : Nat → Int32) (td : Nat → Int32), vX9_tune_c93 tx Q x1 s0 s1 F J al td → ∀ (H : Heap) (locs : List Loc), va_P g.1 vwCl [(qM, .inr (9, [.int (F 0), .ref q1, .ref q2, .ref q3, .int (F 4), .int (F 5), .int (F 6), .int (F 7), .int (F 8), .int (F 9), .long (J 10), .int (F 11), .int (F 12), .int (F 13), .ref q4, .int (F 15), .ref q5, .ref q6, .ref q7, .int (F 19), .ref q8, .int (F 21), .int (F 22), .int (F 23), .int (F 24), .ref q9, .ref q10, .ref q11, .long (J 28)])), (q1, .inl (g.2 0, 376, .inl al)), (q2, .inl (g.2 1, 2000, .inl tx)), (q4, .inl (g.2 0, 94, .inl td))] H → va_D A [(qM, .inr (9, [.int (F 0), .ref q1, .ref q2, .ref q3, .int (F 4), .int (F 5), .int (F 6), .int (F 7), .int (F 8), .int (F 9), .long (J 10), .int (F 11), .int (F 12), .int (F 13), .ref q4, .int (F 15), .ref q5, .ref q6, .ref q7, .int (F 19), .ref q8, .int (F 21), .int (F 22), .int (F 23), .int (F 24), .ref q9, .ref q10, .ref q11, .long (J 28)])), (q1, .inl (g.2 0, 376, .inl al)), (q2, .inl (g.2 1, 2000, .inl tx)), (q4, .inl (g.2 0, 94, .inl td))] → va_S A s.heap H locs → ∀ (ls : Array Slot), lv_has ls 2 [(0, .ref qM), (1, .int x1)] → W p l e (headSpec wsX9_tune rmX9_tune).room s m args below meth c H locs 0 0 (MQ below (va_Qi (fun (r : Int32) (u : (Nat → Int32) × (Nat → Int64) × (Nat → Int32) × (Nat → Int32)) => Q r u.1 u.2.1 u.2.2.1 u.2.2.2) (fun (u : (Nat → Int32) × (Nat → Int64) × (Nat → Int32) × (Nat → Int32)) t => va_P g.1 vwCl [(qM, .inr (9, [.int (u.1 0), .ref q1, .ref q2, .ref q3, .int (u.1 4), .int (u.1 5), .int (u.1 6), .int (u.1 7), .int (u.1 8), .int (u.1 9), .long (u.2.1 10), .int (u.1 11), .int (u.1 12), .int (u.1 13), .ref q4, .int (u.1 15), .ref q5, .ref q6, .ref q7, .int (u.1 19), .ref q8, .int (u.1 21), .int (u.1 22), .int (u.1 23), .int (u.1 24), .ref q9, .ref q10, .ref q11, .long (u.2.1 28)])), (q1, .inl (g.2 0, 376, .inl u.2.2.1)), (q2, .inl (g.2 1, 2000, .inl tx)), (q4, .inl (g.2 0, 94, .inl u.2.2.2))] t.heap ∧ va_D A [(qM, .inr (9, [.int (u.1 0), .ref q1, .ref q2, .ref q3, .int (u.1 4), .int (u.1 5), .int (u.1 6), .int (u.1 7), .int (u.1 8), .int (u.1 9), .long (u.2.1 10), .int (u.1 11), .int (u.1 12), .int (u.1 13), .ref q4, .int (u.1 15), .ref q5, .ref q6, .ref q7, .int (u.1 19), .ref q8, .int (u.1 21), .int (u.1 22), .int (u.1 23), .int (u.1 24), .ref q9, .ref q10, .ref q11, .long (u.2.1 28)])), (q1, .inl (g.2 0, 376, .inl u.2.2.1)), (q2, .inl (g.2 1, 2000, .inl tx)), (q4, .inl (g.2 0, 94, .inl u.2.2.2))]) A) args s 0 0 A) (F0 m 93 ls [.int s0, .int s1, .ref q1]) := by
  obtain ⟨hx, hb, hml, hown, hts⟩ := id S
  have hK := hG.1
  intro x1 s0 s1 F J al td hv H locs hP hD hS ls hl
  unfold vX9_tune_c93 at hv
  obtain ⟨ho_1, hv⟩ := hv
  refine va_iast hx hb hK hP hD hS 1 0 rfl rfl ho_1 dX9_tune_93 (fun H locs hP hD hS => ?_)
  have hP : va_P g.1 vwCl [(qM, .inr (9, [.int (F 0), .ref q1, .ref q2, .ref q3, .int (F 4), .int (F 5), .int (F 6), .int (F 7), .int (F 8), .int (F 9), .long (J 10), .int (F 11), .int (F 12), .int (F 13), .ref q4, .int (F 15), .ref q5, .ref q6, .ref q7, .int (F 19), .ref q8, .int (F 21), .int (F 22), .int (F 23), .int (F 24), .ref q9, .ref q10, .ref q11, .long (J 28)])), (q1, .inl (g.2 0, 376, .inl (upd al s1.toNatClampNeg s0))), (q2, .inl (g.2 1, 2000, .inl tx)), (q4, .inl (g.2 0, 94, .inl td))] H := hP
  have hD : va_D A [(qM, .inr (9, [.int (F 0), .ref q1, .ref q2, .ref q3, .int (F 4), .int (F 5), .int (F 6), .int (F 7), .int (F 8), .int (F 9), .long (J 10), .int (F 11), .int (F 12), .int (F 13), .ref q4, .int (F 15), .ref q5, .ref q6, .ref q7, .int (F 19), .ref q8, .int (F 21), .int (F 22), .int (F 23), .int (F 24), .ref q9, .ref q10, .ref q11, .long (J 28)])), (q1, .inl (g.2 0, 376, .inl (upd al s1.toNatClampNeg s0))), (q2, .inl (g.2 1, 2000, .inl tx)), (q4, .inl (g.2 0, 94, .inl td))] := hD
  refine lv_aload_n hx hb dX9_tune_94 rfl (lv_at hl 0 rfl) ?_
  refine va_get (D := g.1) (ci := 9) (v := .ref q1) (C := RX9) (T := TX9) (N := 29) hx hb hts inX9_tune_9 hown hK hP 0 rfl rfl 1 (by decide) (hts (.fieldLink RX9 7 "RangeCodesModel" "all" "[I") (List.mem_of_getElem? (i := 2) rfl)) (fun _ h9 => h9) rfl dX9_tune_95 ?_
  refine lv_iconst (v := (4 : Int32)) hx hb dX9_tune_98 (by decide) ?_
  refine lv_iload_n hx hb dX9_tune_99 rfl (lv_at hl 1 rfl) ?_
  obtain ⟨hvt, hvf⟩ := hv
  refine lv_if_eq (tgt := 110) hx hb dX9_tune_100 (by decide) (fun hc => ?_) (fun hc => ?_)
  · have hv := hvt hc
    refine lv_aload_n hx hb dX9_tune_110 rfl (lv_at hl 0 rfl) ?_
    refine va_get (D := g.1) (ci := 9) (v := .int (F 11)) (C := RX9) (T := TX9) (N := 29) hx hb hts inX9_tune_9 hown hK hP 0 rfl rfl 11 (by decide) (hts (.fieldLink RX9 95 "RangeCodesModel" "wrongAt" "I") (List.mem_of_getElem? (i := 7) rfl)) (fun _ h9 => h9) rfl dX9_tune_111 ?_
    exact kX9_tune_c114 S hr hlocks hG hA _ _ _ _ _ _ hv _ _ (hP.sub (ws' := [(qM, .inr (9, [.int (F 0), .ref q1, .ref q2, .ref q3, .int (F 4), .int (F 5), .int (F 6), .int (F 7), .int (F 8), .int (F 9), .long (J 10), .int (F 11), .int (F 12), .int (F 13), .ref q4, .int (F 15), .ref q5, .ref q6, .ref q7, .int (F 19), .ref q8, .int (F 21), .int (F 22), .int (F 23), .int (F 24), .ref q9, .ref q10, .ref q11, .long (J 28)])), (q1, .inl (g.2 0, 376, .inl (upd al s1.toNatClampNeg s0))), (q2, .inl (g.2 1, 2000, .inl tx)), (q4, .inl (g.2 0, 94, .inl td))]) [0, 1, 2, 3] rfl) (hD.sub (ws' := [(qM, .inr (9, [.int (F 0), .ref q1, .ref q2, .ref q3, .int (F 4), .int (F 5), .int (F 6), .int (F 7), .int (F 8), .int (F 9), .long (J 10), .int (F 11), .int (F 12), .int (F 13), .ref q4, .int (F 15), .ref q5, .ref q6, .ref q7, .int (F 19), .ref q8, .int (F 21), .int (F 22), .int (F 23), .int (F 24), .ref q9, .ref q10, .ref q11, .long (J 28)])), (q1, .inl (g.2 0, 376, .inl (upd al s1.toNatClampNeg s0))), (q2, .inl (g.2 1, 2000, .inl tx)), (q4, .inl (g.2 0, 94, .inl td))]) [0, 1, 2, 3] (by decide) rfl) hS ls (lv_sub hl [0] rfl)
  · have hv := hvf hc
    refine lv_aload_n hx hb dX9_tune_103 rfl (lv_at hl 0 rfl) ?_
    refine va_get (D := g.1) (ci := 9) (v := .int (F 12)) (C := RX9) (T := TX9) (N := 29) hx hb hts inX9_tune_9 hown hK hP 0 rfl rfl 12 (by decide) (hts (.fieldLink RX9 101 "RangeCodesModel" "badAt" "I") (List.mem_of_getElem? (i := 6) rfl)) (fun _ h9 => h9) rfl dX9_tune_104 ?_
    refine lv_goto (tgt := 114) hx hb dX9_tune_107 (by decide) ?_
    exact kX9_tune_c114 S hr hlocks hG hA _ _ _ _ _ _ hv _ _ (hP.sub (ws' := [(qM, .inr (9, [.int (F 0), .ref q1, .ref q2, .ref q3, .int (F 4), .int (F 5), .int (F 6), .int (F 7), .int (F 8), .int (F 9), .long (J 10), .int (F 11), .int (F 12), .int (F 13), .ref q4, .int (F 15), .ref q5, .ref q6, .ref q7, .int (F 19), .ref q8, .int (F 21), .int (F 22), .int (F 23), .int (F 24), .ref q9, .ref q10, .ref q11, .long (J 28)])), (q1, .inl (g.2 0, 376, .inl (upd al s1.toNatClampNeg s0))), (q2, .inl (g.2 1, 2000, .inl tx)), (q4, .inl (g.2 0, 94, .inl td))]) [0, 1, 2, 3] rfl) (hD.sub (ws' := [(qM, .inr (9, [.int (F 0), .ref q1, .ref q2, .ref q3, .int (F 4), .int (F 5), .int (F 6), .int (F 7), .int (F 8), .int (F 9), .long (J 10), .int (F 11), .int (F 12), .int (F 13), .ref q4, .int (F 15), .ref q5, .ref q6, .ref q7, .int (F 19), .ref q8, .int (F 21), .int (F 22), .int (F 23), .int (F 24), .ref q9, .ref q10, .ref q11, .long (J 28)])), (q1, .inl (g.2 0, 376, .inl (upd al s1.toNatClampNeg s0))), (q2, .inl (g.2 1, 2000, .inl tx)), (q4, .inl (g.2 0, 94, .inl td))]) [0, 1, 2, 3] (by decide) rfl) hS ls (lv_sub hl [0] rfl)
def vX9_tune_c76 (tx : Nat → Int32) (Q : Int32 → (Nat → Int32) → (Nat → Int64) → (Nat → Int32) → (Nat → Int32) → Prop) (x1 : Int32) (F : Nat → Int32) (J : Nat → Int64) (al : Nat → Int32) (td : Nat → Int32) : Prop := ((x1 = 0 → (vX9_tune_c93 tx Q x1 (1 : Int32) (3 : Int32) F J al td)) ∧ (¬ x1 = 0 → (vX9_tune_c93 tx Q x1 (F 13) (3 : Int32) F J al td)))
set_option maxHeartbeats 4000000 in
set_option maxRecDepth 100000 in
theorem kX9_tune_c76 {p : Program} {l : Launch} {e : Env} {s : State} {m : MethodId} {args : Array Value} {below : List Frame} {meth : Method} {c : Code} {g : GP} {qM : Nat} {q1 : Nat} {q2 : Nat} {q3 : Nat} {q4 : Nat} {q5 : Nat} {q6 : Nat} {q7 : Nat} {q8 : Nat} {q9 : Nat} {q10 : Nat} {q11 : Nat} {tx : Nat → Int32}  {Q : Int32 → (Nat → Int32) → (Nat → Int64) → (Nat → Int32) → (Nat → Int32) → Prop} {A : Nat → Prop} (S : CallFix p m c cX9_tune 2 s args wsX9_tune RX9) (hr : meth.sig.returnType = (some .int)) (hlocks : meth.locks = false) (hG : GK g s) (hA : ∀ q : Nat, s.heap.size ≤ q → A q) : ∀ (x1 : Int32) (F : Nat → Int32) (J : Nat → Int64) (al : Nat → Int32) (td : Nat → Int32), vX9_tune_c76 tx Q x1 F J al td → ∀ (H : Heap) (locs : List Loc), va_P g.1 vwCl [(qM, .inr (9, [.int (F 0), .ref q1, .ref q2, .ref q3, .int (F 4), .int (F 5), .int (F 6), .int (F 7), .int (F 8), .int (F 9), .long (J 10), .int (F 11), .int (F 12), .int (F 13), .ref q4, .int (F 15), .ref q5, .ref q6, .ref q7, .int (F 19), .ref q8, .int (F 21), .int (F 22), .int (F 23), .int (F 24), .ref q9, .ref q10, .ref q11, .long (J 28)])), (q1, .inl (g.2 0, 376, .inl al)), (q2, .inl (g.2 1, 2000, .inl tx)), (q4, .inl (g.2 0, 94, .inl td))] H → va_D A [(qM, .inr (9, [.int (F 0), .ref q1, .ref q2, .ref q3, .int (F 4), .int (F 5), .int (F 6), .int (F 7), .int (F 8), .int (F 9), .long (J 10), .int (F 11), .int (F 12), .int (F 13), .ref q4, .int (F 15), .ref q5, .ref q6, .ref q7, .int (F 19), .ref q8, .int (F 21), .int (F 22), .int (F 23), .int (F 24), .ref q9, .ref q10, .ref q11, .long (J 28)])), (q1, .inl (g.2 0, 376, .inl al)), (q2, .inl (g.2 1, 2000, .inl tx)), (q4, .inl (g.2 0, 94, .inl td))] → va_S A s.heap H locs → ∀ (ls : Array Slot), lv_has ls 2 [(0, .ref qM), (1, .int x1)] → W p l e (headSpec wsX9_tune rmX9_tune).room s m args below meth c H locs 0 0 (MQ below (va_Qi (fun (r : Int32) (u : (Nat → Int32) × (Nat → Int64) × (Nat → Int32) × (Nat → Int32)) => Q r u.1 u.2.1 u.2.2.1 u.2.2.2) (fun (u : (Nat → Int32) × (Nat → Int64) × (Nat → Int32) × (Nat → Int32)) t => va_P g.1 vwCl [(qM, .inr (9, [.int (u.1 0), .ref q1, .ref q2, .ref q3, .int (u.1 4), .int (u.1 5), .int (u.1 6), .int (u.1 7), .int (u.1 8), .int (u.1 9), .long (u.2.1 10), .int (u.1 11), .int (u.1 12), .int (u.1 13), .ref q4, .int (u.1 15), .ref q5, .ref q6, .ref q7, .int (u.1 19), .ref q8, .int (u.1 21), .int (u.1 22), .int (u.1 23), .int (u.1 24), .ref q9, .ref q10, .ref q11, .long (u.2.1 28)])), (q1, .inl (g.2 0, 376, .inl u.2.2.1)), (q2, .inl (g.2 1, 2000, .inl tx)), (q4, .inl (g.2 0, 94, .inl u.2.2.2))] t.heap ∧ va_D A [(qM, .inr (9, [.int (u.1 0), .ref q1, .ref q2, .ref q3, .int (u.1 4), .int (u.1 5), .int (u.1 6), .int (u.1 7), .int (u.1 8), .int (u.1 9), .long (u.2.1 10), .int (u.1 11), .int (u.1 12), .int (u.1 13), .ref q4, .int (u.1 15), .ref q5, .ref q6, .ref q7, .int (u.1 19), .ref q8, .int (u.1 21), .int (u.1 22), .int (u.1 23), .int (u.1 24), .ref q9, .ref q10, .ref q11, .long (u.2.1 28)])), (q1, .inl (g.2 0, 376, .inl u.2.2.1)), (q2, .inl (g.2 1, 2000, .inl tx)), (q4, .inl (g.2 0, 94, .inl u.2.2.2))]) A) args s 0 0 A) (F0 m 76 ls []) := by
  obtain ⟨hx, hb, hml, hown, hts⟩ := id S
  have hK := hG.1
  intro x1 F J al td hv H locs hP hD hS ls hl
  unfold vX9_tune_c76 at hv
  refine lv_aload_n hx hb dX9_tune_76 rfl (lv_at hl 0 rfl) ?_
  refine va_get (D := g.1) (ci := 9) (v := .ref q1) (C := RX9) (T := TX9) (N := 29) hx hb hts inX9_tune_9 hown hK hP 0 rfl rfl 1 (by decide) (hts (.fieldLink RX9 7 "RangeCodesModel" "all" "[I") (List.mem_of_getElem? (i := 2) rfl)) (fun _ h9 => h9) rfl dX9_tune_77 ?_
  refine lv_iconst (v := (3 : Int32)) hx hb dX9_tune_80 (by decide) ?_
  refine lv_iload_n hx hb dX9_tune_81 rfl (lv_at hl 1 rfl) ?_
  obtain ⟨hvt, hvf⟩ := hv
  refine lv_if_eq (tgt := 92) hx hb dX9_tune_82 (by decide) (fun hc => ?_) (fun hc => ?_)
  · have hv := hvt hc
    refine lv_iconst (v := (1 : Int32)) hx hb dX9_tune_92 (by decide) ?_
    exact kX9_tune_c93 S hr hlocks hG hA _ _ _ _ _ _ _ hv _ _ (hP.sub (ws' := [(qM, .inr (9, [.int (F 0), .ref q1, .ref q2, .ref q3, .int (F 4), .int (F 5), .int (F 6), .int (F 7), .int (F 8), .int (F 9), .long (J 10), .int (F 11), .int (F 12), .int (F 13), .ref q4, .int (F 15), .ref q5, .ref q6, .ref q7, .int (F 19), .ref q8, .int (F 21), .int (F 22), .int (F 23), .int (F 24), .ref q9, .ref q10, .ref q11, .long (J 28)])), (q1, .inl (g.2 0, 376, .inl al)), (q2, .inl (g.2 1, 2000, .inl tx)), (q4, .inl (g.2 0, 94, .inl td))]) [0, 1, 2, 3] rfl) (hD.sub (ws' := [(qM, .inr (9, [.int (F 0), .ref q1, .ref q2, .ref q3, .int (F 4), .int (F 5), .int (F 6), .int (F 7), .int (F 8), .int (F 9), .long (J 10), .int (F 11), .int (F 12), .int (F 13), .ref q4, .int (F 15), .ref q5, .ref q6, .ref q7, .int (F 19), .ref q8, .int (F 21), .int (F 22), .int (F 23), .int (F 24), .ref q9, .ref q10, .ref q11, .long (J 28)])), (q1, .inl (g.2 0, 376, .inl al)), (q2, .inl (g.2 1, 2000, .inl tx)), (q4, .inl (g.2 0, 94, .inl td))]) [0, 1, 2, 3] (by decide) rfl) hS ls (lv_sub hl [0, 1] rfl)
  · have hv := hvf hc
    refine lv_aload_n hx hb dX9_tune_85 rfl (lv_at hl 0 rfl) ?_
    refine va_get (D := g.1) (ci := 9) (v := .int (F 13)) (C := RX9) (T := TX9) (N := 29) hx hb hts inX9_tune_9 hown hK hP 0 rfl rfl 13 (by decide) (hts (.fieldLink RX9 98 "RangeCodesModel" "bad" "I") (List.mem_of_getElem? (i := 5) rfl)) (fun _ h9 => h9) rfl dX9_tune_86 ?_
    refine lv_goto (tgt := 93) hx hb dX9_tune_89 (by decide) ?_
    exact kX9_tune_c93 S hr hlocks hG hA _ _ _ _ _ _ _ hv _ _ (hP.sub (ws' := [(qM, .inr (9, [.int (F 0), .ref q1, .ref q2, .ref q3, .int (F 4), .int (F 5), .int (F 6), .int (F 7), .int (F 8), .int (F 9), .long (J 10), .int (F 11), .int (F 12), .int (F 13), .ref q4, .int (F 15), .ref q5, .ref q6, .ref q7, .int (F 19), .ref q8, .int (F 21), .int (F 22), .int (F 23), .int (F 24), .ref q9, .ref q10, .ref q11, .long (J 28)])), (q1, .inl (g.2 0, 376, .inl al)), (q2, .inl (g.2 1, 2000, .inl tx)), (q4, .inl (g.2 0, 94, .inl td))]) [0, 1, 2, 3] rfl) (hD.sub (ws' := [(qM, .inr (9, [.int (F 0), .ref q1, .ref q2, .ref q3, .int (F 4), .int (F 5), .int (F 6), .int (F 7), .int (F 8), .int (F 9), .long (J 10), .int (F 11), .int (F 12), .int (F 13), .ref q4, .int (F 15), .ref q5, .ref q6, .ref q7, .int (F 19), .ref q8, .int (F 21), .int (F 22), .int (F 23), .int (F 24), .ref q9, .ref q10, .ref q11, .long (J 28)])), (q1, .inl (g.2 0, 376, .inl al)), (q2, .inl (g.2 1, 2000, .inl tx)), (q4, .inl (g.2 0, 94, .inl td))]) [0, 1, 2, 3] (by decide) rfl) hS ls (lv_sub hl [0, 1] rfl)
def vX9_tune_c32 (tx : Nat → Int32) (Q : Int32 → (Nat → Int32) → (Nat → Int64) → (Nat → Int32) → (Nat → Int32) → Prop) : Nat → Int32 → (Nat → Int32) → (Nat → Int64) → (Nat → Int32) → (Nat → Int32) → Prop
  | 0, _, _, _, _, _ => False
  | n + 1, x1, F, J, al, td => ((x1 = 0 → (vX9_tune_c76 tx Q x1 F J al td)) ∧ (¬ x1 = 0 → (((F 7) = 0 → (vX9_tune_c76 tx Q x1 F J al td)) ∧ (¬ (F 7) = 0 → (∃ (b_44 : Nat → Int32) (nb_44 : Nat) (i_44 : Nat) (f_44 : Int × Int) (T_44 : Cd) (G0_44 : Lg) (G1_44 : Lg) (lim_44 : Nat), preX9_line b_44 nb_44 i_44 f_44 T_44 G0_44 G1_44 lim_44 F J tx td ∧ (∀ (r_44 : Int32) (F_44 : Nat → Int32) (J_44 : Nat → Int64) (td_44 : Nat → Int32), postX9_line b_44 nb_44 i_44 f_44 T_44 G0_44 G1_44 lim_44 F J tx td r_44 F_44 J_44 td_44 → ((r_44 = 0 → ((r_44 = 0 → (vX9_tune_c32 tx Q n r_44 F_44 J_44 al td_44)) ∧ (¬ r_44 = 0 → (∃ (b_70 : Nat → Int32) (nb_70 : Nat) (i_70 : Nat), preX9_token b_70 nb_70 i_70 F_44 J_44 tx ∧ (∀ (F_70 : Nat → Int32) (J_70 : Nat → Int64), postX9_token b_70 nb_70 i_70 F_44 J_44 tx F_70 J_70 → (vX9_tune_c32 tx Q n r_44 F_70 J_70 al td_44)))))) ∧ (¬ r_44 = 0 → (((F_44 7) = (4 : Int32) → ((r_44 = 0 → (vX9_tune_c32 tx Q n r_44 F_44 J_44 al td_44)) ∧ (¬ r_44 = 0 → (∃ (b_70 : Nat → Int32) (nb_70 : Nat) (i_70 : Nat), preX9_token b_70 nb_70 i_70 F_44 J_44 tx ∧ (∀ (F_70 : Nat → Int32) (J_70 : Nat → Int64), postX9_token b_70 nb_70 i_70 F_44 J_44 tx F_70 J_70 → (vX9_tune_c32 tx Q n r_44 F_70 J_70 al td_44)))))) ∧ (¬ (F_44 7) = (4 : Int32) → (preX9_fails F_44 J_44 ∧ (∀ (r_61 : Int32) (F_61 : Nat → Int32), postX9_fails F_44 J_44 r_61 F_61 → ((r_61 = 0 → (vX9_tune_c32 tx Q n r_61 F_61 J_44 al td_44)) ∧ (¬ r_61 = 0 → (∃ (b_70 : Nat → Int32) (nb_70 : Nat) (i_70 : Nat), preX9_token b_70 nb_70 i_70 F_61 J_44 tx ∧ (∀ (F_70 : Nat → Int32) (J_70 : Nat → Int64), postX9_token b_70 nb_70 i_70 F_61 J_44 tx F_70 J_70 → (vX9_tune_c32 tx Q n r_61 F_70 J_70 al td_44)))))))))))))))))
set_option maxHeartbeats 4000000 in
set_option maxRecDepth 100000 in
theorem kX9_tune_c32 {p : Program} {l : Launch} {e : Env} {s : State} {m : MethodId} {args : Array Value} {below : List Frame} {meth : Method} {c : Code} {g : GP} {qM : Nat} {q1 : Nat} {q2 : Nat} {q3 : Nat} {q4 : Nat} {q5 : Nat} {q6 : Nat} {q7 : Nat} {q8 : Nat} {q9 : Nat} {q10 : Nat} {q11 : Nat} {tx : Nat → Int32}  {Q : Int32 → (Nat → Int32) → (Nat → Int64) → (Nat → Int32) → (Nat → Int32) → Prop} {A : Nat → Prop} (S : CallFix p m c cX9_tune 2 s args wsX9_tune RX9) (hr : meth.sig.returnType = (some .int)) (hlocks : meth.locks = false) (hG : GK g s) (hA : ∀ q : Nat, s.heap.size ≤ q → A q) : ∀ (n : Nat), ∀ (x1 : Int32) (F : Nat → Int32) (J : Nat → Int64) (al : Nat → Int32) (td : Nat → Int32), vX9_tune_c32 tx Q n x1 F J al td → ∀ (H : Heap) (locs : List Loc), va_P g.1 vwCl [(qM, .inr (9, [.int (F 0), .ref q1, .ref q2, .ref q3, .int (F 4), .int (F 5), .int (F 6), .int (F 7), .int (F 8), .int (F 9), .long (J 10), .int (F 11), .int (F 12), .int (F 13), .ref q4, .int (F 15), .ref q5, .ref q6, .ref q7, .int (F 19), .ref q8, .int (F 21), .int (F 22), .int (F 23), .int (F 24), .ref q9, .ref q10, .ref q11, .long (J 28)])), (q1, .inl (g.2 0, 376, .inl al)), (q2, .inl (g.2 1, 2000, .inl tx)), (q4, .inl (g.2 0, 94, .inl td))] H → va_D A [(qM, .inr (9, [.int (F 0), .ref q1, .ref q2, .ref q3, .int (F 4), .int (F 5), .int (F 6), .int (F 7), .int (F 8), .int (F 9), .long (J 10), .int (F 11), .int (F 12), .int (F 13), .ref q4, .int (F 15), .ref q5, .ref q6, .ref q7, .int (F 19), .ref q8, .int (F 21), .int (F 22), .int (F 23), .int (F 24), .ref q9, .ref q10, .ref q11, .long (J 28)])), (q1, .inl (g.2 0, 376, .inl al)), (q2, .inl (g.2 1, 2000, .inl tx)), (q4, .inl (g.2 0, 94, .inl td))] → va_S A s.heap H locs → ∀ (ls : Array Slot), lv_has ls 2 [(0, .ref qM), (1, .int x1)] → W p l e (headSpec wsX9_tune rmX9_tune).room s m args below meth c H locs 0 0 (MQ below (va_Qi (fun (r : Int32) (u : (Nat → Int32) × (Nat → Int64) × (Nat → Int32) × (Nat → Int32)) => Q r u.1 u.2.1 u.2.2.1 u.2.2.2) (fun (u : (Nat → Int32) × (Nat → Int64) × (Nat → Int32) × (Nat → Int32)) t => va_P g.1 vwCl [(qM, .inr (9, [.int (u.1 0), .ref q1, .ref q2, .ref q3, .int (u.1 4), .int (u.1 5), .int (u.1 6), .int (u.1 7), .int (u.1 8), .int (u.1 9), .long (u.2.1 10), .int (u.1 11), .int (u.1 12), .int (u.1 13), .ref q4, .int (u.1 15), .ref q5, .ref q6, .ref q7, .int (u.1 19), .ref q8, .int (u.1 21), .int (u.1 22), .int (u.1 23), .int (u.1 24), .ref q9, .ref q10, .ref q11, .long (u.2.1 28)])), (q1, .inl (g.2 0, 376, .inl u.2.2.1)), (q2, .inl (g.2 1, 2000, .inl tx)), (q4, .inl (g.2 0, 94, .inl u.2.2.2))] t.heap ∧ va_D A [(qM, .inr (9, [.int (u.1 0), .ref q1, .ref q2, .ref q3, .int (u.1 4), .int (u.1 5), .int (u.1 6), .int (u.1 7), .int (u.1 8), .int (u.1 9), .long (u.2.1 10), .int (u.1 11), .int (u.1 12), .int (u.1 13), .ref q4, .int (u.1 15), .ref q5, .ref q6, .ref q7, .int (u.1 19), .ref q8, .int (u.1 21), .int (u.1 22), .int (u.1 23), .int (u.1 24), .ref q9, .ref q10, .ref q11, .long (u.2.1 28)])), (q1, .inl (g.2 0, 376, .inl u.2.2.1)), (q2, .inl (g.2 1, 2000, .inl tx)), (q4, .inl (g.2 0, 94, .inl u.2.2.2))]) A) args s 0 0 A) (F0 m 32 ls []) := by
  obtain ⟨hx, hb, hml, hown, hts⟩ := id S
  have hK := hG.1
  intro n
  induction n with
  | zero => intro x1 F J al td hv; exact hv.elim
  | succ n ih =>
    intro x1 F J al td hv H locs hP hD hS ls hl
    refine lv_iload_n hx hb dX9_tune_32 rfl (lv_at hl 1 rfl) ?_
    obtain ⟨hvt, hvf⟩ := hv
    refine lv_if_eq (tgt := 76) hx hb dX9_tune_33 (by decide) (fun hc => ?_) (fun hc => ?_)
    · have hv := hvt hc
      exact kX9_tune_c76 S hr hlocks hG hA _ _ _ _ _ hv _ _ (hP.sub (ws' := [(qM, .inr (9, [.int (F 0), .ref q1, .ref q2, .ref q3, .int (F 4), .int (F 5), .int (F 6), .int (F 7), .int (F 8), .int (F 9), .long (J 10), .int (F 11), .int (F 12), .int (F 13), .ref q4, .int (F 15), .ref q5, .ref q6, .ref q7, .int (F 19), .ref q8, .int (F 21), .int (F 22), .int (F 23), .int (F 24), .ref q9, .ref q10, .ref q11, .long (J 28)])), (q1, .inl (g.2 0, 376, .inl al)), (q2, .inl (g.2 1, 2000, .inl tx)), (q4, .inl (g.2 0, 94, .inl td))]) [0, 1, 2, 3] rfl) (hD.sub (ws' := [(qM, .inr (9, [.int (F 0), .ref q1, .ref q2, .ref q3, .int (F 4), .int (F 5), .int (F 6), .int (F 7), .int (F 8), .int (F 9), .long (J 10), .int (F 11), .int (F 12), .int (F 13), .ref q4, .int (F 15), .ref q5, .ref q6, .ref q7, .int (F 19), .ref q8, .int (F 21), .int (F 22), .int (F 23), .int (F 24), .ref q9, .ref q10, .ref q11, .long (J 28)])), (q1, .inl (g.2 0, 376, .inl al)), (q2, .inl (g.2 1, 2000, .inl tx)), (q4, .inl (g.2 0, 94, .inl td))]) [0, 1, 2, 3] (by decide) rfl) hS ls (lv_sub hl [0, 1] rfl)
    · have hv := hvf hc
      refine lv_aload_n hx hb dX9_tune_36 rfl (lv_at hl 0 rfl) ?_
      refine va_get (D := g.1) (ci := 9) (v := .int (F 7)) (C := RX9) (T := TX9) (N := 29) hx hb hts inX9_tune_9 hown hK hP 0 rfl rfl 7 (by decide) (hts (.fieldLink RX9 86 "RangeCodesModel" "sort" "I") (List.mem_of_getElem? (i := 4) rfl)) (fun _ h9 => h9) rfl dX9_tune_37 ?_
      obtain ⟨hvt, hvf⟩ := hv
      refine lv_if_eq (tgt := 76) hx hb dX9_tune_40 (by decide) (fun hc => ?_) (fun hc => ?_)
      · have hv := hvt hc
        exact kX9_tune_c76 S hr hlocks hG hA _ _ _ _ _ hv _ _ (hP.sub (ws' := [(qM, .inr (9, [.int (F 0), .ref q1, .ref q2, .ref q3, .int (F 4), .int (F 5), .int (F 6), .int (F 7), .int (F 8), .int (F 9), .long (J 10), .int (F 11), .int (F 12), .int (F 13), .ref q4, .int (F 15), .ref q5, .ref q6, .ref q7, .int (F 19), .ref q8, .int (F 21), .int (F 22), .int (F 23), .int (F 24), .ref q9, .ref q10, .ref q11, .long (J 28)])), (q1, .inl (g.2 0, 376, .inl al)), (q2, .inl (g.2 1, 2000, .inl tx)), (q4, .inl (g.2 0, 94, .inl td))]) [0, 1, 2, 3] rfl) (hD.sub (ws' := [(qM, .inr (9, [.int (F 0), .ref q1, .ref q2, .ref q3, .int (F 4), .int (F 5), .int (F 6), .int (F 7), .int (F 8), .int (F 9), .long (J 10), .int (F 11), .int (F 12), .int (F 13), .ref q4, .int (F 15), .ref q5, .ref q6, .ref q7, .int (F 19), .ref q8, .int (F 21), .int (F 22), .int (F 23), .int (F 24), .ref q9, .ref q10, .ref q11, .long (J 28)])), (q1, .inl (g.2 0, 376, .inl al)), (q2, .inl (g.2 1, 2000, .inl tx)), (q4, .inl (g.2 0, 94, .inl td))]) [0, 1, 2, 3] (by decide) rfl) hS ls (lv_sub hl [0, 1] rfl)
      · have hv := hvf hc
        refine lv_aload_n hx hb dX9_tune_43 rfl (lv_at hl 0 rfl) ?_
        obtain ⟨b_44, nb_44, i_44, f_44, T_44, G0_44, G1_44, lim_44, ho_1, hv⟩ := hv
        have hPc := hP.sub (ws' := [(qM, .inr (9, [.int (F 0), .ref q1, .ref q2, .ref q3, .int (F 4), .int (F 5), .int (F 6), .int (F 7), .int (F 8), .int (F 9), .long (J 10), .int (F 11), .int (F 12), .int (F 13), .ref q4, .int (F 15), .ref q5, .ref q6, .ref q7, .int (F 19), .ref q8, .int (F 21), .int (F 22), .int (F 23), .int (F 24), .ref q9, .ref q10, .ref q11, .long (J 28)])), (q2, .inl (g.2 1, 2000, .inl tx)), (q4, .inl (g.2 0, 94, .inl td))]) [0, 2, 3] rfl
        have hDc := hD.sub (ws' := [(qM, .inr (9, [.int (F 0), .ref q1, .ref q2, .ref q3, .int (F 4), .int (F 5), .int (F 6), .int (F 7), .int (F 8), .int (F 9), .long (J 10), .int (F 11), .int (F 12), .int (F 13), .ref q4, .int (F 15), .ref q5, .ref q6, .ref q7, .int (F 19), .ref q8, .int (F 21), .int (F 22), .int (F 23), .int (F 24), .ref q9, .ref q10, .ref q11, .long (J 28)])), (q2, .inl (g.2 1, 2000, .inl tx)), (q4, .inl (g.2 0, 94, .inl td))]) [0, 2, 3] (by decide) rfl
        have hFc := va_free (wc := [(qM, .inr (9, [.int (F 0), .ref q1, .ref q2, .ref q3, .int (F 4), .int (F 5), .int (F 6), .int (F 7), .int (F 8), .int (F 9), .long (J 10), .int (F 11), .int (F 12), .int (F 13), .ref q4, .int (F 15), .ref q5, .ref q6, .ref q7, .int (F 19), .ref q8, .int (F 21), .int (F 22), .int (F 23), .int (F 24), .ref q9, .ref q10, .ref q11, .long (J 28)])), (q2, .inl (g.2 1, 2000, .inl tx)), (q4, .inl (g.2 0, 94, .inl td))]) hD hS hA [0, 2, 3] rfl
        refine va_calli (va_runV (As := []) (rest := []) S (wX9_line l g qM q1 q2 q3 q4 q5 q6 q7 q8 q9 q10 q11 H.size F J tx td (sX9_line b_44 nb_44 i_44 f_44 T_44 G0_44 G1_44 lim_44 F J tx td ho_1)) (cwV 0 hts gX9_tune_X9_line rfl rfl rfl (by decide +kernel) ⟨Nat.le_of_ble_eq_true rfl, Nat.le_of_ble_eq_true rfl⟩) ⟨blindRW, va_recv hK hP (ci := 9) (q0 := 0) rfl rfl, fun U hU hW => ⟨rfl, by rw [hU], by rw [hU]; exact hPc, hG.warm hW, hDc.weaken (fun _ _ _ _ => trivial)⟩⟩ rfl rfl hl.1 rfl (lv_room (Nat.le_of_ble_eq_true rfl)) dX9_tune_44 ⟨Nat.le_of_ble_eq_true rfl, Nat.le_of_ble_eq_true rfl⟩) hS (fun q _ h => hFc q h) hFc (fun r_44 u t H1 locs ht hvm hw hB hz1 hk1 hS => ?_)
        obtain ⟨F_44, J_44, td_44⟩ := u
        obtain ⟨hP1, hD1⟩ := hB
        rw [ht] at hP1
        have hv := hv r_44 F_44 J_44 td_44 hw
        obtain ⟨hP, hD⟩ := va_join (wr := [(q1, .inl (g.2 0, 376, .inl al))]) (w1 := [(qM, .inr (9, [.int (F_44 0), .ref q1, .ref q2, .ref q3, .int (F_44 4), .int (F_44 5), .int (F_44 6), .int (F_44 7), .int (F_44 8), .int (F_44 9), .long (J_44 10), .int (F_44 11), .int (F_44 12), .int (F_44 13), .ref q4, .int (F_44 15), .ref q5, .ref q6, .ref q7, .int (F_44 19), .ref q8, .int (F_44 21), .int (F_44 22), .int (F_44 23), .int (F_44 24), .ref q9, .ref q10, .ref q11, .long (J_44 28)])), (q2, .inl (g.2 1, 2000, .inl tx)), (q4, .inl (g.2 0, 94, .inl td_44))]) hP hD [0, 2, 3] [1] rfl rfl (by decide) (by decide) hk1 hFc hP1 hD1
        clear hP1 hD1 hPc hDc hFc hk1
        generalize H1 = H at hP hS ⊢
        have hP : va_P g.1 vwCl [(q1, .inl (g.2 0, 376, .inl al)), (qM, .inr (9, [.int (F_44 0), .ref q1, .ref q2, .ref q3, .int (F_44 4), .int (F_44 5), .int (F_44 6), .int (F_44 7), .int (F_44 8), .int (F_44 9), .long (J_44 10), .int (F_44 11), .int (F_44 12), .int (F_44 13), .ref q4, .int (F_44 15), .ref q5, .ref q6, .ref q7, .int (F_44 19), .ref q8, .int (F_44 21), .int (F_44 22), .int (F_44 23), .int (F_44 24), .ref q9, .ref q10, .ref q11, .long (J_44 28)])), (q2, .inl (g.2 1, 2000, .inl tx)), (q4, .inl (g.2 0, 94, .inl td_44))] H := hP
        have hD : va_D A [(q1, .inl (g.2 0, 376, .inl al)), (qM, .inr (9, [.int (F_44 0), .ref q1, .ref q2, .ref q3, .int (F_44 4), .int (F_44 5), .int (F_44 6), .int (F_44 7), .int (F_44 8), .int (F_44 9), .long (J_44 10), .int (F_44 11), .int (F_44 12), .int (F_44 13), .ref q4, .int (F_44 15), .ref q5, .ref q6, .ref q7, .int (F_44 19), .ref q8, .int (F_44 21), .int (F_44 22), .int (F_44 23), .int (F_44 24), .ref q9, .ref q10, .ref q11, .long (J_44 28)])), (q2, .inl (g.2 1, 2000, .inl tx)), (q4, .inl (g.2 0, 94, .inl td_44))] := hD
        refine lv_istore_n (lv' := [(1, .int r_44), (0, .ref qM)]) hx hb dX9_tune_47 rfl hl (by decide) rfl (fun ls hl => ?_)
        refine lv_iload_n hx hb dX9_tune_48 rfl (lv_at hl 0 rfl) ?_
        obtain ⟨hvt, hvf⟩ := hv
        refine lv_if_eq (tgt := 65) hx hb dX9_tune_49 (by decide) (fun hc => ?_) (fun hc => ?_)
        · have hv := hvt hc
          refine lv_iload_n hx hb dX9_tune_65 rfl (lv_at hl 0 rfl) ?_
          obtain ⟨hvt, hvf⟩ := hv
          refine lv_if_eq (tgt := 32) hx hb dX9_tune_66 (by decide) (fun hc => ?_) (fun hc => ?_)
          · have hv := hvt hc
            exact ih _ _ _ _ _ hv _ _ (hP.sub (ws' := [(qM, .inr (9, [.int (F_44 0), .ref q1, .ref q2, .ref q3, .int (F_44 4), .int (F_44 5), .int (F_44 6), .int (F_44 7), .int (F_44 8), .int (F_44 9), .long (J_44 10), .int (F_44 11), .int (F_44 12), .int (F_44 13), .ref q4, .int (F_44 15), .ref q5, .ref q6, .ref q7, .int (F_44 19), .ref q8, .int (F_44 21), .int (F_44 22), .int (F_44 23), .int (F_44 24), .ref q9, .ref q10, .ref q11, .long (J_44 28)])), (q1, .inl (g.2 0, 376, .inl al)), (q2, .inl (g.2 1, 2000, .inl tx)), (q4, .inl (g.2 0, 94, .inl td_44))]) [1, 0, 2, 3] rfl) (hD.sub (ws' := [(qM, .inr (9, [.int (F_44 0), .ref q1, .ref q2, .ref q3, .int (F_44 4), .int (F_44 5), .int (F_44 6), .int (F_44 7), .int (F_44 8), .int (F_44 9), .long (J_44 10), .int (F_44 11), .int (F_44 12), .int (F_44 13), .ref q4, .int (F_44 15), .ref q5, .ref q6, .ref q7, .int (F_44 19), .ref q8, .int (F_44 21), .int (F_44 22), .int (F_44 23), .int (F_44 24), .ref q9, .ref q10, .ref q11, .long (J_44 28)])), (q1, .inl (g.2 0, 376, .inl al)), (q2, .inl (g.2 1, 2000, .inl tx)), (q4, .inl (g.2 0, 94, .inl td_44))]) [1, 0, 2, 3] (by decide) rfl) hS ls (lv_sub hl [1, 0] rfl)
          · have hv := hvf hc
            refine lv_aload_n hx hb dX9_tune_69 rfl (lv_at hl 1 rfl) ?_
            obtain ⟨b_70, nb_70, i_70, ho_2, hv⟩ := hv
            have hPc := hP.sub (ws' := [(qM, .inr (9, [.int (F_44 0), .ref q1, .ref q2, .ref q3, .int (F_44 4), .int (F_44 5), .int (F_44 6), .int (F_44 7), .int (F_44 8), .int (F_44 9), .long (J_44 10), .int (F_44 11), .int (F_44 12), .int (F_44 13), .ref q4, .int (F_44 15), .ref q5, .ref q6, .ref q7, .int (F_44 19), .ref q8, .int (F_44 21), .int (F_44 22), .int (F_44 23), .int (F_44 24), .ref q9, .ref q10, .ref q11, .long (J_44 28)])), (q2, .inl (g.2 1, 2000, .inl tx))]) [1, 2] rfl
            have hDc := hD.sub (ws' := [(qM, .inr (9, [.int (F_44 0), .ref q1, .ref q2, .ref q3, .int (F_44 4), .int (F_44 5), .int (F_44 6), .int (F_44 7), .int (F_44 8), .int (F_44 9), .long (J_44 10), .int (F_44 11), .int (F_44 12), .int (F_44 13), .ref q4, .int (F_44 15), .ref q5, .ref q6, .ref q7, .int (F_44 19), .ref q8, .int (F_44 21), .int (F_44 22), .int (F_44 23), .int (F_44 24), .ref q9, .ref q10, .ref q11, .long (J_44 28)])), (q2, .inl (g.2 1, 2000, .inl tx))]) [1, 2] (by decide) rfl
            have hFc := va_free (wc := [(qM, .inr (9, [.int (F_44 0), .ref q1, .ref q2, .ref q3, .int (F_44 4), .int (F_44 5), .int (F_44 6), .int (F_44 7), .int (F_44 8), .int (F_44 9), .long (J_44 10), .int (F_44 11), .int (F_44 12), .int (F_44 13), .ref q4, .int (F_44 15), .ref q5, .ref q6, .ref q7, .int (F_44 19), .ref q8, .int (F_44 21), .int (F_44 22), .int (F_44 23), .int (F_44 24), .ref q9, .ref q10, .ref q11, .long (J_44 28)])), (q2, .inl (g.2 1, 2000, .inl tx))]) hD hS hA [1, 2] rfl
            refine va_callv (va_runV (As := []) (rest := []) S (wX9_token l g qM q1 q2 q3 q4 q5 q6 q7 q8 q9 q10 q11 H.size F_44 J_44 tx (sX9_token b_70 nb_70 i_70 F_44 J_44 tx ho_2)) (cwV 0 hts gX9_tune_X9_token rfl rfl rfl (by decide +kernel) ⟨Nat.le_of_ble_eq_true rfl, Nat.le_of_ble_eq_true rfl⟩) ⟨blindRW, va_recv hK hP (ci := 9) (q0 := 1) rfl rfl, fun U hU hW => ⟨rfl, by rw [hU], by rw [hU]; exact hPc, hG.warm hW, hDc.weaken (fun _ _ _ _ => trivial)⟩⟩ rfl rfl hl.1 rfl (lv_room (Nat.le_of_ble_eq_true rfl)) dX9_tune_70 ⟨Nat.le_of_ble_eq_true rfl, Nat.le_of_ble_eq_true rfl⟩) hS (fun q _ h => hFc q h) hFc (fun u t H1 locs ht hvm hw hB hz1 hk1 hS => ?_)
            obtain ⟨F_70, J_70⟩ := u
            obtain ⟨hP1, hD1⟩ := hB
            rw [ht] at hP1
            have hv := hv F_70 J_70 hw
            obtain ⟨hP, hD⟩ := va_join (wr := [(q1, .inl (g.2 0, 376, .inl al)), (q4, .inl (g.2 0, 94, .inl td_44))]) (w1 := [(qM, .inr (9, [.int (F_70 0), .ref q1, .ref q2, .ref q3, .int (F_70 4), .int (F_70 5), .int (F_70 6), .int (F_70 7), .int (F_70 8), .int (F_70 9), .long (J_70 10), .int (F_70 11), .int (F_70 12), .int (F_70 13), .ref q4, .int (F_70 15), .ref q5, .ref q6, .ref q7, .int (F_70 19), .ref q8, .int (F_70 21), .int (F_70 22), .int (F_70 23), .int (F_70 24), .ref q9, .ref q10, .ref q11, .long (J_70 28)])), (q2, .inl (g.2 1, 2000, .inl tx))]) hP hD [1, 2] [0, 3] rfl rfl (by decide) (by decide) hk1 hFc hP1 hD1
            clear hP1 hD1 hPc hDc hFc hk1
            generalize H1 = H at hP hS ⊢
            have hP : va_P g.1 vwCl [(q1, .inl (g.2 0, 376, .inl al)), (q4, .inl (g.2 0, 94, .inl td_44)), (qM, .inr (9, [.int (F_70 0), .ref q1, .ref q2, .ref q3, .int (F_70 4), .int (F_70 5), .int (F_70 6), .int (F_70 7), .int (F_70 8), .int (F_70 9), .long (J_70 10), .int (F_70 11), .int (F_70 12), .int (F_70 13), .ref q4, .int (F_70 15), .ref q5, .ref q6, .ref q7, .int (F_70 19), .ref q8, .int (F_70 21), .int (F_70 22), .int (F_70 23), .int (F_70 24), .ref q9, .ref q10, .ref q11, .long (J_70 28)])), (q2, .inl (g.2 1, 2000, .inl tx))] H := hP
            have hD : va_D A [(q1, .inl (g.2 0, 376, .inl al)), (q4, .inl (g.2 0, 94, .inl td_44)), (qM, .inr (9, [.int (F_70 0), .ref q1, .ref q2, .ref q3, .int (F_70 4), .int (F_70 5), .int (F_70 6), .int (F_70 7), .int (F_70 8), .int (F_70 9), .long (J_70 10), .int (F_70 11), .int (F_70 12), .int (F_70 13), .ref q4, .int (F_70 15), .ref q5, .ref q6, .ref q7, .int (F_70 19), .ref q8, .int (F_70 21), .int (F_70 22), .int (F_70 23), .int (F_70 24), .ref q9, .ref q10, .ref q11, .long (J_70 28)])), (q2, .inl (g.2 1, 2000, .inl tx))] := hD
            refine lv_goto (tgt := 32) hx hb dX9_tune_73 (by decide) ?_
            exact ih _ _ _ _ _ hv _ _ (hP.sub (ws' := [(qM, .inr (9, [.int (F_70 0), .ref q1, .ref q2, .ref q3, .int (F_70 4), .int (F_70 5), .int (F_70 6), .int (F_70 7), .int (F_70 8), .int (F_70 9), .long (J_70 10), .int (F_70 11), .int (F_70 12), .int (F_70 13), .ref q4, .int (F_70 15), .ref q5, .ref q6, .ref q7, .int (F_70 19), .ref q8, .int (F_70 21), .int (F_70 22), .int (F_70 23), .int (F_70 24), .ref q9, .ref q10, .ref q11, .long (J_70 28)])), (q1, .inl (g.2 0, 376, .inl al)), (q2, .inl (g.2 1, 2000, .inl tx)), (q4, .inl (g.2 0, 94, .inl td_44))]) [2, 0, 3, 1] rfl) (hD.sub (ws' := [(qM, .inr (9, [.int (F_70 0), .ref q1, .ref q2, .ref q3, .int (F_70 4), .int (F_70 5), .int (F_70 6), .int (F_70 7), .int (F_70 8), .int (F_70 9), .long (J_70 10), .int (F_70 11), .int (F_70 12), .int (F_70 13), .ref q4, .int (F_70 15), .ref q5, .ref q6, .ref q7, .int (F_70 19), .ref q8, .int (F_70 21), .int (F_70 22), .int (F_70 23), .int (F_70 24), .ref q9, .ref q10, .ref q11, .long (J_70 28)])), (q1, .inl (g.2 0, 376, .inl al)), (q2, .inl (g.2 1, 2000, .inl tx)), (q4, .inl (g.2 0, 94, .inl td_44))]) [2, 0, 3, 1] (by decide) rfl) hS ls (lv_sub hl [1, 0] rfl)
        · have hv := hvf hc
          refine lv_aload_n hx hb dX9_tune_52 rfl (lv_at hl 1 rfl) ?_
          refine va_get (D := g.1) (ci := 9) (v := .int (F_44 7)) (C := RX9) (T := TX9) (N := 29) hx hb hts inX9_tune_9 hown hK hP 1 rfl rfl 7 (by decide) (hts (.fieldLink RX9 86 "RangeCodesModel" "sort" "I") (List.mem_of_getElem? (i := 4) rfl)) (fun _ h9 => h9) rfl dX9_tune_53 ?_
          refine lv_iconst (v := (4 : Int32)) hx hb dX9_tune_56 (by decide) ?_
          obtain ⟨hvt, hvf⟩ := hv
          refine lv_icmp_eq (tgt := 65) hx hb dX9_tune_57 (by decide) (fun hc => ?_) (fun hc => ?_)
          · have hv := hvt hc
            refine lv_iload_n hx hb dX9_tune_65 rfl (lv_at hl 0 rfl) ?_
            obtain ⟨hvt, hvf⟩ := hv
            refine lv_if_eq (tgt := 32) hx hb dX9_tune_66 (by decide) (fun hc => ?_) (fun hc => ?_)
            · have hv := hvt hc
              exact ih _ _ _ _ _ hv _ _ (hP.sub (ws' := [(qM, .inr (9, [.int (F_44 0), .ref q1, .ref q2, .ref q3, .int (F_44 4), .int (F_44 5), .int (F_44 6), .int (F_44 7), .int (F_44 8), .int (F_44 9), .long (J_44 10), .int (F_44 11), .int (F_44 12), .int (F_44 13), .ref q4, .int (F_44 15), .ref q5, .ref q6, .ref q7, .int (F_44 19), .ref q8, .int (F_44 21), .int (F_44 22), .int (F_44 23), .int (F_44 24), .ref q9, .ref q10, .ref q11, .long (J_44 28)])), (q1, .inl (g.2 0, 376, .inl al)), (q2, .inl (g.2 1, 2000, .inl tx)), (q4, .inl (g.2 0, 94, .inl td_44))]) [1, 0, 2, 3] rfl) (hD.sub (ws' := [(qM, .inr (9, [.int (F_44 0), .ref q1, .ref q2, .ref q3, .int (F_44 4), .int (F_44 5), .int (F_44 6), .int (F_44 7), .int (F_44 8), .int (F_44 9), .long (J_44 10), .int (F_44 11), .int (F_44 12), .int (F_44 13), .ref q4, .int (F_44 15), .ref q5, .ref q6, .ref q7, .int (F_44 19), .ref q8, .int (F_44 21), .int (F_44 22), .int (F_44 23), .int (F_44 24), .ref q9, .ref q10, .ref q11, .long (J_44 28)])), (q1, .inl (g.2 0, 376, .inl al)), (q2, .inl (g.2 1, 2000, .inl tx)), (q4, .inl (g.2 0, 94, .inl td_44))]) [1, 0, 2, 3] (by decide) rfl) hS ls (lv_sub hl [1, 0] rfl)
            · have hv := hvf hc
              refine lv_aload_n hx hb dX9_tune_69 rfl (lv_at hl 1 rfl) ?_
              obtain ⟨b_70, nb_70, i_70, ho_3, hv⟩ := hv
              have hPc := hP.sub (ws' := [(qM, .inr (9, [.int (F_44 0), .ref q1, .ref q2, .ref q3, .int (F_44 4), .int (F_44 5), .int (F_44 6), .int (F_44 7), .int (F_44 8), .int (F_44 9), .long (J_44 10), .int (F_44 11), .int (F_44 12), .int (F_44 13), .ref q4, .int (F_44 15), .ref q5, .ref q6, .ref q7, .int (F_44 19), .ref q8, .int (F_44 21), .int (F_44 22), .int (F_44 23), .int (F_44 24), .ref q9, .ref q10, .ref q11, .long (J_44 28)])), (q2, .inl (g.2 1, 2000, .inl tx))]) [1, 2] rfl
              have hDc := hD.sub (ws' := [(qM, .inr (9, [.int (F_44 0), .ref q1, .ref q2, .ref q3, .int (F_44 4), .int (F_44 5), .int (F_44 6), .int (F_44 7), .int (F_44 8), .int (F_44 9), .long (J_44 10), .int (F_44 11), .int (F_44 12), .int (F_44 13), .ref q4, .int (F_44 15), .ref q5, .ref q6, .ref q7, .int (F_44 19), .ref q8, .int (F_44 21), .int (F_44 22), .int (F_44 23), .int (F_44 24), .ref q9, .ref q10, .ref q11, .long (J_44 28)])), (q2, .inl (g.2 1, 2000, .inl tx))]) [1, 2] (by decide) rfl
              have hFc := va_free (wc := [(qM, .inr (9, [.int (F_44 0), .ref q1, .ref q2, .ref q3, .int (F_44 4), .int (F_44 5), .int (F_44 6), .int (F_44 7), .int (F_44 8), .int (F_44 9), .long (J_44 10), .int (F_44 11), .int (F_44 12), .int (F_44 13), .ref q4, .int (F_44 15), .ref q5, .ref q6, .ref q7, .int (F_44 19), .ref q8, .int (F_44 21), .int (F_44 22), .int (F_44 23), .int (F_44 24), .ref q9, .ref q10, .ref q11, .long (J_44 28)])), (q2, .inl (g.2 1, 2000, .inl tx))]) hD hS hA [1, 2] rfl
              refine va_callv (va_runV (As := []) (rest := []) S (wX9_token l g qM q1 q2 q3 q4 q5 q6 q7 q8 q9 q10 q11 H.size F_44 J_44 tx (sX9_token b_70 nb_70 i_70 F_44 J_44 tx ho_3)) (cwV 0 hts gX9_tune_X9_token rfl rfl rfl (by decide +kernel) ⟨Nat.le_of_ble_eq_true rfl, Nat.le_of_ble_eq_true rfl⟩) ⟨blindRW, va_recv hK hP (ci := 9) (q0 := 1) rfl rfl, fun U hU hW => ⟨rfl, by rw [hU], by rw [hU]; exact hPc, hG.warm hW, hDc.weaken (fun _ _ _ _ => trivial)⟩⟩ rfl rfl hl.1 rfl (lv_room (Nat.le_of_ble_eq_true rfl)) dX9_tune_70 ⟨Nat.le_of_ble_eq_true rfl, Nat.le_of_ble_eq_true rfl⟩) hS (fun q _ h => hFc q h) hFc (fun u t H1 locs ht hvm hw hB hz1 hk1 hS => ?_)
              obtain ⟨F_70, J_70⟩ := u
              obtain ⟨hP1, hD1⟩ := hB
              rw [ht] at hP1
              have hv := hv F_70 J_70 hw
              obtain ⟨hP, hD⟩ := va_join (wr := [(q1, .inl (g.2 0, 376, .inl al)), (q4, .inl (g.2 0, 94, .inl td_44))]) (w1 := [(qM, .inr (9, [.int (F_70 0), .ref q1, .ref q2, .ref q3, .int (F_70 4), .int (F_70 5), .int (F_70 6), .int (F_70 7), .int (F_70 8), .int (F_70 9), .long (J_70 10), .int (F_70 11), .int (F_70 12), .int (F_70 13), .ref q4, .int (F_70 15), .ref q5, .ref q6, .ref q7, .int (F_70 19), .ref q8, .int (F_70 21), .int (F_70 22), .int (F_70 23), .int (F_70 24), .ref q9, .ref q10, .ref q11, .long (J_70 28)])), (q2, .inl (g.2 1, 2000, .inl tx))]) hP hD [1, 2] [0, 3] rfl rfl (by decide) (by decide) hk1 hFc hP1 hD1
              clear hP1 hD1 hPc hDc hFc hk1
              generalize H1 = H at hP hS ⊢
              have hP : va_P g.1 vwCl [(q1, .inl (g.2 0, 376, .inl al)), (q4, .inl (g.2 0, 94, .inl td_44)), (qM, .inr (9, [.int (F_70 0), .ref q1, .ref q2, .ref q3, .int (F_70 4), .int (F_70 5), .int (F_70 6), .int (F_70 7), .int (F_70 8), .int (F_70 9), .long (J_70 10), .int (F_70 11), .int (F_70 12), .int (F_70 13), .ref q4, .int (F_70 15), .ref q5, .ref q6, .ref q7, .int (F_70 19), .ref q8, .int (F_70 21), .int (F_70 22), .int (F_70 23), .int (F_70 24), .ref q9, .ref q10, .ref q11, .long (J_70 28)])), (q2, .inl (g.2 1, 2000, .inl tx))] H := hP
              have hD : va_D A [(q1, .inl (g.2 0, 376, .inl al)), (q4, .inl (g.2 0, 94, .inl td_44)), (qM, .inr (9, [.int (F_70 0), .ref q1, .ref q2, .ref q3, .int (F_70 4), .int (F_70 5), .int (F_70 6), .int (F_70 7), .int (F_70 8), .int (F_70 9), .long (J_70 10), .int (F_70 11), .int (F_70 12), .int (F_70 13), .ref q4, .int (F_70 15), .ref q5, .ref q6, .ref q7, .int (F_70 19), .ref q8, .int (F_70 21), .int (F_70 22), .int (F_70 23), .int (F_70 24), .ref q9, .ref q10, .ref q11, .long (J_70 28)])), (q2, .inl (g.2 1, 2000, .inl tx))] := hD
              refine lv_goto (tgt := 32) hx hb dX9_tune_73 (by decide) ?_
              exact ih _ _ _ _ _ hv _ _ (hP.sub (ws' := [(qM, .inr (9, [.int (F_70 0), .ref q1, .ref q2, .ref q3, .int (F_70 4), .int (F_70 5), .int (F_70 6), .int (F_70 7), .int (F_70 8), .int (F_70 9), .long (J_70 10), .int (F_70 11), .int (F_70 12), .int (F_70 13), .ref q4, .int (F_70 15), .ref q5, .ref q6, .ref q7, .int (F_70 19), .ref q8, .int (F_70 21), .int (F_70 22), .int (F_70 23), .int (F_70 24), .ref q9, .ref q10, .ref q11, .long (J_70 28)])), (q1, .inl (g.2 0, 376, .inl al)), (q2, .inl (g.2 1, 2000, .inl tx)), (q4, .inl (g.2 0, 94, .inl td_44))]) [2, 0, 3, 1] rfl) (hD.sub (ws' := [(qM, .inr (9, [.int (F_70 0), .ref q1, .ref q2, .ref q3, .int (F_70 4), .int (F_70 5), .int (F_70 6), .int (F_70 7), .int (F_70 8), .int (F_70 9), .long (J_70 10), .int (F_70 11), .int (F_70 12), .int (F_70 13), .ref q4, .int (F_70 15), .ref q5, .ref q6, .ref q7, .int (F_70 19), .ref q8, .int (F_70 21), .int (F_70 22), .int (F_70 23), .int (F_70 24), .ref q9, .ref q10, .ref q11, .long (J_70 28)])), (q1, .inl (g.2 0, 376, .inl al)), (q2, .inl (g.2 1, 2000, .inl tx)), (q4, .inl (g.2 0, 94, .inl td_44))]) [2, 0, 3, 1] (by decide) rfl) hS ls (lv_sub hl [1, 0] rfl)
          · have hv := hvf hc
            refine lv_aload_n hx hb dX9_tune_60 rfl (lv_at hl 1 rfl) ?_
            obtain ⟨ho_4, hv⟩ := hv
            have hPc := hP.sub (ws' := [(qM, .inr (9, [.int (F_44 0), .ref q1, .ref q2, .ref q3, .int (F_44 4), .int (F_44 5), .int (F_44 6), .int (F_44 7), .int (F_44 8), .int (F_44 9), .long (J_44 10), .int (F_44 11), .int (F_44 12), .int (F_44 13), .ref q4, .int (F_44 15), .ref q5, .ref q6, .ref q7, .int (F_44 19), .ref q8, .int (F_44 21), .int (F_44 22), .int (F_44 23), .int (F_44 24), .ref q9, .ref q10, .ref q11, .long (J_44 28)]))]) [1] rfl
            have hDc := hD.sub (ws' := [(qM, .inr (9, [.int (F_44 0), .ref q1, .ref q2, .ref q3, .int (F_44 4), .int (F_44 5), .int (F_44 6), .int (F_44 7), .int (F_44 8), .int (F_44 9), .long (J_44 10), .int (F_44 11), .int (F_44 12), .int (F_44 13), .ref q4, .int (F_44 15), .ref q5, .ref q6, .ref q7, .int (F_44 19), .ref q8, .int (F_44 21), .int (F_44 22), .int (F_44 23), .int (F_44 24), .ref q9, .ref q10, .ref q11, .long (J_44 28)]))]) [1] (by decide) rfl
            have hFc := va_free (wc := [(qM, .inr (9, [.int (F_44 0), .ref q1, .ref q2, .ref q3, .int (F_44 4), .int (F_44 5), .int (F_44 6), .int (F_44 7), .int (F_44 8), .int (F_44 9), .long (J_44 10), .int (F_44 11), .int (F_44 12), .int (F_44 13), .ref q4, .int (F_44 15), .ref q5, .ref q6, .ref q7, .int (F_44 19), .ref q8, .int (F_44 21), .int (F_44 22), .int (F_44 23), .int (F_44 24), .ref q9, .ref q10, .ref q11, .long (J_44 28)]))]) hD hS hA [1] rfl
            refine va_calli (va_runV (As := []) (rest := []) S (wX9_fails l g qM q1 q2 q3 q4 q5 q6 q7 q8 q9 q10 q11 H.size F_44 J_44 (sX9_fails F_44 J_44 ho_4)) (cwV 0 hts gX9_tune_X9_fails rfl rfl rfl (by decide +kernel) ⟨Nat.le_of_ble_eq_true rfl, Nat.le_of_ble_eq_true rfl⟩) ⟨blindRW, va_recv hK hP (ci := 9) (q0 := 1) rfl rfl, fun U hU hW => ⟨rfl, by rw [hU], by rw [hU]; exact hPc, hG.warm hW, hDc.weaken (fun _ _ _ _ => trivial)⟩⟩ rfl rfl hl.1 rfl (lv_room (Nat.le_of_ble_eq_true rfl)) dX9_tune_61 ⟨Nat.le_of_ble_eq_true rfl, Nat.le_of_ble_eq_true rfl⟩) hS (fun q _ h => hFc q h) hFc (fun r_61 u t H1 locs ht hvm hw hB hz1 hk1 hS => ?_)
            obtain ⟨F_61, rfl⟩ : ∃ z, z = u := ⟨_, rfl⟩
            obtain ⟨hP1, hD1⟩ := hB
            rw [ht] at hP1
            have hv := hv r_61 F_61 hw
            obtain ⟨hP, hD⟩ := va_join (wr := [(q1, .inl (g.2 0, 376, .inl al)), (q2, .inl (g.2 1, 2000, .inl tx)), (q4, .inl (g.2 0, 94, .inl td_44))]) (w1 := [(qM, .inr (9, [.int (F_61 0), .ref q1, .ref q2, .ref q3, .int (F_61 4), .int (F_61 5), .int (F_61 6), .int (F_61 7), .int (F_61 8), .int (F_61 9), .long (J_44 10), .int (F_61 11), .int (F_61 12), .int (F_61 13), .ref q4, .int (F_61 15), .ref q5, .ref q6, .ref q7, .int (F_61 19), .ref q8, .int (F_61 21), .int (F_61 22), .int (F_61 23), .int (F_61 24), .ref q9, .ref q10, .ref q11, .long (J_44 28)]))]) hP hD [1] [0, 2, 3] rfl rfl (by decide) (by decide) hk1 hFc hP1 hD1
            clear hP1 hD1 hPc hDc hFc hk1
            generalize H1 = H at hP hS ⊢
            have hP : va_P g.1 vwCl [(q1, .inl (g.2 0, 376, .inl al)), (q2, .inl (g.2 1, 2000, .inl tx)), (q4, .inl (g.2 0, 94, .inl td_44)), (qM, .inr (9, [.int (F_61 0), .ref q1, .ref q2, .ref q3, .int (F_61 4), .int (F_61 5), .int (F_61 6), .int (F_61 7), .int (F_61 8), .int (F_61 9), .long (J_44 10), .int (F_61 11), .int (F_61 12), .int (F_61 13), .ref q4, .int (F_61 15), .ref q5, .ref q6, .ref q7, .int (F_61 19), .ref q8, .int (F_61 21), .int (F_61 22), .int (F_61 23), .int (F_61 24), .ref q9, .ref q10, .ref q11, .long (J_44 28)]))] H := hP
            have hD : va_D A [(q1, .inl (g.2 0, 376, .inl al)), (q2, .inl (g.2 1, 2000, .inl tx)), (q4, .inl (g.2 0, 94, .inl td_44)), (qM, .inr (9, [.int (F_61 0), .ref q1, .ref q2, .ref q3, .int (F_61 4), .int (F_61 5), .int (F_61 6), .int (F_61 7), .int (F_61 8), .int (F_61 9), .long (J_44 10), .int (F_61 11), .int (F_61 12), .int (F_61 13), .ref q4, .int (F_61 15), .ref q5, .ref q6, .ref q7, .int (F_61 19), .ref q8, .int (F_61 21), .int (F_61 22), .int (F_61 23), .int (F_61 24), .ref q9, .ref q10, .ref q11, .long (J_44 28)]))] := hD
            refine lv_istore_n (lv' := [(1, .int r_61), (0, .ref qM)]) hx hb dX9_tune_64 rfl hl (by decide) rfl (fun ls hl => ?_)
            refine lv_iload_n hx hb dX9_tune_65 rfl (lv_at hl 0 rfl) ?_
            obtain ⟨hvt, hvf⟩ := hv
            refine lv_if_eq (tgt := 32) hx hb dX9_tune_66 (by decide) (fun hc => ?_) (fun hc => ?_)
            · have hv := hvt hc
              exact ih _ _ _ _ _ hv _ _ (hP.sub (ws' := [(qM, .inr (9, [.int (F_61 0), .ref q1, .ref q2, .ref q3, .int (F_61 4), .int (F_61 5), .int (F_61 6), .int (F_61 7), .int (F_61 8), .int (F_61 9), .long (J_44 10), .int (F_61 11), .int (F_61 12), .int (F_61 13), .ref q4, .int (F_61 15), .ref q5, .ref q6, .ref q7, .int (F_61 19), .ref q8, .int (F_61 21), .int (F_61 22), .int (F_61 23), .int (F_61 24), .ref q9, .ref q10, .ref q11, .long (J_44 28)])), (q1, .inl (g.2 0, 376, .inl al)), (q2, .inl (g.2 1, 2000, .inl tx)), (q4, .inl (g.2 0, 94, .inl td_44))]) [3, 0, 1, 2] rfl) (hD.sub (ws' := [(qM, .inr (9, [.int (F_61 0), .ref q1, .ref q2, .ref q3, .int (F_61 4), .int (F_61 5), .int (F_61 6), .int (F_61 7), .int (F_61 8), .int (F_61 9), .long (J_44 10), .int (F_61 11), .int (F_61 12), .int (F_61 13), .ref q4, .int (F_61 15), .ref q5, .ref q6, .ref q7, .int (F_61 19), .ref q8, .int (F_61 21), .int (F_61 22), .int (F_61 23), .int (F_61 24), .ref q9, .ref q10, .ref q11, .long (J_44 28)])), (q1, .inl (g.2 0, 376, .inl al)), (q2, .inl (g.2 1, 2000, .inl tx)), (q4, .inl (g.2 0, 94, .inl td_44))]) [3, 0, 1, 2] (by decide) rfl) hS ls (lv_sub hl [1, 0] rfl)
            · have hv := hvf hc
              refine lv_aload_n hx hb dX9_tune_69 rfl (lv_at hl 1 rfl) ?_
              obtain ⟨b_70, nb_70, i_70, ho_5, hv⟩ := hv
              have hPc := hP.sub (ws' := [(qM, .inr (9, [.int (F_61 0), .ref q1, .ref q2, .ref q3, .int (F_61 4), .int (F_61 5), .int (F_61 6), .int (F_61 7), .int (F_61 8), .int (F_61 9), .long (J_44 10), .int (F_61 11), .int (F_61 12), .int (F_61 13), .ref q4, .int (F_61 15), .ref q5, .ref q6, .ref q7, .int (F_61 19), .ref q8, .int (F_61 21), .int (F_61 22), .int (F_61 23), .int (F_61 24), .ref q9, .ref q10, .ref q11, .long (J_44 28)])), (q2, .inl (g.2 1, 2000, .inl tx))]) [3, 1] rfl
              have hDc := hD.sub (ws' := [(qM, .inr (9, [.int (F_61 0), .ref q1, .ref q2, .ref q3, .int (F_61 4), .int (F_61 5), .int (F_61 6), .int (F_61 7), .int (F_61 8), .int (F_61 9), .long (J_44 10), .int (F_61 11), .int (F_61 12), .int (F_61 13), .ref q4, .int (F_61 15), .ref q5, .ref q6, .ref q7, .int (F_61 19), .ref q8, .int (F_61 21), .int (F_61 22), .int (F_61 23), .int (F_61 24), .ref q9, .ref q10, .ref q11, .long (J_44 28)])), (q2, .inl (g.2 1, 2000, .inl tx))]) [3, 1] (by decide) rfl
              have hFc := va_free (wc := [(qM, .inr (9, [.int (F_61 0), .ref q1, .ref q2, .ref q3, .int (F_61 4), .int (F_61 5), .int (F_61 6), .int (F_61 7), .int (F_61 8), .int (F_61 9), .long (J_44 10), .int (F_61 11), .int (F_61 12), .int (F_61 13), .ref q4, .int (F_61 15), .ref q5, .ref q6, .ref q7, .int (F_61 19), .ref q8, .int (F_61 21), .int (F_61 22), .int (F_61 23), .int (F_61 24), .ref q9, .ref q10, .ref q11, .long (J_44 28)])), (q2, .inl (g.2 1, 2000, .inl tx))]) hD hS hA [3, 1] rfl
              refine va_callv (va_runV (As := []) (rest := []) S (wX9_token l g qM q1 q2 q3 q4 q5 q6 q7 q8 q9 q10 q11 H.size F_61 J_44 tx (sX9_token b_70 nb_70 i_70 F_61 J_44 tx ho_5)) (cwV 0 hts gX9_tune_X9_token rfl rfl rfl (by decide +kernel) ⟨Nat.le_of_ble_eq_true rfl, Nat.le_of_ble_eq_true rfl⟩) ⟨blindRW, va_recv hK hP (ci := 9) (q0 := 3) rfl rfl, fun U hU hW => ⟨rfl, by rw [hU], by rw [hU]; exact hPc, hG.warm hW, hDc.weaken (fun _ _ _ _ => trivial)⟩⟩ rfl rfl hl.1 rfl (lv_room (Nat.le_of_ble_eq_true rfl)) dX9_tune_70 ⟨Nat.le_of_ble_eq_true rfl, Nat.le_of_ble_eq_true rfl⟩) hS (fun q _ h => hFc q h) hFc (fun u t H1 locs ht hvm hw hB hz1 hk1 hS => ?_)
              obtain ⟨F_70, J_70⟩ := u
              obtain ⟨hP1, hD1⟩ := hB
              rw [ht] at hP1
              have hv := hv F_70 J_70 hw
              obtain ⟨hP, hD⟩ := va_join (wr := [(q1, .inl (g.2 0, 376, .inl al)), (q4, .inl (g.2 0, 94, .inl td_44))]) (w1 := [(qM, .inr (9, [.int (F_70 0), .ref q1, .ref q2, .ref q3, .int (F_70 4), .int (F_70 5), .int (F_70 6), .int (F_70 7), .int (F_70 8), .int (F_70 9), .long (J_70 10), .int (F_70 11), .int (F_70 12), .int (F_70 13), .ref q4, .int (F_70 15), .ref q5, .ref q6, .ref q7, .int (F_70 19), .ref q8, .int (F_70 21), .int (F_70 22), .int (F_70 23), .int (F_70 24), .ref q9, .ref q10, .ref q11, .long (J_70 28)])), (q2, .inl (g.2 1, 2000, .inl tx))]) hP hD [3, 1] [0, 2] rfl rfl (by decide) (by decide) hk1 hFc hP1 hD1
              clear hP1 hD1 hPc hDc hFc hk1
              generalize H1 = H at hP hS ⊢
              have hP : va_P g.1 vwCl [(q1, .inl (g.2 0, 376, .inl al)), (q4, .inl (g.2 0, 94, .inl td_44)), (qM, .inr (9, [.int (F_70 0), .ref q1, .ref q2, .ref q3, .int (F_70 4), .int (F_70 5), .int (F_70 6), .int (F_70 7), .int (F_70 8), .int (F_70 9), .long (J_70 10), .int (F_70 11), .int (F_70 12), .int (F_70 13), .ref q4, .int (F_70 15), .ref q5, .ref q6, .ref q7, .int (F_70 19), .ref q8, .int (F_70 21), .int (F_70 22), .int (F_70 23), .int (F_70 24), .ref q9, .ref q10, .ref q11, .long (J_70 28)])), (q2, .inl (g.2 1, 2000, .inl tx))] H := hP
              have hD : va_D A [(q1, .inl (g.2 0, 376, .inl al)), (q4, .inl (g.2 0, 94, .inl td_44)), (qM, .inr (9, [.int (F_70 0), .ref q1, .ref q2, .ref q3, .int (F_70 4), .int (F_70 5), .int (F_70 6), .int (F_70 7), .int (F_70 8), .int (F_70 9), .long (J_70 10), .int (F_70 11), .int (F_70 12), .int (F_70 13), .ref q4, .int (F_70 15), .ref q5, .ref q6, .ref q7, .int (F_70 19), .ref q8, .int (F_70 21), .int (F_70 22), .int (F_70 23), .int (F_70 24), .ref q9, .ref q10, .ref q11, .long (J_70 28)])), (q2, .inl (g.2 1, 2000, .inl tx))] := hD
              refine lv_goto (tgt := 32) hx hb dX9_tune_73 (by decide) ?_
              exact ih _ _ _ _ _ hv _ _ (hP.sub (ws' := [(qM, .inr (9, [.int (F_70 0), .ref q1, .ref q2, .ref q3, .int (F_70 4), .int (F_70 5), .int (F_70 6), .int (F_70 7), .int (F_70 8), .int (F_70 9), .long (J_70 10), .int (F_70 11), .int (F_70 12), .int (F_70 13), .ref q4, .int (F_70 15), .ref q5, .ref q6, .ref q7, .int (F_70 19), .ref q8, .int (F_70 21), .int (F_70 22), .int (F_70 23), .int (F_70 24), .ref q9, .ref q10, .ref q11, .long (J_70 28)])), (q1, .inl (g.2 0, 376, .inl al)), (q2, .inl (g.2 1, 2000, .inl tx)), (q4, .inl (g.2 0, 94, .inl td_44))]) [2, 0, 3, 1] rfl) (hD.sub (ws' := [(qM, .inr (9, [.int (F_70 0), .ref q1, .ref q2, .ref q3, .int (F_70 4), .int (F_70 5), .int (F_70 6), .int (F_70 7), .int (F_70 8), .int (F_70 9), .long (J_70 10), .int (F_70 11), .int (F_70 12), .int (F_70 13), .ref q4, .int (F_70 15), .ref q5, .ref q6, .ref q7, .int (F_70 19), .ref q8, .int (F_70 21), .int (F_70 22), .int (F_70 23), .int (F_70 24), .ref q9, .ref q10, .ref q11, .long (J_70 28)])), (q1, .inl (g.2 0, 376, .inl al)), (q2, .inl (g.2 1, 2000, .inl tx)), (q4, .inl (g.2 0, 94, .inl td_44))]) [2, 0, 3, 1] (by decide) rfl) hS ls (lv_sub hl [1, 0] rfl)
def vX9_tune (F : Nat → Int32) (J : Nat → Int64) (al : Nat → Int32) (tx : Nat → Int32) (td : Nat → Int32) (Q : Int32 → (Nat → Int32) → (Nat → Int64) → (Nat → Int32) → (Nat → Int32) → Prop) : Prop := (preX9_atFirst (upd (upd F 0 (0 : Int32)) 5 (al 2)) J td ∧ (∀ (F_23 : Nat → Int32) (td_23 : Nat → Int32), postX9_atFirst (upd (upd F 0 (0 : Int32)) 5 (al 2)) J td F_23 td_23 → (∃ (b_27 : Nat → Int32) (nb_27 : Nat) (i_27 : Nat), preX9_token b_27 nb_27 i_27 F_23 J tx ∧ (∀ (F_27 : Nat → Int32) (J_27 : Nat → Int64), postX9_token b_27 nb_27 i_27 F_23 J tx F_27 J_27 → (∃ nn, vX9_tune_c32 tx Q nn (1 : Int32) F_27 J_27 (upd al 2 (0 : Int32)) td_23)))))
set_option maxHeartbeats 4000000 in
set_option maxRecDepth 100000 in
theorem wX9_tune (l : Launch) (g : GP) (qM : Nat) (q1 : Nat) (q2 : Nat) (q3 : Nat) (q4 : Nat) (q5 : Nat) (q6 : Nat) (q7 : Nat) (q8 : Nat) (q9 : Nat) (q10 : Nat) (q11 : Nat) (sz : Nat) (F : Nat → Int32) (J : Nat → Int64) (al : Nat → Int32) (tx : Nat → Int32) (td : Nat → Int32) {Q : Int32 → (Nat → Int32) → (Nat → Int64) → (Nat → Int32) → (Nat → Int32) → Prop} (hv : vX9_tune F J al tx td Q) : Met l yX9_tune wsX9_tune rmX9_tune (va_Pc [.ref qM] (fun U => U.heap.size = sz ∧ va_P g.1 vwCl [(qM, .inr (9, [.int (F 0), .ref q1, .ref q2, .ref q3, .int (F 4), .int (F 5), .int (F 6), .int (F 7), .int (F 8), .int (F 9), .long (J 10), .int (F 11), .int (F 12), .int (F 13), .ref q4, .int (F 15), .ref q5, .ref q6, .ref q7, .int (F 19), .ref q8, .int (F 21), .int (F 22), .int (F 23), .int (F 24), .ref q9, .ref q10, .ref q11, .long (J 28)])), (q1, .inl (g.2 0, 376, .inl al)), (q2, .inl (g.2 1, 2000, .inl tx)), (q4, .inl (g.2 0, 94, .inl td))] U.heap ∧ GK g U ∧ va_D (fun _ => True) [(qM, .inr (9, [.int (F 0), .ref q1, .ref q2, .ref q3, .int (F 4), .int (F 5), .int (F 6), .int (F 7), .int (F 8), .int (F 9), .long (J 10), .int (F 11), .int (F 12), .int (F 13), .ref q4, .int (F 15), .ref q5, .ref q6, .ref q7, .int (F 19), .ref q8, .int (F 21), .int (F 22), .int (F 23), .int (F 24), .ref q9, .ref q10, .ref q11, .long (J 28)])), (q1, .inl (g.2 0, 376, .inl al)), (q2, .inl (g.2 1, 2000, .inl tx)), (q4, .inl (g.2 0, 94, .inl td))])) (va_Qi (fun (r : Int32) (u : (Nat → Int32) × (Nat → Int64) × (Nat → Int32) × (Nat → Int32)) => Q r u.1 u.2.1 u.2.2.1 u.2.2.2) (fun (u : (Nat → Int32) × (Nat → Int64) × (Nat → Int32) × (Nat → Int32)) t => va_P g.1 vwCl [(qM, .inr (9, [.int (u.1 0), .ref q1, .ref q2, .ref q3, .int (u.1 4), .int (u.1 5), .int (u.1 6), .int (u.1 7), .int (u.1 8), .int (u.1 9), .long (u.2.1 10), .int (u.1 11), .int (u.1 12), .int (u.1 13), .ref q4, .int (u.1 15), .ref q5, .ref q6, .ref q7, .int (u.1 19), .ref q8, .int (u.1 21), .int (u.1 22), .int (u.1 23), .int (u.1 24), .ref q9, .ref q10, .ref q11, .long (u.2.1 28)])), (q1, .inl (g.2 0, 376, .inl u.2.2.1)), (q2, .inl (g.2 1, 2000, .inl tx)), (q4, .inl (g.2 0, 94, .inl u.2.2.2))] t.heap ∧ va_D (va_A [(qM, .inr (9, [.int (F 0), .ref q1, .ref q2, .ref q3, .int (F 4), .int (F 5), .int (F 6), .int (F 7), .int (F 8), .int (F 9), .long (J 10), .int (F 11), .int (F 12), .int (F 13), .ref q4, .int (F 15), .ref q5, .ref q6, .ref q7, .int (F 19), .ref q8, .int (F 21), .int (F 22), .int (F 23), .int (F 24), .ref q9, .ref q10, .ref q11, .long (J 28)])), (q1, .inl (g.2 0, 376, .inl al)), (q2, .inl (g.2 1, 2000, .inl tx)), (q4, .inl (g.2 0, 94, .inl td))] sz) [(qM, .inr (9, [.int (u.1 0), .ref q1, .ref q2, .ref q3, .int (u.1 4), .int (u.1 5), .int (u.1 6), .int (u.1 7), .int (u.1 8), .int (u.1 9), .long (u.2.1 10), .int (u.1 11), .int (u.1 12), .int (u.1 13), .ref q4, .int (u.1 15), .ref q5, .ref q6, .ref q7, .int (u.1 19), .ref q8, .int (u.1 21), .int (u.1 22), .int (u.1 23), .int (u.1 24), .ref q9, .ref q10, .ref q11, .long (u.2.1 28)])), (q1, .inl (g.2 0, 376, .inl u.2.2.1)), (q2, .inl (g.2 1, 2000, .inl tx)), (q4, .inl (g.2 0, 94, .inl u.2.2.2))]) (va_A [(qM, .inr (9, [.int (F 0), .ref q1, .ref q2, .ref q3, .int (F 4), .int (F 5), .int (F 6), .int (F 7), .int (F 8), .int (F 9), .long (J 10), .int (F 11), .int (F 12), .int (F 13), .ref q4, .int (F 15), .ref q5, .ref q6, .ref q7, .int (F 19), .ref q8, .int (F 21), .int (F 22), .int (F 23), .int (F 24), .ref q9, .ref q10, .ref q11, .long (J 28)])), (q1, .inl (g.2 0, 376, .inl al)), (q2, .inl (g.2 1, 2000, .inl tx)), (q4, .inl (g.2 0, 94, .inl td))] sz)) 0 0 (va_A [(qM, .inr (9, [.int (F 0), .ref q1, .ref q2, .ref q3, .int (F 4), .int (F 5), .int (F 6), .int (F 7), .int (F 8), .int (F 9), .long (J 10), .int (F 11), .int (F 12), .int (F 13), .ref q4, .int (F 15), .ref q5, .ref q6, .ref q7, .int (F 19), .ref q8, .int (F 21), .int (F 22), .int (F 23), .int (F 24), .ref q9, .ref q10, .ref q11, .long (J 28)])), (q1, .inl (g.2 0, 376, .inl al)), (q2, .inl (g.2 1, 2000, .inl tx)), (q4, .inl (g.2 0, 94, .inl td))] sz) := by
  refine Met.ofW (cc := cX9_tune) (maxL := 2) (ret := (some .int)) (by decide) rfl ?_
  intro p e s m args below meth c s₁ B hml hv'
  obtain ⟨rfl, hsz, hP, hG, hD0⟩ := hv'
  have S : CallFix p m c cX9_tune 2 s _ wsX9_tune RX9 := ⟨B.exec, B.bytes, hml, findClass_of_methodNamed B.named, atoms_spec (ws := wsX9_tune) B.pre⟩
  obtain ⟨hx, hb, hml, hown, hts⟩ := id S
  have hK := hG.1
  have hr := B.returns
  have hlocks := B.notSynchronized
  subst hsz
  have hD := hD0.self (sz := s.heap.size)
  generalize hAe : va_A [(qM, .inr (9, [.int (F 0), .ref q1, .ref q2, .ref q3, .int (F 4), .int (F 5), .int (F 6), .int (F 7), .int (F 8), .int (F 9), .long (J 10), .int (F 11), .int (F 12), .int (F 13), .ref q4, .int (F 15), .ref q5, .ref q6, .ref q7, .int (F 19), .ref q8, .int (F 21), .int (F 22), .int (F 23), .int (F 24), .ref q9, .ref q10, .ref q11, .long (J 28)])), (q1, .inl (g.2 0, 376, .inl al)), (q2, .inl (g.2 1, 2000, .inl tx)), (q4, .inl (g.2 0, 94, .inl td))] s.heap.size = A at hD ⊢
  have hA : ∀ q : Nat, s.heap.size ≤ q → A q := fun q h => by rw [← hAe]; exact Or.inr h
  have hS : va_S A s.heap s.heap [] := va_S.rf
  clear hD0 hAe
  have hl := lv_entry ([.ref qM]) (n := 2) (Nat.le_of_ble_eq_true rfl)
  rw [lg_entry_eq]
  generalize (lg_sl ([.ref qM]) ++ List.replicate (2 - (lg_sl ([.ref qM])).length) Slot.unset).toArray = ls at hl ⊢
  have hl : lv_has ls 2 [(0, .ref qM)] := hl
  unfold vX9_tune at hv
  refine lv_aload_n hx hb dX9_tune_0 rfl (lv_at hl 0 rfl) ?_
  refine lv_iconst (v := (0 : Int32)) hx hb dX9_tune_1 (by decide) ?_
  refine va_put (D := g.1) (ci := 9) (v := .int (0 : Int32)) (ty := .int) (C := RX9) (T := TX9) (N := 29) hx hb hts inX9_tune_9 tyX9 tyX9_ok nmX9 hown hK hP hD hS 0 rfl rfl 0 (by decide) (hts (.fieldLink RX9 51 "RangeCodesModel" "raised" "I") (List.mem_of_getElem? (i := 1) rfl)) (fun _ h9 => h9) rfl (by decide +kernel) rfl rfl (Nat.le_of_ble_eq_true rfl) dX9_tune_2 (fun H locs hP hD hS => ?_)
  have hP : va_P g.1 vwCl [(qM, .inr (9, [.int (0 : Int32), .ref q1, .ref q2, .ref q3, .int (F 4), .int (F 5), .int (F 6), .int (F 7), .int (F 8), .int (F 9), .long (J 10), .int (F 11), .int (F 12), .int (F 13), .ref q4, .int (F 15), .ref q5, .ref q6, .ref q7, .int (F 19), .ref q8, .int (F 21), .int (F 22), .int (F 23), .int (F 24), .ref q9, .ref q10, .ref q11, .long (J 28)])), (q1, .inl (g.2 0, 376, .inl al)), (q2, .inl (g.2 1, 2000, .inl tx)), (q4, .inl (g.2 0, 94, .inl td))] H := hP
  have hD : va_D A [(qM, .inr (9, [.int (0 : Int32), .ref q1, .ref q2, .ref q3, .int (F 4), .int (F 5), .int (F 6), .int (F 7), .int (F 8), .int (F 9), .long (J 10), .int (F 11), .int (F 12), .int (F 13), .ref q4, .int (F 15), .ref q5, .ref q6, .ref q7, .int (F 19), .ref q8, .int (F 21), .int (F 22), .int (F 23), .int (F 24), .ref q9, .ref q10, .ref q11, .long (J 28)])), (q1, .inl (g.2 0, 376, .inl al)), (q2, .inl (g.2 1, 2000, .inl tx)), (q4, .inl (g.2 0, 94, .inl td))] := hD
  refine lv_aload_n hx hb dX9_tune_5 rfl (lv_at hl 0 rfl) ?_
  refine lv_aload_n hx hb dX9_tune_6 rfl (lv_at hl 0 rfl) ?_
  refine va_get (D := g.1) (ci := 9) (v := .ref q1) (C := RX9) (T := TX9) (N := 29) hx hb hts inX9_tune_9 hown hK hP 0 rfl rfl 1 (by decide) (hts (.fieldLink RX9 7 "RangeCodesModel" "all" "[I") (List.mem_of_getElem? (i := 2) rfl)) (fun _ h9 => h9) rfl dX9_tune_7 ?_
  refine lv_iconst (v := (2 : Int32)) hx hb dX9_tune_10 (by decide) ?_
  refine va_iald hx hb hK hP 1 0 rfl rfl (by unfold vp_in; decide) dX9_tune_11 ?_
  refine va_put (D := g.1) (ci := 9) (v := .int (al 2)) (ty := .int) (C := RX9) (T := TX9) (N := 29) hx hb hts inX9_tune_9 tyX9 tyX9_ok nmX9 hown hK hP hD hS 0 rfl rfl 5 (by decide) (hts (.fieldLink RX9 72 "RangeCodesModel" "length" "I") (List.mem_of_getElem? (i := 3) rfl)) (fun _ h9 => h9) rfl (by decide +kernel) rfl rfl (Nat.le_of_ble_eq_true rfl) dX9_tune_12 (fun H locs hP hD hS => ?_)
  have hP : va_P g.1 vwCl [(qM, .inr (9, [.int (0 : Int32), .ref q1, .ref q2, .ref q3, .int (F 4), .int (al 2), .int (F 6), .int (F 7), .int (F 8), .int (F 9), .long (J 10), .int (F 11), .int (F 12), .int (F 13), .ref q4, .int (F 15), .ref q5, .ref q6, .ref q7, .int (F 19), .ref q8, .int (F 21), .int (F 22), .int (F 23), .int (F 24), .ref q9, .ref q10, .ref q11, .long (J 28)])), (q1, .inl (g.2 0, 376, .inl al)), (q2, .inl (g.2 1, 2000, .inl tx)), (q4, .inl (g.2 0, 94, .inl td))] H := hP
  have hD : va_D A [(qM, .inr (9, [.int (0 : Int32), .ref q1, .ref q2, .ref q3, .int (F 4), .int (al 2), .int (F 6), .int (F 7), .int (F 8), .int (F 9), .long (J 10), .int (F 11), .int (F 12), .int (F 13), .ref q4, .int (F 15), .ref q5, .ref q6, .ref q7, .int (F 19), .ref q8, .int (F 21), .int (F 22), .int (F 23), .int (F 24), .ref q9, .ref q10, .ref q11, .long (J 28)])), (q1, .inl (g.2 0, 376, .inl al)), (q2, .inl (g.2 1, 2000, .inl tx)), (q4, .inl (g.2 0, 94, .inl td))] := hD
  refine lv_aload_n hx hb dX9_tune_15 rfl (lv_at hl 0 rfl) ?_
  refine va_get (D := g.1) (ci := 9) (v := .ref q1) (C := RX9) (T := TX9) (N := 29) hx hb hts inX9_tune_9 hown hK hP 0 rfl rfl 1 (by decide) (hts (.fieldLink RX9 7 "RangeCodesModel" "all" "[I") (List.mem_of_getElem? (i := 2) rfl)) (fun _ h9 => h9) rfl dX9_tune_16 ?_
  refine lv_iconst (v := (2 : Int32)) hx hb dX9_tune_19 (by decide) ?_
  refine lv_iconst (v := (0 : Int32)) hx hb dX9_tune_20 (by decide) ?_
  refine va_iast hx hb hK hP hD hS 1 0 rfl rfl (by unfold vp_in; decide) dX9_tune_21 (fun H locs hP hD hS => ?_)
  have hP : va_P g.1 vwCl [(qM, .inr (9, [.int (0 : Int32), .ref q1, .ref q2, .ref q3, .int (F 4), .int (al 2), .int (F 6), .int (F 7), .int (F 8), .int (F 9), .long (J 10), .int (F 11), .int (F 12), .int (F 13), .ref q4, .int (F 15), .ref q5, .ref q6, .ref q7, .int (F 19), .ref q8, .int (F 21), .int (F 22), .int (F 23), .int (F 24), .ref q9, .ref q10, .ref q11, .long (J 28)])), (q1, .inl (g.2 0, 376, .inl (upd al 2 (0 : Int32)))), (q2, .inl (g.2 1, 2000, .inl tx)), (q4, .inl (g.2 0, 94, .inl td))] H := hP
  have hD : va_D A [(qM, .inr (9, [.int (0 : Int32), .ref q1, .ref q2, .ref q3, .int (F 4), .int (al 2), .int (F 6), .int (F 7), .int (F 8), .int (F 9), .long (J 10), .int (F 11), .int (F 12), .int (F 13), .ref q4, .int (F 15), .ref q5, .ref q6, .ref q7, .int (F 19), .ref q8, .int (F 21), .int (F 22), .int (F 23), .int (F 24), .ref q9, .ref q10, .ref q11, .long (J 28)])), (q1, .inl (g.2 0, 376, .inl (upd al 2 (0 : Int32)))), (q2, .inl (g.2 1, 2000, .inl tx)), (q4, .inl (g.2 0, 94, .inl td))] := hD
  refine lv_aload_n hx hb dX9_tune_22 rfl (lv_at hl 0 rfl) ?_
  obtain ⟨ho_1, hv⟩ := hv
  have hPc := hP.sub (ws' := [(qM, .inr (9, [.int ((upd (upd F 0 (0 : Int32)) 5 (al 2)) 0), .ref q1, .ref q2, .ref q3, .int ((upd (upd F 0 (0 : Int32)) 5 (al 2)) 4), .int ((upd (upd F 0 (0 : Int32)) 5 (al 2)) 5), .int ((upd (upd F 0 (0 : Int32)) 5 (al 2)) 6), .int ((upd (upd F 0 (0 : Int32)) 5 (al 2)) 7), .int ((upd (upd F 0 (0 : Int32)) 5 (al 2)) 8), .int ((upd (upd F 0 (0 : Int32)) 5 (al 2)) 9), .long (J 10), .int ((upd (upd F 0 (0 : Int32)) 5 (al 2)) 11), .int ((upd (upd F 0 (0 : Int32)) 5 (al 2)) 12), .int ((upd (upd F 0 (0 : Int32)) 5 (al 2)) 13), .ref q4, .int ((upd (upd F 0 (0 : Int32)) 5 (al 2)) 15), .ref q5, .ref q6, .ref q7, .int ((upd (upd F 0 (0 : Int32)) 5 (al 2)) 19), .ref q8, .int ((upd (upd F 0 (0 : Int32)) 5 (al 2)) 21), .int ((upd (upd F 0 (0 : Int32)) 5 (al 2)) 22), .int ((upd (upd F 0 (0 : Int32)) 5 (al 2)) 23), .int ((upd (upd F 0 (0 : Int32)) 5 (al 2)) 24), .ref q9, .ref q10, .ref q11, .long (J 28)])), (q4, .inl (g.2 0, 94, .inl td))]) [0, 3] rfl
  have hDc := hD.sub (ws' := [(qM, .inr (9, [.int ((upd (upd F 0 (0 : Int32)) 5 (al 2)) 0), .ref q1, .ref q2, .ref q3, .int ((upd (upd F 0 (0 : Int32)) 5 (al 2)) 4), .int ((upd (upd F 0 (0 : Int32)) 5 (al 2)) 5), .int ((upd (upd F 0 (0 : Int32)) 5 (al 2)) 6), .int ((upd (upd F 0 (0 : Int32)) 5 (al 2)) 7), .int ((upd (upd F 0 (0 : Int32)) 5 (al 2)) 8), .int ((upd (upd F 0 (0 : Int32)) 5 (al 2)) 9), .long (J 10), .int ((upd (upd F 0 (0 : Int32)) 5 (al 2)) 11), .int ((upd (upd F 0 (0 : Int32)) 5 (al 2)) 12), .int ((upd (upd F 0 (0 : Int32)) 5 (al 2)) 13), .ref q4, .int ((upd (upd F 0 (0 : Int32)) 5 (al 2)) 15), .ref q5, .ref q6, .ref q7, .int ((upd (upd F 0 (0 : Int32)) 5 (al 2)) 19), .ref q8, .int ((upd (upd F 0 (0 : Int32)) 5 (al 2)) 21), .int ((upd (upd F 0 (0 : Int32)) 5 (al 2)) 22), .int ((upd (upd F 0 (0 : Int32)) 5 (al 2)) 23), .int ((upd (upd F 0 (0 : Int32)) 5 (al 2)) 24), .ref q9, .ref q10, .ref q11, .long (J 28)])), (q4, .inl (g.2 0, 94, .inl td))]) [0, 3] (by decide) rfl
  have hFc := va_free (wc := [(qM, .inr (9, [.int ((upd (upd F 0 (0 : Int32)) 5 (al 2)) 0), .ref q1, .ref q2, .ref q3, .int ((upd (upd F 0 (0 : Int32)) 5 (al 2)) 4), .int ((upd (upd F 0 (0 : Int32)) 5 (al 2)) 5), .int ((upd (upd F 0 (0 : Int32)) 5 (al 2)) 6), .int ((upd (upd F 0 (0 : Int32)) 5 (al 2)) 7), .int ((upd (upd F 0 (0 : Int32)) 5 (al 2)) 8), .int ((upd (upd F 0 (0 : Int32)) 5 (al 2)) 9), .long (J 10), .int ((upd (upd F 0 (0 : Int32)) 5 (al 2)) 11), .int ((upd (upd F 0 (0 : Int32)) 5 (al 2)) 12), .int ((upd (upd F 0 (0 : Int32)) 5 (al 2)) 13), .ref q4, .int ((upd (upd F 0 (0 : Int32)) 5 (al 2)) 15), .ref q5, .ref q6, .ref q7, .int ((upd (upd F 0 (0 : Int32)) 5 (al 2)) 19), .ref q8, .int ((upd (upd F 0 (0 : Int32)) 5 (al 2)) 21), .int ((upd (upd F 0 (0 : Int32)) 5 (al 2)) 22), .int ((upd (upd F 0 (0 : Int32)) 5 (al 2)) 23), .int ((upd (upd F 0 (0 : Int32)) 5 (al 2)) 24), .ref q9, .ref q10, .ref q11, .long (J 28)])), (q4, .inl (g.2 0, 94, .inl td))]) hD hS hA [0, 3] rfl
  refine va_callv (va_runV (As := []) (rest := []) S (wX9_atFirst l g qM q1 q2 q3 q4 q5 q6 q7 q8 q9 q10 q11 H.size (upd (upd F 0 (0 : Int32)) 5 (al 2)) J td (sX9_atFirst (upd (upd F 0 (0 : Int32)) 5 (al 2)) J td ho_1)) (cwV 0 hts gX9_tune_X9_atFirst rfl rfl rfl (by decide +kernel) ⟨Nat.le_of_ble_eq_true rfl, Nat.le_of_ble_eq_true rfl⟩) ⟨blindRW, va_recv hK hP (ci := 9) (q0 := 0) rfl rfl, fun U hU hW => ⟨rfl, by rw [hU], by rw [hU]; exact hPc, hG.warm hW, hDc.weaken (fun _ _ _ _ => trivial)⟩⟩ rfl rfl hl.1 rfl (lv_room (Nat.le_of_ble_eq_true rfl)) dX9_tune_23 ⟨Nat.le_of_ble_eq_true rfl, Nat.le_of_ble_eq_true rfl⟩) hS (fun q _ h => hFc q h) hFc (fun u t H1 locs ht hvm hw hB hz1 hk1 hS => ?_)
  obtain ⟨F_23, td_23⟩ := u
  obtain ⟨hP1, hD1⟩ := hB
  rw [ht] at hP1
  have hv := hv F_23 td_23 hw
  obtain ⟨hP, hD⟩ := va_join (wr := [(q1, .inl (g.2 0, 376, .inl (upd al 2 (0 : Int32)))), (q2, .inl (g.2 1, 2000, .inl tx))]) (w1 := [(qM, .inr (9, [.int (F_23 0), .ref q1, .ref q2, .ref q3, .int (F_23 4), .int (F_23 5), .int (F_23 6), .int (F_23 7), .int (F_23 8), .int (F_23 9), .long (J 10), .int (F_23 11), .int (F_23 12), .int (F_23 13), .ref q4, .int (F_23 15), .ref q5, .ref q6, .ref q7, .int (F_23 19), .ref q8, .int (F_23 21), .int (F_23 22), .int (F_23 23), .int (F_23 24), .ref q9, .ref q10, .ref q11, .long (J 28)])), (q4, .inl (g.2 0, 94, .inl td_23))]) hP hD [0, 3] [1, 2] rfl rfl (by decide) (by decide) hk1 hFc hP1 hD1
  clear hP1 hD1 hPc hDc hFc hk1
  generalize H1 = H at hP hS ⊢
  have hP : va_P g.1 vwCl [(q1, .inl (g.2 0, 376, .inl (upd al 2 (0 : Int32)))), (q2, .inl (g.2 1, 2000, .inl tx)), (qM, .inr (9, [.int (F_23 0), .ref q1, .ref q2, .ref q3, .int (F_23 4), .int (F_23 5), .int (F_23 6), .int (F_23 7), .int (F_23 8), .int (F_23 9), .long (J 10), .int (F_23 11), .int (F_23 12), .int (F_23 13), .ref q4, .int (F_23 15), .ref q5, .ref q6, .ref q7, .int (F_23 19), .ref q8, .int (F_23 21), .int (F_23 22), .int (F_23 23), .int (F_23 24), .ref q9, .ref q10, .ref q11, .long (J 28)])), (q4, .inl (g.2 0, 94, .inl td_23))] H := hP
  have hD : va_D A [(q1, .inl (g.2 0, 376, .inl (upd al 2 (0 : Int32)))), (q2, .inl (g.2 1, 2000, .inl tx)), (qM, .inr (9, [.int (F_23 0), .ref q1, .ref q2, .ref q3, .int (F_23 4), .int (F_23 5), .int (F_23 6), .int (F_23 7), .int (F_23 8), .int (F_23 9), .long (J 10), .int (F_23 11), .int (F_23 12), .int (F_23 13), .ref q4, .int (F_23 15), .ref q5, .ref q6, .ref q7, .int (F_23 19), .ref q8, .int (F_23 21), .int (F_23 22), .int (F_23 23), .int (F_23 24), .ref q9, .ref q10, .ref q11, .long (J 28)])), (q4, .inl (g.2 0, 94, .inl td_23))] := hD
  refine lv_aload_n hx hb dX9_tune_26 rfl (lv_at hl 0 rfl) ?_
  obtain ⟨b_27, nb_27, i_27, ho_2, hv⟩ := hv
  have hPc := hP.sub (ws' := [(qM, .inr (9, [.int (F_23 0), .ref q1, .ref q2, .ref q3, .int (F_23 4), .int (F_23 5), .int (F_23 6), .int (F_23 7), .int (F_23 8), .int (F_23 9), .long (J 10), .int (F_23 11), .int (F_23 12), .int (F_23 13), .ref q4, .int (F_23 15), .ref q5, .ref q6, .ref q7, .int (F_23 19), .ref q8, .int (F_23 21), .int (F_23 22), .int (F_23 23), .int (F_23 24), .ref q9, .ref q10, .ref q11, .long (J 28)])), (q2, .inl (g.2 1, 2000, .inl tx))]) [2, 1] rfl
  have hDc := hD.sub (ws' := [(qM, .inr (9, [.int (F_23 0), .ref q1, .ref q2, .ref q3, .int (F_23 4), .int (F_23 5), .int (F_23 6), .int (F_23 7), .int (F_23 8), .int (F_23 9), .long (J 10), .int (F_23 11), .int (F_23 12), .int (F_23 13), .ref q4, .int (F_23 15), .ref q5, .ref q6, .ref q7, .int (F_23 19), .ref q8, .int (F_23 21), .int (F_23 22), .int (F_23 23), .int (F_23 24), .ref q9, .ref q10, .ref q11, .long (J 28)])), (q2, .inl (g.2 1, 2000, .inl tx))]) [2, 1] (by decide) rfl
  have hFc := va_free (wc := [(qM, .inr (9, [.int (F_23 0), .ref q1, .ref q2, .ref q3, .int (F_23 4), .int (F_23 5), .int (F_23 6), .int (F_23 7), .int (F_23 8), .int (F_23 9), .long (J 10), .int (F_23 11), .int (F_23 12), .int (F_23 13), .ref q4, .int (F_23 15), .ref q5, .ref q6, .ref q7, .int (F_23 19), .ref q8, .int (F_23 21), .int (F_23 22), .int (F_23 23), .int (F_23 24), .ref q9, .ref q10, .ref q11, .long (J 28)])), (q2, .inl (g.2 1, 2000, .inl tx))]) hD hS hA [2, 1] rfl
  refine va_callv (va_runV (As := []) (rest := []) S (wX9_token l g qM q1 q2 q3 q4 q5 q6 q7 q8 q9 q10 q11 H.size F_23 J tx (sX9_token b_27 nb_27 i_27 F_23 J tx ho_2)) (cwV 0 hts gX9_tune_X9_token rfl rfl rfl (by decide +kernel) ⟨Nat.le_of_ble_eq_true rfl, Nat.le_of_ble_eq_true rfl⟩) ⟨blindRW, va_recv hK hP (ci := 9) (q0 := 2) rfl rfl, fun U hU hW => ⟨rfl, by rw [hU], by rw [hU]; exact hPc, hG.warm hW, hDc.weaken (fun _ _ _ _ => trivial)⟩⟩ rfl rfl hl.1 rfl (lv_room (Nat.le_of_ble_eq_true rfl)) dX9_tune_27 ⟨Nat.le_of_ble_eq_true rfl, Nat.le_of_ble_eq_true rfl⟩) hS (fun q _ h => hFc q h) hFc (fun u t H1 locs ht hvm hw hB hz1 hk1 hS => ?_)
  obtain ⟨F_27, J_27⟩ := u
  obtain ⟨hP1, hD1⟩ := hB
  rw [ht] at hP1
  have hv := hv F_27 J_27 hw
  obtain ⟨hP, hD⟩ := va_join (wr := [(q1, .inl (g.2 0, 376, .inl (upd al 2 (0 : Int32)))), (q4, .inl (g.2 0, 94, .inl td_23))]) (w1 := [(qM, .inr (9, [.int (F_27 0), .ref q1, .ref q2, .ref q3, .int (F_27 4), .int (F_27 5), .int (F_27 6), .int (F_27 7), .int (F_27 8), .int (F_27 9), .long (J_27 10), .int (F_27 11), .int (F_27 12), .int (F_27 13), .ref q4, .int (F_27 15), .ref q5, .ref q6, .ref q7, .int (F_27 19), .ref q8, .int (F_27 21), .int (F_27 22), .int (F_27 23), .int (F_27 24), .ref q9, .ref q10, .ref q11, .long (J_27 28)])), (q2, .inl (g.2 1, 2000, .inl tx))]) hP hD [2, 1] [0, 3] rfl rfl (by decide) (by decide) hk1 hFc hP1 hD1
  clear hP1 hD1 hPc hDc hFc hk1
  generalize H1 = H at hP hS ⊢
  have hP : va_P g.1 vwCl [(q1, .inl (g.2 0, 376, .inl (upd al 2 (0 : Int32)))), (q4, .inl (g.2 0, 94, .inl td_23)), (qM, .inr (9, [.int (F_27 0), .ref q1, .ref q2, .ref q3, .int (F_27 4), .int (F_27 5), .int (F_27 6), .int (F_27 7), .int (F_27 8), .int (F_27 9), .long (J_27 10), .int (F_27 11), .int (F_27 12), .int (F_27 13), .ref q4, .int (F_27 15), .ref q5, .ref q6, .ref q7, .int (F_27 19), .ref q8, .int (F_27 21), .int (F_27 22), .int (F_27 23), .int (F_27 24), .ref q9, .ref q10, .ref q11, .long (J_27 28)])), (q2, .inl (g.2 1, 2000, .inl tx))] H := hP
  have hD : va_D A [(q1, .inl (g.2 0, 376, .inl (upd al 2 (0 : Int32)))), (q4, .inl (g.2 0, 94, .inl td_23)), (qM, .inr (9, [.int (F_27 0), .ref q1, .ref q2, .ref q3, .int (F_27 4), .int (F_27 5), .int (F_27 6), .int (F_27 7), .int (F_27 8), .int (F_27 9), .long (J_27 10), .int (F_27 11), .int (F_27 12), .int (F_27 13), .ref q4, .int (F_27 15), .ref q5, .ref q6, .ref q7, .int (F_27 19), .ref q8, .int (F_27 21), .int (F_27 22), .int (F_27 23), .int (F_27 24), .ref q9, .ref q10, .ref q11, .long (J_27 28)])), (q2, .inl (g.2 1, 2000, .inl tx))] := hD
  refine lv_iconst (v := (1 : Int32)) hx hb dX9_tune_30 (by decide) ?_
  refine lv_istore_n (lv' := [(1, .int (1 : Int32)), (0, .ref qM)]) hx hb dX9_tune_31 rfl hl (by decide) rfl (fun ls hl => ?_)
  obtain ⟨nn, hv⟩ := hv
  exact kX9_tune_c32 S hr hlocks hG hA nn _ _ _ _ _ hv _ _ (hP.sub (ws' := [(qM, .inr (9, [.int (F_27 0), .ref q1, .ref q2, .ref q3, .int (F_27 4), .int (F_27 5), .int (F_27 6), .int (F_27 7), .int (F_27 8), .int (F_27 9), .long (J_27 10), .int (F_27 11), .int (F_27 12), .int (F_27 13), .ref q4, .int (F_27 15), .ref q5, .ref q6, .ref q7, .int (F_27 19), .ref q8, .int (F_27 21), .int (F_27 22), .int (F_27 23), .int (F_27 24), .ref q9, .ref q10, .ref q11, .long (J_27 28)])), (q1, .inl (g.2 0, 376, .inl (upd al 2 (0 : Int32)))), (q2, .inl (g.2 1, 2000, .inl tx)), (q4, .inl (g.2 0, 94, .inl td_23))]) [2, 0, 3, 1] rfl) (hD.sub (ws' := [(qM, .inr (9, [.int (F_27 0), .ref q1, .ref q2, .ref q3, .int (F_27 4), .int (F_27 5), .int (F_27 6), .int (F_27 7), .int (F_27 8), .int (F_27 9), .long (J_27 10), .int (F_27 11), .int (F_27 12), .int (F_27 13), .ref q4, .int (F_27 15), .ref q5, .ref q6, .ref q7, .int (F_27 19), .ref q8, .int (F_27 21), .int (F_27 22), .int (F_27 23), .int (F_27 24), .ref q9, .ref q10, .ref q11, .long (J_27 28)])), (q1, .inl (g.2 0, 376, .inl (upd al 2 (0 : Int32)))), (q2, .inl (g.2 1, 2000, .inl tx)), (q4, .inl (g.2 0, 94, .inl td_23))]) [2, 0, 3, 1] (by decide) rfl) hS ls (lv_sub hl [1, 0] rfl)
abbrev preX9_tune (T : Cd) (G0 : Lg) (G1 : Lg) (lim : Nat) (b : Nat → Int32) (nb : Nat) (F : Nat → Int32) (J : Nat → Int64) (al : Nat → Int32) (tx : Nat → Int32) (td : Nat → Int32) : Prop := fcR T G0 G1 lim al ∧ (al 2).toInt = (nb : Int) ∧ nb ≤ 500 ∧ isTx b nb tx
abbrev postX9_tune (T : Cd) (G0 : Lg) (G1 : Lg) (lim : Nat) (b : Nat → Int32) (nb : Nat) (F : Nat → Int32) (J : Nat → Int64) (al : Nat → Int32) (tx : Nat → Int32) (td : Nat → Int32) (r : Int32) (F' : Nat → Int32) (J' : Nat → Int64) (al' : Nat → Int32) (td' : Nat → Int32) : Prop := r.toInt = spTune b nb ∧ al' 2 = 0 ∧ (al' 3).toInt = (alR b nb).1.1 ∧ (al' 4).toInt = (alR b nb).1.2 ∧ fcR (tnT b nb T) (tn0 b nb G0) (tn1 b nb G1) (tnL b nb lim) al' ∧ ∀ k, 94 ≤ k → al' k = al k
theorem fcR_k34 {T : Cd} {G0 G1 : Lg} {lim : Nat} {al al' : Nat → Int32} (h : fcR T G0 G1 lim al) (hk : ∀ k, k ≠ 2 → k ≠ 3 → k ≠ 4 → al' k = al k) : fcR T G0 G1 lim al' := by
  obtain ⟨f1, f2, f3, f4, f5, f6⟩ := h
  have hn := f1.1.2
  refine ⟨⟨by rw [hk 0 (by omega) (by omega) (by omega)]; exact f1.1, fun p hp => ?_, fun p hp => ?_, fun p hp => ?_⟩, mG_cong f2 (fun k _ _ => hk k (by omega) (by omega) (by omega)), mG_cong f3 (fun k _ _ => hk k (by omega) (by omega) (by omega)), by rw [hk 1 (by omega) (by omega) (by omega)]; exact f4, f5, f6⟩
  · show (al' (5 + 3 * p)).toInt = _ ∧ _
    rw [hk _ (by omega) (by omega) (by omega)]; exact f1.2.1 p hp
  · show (al' (6 + 3 * p)).toInt = _ ∧ _
    rw [hk _ (by omega) (by omega) (by omega)]; exact f1.2.2.1 p hp
  · show (al' (7 + 3 * p)).toInt = _ ∧ _
    rw [hk _ (by omega) (by omega) (by omega)]; exact f1.2.2.2 p hp
/-- the end: the notes told -/
theorem sX9_tune_e (T : Cd) (G0 : Lg) (G1 : Lg) (lim : Nat) (b : Nat → Int32) (nb : Nat) (F : Nat → Int32) (J : Nat → Int64) (al : Nat → Int32) (tx : Nat → Int32) (td : Nat → Int32) (H : preX9_tune T G0 G1 lim b nb F J al tx td) (x y : Int32) (F1 : Nat → Int32) (J1 : Nat → Int64) (td1 : Nat → Int32) (hx : x.toInt = (alR b nb).1.1) (hy : y.toInt = (alR b nb).1.2) (hT : (alR b nb).1.1 = 0 → fcR (alR b nb).2.1 (alR b nb).2.2.1 (alR b nb).2.2.2.1 (alR b nb).2.2.2.2 td1) : vX9_tune_c114 tx (postX9_tune T G0 G1 lim b nb F J al tx td) y (4 : Int32) F1 J1 (upd (upd al 2 (0 : Int32)) 3 x) td1 := by
  obtain ⟨hR, h2, hnb, htx⟩ := H
  have e4 : (4 : Int32).toNatClampNeg = 4 := by decide
  unfold vX9_tune_c114
  rw [e4]
  refine ⟨by unfold vp_in; decide, ?_⟩
  have e3 : upd (upd (upd al 2 (0 : Int32)) 3 x) 4 y 3 = x := by rw [upd_ne (by decide), upd_eq]
  rw [e3, fa_eq x, hx, z0]
  unfold postX9_tune spTune tnT tn0 tn1 tnL
  refine ⟨fun c => ⟨_, _, _, _, hT c, fun al2 ha => ?_⟩, fun c => ?_⟩
  · obtain ⟨a1, a2, a3⟩ := ha
    rw [if_pos c, if_pos c, if_pos c, if_pos c, if_pos c]
    refine ⟨a1.1.1.1, by rw [a2 2 (by omega), upd_ne (by decide), upd_ne (by decide), upd_eq], by rw [a2 3 (by omega), e3, hx], by rw [a2 4 (by omega), upd_eq, hy], a1, fun k hk => by rw [a2 k (by omega), upd_ne (by omega), upd_ne (by omega), upd_ne (by omega)]⟩
  · rw [if_neg c, if_neg c, if_neg c, if_neg c, if_neg c]
    exact ⟨rfl, by rw [upd_ne (by decide), upd_ne (by decide), upd_eq], by rw [e3, hx], by rw [upd_eq, hy], fcR_k34 hR (fun k h2 h3 h4 => by rw [upd_ne h4, upd_ne h3, upd_ne h2]), fun k hk => by rw [upd_ne (by omega), upd_ne (by omega), upd_ne (by omega)]⟩
theorem sX9_tune_0 (T : Cd) (G0 : Lg) (G1 : Lg) (lim : Nat) (b : Nat → Int32) (nb : Nat) (F : Nat → Int32) (J : Nat → Int64) (al : Nat → Int32) (tx : Nat → Int32) (td : Nat → Int32) (H : preX9_tune T G0 G1 lim b nb F J al tx td) (n : Nat) (F1 : Nat → Int32) (J1 : Nat → Int64) (td1 : Nat → Int32) (h1 : (alR b nb).1.1 ≠ 0) (h1' : (alR b nb).1.1 = 1) (h11 : (F1 11).toInt = (alR b nb).1.2) : vX9_tune_c32 tx (postX9_tune T G0 G1 lim b nb F J al tx td) (n + 1) 0 F1 J1 (upd al 2 (0 : Int32)) td1 := by
  have e3 : (3 : Int32).toNatClampNeg = 3 := by decide
  rw [vX9_tune_c32]
  refine ⟨fun _ => ⟨fun _ => ⟨by unfold vp_in; decide, fun _ => ?_, fun q => absurd rfl q⟩, fun q => absurd rfl q⟩, fun q => absurd rfl q⟩
  rw [e3]
  exact sX9_tune_e T G0 G1 lim b nb F J al tx td H _ _ F1 J1 td1 (by rw [h1']; rfl) h11 (fun z => absurd z h1)
theorem sgn_1 {b : Nat → Int32} {nb : Nat} {o : Ou} (ho : o.1 = false → o.2.2.1 = 1) (h : ¬ (sgnS b nb o).1 = true) : (sgnS b nb o).2.2.1 = 1 := by
  unfold sgnS at h ⊢
  by_cases c : o.1 = true
  · rw [if_pos c] at h ⊢
    by_cases d : tK b nb o.2.1 = 3
    · rw [if_pos d] at h; exact absurd rfl h
    · rw [if_neg d]; rfl
  · rw [if_neg c]; exact ho (by simpa using c)
theorem numS_1 {b : Nat → Int32} {nb i : Nat} {lo hi : Int} {f : Ft} (h : (numS b nb i lo hi f).1 = false) : (numS b nb i lo hi f).2.2.1 = 1 := by
  unfold numS at h ⊢
  by_cases c : tK b nb i = 2
  · rw [if_pos c] at h; exact absurd (show true = false from h) (by decide)
  · rw [if_neg c]; rfl
theorem lineS_1 {b : Nat → Int32} {nb i : Nat} {T : Cd} {G0 G1 : Lg} {f : Ft} (h : (lineS b nb i T G0 G1 f).1 = false) : (lineS b nb i T G0 G1 f).2.2.1 = 1 := by
  have hm : ∀ j p0 w n, (mkS b nb j p0 w n f).1 = false → (mkS b nb j p0 w n f).2.2.1 = 1 := fun j p0 w n h => by
    unfold mkS at h ⊢
    by_cases c : (numS b nb j 0 199 (if 10 ≤ n then noF f 4 p0 else f)).1 = true ∧ w = 14
    · rw [if_pos c] at h ⊢; exact numS_1 h
    · rw [if_neg c] at h ⊢; exact numS_1 h
  have hl : ∀ j G, (legS b nb j G f).1 = false → (legS b nb j G f).2.2.1 = 1 := fun j G h => by
    unfold legS at h ⊢
    by_cases c : 4 ≤ wI b nb j ∧ wI b nb j ≤ 10
    · rw [if_pos c] at h ⊢; exact numS_1 h
    · rw [if_neg c] at h ⊢
      by_cases d : 11 ≤ wI b nb j ∧ wI b nb j ≤ 14
      · rw [if_pos d] at h ⊢; exact hm _ _ _ _ h
      · rw [if_neg d]; rfl
  unfold lineS at h ⊢
  by_cases c : wI b nb i = 0
  · rw [if_pos c] at h ⊢
    unfold partS at h ⊢
    by_cases d : rwB b nb (tE b nb i) = true
    · rw [if_pos d] at h ⊢; exact numS_1 h
    · rw [if_neg d]; rfl
  · rw [if_neg c] at h ⊢
    by_cases c : wI b nb i = 1
    · rw [if_pos c] at h ⊢; exact numS_1 h
    · rw [if_neg c] at h ⊢
      by_cases c : wI b nb i = 2
      · rw [if_pos c] at h ⊢; exact hl _ _ h
      · rw [if_neg c] at h ⊢
        by_cases c : wI b nb i = 3
        · rw [if_pos c] at h ⊢; exact hl _ _ h
        · rw [if_neg c]; rfl
set_option maxHeartbeats 4000000 in
theorem sX9_tune_32 (T : Cd) (G0 : Lg) (G1 : Lg) (lim : Nat) (b : Nat → Int32) (nb : Nat) (F : Nat → Int32) (J : Nat → Int64) (al : Nat → Int32) (tx : Nat → Int32) (td : Nat → Int32) (H : preX9_tune T G0 G1 lim b nb F J al tx td) : ∀ (n m i : Nat) (T1 : Cd) (G01 G11 : Lg) (lim1 : Nat) (F1 : Nat → Int32) (J1 : Nat → Int64) (td1 : Nat → Int32), rdM b nb i F1 J1 → flB (fm F1) (tS b nb i) → rmT T1 G01 G11 lim1 (fm F1) td1 → allS b nb m i T1 G01 G11 lim1 (fm F1) = alR b nb → nb + 1 ≤ i + m → m + 1 ≤ n → vX9_tune_c32 tx (postX9_tune T G0 G1 lim b nb F J al tx td) n 1 F1 J1 (upd al 2 (0 : Int32)) td1
  | 0, m, i, T1, G01, G11, lim1, F1, J1, td1, _, _, _, _, _, hf => absurd hf (by omega)
  | n + 1, 0, i, T1, G01, G11, lim1, F1, J1, td1, hr, _, _, _, hm, hf => absurd hm (by have := hr.2.2.1; omega)
  | n + 1, m + 1, i, T1, G01, G11, lim1, F1, J1, td1, hr, hfl, hT, hA, hm, hf => by
    have htx := H.2.2.2
    have hi := hr.2.2.1
    obtain ⟨n', rfl⟩ : ∃ n', n = n' + 1 := ⟨n - 1, by omega⟩
    rw [allS] at hA
    rw [vX9_tune_c32]
    refine ⟨fun q => absurd q (by decide), fun _ => ?_⟩
    rw [fa_eq (F1 7), hr.2.2.2.2.2.1, z0, soK_0 (tK_le _ _ _)]
    refine ⟨fun c => ?_, fun c => ?_⟩
    · rw [if_pos c] at hA
      have e3 : (3 : Int32).toNatClampNeg = 3 := by decide
      refine ⟨fun q => absurd q (by decide), fun _ => ⟨by unfold vp_in; decide, fun q => absurd q (by decide), fun _ => ?_⟩⟩
      rw [e3]
      exact sX9_tune_e T G0 G1 lim b nb F J al tx td H _ _ F1 J1 td1 (by rw [← hA]; rfl) (by rw [← hA]; rfl) (fun z => by rw [← hA] at z ⊢; exact hT.1 z)
    · rw [if_neg c] at hA
      refine ⟨b, nb, i, fm F1, T1, G01, G11, lim1, ⟨hr, htx, rfl, hfl, c, hT⟩, fun r F2 J2 td2 h2 => ?_⟩
      obtain ⟨⟨ha, hb, hc⟩, hd⟩ := h2
      have hle : (lineS b nb i T1 G01 G11 (fm F1)).1 = true → i ≤ (lineS b nb i T1 G01 G11 (fm F1)).2.1 ∧ (lineS b nb i T1 G01 G11 (fm F1)).2.1 ≤ nb := lineS_le hi
      have hgt : (sgnS b nb (lineS b nb i T1 G01 G11 (fm F1))).1 = true → i < (sgnS b nb (lineS b nb i T1 G01 G11 (fm F1))).2.1 ∧ (sgnS b nb (lineS b nb i T1 G01 G11 (fm F1))).2.1 ≤ nb := sgnS_gt hle
      have hn1 : ¬ (sgnS b nb (lineS b nb i T1 G01 G11 (fm F1))).1 = true → (sgnS b nb (lineS b nb i T1 G01 G11 (fm F1))).2.2.1 = 1 := sgn_1 lineS_1
      generalize lineS b nb i T1 G01 G11 (fm F1) = o at ha hb hc hd hA hgt hn1 hle
      have stop : ∀ (F3 : Nat → Int32) (J3 : Nat → Int64) (td3 : Nat → Int32), ¬ (sgnS b nb o).1 = true → (F3 11).toInt = (sgnS b nb o).2.2.2 → vX9_tune_c32 tx (postX9_tune T G0 G1 lim b nb F J al tx td) (n' + 1) 0 F3 J3 (upd al 2 (0 : Int32)) td3 := fun F3 J3 td3 q w => by
        have h1 := hn1 q
        rw [if_neg q] at hA
        refine sX9_tune_0 T G0 G1 lim b nb F J al tx td H n' F3 J3 td3 ?_ ?_ ?_
        · rw [← hA]; show (sgnS b nb o).2.2.1 ≠ 0; rw [h1]; decide
        · rw [← hA]; exact h1
        · rw [← hA]; exact w
      by_cases d : o.1 = true
      · have e : r = 1 := by rw [ha, if_pos d]
        subst e
        obtain ⟨k1, k2, k3⟩ := hb d
        refine ⟨fun q => absurd q (by decide), fun _ => ?_⟩
        rw [fa_eq (F2 7), k1.2.2.2.2.2.1, z4, soK_4 (tK_le _ _ _)]
        refine ⟨fun g => ⟨fun q => absurd q (by decide), fun _ => ⟨b, nb, tE b nb o.2.1, rdM_at k1 htx, fun F3 J3 h3 => ?_⟩⟩, fun g => ⟨trivial, fun r3 F3 h3 => ?_⟩⟩
        · have es : sgnS b nb o = (true, tE b nb o.2.1, o.2.2) := by unfold sgnS; rw [if_pos d, if_pos g]
          rw [es] at hA hgt
          rw [if_pos rfl] at hA
          have hgt := hgt rfl
          have hgt : i < tE b nb o.2.1 ∧ tE b nb o.2.1 ≤ nb := hgt
          have ef : fm F3 = o.2.2 := by rw [fm_kp h3.2]; exact k2
          have hs2 := tS_le b hgt.2
          have hg1 := tE_gt b (hle d).2 (by omega)
          have hA : allS b nb m (tE b nb o.2.1) (liT b nb i T1) (li0 b nb i G01) (li1 b nb i G11) (liL b nb i lim1) o.2.2 = alR b nb := hA
          exact sX9_tune_32 T G0 G1 lim b nb F J al tx td H (n' + 1) m _ _ _ _ _ F3 J3 td2 h3.1 (by rw [ef]; exact flB_w k3 (by omega)) (by rw [ef]; exact hd d) (by rw [ef]; exact hA) (by omega) (by omega)
        · obtain ⟨e1, e2⟩ := h3
          subst e1 e2
          have es : sgnS b nb o = rfS (tS b nb o.2.1) := by unfold sgnS; rw [if_pos d, if_neg g]
          exact ⟨fun _ => stop _ _ _ (by rw [es]; exact rfS_1) (by rw [es]; exact k1.2.2.2.1), fun q => absurd rfl q⟩
      · have e : r = 0 := by rw [ha, if_neg d]
        subst e
        have es : sgnS b nb o = o := by unfold sgnS; rw [if_neg d]
        refine ⟨fun _ => ⟨fun _ => stop F2 J2 td2 (by rw [es]; exact d) (by rw [es]; exact hc (by simpa using d)), fun q => absurd rfl q⟩, fun q => absurd rfl q⟩
theorem sX9_tune (T : Cd) (G0 : Lg) (G1 : Lg) (lim : Nat) (b : Nat → Int32) (nb : Nat) (F : Nat → Int32) (J : Nat → Int64) (al : Nat → Int32) (tx : Nat → Int32) (td : Nat → Int32) (H : preX9_tune T G0 G1 lim b nb F J al tx td) : vX9_tune F J al tx td (postX9_tune T G0 G1 lim b nb F J al tx td) := by
  obtain ⟨hR, h2, hnb, htx⟩ := id H
  refine ⟨trivial, fun F1 td1 h1 => ⟨b, nb, 0, ⟨?_, hnb, h1.2.1, by omega, htx⟩, fun F2 J2 h3 => ⟨nb + 2, sX9_tune_32 T G0 G1 lim b nb F J al tx td H (nb + 2) (nb + 1) 0 cZ gZ gZ 1000 F2 J2 td1 h3.1 ?_ ?_ ?_ (by omega) (by omega)⟩⟩⟩
  · rw [h1.1, upd_eq]; exact h2
  · rw [fm_kp h3.2, h1.2.2.1]; exact fun q => absurd rfl q
  · rw [fm_kp h3.2, h1.2.2.1]
    obtain ⟨-, -, -, a1, a2, a3, a4⟩ := h1
    exact ⟨fun _ => a1, by rw [a2]; decide, by rw [a3]; decide, by rw [a4]; decide⟩
  · rw [fm_kp h3.2, h1.2.2.1]; rfl
