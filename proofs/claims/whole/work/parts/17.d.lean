set_option maxRecDepth 20000 in
theorem ggX9_turn_X9_isPart : GoodIn wsX9_turn wsX9_isPart := goodIn_r _ [6, 7, 8, 9, 5, 10, 22, 23, 24, 25, 26, 27, 28, 29, 30, 31, 32, 33, 34, 35, 36, 37, 38, 39, 40, 41, 42, 43, 44, 45, 46, 47, 48, 49, 50] (by decide +kernel) (by decide +kernel)
set_option maxRecDepth 20000 in
theorem gX9_turn_X9_isPart : GoodIn wsX9_turn (wsV RX9 192 RX9 yX9_isPart wsX9_isPart) := goodIn_app (goodIn_of _ (by decide +kernel)) ggX9_turn_X9_isPart
set_option maxRecDepth 20000 in
theorem ggX9_turn_X9_of : GoodIn wsX9_turn wsX9_of := goodIn_r _ [14, 7, 22, 23, 24, 25, 26, 27, 28, 29, 30, 31, 32, 33, 34, 35, 36, 37, 38, 39, 40, 41, 42, 43, 44, 45, 46, 47, 48, 49, 50] (by decide +kernel) (by decide +kernel)
set_option maxRecDepth 20000 in
theorem gX9_turn_X9_of : GoodIn wsX9_turn (wsV RX9 195 RX9 yX9_of wsX9_of) := goodIn_app (goodIn_of _ (by decide +kernel)) ggX9_turn_X9_of
set_option maxRecDepth 20000 in
theorem ggX9_turn_X9_in : GoodIn wsX9_turn wsX9_in := goodIn_r _ [10] (by decide +kernel) (by decide +kernel)
set_option maxRecDepth 20000 in
theorem gX9_turn_X9_in : GoodIn wsX9_turn (va_wsS RX9 63 yX9_in wsX9_in) := goodIn_app (goodIn_of _ (by decide +kernel)) ggX9_turn_X9_in
set_option maxRecDepth 20000 in
theorem ggX9_turn_X9_has : GoodIn wsX9_turn wsX9_has := goodIn_r _ [17] (by decide +kernel) (by decide +kernel)
set_option maxRecDepth 20000 in
theorem gX9_turn_X9_has : GoodIn wsX9_turn (va_wsS RX9 201 yX9_has wsX9_has) := goodIn_app (goodIn_of _ (by decide +kernel)) ggX9_turn_X9_has
set_option maxRecDepth 20000 in
theorem ggX9_turn_X9_lays : GoodIn wsX9_turn wsX9_lays := goodIn_r _ [21, 7, 22, 23, 24, 25, 26, 27, 28, 29, 30, 31, 32, 33, 34, 35, 36, 37, 38, 39, 40, 41, 42, 43, 44, 45, 46, 47, 48, 49, 50] (by decide +kernel) (by decide +kernel)
set_option maxRecDepth 20000 in
theorem gX9_turn_X9_lays : GoodIn wsX9_turn (wsV RX9 198 RX9 yX9_lays wsX9_lays) := goodIn_app (goodIn_of _ (by decide +kernel)) ggX9_turn_X9_lays
theorem dX9_turn_0 : decode cX9_turn 0 = .ok (.aload_n 0, 1) := by decide +kernel
theorem dX9_turn_1 : decode cX9_turn 1 = .ok (.iconst 0, 1) := by decide +kernel
theorem dX9_turn_2 : decode cX9_turn 2 = .ok (.putfield 51, 3) := by decide +kernel
theorem dX9_turn_5 : decode cX9_turn 5 = .ok (.aload_n 0, 1) := by decide +kernel
theorem dX9_turn_6 : decode cX9_turn 6 = .ok (.iload_n 1, 1) := by decide +kernel
theorem dX9_turn_7 : decode cX9_turn 7 = .ok (.invokevirtual 192, 3) := by decide +kernel
theorem dX9_turn_10 : decode cX9_turn 10 = .ok (.ifCond .eq 19, 3) := by decide +kernel
theorem dX9_turn_13 : decode cX9_turn 13 = .ok (.iload_n 2, 1) := by decide +kernel
theorem dX9_turn_14 : decode cX9_turn 14 = .ok (.iconst 1, 1) := by decide +kernel
theorem dX9_turn_15 : decode cX9_turn 15 = .ok (.aload_n 0, 1) := by decide +kernel
theorem dX9_turn_16 : decode cX9_turn 16 = .ok (.iload_n 1, 1) := by decide +kernel
theorem dX9_turn_17 : decode cX9_turn 17 = .ok (.iconst 0, 1) := by decide +kernel
theorem dX9_turn_18 : decode cX9_turn 18 = .ok (.invokevirtual 195, 3) := by decide +kernel
theorem dX9_turn_21 : decode cX9_turn 21 = .ok (.iconst 1, 1) := by decide +kernel
theorem dX9_turn_22 : decode cX9_turn 22 = .ok (.isub, 1) := by decide +kernel
theorem dX9_turn_23 : decode cX9_turn 23 = .ok (.invokestatic 63, 3) := by decide +kernel
theorem dX9_turn_26 : decode cX9_turn 26 = .ok (.ifCond .ne 5, 3) := by decide +kernel
theorem dX9_turn_29 : decode cX9_turn 29 = .ok (.iconst 0, 1) := by decide +kernel
theorem dX9_turn_30 : decode cX9_turn 30 = .ok (.ireturn, 1) := by decide +kernel
theorem dX9_turn_31 : decode cX9_turn 31 = .ok (.aload_n 0, 1) := by decide +kernel
theorem dX9_turn_32 : decode cX9_turn 32 = .ok (.iload_n 1, 1) := by decide +kernel
theorem dX9_turn_33 : decode cX9_turn 33 = .ok (.iconst 0, 1) := by decide +kernel
theorem dX9_turn_34 : decode cX9_turn 34 = .ok (.invokevirtual 195, 3) := by decide +kernel
theorem dX9_turn_37 : decode cX9_turn 37 = .ok (.istore_n 3, 1) := by decide +kernel
theorem dX9_turn_38 : decode cX9_turn 38 = .ok (.iconst 0, 1) := by decide +kernel
theorem dX9_turn_39 : decode cX9_turn 39 = .ok (.istore 4, 2) := by decide +kernel
theorem dX9_turn_41 : decode cX9_turn 41 = .ok (.iconst 0, 1) := by decide +kernel
theorem dX9_turn_42 : decode cX9_turn 42 = .ok (.istore 5, 2) := by decide +kernel
theorem dX9_turn_44 : decode cX9_turn 44 = .ok (.iload 5, 2) := by decide +kernel
theorem dX9_turn_46 : decode cX9_turn 46 = .ok (.iload_n 3, 1) := by decide +kernel
theorem dX9_turn_47 : decode cX9_turn 47 = .ok (.if_icmp .ge 40, 3) := by decide +kernel
theorem dX9_turn_50 : decode cX9_turn 50 = .ok (.iload 4, 2) := by decide +kernel
theorem dX9_turn_52 : decode cX9_turn 52 = .ok (.aload_n 0, 1) := by decide +kernel
theorem dX9_turn_53 : decode cX9_turn 53 = .ok (.iload_n 1, 1) := by decide +kernel
theorem dX9_turn_54 : decode cX9_turn 54 = .ok (.iconst 2, 1) := by decide +kernel
theorem dX9_turn_55 : decode cX9_turn 55 = .ok (.invokevirtual 195, 3) := by decide +kernel
theorem dX9_turn_58 : decode cX9_turn 58 = .ok (.iload 5, 2) := by decide +kernel
theorem dX9_turn_60 : decode cX9_turn 60 = .ok (.invokestatic 201, 3) := by decide +kernel
theorem dX9_turn_63 : decode cX9_turn 63 = .ok (.ifCond .eq 14, 3) := by decide +kernel
theorem dX9_turn_66 : decode cX9_turn 66 = .ok (.iconst 1, 1) := by decide +kernel
theorem dX9_turn_67 : decode cX9_turn 67 = .ok (.iload 5, 2) := by decide +kernel
theorem dX9_turn_69 : decode cX9_turn 69 = .ok (.iload_n 2, 1) := by decide +kernel
theorem dX9_turn_70 : decode cX9_turn 70 = .ok (.iadd, 1) := by decide +kernel
theorem dX9_turn_71 : decode cX9_turn 71 = .ok (.iload_n 3, 1) := by decide +kernel
theorem dX9_turn_72 : decode cX9_turn 72 = .ok (.irem, 1) := by decide +kernel
theorem dX9_turn_73 : decode cX9_turn 73 = .ok (.ishl, 1) := by decide +kernel
theorem dX9_turn_74 : decode cX9_turn 74 = .ok (.goto 4, 3) := by decide +kernel
theorem dX9_turn_77 : decode cX9_turn 77 = .ok (.iconst 0, 1) := by decide +kernel
theorem dX9_turn_78 : decode cX9_turn 78 = .ok (.ior, 1) := by decide +kernel
theorem dX9_turn_79 : decode cX9_turn 79 = .ok (.istore 4, 2) := by decide +kernel
theorem dX9_turn_81 : decode cX9_turn 81 = .ok (.iinc 5 1, 3) := by decide +kernel
theorem dX9_turn_84 : decode cX9_turn 84 = .ok (.goto (-40), 3) := by decide +kernel
theorem dX9_turn_87 : decode cX9_turn 87 = .ok (.aload_n 0, 1) := by decide +kernel
theorem dX9_turn_88 : decode cX9_turn 88 = .ok (.iload_n 1, 1) := by decide +kernel
theorem dX9_turn_89 : decode cX9_turn 89 = .ok (.iconst 2, 1) := by decide +kernel
theorem dX9_turn_90 : decode cX9_turn 90 = .ok (.iload 4, 2) := by decide +kernel
theorem dX9_turn_92 : decode cX9_turn 92 = .ok (.invokevirtual 198, 3) := by decide +kernel
theorem dX9_turn_95 : decode cX9_turn 95 = .ok (.iconst 1, 1) := by decide +kernel
theorem dX9_turn_96 : decode cX9_turn 96 = .ok (.ireturn, 1) := by decide +kernel
abbrev rmX9_turn : Room := { frames := 2, cells := 0, slots := 0, locals := 43 }
theorem inX9_turn_9 : ∀ w ∈ wsX90, w ∈ wsX9_turn := by decide +kernel
def vX9_turn_c44 (J : Nat → Int64) (p1 : Int32) (p2 : Int32) (Q : Int32 → (Nat → Int32) → (Nat → Int32) → Prop) : Nat → Int32 → Int32 → Int32 → (Nat → Int32) → (Nat → Int32) → Prop
  | 0, _, _, _, _, _ => False
  | n + 1, x3, x4, x5, F, al => ((x3 ≤ x5 → (∃ (p_92 : Nat) (w_92 : Nat), preX9_lays p_92 w_92 F J al p1 (2 : Int32) x4 ∧ (∀ (al_92 : Nat → Int32), postX9_lays p_92 w_92 F J al p1 (2 : Int32) x4 al_92 → (Q (1 : Int32) F al_92)))) ∧ (¬ x3 ≤ x5 → (∃ (p_55 : Nat) (w_55 : Nat), preX9_of p_55 w_55 F J al p1 (2 : Int32) ∧ (∀ r_55 : Int32, postX9_of p_55 w_55 F J al p1 (2 : Int32) r_55 → (∃ (s_60 : Nat) (k_60 : Nat), preX9_has s_60 k_60 r_55 x5 ∧ (∀ r_60 : Int32, postX9_has s_60 k_60 r_55 x5 r_60 → ((r_60 = 0 → (vX9_turn_c44 J p1 p2 Q n x3 (x4 ||| (0 : Int32)) (x5 + (1 : Int32)) F al)) ∧ (¬ r_60 = 0 → (¬ x3 = 0 ∧ (∀ y_79 : Int32, y_79 = (x4 ||| ((1 : Int32) <<< (((x5 + p2) - (x5 + p2) / x3 * x3) &&& 31))) → (vX9_turn_c44 J p1 p2 Q n x3 y_79 (x5 + (1 : Int32)) F al)))))))))))
set_option maxHeartbeats 4000000 in
set_option maxRecDepth 100000 in
theorem kX9_turn_c44 {p : Program} {l : Launch} {e : Env} {s : State} {m : MethodId} {args : Array Value} {below : List Frame} {meth : Method} {c : Code} {g : GP} {qM : Nat} {q1 : Nat} {q2 : Nat} {q3 : Nat} {q4 : Nat} {q5 : Nat} {q6 : Nat} {q7 : Nat} {q8 : Nat} {q9 : Nat} {q10 : Nat} {q11 : Nat} {J : Nat → Int64} {p1 : Int32} {p2 : Int32} {Q : Int32 → (Nat → Int32) → (Nat → Int32) → Prop} {A : Nat → Prop} (S : CallFix p m c cX9_turn 6 s args wsX9_turn RX9) (hr : meth.sig.returnType = (some .boolean)) (hlocks : meth.locks = false) (hG : GK g s) (hA : ∀ q : Nat, s.heap.size ≤ q → A q) : ∀ (n : Nat), ∀ (x3 : Int32) (x4 : Int32) (x5 : Int32) (F : Nat → Int32) (al : Nat → Int32), vX9_turn_c44 J p1 p2 Q n x3 x4 x5 F al → ∀ (H : Heap) (locs : List Loc), va_P g.1 vwCl [(qM, .inr (9, [.int (F 0), .ref q1, .ref q2, .ref q3, .int (F 4), .int (F 5), .int (F 6), .int (F 7), .int (F 8), .int (F 9), .long (J 10), .int (F 11), .int (F 12), .int (F 13), .ref q4, .int (F 15), .ref q5, .ref q6, .ref q7, .int (F 19), .ref q8, .int (F 21), .int (F 22), .int (F 23), .int (F 24), .ref q9, .ref q10, .ref q11, .long (J 28)])), (q1, .inl (g.2 0, 376, .inl al))] H → va_D A [(qM, .inr (9, [.int (F 0), .ref q1, .ref q2, .ref q3, .int (F 4), .int (F 5), .int (F 6), .int (F 7), .int (F 8), .int (F 9), .long (J 10), .int (F 11), .int (F 12), .int (F 13), .ref q4, .int (F 15), .ref q5, .ref q6, .ref q7, .int (F 19), .ref q8, .int (F 21), .int (F 22), .int (F 23), .int (F 24), .ref q9, .ref q10, .ref q11, .long (J 28)])), (q1, .inl (g.2 0, 376, .inl al))] → va_S A s.heap H locs → ∀ (ls : Array Slot), lv_has ls 6 [(0, .ref qM), (1, .int p1), (2, .int p2), (3, .int x3), (4, .int x4), (5, .int x5)] → W p l e (headSpec wsX9_turn rmX9_turn).room s m args below meth c H locs 0 0 (MQ below (va_Qi (fun (r : Int32) (u : (Nat → Int32) × (Nat → Int32)) => Q r u.1 u.2) (fun (u : (Nat → Int32) × (Nat → Int32)) t => va_P g.1 vwCl [(qM, .inr (9, [.int (u.1 0), .ref q1, .ref q2, .ref q3, .int (u.1 4), .int (u.1 5), .int (u.1 6), .int (u.1 7), .int (u.1 8), .int (u.1 9), .long (J 10), .int (u.1 11), .int (u.1 12), .int (u.1 13), .ref q4, .int (u.1 15), .ref q5, .ref q6, .ref q7, .int (u.1 19), .ref q8, .int (u.1 21), .int (u.1 22), .int (u.1 23), .int (u.1 24), .ref q9, .ref q10, .ref q11, .long (J 28)])), (q1, .inl (g.2 0, 376, .inl u.2))] t.heap ∧ va_D A [(qM, .inr (9, [.int (u.1 0), .ref q1, .ref q2, .ref q3, .int (u.1 4), .int (u.1 5), .int (u.1 6), .int (u.1 7), .int (u.1 8), .int (u.1 9), .long (J 10), .int (u.1 11), .int (u.1 12), .int (u.1 13), .ref q4, .int (u.1 15), .ref q5, .ref q6, .ref q7, .int (u.1 19), .ref q8, .int (u.1 21), .int (u.1 22), .int (u.1 23), .int (u.1 24), .ref q9, .ref q10, .ref q11, .long (J 28)])), (q1, .inl (g.2 0, 376, .inl u.2))]) A) args s 0 0 A) (F0 m 44 ls []) := by
  obtain ⟨hx, hb, hml, hown, hts⟩ := id S
  have hK := hG.1
  intro n
  induction n with
  | zero => intro x3 x4 x5 F al hv; exact hv.elim
  | succ n ih =>
    intro x3 x4 x5 F al hv H locs hP hD hS ls hl
    refine lv_iload hx hb dX9_turn_44 (lv_at hl 5 rfl) ?_
    refine lv_iload_n hx hb dX9_turn_46 rfl (lv_at hl 3 rfl) ?_
    obtain ⟨hvt, hvf⟩ := hv
    refine lv_icmp_ge (tgt := 87) hx hb dX9_turn_47 (by decide) (fun hc => ?_) (fun hc => ?_)
    · have hv := hvt hc
      refine lv_aload_n hx hb dX9_turn_87 rfl (lv_at hl 0 rfl) ?_
      refine lv_iload_n hx hb dX9_turn_88 rfl (lv_at hl 1 rfl) ?_
      refine lv_iconst (v := (2 : Int32)) hx hb dX9_turn_89 (by decide) ?_
      refine lv_iload hx hb dX9_turn_90 (lv_at hl 4 rfl) ?_
      obtain ⟨p_92, w_92, ho_1, hv⟩ := hv
      have hPc := hP.sub (ws' := [(qM, .inr (9, [.int (F 0), .ref q1, .ref q2, .ref q3, .int (F 4), .int (F 5), .int (F 6), .int (F 7), .int (F 8), .int (F 9), .long (J 10), .int (F 11), .int (F 12), .int (F 13), .ref q4, .int (F 15), .ref q5, .ref q6, .ref q7, .int (F 19), .ref q8, .int (F 21), .int (F 22), .int (F 23), .int (F 24), .ref q9, .ref q10, .ref q11, .long (J 28)])), (q1, .inl (g.2 0, 376, .inl al))]) [0, 1] rfl
      have hDc := hD.sub (ws' := [(qM, .inr (9, [.int (F 0), .ref q1, .ref q2, .ref q3, .int (F 4), .int (F 5), .int (F 6), .int (F 7), .int (F 8), .int (F 9), .long (J 10), .int (F 11), .int (F 12), .int (F 13), .ref q4, .int (F 15), .ref q5, .ref q6, .ref q7, .int (F 19), .ref q8, .int (F 21), .int (F 22), .int (F 23), .int (F 24), .ref q9, .ref q10, .ref q11, .long (J 28)])), (q1, .inl (g.2 0, 376, .inl al))]) [0, 1] (by decide) rfl
      have hFc := va_free (wc := [(qM, .inr (9, [.int (F 0), .ref q1, .ref q2, .ref q3, .int (F 4), .int (F 5), .int (F 6), .int (F 7), .int (F 8), .int (F 9), .long (J 10), .int (F 11), .int (F 12), .int (F 13), .ref q4, .int (F 15), .ref q5, .ref q6, .ref q7, .int (F 19), .ref q8, .int (F 21), .int (F 22), .int (F 23), .int (F 24), .ref q9, .ref q10, .ref q11, .long (J 28)])), (q1, .inl (g.2 0, 376, .inl al))]) hD hS hA [0, 1] rfl
      refine va_callv (va_runV (As := [.int p1, .int (2 : Int32), .int x4]) (rest := []) S (wX9_lays l g qM q1 q2 q3 q4 q5 q6 q7 q8 q9 q10 q11 H.size F J al p1 (2 : Int32) x4 (sX9_lays p_92 w_92 F J al p1 (2 : Int32) x4 ho_1)) (cwV 3 hts gX9_turn_X9_lays rfl rfl rfl (by decide +kernel) ⟨Nat.le_of_ble_eq_true rfl, Nat.le_of_ble_eq_true rfl⟩) ⟨blindRW, va_recv hK hP (ci := 9) (q0 := 0) rfl rfl, fun U hU hW => ⟨rfl, by rw [hU], by rw [hU]; exact hPc, hG.warm hW, hDc.weaken (fun _ _ _ _ => trivial)⟩⟩ rfl rfl hl.1 rfl (lv_room (Nat.le_of_ble_eq_true rfl)) dX9_turn_92 ⟨Nat.le_of_ble_eq_true rfl, Nat.le_of_ble_eq_true rfl⟩) hS (fun q _ h => hFc q h) hFc (fun u t H1 locs ht hvm hw hB hz1 hk1 hS => ?_)
      obtain ⟨al_92, rfl⟩ : ∃ z, z = u := ⟨_, rfl⟩
      obtain ⟨hP1, hD1⟩ := hB
      rw [ht] at hP1
      have hv := hv al_92 hw
      obtain ⟨hP, hD⟩ := va_join (wr := []) (w1 := [(qM, .inr (9, [.int (F 0), .ref q1, .ref q2, .ref q3, .int (F 4), .int (F 5), .int (F 6), .int (F 7), .int (F 8), .int (F 9), .long (J 10), .int (F 11), .int (F 12), .int (F 13), .ref q4, .int (F 15), .ref q5, .ref q6, .ref q7, .int (F 19), .ref q8, .int (F 21), .int (F 22), .int (F 23), .int (F 24), .ref q9, .ref q10, .ref q11, .long (J 28)])), (q1, .inl (g.2 0, 376, .inl al_92))]) hP hD [0, 1] [] rfl rfl (by decide) (by decide) hk1 hFc hP1 hD1
      clear hP1 hD1 hPc hDc hFc hk1
      generalize H1 = H at hP hS ⊢
      have hP : va_P g.1 vwCl [(qM, .inr (9, [.int (F 0), .ref q1, .ref q2, .ref q3, .int (F 4), .int (F 5), .int (F 6), .int (F 7), .int (F 8), .int (F 9), .long (J 10), .int (F 11), .int (F 12), .int (F 13), .ref q4, .int (F 15), .ref q5, .ref q6, .ref q7, .int (F 19), .ref q8, .int (F 21), .int (F 22), .int (F 23), .int (F 24), .ref q9, .ref q10, .ref q11, .long (J 28)])), (q1, .inl (g.2 0, 376, .inl al_92))] H := hP
      have hD : va_D A [(qM, .inr (9, [.int (F 0), .ref q1, .ref q2, .ref q3, .int (F 4), .int (F 5), .int (F 6), .int (F 7), .int (F 8), .int (F 9), .long (J 10), .int (F 11), .int (F 12), .int (F 13), .ref q4, .int (F 15), .ref q5, .ref q6, .ref q7, .int (F 19), .ref q8, .int (F 21), .int (F 22), .int (F 23), .int (F 24), .ref q9, .ref q10, .ref q11, .long (J 28)])), (q1, .inl (g.2 0, 376, .inl al_92))] := hD
      refine lv_iconst (v := (1 : Int32)) hx hb dX9_turn_95 (by decide) ?_
      have hP9 := hP.sub (ws' := [(qM, .inr (9, [.int (F 0), .ref q1, .ref q2, .ref q3, .int (F 4), .int (F 5), .int (F 6), .int (F 7), .int (F 8), .int (F 9), .long (J 10), .int (F 11), .int (F 12), .int (F 13), .ref q4, .int (F 15), .ref q5, .ref q6, .ref q7, .int (F 19), .ref q8, .int (F 21), .int (F 22), .int (F 23), .int (F 24), .ref q9, .ref q10, .ref q11, .long (J 28)])), (q1, .inl (g.2 0, 376, .inl al_92))]) [0, 1] rfl
      have hD9 := hD.sub (ws' := [(qM, .inr (9, [.int (F 0), .ref q1, .ref q2, .ref q3, .int (F 4), .int (F 5), .int (F 6), .int (F 7), .int (F 8), .int (F 9), .long (J 10), .int (F 11), .int (F 12), .int (F 13), .ref q4, .int (F 15), .ref q5, .ref q6, .ref q7, .int (F 19), .ref q8, .int (F 21), .int (F 22), .int (F 23), .int (F 24), .ref q9, .ref q10, .ref q11, .long (J 28)])), (q1, .inl (g.2 0, 376, .inl al_92))]) [0, 1] (by decide) rfl
      exact W.zret (v := (1 : Int32)) (ty := .boolean) hx hb hr rfl (fun t ht hW => ⟨⟨_, (F, al_92), rfl, hv, by rw [ht]; exact hP9, hD9⟩, hS.F ht⟩) hS.2.2 dX9_turn_96
    · have hv := hvf hc
      refine lv_iload hx hb dX9_turn_50 (lv_at hl 4 rfl) ?_
      refine lv_aload_n hx hb dX9_turn_52 rfl (lv_at hl 0 rfl) ?_
      refine lv_iload_n hx hb dX9_turn_53 rfl (lv_at hl 1 rfl) ?_
      refine lv_iconst (v := (2 : Int32)) hx hb dX9_turn_54 (by decide) ?_
      obtain ⟨p_55, w_55, ho_2, hv⟩ := hv
      refine vp_callSi (W.runV (As := [.int p1, .int (2 : Int32)]) (rest := [.int x4]) S (wX9_of l g qM q1 q2 q3 q4 q5 q6 q7 q8 q9 q10 q11 F J al p1 (2 : Int32) (sX9_of p_55 w_55 F J al p1 (2 : Int32) ho_2)) (cwV 2 hts gX9_turn_X9_of rfl rfl rfl (by decide +kernel) ⟨Nat.le_of_ble_eq_true rfl, Nat.le_of_ble_eq_true rfl⟩) ⟨blindRO, va_recv hK hP (ci := 9) (q0 := 0) rfl rfl, fun U hU hW => ⟨rfl, by rw [hU]; exact hP.sub (ws' := [(qM, .inr (9, [.int (F 0), .ref q1, .ref q2, .ref q3, .int (F 4), .int (F 5), .int (F 6), .int (F 7), .int (F 8), .int (F 9), .long (J 10), .int (F 11), .int (F 12), .int (F 13), .ref q4, .int (F 15), .ref q5, .ref q6, .ref q7, .int (F 19), .ref q8, .int (F 21), .int (F 22), .int (F 23), .int (F 24), .ref q9, .ref q10, .ref q11, .long (J 28)])), (q1, .inl (g.2 0, 376, .inl al))]) [0, 1] rfl, hG.warm hW⟩⟩ rfl rfl hl.1 rfl (lv_room (Nat.le_of_ble_eq_true rfl)) dX9_turn_55 ⟨Nat.le_of_ble_eq_true rfl, Nat.le_of_ble_eq_true rfl⟩) (fun r_55 hr_55 => ?_)
      have hv := hv r_55 hr_55
      refine lv_iload hx hb dX9_turn_58 (lv_at hl 5 rfl) ?_
      obtain ⟨s_60, k_60, ho_3, hv⟩ := hv
      refine vp_callSi (W.runS (As := [.int r_55, .int x5]) (rest := [.int x4]) S (wX9_has l g r_55 x5 (sX9_has s_60 k_60 r_55 x5 ho_3)) (va_cwS 2 hts gX9_turn_X9_has rfl rfl rfl (by decide +kernel) ⟨Nat.le_of_ble_eq_true rfl, Nat.le_of_ble_eq_true rfl⟩) ⟨blindRO, fun U hU hW => ⟨rfl, by rw [hU]; exact hP.sub (ws' := []) [] rfl, hG.warm hW⟩⟩ rfl rfl hl.1 rfl (lv_room (Nat.le_of_ble_eq_true rfl)) dX9_turn_60 ⟨Nat.le_of_ble_eq_true rfl, Nat.le_of_ble_eq_true rfl⟩) (fun r_60 hr_60 => ?_)
      have hv := hv r_60 hr_60
      obtain ⟨hvt, hvf⟩ := hv
      refine lv_if_eq (tgt := 77) hx hb dX9_turn_63 (by decide) (fun hc => ?_) (fun hc => ?_)
      · have hv := hvt hc
        refine lv_iconst (v := (0 : Int32)) hx hb dX9_turn_77 (by decide) ?_
        refine lv_ior hx hb dX9_turn_78 ?_
        refine lv_istore (lv' := [(4, .int (x4 ||| (0 : Int32))), (0, .ref qM), (1, .int p1), (2, .int p2), (3, .int x3), (5, .int x5)]) hx hb dX9_turn_79 hl (by decide) rfl (fun ls hl => ?_)
        refine lv_iinc (v := (x5 + (1 : Int32))) (lv' := [(5, .int (x5 + (1 : Int32))), (4, .int (x4 ||| (0 : Int32))), (0, .ref qM), (1, .int p1), (2, .int p2), (3, .int x3)]) hx hb dX9_turn_81 hl (k := 5) rfl rfl (by decide) rfl (fun ls hl => ?_)
        refine lv_goto (tgt := 44) hx hb dX9_turn_84 (by decide) ?_
        exact ih _ _ _ _ _ hv _ _ (hP.sub (ws' := [(qM, .inr (9, [.int (F 0), .ref q1, .ref q2, .ref q3, .int (F 4), .int (F 5), .int (F 6), .int (F 7), .int (F 8), .int (F 9), .long (J 10), .int (F 11), .int (F 12), .int (F 13), .ref q4, .int (F 15), .ref q5, .ref q6, .ref q7, .int (F 19), .ref q8, .int (F 21), .int (F 22), .int (F 23), .int (F 24), .ref q9, .ref q10, .ref q11, .long (J 28)])), (q1, .inl (g.2 0, 376, .inl al))]) [0, 1] rfl) (hD.sub (ws' := [(qM, .inr (9, [.int (F 0), .ref q1, .ref q2, .ref q3, .int (F 4), .int (F 5), .int (F 6), .int (F 7), .int (F 8), .int (F 9), .long (J 10), .int (F 11), .int (F 12), .int (F 13), .ref q4, .int (F 15), .ref q5, .ref q6, .ref q7, .int (F 19), .ref q8, .int (F 21), .int (F 22), .int (F 23), .int (F 24), .ref q9, .ref q10, .ref q11, .long (J 28)])), (q1, .inl (g.2 0, 376, .inl al))]) [0, 1] (by decide) rfl) hS ls (lv_sub hl [2, 3, 4, 5, 1, 0] rfl)
      · have hv := hvf hc
        refine lv_iconst (v := (1 : Int32)) hx hb dX9_turn_66 (by decide) ?_
        refine lv_iload hx hb dX9_turn_67 (lv_at hl 5 rfl) ?_
        refine lv_iload_n hx hb dX9_turn_69 rfl (lv_at hl 2 rfl) ?_
        refine lv_iadd hx hb dX9_turn_70 ?_
        refine lv_iload_n hx hb dX9_turn_71 rfl (lv_at hl 3 rfl) ?_
        obtain ⟨ho_4, hv⟩ := hv
        refine lv_irem hx hb dX9_turn_72 ho_4 ?_
        refine lv_ishl hx hb dX9_turn_73 ?_
        refine lv_goto (tgt := 78) hx hb dX9_turn_74 (by decide) ?_
        refine lv_ior hx hb dX9_turn_78 ?_
        refine lv_topi (fun y_79 ey_79 => ?_)
        have hv := hv y_79 ey_79
        refine lv_istore (lv' := [(4, .int y_79), (0, .ref qM), (1, .int p1), (2, .int p2), (3, .int x3), (5, .int x5)]) hx hb dX9_turn_79 hl (by decide) rfl (fun ls hl => ?_)
        refine lv_iinc (v := (x5 + (1 : Int32))) (lv' := [(5, .int (x5 + (1 : Int32))), (4, .int y_79), (0, .ref qM), (1, .int p1), (2, .int p2), (3, .int x3)]) hx hb dX9_turn_81 hl (k := 5) rfl rfl (by decide) rfl (fun ls hl => ?_)
        refine lv_goto (tgt := 44) hx hb dX9_turn_84 (by decide) ?_
        exact ih _ _ _ _ _ hv _ _ (hP.sub (ws' := [(qM, .inr (9, [.int (F 0), .ref q1, .ref q2, .ref q3, .int (F 4), .int (F 5), .int (F 6), .int (F 7), .int (F 8), .int (F 9), .long (J 10), .int (F 11), .int (F 12), .int (F 13), .ref q4, .int (F 15), .ref q5, .ref q6, .ref q7, .int (F 19), .ref q8, .int (F 21), .int (F 22), .int (F 23), .int (F 24), .ref q9, .ref q10, .ref q11, .long (J 28)])), (q1, .inl (g.2 0, 376, .inl al))]) [0, 1] rfl) (hD.sub (ws' := [(qM, .inr (9, [.int (F 0), .ref q1, .ref q2, .ref q3, .int (F 4), .int (F 5), .int (F 6), .int (F 7), .int (F 8), .int (F 9), .long (J 10), .int (F 11), .int (F 12), .int (F 13), .ref q4, .int (F 15), .ref q5, .ref q6, .ref q7, .int (F 19), .ref q8, .int (F 21), .int (F 22), .int (F 23), .int (F 24), .ref q9, .ref q10, .ref q11, .long (J 28)])), (q1, .inl (g.2 0, 376, .inl al))]) [0, 1] (by decide) rfl) hS ls (lv_sub hl [2, 3, 4, 5, 1, 0] rfl)
def vX9_turn (F : Nat → Int32) (J : Nat → Int64) (al : Nat → Int32) (p1 : Int32) (p2 : Int32) (Q : Int32 → (Nat → Int32) → (Nat → Int32) → Prop) : Prop := (∃ (n_7 : Nat), preX9_isPart n_7 (upd F 0 (0 : Int32)) J al p1 ∧ (∀ r_7 : Int32, postX9_isPart n_7 (upd F 0 (0 : Int32)) J al p1 r_7 → ((r_7 = 0 → (Q (0 : Int32) (upd F 0 (0 : Int32)) al)) ∧ (¬ r_7 = 0 → (∃ (p_18 : Nat) (w_18 : Nat), preX9_of p_18 w_18 (upd F 0 (0 : Int32)) J al p1 (0 : Int32) ∧ (∀ r_18 : Int32, postX9_of p_18 w_18 (upd F 0 (0 : Int32)) J al p1 (0 : Int32) r_18 → (preX9_in p2 (1 : Int32) (r_18 - (1 : Int32)) ∧ (∀ r_23 : Int32, postX9_in p2 (1 : Int32) (r_18 - (1 : Int32)) r_23 → ((¬ r_23 = 0 → (∃ (p_34 : Nat) (w_34 : Nat), preX9_of p_34 w_34 (upd F 0 (0 : Int32)) J al p1 (0 : Int32) ∧ (∀ r_34 : Int32, postX9_of p_34 w_34 (upd F 0 (0 : Int32)) J al p1 (0 : Int32) r_34 → (∃ nn, vX9_turn_c44 J p1 p2 Q nn r_34 (0 : Int32) (0 : Int32) (upd F 0 (0 : Int32)) al)))) ∧ (r_23 = 0 → (Q (0 : Int32) (upd F 0 (0 : Int32)) al)))))))))))
set_option maxHeartbeats 4000000 in
set_option maxRecDepth 100000 in
theorem wX9_turn (l : Launch) (g : GP) (qM : Nat) (q1 : Nat) (q2 : Nat) (q3 : Nat) (q4 : Nat) (q5 : Nat) (q6 : Nat) (q7 : Nat) (q8 : Nat) (q9 : Nat) (q10 : Nat) (q11 : Nat) (sz : Nat) (F : Nat → Int32) (J : Nat → Int64) (al : Nat → Int32) (p1 : Int32) (p2 : Int32) {Q : Int32 → (Nat → Int32) → (Nat → Int32) → Prop} (hv : vX9_turn F J al p1 p2 Q) : Met l yX9_turn wsX9_turn rmX9_turn (va_Pc [.ref qM, .int p1, .int p2] (fun U => U.heap.size = sz ∧ va_P g.1 vwCl [(qM, .inr (9, [.int (F 0), .ref q1, .ref q2, .ref q3, .int (F 4), .int (F 5), .int (F 6), .int (F 7), .int (F 8), .int (F 9), .long (J 10), .int (F 11), .int (F 12), .int (F 13), .ref q4, .int (F 15), .ref q5, .ref q6, .ref q7, .int (F 19), .ref q8, .int (F 21), .int (F 22), .int (F 23), .int (F 24), .ref q9, .ref q10, .ref q11, .long (J 28)])), (q1, .inl (g.2 0, 376, .inl al))] U.heap ∧ GK g U ∧ va_D (fun _ => True) [(qM, .inr (9, [.int (F 0), .ref q1, .ref q2, .ref q3, .int (F 4), .int (F 5), .int (F 6), .int (F 7), .int (F 8), .int (F 9), .long (J 10), .int (F 11), .int (F 12), .int (F 13), .ref q4, .int (F 15), .ref q5, .ref q6, .ref q7, .int (F 19), .ref q8, .int (F 21), .int (F 22), .int (F 23), .int (F 24), .ref q9, .ref q10, .ref q11, .long (J 28)])), (q1, .inl (g.2 0, 376, .inl al))])) (va_Qi (fun (r : Int32) (u : (Nat → Int32) × (Nat → Int32)) => Q r u.1 u.2) (fun (u : (Nat → Int32) × (Nat → Int32)) t => va_P g.1 vwCl [(qM, .inr (9, [.int (u.1 0), .ref q1, .ref q2, .ref q3, .int (u.1 4), .int (u.1 5), .int (u.1 6), .int (u.1 7), .int (u.1 8), .int (u.1 9), .long (J 10), .int (u.1 11), .int (u.1 12), .int (u.1 13), .ref q4, .int (u.1 15), .ref q5, .ref q6, .ref q7, .int (u.1 19), .ref q8, .int (u.1 21), .int (u.1 22), .int (u.1 23), .int (u.1 24), .ref q9, .ref q10, .ref q11, .long (J 28)])), (q1, .inl (g.2 0, 376, .inl u.2))] t.heap ∧ va_D (va_A [(qM, .inr (9, [.int (F 0), .ref q1, .ref q2, .ref q3, .int (F 4), .int (F 5), .int (F 6), .int (F 7), .int (F 8), .int (F 9), .long (J 10), .int (F 11), .int (F 12), .int (F 13), .ref q4, .int (F 15), .ref q5, .ref q6, .ref q7, .int (F 19), .ref q8, .int (F 21), .int (F 22), .int (F 23), .int (F 24), .ref q9, .ref q10, .ref q11, .long (J 28)])), (q1, .inl (g.2 0, 376, .inl al))] sz) [(qM, .inr (9, [.int (u.1 0), .ref q1, .ref q2, .ref q3, .int (u.1 4), .int (u.1 5), .int (u.1 6), .int (u.1 7), .int (u.1 8), .int (u.1 9), .long (J 10), .int (u.1 11), .int (u.1 12), .int (u.1 13), .ref q4, .int (u.1 15), .ref q5, .ref q6, .ref q7, .int (u.1 19), .ref q8, .int (u.1 21), .int (u.1 22), .int (u.1 23), .int (u.1 24), .ref q9, .ref q10, .ref q11, .long (J 28)])), (q1, .inl (g.2 0, 376, .inl u.2))]) (va_A [(qM, .inr (9, [.int (F 0), .ref q1, .ref q2, .ref q3, .int (F 4), .int (F 5), .int (F 6), .int (F 7), .int (F 8), .int (F 9), .long (J 10), .int (F 11), .int (F 12), .int (F 13), .ref q4, .int (F 15), .ref q5, .ref q6, .ref q7, .int (F 19), .ref q8, .int (F 21), .int (F 22), .int (F 23), .int (F 24), .ref q9, .ref q10, .ref q11, .long (J 28)])), (q1, .inl (g.2 0, 376, .inl al))] sz)) 0 0 (va_A [(qM, .inr (9, [.int (F 0), .ref q1, .ref q2, .ref q3, .int (F 4), .int (F 5), .int (F 6), .int (F 7), .int (F 8), .int (F 9), .long (J 10), .int (F 11), .int (F 12), .int (F 13), .ref q4, .int (F 15), .ref q5, .ref q6, .ref q7, .int (F 19), .ref q8, .int (F 21), .int (F 22), .int (F 23), .int (F 24), .ref q9, .ref q10, .ref q11, .long (J 28)])), (q1, .inl (g.2 0, 376, .inl al))] sz) := by
  refine Met.ofW (cc := cX9_turn) (maxL := 6) (ret := (some .boolean)) (by decide) rfl ?_
  intro p e s m args below meth c s₁ B hml hv'
  obtain ⟨rfl, hsz, hP, hG, hD0⟩ := hv'
  have S : CallFix p m c cX9_turn 6 s _ wsX9_turn RX9 := ⟨B.exec, B.bytes, hml, findClass_of_methodNamed B.named, atoms_spec (ws := wsX9_turn) B.pre⟩
  obtain ⟨hx, hb, hml, hown, hts⟩ := id S
  have hK := hG.1
  have hr := B.returns
  have hlocks := B.notSynchronized
  subst hsz
  have hD := hD0.self (sz := s.heap.size)
  generalize hAe : va_A [(qM, .inr (9, [.int (F 0), .ref q1, .ref q2, .ref q3, .int (F 4), .int (F 5), .int (F 6), .int (F 7), .int (F 8), .int (F 9), .long (J 10), .int (F 11), .int (F 12), .int (F 13), .ref q4, .int (F 15), .ref q5, .ref q6, .ref q7, .int (F 19), .ref q8, .int (F 21), .int (F 22), .int (F 23), .int (F 24), .ref q9, .ref q10, .ref q11, .long (J 28)])), (q1, .inl (g.2 0, 376, .inl al))] s.heap.size = A at hD ⊢
  have hA : ∀ q : Nat, s.heap.size ≤ q → A q := fun q h => by rw [← hAe]; exact Or.inr h
  have hS : va_S A s.heap s.heap [] := va_S.rf
  clear hD0 hAe
  have hl := lv_entry ([.ref qM, .int p1, .int p2]) (n := 6) (Nat.le_of_ble_eq_true rfl)
  rw [lg_entry_eq]
  generalize (lg_sl ([.ref qM, .int p1, .int p2]) ++ List.replicate (6 - (lg_sl ([.ref qM, .int p1, .int p2])).length) Slot.unset).toArray = ls at hl ⊢
  have hl : lv_has ls 6 [(0, .ref qM), (1, .int p1), (2, .int p2)] := hl
  unfold vX9_turn at hv
  refine lv_aload_n hx hb dX9_turn_0 rfl (lv_at hl 0 rfl) ?_
  refine lv_iconst (v := (0 : Int32)) hx hb dX9_turn_1 (by decide) ?_
  refine va_put (D := g.1) (ci := 9) (v := .int (0 : Int32)) (ty := .int) (C := RX9) (T := TX9) (N := 29) hx hb hts inX9_turn_9 tyX9 tyX9_ok nmX9 hown hK hP hD hS 0 rfl rfl 0 (by decide) (hts (.fieldLink RX9 51 "RangeCodesModel" "raised" "I") (List.mem_of_getElem? (i := 1) rfl)) (fun _ h9 => h9) rfl (by decide +kernel) rfl rfl (Nat.le_of_ble_eq_true rfl) dX9_turn_2 (fun H locs hP hD hS => ?_)
  have hP : va_P g.1 vwCl [(qM, .inr (9, [.int (0 : Int32), .ref q1, .ref q2, .ref q3, .int (F 4), .int (F 5), .int (F 6), .int (F 7), .int (F 8), .int (F 9), .long (J 10), .int (F 11), .int (F 12), .int (F 13), .ref q4, .int (F 15), .ref q5, .ref q6, .ref q7, .int (F 19), .ref q8, .int (F 21), .int (F 22), .int (F 23), .int (F 24), .ref q9, .ref q10, .ref q11, .long (J 28)])), (q1, .inl (g.2 0, 376, .inl al))] H := hP
  have hD : va_D A [(qM, .inr (9, [.int (0 : Int32), .ref q1, .ref q2, .ref q3, .int (F 4), .int (F 5), .int (F 6), .int (F 7), .int (F 8), .int (F 9), .long (J 10), .int (F 11), .int (F 12), .int (F 13), .ref q4, .int (F 15), .ref q5, .ref q6, .ref q7, .int (F 19), .ref q8, .int (F 21), .int (F 22), .int (F 23), .int (F 24), .ref q9, .ref q10, .ref q11, .long (J 28)])), (q1, .inl (g.2 0, 376, .inl al))] := hD
  refine lv_aload_n hx hb dX9_turn_5 rfl (lv_at hl 0 rfl) ?_
  refine lv_iload_n hx hb dX9_turn_6 rfl (lv_at hl 1 rfl) ?_
  obtain ⟨n_7, ho_1, hv⟩ := hv
  refine vp_callSi (W.runV (As := [.int p1]) (rest := []) S (wX9_isPart l g qM q1 q2 q3 q4 q5 q6 q7 q8 q9 q10 q11 (upd F 0 (0 : Int32)) J al p1 (sX9_isPart n_7 (upd F 0 (0 : Int32)) J al p1 ho_1)) (cwV 1 hts gX9_turn_X9_isPart rfl rfl rfl (by decide +kernel) ⟨Nat.le_of_ble_eq_true rfl, Nat.le_of_ble_eq_true rfl⟩) ⟨blindRO, va_recv hK hP (ci := 9) (q0 := 0) rfl rfl, fun U hU hW => ⟨rfl, by rw [hU]; exact hP.sub (ws' := [(qM, .inr (9, [.int ((upd F 0 (0 : Int32)) 0), .ref q1, .ref q2, .ref q3, .int ((upd F 0 (0 : Int32)) 4), .int ((upd F 0 (0 : Int32)) 5), .int ((upd F 0 (0 : Int32)) 6), .int ((upd F 0 (0 : Int32)) 7), .int ((upd F 0 (0 : Int32)) 8), .int ((upd F 0 (0 : Int32)) 9), .long (J 10), .int ((upd F 0 (0 : Int32)) 11), .int ((upd F 0 (0 : Int32)) 12), .int ((upd F 0 (0 : Int32)) 13), .ref q4, .int ((upd F 0 (0 : Int32)) 15), .ref q5, .ref q6, .ref q7, .int ((upd F 0 (0 : Int32)) 19), .ref q8, .int ((upd F 0 (0 : Int32)) 21), .int ((upd F 0 (0 : Int32)) 22), .int ((upd F 0 (0 : Int32)) 23), .int ((upd F 0 (0 : Int32)) 24), .ref q9, .ref q10, .ref q11, .long (J 28)])), (q1, .inl (g.2 0, 376, .inl al))]) [0, 1] rfl, hG.warm hW⟩⟩ rfl rfl hl.1 rfl (lv_room (Nat.le_of_ble_eq_true rfl)) dX9_turn_7 ⟨Nat.le_of_ble_eq_true rfl, Nat.le_of_ble_eq_true rfl⟩) (fun r_7 hr_7 => ?_)
  have hv := hv r_7 hr_7
  obtain ⟨hvt, hvf⟩ := hv
  refine lv_if_eq (tgt := 29) hx hb dX9_turn_10 (by decide) (fun hc => ?_) (fun hc => ?_)
  · have hv := hvt hc
    refine lv_iconst (v := (0 : Int32)) hx hb dX9_turn_29 (by decide) ?_
    have hP9 := hP.sub (ws' := [(qM, .inr (9, [.int ((upd F 0 (0 : Int32)) 0), .ref q1, .ref q2, .ref q3, .int ((upd F 0 (0 : Int32)) 4), .int ((upd F 0 (0 : Int32)) 5), .int ((upd F 0 (0 : Int32)) 6), .int ((upd F 0 (0 : Int32)) 7), .int ((upd F 0 (0 : Int32)) 8), .int ((upd F 0 (0 : Int32)) 9), .long (J 10), .int ((upd F 0 (0 : Int32)) 11), .int ((upd F 0 (0 : Int32)) 12), .int ((upd F 0 (0 : Int32)) 13), .ref q4, .int ((upd F 0 (0 : Int32)) 15), .ref q5, .ref q6, .ref q7, .int ((upd F 0 (0 : Int32)) 19), .ref q8, .int ((upd F 0 (0 : Int32)) 21), .int ((upd F 0 (0 : Int32)) 22), .int ((upd F 0 (0 : Int32)) 23), .int ((upd F 0 (0 : Int32)) 24), .ref q9, .ref q10, .ref q11, .long (J 28)])), (q1, .inl (g.2 0, 376, .inl al))]) [0, 1] rfl
    have hD9 := hD.sub (ws' := [(qM, .inr (9, [.int ((upd F 0 (0 : Int32)) 0), .ref q1, .ref q2, .ref q3, .int ((upd F 0 (0 : Int32)) 4), .int ((upd F 0 (0 : Int32)) 5), .int ((upd F 0 (0 : Int32)) 6), .int ((upd F 0 (0 : Int32)) 7), .int ((upd F 0 (0 : Int32)) 8), .int ((upd F 0 (0 : Int32)) 9), .long (J 10), .int ((upd F 0 (0 : Int32)) 11), .int ((upd F 0 (0 : Int32)) 12), .int ((upd F 0 (0 : Int32)) 13), .ref q4, .int ((upd F 0 (0 : Int32)) 15), .ref q5, .ref q6, .ref q7, .int ((upd F 0 (0 : Int32)) 19), .ref q8, .int ((upd F 0 (0 : Int32)) 21), .int ((upd F 0 (0 : Int32)) 22), .int ((upd F 0 (0 : Int32)) 23), .int ((upd F 0 (0 : Int32)) 24), .ref q9, .ref q10, .ref q11, .long (J 28)])), (q1, .inl (g.2 0, 376, .inl al))]) [0, 1] (by decide) rfl
    exact W.zret (v := (0 : Int32)) (ty := .boolean) hx hb hr rfl (fun t ht hW => ⟨⟨_, ((upd F 0 (0 : Int32)), al), rfl, hv, by rw [ht]; exact hP9, hD9⟩, hS.F ht⟩) hS.2.2 dX9_turn_30
  · have hv := hvf hc
    refine lv_iload_n hx hb dX9_turn_13 rfl (lv_at hl 2 rfl) ?_
    refine lv_iconst (v := (1 : Int32)) hx hb dX9_turn_14 (by decide) ?_
    refine lv_aload_n hx hb dX9_turn_15 rfl (lv_at hl 0 rfl) ?_
    refine lv_iload_n hx hb dX9_turn_16 rfl (lv_at hl 1 rfl) ?_
    refine lv_iconst (v := (0 : Int32)) hx hb dX9_turn_17 (by decide) ?_
    obtain ⟨p_18, w_18, ho_2, hv⟩ := hv
    refine vp_callSi (W.runV (As := [.int p1, .int (0 : Int32)]) (rest := [.int (1 : Int32), .int p2]) S (wX9_of l g qM q1 q2 q3 q4 q5 q6 q7 q8 q9 q10 q11 (upd F 0 (0 : Int32)) J al p1 (0 : Int32) (sX9_of p_18 w_18 (upd F 0 (0 : Int32)) J al p1 (0 : Int32) ho_2)) (cwV 2 hts gX9_turn_X9_of rfl rfl rfl (by decide +kernel) ⟨Nat.le_of_ble_eq_true rfl, Nat.le_of_ble_eq_true rfl⟩) ⟨blindRO, va_recv hK hP (ci := 9) (q0 := 0) rfl rfl, fun U hU hW => ⟨rfl, by rw [hU]; exact hP.sub (ws' := [(qM, .inr (9, [.int ((upd F 0 (0 : Int32)) 0), .ref q1, .ref q2, .ref q3, .int ((upd F 0 (0 : Int32)) 4), .int ((upd F 0 (0 : Int32)) 5), .int ((upd F 0 (0 : Int32)) 6), .int ((upd F 0 (0 : Int32)) 7), .int ((upd F 0 (0 : Int32)) 8), .int ((upd F 0 (0 : Int32)) 9), .long (J 10), .int ((upd F 0 (0 : Int32)) 11), .int ((upd F 0 (0 : Int32)) 12), .int ((upd F 0 (0 : Int32)) 13), .ref q4, .int ((upd F 0 (0 : Int32)) 15), .ref q5, .ref q6, .ref q7, .int ((upd F 0 (0 : Int32)) 19), .ref q8, .int ((upd F 0 (0 : Int32)) 21), .int ((upd F 0 (0 : Int32)) 22), .int ((upd F 0 (0 : Int32)) 23), .int ((upd F 0 (0 : Int32)) 24), .ref q9, .ref q10, .ref q11, .long (J 28)])), (q1, .inl (g.2 0, 376, .inl al))]) [0, 1] rfl, hG.warm hW⟩⟩ rfl rfl hl.1 rfl (lv_room (Nat.le_of_ble_eq_true rfl)) dX9_turn_18 ⟨Nat.le_of_ble_eq_true rfl, Nat.le_of_ble_eq_true rfl⟩) (fun r_18 hr_18 => ?_)
    have hv := hv r_18 hr_18
    refine lv_iconst (v := (1 : Int32)) hx hb dX9_turn_21 (by decide) ?_
    refine lv_isub hx hb dX9_turn_22 ?_
    obtain ⟨ho_3, hv⟩ := hv
    refine vp_callSi (W.runS (As := [.int p2, .int (1 : Int32), .int (r_18 - (1 : Int32))]) (rest := []) S (wX9_in l g p2 (1 : Int32) (r_18 - (1 : Int32)) (sX9_in p2 (1 : Int32) (r_18 - (1 : Int32)) ho_3)) (va_cwS 3 hts gX9_turn_X9_in rfl rfl rfl (by decide +kernel) ⟨Nat.le_of_ble_eq_true rfl, Nat.le_of_ble_eq_true rfl⟩) ⟨blindRO, fun U hU hW => ⟨rfl, by rw [hU]; exact hP.sub (ws' := []) [] rfl, hG.warm hW⟩⟩ rfl rfl hl.1 rfl (lv_room (Nat.le_of_ble_eq_true rfl)) dX9_turn_23 ⟨Nat.le_of_ble_eq_true rfl, Nat.le_of_ble_eq_true rfl⟩) (fun r_23 hr_23 => ?_)
    have hv := hv r_23 hr_23
    obtain ⟨hvt, hvf⟩ := hv
    refine lv_if_ne (tgt := 31) hx hb dX9_turn_26 (by decide) (fun hc => ?_) (fun hc => ?_)
    · have hv := hvt hc
      refine lv_aload_n hx hb dX9_turn_31 rfl (lv_at hl 0 rfl) ?_
      refine lv_iload_n hx hb dX9_turn_32 rfl (lv_at hl 1 rfl) ?_
      refine lv_iconst (v := (0 : Int32)) hx hb dX9_turn_33 (by decide) ?_
      obtain ⟨p_34, w_34, ho_4, hv⟩ := hv
      refine vp_callSi (W.runV (As := [.int p1, .int (0 : Int32)]) (rest := []) S (wX9_of l g qM q1 q2 q3 q4 q5 q6 q7 q8 q9 q10 q11 (upd F 0 (0 : Int32)) J al p1 (0 : Int32) (sX9_of p_34 w_34 (upd F 0 (0 : Int32)) J al p1 (0 : Int32) ho_4)) (cwV 2 hts gX9_turn_X9_of rfl rfl rfl (by decide +kernel) ⟨Nat.le_of_ble_eq_true rfl, Nat.le_of_ble_eq_true rfl⟩) ⟨blindRO, va_recv hK hP (ci := 9) (q0 := 0) rfl rfl, fun U hU hW => ⟨rfl, by rw [hU]; exact hP.sub (ws' := [(qM, .inr (9, [.int ((upd F 0 (0 : Int32)) 0), .ref q1, .ref q2, .ref q3, .int ((upd F 0 (0 : Int32)) 4), .int ((upd F 0 (0 : Int32)) 5), .int ((upd F 0 (0 : Int32)) 6), .int ((upd F 0 (0 : Int32)) 7), .int ((upd F 0 (0 : Int32)) 8), .int ((upd F 0 (0 : Int32)) 9), .long (J 10), .int ((upd F 0 (0 : Int32)) 11), .int ((upd F 0 (0 : Int32)) 12), .int ((upd F 0 (0 : Int32)) 13), .ref q4, .int ((upd F 0 (0 : Int32)) 15), .ref q5, .ref q6, .ref q7, .int ((upd F 0 (0 : Int32)) 19), .ref q8, .int ((upd F 0 (0 : Int32)) 21), .int ((upd F 0 (0 : Int32)) 22), .int ((upd F 0 (0 : Int32)) 23), .int ((upd F 0 (0 : Int32)) 24), .ref q9, .ref q10, .ref q11, .long (J 28)])), (q1, .inl (g.2 0, 376, .inl al))]) [0, 1] rfl, hG.warm hW⟩⟩ rfl rfl hl.1 rfl (lv_room (Nat.le_of_ble_eq_true rfl)) dX9_turn_34 ⟨Nat.le_of_ble_eq_true rfl, Nat.le_of_ble_eq_true rfl⟩) (fun r_34 hr_34 => ?_)
      have hv := hv r_34 hr_34
      refine lv_istore_n (lv' := [(3, .int r_34), (0, .ref qM), (1, .int p1), (2, .int p2)]) hx hb dX9_turn_37 rfl hl (by decide) rfl (fun ls hl => ?_)
      refine lv_iconst (v := (0 : Int32)) hx hb dX9_turn_38 (by decide) ?_
      refine lv_istore (lv' := [(4, .int (0 : Int32)), (3, .int r_34), (0, .ref qM), (1, .int p1), (2, .int p2)]) hx hb dX9_turn_39 hl (by decide) rfl (fun ls hl => ?_)
      refine lv_iconst (v := (0 : Int32)) hx hb dX9_turn_41 (by decide) ?_
      refine lv_istore (lv' := [(5, .int (0 : Int32)), (4, .int (0 : Int32)), (3, .int r_34), (0, .ref qM), (1, .int p1), (2, .int p2)]) hx hb dX9_turn_42 hl (by decide) rfl (fun ls hl => ?_)
      obtain ⟨nn, hv⟩ := hv
      exact kX9_turn_c44 S hr hlocks hG hA nn _ _ _ _ _ hv _ _ (hP.sub (ws' := [(qM, .inr (9, [.int ((upd F 0 (0 : Int32)) 0), .ref q1, .ref q2, .ref q3, .int ((upd F 0 (0 : Int32)) 4), .int ((upd F 0 (0 : Int32)) 5), .int ((upd F 0 (0 : Int32)) 6), .int ((upd F 0 (0 : Int32)) 7), .int ((upd F 0 (0 : Int32)) 8), .int ((upd F 0 (0 : Int32)) 9), .long (J 10), .int ((upd F 0 (0 : Int32)) 11), .int ((upd F 0 (0 : Int32)) 12), .int ((upd F 0 (0 : Int32)) 13), .ref q4, .int ((upd F 0 (0 : Int32)) 15), .ref q5, .ref q6, .ref q7, .int ((upd F 0 (0 : Int32)) 19), .ref q8, .int ((upd F 0 (0 : Int32)) 21), .int ((upd F 0 (0 : Int32)) 22), .int ((upd F 0 (0 : Int32)) 23), .int ((upd F 0 (0 : Int32)) 24), .ref q9, .ref q10, .ref q11, .long (J 28)])), (q1, .inl (g.2 0, 376, .inl al))]) [0, 1] rfl) (hD.sub (ws' := [(qM, .inr (9, [.int ((upd F 0 (0 : Int32)) 0), .ref q1, .ref q2, .ref q3, .int ((upd F 0 (0 : Int32)) 4), .int ((upd F 0 (0 : Int32)) 5), .int ((upd F 0 (0 : Int32)) 6), .int ((upd F 0 (0 : Int32)) 7), .int ((upd F 0 (0 : Int32)) 8), .int ((upd F 0 (0 : Int32)) 9), .long (J 10), .int ((upd F 0 (0 : Int32)) 11), .int ((upd F 0 (0 : Int32)) 12), .int ((upd F 0 (0 : Int32)) 13), .ref q4, .int ((upd F 0 (0 : Int32)) 15), .ref q5, .ref q6, .ref q7, .int ((upd F 0 (0 : Int32)) 19), .ref q8, .int ((upd F 0 (0 : Int32)) 21), .int ((upd F 0 (0 : Int32)) 22), .int ((upd F 0 (0 : Int32)) 23), .int ((upd F 0 (0 : Int32)) 24), .ref q9, .ref q10, .ref q11, .long (J 28)])), (q1, .inl (g.2 0, 376, .inl al))]) [0, 1] (by decide) rfl) hS ls (lv_sub hl [3, 4, 5, 2, 1, 0] rfl)
    · have hv := hvf hc
      refine lv_iconst (v := (0 : Int32)) hx hb dX9_turn_29 (by decide) ?_
      have hP9 := hP.sub (ws' := [(qM, .inr (9, [.int ((upd F 0 (0 : Int32)) 0), .ref q1, .ref q2, .ref q3, .int ((upd F 0 (0 : Int32)) 4), .int ((upd F 0 (0 : Int32)) 5), .int ((upd F 0 (0 : Int32)) 6), .int ((upd F 0 (0 : Int32)) 7), .int ((upd F 0 (0 : Int32)) 8), .int ((upd F 0 (0 : Int32)) 9), .long (J 10), .int ((upd F 0 (0 : Int32)) 11), .int ((upd F 0 (0 : Int32)) 12), .int ((upd F 0 (0 : Int32)) 13), .ref q4, .int ((upd F 0 (0 : Int32)) 15), .ref q5, .ref q6, .ref q7, .int ((upd F 0 (0 : Int32)) 19), .ref q8, .int ((upd F 0 (0 : Int32)) 21), .int ((upd F 0 (0 : Int32)) 22), .int ((upd F 0 (0 : Int32)) 23), .int ((upd F 0 (0 : Int32)) 24), .ref q9, .ref q10, .ref q11, .long (J 28)])), (q1, .inl (g.2 0, 376, .inl al))]) [0, 1] rfl
      have hD9 := hD.sub (ws' := [(qM, .inr (9, [.int ((upd F 0 (0 : Int32)) 0), .ref q1, .ref q2, .ref q3, .int ((upd F 0 (0 : Int32)) 4), .int ((upd F 0 (0 : Int32)) 5), .int ((upd F 0 (0 : Int32)) 6), .int ((upd F 0 (0 : Int32)) 7), .int ((upd F 0 (0 : Int32)) 8), .int ((upd F 0 (0 : Int32)) 9), .long (J 10), .int ((upd F 0 (0 : Int32)) 11), .int ((upd F 0 (0 : Int32)) 12), .int ((upd F 0 (0 : Int32)) 13), .ref q4, .int ((upd F 0 (0 : Int32)) 15), .ref q5, .ref q6, .ref q7, .int ((upd F 0 (0 : Int32)) 19), .ref q8, .int ((upd F 0 (0 : Int32)) 21), .int ((upd F 0 (0 : Int32)) 22), .int ((upd F 0 (0 : Int32)) 23), .int ((upd F 0 (0 : Int32)) 24), .ref q9, .ref q10, .ref q11, .long (J 28)])), (q1, .inl (g.2 0, 376, .inl al))]) [0, 1] (by decide) rfl
      exact W.zret (v := (0 : Int32)) (ty := .boolean) hx hb hr rfl (fun t ht hW => ⟨⟨_, ((upd F 0 (0 : Int32)), al), rfl, hv, by rw [ht]; exact hP9, hD9⟩, hS.F ht⟩) hS.2.2 dX9_turn_30
theorem mT_wR {T : Cd} {al : Nat → Int32} (h : mT T al) {p R : Nat} (hp : p < cn T) (hR : R < 2 ^ cL T p) {x : Int32} (hx : x.toInt = (R : Int)) : mT (wR T p R) (upd al (5 + 3 * p + 2) x) := by
  have hn := h.1.2
  refine ⟨?_, fun q hq => ?_, fun q hq => ?_, fun q hq => ?_⟩
  · rw [upd_ne (by omega)]; exact h.1
  · show (upd al _ _ (5 + 3 * q)).toInt = _ ∧ _
    rw [upd_ne (by omega)]; exact h.2.1 q hq
  · show (upd al _ _ (6 + 3 * q)).toInt = _ ∧ _
    rw [upd_ne (by omega)]; exact h.2.2.1 q hq
  · show (upd al _ _ (7 + 3 * q)).toInt = ((if q = p then R else cR T q : Nat) : Int) ∧ (if q = p then R else cR T q) < 2 ^ cL T q
    by_cases e : q = p
    · subst e; rw [show 7 + 3 * q = 5 + 3 * q + 2 by omega, upd_eq, if_pos rfl]; exact ⟨hx, hR⟩
    · rw [upd_ne (by omega), if_neg e]; exact h.2.2.2 q hq
theorem sX9_turn_44 (T : Cd) (G0 G1 : Lg) (lim p b : Nat) (F : Nat → Int32) (J : Nat → Int64) (al : Nat → Int32) (p1 : Int32) (p2 : Int32) (H : fcR T G0 G1 lim al) (hp : p < cn T) (e1 : p1.toInt = (p : Int)) (hb1 : 1 ≤ b) (hbL : b < cL T p) (e2 : p2.toInt = (b : Int)) (Q : Int32 → (Nat → Int32) → (Nat → Int32) → Prop) (hQ : ∀ x : Int32, x.toInt = (trX (cR T p) (cL T p) b : Int) → Q (1 : Int32) F (upd al (5 + 3 * p + 2) x)) (x3 : Int32) (h3 : x3.toInt = (cL T p : Int)) : ∀ (n i : Nat) (x4 x5 : Int32), x5.toInt = (i : Int) → (∀ j, j < 32 → bt x4 j = (decide (j < cL T p) && ((cR T p).testBit ((j + cL T p - b) % cL T p) && decide ((j + cL T p - b) % cL T p < i)))) → i ≤ cL T p → cL T p + 1 ≤ i + n → vX9_turn_c44 J p1 p2 Q n x3 x4 x5 F al
  | 0, i, x4, x5, _, _, hi, hn => absurd hn (by omega)
  | n + 1, i, x4, x5, h5, h4, hi, hn => by
    obtain ⟨hT, h0, h1, hlim, hl9, hl1⟩ := id H
    have hn5 := hT.1.2
    have hl := mT_L hT hp
    have hr0 := mT_R hT hp
    rw [vX9_turn_c44, q_le h3 h5]
    refine ⟨fun hc => ⟨p, 2, ⟨e1, rfl, by omega⟩, fun al2 ha => ?_⟩, fun hc => ⟨p, 2, ⟨e1, rfl, by omega⟩, fun r hr => ?_⟩⟩
    · have : i = cL T p := by omega
      subst this
      have ha : al2 = upd al (5 + 3 * p + 2) x4 := ha
      rw [ha]
      have hpl := p13_le (k := cL T p) (by omega)
      have htl := trN_lt (fun j => (cR T p).testBit ((j + cL T p - b) % cL T p)) (cL T p)
      refine hQ _ (nI_bits (by show trN _ _ < _; omega) (fun j hj => ?_))
      show _ = (trN (fun j => (cR T p).testBit ((j + cL T p - b) % cL T p)) (cL T p)).testBit j
      rw [h4 j hj, trN_bit, decide_eq_true (Nat.mod_lt (j + cL T p - b) (show 0 < cL T p by omega)), Bool.and_true]
    · have hr : r.toInt = (cR T p : Int) := by rw [hr]; exact hr0.1
      refine ⟨cR T p, i, ⟨hr, h5, by omega⟩, fun r2 hr2 => ?_⟩
      have hr2 : r2 = if (cR T p).testBit i then 1 else 0 := hr2
      have h5s := q_1 h5 (by omega)
      rw [hr2]
      cases hbit : (cR T p).testBit i with
      | false =>
        refine ⟨fun _ => sX9_turn_44 T G0 G1 lim p b F J al p1 p2 H hp e1 hb1 hbL e2 Q hQ x3 h3 n (i + 1) _ _ h5s (fun j hj => ?_) (by omega) (by omega), fun q => absurd rfl q⟩
        rw [Int32.or_zero, h4 j hj]
        by_cases e : (j + cL T p - b) % cL T p = i
        · rw [e, hbit]; rfl
        · congr 2
          by_cases z : (j + cL T p - b) % cL T p < i
          · rw [decide_eq_true z, decide_eq_true (by omega)]
          · rw [decide_eq_false z, decide_eq_false (by omega)]
      | true =>
        refine ⟨fun q => absurd q (by decide), fun _ => ⟨by rw [fa_eq, z0]; omega, fun y hy => ?_⟩⟩
        have hm := q_remN (q_addN h5 e2 (by omega)) h3 (by omega)
        have hmd := md_c (L := cL T p) (x := i + b) (by omega)
        have hml := Nat.mod_lt (i + b) (show 0 < cL T p by omega)
        refine sX9_turn_44 T G0 G1 lim p b F J al p1 p2 H hp e1 hb1 hbL e2 Q hQ x3 h3 n (i + 1) _ _ h5s (fun j hj => ?_) (by omega) (by omega)
        have hj2 : j < cL T p → ((j + cL T p - b) % cL T p = i ↔ j = (i + b) % cL T p) := fun hjl => by
          have hmj := md_c (L := cL T p) (x := j + cL T p - b) (by omega)
          rw [hmj, hmd]
          split <;> split <;> omega
        rw [hy, b_or, h4 j hj, q_eqN hm, b_shl _ (by omega) 1 hj, bt_1]
        by_cases hjl : j < cL T p
        · rw [decide_eq_true hjl, Bool.true_and, Bool.true_and]
          by_cases e : (j + cL T p - b) % cL T p = i
          · have e3 := (hj2 hjl).mp e
            rw [e, hbit, ← e3, decide_eq_true (Nat.le_refl j), Nat.sub_self, decide_eq_true rfl, decide_eq_true (show i < i + 1 by omega), decide_eq_false (show ¬ i < i by omega)]; rfl
          · have hne : ¬ j = (i + b) % cL T p := fun z => e ((hj2 hjl).mpr z)
            have hzz : (decide ((i + b) % cL T p ≤ j) && decide (j - (i + b) % cL T p = 0)) = false := by
              by_cases z : (i + b) % cL T p ≤ j
              · rw [decide_eq_false (p := j - (i + b) % cL T p = 0) (by omega), Bool.and_false]
              · rw [decide_eq_false z]; rfl
            rw [hzz, Bool.or_false]
            by_cases z : (j + cL T p - b) % cL T p < i
            · rw [decide_eq_true z, decide_eq_true (show (j + cL T p - b) % cL T p < i + 1 by omega)]
            · rw [decide_eq_false z, decide_eq_false (show ¬ (j + cL T p - b) % cL T p < i + 1 by omega)]
        · have hzz : (decide ((i + b) % cL T p ≤ j) && decide (j - (i + b) % cL T p = 0)) = false := by
            rw [decide_eq_false (p := j - (i + b) % cL T p = 0) (by omega), Bool.and_false]
          rw [decide_eq_false hjl, hzz]; rfl
abbrev preX9_turn (T : Cd) (G0 : Lg) (G1 : Lg) (lim : Nat) (F : Nat → Int32) (J : Nat → Int64) (al : Nat → Int32) (p1 : Int32) (p2 : Int32) : Prop := fcR T G0 G1 lim al
abbrev postX9_turn (T : Cd) (G0 : Lg) (G1 : Lg) (lim : Nat) (F : Nat → Int32) (J : Nat → Int64) (al : Nat → Int32) (p1 : Int32) (p2 : Int32) (r : Int32) (F' : Nat → Int32) (al' : Nat → Int32) : Prop := r.toInt = spTurn T p1.toInt p2.toInt ∧ fcR (nxTurn T p1.toInt p2.toInt) G0 G1 lim al' ∧ kpA al al'
theorem sX9_turn (T : Cd) (G0 : Lg) (G1 : Lg) (lim : Nat) (F : Nat → Int32) (J : Nat → Int64) (al : Nat → Int32) (p1 : Int32) (p2 : Int32) (H : preX9_turn T G0 G1 lim F J al p1 p2) : vX9_turn F J al p1 p2 (postX9_turn T G0 G1 lim F J al p1 p2) := by
  obtain ⟨hT, h0, h1, hlim, hl9, hl1⟩ := id H
  have hn5 := hT.1.2
  have no : ¬ ((0 ≤ p1.toInt ∧ p1.toInt < (cn T : Int)) ∧ 1 ≤ p2.toInt ∧ p2.toInt < (cL T p1.toInt.toNat : Int)) → (0 : Int32).toInt = spTurn T p1.toInt p2.toInt ∧ fcR (nxTurn T p1.toInt p2.toInt) G0 G1 lim al ∧ kpA al al := fun q => by
    unfold spTurn nxTurn
    rw [if_neg q, if_neg q]; exact ⟨rfl, H, kpA_rf al⟩
  refine ⟨cn T, hT.1.1, fun r hr => ?_⟩
  have hr : r = if 0 ≤ p1.toInt ∧ p1.toInt < (cn T : Int) then 1 else 0 := hr
  rw [hr, q_if1]
  refine ⟨fun a => no (fun q => a q.1), fun a => ?_⟩
  have a := Decidable.not_not.mp a
  have e : p1.toInt = (p1.toInt.toNat : Int) := by omega
  have hp : p1.toInt.toNat < cn T := by omega
  have hl := mT_L hT hp
  refine ⟨p1.toInt.toNat, 0, ⟨e, rfl, by omega⟩, fun r2 hr2 => ⟨trivial, fun r3 hr3 => ?_⟩⟩
  have hr2 : r2.toInt = (cL T p1.toInt.toNat : Int) := by rw [hr2]; exact hl.1
  have h21 : (r2 - (1 : Int32)).toInt = (cL T p1.toInt.toNat : Int) - 1 := q_sub hr2 z1 (by omega) (by omega)
  have hr3 : r3 = if 1 ≤ p2.toInt ∧ p2.toInt ≤ (cL T p1.toInt.toNat : Int) - 1 then 1 else 0 := by rw [← h21]; exact hr3
  rw [hr3, q_if1]
  refine ⟨fun b => ⟨p1.toInt.toNat, 0, ⟨e, rfl, by omega⟩, fun r4 hr4 => ?_⟩, fun b => no (fun q => b ⟨q.2.1, by omega⟩)⟩
  have b := Decidable.not_not.mp b
  have hr4 : r4.toInt = (cL T p1.toInt.toNat : Int) := by rw [hr4]; exact hl.1
  refine ⟨14, sX9_turn_44 T G0 G1 lim p1.toInt.toNat p2.toInt.toNat (upd F 0 (0 : Int32)) J al p1 p2 H hp e (by omega) (by omega) (by omega) _ (fun x hx => ?_) r4 hr4 14 0 0 0 rfl (fun j hj => ?_) (by omega) (by omega)⟩
  · have hc : (0 ≤ p1.toInt ∧ p1.toInt < (cn T : Int)) ∧ 1 ≤ p2.toInt ∧ p2.toInt < (cL T p1.toInt.toNat : Int) := ⟨a, b.1, by omega⟩
    unfold postX9_turn spTurn nxTurn
    rw [if_pos hc, if_pos hc]
    exact ⟨rfl, ⟨mT_wR hT hp (trN_lt _ _) hx, mG_ne h0 (by omega) _, mG_ne h1 (by omega) _, by rw [upd_ne (by omega)]; exact hlim, hl9, hl1⟩, kpA_up (by omega)⟩
  · rw [b_0, decide_eq_false (show ¬ (j + cL T p1.toInt.toNat - p2.toInt.toNat) % cL T p1.toInt.toNat < 0 by omega), Bool.and_false, Bool.and_false]
set_option maxRecDepth 20000 in
theorem ggX9_swap_X9_isPart : GoodIn wsX9_swap wsX9_isPart := goodIn_r _ [6, 7, 8, 9, 5, 10, 19, 20, 21, 22, 23, 24, 25, 26, 27, 28, 29, 30, 31, 32, 33, 34, 35, 36, 37, 38, 39, 40, 41, 42, 43, 44, 45, 46, 47] (by decide +kernel) (by decide +kernel)
set_option maxRecDepth 20000 in
theorem gX9_swap_X9_isPart : GoodIn wsX9_swap (wsV RX9 192 RX9 yX9_isPart wsX9_isPart) := goodIn_app (goodIn_of _ (by decide +kernel)) ggX9_swap_X9_isPart
set_option maxRecDepth 20000 in
theorem ggX9_swap_X9_of : GoodIn wsX9_swap wsX9_of := goodIn_r _ [14, 7, 19, 20, 21, 22, 23, 24, 25, 26, 27, 28, 29, 30, 31, 32, 33, 34, 35, 36, 37, 38, 39, 40, 41, 42, 43, 44, 45, 46, 47] (by decide +kernel) (by decide +kernel)
set_option maxRecDepth 20000 in
theorem gX9_swap_X9_of : GoodIn wsX9_swap (wsV RX9 195 RX9 yX9_of wsX9_of) := goodIn_app (goodIn_of _ (by decide +kernel)) ggX9_swap_X9_of
set_option maxRecDepth 20000 in
theorem ggX9_swap_X9_lays : GoodIn wsX9_swap wsX9_lays := goodIn_r _ [18, 7, 19, 20, 21, 22, 23, 24, 25, 26, 27, 28, 29, 30, 31, 32, 33, 34, 35, 36, 37, 38, 39, 40, 41, 42, 43, 44, 45, 46, 47] (by decide +kernel) (by decide +kernel)
set_option maxRecDepth 20000 in
theorem gX9_swap_X9_lays : GoodIn wsX9_swap (wsV RX9 198 RX9 yX9_lays wsX9_lays) := goodIn_app (goodIn_of _ (by decide +kernel)) ggX9_swap_X9_lays
theorem dX9_swap_0 : decode cX9_swap 0 = .ok (.aload_n 0, 1) := by decide +kernel
theorem dX9_swap_1 : decode cX9_swap 1 = .ok (.iconst 0, 1) := by decide +kernel
theorem dX9_swap_2 : decode cX9_swap 2 = .ok (.putfield 51, 3) := by decide +kernel
theorem dX9_swap_5 : decode cX9_swap 5 = .ok (.aload_n 0, 1) := by decide +kernel
theorem dX9_swap_6 : decode cX9_swap 6 = .ok (.iload_n 1, 1) := by decide +kernel
theorem dX9_swap_7 : decode cX9_swap 7 = .ok (.invokevirtual 192, 3) := by decide +kernel
theorem dX9_swap_10 : decode cX9_swap 10 = .ok (.ifCond .eq 16, 3) := by decide +kernel
theorem dX9_swap_13 : decode cX9_swap 13 = .ok (.aload_n 0, 1) := by decide +kernel
theorem dX9_swap_14 : decode cX9_swap 14 = .ok (.iload_n 2, 1) := by decide +kernel
theorem dX9_swap_15 : decode cX9_swap 15 = .ok (.invokevirtual 192, 3) := by decide +kernel
theorem dX9_swap_18 : decode cX9_swap 18 = .ok (.ifCond .eq 8, 3) := by decide +kernel
theorem dX9_swap_21 : decode cX9_swap 21 = .ok (.iload_n 1, 1) := by decide +kernel
theorem dX9_swap_22 : decode cX9_swap 22 = .ok (.iload_n 2, 1) := by decide +kernel
theorem dX9_swap_23 : decode cX9_swap 23 = .ok (.if_icmp .ne 5, 3) := by decide +kernel
theorem dX9_swap_26 : decode cX9_swap 26 = .ok (.iconst 0, 1) := by decide +kernel
theorem dX9_swap_27 : decode cX9_swap 27 = .ok (.ireturn, 1) := by decide +kernel
theorem dX9_swap_28 : decode cX9_swap 28 = .ok (.iconst 0, 1) := by decide +kernel
theorem dX9_swap_29 : decode cX9_swap 29 = .ok (.istore_n 3, 1) := by decide +kernel
theorem dX9_swap_30 : decode cX9_swap 30 = .ok (.iload_n 3, 1) := by decide +kernel
theorem dX9_swap_31 : decode cX9_swap 31 = .ok (.iconst 3, 1) := by decide +kernel
theorem dX9_swap_32 : decode cX9_swap 32 = .ok (.if_icmp .ge 37, 3) := by decide +kernel
theorem dX9_swap_35 : decode cX9_swap 35 = .ok (.aload_n 0, 1) := by decide +kernel
theorem dX9_swap_36 : decode cX9_swap 36 = .ok (.iload_n 1, 1) := by decide +kernel
theorem dX9_swap_37 : decode cX9_swap 37 = .ok (.iload_n 3, 1) := by decide +kernel
theorem dX9_swap_38 : decode cX9_swap 38 = .ok (.invokevirtual 195, 3) := by decide +kernel
theorem dX9_swap_41 : decode cX9_swap 41 = .ok (.istore 4, 2) := by decide +kernel
theorem dX9_swap_43 : decode cX9_swap 43 = .ok (.aload_n 0, 1) := by decide +kernel
theorem dX9_swap_44 : decode cX9_swap 44 = .ok (.iload_n 1, 1) := by decide +kernel
theorem dX9_swap_45 : decode cX9_swap 45 = .ok (.iload_n 3, 1) := by decide +kernel
theorem dX9_swap_46 : decode cX9_swap 46 = .ok (.aload_n 0, 1) := by decide +kernel
theorem dX9_swap_47 : decode cX9_swap 47 = .ok (.iload_n 2, 1) := by decide +kernel
theorem dX9_swap_48 : decode cX9_swap 48 = .ok (.iload_n 3, 1) := by decide +kernel
theorem dX9_swap_49 : decode cX9_swap 49 = .ok (.invokevirtual 195, 3) := by decide +kernel
theorem dX9_swap_52 : decode cX9_swap 52 = .ok (.invokevirtual 198, 3) := by decide +kernel
theorem dX9_swap_55 : decode cX9_swap 55 = .ok (.aload_n 0, 1) := by decide +kernel
theorem dX9_swap_56 : decode cX9_swap 56 = .ok (.iload_n 2, 1) := by decide +kernel
theorem dX9_swap_57 : decode cX9_swap 57 = .ok (.iload_n 3, 1) := by decide +kernel
theorem dX9_swap_58 : decode cX9_swap 58 = .ok (.iload 4, 2) := by decide +kernel
theorem dX9_swap_60 : decode cX9_swap 60 = .ok (.invokevirtual 198, 3) := by decide +kernel
theorem dX9_swap_63 : decode cX9_swap 63 = .ok (.iinc 3 1, 3) := by decide +kernel
theorem dX9_swap_66 : decode cX9_swap 66 = .ok (.goto (-36), 3) := by decide +kernel
theorem dX9_swap_69 : decode cX9_swap 69 = .ok (.iconst 1, 1) := by decide +kernel
theorem dX9_swap_70 : decode cX9_swap 70 = .ok (.ireturn, 1) := by decide +kernel
abbrev rmX9_swap : Room := { frames := 2, cells := 0, slots := 0, locals := 43 }
theorem inX9_swap_9 : ∀ w ∈ wsX90, w ∈ wsX9_swap := by decide +kernel
def vX9_swap_c30 (J : Nat → Int64) (p1 : Int32) (p2 : Int32) (Q : Int32 → (Nat → Int32) → (Nat → Int32) → Prop) : Nat → Int32 → (Nat → Int32) → (Nat → Int32) → Prop
  | 0, _, _, _ => False
  | n + 1, x3, F, al => (((3 : Int32) ≤ x3 → (Q (1 : Int32) F al)) ∧ (¬ (3 : Int32) ≤ x3 → (∃ (p_38 : Nat) (w_38 : Nat), preX9_of p_38 w_38 F J al p1 x3 ∧ (∀ r_38 : Int32, postX9_of p_38 w_38 F J al p1 x3 r_38 → (∃ (p_49 : Nat) (w_49 : Nat), preX9_of p_49 w_49 F J al p2 x3 ∧ (∀ r_49 : Int32, postX9_of p_49 w_49 F J al p2 x3 r_49 → (∃ (p_52 : Nat) (w_52 : Nat), preX9_lays p_52 w_52 F J al p1 x3 r_49 ∧ (∀ (al_52 : Nat → Int32), postX9_lays p_52 w_52 F J al p1 x3 r_49 al_52 → (∃ (p_60 : Nat) (w_60 : Nat), preX9_lays p_60 w_60 F J al_52 p2 x3 r_38 ∧ (∀ (al_60 : Nat → Int32), postX9_lays p_60 w_60 F J al_52 p2 x3 r_38 al_60 → (vX9_swap_c30 J p1 p2 Q n (x3 + (1 : Int32)) F al_60)))))))))))
set_option maxHeartbeats 4000000 in
set_option maxRecDepth 100000 in
theorem kX9_swap_c30 {p : Program} {l : Launch} {e : Env} {s : State} {m : MethodId} {args : Array Value} {below : List Frame} {meth : Method} {c : Code} {g : GP} {qM : Nat} {q1 : Nat} {q2 : Nat} {q3 : Nat} {q4 : Nat} {q5 : Nat} {q6 : Nat} {q7 : Nat} {q8 : Nat} {q9 : Nat} {q10 : Nat} {q11 : Nat} {J : Nat → Int64} {p1 : Int32} {p2 : Int32} {Q : Int32 → (Nat → Int32) → (Nat → Int32) → Prop} {A : Nat → Prop} (S : CallFix p m c cX9_swap 5 s args wsX9_swap RX9) (hr : meth.sig.returnType = (some .boolean)) (hlocks : meth.locks = false) (hG : GK g s) (hA : ∀ q : Nat, s.heap.size ≤ q → A q) : ∀ (n : Nat), ∀ (x3 : Int32) (F : Nat → Int32) (al : Nat → Int32), vX9_swap_c30 J p1 p2 Q n x3 F al → ∀ (H : Heap) (locs : List Loc), va_P g.1 vwCl [(qM, .inr (9, [.int (F 0), .ref q1, .ref q2, .ref q3, .int (F 4), .int (F 5), .int (F 6), .int (F 7), .int (F 8), .int (F 9), .long (J 10), .int (F 11), .int (F 12), .int (F 13), .ref q4, .int (F 15), .ref q5, .ref q6, .ref q7, .int (F 19), .ref q8, .int (F 21), .int (F 22), .int (F 23), .int (F 24), .ref q9, .ref q10, .ref q11, .long (J 28)])), (q1, .inl (g.2 0, 376, .inl al))] H → va_D A [(qM, .inr (9, [.int (F 0), .ref q1, .ref q2, .ref q3, .int (F 4), .int (F 5), .int (F 6), .int (F 7), .int (F 8), .int (F 9), .long (J 10), .int (F 11), .int (F 12), .int (F 13), .ref q4, .int (F 15), .ref q5, .ref q6, .ref q7, .int (F 19), .ref q8, .int (F 21), .int (F 22), .int (F 23), .int (F 24), .ref q9, .ref q10, .ref q11, .long (J 28)])), (q1, .inl (g.2 0, 376, .inl al))] → va_S A s.heap H locs → ∀ (ls : Array Slot), lv_has ls 5 [(0, .ref qM), (1, .int p1), (2, .int p2), (3, .int x3)] → W p l e (headSpec wsX9_swap rmX9_swap).room s m args below meth c H locs 0 0 (MQ below (va_Qi (fun (r : Int32) (u : (Nat → Int32) × (Nat → Int32)) => Q r u.1 u.2) (fun (u : (Nat → Int32) × (Nat → Int32)) t => va_P g.1 vwCl [(qM, .inr (9, [.int (u.1 0), .ref q1, .ref q2, .ref q3, .int (u.1 4), .int (u.1 5), .int (u.1 6), .int (u.1 7), .int (u.1 8), .int (u.1 9), .long (J 10), .int (u.1 11), .int (u.1 12), .int (u.1 13), .ref q4, .int (u.1 15), .ref q5, .ref q6, .ref q7, .int (u.1 19), .ref q8, .int (u.1 21), .int (u.1 22), .int (u.1 23), .int (u.1 24), .ref q9, .ref q10, .ref q11, .long (J 28)])), (q1, .inl (g.2 0, 376, .inl u.2))] t.heap ∧ va_D A [(qM, .inr (9, [.int (u.1 0), .ref q1, .ref q2, .ref q3, .int (u.1 4), .int (u.1 5), .int (u.1 6), .int (u.1 7), .int (u.1 8), .int (u.1 9), .long (J 10), .int (u.1 11), .int (u.1 12), .int (u.1 13), .ref q4, .int (u.1 15), .ref q5, .ref q6, .ref q7, .int (u.1 19), .ref q8, .int (u.1 21), .int (u.1 22), .int (u.1 23), .int (u.1 24), .ref q9, .ref q10, .ref q11, .long (J 28)])), (q1, .inl (g.2 0, 376, .inl u.2))]) A) args s 0 0 A) (F0 m 30 ls []) := by
  obtain ⟨hx, hb, hml, hown, hts⟩ := id S
  have hK := hG.1
  intro n
  induction n with
  | zero => intro x3 F al hv; exact hv.elim
  | succ n ih =>
    intro x3 F al hv H locs hP hD hS ls hl
    refine lv_iload_n hx hb dX9_swap_30 rfl (lv_at hl 3 rfl) ?_
    refine lv_iconst (v := (3 : Int32)) hx hb dX9_swap_31 (by decide) ?_
    obtain ⟨hvt, hvf⟩ := hv
    refine lv_icmp_ge (tgt := 69) hx hb dX9_swap_32 (by decide) (fun hc => ?_) (fun hc => ?_)
    · have hv := hvt hc
      refine lv_iconst (v := (1 : Int32)) hx hb dX9_swap_69 (by decide) ?_
      have hP9 := hP.sub (ws' := [(qM, .inr (9, [.int (F 0), .ref q1, .ref q2, .ref q3, .int (F 4), .int (F 5), .int (F 6), .int (F 7), .int (F 8), .int (F 9), .long (J 10), .int (F 11), .int (F 12), .int (F 13), .ref q4, .int (F 15), .ref q5, .ref q6, .ref q7, .int (F 19), .ref q8, .int (F 21), .int (F 22), .int (F 23), .int (F 24), .ref q9, .ref q10, .ref q11, .long (J 28)])), (q1, .inl (g.2 0, 376, .inl al))]) [0, 1] rfl
      have hD9 := hD.sub (ws' := [(qM, .inr (9, [.int (F 0), .ref q1, .ref q2, .ref q3, .int (F 4), .int (F 5), .int (F 6), .int (F 7), .int (F 8), .int (F 9), .long (J 10), .int (F 11), .int (F 12), .int (F 13), .ref q4, .int (F 15), .ref q5, .ref q6, .ref q7, .int (F 19), .ref q8, .int (F 21), .int (F 22), .int (F 23), .int (F 24), .ref q9, .ref q10, .ref q11, .long (J 28)])), (q1, .inl (g.2 0, 376, .inl al))]) [0, 1] (by decide) rfl
      exact W.zret (v := (1 : Int32)) (ty := .boolean) hx hb hr rfl (fun t ht hW => ⟨⟨_, (F, al), rfl, hv, by rw [ht]; exact hP9, hD9⟩, hS.F ht⟩) hS.2.2 dX9_swap_70
    · have hv := hvf hc
      refine lv_aload_n hx hb dX9_swap_35 rfl (lv_at hl 0 rfl) ?_
      refine lv_iload_n hx hb dX9_swap_36 rfl (lv_at hl 1 rfl) ?_
      refine lv_iload_n hx hb dX9_swap_37 rfl (lv_at hl 3 rfl) ?_
      obtain ⟨p_38, w_38, ho_1, hv⟩ := hv
      refine vp_callSi (W.runV (As := [.int p1, .int x3]) (rest := []) S (wX9_of l g qM q1 q2 q3 q4 q5 q6 q7 q8 q9 q10 q11 F J al p1 x3 (sX9_of p_38 w_38 F J al p1 x3 ho_1)) (cwV 2 hts gX9_swap_X9_of rfl rfl rfl (by decide +kernel) ⟨Nat.le_of_ble_eq_true rfl, Nat.le_of_ble_eq_true rfl⟩) ⟨blindRO, va_recv hK hP (ci := 9) (q0 := 0) rfl rfl, fun U hU hW => ⟨rfl, by rw [hU]; exact hP.sub (ws' := [(qM, .inr (9, [.int (F 0), .ref q1, .ref q2, .ref q3, .int (F 4), .int (F 5), .int (F 6), .int (F 7), .int (F 8), .int (F 9), .long (J 10), .int (F 11), .int (F 12), .int (F 13), .ref q4, .int (F 15), .ref q5, .ref q6, .ref q7, .int (F 19), .ref q8, .int (F 21), .int (F 22), .int (F 23), .int (F 24), .ref q9, .ref q10, .ref q11, .long (J 28)])), (q1, .inl (g.2 0, 376, .inl al))]) [0, 1] rfl, hG.warm hW⟩⟩ rfl rfl hl.1 rfl (lv_room (Nat.le_of_ble_eq_true rfl)) dX9_swap_38 ⟨Nat.le_of_ble_eq_true rfl, Nat.le_of_ble_eq_true rfl⟩) (fun r_38 hr_38 => ?_)
      have hv := hv r_38 hr_38
      refine lv_istore (lv' := [(4, .int r_38), (0, .ref qM), (1, .int p1), (2, .int p2), (3, .int x3)]) hx hb dX9_swap_41 hl (by decide) rfl (fun ls hl => ?_)
      refine lv_aload_n hx hb dX9_swap_43 rfl (lv_at hl 1 rfl) ?_
      refine lv_iload_n hx hb dX9_swap_44 rfl (lv_at hl 2 rfl) ?_
      refine lv_iload_n hx hb dX9_swap_45 rfl (lv_at hl 4 rfl) ?_
      refine lv_aload_n hx hb dX9_swap_46 rfl (lv_at hl 1 rfl) ?_
      refine lv_iload_n hx hb dX9_swap_47 rfl (lv_at hl 3 rfl) ?_
      refine lv_iload_n hx hb dX9_swap_48 rfl (lv_at hl 4 rfl) ?_
      obtain ⟨p_49, w_49, ho_2, hv⟩ := hv
      refine vp_callSi (W.runV (As := [.int p2, .int x3]) (rest := [.int x3, .int p1, .ref qM]) S (wX9_of l g qM q1 q2 q3 q4 q5 q6 q7 q8 q9 q10 q11 F J al p2 x3 (sX9_of p_49 w_49 F J al p2 x3 ho_2)) (cwV 2 hts gX9_swap_X9_of rfl rfl rfl (by decide +kernel) ⟨Nat.le_of_ble_eq_true rfl, Nat.le_of_ble_eq_true rfl⟩) ⟨blindRO, va_recv hK hP (ci := 9) (q0 := 0) rfl rfl, fun U hU hW => ⟨rfl, by rw [hU]; exact hP.sub (ws' := [(qM, .inr (9, [.int (F 0), .ref q1, .ref q2, .ref q3, .int (F 4), .int (F 5), .int (F 6), .int (F 7), .int (F 8), .int (F 9), .long (J 10), .int (F 11), .int (F 12), .int (F 13), .ref q4, .int (F 15), .ref q5, .ref q6, .ref q7, .int (F 19), .ref q8, .int (F 21), .int (F 22), .int (F 23), .int (F 24), .ref q9, .ref q10, .ref q11, .long (J 28)])), (q1, .inl (g.2 0, 376, .inl al))]) [0, 1] rfl, hG.warm hW⟩⟩ rfl rfl hl.1 rfl (lv_room (Nat.le_of_ble_eq_true rfl)) dX9_swap_49 ⟨Nat.le_of_ble_eq_true rfl, Nat.le_of_ble_eq_true rfl⟩) (fun r_49 hr_49 => ?_)
      have hv := hv r_49 hr_49
      obtain ⟨p_52, w_52, ho_3, hv⟩ := hv
      have hPc := hP.sub (ws' := [(qM, .inr (9, [.int (F 0), .ref q1, .ref q2, .ref q3, .int (F 4), .int (F 5), .int (F 6), .int (F 7), .int (F 8), .int (F 9), .long (J 10), .int (F 11), .int (F 12), .int (F 13), .ref q4, .int (F 15), .ref q5, .ref q6, .ref q7, .int (F 19), .ref q8, .int (F 21), .int (F 22), .int (F 23), .int (F 24), .ref q9, .ref q10, .ref q11, .long (J 28)])), (q1, .inl (g.2 0, 376, .inl al))]) [0, 1] rfl
      have hDc := hD.sub (ws' := [(qM, .inr (9, [.int (F 0), .ref q1, .ref q2, .ref q3, .int (F 4), .int (F 5), .int (F 6), .int (F 7), .int (F 8), .int (F 9), .long (J 10), .int (F 11), .int (F 12), .int (F 13), .ref q4, .int (F 15), .ref q5, .ref q6, .ref q7, .int (F 19), .ref q8, .int (F 21), .int (F 22), .int (F 23), .int (F 24), .ref q9, .ref q10, .ref q11, .long (J 28)])), (q1, .inl (g.2 0, 376, .inl al))]) [0, 1] (by decide) rfl
      have hFc := va_free (wc := [(qM, .inr (9, [.int (F 0), .ref q1, .ref q2, .ref q3, .int (F 4), .int (F 5), .int (F 6), .int (F 7), .int (F 8), .int (F 9), .long (J 10), .int (F 11), .int (F 12), .int (F 13), .ref q4, .int (F 15), .ref q5, .ref q6, .ref q7, .int (F 19), .ref q8, .int (F 21), .int (F 22), .int (F 23), .int (F 24), .ref q9, .ref q10, .ref q11, .long (J 28)])), (q1, .inl (g.2 0, 376, .inl al))]) hD hS hA [0, 1] rfl
      refine va_callv (va_runV (As := [.int p1, .int x3, .int r_49]) (rest := []) S (wX9_lays l g qM q1 q2 q3 q4 q5 q6 q7 q8 q9 q10 q11 H.size F J al p1 x3 r_49 (sX9_lays p_52 w_52 F J al p1 x3 r_49 ho_3)) (cwV 3 hts gX9_swap_X9_lays rfl rfl rfl (by decide +kernel) ⟨Nat.le_of_ble_eq_true rfl, Nat.le_of_ble_eq_true rfl⟩) ⟨blindRW, va_recv hK hP (ci := 9) (q0 := 0) rfl rfl, fun U hU hW => ⟨rfl, by rw [hU], by rw [hU]; exact hPc, hG.warm hW, hDc.weaken (fun _ _ _ _ => trivial)⟩⟩ rfl rfl hl.1 rfl (lv_room (Nat.le_of_ble_eq_true rfl)) dX9_swap_52 ⟨Nat.le_of_ble_eq_true rfl, Nat.le_of_ble_eq_true rfl⟩) hS (fun q _ h => hFc q h) hFc (fun u t H1 locs ht hvm hw hB hz1 hk1 hS => ?_)
      obtain ⟨al_52, rfl⟩ : ∃ z, z = u := ⟨_, rfl⟩
      obtain ⟨hP1, hD1⟩ := hB
      rw [ht] at hP1
      have hv := hv al_52 hw
      obtain ⟨hP, hD⟩ := va_join (wr := []) (w1 := [(qM, .inr (9, [.int (F 0), .ref q1, .ref q2, .ref q3, .int (F 4), .int (F 5), .int (F 6), .int (F 7), .int (F 8), .int (F 9), .long (J 10), .int (F 11), .int (F 12), .int (F 13), .ref q4, .int (F 15), .ref q5, .ref q6, .ref q7, .int (F 19), .ref q8, .int (F 21), .int (F 22), .int (F 23), .int (F 24), .ref q9, .ref q10, .ref q11, .long (J 28)])), (q1, .inl (g.2 0, 376, .inl al_52))]) hP hD [0, 1] [] rfl rfl (by decide) (by decide) hk1 hFc hP1 hD1
      clear hP1 hD1 hPc hDc hFc hk1
      generalize H1 = H at hP hS ⊢
      have hP : va_P g.1 vwCl [(qM, .inr (9, [.int (F 0), .ref q1, .ref q2, .ref q3, .int (F 4), .int (F 5), .int (F 6), .int (F 7), .int (F 8), .int (F 9), .long (J 10), .int (F 11), .int (F 12), .int (F 13), .ref q4, .int (F 15), .ref q5, .ref q6, .ref q7, .int (F 19), .ref q8, .int (F 21), .int (F 22), .int (F 23), .int (F 24), .ref q9, .ref q10, .ref q11, .long (J 28)])), (q1, .inl (g.2 0, 376, .inl al_52))] H := hP
      have hD : va_D A [(qM, .inr (9, [.int (F 0), .ref q1, .ref q2, .ref q3, .int (F 4), .int (F 5), .int (F 6), .int (F 7), .int (F 8), .int (F 9), .long (J 10), .int (F 11), .int (F 12), .int (F 13), .ref q4, .int (F 15), .ref q5, .ref q6, .ref q7, .int (F 19), .ref q8, .int (F 21), .int (F 22), .int (F 23), .int (F 24), .ref q9, .ref q10, .ref q11, .long (J 28)])), (q1, .inl (g.2 0, 376, .inl al_52))] := hD
      refine lv_aload_n hx hb dX9_swap_55 rfl (lv_at hl 1 rfl) ?_
      refine lv_iload_n hx hb dX9_swap_56 rfl (lv_at hl 3 rfl) ?_
      refine lv_iload_n hx hb dX9_swap_57 rfl (lv_at hl 4 rfl) ?_
      refine lv_iload hx hb dX9_swap_58 (lv_at hl 0 rfl) ?_
      obtain ⟨p_60, w_60, ho_4, hv⟩ := hv
      have hPc := hP.sub (ws' := [(qM, .inr (9, [.int (F 0), .ref q1, .ref q2, .ref q3, .int (F 4), .int (F 5), .int (F 6), .int (F 7), .int (F 8), .int (F 9), .long (J 10), .int (F 11), .int (F 12), .int (F 13), .ref q4, .int (F 15), .ref q5, .ref q6, .ref q7, .int (F 19), .ref q8, .int (F 21), .int (F 22), .int (F 23), .int (F 24), .ref q9, .ref q10, .ref q11, .long (J 28)])), (q1, .inl (g.2 0, 376, .inl al_52))]) [0, 1] rfl
      have hDc := hD.sub (ws' := [(qM, .inr (9, [.int (F 0), .ref q1, .ref q2, .ref q3, .int (F 4), .int (F 5), .int (F 6), .int (F 7), .int (F 8), .int (F 9), .long (J 10), .int (F 11), .int (F 12), .int (F 13), .ref q4, .int (F 15), .ref q5, .ref q6, .ref q7, .int (F 19), .ref q8, .int (F 21), .int (F 22), .int (F 23), .int (F 24), .ref q9, .ref q10, .ref q11, .long (J 28)])), (q1, .inl (g.2 0, 376, .inl al_52))]) [0, 1] (by decide) rfl
      have hFc := va_free (wc := [(qM, .inr (9, [.int (F 0), .ref q1, .ref q2, .ref q3, .int (F 4), .int (F 5), .int (F 6), .int (F 7), .int (F 8), .int (F 9), .long (J 10), .int (F 11), .int (F 12), .int (F 13), .ref q4, .int (F 15), .ref q5, .ref q6, .ref q7, .int (F 19), .ref q8, .int (F 21), .int (F 22), .int (F 23), .int (F 24), .ref q9, .ref q10, .ref q11, .long (J 28)])), (q1, .inl (g.2 0, 376, .inl al_52))]) hD hS hA [0, 1] rfl
      refine va_callv (va_runV (As := [.int p2, .int x3, .int r_38]) (rest := []) S (wX9_lays l g qM q1 q2 q3 q4 q5 q6 q7 q8 q9 q10 q11 H.size F J al_52 p2 x3 r_38 (sX9_lays p_60 w_60 F J al_52 p2 x3 r_38 ho_4)) (cwV 3 hts gX9_swap_X9_lays rfl rfl rfl (by decide +kernel) ⟨Nat.le_of_ble_eq_true rfl, Nat.le_of_ble_eq_true rfl⟩) ⟨blindRW, va_recv hK hP (ci := 9) (q0 := 0) rfl rfl, fun U hU hW => ⟨rfl, by rw [hU], by rw [hU]; exact hPc, hG.warm hW, hDc.weaken (fun _ _ _ _ => trivial)⟩⟩ rfl rfl hl.1 rfl (lv_room (Nat.le_of_ble_eq_true rfl)) dX9_swap_60 ⟨Nat.le_of_ble_eq_true rfl, Nat.le_of_ble_eq_true rfl⟩) hS (fun q _ h => hFc q h) hFc (fun u t H1 locs ht hvm hw hB hz1 hk1 hS => ?_)
      obtain ⟨al_60, rfl⟩ : ∃ z, z = u := ⟨_, rfl⟩
      obtain ⟨hP1, hD1⟩ := hB
      rw [ht] at hP1
      have hv := hv al_60 hw
      obtain ⟨hP, hD⟩ := va_join (wr := []) (w1 := [(qM, .inr (9, [.int (F 0), .ref q1, .ref q2, .ref q3, .int (F 4), .int (F 5), .int (F 6), .int (F 7), .int (F 8), .int (F 9), .long (J 10), .int (F 11), .int (F 12), .int (F 13), .ref q4, .int (F 15), .ref q5, .ref q6, .ref q7, .int (F 19), .ref q8, .int (F 21), .int (F 22), .int (F 23), .int (F 24), .ref q9, .ref q10, .ref q11, .long (J 28)])), (q1, .inl (g.2 0, 376, .inl al_60))]) hP hD [0, 1] [] rfl rfl (by decide) (by decide) hk1 hFc hP1 hD1
      clear hP1 hD1 hPc hDc hFc hk1
      generalize H1 = H at hP hS ⊢
      have hP : va_P g.1 vwCl [(qM, .inr (9, [.int (F 0), .ref q1, .ref q2, .ref q3, .int (F 4), .int (F 5), .int (F 6), .int (F 7), .int (F 8), .int (F 9), .long (J 10), .int (F 11), .int (F 12), .int (F 13), .ref q4, .int (F 15), .ref q5, .ref q6, .ref q7, .int (F 19), .ref q8, .int (F 21), .int (F 22), .int (F 23), .int (F 24), .ref q9, .ref q10, .ref q11, .long (J 28)])), (q1, .inl (g.2 0, 376, .inl al_60))] H := hP
      have hD : va_D A [(qM, .inr (9, [.int (F 0), .ref q1, .ref q2, .ref q3, .int (F 4), .int (F 5), .int (F 6), .int (F 7), .int (F 8), .int (F 9), .long (J 10), .int (F 11), .int (F 12), .int (F 13), .ref q4, .int (F 15), .ref q5, .ref q6, .ref q7, .int (F 19), .ref q8, .int (F 21), .int (F 22), .int (F 23), .int (F 24), .ref q9, .ref q10, .ref q11, .long (J 28)])), (q1, .inl (g.2 0, 376, .inl al_60))] := hD
      refine lv_iinc (v := (x3 + (1 : Int32))) (lv' := [(3, .int (x3 + (1 : Int32))), (4, .int r_38), (0, .ref qM), (1, .int p1), (2, .int p2)]) hx hb dX9_swap_63 hl (k := 4) rfl rfl (by decide) rfl (fun ls hl => ?_)
      refine lv_goto (tgt := 30) hx hb dX9_swap_66 (by decide) ?_
      exact ih _ _ _ hv _ _ (hP.sub (ws' := [(qM, .inr (9, [.int (F 0), .ref q1, .ref q2, .ref q3, .int (F 4), .int (F 5), .int (F 6), .int (F 7), .int (F 8), .int (F 9), .long (J 10), .int (F 11), .int (F 12), .int (F 13), .ref q4, .int (F 15), .ref q5, .ref q6, .ref q7, .int (F 19), .ref q8, .int (F 21), .int (F 22), .int (F 23), .int (F 24), .ref q9, .ref q10, .ref q11, .long (J 28)])), (q1, .inl (g.2 0, 376, .inl al_60))]) [0, 1] rfl) (hD.sub (ws' := [(qM, .inr (9, [.int (F 0), .ref q1, .ref q2, .ref q3, .int (F 4), .int (F 5), .int (F 6), .int (F 7), .int (F 8), .int (F 9), .long (J 10), .int (F 11), .int (F 12), .int (F 13), .ref q4, .int (F 15), .ref q5, .ref q6, .ref q7, .int (F 19), .ref q8, .int (F 21), .int (F 22), .int (F 23), .int (F 24), .ref q9, .ref q10, .ref q11, .long (J 28)])), (q1, .inl (g.2 0, 376, .inl al_60))]) [0, 1] (by decide) rfl) hS ls (lv_sub hl [2, 3, 4, 0] rfl)
def vX9_swap (F : Nat → Int32) (J : Nat → Int64) (al : Nat → Int32) (p1 : Int32) (p2 : Int32) (Q : Int32 → (Nat → Int32) → (Nat → Int32) → Prop) : Prop := (∃ (n_7 : Nat), preX9_isPart n_7 (upd F 0 (0 : Int32)) J al p1 ∧ (∀ r_7 : Int32, postX9_isPart n_7 (upd F 0 (0 : Int32)) J al p1 r_7 → ((r_7 = 0 → (Q (0 : Int32) (upd F 0 (0 : Int32)) al)) ∧ (¬ r_7 = 0 → (∃ (n_15 : Nat), preX9_isPart n_15 (upd F 0 (0 : Int32)) J al p2 ∧ (∀ r_15 : Int32, postX9_isPart n_15 (upd F 0 (0 : Int32)) J al p2 r_15 → ((r_15 = 0 → (Q (0 : Int32) (upd F 0 (0 : Int32)) al)) ∧ (¬ r_15 = 0 → ((¬ p1 = p2 → (∃ nn, vX9_swap_c30 J p1 p2 Q nn (0 : Int32) (upd F 0 (0 : Int32)) al)) ∧ (p1 = p2 → (Q (0 : Int32) (upd F 0 (0 : Int32)) al)))))))))))
set_option maxHeartbeats 4000000 in
set_option maxRecDepth 100000 in
theorem wX9_swap (l : Launch) (g : GP) (qM : Nat) (q1 : Nat) (q2 : Nat) (q3 : Nat) (q4 : Nat) (q5 : Nat) (q6 : Nat) (q7 : Nat) (q8 : Nat) (q9 : Nat) (q10 : Nat) (q11 : Nat) (sz : Nat) (F : Nat → Int32) (J : Nat → Int64) (al : Nat → Int32) (p1 : Int32) (p2 : Int32) {Q : Int32 → (Nat → Int32) → (Nat → Int32) → Prop} (hv : vX9_swap F J al p1 p2 Q) : Met l yX9_swap wsX9_swap rmX9_swap (va_Pc [.ref qM, .int p1, .int p2] (fun U => U.heap.size = sz ∧ va_P g.1 vwCl [(qM, .inr (9, [.int (F 0), .ref q1, .ref q2, .ref q3, .int (F 4), .int (F 5), .int (F 6), .int (F 7), .int (F 8), .int (F 9), .long (J 10), .int (F 11), .int (F 12), .int (F 13), .ref q4, .int (F 15), .ref q5, .ref q6, .ref q7, .int (F 19), .ref q8, .int (F 21), .int (F 22), .int (F 23), .int (F 24), .ref q9, .ref q10, .ref q11, .long (J 28)])), (q1, .inl (g.2 0, 376, .inl al))] U.heap ∧ GK g U ∧ va_D (fun _ => True) [(qM, .inr (9, [.int (F 0), .ref q1, .ref q2, .ref q3, .int (F 4), .int (F 5), .int (F 6), .int (F 7), .int (F 8), .int (F 9), .long (J 10), .int (F 11), .int (F 12), .int (F 13), .ref q4, .int (F 15), .ref q5, .ref q6, .ref q7, .int (F 19), .ref q8, .int (F 21), .int (F 22), .int (F 23), .int (F 24), .ref q9, .ref q10, .ref q11, .long (J 28)])), (q1, .inl (g.2 0, 376, .inl al))])) (va_Qi (fun (r : Int32) (u : (Nat → Int32) × (Nat → Int32)) => Q r u.1 u.2) (fun (u : (Nat → Int32) × (Nat → Int32)) t => va_P g.1 vwCl [(qM, .inr (9, [.int (u.1 0), .ref q1, .ref q2, .ref q3, .int (u.1 4), .int (u.1 5), .int (u.1 6), .int (u.1 7), .int (u.1 8), .int (u.1 9), .long (J 10), .int (u.1 11), .int (u.1 12), .int (u.1 13), .ref q4, .int (u.1 15), .ref q5, .ref q6, .ref q7, .int (u.1 19), .ref q8, .int (u.1 21), .int (u.1 22), .int (u.1 23), .int (u.1 24), .ref q9, .ref q10, .ref q11, .long (J 28)])), (q1, .inl (g.2 0, 376, .inl u.2))] t.heap ∧ va_D (va_A [(qM, .inr (9, [.int (F 0), .ref q1, .ref q2, .ref q3, .int (F 4), .int (F 5), .int (F 6), .int (F 7), .int (F 8), .int (F 9), .long (J 10), .int (F 11), .int (F 12), .int (F 13), .ref q4, .int (F 15), .ref q5, .ref q6, .ref q7, .int (F 19), .ref q8, .int (F 21), .int (F 22), .int (F 23), .int (F 24), .ref q9, .ref q10, .ref q11, .long (J 28)])), (q1, .inl (g.2 0, 376, .inl al))] sz) [(qM, .inr (9, [.int (u.1 0), .ref q1, .ref q2, .ref q3, .int (u.1 4), .int (u.1 5), .int (u.1 6), .int (u.1 7), .int (u.1 8), .int (u.1 9), .long (J 10), .int (u.1 11), .int (u.1 12), .int (u.1 13), .ref q4, .int (u.1 15), .ref q5, .ref q6, .ref q7, .int (u.1 19), .ref q8, .int (u.1 21), .int (u.1 22), .int (u.1 23), .int (u.1 24), .ref q9, .ref q10, .ref q11, .long (J 28)])), (q1, .inl (g.2 0, 376, .inl u.2))]) (va_A [(qM, .inr (9, [.int (F 0), .ref q1, .ref q2, .ref q3, .int (F 4), .int (F 5), .int (F 6), .int (F 7), .int (F 8), .int (F 9), .long (J 10), .int (F 11), .int (F 12), .int (F 13), .ref q4, .int (F 15), .ref q5, .ref q6, .ref q7, .int (F 19), .ref q8, .int (F 21), .int (F 22), .int (F 23), .int (F 24), .ref q9, .ref q10, .ref q11, .long (J 28)])), (q1, .inl (g.2 0, 376, .inl al))] sz)) 0 0 (va_A [(qM, .inr (9, [.int (F 0), .ref q1, .ref q2, .ref q3, .int (F 4), .int (F 5), .int (F 6), .int (F 7), .int (F 8), .int (F 9), .long (J 10), .int (F 11), .int (F 12), .int (F 13), .ref q4, .int (F 15), .ref q5, .ref q6, .ref q7, .int (F 19), .ref q8, .int (F 21), .int (F 22), .int (F 23), .int (F 24), .ref q9, .ref q10, .ref q11, .long (J 28)])), (q1, .inl (g.2 0, 376, .inl al))] sz) := by
  refine Met.ofW (cc := cX9_swap) (maxL := 5) (ret := (some .boolean)) (by decide) rfl ?_
  intro p e s m args below meth c s₁ B hml hv'
  obtain ⟨rfl, hsz, hP, hG, hD0⟩ := hv'
  have S : CallFix p m c cX9_swap 5 s _ wsX9_swap RX9 := ⟨B.exec, B.bytes, hml, findClass_of_methodNamed B.named, atoms_spec (ws := wsX9_swap) B.pre⟩
  obtain ⟨hx, hb, hml, hown, hts⟩ := id S
  have hK := hG.1
  have hr := B.returns
  have hlocks := B.notSynchronized
  subst hsz
  have hD := hD0.self (sz := s.heap.size)
  generalize hAe : va_A [(qM, .inr (9, [.int (F 0), .ref q1, .ref q2, .ref q3, .int (F 4), .int (F 5), .int (F 6), .int (F 7), .int (F 8), .int (F 9), .long (J 10), .int (F 11), .int (F 12), .int (F 13), .ref q4, .int (F 15), .ref q5, .ref q6, .ref q7, .int (F 19), .ref q8, .int (F 21), .int (F 22), .int (F 23), .int (F 24), .ref q9, .ref q10, .ref q11, .long (J 28)])), (q1, .inl (g.2 0, 376, .inl al))] s.heap.size = A at hD ⊢
  have hA : ∀ q : Nat, s.heap.size ≤ q → A q := fun q h => by rw [← hAe]; exact Or.inr h
  have hS : va_S A s.heap s.heap [] := va_S.rf
  clear hD0 hAe
  have hl := lv_entry ([.ref qM, .int p1, .int p2]) (n := 5) (Nat.le_of_ble_eq_true rfl)
  rw [lg_entry_eq]
  generalize (lg_sl ([.ref qM, .int p1, .int p2]) ++ List.replicate (5 - (lg_sl ([.ref qM, .int p1, .int p2])).length) Slot.unset).toArray = ls at hl ⊢
  have hl : lv_has ls 5 [(0, .ref qM), (1, .int p1), (2, .int p2)] := hl
  unfold vX9_swap at hv
  refine lv_aload_n hx hb dX9_swap_0 rfl (lv_at hl 0 rfl) ?_
  refine lv_iconst (v := (0 : Int32)) hx hb dX9_swap_1 (by decide) ?_
  refine va_put (D := g.1) (ci := 9) (v := .int (0 : Int32)) (ty := .int) (C := RX9) (T := TX9) (N := 29) hx hb hts inX9_swap_9 tyX9 tyX9_ok nmX9 hown hK hP hD hS 0 rfl rfl 0 (by decide) (hts (.fieldLink RX9 51 "RangeCodesModel" "raised" "I") (List.mem_of_getElem? (i := 1) rfl)) (fun _ h9 => h9) rfl (by decide +kernel) rfl rfl (Nat.le_of_ble_eq_true rfl) dX9_swap_2 (fun H locs hP hD hS => ?_)
  have hP : va_P g.1 vwCl [(qM, .inr (9, [.int (0 : Int32), .ref q1, .ref q2, .ref q3, .int (F 4), .int (F 5), .int (F 6), .int (F 7), .int (F 8), .int (F 9), .long (J 10), .int (F 11), .int (F 12), .int (F 13), .ref q4, .int (F 15), .ref q5, .ref q6, .ref q7, .int (F 19), .ref q8, .int (F 21), .int (F 22), .int (F 23), .int (F 24), .ref q9, .ref q10, .ref q11, .long (J 28)])), (q1, .inl (g.2 0, 376, .inl al))] H := hP
  have hD : va_D A [(qM, .inr (9, [.int (0 : Int32), .ref q1, .ref q2, .ref q3, .int (F 4), .int (F 5), .int (F 6), .int (F 7), .int (F 8), .int (F 9), .long (J 10), .int (F 11), .int (F 12), .int (F 13), .ref q4, .int (F 15), .ref q5, .ref q6, .ref q7, .int (F 19), .ref q8, .int (F 21), .int (F 22), .int (F 23), .int (F 24), .ref q9, .ref q10, .ref q11, .long (J 28)])), (q1, .inl (g.2 0, 376, .inl al))] := hD
  refine lv_aload_n hx hb dX9_swap_5 rfl (lv_at hl 0 rfl) ?_
  refine lv_iload_n hx hb dX9_swap_6 rfl (lv_at hl 1 rfl) ?_
  obtain ⟨n_7, ho_1, hv⟩ := hv
  refine vp_callSi (W.runV (As := [.int p1]) (rest := []) S (wX9_isPart l g qM q1 q2 q3 q4 q5 q6 q7 q8 q9 q10 q11 (upd F 0 (0 : Int32)) J al p1 (sX9_isPart n_7 (upd F 0 (0 : Int32)) J al p1 ho_1)) (cwV 1 hts gX9_swap_X9_isPart rfl rfl rfl (by decide +kernel) ⟨Nat.le_of_ble_eq_true rfl, Nat.le_of_ble_eq_true rfl⟩) ⟨blindRO, va_recv hK hP (ci := 9) (q0 := 0) rfl rfl, fun U hU hW => ⟨rfl, by rw [hU]; exact hP.sub (ws' := [(qM, .inr (9, [.int ((upd F 0 (0 : Int32)) 0), .ref q1, .ref q2, .ref q3, .int ((upd F 0 (0 : Int32)) 4), .int ((upd F 0 (0 : Int32)) 5), .int ((upd F 0 (0 : Int32)) 6), .int ((upd F 0 (0 : Int32)) 7), .int ((upd F 0 (0 : Int32)) 8), .int ((upd F 0 (0 : Int32)) 9), .long (J 10), .int ((upd F 0 (0 : Int32)) 11), .int ((upd F 0 (0 : Int32)) 12), .int ((upd F 0 (0 : Int32)) 13), .ref q4, .int ((upd F 0 (0 : Int32)) 15), .ref q5, .ref q6, .ref q7, .int ((upd F 0 (0 : Int32)) 19), .ref q8, .int ((upd F 0 (0 : Int32)) 21), .int ((upd F 0 (0 : Int32)) 22), .int ((upd F 0 (0 : Int32)) 23), .int ((upd F 0 (0 : Int32)) 24), .ref q9, .ref q10, .ref q11, .long (J 28)])), (q1, .inl (g.2 0, 376, .inl al))]) [0, 1] rfl, hG.warm hW⟩⟩ rfl rfl hl.1 rfl (lv_room (Nat.le_of_ble_eq_true rfl)) dX9_swap_7 ⟨Nat.le_of_ble_eq_true rfl, Nat.le_of_ble_eq_true rfl⟩) (fun r_7 hr_7 => ?_)
  have hv := hv r_7 hr_7
  obtain ⟨hvt, hvf⟩ := hv
  refine lv_if_eq (tgt := 26) hx hb dX9_swap_10 (by decide) (fun hc => ?_) (fun hc => ?_)
  · have hv := hvt hc
    refine lv_iconst (v := (0 : Int32)) hx hb dX9_swap_26 (by decide) ?_
    have hP9 := hP.sub (ws' := [(qM, .inr (9, [.int ((upd F 0 (0 : Int32)) 0), .ref q1, .ref q2, .ref q3, .int ((upd F 0 (0 : Int32)) 4), .int ((upd F 0 (0 : Int32)) 5), .int ((upd F 0 (0 : Int32)) 6), .int ((upd F 0 (0 : Int32)) 7), .int ((upd F 0 (0 : Int32)) 8), .int ((upd F 0 (0 : Int32)) 9), .long (J 10), .int ((upd F 0 (0 : Int32)) 11), .int ((upd F 0 (0 : Int32)) 12), .int ((upd F 0 (0 : Int32)) 13), .ref q4, .int ((upd F 0 (0 : Int32)) 15), .ref q5, .ref q6, .ref q7, .int ((upd F 0 (0 : Int32)) 19), .ref q8, .int ((upd F 0 (0 : Int32)) 21), .int ((upd F 0 (0 : Int32)) 22), .int ((upd F 0 (0 : Int32)) 23), .int ((upd F 0 (0 : Int32)) 24), .ref q9, .ref q10, .ref q11, .long (J 28)])), (q1, .inl (g.2 0, 376, .inl al))]) [0, 1] rfl
    have hD9 := hD.sub (ws' := [(qM, .inr (9, [.int ((upd F 0 (0 : Int32)) 0), .ref q1, .ref q2, .ref q3, .int ((upd F 0 (0 : Int32)) 4), .int ((upd F 0 (0 : Int32)) 5), .int ((upd F 0 (0 : Int32)) 6), .int ((upd F 0 (0 : Int32)) 7), .int ((upd F 0 (0 : Int32)) 8), .int ((upd F 0 (0 : Int32)) 9), .long (J 10), .int ((upd F 0 (0 : Int32)) 11), .int ((upd F 0 (0 : Int32)) 12), .int ((upd F 0 (0 : Int32)) 13), .ref q4, .int ((upd F 0 (0 : Int32)) 15), .ref q5, .ref q6, .ref q7, .int ((upd F 0 (0 : Int32)) 19), .ref q8, .int ((upd F 0 (0 : Int32)) 21), .int ((upd F 0 (0 : Int32)) 22), .int ((upd F 0 (0 : Int32)) 23), .int ((upd F 0 (0 : Int32)) 24), .ref q9, .ref q10, .ref q11, .long (J 28)])), (q1, .inl (g.2 0, 376, .inl al))]) [0, 1] (by decide) rfl
    exact W.zret (v := (0 : Int32)) (ty := .boolean) hx hb hr rfl (fun t ht hW => ⟨⟨_, ((upd F 0 (0 : Int32)), al), rfl, hv, by rw [ht]; exact hP9, hD9⟩, hS.F ht⟩) hS.2.2 dX9_swap_27
  · have hv := hvf hc
    refine lv_aload_n hx hb dX9_swap_13 rfl (lv_at hl 0 rfl) ?_
    refine lv_iload_n hx hb dX9_swap_14 rfl (lv_at hl 2 rfl) ?_
    obtain ⟨n_15, ho_2, hv⟩ := hv
    refine vp_callSi (W.runV (As := [.int p2]) (rest := []) S (wX9_isPart l g qM q1 q2 q3 q4 q5 q6 q7 q8 q9 q10 q11 (upd F 0 (0 : Int32)) J al p2 (sX9_isPart n_15 (upd F 0 (0 : Int32)) J al p2 ho_2)) (cwV 1 hts gX9_swap_X9_isPart rfl rfl rfl (by decide +kernel) ⟨Nat.le_of_ble_eq_true rfl, Nat.le_of_ble_eq_true rfl⟩) ⟨blindRO, va_recv hK hP (ci := 9) (q0 := 0) rfl rfl, fun U hU hW => ⟨rfl, by rw [hU]; exact hP.sub (ws' := [(qM, .inr (9, [.int ((upd F 0 (0 : Int32)) 0), .ref q1, .ref q2, .ref q3, .int ((upd F 0 (0 : Int32)) 4), .int ((upd F 0 (0 : Int32)) 5), .int ((upd F 0 (0 : Int32)) 6), .int ((upd F 0 (0 : Int32)) 7), .int ((upd F 0 (0 : Int32)) 8), .int ((upd F 0 (0 : Int32)) 9), .long (J 10), .int ((upd F 0 (0 : Int32)) 11), .int ((upd F 0 (0 : Int32)) 12), .int ((upd F 0 (0 : Int32)) 13), .ref q4, .int ((upd F 0 (0 : Int32)) 15), .ref q5, .ref q6, .ref q7, .int ((upd F 0 (0 : Int32)) 19), .ref q8, .int ((upd F 0 (0 : Int32)) 21), .int ((upd F 0 (0 : Int32)) 22), .int ((upd F 0 (0 : Int32)) 23), .int ((upd F 0 (0 : Int32)) 24), .ref q9, .ref q10, .ref q11, .long (J 28)])), (q1, .inl (g.2 0, 376, .inl al))]) [0, 1] rfl, hG.warm hW⟩⟩ rfl rfl hl.1 rfl (lv_room (Nat.le_of_ble_eq_true rfl)) dX9_swap_15 ⟨Nat.le_of_ble_eq_true rfl, Nat.le_of_ble_eq_true rfl⟩) (fun r_15 hr_15 => ?_)
    have hv := hv r_15 hr_15
    obtain ⟨hvt, hvf⟩ := hv
    refine lv_if_eq (tgt := 26) hx hb dX9_swap_18 (by decide) (fun hc => ?_) (fun hc => ?_)
    · have hv := hvt hc
      refine lv_iconst (v := (0 : Int32)) hx hb dX9_swap_26 (by decide) ?_
      have hP9 := hP.sub (ws' := [(qM, .inr (9, [.int ((upd F 0 (0 : Int32)) 0), .ref q1, .ref q2, .ref q3, .int ((upd F 0 (0 : Int32)) 4), .int ((upd F 0 (0 : Int32)) 5), .int ((upd F 0 (0 : Int32)) 6), .int ((upd F 0 (0 : Int32)) 7), .int ((upd F 0 (0 : Int32)) 8), .int ((upd F 0 (0 : Int32)) 9), .long (J 10), .int ((upd F 0 (0 : Int32)) 11), .int ((upd F 0 (0 : Int32)) 12), .int ((upd F 0 (0 : Int32)) 13), .ref q4, .int ((upd F 0 (0 : Int32)) 15), .ref q5, .ref q6, .ref q7, .int ((upd F 0 (0 : Int32)) 19), .ref q8, .int ((upd F 0 (0 : Int32)) 21), .int ((upd F 0 (0 : Int32)) 22), .int ((upd F 0 (0 : Int32)) 23), .int ((upd F 0 (0 : Int32)) 24), .ref q9, .ref q10, .ref q11, .long (J 28)])), (q1, .inl (g.2 0, 376, .inl al))]) [0, 1] rfl
      have hD9 := hD.sub (ws' := [(qM, .inr (9, [.int ((upd F 0 (0 : Int32)) 0), .ref q1, .ref q2, .ref q3, .int ((upd F 0 (0 : Int32)) 4), .int ((upd F 0 (0 : Int32)) 5), .int ((upd F 0 (0 : Int32)) 6), .int ((upd F 0 (0 : Int32)) 7), .int ((upd F 0 (0 : Int32)) 8), .int ((upd F 0 (0 : Int32)) 9), .long (J 10), .int ((upd F 0 (0 : Int32)) 11), .int ((upd F 0 (0 : Int32)) 12), .int ((upd F 0 (0 : Int32)) 13), .ref q4, .int ((upd F 0 (0 : Int32)) 15), .ref q5, .ref q6, .ref q7, .int ((upd F 0 (0 : Int32)) 19), .ref q8, .int ((upd F 0 (0 : Int32)) 21), .int ((upd F 0 (0 : Int32)) 22), .int ((upd F 0 (0 : Int32)) 23), .int ((upd F 0 (0 : Int32)) 24), .ref q9, .ref q10, .ref q11, .long (J 28)])), (q1, .inl (g.2 0, 376, .inl al))]) [0, 1] (by decide) rfl
      exact W.zret (v := (0 : Int32)) (ty := .boolean) hx hb hr rfl (fun t ht hW => ⟨⟨_, ((upd F 0 (0 : Int32)), al), rfl, hv, by rw [ht]; exact hP9, hD9⟩, hS.F ht⟩) hS.2.2 dX9_swap_27
    · have hv := hvf hc
      refine lv_iload_n hx hb dX9_swap_21 rfl (lv_at hl 1 rfl) ?_
      refine lv_iload_n hx hb dX9_swap_22 rfl (lv_at hl 2 rfl) ?_
      obtain ⟨hvt, hvf⟩ := hv
      refine lv_icmp_ne (tgt := 28) hx hb dX9_swap_23 (by decide) (fun hc => ?_) (fun hc => ?_)
      · have hv := hvt hc
        refine lv_iconst (v := (0 : Int32)) hx hb dX9_swap_28 (by decide) ?_
        refine lv_istore_n (lv' := [(3, .int (0 : Int32)), (0, .ref qM), (1, .int p1), (2, .int p2)]) hx hb dX9_swap_29 rfl hl (by decide) rfl (fun ls hl => ?_)
        obtain ⟨nn, hv⟩ := hv
        exact kX9_swap_c30 S hr hlocks hG hA nn _ _ _ hv _ _ (hP.sub (ws' := [(qM, .inr (9, [.int ((upd F 0 (0 : Int32)) 0), .ref q1, .ref q2, .ref q3, .int ((upd F 0 (0 : Int32)) 4), .int ((upd F 0 (0 : Int32)) 5), .int ((upd F 0 (0 : Int32)) 6), .int ((upd F 0 (0 : Int32)) 7), .int ((upd F 0 (0 : Int32)) 8), .int ((upd F 0 (0 : Int32)) 9), .long (J 10), .int ((upd F 0 (0 : Int32)) 11), .int ((upd F 0 (0 : Int32)) 12), .int ((upd F 0 (0 : Int32)) 13), .ref q4, .int ((upd F 0 (0 : Int32)) 15), .ref q5, .ref q6, .ref q7, .int ((upd F 0 (0 : Int32)) 19), .ref q8, .int ((upd F 0 (0 : Int32)) 21), .int ((upd F 0 (0 : Int32)) 22), .int ((upd F 0 (0 : Int32)) 23), .int ((upd F 0 (0 : Int32)) 24), .ref q9, .ref q10, .ref q11, .long (J 28)])), (q1, .inl (g.2 0, 376, .inl al))]) [0, 1] rfl) (hD.sub (ws' := [(qM, .inr (9, [.int ((upd F 0 (0 : Int32)) 0), .ref q1, .ref q2, .ref q3, .int ((upd F 0 (0 : Int32)) 4), .int ((upd F 0 (0 : Int32)) 5), .int ((upd F 0 (0 : Int32)) 6), .int ((upd F 0 (0 : Int32)) 7), .int ((upd F 0 (0 : Int32)) 8), .int ((upd F 0 (0 : Int32)) 9), .long (J 10), .int ((upd F 0 (0 : Int32)) 11), .int ((upd F 0 (0 : Int32)) 12), .int ((upd F 0 (0 : Int32)) 13), .ref q4, .int ((upd F 0 (0 : Int32)) 15), .ref q5, .ref q6, .ref q7, .int ((upd F 0 (0 : Int32)) 19), .ref q8, .int ((upd F 0 (0 : Int32)) 21), .int ((upd F 0 (0 : Int32)) 22), .int ((upd F 0 (0 : Int32)) 23), .int ((upd F 0 (0 : Int32)) 24), .ref q9, .ref q10, .ref q11, .long (J 28)])), (q1, .inl (g.2 0, 376, .inl al))]) [0, 1] (by decide) rfl) hS ls (lv_sub hl [1, 2, 3, 0] rfl)
      · have hv := hvf hc
        refine lv_iconst (v := (0 : Int32)) hx hb dX9_swap_26 (by decide) ?_
        have hP9 := hP.sub (ws' := [(qM, .inr (9, [.int ((upd F 0 (0 : Int32)) 0), .ref q1, .ref q2, .ref q3, .int ((upd F 0 (0 : Int32)) 4), .int ((upd F 0 (0 : Int32)) 5), .int ((upd F 0 (0 : Int32)) 6), .int ((upd F 0 (0 : Int32)) 7), .int ((upd F 0 (0 : Int32)) 8), .int ((upd F 0 (0 : Int32)) 9), .long (J 10), .int ((upd F 0 (0 : Int32)) 11), .int ((upd F 0 (0 : Int32)) 12), .int ((upd F 0 (0 : Int32)) 13), .ref q4, .int ((upd F 0 (0 : Int32)) 15), .ref q5, .ref q6, .ref q7, .int ((upd F 0 (0 : Int32)) 19), .ref q8, .int ((upd F 0 (0 : Int32)) 21), .int ((upd F 0 (0 : Int32)) 22), .int ((upd F 0 (0 : Int32)) 23), .int ((upd F 0 (0 : Int32)) 24), .ref q9, .ref q10, .ref q11, .long (J 28)])), (q1, .inl (g.2 0, 376, .inl al))]) [0, 1] rfl
        have hD9 := hD.sub (ws' := [(qM, .inr (9, [.int ((upd F 0 (0 : Int32)) 0), .ref q1, .ref q2, .ref q3, .int ((upd F 0 (0 : Int32)) 4), .int ((upd F 0 (0 : Int32)) 5), .int ((upd F 0 (0 : Int32)) 6), .int ((upd F 0 (0 : Int32)) 7), .int ((upd F 0 (0 : Int32)) 8), .int ((upd F 0 (0 : Int32)) 9), .long (J 10), .int ((upd F 0 (0 : Int32)) 11), .int ((upd F 0 (0 : Int32)) 12), .int ((upd F 0 (0 : Int32)) 13), .ref q4, .int ((upd F 0 (0 : Int32)) 15), .ref q5, .ref q6, .ref q7, .int ((upd F 0 (0 : Int32)) 19), .ref q8, .int ((upd F 0 (0 : Int32)) 21), .int ((upd F 0 (0 : Int32)) 22), .int ((upd F 0 (0 : Int32)) 23), .int ((upd F 0 (0 : Int32)) 24), .ref q9, .ref q10, .ref q11, .long (J 28)])), (q1, .inl (g.2 0, 376, .inl al))]) [0, 1] (by decide) rfl
        exact W.zret (v := (0 : Int32)) (ty := .boolean) hx hb hr rfl (fun t ht hW => ⟨⟨_, ((upd F 0 (0 : Int32)), al), rfl, hv, by rw [ht]; exact hP9, hD9⟩, hS.F ht⟩) hS.2.2 dX9_swap_27
/-- the reference's row with the first so many numbers of two parts exchanged -/
def swA (al : Nat → Int32) (a b : Nat) : Nat → Nat → Int32
  | 0 => al
  | k + 1 => upd (upd (swA al a b k) (5 + 3 * a + k) (swA al a b k (5 + 3 * b + k))) (5 + 3 * b + k) (swA al a b k (5 + 3 * a + k))
theorem swA_ne (al : Nat → Int32) (a b : Nat) : ∀ (k : Nat) (q : Nat), (∀ j, j < k → q ≠ 5 + 3 * a + j ∧ q ≠ 5 + 3 * b + j) → swA al a b k q = al q
  | 0, q, _ => rfl
  | k + 1, q, h => by
    have h1 := h k (by omega)
    rw [swA, upd_ne h1.2, upd_ne h1.1, swA_ne al a b k q (fun j hj => h j (by omega))]
theorem swA_at (al : Nat → Int32) {a b : Nat} (hab : a ≠ b) (k : Nat) (hk : k ≤ 3) (p w : Nat) (hw : w < 3) : swA al a b k (5 + 3 * p + w) = if w < k then (if p = b then al (5 + 3 * a + w) else if p = a then al (5 + 3 * b + w) else al (5 + 3 * p + w)) else al (5 + 3 * p + w) := by
  induction k with
  | zero => rw [if_neg (by omega)]; rfl
  | succ k ih =>
    have ih := ih (by omega)
    have ea : swA al a b k (5 + 3 * a + k) = al (5 + 3 * a + k) := swA_ne al a b k _ (fun j hj => by omega)
    have eb : swA al a b k (5 + 3 * b + k) = al (5 + 3 * b + k) := swA_ne al a b k _ (fun j hj => by omega)
    rw [swA, ea, eb]
    by_cases e : w = k
    · subst e
      rw [if_pos (by omega)]
      by_cases e1 : p = b
      · subst e1; rw [upd_eq, if_pos rfl]
      · rw [upd_ne (by omega), if_neg e1]
        by_cases e2 : p = a
        · subst e2; rw [upd_eq, if_pos rfl]
        · rw [upd_ne (by omega), if_neg e2, ih, if_neg (by omega)]
    · rw [upd_ne (by omega), upd_ne (by omega), ih]
      by_cases z : w < k
      · rw [if_pos z, if_pos (show w < k + 1 by omega)]
      · rw [if_neg z, if_neg (show ¬ w < k + 1 by omega)]
theorem mT_sw {T : Cd} {al : Nat → Int32} (h : mT T al) {a b : Nat} (ha : a < cn T) (hb : b < cn T) (hab : a ≠ b) : mT (swT T a b) (swA al a b 3) := by
  have hn := h.1.2
  have at0 : ∀ p, swA al a b 3 (5 + 3 * p) = if p = b then al (5 + 3 * a) else if p = a then al (5 + 3 * b) else al (5 + 3 * p) := fun p => by
    have := swA_at al hab 3 (by omega) p 0 (by omega)
    rw [if_pos (by omega)] at this; exact this
  have at1 : ∀ p, swA al a b 3 (6 + 3 * p) = if p = b then al (6 + 3 * a) else if p = a then al (6 + 3 * b) else al (6 + 3 * p) := fun p => by
    have := swA_at al hab 3 (by omega) p 1 (by omega)
    rw [if_pos (by omega)] at this
    rw [show 6 + 3 * p = 5 + 3 * p + 1 by omega, this, show 6 + 3 * a = 5 + 3 * a + 1 by omega, show 6 + 3 * b = 5 + 3 * b + 1 by omega]
  have at2 : ∀ p, swA al a b 3 (7 + 3 * p) = if p = b then al (7 + 3 * a) else if p = a then al (7 + 3 * b) else al (7 + 3 * p) := fun p => by
    have := swA_at al hab 3 (by omega) p 2 (by omega)
    rw [if_pos (by omega)] at this
    rw [show 7 + 3 * p = 5 + 3 * p + 2 by omega, this, show 7 + 3 * a = 5 + 3 * a + 2 by omega, show 7 + 3 * b = 5 + 3 * b + 2 by omega]
  refine ⟨?_, fun q hq => ?_, fun q hq => ?_, fun q hq => ?_⟩
  · rw [swA_ne al a b 3 0 (fun j hj => by omega)]; exact h.1
  · have hq : q < cn T := hq
    show (swA al a b 3 (5 + 3 * q)).toInt = (swF (fun i => cL T i) a b q : Int) ∧ 2 ≤ swF (fun i => cL T i) a b q ∧ swF (fun i => cL T i) a b q ≤ 13
    unfold swF
    rw [at0]
    by_cases e1 : q = b
    · rw [if_pos e1, if_pos e1]; exact h.2.1 a ha
    · rw [if_neg e1, if_neg e1]
      by_cases e2 : q = a
      · rw [if_pos e2, if_pos e2]; exact h.2.1 b hb
      · rw [if_neg e2, if_neg e2]; exact h.2.1 q hq
  · have hq : q < cn T := hq
    show (swA al a b 3 (6 + 3 * q)).toInt = (swF (fun i => cV T i) a b q : Int) ∧ swF (fun i => cV T i) a b q ≤ 9
    unfold swF
    rw [at1]
    by_cases e1 : q = b
    · rw [if_pos e1, if_pos e1]; exact h.2.2.1 a ha
    · rw [if_neg e1, if_neg e1]
      by_cases e2 : q = a
      · rw [if_pos e2, if_pos e2]; exact h.2.2.1 b hb
      · rw [if_neg e2, if_neg e2]; exact h.2.2.1 q hq
  · have hq : q < cn T := hq
    show (swA al a b 3 (7 + 3 * q)).toInt = (swF (fun i => cR T i) a b q : Int) ∧ swF (fun i => cR T i) a b q < 2 ^ swF (fun i => cL T i) a b q
    unfold swF
    rw [at2]
    by_cases e1 : q = b
    · rw [if_pos e1, if_pos e1, if_pos e1]; exact h.2.2.2 a ha
    · rw [if_neg e1, if_neg e1, if_neg e1]
      by_cases e2 : q = a
      · rw [if_pos e2, if_pos e2, if_pos e2]; exact h.2.2.2 b hb
      · rw [if_neg e2, if_neg e2, if_neg e2]; exact h.2.2.2 q hq
theorem sX9_swap_30 (a b : Nat) (F : Nat → Int32) (J : Nat → Int64) (al : Nat → Int32) (p1 : Int32) (p2 : Int32) (ha : a < 5) (hb : b < 5) (e1 : p1.toInt = (a : Int)) (e2 : p2.toInt = (b : Int)) (Q : Int32 → (Nat → Int32) → (Nat → Int32) → Prop) (hQ : Q (1 : Int32) F (swA al a b 3)) : ∀ (n k : Nat) (x3 : Int32), x3.toInt = (k : Int) → k ≤ 3 → 4 ≤ k + n → vX9_swap_c30 J p1 p2 Q n x3 F (swA al a b k)
  | 0, k, x3, _, hk, hn => absurd hn (by omega)
  | n + 1, k, x3, h3, hk, hn => by
    rw [vX9_swap_c30, fa_le, z3, h3]
    refine ⟨fun hc => ?_, fun hc => ⟨a, k, ⟨e1, h3, by omega⟩, fun r hr => ⟨b, k, ⟨e2, h3, by omega⟩, fun r2 hr2 => ⟨a, k, ⟨e1, h3, by omega⟩, fun a1 ha1 => ⟨b, k, ⟨e2, h3, by omega⟩, fun a2 ha2 => ?_⟩⟩⟩⟩⟩
    · have : k = 3 := by omega
      subst this
      exact hQ
    · have hr : r = swA al a b k (5 + 3 * a + k) := hr
      have hr2 : r2 = swA al a b k (5 + 3 * b + k) := hr2
      have ha1 : a1 = upd (swA al a b k) (5 + 3 * a + k) r2 := ha1
      have ha2 : a2 = upd a1 (5 + 3 * b + k) r := ha2
      rw [ha2, ha1, hr, hr2]
      exact sX9_swap_30 a b F J al p1 p2 ha hb e1 e2 Q hQ n (k + 1) _ (q_1 h3 (by omega)) (by omega) (by omega)
abbrev preX9_swap (T : Cd) (G0 : Lg) (G1 : Lg) (lim : Nat) (F : Nat → Int32) (J : Nat → Int64) (al : Nat → Int32) (p1 : Int32) (p2 : Int32) : Prop := fcR T G0 G1 lim al
abbrev postX9_swap (T : Cd) (G0 : Lg) (G1 : Lg) (lim : Nat) (F : Nat → Int32) (J : Nat → Int64) (al : Nat → Int32) (p1 : Int32) (p2 : Int32) (r : Int32) (F' : Nat → Int32) (al' : Nat → Int32) : Prop := r.toInt = spSwap T p1.toInt p2.toInt ∧ fcR (nxSwap T p1.toInt p2.toInt) G0 G1 lim al' ∧ kpA al al'
theorem sX9_swap (T : Cd) (G0 : Lg) (G1 : Lg) (lim : Nat) (F : Nat → Int32) (J : Nat → Int64) (al : Nat → Int32) (p1 : Int32) (p2 : Int32) (H : preX9_swap T G0 G1 lim F J al p1 p2) : vX9_swap F J al p1 p2 (postX9_swap T G0 G1 lim F J al p1 p2) := by
  obtain ⟨hT, h0, h1, hlim, hl9, hl1⟩ := id H
  have hn5 := hT.1.2
  have no : ¬ ((0 ≤ p1.toInt ∧ p1.toInt < (cn T : Int)) ∧ (0 ≤ p2.toInt ∧ p2.toInt < (cn T : Int)) ∧ p1.toInt ≠ p2.toInt) → (0 : Int32).toInt = spSwap T p1.toInt p2.toInt ∧ fcR (nxSwap T p1.toInt p2.toInt) G0 G1 lim al ∧ kpA al al := fun q => by
    unfold spSwap nxSwap
    rw [if_neg q, if_neg q]; exact ⟨rfl, H, kpA_rf al⟩
  refine ⟨cn T, hT.1.1, fun r hr => ?_⟩
  have hr : r = if 0 ≤ p1.toInt ∧ p1.toInt < (cn T : Int) then 1 else 0 := hr
  rw [hr, q_if1]
  refine ⟨fun a => no (fun q => a q.1), fun a => ⟨cn T, hT.1.1, fun r2 hr2 => ?_⟩⟩
  have a := Decidable.not_not.mp a
  have hr2 : r2 = if 0 ≤ p2.toInt ∧ p2.toInt < (cn T : Int) then 1 else 0 := hr2
  rw [hr2, q_if1, fa_eq p1]
  refine ⟨fun b => no (fun q => b q.2.1), fun b => ⟨fun c => ?_, fun c => no (fun q => q.2.2 c)⟩⟩
  have b := Decidable.not_not.mp b
  refine ⟨4, sX9_swap_30 p1.toInt.toNat p2.toInt.toNat (upd F 0 (0 : Int32)) J al p1 p2 (by omega) (by omega) (by omega) (by omega) _ ?_ 4 0 0 rfl (by omega) (by omega)⟩
  have hc : (0 ≤ p1.toInt ∧ p1.toInt < (cn T : Int)) ∧ (0 ≤ p2.toInt ∧ p2.toInt < (cn T : Int)) ∧ p1.toInt ≠ p2.toInt := ⟨a, b, c⟩
  have ne : ∀ k, (k < 5 ∨ 20 ≤ k) → swA al p1.toInt.toNat p2.toInt.toNat 3 k = al k := fun k hk => swA_ne al _ _ 3 k (fun j hj => by omega)
  unfold postX9_swap spSwap nxSwap
  rw [if_pos hc, if_pos hc]
  refine ⟨rfl, ⟨mT_sw hT (by omega) (by omega) (by omega), ?_, ?_, by rw [ne 1 (by omega)]; exact hlim, hl9, hl1⟩, fun k hk => ne k (by omega)⟩
  · have hm := h0.1.2.2.2.2.2.2.1
    refine ⟨h0.1, by rw [ne _ (by omega)]; exact h0.2.1, fun j hj => ?_, fun j hj => ?_⟩
    · show (swA al _ _ 3 (20 + 37 * 0 + j)).toInt = _
      rw [ne _ (by omega)]; exact h0.2.2.1 j hj
    · show (swA al _ _ 3 (27 + 37 * 0 + 3 * j)).toInt = _ ∧ (swA al _ _ 3 (28 + 37 * 0 + 3 * j)).toInt = _ ∧ (swA al _ _ 3 (29 + 37 * 0 + 3 * j)).toInt = _
      rw [ne _ (by omega), ne _ (by omega), ne _ (by omega)]; exact h0.2.2.2 j hj
  · refine ⟨h1.1, by rw [ne _ (by omega)]; exact h1.2.1, fun j hj => ?_, fun j hj => ?_⟩
    · show (swA al _ _ 3 (20 + 37 * 1 + j)).toInt = _
      rw [ne _ (by omega)]; exact h1.2.2.1 j hj
    · show (swA al _ _ 3 (27 + 37 * 1 + 3 * j)).toInt = _ ∧ (swA al _ _ 3 (28 + 37 * 1 + 3 * j)).toInt = _ ∧ (swA al _ _ 3 (29 + 37 * 1 + 3 * j)).toInt = _
      rw [ne _ (by omega), ne _ (by omega), ne _ (by omega)]; exact h1.2.2.2 j hj
theorem dX9_write_0 : decode cX9_write 0 = .ok (.aload_n 0, 1) := by decide +kernel
theorem dX9_write_1 : decode cX9_write 1 = .ok (.iconst 0, 1) := by decide +kernel
theorem dX9_write_2 : decode cX9_write 2 = .ok (.putfield 51, 3) := by decide +kernel
theorem dX9_write_5 : decode cX9_write 5 = .ok (.iconst 0, 1) := by decide +kernel
theorem dX9_write_6 : decode cX9_write 6 = .ok (.istore_n 3, 1) := by decide +kernel
theorem dX9_write_7 : decode cX9_write 7 = .ok (.iload_n 3, 1) := by decide +kernel
theorem dX9_write_8 : decode cX9_write 8 = .ok (.bipush 8, 2) := by decide +kernel
theorem dX9_write_10 : decode cX9_write 10 = .ok (.if_icmp .ge 27, 3) := by decide +kernel
theorem dX9_write_13 : decode cX9_write 13 = .ok (.lload_n 1, 1) := by decide +kernel
theorem dX9_write_14 : decode cX9_write 14 = .ok (.bipush 56, 2) := by decide +kernel
theorem dX9_write_16 : decode cX9_write 16 = .ok (.bipush 8, 2) := by decide +kernel
theorem dX9_write_18 : decode cX9_write 18 = .ok (.iload_n 3, 1) := by decide +kernel
theorem dX9_write_19 : decode cX9_write 19 = .ok (.imul, 1) := by decide +kernel
theorem dX9_write_20 : decode cX9_write 20 = .ok (.isub, 1) := by decide +kernel
theorem dX9_write_21 : decode cX9_write 21 = .ok (.lshr, 1) := by decide +kernel
theorem dX9_write_22 : decode cX9_write 22 = .ok (.ldc2_w 67, 3) := by decide +kernel
theorem dX9_write_25 : decode cX9_write 25 = .ok (.land, 1) := by decide +kernel
theorem dX9_write_26 : decode cX9_write 26 = .ok (.lconst 0, 1) := by decide +kernel
theorem dX9_write_27 : decode cX9_write 27 = .ok (.lcmp, 1) := by decide +kernel
theorem dX9_write_28 : decode cX9_write 28 = .ok (.ifCond .eq 9, 3) := by decide +kernel
theorem dX9_write_31 : decode cX9_write 31 = .ok (.iinc 3 1, 3) := by decide +kernel
theorem dX9_write_34 : decode cX9_write 34 = .ok (.goto (-27), 3) := by decide +kernel
theorem dX9_write_37 : decode cX9_write 37 = .ok (.aload_n 0, 1) := by decide +kernel
theorem dX9_write_38 : decode cX9_write 38 = .ok (.getfield 7, 3) := by decide +kernel
theorem dX9_write_41 : decode cX9_write 41 = .ok (.iconst 2, 1) := by decide +kernel
theorem dX9_write_42 : decode cX9_write 42 = .ok (.iaload, 1) := by decide +kernel
theorem dX9_write_43 : decode cX9_write 43 = .ok (.iload_n 3, 1) := by decide +kernel
theorem dX9_write_44 : decode cX9_write 44 = .ok (.iadd, 1) := by decide +kernel
theorem dX9_write_45 : decode cX9_write 45 = .ok (.sipush 500, 3) := by decide +kernel
theorem dX9_write_48 : decode cX9_write 48 = .ok (.if_icmp .le 5, 3) := by decide +kernel
theorem dX9_write_51 : decode cX9_write 51 = .ok (.iconst (-1), 1) := by decide +kernel
theorem dX9_write_52 : decode cX9_write 52 = .ok (.ireturn, 1) := by decide +kernel
theorem dX9_write_53 : decode cX9_write 53 = .ok (.iconst 0, 1) := by decide +kernel
theorem dX9_write_54 : decode cX9_write 54 = .ok (.istore 4, 2) := by decide +kernel
theorem dX9_write_56 : decode cX9_write 56 = .ok (.iload 4, 2) := by decide +kernel
theorem dX9_write_58 : decode cX9_write 58 = .ok (.iload_n 3, 1) := by decide +kernel
theorem dX9_write_59 : decode cX9_write 59 = .ok (.if_icmp .ge 42, 3) := by decide +kernel
theorem dX9_write_62 : decode cX9_write 62 = .ok (.aload_n 0, 1) := by decide +kernel
theorem dX9_write_63 : decode cX9_write 63 = .ok (.getfield 13, 3) := by decide +kernel
theorem dX9_write_66 : decode cX9_write 66 = .ok (.aload_n 0, 1) := by decide +kernel
theorem dX9_write_67 : decode cX9_write 67 = .ok (.getfield 7, 3) := by decide +kernel
theorem dX9_write_70 : decode cX9_write 70 = .ok (.iconst 2, 1) := by decide +kernel
theorem dX9_write_71 : decode cX9_write 71 = .ok (.iaload, 1) := by decide +kernel
theorem dX9_write_72 : decode cX9_write 72 = .ok (.lload_n 1, 1) := by decide +kernel
theorem dX9_write_73 : decode cX9_write 73 = .ok (.bipush 56, 2) := by decide +kernel
theorem dX9_write_75 : decode cX9_write 75 = .ok (.bipush 8, 2) := by decide +kernel
theorem dX9_write_77 : decode cX9_write 77 = .ok (.iload 4, 2) := by decide +kernel
theorem dX9_write_79 : decode cX9_write 79 = .ok (.imul, 1) := by decide +kernel
theorem dX9_write_80 : decode cX9_write 80 = .ok (.isub, 1) := by decide +kernel
theorem dX9_write_81 : decode cX9_write 81 = .ok (.lshr, 1) := by decide +kernel
theorem dX9_write_82 : decode cX9_write 82 = .ok (.l2i, 1) := by decide +kernel
theorem dX9_write_83 : decode cX9_write 83 = .ok (.i2b, 1) := by decide +kernel
theorem dX9_write_84 : decode cX9_write 84 = .ok (.bastore, 1) := by decide +kernel
theorem dX9_write_85 : decode cX9_write 85 = .ok (.aload_n 0, 1) := by decide +kernel
theorem dX9_write_86 : decode cX9_write 86 = .ok (.getfield 7, 3) := by decide +kernel
theorem dX9_write_89 : decode cX9_write 89 = .ok (.iconst 2, 1) := by decide +kernel
theorem dX9_write_90 : decode cX9_write 90 = .ok (.dup2, 1) := by decide +kernel
theorem dX9_write_91 : decode cX9_write 91 = .ok (.iaload, 1) := by decide +kernel
theorem dX9_write_92 : decode cX9_write 92 = .ok (.iconst 1, 1) := by decide +kernel
theorem dX9_write_93 : decode cX9_write 93 = .ok (.iadd, 1) := by decide +kernel
theorem dX9_write_94 : decode cX9_write 94 = .ok (.iastore, 1) := by decide +kernel
theorem dX9_write_95 : decode cX9_write 95 = .ok (.iinc 4 1, 3) := by decide +kernel
theorem dX9_write_98 : decode cX9_write 98 = .ok (.goto (-42), 3) := by decide +kernel
theorem dX9_write_101 : decode cX9_write 101 = .ok (.aload_n 0, 1) := by decide +kernel
theorem dX9_write_102 : decode cX9_write 102 = .ok (.getfield 7, 3) := by decide +kernel
theorem dX9_write_105 : decode cX9_write 105 = .ok (.iconst 2, 1) := by decide +kernel
theorem dX9_write_106 : decode cX9_write 106 = .ok (.iaload, 1) := by decide +kernel
theorem dX9_write_107 : decode cX9_write 107 = .ok (.ireturn, 1) := by decide +kernel
abbrev rmX9_write : Room := { frames := 0, cells := 0, slots := 0, locals := 0 }
theorem inX9_write_9 : ∀ w ∈ wsX90, w ∈ wsX9_write := by decide +kernel
def vX9_write_c56 (J : Nat → Int64) (p1 : Int64) (Q : Int32 → (Nat → Int32) → (Nat → Int32) → (Nat → Int32) → Prop) : Nat → Int32 → Int32 → (Nat → Int32) → (Nat → Int32) → (Nat → Int32) → Prop
  | 0, _, _, _, _, _ => False
  | n + 1, x3, x4, F, al, tx => ((x3 ≤ x4 → (Q (al 2) F al tx)) ∧ (¬ x3 ≤ x4 → (∀ a_84 : Int32, a_84 = (((p1 >>> (((56 : Int32) - ((8 : Int32) * x4)).toInt64 &&& 63)).toInt32).toInt8.toInt32) → (vp_in (al 2) 2000 ∧ (vX9_write_c56 J p1 Q n x3 (x4 + (1 : Int32)) F (upd al 2 ((al 2) + (1 : Int32))) (upd tx (al 2).toNatClampNeg (vp_nar .byte a_84)))))))
set_option maxHeartbeats 4000000 in
set_option maxRecDepth 100000 in
theorem kX9_write_c56 {p : Program} {l : Launch} {e : Env} {s : State} {m : MethodId} {args : Array Value} {below : List Frame} {meth : Method} {c : Code} {g : GP} {qM : Nat} {q1 : Nat} {q2 : Nat} {q3 : Nat} {q4 : Nat} {q5 : Nat} {q6 : Nat} {q7 : Nat} {q8 : Nat} {q9 : Nat} {q10 : Nat} {q11 : Nat} {J : Nat → Int64} {p1 : Int64} {Q : Int32 → (Nat → Int32) → (Nat → Int32) → (Nat → Int32) → Prop} {A : Nat → Prop} (S : CallFix p m c cX9_write 5 s args wsX9_write RX9) (hr : meth.sig.returnType = (some .int)) (hlocks : meth.locks = false) (hG : GK g s) (hA : ∀ q : Nat, s.heap.size ≤ q → A q) : ∀ (n : Nat), ∀ (x3 : Int32) (x4 : Int32) (F : Nat → Int32) (al : Nat → Int32) (tx : Nat → Int32), vX9_write_c56 J p1 Q n x3 x4 F al tx → ∀ (H : Heap) (locs : List Loc), va_P g.1 vwCl [(qM, .inr (9, [.int (F 0), .ref q1, .ref q2, .ref q3, .int (F 4), .int (F 5), .int (F 6), .int (F 7), .int (F 8), .int (F 9), .long (J 10), .int (F 11), .int (F 12), .int (F 13), .ref q4, .int (F 15), .ref q5, .ref q6, .ref q7, .int (F 19), .ref q8, .int (F 21), .int (F 22), .int (F 23), .int (F 24), .ref q9, .ref q10, .ref q11, .long (J 28)])), (q1, .inl (g.2 0, 376, .inl al)), (q2, .inl (g.2 1, 2000, .inl tx))] H → va_D A [(qM, .inr (9, [.int (F 0), .ref q1, .ref q2, .ref q3, .int (F 4), .int (F 5), .int (F 6), .int (F 7), .int (F 8), .int (F 9), .long (J 10), .int (F 11), .int (F 12), .int (F 13), .ref q4, .int (F 15), .ref q5, .ref q6, .ref q7, .int (F 19), .ref q8, .int (F 21), .int (F 22), .int (F 23), .int (F 24), .ref q9, .ref q10, .ref q11, .long (J 28)])), (q1, .inl (g.2 0, 376, .inl al)), (q2, .inl (g.2 1, 2000, .inl tx))] → va_S A s.heap H locs → ∀ (ls : Array Slot), lv_has ls 5 [(0, .ref qM), (1, .long p1), (3, .int x3), (4, .int x4)] → W p l e (headSpec wsX9_write rmX9_write).room s m args below meth c H locs 0 0 (MQ below (va_Qi (fun (r : Int32) (u : (Nat → Int32) × (Nat → Int32) × (Nat → Int32)) => Q r u.1 u.2.1 u.2.2) (fun (u : (Nat → Int32) × (Nat → Int32) × (Nat → Int32)) t => va_P g.1 vwCl [(qM, .inr (9, [.int (u.1 0), .ref q1, .ref q2, .ref q3, .int (u.1 4), .int (u.1 5), .int (u.1 6), .int (u.1 7), .int (u.1 8), .int (u.1 9), .long (J 10), .int (u.1 11), .int (u.1 12), .int (u.1 13), .ref q4, .int (u.1 15), .ref q5, .ref q6, .ref q7, .int (u.1 19), .ref q8, .int (u.1 21), .int (u.1 22), .int (u.1 23), .int (u.1 24), .ref q9, .ref q10, .ref q11, .long (J 28)])), (q1, .inl (g.2 0, 376, .inl u.2.1)), (q2, .inl (g.2 1, 2000, .inl u.2.2))] t.heap ∧ va_D A [(qM, .inr (9, [.int (u.1 0), .ref q1, .ref q2, .ref q3, .int (u.1 4), .int (u.1 5), .int (u.1 6), .int (u.1 7), .int (u.1 8), .int (u.1 9), .long (J 10), .int (u.1 11), .int (u.1 12), .int (u.1 13), .ref q4, .int (u.1 15), .ref q5, .ref q6, .ref q7, .int (u.1 19), .ref q8, .int (u.1 21), .int (u.1 22), .int (u.1 23), .int (u.1 24), .ref q9, .ref q10, .ref q11, .long (J 28)])), (q1, .inl (g.2 0, 376, .inl u.2.1)), (q2, .inl (g.2 1, 2000, .inl u.2.2))]) A) args s 0 0 A) (F0 m 56 ls []) := by
  obtain ⟨hx, hb, hml, hown, hts⟩ := id S
  have hK := hG.1
  intro n
  induction n with
  | zero => intro x3 x4 F al tx hv; exact hv.elim
  | succ n ih =>
    intro x3 x4 F al tx hv H locs hP hD hS ls hl
    refine lv_iload hx hb dX9_write_56 (lv_at hl 3 rfl) ?_
    refine lv_iload_n hx hb dX9_write_58 rfl (lv_at hl 2 rfl) ?_
    obtain ⟨hvt, hvf⟩ := hv
    refine lv_icmp_ge (tgt := 101) hx hb dX9_write_59 (by decide) (fun hc => ?_) (fun hc => ?_)
    · have hv := hvt hc
      refine lv_aload_n hx hb dX9_write_101 rfl (lv_at hl 0 rfl) ?_
      refine va_get (D := g.1) (ci := 9) (v := .ref q1) (C := RX9) (T := TX9) (N := 29) hx hb hts inX9_write_9 hown hK hP 0 rfl rfl 1 (by decide) (hts (.fieldLink RX9 7 "RangeCodesModel" "all" "[I") (List.mem_of_getElem? (i := 3) rfl)) (fun _ h9 => h9) rfl dX9_write_102 ?_
      refine lv_iconst (v := (2 : Int32)) hx hb dX9_write_105 (by decide) ?_
      refine va_iald hx hb hK hP 1 0 rfl rfl (by unfold vp_in; decide) dX9_write_106 ?_
      have hP9 := hP.sub (ws' := [(qM, .inr (9, [.int (F 0), .ref q1, .ref q2, .ref q3, .int (F 4), .int (F 5), .int (F 6), .int (F 7), .int (F 8), .int (F 9), .long (J 10), .int (F 11), .int (F 12), .int (F 13), .ref q4, .int (F 15), .ref q5, .ref q6, .ref q7, .int (F 19), .ref q8, .int (F 21), .int (F 22), .int (F 23), .int (F 24), .ref q9, .ref q10, .ref q11, .long (J 28)])), (q1, .inl (g.2 0, 376, .inl al)), (q2, .inl (g.2 1, 2000, .inl tx))]) [0, 1, 2] rfl
      have hD9 := hD.sub (ws' := [(qM, .inr (9, [.int (F 0), .ref q1, .ref q2, .ref q3, .int (F 4), .int (F 5), .int (F 6), .int (F 7), .int (F 8), .int (F 9), .long (J 10), .int (F 11), .int (F 12), .int (F 13), .ref q4, .int (F 15), .ref q5, .ref q6, .ref q7, .int (F 19), .ref q8, .int (F 21), .int (F 22), .int (F 23), .int (F 24), .ref q9, .ref q10, .ref q11, .long (J 28)])), (q1, .inl (g.2 0, 376, .inl al)), (q2, .inl (g.2 1, 2000, .inl tx))]) [0, 1, 2] (by decide) rfl
      exact W.iret (v := (al 2)) hx hb hr (fun t ht hW => ⟨⟨_, (F, al, tx), rfl, hv, by rw [ht]; exact hP9, hD9⟩, hS.F ht⟩) hS.2.2 dX9_write_107
    · have hv := hvf hc
      refine lv_aload_n hx hb dX9_write_62 rfl (lv_at hl 0 rfl) ?_
      refine va_get (D := g.1) (ci := 9) (v := .ref q2) (C := RX9) (T := TX9) (N := 29) hx hb hts inX9_write_9 hown hK hP 0 rfl rfl 2 (by decide) (hts (.fieldLink RX9 13 "RangeCodesModel" "text" "[B") (List.mem_of_getElem? (i := 4) rfl)) (fun _ h9 => h9) rfl dX9_write_63 ?_
      refine lv_aload_n hx hb dX9_write_66 rfl (lv_at hl 0 rfl) ?_
      refine va_get (D := g.1) (ci := 9) (v := .ref q1) (C := RX9) (T := TX9) (N := 29) hx hb hts inX9_write_9 hown hK hP 0 rfl rfl 1 (by decide) (hts (.fieldLink RX9 7 "RangeCodesModel" "all" "[I") (List.mem_of_getElem? (i := 3) rfl)) (fun _ h9 => h9) rfl dX9_write_67 ?_
      refine lv_iconst (v := (2 : Int32)) hx hb dX9_write_70 (by decide) ?_
      refine va_iald hx hb hK hP 1 0 rfl rfl (by unfold vp_in; decide) dX9_write_71 ?_
      refine lv_lload_n hx hb dX9_write_72 rfl (lv_at hl 1 rfl) ?_
      refine lv_bipush (v := (56 : Int32)) hx hb dX9_write_73 (by decide) ?_
      refine lv_bipush (v := (8 : Int32)) hx hb dX9_write_75 (by decide) ?_
      refine lv_iload hx hb dX9_write_77 (lv_at hl 3 rfl) ?_
      refine lv_imul hx hb dX9_write_79 ?_
      refine lv_isub hx hb dX9_write_80 ?_
      refine lv_lshr (v := (p1 >>> (((56 : Int32) - ((8 : Int32) * x4)).toInt64 &&& 63))) hx hb dX9_write_81 rfl ?_
      refine lv_l2i (v := ((p1 >>> (((56 : Int32) - ((8 : Int32) * x4)).toInt64 &&& 63)).toInt32)) hx hb dX9_write_82 rfl ?_
      refine lv_i2b (v := (((p1 >>> (((56 : Int32) - ((8 : Int32) * x4)).toInt64 &&& 63)).toInt32).toInt8.toInt32)) hx hb dX9_write_83 rfl ?_
      refine lv_topi (fun a_84 ea_84 => ?_)
      have hv := hv a_84 ea_84
      obtain ⟨ho_1, hv⟩ := hv
      refine va_bast hx hb hK hP hD hS 2 1 rfl rfl ho_1 dX9_write_84 (fun H locs hP hD hS => ?_)
      have hP : va_P g.1 vwCl [(qM, .inr (9, [.int (F 0), .ref q1, .ref q2, .ref q3, .int (F 4), .int (F 5), .int (F 6), .int (F 7), .int (F 8), .int (F 9), .long (J 10), .int (F 11), .int (F 12), .int (F 13), .ref q4, .int (F 15), .ref q5, .ref q6, .ref q7, .int (F 19), .ref q8, .int (F 21), .int (F 22), .int (F 23), .int (F 24), .ref q9, .ref q10, .ref q11, .long (J 28)])), (q1, .inl (g.2 0, 376, .inl al)), (q2, .inl (g.2 1, 2000, .inl (upd tx (al 2).toNatClampNeg (vp_nar .byte a_84))))] H := hP
      have hD : va_D A [(qM, .inr (9, [.int (F 0), .ref q1, .ref q2, .ref q3, .int (F 4), .int (F 5), .int (F 6), .int (F 7), .int (F 8), .int (F 9), .long (J 10), .int (F 11), .int (F 12), .int (F 13), .ref q4, .int (F 15), .ref q5, .ref q6, .ref q7, .int (F 19), .ref q8, .int (F 21), .int (F 22), .int (F 23), .int (F 24), .ref q9, .ref q10, .ref q11, .long (J 28)])), (q1, .inl (g.2 0, 376, .inl al)), (q2, .inl (g.2 1, 2000, .inl (upd tx (al 2).toNatClampNeg (vp_nar .byte a_84))))] := hD
      refine lv_aload_n hx hb dX9_write_85 rfl (lv_at hl 0 rfl) ?_
      refine va_get (D := g.1) (ci := 9) (v := .ref q1) (C := RX9) (T := TX9) (N := 29) hx hb hts inX9_write_9 hown hK hP 0 rfl rfl 1 (by decide) (hts (.fieldLink RX9 7 "RangeCodesModel" "all" "[I") (List.mem_of_getElem? (i := 3) rfl)) (fun _ h9 => h9) rfl dX9_write_86 ?_
      refine lv_iconst (v := (2 : Int32)) hx hb dX9_write_89 (by decide) ?_
      refine lv_dup2_11 hx hb dX9_write_90 rfl rfl ?_
      refine va_iald hx hb hK hP 1 0 rfl rfl (by unfold vp_in; decide) dX9_write_91 ?_
      refine lv_iconst (v := (1 : Int32)) hx hb dX9_write_92 (by decide) ?_
      refine lv_iadd hx hb dX9_write_93 ?_
      refine va_iast hx hb hK hP hD hS 1 0 rfl rfl (by unfold vp_in; decide) dX9_write_94 (fun H locs hP hD hS => ?_)
      have hP : va_P g.1 vwCl [(qM, .inr (9, [.int (F 0), .ref q1, .ref q2, .ref q3, .int (F 4), .int (F 5), .int (F 6), .int (F 7), .int (F 8), .int (F 9), .long (J 10), .int (F 11), .int (F 12), .int (F 13), .ref q4, .int (F 15), .ref q5, .ref q6, .ref q7, .int (F 19), .ref q8, .int (F 21), .int (F 22), .int (F 23), .int (F 24), .ref q9, .ref q10, .ref q11, .long (J 28)])), (q1, .inl (g.2 0, 376, .inl (upd al 2 ((al 2) + (1 : Int32))))), (q2, .inl (g.2 1, 2000, .inl (upd tx (al 2).toNatClampNeg (vp_nar .byte a_84))))] H := hP
      have hD : va_D A [(qM, .inr (9, [.int (F 0), .ref q1, .ref q2, .ref q3, .int (F 4), .int (F 5), .int (F 6), .int (F 7), .int (F 8), .int (F 9), .long (J 10), .int (F 11), .int (F 12), .int (F 13), .ref q4, .int (F 15), .ref q5, .ref q6, .ref q7, .int (F 19), .ref q8, .int (F 21), .int (F 22), .int (F 23), .int (F 24), .ref q9, .ref q10, .ref q11, .long (J 28)])), (q1, .inl (g.2 0, 376, .inl (upd al 2 ((al 2) + (1 : Int32))))), (q2, .inl (g.2 1, 2000, .inl (upd tx (al 2).toNatClampNeg (vp_nar .byte a_84))))] := hD
      refine lv_iinc (v := (x4 + (1 : Int32))) (lv' := [(4, .int (x4 + (1 : Int32))), (0, .ref qM), (1, .long p1), (3, .int x3)]) hx hb dX9_write_95 hl (k := 3) rfl rfl (by decide) rfl (fun ls hl => ?_)
      refine lv_goto (tgt := 56) hx hb dX9_write_98 (by decide) ?_
      exact ih _ _ _ _ _ hv _ _ (hP.sub (ws' := [(qM, .inr (9, [.int (F 0), .ref q1, .ref q2, .ref q3, .int (F 4), .int (F 5), .int (F 6), .int (F 7), .int (F 8), .int (F 9), .long (J 10), .int (F 11), .int (F 12), .int (F 13), .ref q4, .int (F 15), .ref q5, .ref q6, .ref q7, .int (F 19), .ref q8, .int (F 21), .int (F 22), .int (F 23), .int (F 24), .ref q9, .ref q10, .ref q11, .long (J 28)])), (q1, .inl (g.2 0, 376, .inl (upd al 2 ((al 2) + (1 : Int32))))), (q2, .inl (g.2 1, 2000, .inl (upd tx (al 2).toNatClampNeg (vp_nar .byte a_84))))]) [0, 1, 2] rfl) (hD.sub (ws' := [(qM, .inr (9, [.int (F 0), .ref q1, .ref q2, .ref q3, .int (F 4), .int (F 5), .int (F 6), .int (F 7), .int (F 8), .int (F 9), .long (J 10), .int (F 11), .int (F 12), .int (F 13), .ref q4, .int (F 15), .ref q5, .ref q6, .ref q7, .int (F 19), .ref q8, .int (F 21), .int (F 22), .int (F 23), .int (F 24), .ref q9, .ref q10, .ref q11, .long (J 28)])), (q1, .inl (g.2 0, 376, .inl (upd al 2 ((al 2) + (1 : Int32))))), (q2, .inl (g.2 1, 2000, .inl (upd tx (al 2).toNatClampNeg (vp_nar .byte a_84))))]) [0, 1, 2] (by decide) rfl) hS ls (lv_sub hl [1, 2, 3, 0] rfl)
def vX9_write_c37 (J : Nat → Int64) (p1 : Int64) (Q : Int32 → (Nat → Int32) → (Nat → Int32) → (Nat → Int32) → Prop) (x3 : Int32) (F : Nat → Int32) (al : Nat → Int32) (tx : Nat → Int32) : Prop := ((((al 2) + x3) ≤ (500 : Int32) → (∃ nn, vX9_write_c56 J p1 Q nn x3 (0 : Int32) F al tx)) ∧ (¬ ((al 2) + x3) ≤ (500 : Int32) → (Q (-1 : Int32) F al tx)))
set_option maxHeartbeats 4000000 in
set_option maxRecDepth 100000 in
theorem kX9_write_c37 {p : Program} {l : Launch} {e : Env} {s : State} {m : MethodId} {args : Array Value} {below : List Frame} {meth : Method} {c : Code} {g : GP} {qM : Nat} {q1 : Nat} {q2 : Nat} {q3 : Nat} {q4 : Nat} {q5 : Nat} {q6 : Nat} {q7 : Nat} {q8 : Nat} {q9 : Nat} {q10 : Nat} {q11 : Nat} {J : Nat → Int64} {p1 : Int64} {Q : Int32 → (Nat → Int32) → (Nat → Int32) → (Nat → Int32) → Prop} {A : Nat → Prop} (S : CallFix p m c cX9_write 5 s args wsX9_write RX9) (hr : meth.sig.returnType = (some .int)) (hlocks : meth.locks = false) (hG : GK g s) (hA : ∀ q : Nat, s.heap.size ≤ q → A q) : ∀ (x3 : Int32) (F : Nat → Int32) (al : Nat → Int32) (tx : Nat → Int32), vX9_write_c37 J p1 Q x3 F al tx → ∀ (H : Heap) (locs : List Loc), va_P g.1 vwCl [(qM, .inr (9, [.int (F 0), .ref q1, .ref q2, .ref q3, .int (F 4), .int (F 5), .int (F 6), .int (F 7), .int (F 8), .int (F 9), .long (J 10), .int (F 11), .int (F 12), .int (F 13), .ref q4, .int (F 15), .ref q5, .ref q6, .ref q7, .int (F 19), .ref q8, .int (F 21), .int (F 22), .int (F 23), .int (F 24), .ref q9, .ref q10, .ref q11, .long (J 28)])), (q1, .inl (g.2 0, 376, .inl al)), (q2, .inl (g.2 1, 2000, .inl tx))] H → va_D A [(qM, .inr (9, [.int (F 0), .ref q1, .ref q2, .ref q3, .int (F 4), .int (F 5), .int (F 6), .int (F 7), .int (F 8), .int (F 9), .long (J 10), .int (F 11), .int (F 12), .int (F 13), .ref q4, .int (F 15), .ref q5, .ref q6, .ref q7, .int (F 19), .ref q8, .int (F 21), .int (F 22), .int (F 23), .int (F 24), .ref q9, .ref q10, .ref q11, .long (J 28)])), (q1, .inl (g.2 0, 376, .inl al)), (q2, .inl (g.2 1, 2000, .inl tx))] → va_S A s.heap H locs → ∀ (ls : Array Slot), lv_has ls 5 [(0, .ref qM), (1, .long p1), (3, .int x3)] → W p l e (headSpec wsX9_write rmX9_write).room s m args below meth c H locs 0 0 (MQ below (va_Qi (fun (r : Int32) (u : (Nat → Int32) × (Nat → Int32) × (Nat → Int32)) => Q r u.1 u.2.1 u.2.2) (fun (u : (Nat → Int32) × (Nat → Int32) × (Nat → Int32)) t => va_P g.1 vwCl [(qM, .inr (9, [.int (u.1 0), .ref q1, .ref q2, .ref q3, .int (u.1 4), .int (u.1 5), .int (u.1 6), .int (u.1 7), .int (u.1 8), .int (u.1 9), .long (J 10), .int (u.1 11), .int (u.1 12), .int (u.1 13), .ref q4, .int (u.1 15), .ref q5, .ref q6, .ref q7, .int (u.1 19), .ref q8, .int (u.1 21), .int (u.1 22), .int (u.1 23), .int (u.1 24), .ref q9, .ref q10, .ref q11, .long (J 28)])), (q1, .inl (g.2 0, 376, .inl u.2.1)), (q2, .inl (g.2 1, 2000, .inl u.2.2))] t.heap ∧ va_D A [(qM, .inr (9, [.int (u.1 0), .ref q1, .ref q2, .ref q3, .int (u.1 4), .int (u.1 5), .int (u.1 6), .int (u.1 7), .int (u.1 8), .int (u.1 9), .long (J 10), .int (u.1 11), .int (u.1 12), .int (u.1 13), .ref q4, .int (u.1 15), .ref q5, .ref q6, .ref q7, .int (u.1 19), .ref q8, .int (u.1 21), .int (u.1 22), .int (u.1 23), .int (u.1 24), .ref q9, .ref q10, .ref q11, .long (J 28)])), (q1, .inl (g.2 0, 376, .inl u.2.1)), (q2, .inl (g.2 1, 2000, .inl u.2.2))]) A) args s 0 0 A) (F0 m 37 ls []) := by
  obtain ⟨hx, hb, hml, hown, hts⟩ := id S
  have hK := hG.1
  intro x3 F al tx hv H locs hP hD hS ls hl
  unfold vX9_write_c37 at hv
  refine lv_aload_n hx hb dX9_write_37 rfl (lv_at hl 0 rfl) ?_
  refine va_get (D := g.1) (ci := 9) (v := .ref q1) (C := RX9) (T := TX9) (N := 29) hx hb hts inX9_write_9 hown hK hP 0 rfl rfl 1 (by decide) (hts (.fieldLink RX9 7 "RangeCodesModel" "all" "[I") (List.mem_of_getElem? (i := 3) rfl)) (fun _ h9 => h9) rfl dX9_write_38 ?_
  refine lv_iconst (v := (2 : Int32)) hx hb dX9_write_41 (by decide) ?_
  refine va_iald hx hb hK hP 1 0 rfl rfl (by unfold vp_in; decide) dX9_write_42 ?_
  refine lv_iload_n hx hb dX9_write_43 rfl (lv_at hl 2 rfl) ?_
  refine lv_iadd hx hb dX9_write_44 ?_
  refine lv_sipush (v := (500 : Int32)) hx hb dX9_write_45 (by decide) ?_
  obtain ⟨hvt, hvf⟩ := hv
  refine lv_icmp_le (tgt := 53) hx hb dX9_write_48 (by decide) (fun hc => ?_) (fun hc => ?_)
  · have hv := hvt hc
    refine lv_iconst (v := (0 : Int32)) hx hb dX9_write_53 (by decide) ?_
    refine lv_istore (lv' := [(4, .int (0 : Int32)), (0, .ref qM), (1, .long p1), (3, .int x3)]) hx hb dX9_write_54 hl (by decide) rfl (fun ls hl => ?_)
    obtain ⟨nn, hv⟩ := hv
    exact kX9_write_c56 S hr hlocks hG hA nn _ _ _ _ _ hv _ _ (hP.sub (ws' := [(qM, .inr (9, [.int (F 0), .ref q1, .ref q2, .ref q3, .int (F 4), .int (F 5), .int (F 6), .int (F 7), .int (F 8), .int (F 9), .long (J 10), .int (F 11), .int (F 12), .int (F 13), .ref q4, .int (F 15), .ref q5, .ref q6, .ref q7, .int (F 19), .ref q8, .int (F 21), .int (F 22), .int (F 23), .int (F 24), .ref q9, .ref q10, .ref q11, .long (J 28)])), (q1, .inl (g.2 0, 376, .inl al)), (q2, .inl (g.2 1, 2000, .inl tx))]) [0, 1, 2] rfl) (hD.sub (ws' := [(qM, .inr (9, [.int (F 0), .ref q1, .ref q2, .ref q3, .int (F 4), .int (F 5), .int (F 6), .int (F 7), .int (F 8), .int (F 9), .long (J 10), .int (F 11), .int (F 12), .int (F 13), .ref q4, .int (F 15), .ref q5, .ref q6, .ref q7, .int (F 19), .ref q8, .int (F 21), .int (F 22), .int (F 23), .int (F 24), .ref q9, .ref q10, .ref q11, .long (J 28)])), (q1, .inl (g.2 0, 376, .inl al)), (q2, .inl (g.2 1, 2000, .inl tx))]) [0, 1, 2] (by decide) rfl) hS ls (lv_sub hl [1, 2, 3, 0] rfl)
  · have hv := hvf hc
    refine lv_iconst (v := (-1 : Int32)) hx hb dX9_write_51 (by decide) ?_
    have hP9 := hP.sub (ws' := [(qM, .inr (9, [.int (F 0), .ref q1, .ref q2, .ref q3, .int (F 4), .int (F 5), .int (F 6), .int (F 7), .int (F 8), .int (F 9), .long (J 10), .int (F 11), .int (F 12), .int (F 13), .ref q4, .int (F 15), .ref q5, .ref q6, .ref q7, .int (F 19), .ref q8, .int (F 21), .int (F 22), .int (F 23), .int (F 24), .ref q9, .ref q10, .ref q11, .long (J 28)])), (q1, .inl (g.2 0, 376, .inl al)), (q2, .inl (g.2 1, 2000, .inl tx))]) [0, 1, 2] rfl
    have hD9 := hD.sub (ws' := [(qM, .inr (9, [.int (F 0), .ref q1, .ref q2, .ref q3, .int (F 4), .int (F 5), .int (F 6), .int (F 7), .int (F 8), .int (F 9), .long (J 10), .int (F 11), .int (F 12), .int (F 13), .ref q4, .int (F 15), .ref q5, .ref q6, .ref q7, .int (F 19), .ref q8, .int (F 21), .int (F 22), .int (F 23), .int (F 24), .ref q9, .ref q10, .ref q11, .long (J 28)])), (q1, .inl (g.2 0, 376, .inl al)), (q2, .inl (g.2 1, 2000, .inl tx))]) [0, 1, 2] (by decide) rfl
    exact W.iret (v := (-1 : Int32)) hx hb hr (fun t ht hW => ⟨⟨_, (F, al, tx), rfl, hv, by rw [ht]; exact hP9, hD9⟩, hS.F ht⟩) hS.2.2 dX9_write_52
def vX9_write_c7 (J : Nat → Int64) (p1 : Int64) (Q : Int32 → (Nat → Int32) → (Nat → Int32) → (Nat → Int32) → Prop) : Nat → Int32 → (Nat → Int32) → (Nat → Int32) → (Nat → Int32) → Prop
  | 0, _, _, _, _ => False
  | n + 1, x3, F, al, tx => (((8 : Int32) ≤ x3 → (vX9_write_c37 J p1 Q x3 F al tx)) ∧ (¬ (8 : Int32) ≤ x3 → (((lg_cmp ((p1 >>> (((56 : Int32) - ((8 : Int32) * x3)).toInt64 &&& 63)) &&& (255 : Int64)) (0 : Int64)) = 0 → (vX9_write_c37 J p1 Q x3 F al tx)) ∧ (¬ (lg_cmp ((p1 >>> (((56 : Int32) - ((8 : Int32) * x3)).toInt64 &&& 63)) &&& (255 : Int64)) (0 : Int64)) = 0 → (vX9_write_c7 J p1 Q n (x3 + (1 : Int32)) F al tx)))))
set_option maxHeartbeats 4000000 in
set_option maxRecDepth 100000 in
theorem kX9_write_c7 {p : Program} {l : Launch} {e : Env} {s : State} {m : MethodId} {args : Array Value} {below : List Frame} {meth : Method} {c : Code} {g : GP} {qM : Nat} {q1 : Nat} {q2 : Nat} {q3 : Nat} {q4 : Nat} {q5 : Nat} {q6 : Nat} {q7 : Nat} {q8 : Nat} {q9 : Nat} {q10 : Nat} {q11 : Nat} {J : Nat → Int64} {p1 : Int64} {Q : Int32 → (Nat → Int32) → (Nat → Int32) → (Nat → Int32) → Prop} {A : Nat → Prop} (S : CallFix p m c cX9_write 5 s args wsX9_write RX9) (hr : meth.sig.returnType = (some .int)) (hlocks : meth.locks = false) (hG : GK g s) (hA : ∀ q : Nat, s.heap.size ≤ q → A q) : ∀ (n : Nat), ∀ (x3 : Int32) (F : Nat → Int32) (al : Nat → Int32) (tx : Nat → Int32), vX9_write_c7 J p1 Q n x3 F al tx → ∀ (H : Heap) (locs : List Loc), va_P g.1 vwCl [(qM, .inr (9, [.int (F 0), .ref q1, .ref q2, .ref q3, .int (F 4), .int (F 5), .int (F 6), .int (F 7), .int (F 8), .int (F 9), .long (J 10), .int (F 11), .int (F 12), .int (F 13), .ref q4, .int (F 15), .ref q5, .ref q6, .ref q7, .int (F 19), .ref q8, .int (F 21), .int (F 22), .int (F 23), .int (F 24), .ref q9, .ref q10, .ref q11, .long (J 28)])), (q1, .inl (g.2 0, 376, .inl al)), (q2, .inl (g.2 1, 2000, .inl tx))] H → va_D A [(qM, .inr (9, [.int (F 0), .ref q1, .ref q2, .ref q3, .int (F 4), .int (F 5), .int (F 6), .int (F 7), .int (F 8), .int (F 9), .long (J 10), .int (F 11), .int (F 12), .int (F 13), .ref q4, .int (F 15), .ref q5, .ref q6, .ref q7, .int (F 19), .ref q8, .int (F 21), .int (F 22), .int (F 23), .int (F 24), .ref q9, .ref q10, .ref q11, .long (J 28)])), (q1, .inl (g.2 0, 376, .inl al)), (q2, .inl (g.2 1, 2000, .inl tx))] → va_S A s.heap H locs → ∀ (ls : Array Slot), lv_has ls 5 [(0, .ref qM), (1, .long p1), (3, .int x3)] → W p l e (headSpec wsX9_write rmX9_write).room s m args below meth c H locs 0 0 (MQ below (va_Qi (fun (r : Int32) (u : (Nat → Int32) × (Nat → Int32) × (Nat → Int32)) => Q r u.1 u.2.1 u.2.2) (fun (u : (Nat → Int32) × (Nat → Int32) × (Nat → Int32)) t => va_P g.1 vwCl [(qM, .inr (9, [.int (u.1 0), .ref q1, .ref q2, .ref q3, .int (u.1 4), .int (u.1 5), .int (u.1 6), .int (u.1 7), .int (u.1 8), .int (u.1 9), .long (J 10), .int (u.1 11), .int (u.1 12), .int (u.1 13), .ref q4, .int (u.1 15), .ref q5, .ref q6, .ref q7, .int (u.1 19), .ref q8, .int (u.1 21), .int (u.1 22), .int (u.1 23), .int (u.1 24), .ref q9, .ref q10, .ref q11, .long (J 28)])), (q1, .inl (g.2 0, 376, .inl u.2.1)), (q2, .inl (g.2 1, 2000, .inl u.2.2))] t.heap ∧ va_D A [(qM, .inr (9, [.int (u.1 0), .ref q1, .ref q2, .ref q3, .int (u.1 4), .int (u.1 5), .int (u.1 6), .int (u.1 7), .int (u.1 8), .int (u.1 9), .long (J 10), .int (u.1 11), .int (u.1 12), .int (u.1 13), .ref q4, .int (u.1 15), .ref q5, .ref q6, .ref q7, .int (u.1 19), .ref q8, .int (u.1 21), .int (u.1 22), .int (u.1 23), .int (u.1 24), .ref q9, .ref q10, .ref q11, .long (J 28)])), (q1, .inl (g.2 0, 376, .inl u.2.1)), (q2, .inl (g.2 1, 2000, .inl u.2.2))]) A) args s 0 0 A) (F0 m 7 ls []) := by
  obtain ⟨hx, hb, hml, hown, hts⟩ := id S
  have hK := hG.1
  intro n
  induction n with
  | zero => intro x3 F al tx hv; exact hv.elim
  | succ n ih =>
    intro x3 F al tx hv H locs hP hD hS ls hl
    refine lv_iload_n hx hb dX9_write_7 rfl (lv_at hl 2 rfl) ?_
    refine lv_bipush (v := (8 : Int32)) hx hb dX9_write_8 (by decide) ?_
    obtain ⟨hvt, hvf⟩ := hv
    refine lv_icmp_ge (tgt := 37) hx hb dX9_write_10 (by decide) (fun hc => ?_) (fun hc => ?_)
    · have hv := hvt hc
      exact kX9_write_c37 S hr hlocks hG hA _ _ _ _ hv _ _ (hP.sub (ws' := [(qM, .inr (9, [.int (F 0), .ref q1, .ref q2, .ref q3, .int (F 4), .int (F 5), .int (F 6), .int (F 7), .int (F 8), .int (F 9), .long (J 10), .int (F 11), .int (F 12), .int (F 13), .ref q4, .int (F 15), .ref q5, .ref q6, .ref q7, .int (F 19), .ref q8, .int (F 21), .int (F 22), .int (F 23), .int (F 24), .ref q9, .ref q10, .ref q11, .long (J 28)])), (q1, .inl (g.2 0, 376, .inl al)), (q2, .inl (g.2 1, 2000, .inl tx))]) [0, 1, 2] rfl) (hD.sub (ws' := [(qM, .inr (9, [.int (F 0), .ref q1, .ref q2, .ref q3, .int (F 4), .int (F 5), .int (F 6), .int (F 7), .int (F 8), .int (F 9), .long (J 10), .int (F 11), .int (F 12), .int (F 13), .ref q4, .int (F 15), .ref q5, .ref q6, .ref q7, .int (F 19), .ref q8, .int (F 21), .int (F 22), .int (F 23), .int (F 24), .ref q9, .ref q10, .ref q11, .long (J 28)])), (q1, .inl (g.2 0, 376, .inl al)), (q2, .inl (g.2 1, 2000, .inl tx))]) [0, 1, 2] (by decide) rfl) hS ls (lv_sub hl [0, 1, 2] rfl)
    · have hv := hvf hc
      refine lv_lload_n hx hb dX9_write_13 rfl (lv_at hl 1 rfl) ?_
      refine lv_bipush (v := (56 : Int32)) hx hb dX9_write_14 (by decide) ?_
      refine lv_bipush (v := (8 : Int32)) hx hb dX9_write_16 (by decide) ?_
      refine lv_iload_n hx hb dX9_write_18 rfl (lv_at hl 2 rfl) ?_
      refine lv_imul hx hb dX9_write_19 ?_
      refine lv_isub hx hb dX9_write_20 ?_
      refine lv_lshr (v := (p1 >>> (((56 : Int32) - ((8 : Int32) * x3)).toInt64 &&& 63))) hx hb dX9_write_21 rfl ?_
      refine lv_ldc2 (v := (255 : Int64)) hx hb hown (hts (.constantLong RX9 67 (255)) (List.mem_of_getElem? (i := 2) rfl)) dX9_write_22 ?_
      refine lv_land hx hb dX9_write_25 ?_
      refine lv_lconst (v := (0 : Int64)) hx hb dX9_write_26 (by decide) ?_
      refine W.lcmp hx hb dX9_write_27 ?_
      obtain ⟨hvt, hvf⟩ := hv
      refine lv_if_eq (tgt := 37) hx hb dX9_write_28 (by decide) (fun hc => ?_) (fun hc => ?_)
      · have hv := hvt hc
        exact kX9_write_c37 S hr hlocks hG hA _ _ _ _ hv _ _ (hP.sub (ws' := [(qM, .inr (9, [.int (F 0), .ref q1, .ref q2, .ref q3, .int (F 4), .int (F 5), .int (F 6), .int (F 7), .int (F 8), .int (F 9), .long (J 10), .int (F 11), .int (F 12), .int (F 13), .ref q4, .int (F 15), .ref q5, .ref q6, .ref q7, .int (F 19), .ref q8, .int (F 21), .int (F 22), .int (F 23), .int (F 24), .ref q9, .ref q10, .ref q11, .long (J 28)])), (q1, .inl (g.2 0, 376, .inl al)), (q2, .inl (g.2 1, 2000, .inl tx))]) [0, 1, 2] rfl) (hD.sub (ws' := [(qM, .inr (9, [.int (F 0), .ref q1, .ref q2, .ref q3, .int (F 4), .int (F 5), .int (F 6), .int (F 7), .int (F 8), .int (F 9), .long (J 10), .int (F 11), .int (F 12), .int (F 13), .ref q4, .int (F 15), .ref q5, .ref q6, .ref q7, .int (F 19), .ref q8, .int (F 21), .int (F 22), .int (F 23), .int (F 24), .ref q9, .ref q10, .ref q11, .long (J 28)])), (q1, .inl (g.2 0, 376, .inl al)), (q2, .inl (g.2 1, 2000, .inl tx))]) [0, 1, 2] (by decide) rfl) hS ls (lv_sub hl [0, 1, 2] rfl)
      · have hv := hvf hc
        refine lv_iinc (v := (x3 + (1 : Int32))) (lv' := [(3, .int (x3 + (1 : Int32))), (0, .ref qM), (1, .long p1)]) hx hb dX9_write_31 hl (k := 2) rfl rfl (by decide) rfl (fun ls hl => ?_)
        refine lv_goto (tgt := 7) hx hb dX9_write_34 (by decide) ?_
        exact ih _ _ _ _ hv _ _ (hP.sub (ws' := [(qM, .inr (9, [.int (F 0), .ref q1, .ref q2, .ref q3, .int (F 4), .int (F 5), .int (F 6), .int (F 7), .int (F 8), .int (F 9), .long (J 10), .int (F 11), .int (F 12), .int (F 13), .ref q4, .int (F 15), .ref q5, .ref q6, .ref q7, .int (F 19), .ref q8, .int (F 21), .int (F 22), .int (F 23), .int (F 24), .ref q9, .ref q10, .ref q11, .long (J 28)])), (q1, .inl (g.2 0, 376, .inl al)), (q2, .inl (g.2 1, 2000, .inl tx))]) [0, 1, 2] rfl) (hD.sub (ws' := [(qM, .inr (9, [.int (F 0), .ref q1, .ref q2, .ref q3, .int (F 4), .int (F 5), .int (F 6), .int (F 7), .int (F 8), .int (F 9), .long (J 10), .int (F 11), .int (F 12), .int (F 13), .ref q4, .int (F 15), .ref q5, .ref q6, .ref q7, .int (F 19), .ref q8, .int (F 21), .int (F 22), .int (F 23), .int (F 24), .ref q9, .ref q10, .ref q11, .long (J 28)])), (q1, .inl (g.2 0, 376, .inl al)), (q2, .inl (g.2 1, 2000, .inl tx))]) [0, 1, 2] (by decide) rfl) hS ls (lv_sub hl [1, 2, 0] rfl)
def vX9_write (F : Nat → Int32) (J : Nat → Int64) (al : Nat → Int32) (tx : Nat → Int32) (p1 : Int64) (Q : Int32 → (Nat → Int32) → (Nat → Int32) → (Nat → Int32) → Prop) : Prop := (∃ nn, vX9_write_c7 J p1 Q nn (0 : Int32) (upd F 0 (0 : Int32)) al tx)
set_option maxHeartbeats 4000000 in
set_option maxRecDepth 100000 in
theorem wX9_write (l : Launch) (g : GP) (qM : Nat) (q1 : Nat) (q2 : Nat) (q3 : Nat) (q4 : Nat) (q5 : Nat) (q6 : Nat) (q7 : Nat) (q8 : Nat) (q9 : Nat) (q10 : Nat) (q11 : Nat) (sz : Nat) (F : Nat → Int32) (J : Nat → Int64) (al : Nat → Int32) (tx : Nat → Int32) (p1 : Int64) {Q : Int32 → (Nat → Int32) → (Nat → Int32) → (Nat → Int32) → Prop} (hv : vX9_write F J al tx p1 Q) : Met l yX9_write wsX9_write rmX9_write (va_Pc [.ref qM, .long p1] (fun U => U.heap.size = sz ∧ va_P g.1 vwCl [(qM, .inr (9, [.int (F 0), .ref q1, .ref q2, .ref q3, .int (F 4), .int (F 5), .int (F 6), .int (F 7), .int (F 8), .int (F 9), .long (J 10), .int (F 11), .int (F 12), .int (F 13), .ref q4, .int (F 15), .ref q5, .ref q6, .ref q7, .int (F 19), .ref q8, .int (F 21), .int (F 22), .int (F 23), .int (F 24), .ref q9, .ref q10, .ref q11, .long (J 28)])), (q1, .inl (g.2 0, 376, .inl al)), (q2, .inl (g.2 1, 2000, .inl tx))] U.heap ∧ GK g U ∧ va_D (fun _ => True) [(qM, .inr (9, [.int (F 0), .ref q1, .ref q2, .ref q3, .int (F 4), .int (F 5), .int (F 6), .int (F 7), .int (F 8), .int (F 9), .long (J 10), .int (F 11), .int (F 12), .int (F 13), .ref q4, .int (F 15), .ref q5, .ref q6, .ref q7, .int (F 19), .ref q8, .int (F 21), .int (F 22), .int (F 23), .int (F 24), .ref q9, .ref q10, .ref q11, .long (J 28)])), (q1, .inl (g.2 0, 376, .inl al)), (q2, .inl (g.2 1, 2000, .inl tx))])) (va_Qi (fun (r : Int32) (u : (Nat → Int32) × (Nat → Int32) × (Nat → Int32)) => Q r u.1 u.2.1 u.2.2) (fun (u : (Nat → Int32) × (Nat → Int32) × (Nat → Int32)) t => va_P g.1 vwCl [(qM, .inr (9, [.int (u.1 0), .ref q1, .ref q2, .ref q3, .int (u.1 4), .int (u.1 5), .int (u.1 6), .int (u.1 7), .int (u.1 8), .int (u.1 9), .long (J 10), .int (u.1 11), .int (u.1 12), .int (u.1 13), .ref q4, .int (u.1 15), .ref q5, .ref q6, .ref q7, .int (u.1 19), .ref q8, .int (u.1 21), .int (u.1 22), .int (u.1 23), .int (u.1 24), .ref q9, .ref q10, .ref q11, .long (J 28)])), (q1, .inl (g.2 0, 376, .inl u.2.1)), (q2, .inl (g.2 1, 2000, .inl u.2.2))] t.heap ∧ va_D (va_A [(qM, .inr (9, [.int (F 0), .ref q1, .ref q2, .ref q3, .int (F 4), .int (F 5), .int (F 6), .int (F 7), .int (F 8), .int (F 9), .long (J 10), .int (F 11), .int (F 12), .int (F 13), .ref q4, .int (F 15), .ref q5, .ref q6, .ref q7, .int (F 19), .ref q8, .int (F 21), .int (F 22), .int (F 23), .int (F 24), .ref q9, .ref q10, .ref q11, .long (J 28)])), (q1, .inl (g.2 0, 376, .inl al)), (q2, .inl (g.2 1, 2000, .inl tx))] sz) [(qM, .inr (9, [.int (u.1 0), .ref q1, .ref q2, .ref q3, .int (u.1 4), .int (u.1 5), .int (u.1 6), .int (u.1 7), .int (u.1 8), .int (u.1 9), .long (J 10), .int (u.1 11), .int (u.1 12), .int (u.1 13), .ref q4, .int (u.1 15), .ref q5, .ref q6, .ref q7, .int (u.1 19), .ref q8, .int (u.1 21), .int (u.1 22), .int (u.1 23), .int (u.1 24), .ref q9, .ref q10, .ref q11, .long (J 28)])), (q1, .inl (g.2 0, 376, .inl u.2.1)), (q2, .inl (g.2 1, 2000, .inl u.2.2))]) (va_A [(qM, .inr (9, [.int (F 0), .ref q1, .ref q2, .ref q3, .int (F 4), .int (F 5), .int (F 6), .int (F 7), .int (F 8), .int (F 9), .long (J 10), .int (F 11), .int (F 12), .int (F 13), .ref q4, .int (F 15), .ref q5, .ref q6, .ref q7, .int (F 19), .ref q8, .int (F 21), .int (F 22), .int (F 23), .int (F 24), .ref q9, .ref q10, .ref q11, .long (J 28)])), (q1, .inl (g.2 0, 376, .inl al)), (q2, .inl (g.2 1, 2000, .inl tx))] sz)) 0 0 (va_A [(qM, .inr (9, [.int (F 0), .ref q1, .ref q2, .ref q3, .int (F 4), .int (F 5), .int (F 6), .int (F 7), .int (F 8), .int (F 9), .long (J 10), .int (F 11), .int (F 12), .int (F 13), .ref q4, .int (F 15), .ref q5, .ref q6, .ref q7, .int (F 19), .ref q8, .int (F 21), .int (F 22), .int (F 23), .int (F 24), .ref q9, .ref q10, .ref q11, .long (J 28)])), (q1, .inl (g.2 0, 376, .inl al)), (q2, .inl (g.2 1, 2000, .inl tx))] sz) := by
  refine Met.ofW (cc := cX9_write) (maxL := 5) (ret := (some .int)) (by decide) rfl ?_
  intro p e s m args below meth c s₁ B hml hv'
  obtain ⟨rfl, hsz, hP, hG, hD0⟩ := hv'
  have S : CallFix p m c cX9_write 5 s _ wsX9_write RX9 := ⟨B.exec, B.bytes, hml, findClass_of_methodNamed B.named, atoms_spec (ws := wsX9_write) B.pre⟩
  obtain ⟨hx, hb, hml, hown, hts⟩ := id S
  have hK := hG.1
  have hr := B.returns
  have hlocks := B.notSynchronized
  subst hsz
  have hD := hD0.self (sz := s.heap.size)
  generalize hAe : va_A [(qM, .inr (9, [.int (F 0), .ref q1, .ref q2, .ref q3, .int (F 4), .int (F 5), .int (F 6), .int (F 7), .int (F 8), .int (F 9), .long (J 10), .int (F 11), .int (F 12), .int (F 13), .ref q4, .int (F 15), .ref q5, .ref q6, .ref q7, .int (F 19), .ref q8, .int (F 21), .int (F 22), .int (F 23), .int (F 24), .ref q9, .ref q10, .ref q11, .long (J 28)])), (q1, .inl (g.2 0, 376, .inl al)), (q2, .inl (g.2 1, 2000, .inl tx))] s.heap.size = A at hD ⊢
  have hA : ∀ q : Nat, s.heap.size ≤ q → A q := fun q h => by rw [← hAe]; exact Or.inr h
  have hS : va_S A s.heap s.heap [] := va_S.rf
  clear hD0 hAe
  have hl := lv_entry ([.ref qM, .long p1]) (n := 5) (Nat.le_of_ble_eq_true rfl)
  rw [lg_entry_eq]
  generalize (lg_sl ([.ref qM, .long p1]) ++ List.replicate (5 - (lg_sl ([.ref qM, .long p1])).length) Slot.unset).toArray = ls at hl ⊢
  have hl : lv_has ls 5 [(0, .ref qM), (1, .long p1)] := hl
  unfold vX9_write at hv
  refine lv_aload_n hx hb dX9_write_0 rfl (lv_at hl 0 rfl) ?_
  refine lv_iconst (v := (0 : Int32)) hx hb dX9_write_1 (by decide) ?_
  refine va_put (D := g.1) (ci := 9) (v := .int (0 : Int32)) (ty := .int) (C := RX9) (T := TX9) (N := 29) hx hb hts inX9_write_9 tyX9 tyX9_ok nmX9 hown hK hP hD hS 0 rfl rfl 0 (by decide) (hts (.fieldLink RX9 51 "RangeCodesModel" "raised" "I") (List.mem_of_getElem? (i := 1) rfl)) (fun _ h9 => h9) rfl (by decide +kernel) rfl rfl (Nat.le_of_ble_eq_true rfl) dX9_write_2 (fun H locs hP hD hS => ?_)
  have hP : va_P g.1 vwCl [(qM, .inr (9, [.int (0 : Int32), .ref q1, .ref q2, .ref q3, .int (F 4), .int (F 5), .int (F 6), .int (F 7), .int (F 8), .int (F 9), .long (J 10), .int (F 11), .int (F 12), .int (F 13), .ref q4, .int (F 15), .ref q5, .ref q6, .ref q7, .int (F 19), .ref q8, .int (F 21), .int (F 22), .int (F 23), .int (F 24), .ref q9, .ref q10, .ref q11, .long (J 28)])), (q1, .inl (g.2 0, 376, .inl al)), (q2, .inl (g.2 1, 2000, .inl tx))] H := hP
  have hD : va_D A [(qM, .inr (9, [.int (0 : Int32), .ref q1, .ref q2, .ref q3, .int (F 4), .int (F 5), .int (F 6), .int (F 7), .int (F 8), .int (F 9), .long (J 10), .int (F 11), .int (F 12), .int (F 13), .ref q4, .int (F 15), .ref q5, .ref q6, .ref q7, .int (F 19), .ref q8, .int (F 21), .int (F 22), .int (F 23), .int (F 24), .ref q9, .ref q10, .ref q11, .long (J 28)])), (q1, .inl (g.2 0, 376, .inl al)), (q2, .inl (g.2 1, 2000, .inl tx))] := hD
  refine lv_iconst (v := (0 : Int32)) hx hb dX9_write_5 (by decide) ?_
  refine lv_istore_n (lv' := [(3, .int (0 : Int32)), (0, .ref qM), (1, .long p1)]) hx hb dX9_write_6 rfl hl (by decide) rfl (fun ls hl => ?_)
  obtain ⟨nn, hv⟩ := hv
  exact kX9_write_c7 S hr hlocks hG hA nn _ _ _ _ hv _ _ (hP.sub (ws' := [(qM, .inr (9, [.int ((upd F 0 (0 : Int32)) 0), .ref q1, .ref q2, .ref q3, .int ((upd F 0 (0 : Int32)) 4), .int ((upd F 0 (0 : Int32)) 5), .int ((upd F 0 (0 : Int32)) 6), .int ((upd F 0 (0 : Int32)) 7), .int ((upd F 0 (0 : Int32)) 8), .int ((upd F 0 (0 : Int32)) 9), .long (J 10), .int ((upd F 0 (0 : Int32)) 11), .int ((upd F 0 (0 : Int32)) 12), .int ((upd F 0 (0 : Int32)) 13), .ref q4, .int ((upd F 0 (0 : Int32)) 15), .ref q5, .ref q6, .ref q7, .int ((upd F 0 (0 : Int32)) 19), .ref q8, .int ((upd F 0 (0 : Int32)) 21), .int ((upd F 0 (0 : Int32)) 22), .int ((upd F 0 (0 : Int32)) 23), .int ((upd F 0 (0 : Int32)) 24), .ref q9, .ref q10, .ref q11, .long (J 28)])), (q1, .inl (g.2 0, 376, .inl al)), (q2, .inl (g.2 1, 2000, .inl tx))]) [0, 1, 2] rfl) (hD.sub (ws' := [(qM, .inr (9, [.int ((upd F 0 (0 : Int32)) 0), .ref q1, .ref q2, .ref q3, .int ((upd F 0 (0 : Int32)) 4), .int ((upd F 0 (0 : Int32)) 5), .int ((upd F 0 (0 : Int32)) 6), .int ((upd F 0 (0 : Int32)) 7), .int ((upd F 0 (0 : Int32)) 8), .int ((upd F 0 (0 : Int32)) 9), .long (J 10), .int ((upd F 0 (0 : Int32)) 11), .int ((upd F 0 (0 : Int32)) 12), .int ((upd F 0 (0 : Int32)) 13), .ref q4, .int ((upd F 0 (0 : Int32)) 15), .ref q5, .ref q6, .ref q7, .int ((upd F 0 (0 : Int32)) 19), .ref q8, .int ((upd F 0 (0 : Int32)) 21), .int ((upd F 0 (0 : Int32)) 22), .int ((upd F 0 (0 : Int32)) 23), .int ((upd F 0 (0 : Int32)) 24), .ref q9, .ref q10, .ref q11, .long (J 28)])), (q1, .inl (g.2 0, 376, .inl al)), (q2, .inl (g.2 1, 2000, .inl tx))]) [0, 1, 2] (by decide) rfl) hS ls (lv_sub hl [1, 2, 0] rfl)
theorem by_eq (x : Int64) {s : Nat} (hs : s ≤ 56) : ((x >>> ((nI s).toInt64 &&& 63)).toInt32).toInt8 = (((x.toUInt64 >>> ((nI s).toInt64.toUInt64 &&& Int64.toUInt64 63)).toInt64).toInt32).toInt8 := by
  rw [wb_c s (by omega), wb_cu s (by omega)]
  apply Int8.toBitVec_inj.mp
  rw [Int32.toBitVec_toInt8, Int32.toBitVec_toInt8, Int64.toBitVec_toInt32, Int64.toBitVec_toInt32]
  have e1 : (x >>> lN s).toBitVec = x.toBitVec.sshiftRight s := by
    rw [Int64.toBitVec_shiftRight, wb_tb, wb_sm s (by omega)]
    show x.toBitVec.sshiftRight (BitVec.ofNat 64 s).toNat = _
    rw [BitVec.toNat_ofNat, Nat.mod_eq_of_lt (by omega)]
  have e2 : ((x.toUInt64 >>> UInt64.ofNat s).toInt64).toBitVec = x.toBitVec >>> s := by
    apply BitVec.eq_of_toNat_eq
    show (x.toUInt64 >>> UInt64.ofNat s).toNat = _
    rw [UInt64.toNat_shiftRight, u_tn (by omega), Nat.mod_eq_of_lt (by omega), BitVec.toNat_ushiftRight]
    rfl
  rw [e1, e2]
  apply BitVec.eq_of_getLsbD_eq
  intro i hi
  rw [BitVec.getLsbD_signExtend, BitVec.getLsbD_signExtend, BitVec.getLsbD_signExtend, BitVec.getLsbD_signExtend, BitVec.getLsbD_sshiftRight, BitVec.getLsbD_ushiftRight]
  simp [show i < 32 by omega, show i < 64 by omega, show ¬ 64 ≤ i by omega, show s + i < 64 by omega]
theorem by_and (y : Int64) : (y &&& (255 : Int64)) = 0 ↔ ((y.toInt32).toInt8.toInt32) = 0 := by
  have h1 : ((y.toInt32).toInt8).toBitVec.toNat = y.toBitVec.toNat % 256 := by
    rw [Int32.toBitVec_toInt8, Int64.toBitVec_toInt32, BitVec.signExtend_eq_setWidth_of_le _ (by decide), BitVec.signExtend_eq_setWidth_of_le _ (by decide), BitVec.toNat_setWidth, BitVec.toNat_setWidth]
    omega
  have h2 : (y &&& (255 : Int64)).toBitVec.toNat = y.toBitVec.toNat % 256 := by
    rw [Int64.toBitVec_and, BitVec.toNat_and]
    exact Nat.and_two_pow_sub_one_eq_mod y.toBitVec.toNat 8
  have h3 : ((y.toInt32).toInt8.toInt32) = 0 ↔ ((y.toInt32).toInt8).toBitVec.toNat = 0 := by
    constructor
    · intro h
      have h := congrArg Int32.toInt8 h
      rw [Int8.toInt8_toInt32] at h
      rw [h]; rfl
    · intro h
      have : (y.toInt32).toInt8 = 0 := Int8.toBitVec_inj.mp (BitVec.eq_of_toNat_eq (by rw [h]; rfl))
      rw [this]; rfl
  rw [h3, h1, ← h2]
  constructor
  · intro h; rw [h]; rfl
  · intro h; exact Int64.toBitVec_inj.mp (BitVec.eq_of_toNat_eq (by rw [h]; rfl))
theorem by_a (x : Int64) {k : Nat} (hk : k < 8) {x4 : Int32} (h4 : x4.toInt = (k : Int)) : (((x >>> (((56 : Int32) - ((8 : Int32) * x4)).toInt64 &&& 63)).toInt32).toInt8.toInt32) = bB x k := by
  have e : (56 : Int32) - ((8 : Int32) * x4) = nI (56 - 8 * k) := q_eqN (q_subN (a := 56) rfl (q_mulN (a := 8) rfl h4 (by omega)) (by omega) (by omega))
  unfold bB
  rw [← q_eqN h4, e, by_eq x (by omega)]
theorem by_0 (x : Int64) {k : Nat} (hk : k < 8) {x4 : Int32} (h4 : x4.toInt = (k : Int)) : ((lg_cmp ((x >>> (((56 : Int32) - ((8 : Int32) * x4)).toInt64 &&& 63)) &&& (255 : Int64)) (0 : Int64)) = 0) = (bB x k = 0) := by
  rw [← by_a x hk h4]
  exact propext ((lg_cmp_eq _ _).trans (by_and _))
theorem sX9_write_56 (nb c : Nat) (F : Nat → Int32) (J : Nat → Int64) (al : Nat → Int32) (tx : Nat → Int32) (p1 : Int64) (hb : (al 2).toInt = (nb : Int)) (h8 : c ≤ 8) (hfit : nb + c ≤ 500) (Q : Int32 → (Nat → Int32) → (Nat → Int32) → (Nat → Int32) → Prop) (hQ : ∀ (r : Int32) (al' : Nat → Int32), r.toInt = ((nb + c : Nat) : Int) → al' 2 = r → (∀ k, k ≠ 2 → al' k = al k) → Q r F al' (txK nb p1 tx c)) (x3 : Int32) (h3 : x3.toInt = (c : Int)) : ∀ (n k : Nat) (x4 : Int32) (al2 : Nat → Int32), x4.toInt = (k : Int) → (al2 2).toInt = ((nb + k : Nat) : Int) → (∀ j, j ≠ 2 → al2 j = al j) → k ≤ c → c + 1 ≤ k + n → vX9_write_c56 J p1 Q n x3 x4 F al2 (txK nb p1 tx k)
  | 0, k, x4, al2, _, _, _, hk, hn => absurd hn (by omega)
  | n + 1, k, x4, al2, h4, h2, hne, hk, hn => by
    rw [vX9_write_c56, q_le h3 h4]
    refine ⟨fun hc => ?_, fun hc a ha => ⟨q_in h2 (by omega), ?_⟩⟩
    · have : k = c := by omega
      subst this
      exact hQ _ _ h2 rfl hne
    · rw [by_a p1 (by omega) h4] at ha
      rw [q_cl h2, ha]
      exact sX9_write_56 nb c F J al tx p1 hb h8 hfit Q hQ x3 h3 n (k + 1) _ _ (q_1 h4 (by omega)) (by rw [upd_eq]; have h2s := q_1 h2 (by omega); exact h2s) (fun j hj => by rw [upd_ne hj]; exact hne j hj) (by omega) (by omega)
theorem sX9_write_37 (nb : Nat) (F : Nat → Int32) (J : Nat → Int64) (al : Nat → Int32) (tx : Nat → Int32) (p1 : Int64) (hb : (al 2).toInt = (nb : Int)) (hnb : nb ≤ 500) (Q : Int32 → (Nat → Int32) → (Nat → Int32) → (Nat → Int32) → Prop) (hQ : ∀ (r : Int32) (al' : Nat → Int32), r.toInt = spWrite nb p1 → (al' 2).toInt = (nbW nb p1 : Int) → (∀ k, k ≠ 2 → al' k = al k) → Q r F al' (txW nb p1 tx)) (x3 : Int32) (h3 : x3.toInt = (cB p1 : Int)) : vX9_write_c37 J p1 Q x3 F al tx := by
  have h8 := cB_le p1
  have e := q_addN hb h3 (by omega)
  unfold vX9_write_c37
  rw [fa_le, e, z500]
  refine ⟨fun hc => ⟨cB p1 + 1, sX9_write_56 nb (cB p1) F J al tx p1 hb h8 (by omega) Q (fun r al' hr h2 hk => ?_) x3 h3 _ 0 0 al rfl hb (fun _ _ => rfl) (by omega) (by omega)⟩, fun hc => ?_⟩
  · have := hQ r al' (by unfold spWrite; rw [if_pos (by omega)]; exact hr) (by unfold nbW; rw [if_pos (by omega), h2]; exact hr) hk
    unfold txW at this
    rw [if_pos (by omega)] at this; exact this
  · have := hQ (-1) al (by unfold spWrite; rw [if_neg (by omega)]; rfl) (by unfold nbW; rw [if_neg (by omega)]; exact hb) (fun _ _ => rfl)
    unfold txW at this
    rw [if_neg (by omega)] at this; exact this
theorem sX9_write_7 (nb : Nat) (F : Nat → Int32) (J : Nat → Int64) (al : Nat → Int32) (tx : Nat → Int32) (p1 : Int64) (hb : (al 2).toInt = (nb : Int)) (hnb : nb ≤ 500) (Q : Int32 → (Nat → Int32) → (Nat → Int32) → (Nat → Int32) → Prop) (hQ : ∀ (r : Int32) (al' : Nat → Int32), r.toInt = spWrite nb p1 → (al' 2).toInt = (nbW nb p1 : Int) → (∀ k, k ≠ 2 → al' k = al k) → Q r F al' (txW nb p1 tx)) : ∀ (n k : Nat) (x3 : Int32), x3.toInt = (k : Int) → (∀ j, j < k → ¬ bB p1 j = 0) → k ≤ 8 → 9 ≤ k + n → vX9_write_c7 J p1 Q n x3 F al tx
  | 0, k, x3, _, _, hk, hn => absurd hn (by omega)
  | n + 1, k, x3, h3, hz, hk, hn => by
    rw [vX9_write_c7, fa_le, z8, h3]
    refine ⟨fun hc => ?_, fun hc => ?_⟩
    · have : k = 8 := by omega
      subst this
      refine sX9_write_37 nb F J al tx p1 hb hnb Q hQ x3 ?_
      have e : cB p1 = 8 := ff_none (fun j hj => decide_eq_false (hz j hj))
      rw [e]; exact h3
    · rw [by_0 p1 (by omega) h3]
      refine ⟨fun q => ?_, fun q => sX9_write_7 nb F J al tx p1 hb hnb Q hQ n (k + 1) _ (q_1 h3 (by omega)) (fun j hj => ?_) (by omega) (by omega)⟩
      · refine sX9_write_37 nb F J al tx p1 hb hnb Q hQ x3 ?_
        have e : cB p1 = k := ff_eq (by omega) (decide_eq_true q) (fun j hj => decide_eq_false (hz j hj))
        rw [e]; exact h3
      · by_cases e : j = k
        · subst e; exact q
        · exact hz j (by omega)
abbrev preX9_write (F : Nat → Int32) (J : Nat → Int64) (al : Nat → Int32) (tx : Nat → Int32) (p1 : Int64) : Prop := 0 ≤ (al 2).toInt ∧ (al 2).toInt ≤ 500
abbrev postX9_write (F : Nat → Int32) (J : Nat → Int64) (al : Nat → Int32) (tx : Nat → Int32) (p1 : Int64) (r : Int32) (F' : Nat → Int32) (al' : Nat → Int32) (tx' : Nat → Int32) : Prop := r.toInt = spWrite (al 2).toInt.toNat p1 ∧ (al' 2).toInt = (nbW (al 2).toInt.toNat p1 : Int) ∧ (∀ k, k ≠ 2 → al' k = al k) ∧ tx' = txW (al 2).toInt.toNat p1 tx
theorem sX9_write (F : Nat → Int32) (J : Nat → Int64) (al : Nat → Int32) (tx : Nat → Int32) (p1 : Int64) (H : preX9_write F J al tx p1) : vX9_write F J al tx p1 (postX9_write F J al tx p1) := ⟨9, sX9_write_7 (al 2).toInt.toNat (upd F 0 (0 : Int32)) J al tx p1 (by have := H.1; omega) (by have := H.2; omega) _ (fun r al' h1 h2 h3 => ⟨h1, h2, h3, rfl⟩) 9 0 0 rfl (fun j hj => absurd hj (by omega)) (by omega) (by omega)⟩
