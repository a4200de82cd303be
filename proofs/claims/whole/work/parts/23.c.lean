set_option maxRecDepth 20000 in
theorem ggX6_countAll_J7_fill_53178 : GoodIn wsX6_countAll wsJ7_fill_53178 := goodIn_r _ [6] (by decide +kernel) (by decide +kernel)
set_option maxRecDepth 20000 in
theorem gX6_countAll_J7_fill_53178 : GoodIn wsX6_countAll (va_wsS RX6 46 yJ7_fill_53178 wsJ7_fill_53178) := goodIn_app (goodIn_of _ (by decide +kernel)) ggX6_countAll_J7_fill_53178
set_option maxRecDepth 20000 in
theorem ggX6_countAll_X6_kinOf : GoodIn wsX6_countAll wsX6_kinOf := goodIn_r _ [11, 12, 2, 13, 14, 15, 16, 17, 18, 40, 41, 42, 43, 44, 45, 46] (by decide +kernel) (by decide +kernel)
set_option maxRecDepth 20000 in
theorem gX6_countAll_X6_kinOf : GoodIn wsX6_countAll (wsV RX6 52 RX6 yX6_kinOf wsX6_kinOf) := goodIn_app (goodIn_of _ (by decide +kernel)) ggX6_countAll_X6_kinOf
set_option maxRecDepth 20000 in
theorem ggX6_countAll_X6_countKin : GoodIn wsX6_countAll wsX6_countKin := goodIn_r _ [22, 2, 12, 23, 16, 14, 17, 18, 13, 15, 3, 4, 5, 6, 24, 25, 26, 10, 27, 28, 29, 30, 40, 41, 42, 43, 44, 45, 46] (by decide +kernel) (by decide +kernel)
set_option maxRecDepth 20000 in
theorem gX6_countAll_X6_countKin : GoodIn wsX6_countAll (wsV RX6 56 RX6 yX6_countKin wsX6_countKin) := goodIn_app (goodIn_of _ (by decide +kernel)) ggX6_countAll_X6_countKin
set_option maxRecDepth 20000 in
theorem ggX6_countAll_X6_mix : GoodIn wsX6_countAll wsX6_mix := goodIn_r _ [34, 35, 1, 23, 36, 37, 38, 39, 3, 4, 5, 6, 40, 41, 42, 43, 44, 45, 46] (by decide +kernel) (by decide +kernel)
set_option maxRecDepth 20000 in
theorem gX6_countAll_X6_mix : GoodIn wsX6_countAll (wsV RX6 60 RX6 yX6_mix wsX6_mix) := goodIn_app (goodIn_of _ (by decide +kernel)) ggX6_countAll_X6_mix
theorem dX6_countAll_0 : decode cX6_countAll 0 = .ok (.aload_n 0, 1) := by decide +kernel
theorem dX6_countAll_1 : decode cX6_countAll 1 = .ok (.getfield 18, 3) := by decide +kernel
theorem dX6_countAll_4 : decode cX6_countAll 4 = .ok (.iconst 0, 1) := by decide +kernel
theorem dX6_countAll_5 : decode cX6_countAll 5 = .ok (.invokestatic 46, 3) := by decide +kernel
theorem dX6_countAll_8 : decode cX6_countAll 8 = .ok (.aload_n 0, 1) := by decide +kernel
theorem dX6_countAll_9 : decode cX6_countAll 9 = .ok (.getfield 18, 3) := by decide +kernel
theorem dX6_countAll_12 : decode cX6_countAll 12 = .ok (.iconst 0, 1) := by decide +kernel
theorem dX6_countAll_13 : decode cX6_countAll 13 = .ok (.iconst 1, 1) := by decide +kernel
theorem dX6_countAll_14 : decode cX6_countAll 14 = .ok (.iastore, 1) := by decide +kernel
theorem dX6_countAll_15 : decode cX6_countAll 15 = .ok (.iconst 0, 1) := by decide +kernel
theorem dX6_countAll_16 : decode cX6_countAll 16 = .ok (.istore_n 1, 1) := by decide +kernel
theorem dX6_countAll_17 : decode cX6_countAll 17 = .ok (.iconst 0, 1) := by decide +kernel
theorem dX6_countAll_18 : decode cX6_countAll 18 = .ok (.istore_n 2, 1) := by decide +kernel
theorem dX6_countAll_19 : decode cX6_countAll 19 = .ok (.iload_n 2, 1) := by decide +kernel
theorem dX6_countAll_20 : decode cX6_countAll 20 = .ok (.aload_n 0, 1) := by decide +kernel
theorem dX6_countAll_21 : decode cX6_countAll 21 = .ok (.getfield 34, 3) := by decide +kernel
theorem dX6_countAll_24 : decode cX6_countAll 24 = .ok (.if_icmp .ge 36, 3) := by decide +kernel
theorem dX6_countAll_27 : decode cX6_countAll 27 = .ok (.iload_n 1, 1) := by decide +kernel
theorem dX6_countAll_28 : decode cX6_countAll 28 = .ok (.iload_n 2, 1) := by decide +kernel
theorem dX6_countAll_29 : decode cX6_countAll 29 = .ok (.ishr, 1) := by decide +kernel
theorem dX6_countAll_30 : decode cX6_countAll 30 = .ok (.iconst 1, 1) := by decide +kernel
theorem dX6_countAll_31 : decode cX6_countAll 31 = .ok (.iand, 1) := by decide +kernel
theorem dX6_countAll_32 : decode cX6_countAll 32 = .ok (.ifCond .ne 22, 3) := by decide +kernel
theorem dX6_countAll_35 : decode cX6_countAll 35 = .ok (.aload_n 0, 1) := by decide +kernel
theorem dX6_countAll_36 : decode cX6_countAll 36 = .ok (.iload_n 2, 1) := by decide +kernel
theorem dX6_countAll_37 : decode cX6_countAll 37 = .ok (.invokevirtual 52, 3) := by decide +kernel
theorem dX6_countAll_40 : decode cX6_countAll 40 = .ok (.istore_n 3, 1) := by decide +kernel
theorem dX6_countAll_41 : decode cX6_countAll 41 = .ok (.aload_n 0, 1) := by decide +kernel
theorem dX6_countAll_42 : decode cX6_countAll 42 = .ok (.iload_n 3, 1) := by decide +kernel
theorem dX6_countAll_43 : decode cX6_countAll 43 = .ok (.invokevirtual 56, 3) := by decide +kernel
theorem dX6_countAll_46 : decode cX6_countAll 46 = .ok (.aload_n 0, 1) := by decide +kernel
theorem dX6_countAll_47 : decode cX6_countAll 47 = .ok (.invokevirtual 60, 3) := by decide +kernel
theorem dX6_countAll_50 : decode cX6_countAll 50 = .ok (.iload_n 1, 1) := by decide +kernel
theorem dX6_countAll_51 : decode cX6_countAll 51 = .ok (.iload_n 3, 1) := by decide +kernel
theorem dX6_countAll_52 : decode cX6_countAll 52 = .ok (.ior, 1) := by decide +kernel
theorem dX6_countAll_53 : decode cX6_countAll 53 = .ok (.istore_n 1, 1) := by decide +kernel
theorem dX6_countAll_54 : decode cX6_countAll 54 = .ok (.iinc 2 1, 3) := by decide +kernel
theorem dX6_countAll_57 : decode cX6_countAll 57 = .ok (.goto (-38), 3) := by decide +kernel
theorem dX6_countAll_60 : decode cX6_countAll 60 = .ok (.return_, 1) := by decide +kernel
abbrev rmX6_countAll : Room := { frames := 3, cells := 0, slots := 0, locals := 77 }
theorem inX6_countAll_6 : ∀ w ∈ wsX60, w ∈ wsX6_countAll := by decide +kernel
def vX6_countAll_c19 (pa6 : Int32) (rw6 : Int32) (le6 : Nat → Int32) (bi6 : Nat → Int32) (Q : (Nat → Int32) → (Nat → Int32) → (Nat → Int32) → Prop) : Nat → Int32 → Int32 → (Nat → Int32) → (Nat → Int32) → (Nat → Int32) → Prop
  | 0, _, _, _, _, _ => False
  | n + 1, x1, x2, co6, ki6, mi6 => ((rw6 ≤ x2 → (Q co6 ki6 mi6)) ∧ (¬ rw6 ≤ x2 → ((¬ ((x1 >>> (x2 &&& 31)) &&& (1 : Int32)) = 0 → (vX6_countAll_c19 pa6 rw6 le6 bi6 Q n x1 (x2 + (1 : Int32)) co6 ki6 mi6)) ∧ (((x1 >>> (x2 &&& 31)) &&& (1 : Int32)) = 0 → (∃ (R_37 : Cd) (r0_37 : Nat), preX6_kinOf R_37 r0_37 pa6 rw6 le6 x2 ∧ (∀ r_37 : Int32, postX6_kinOf R_37 r0_37 pa6 rw6 le6 x2 r_37 → (∃ (R_43 : Cd) (K_43 : Nat), preX6_countKin R_43 K_43 pa6 rw6 le6 bi6 ki6 r_37 ∧ (∀ (ki6_43 : Nat → Int32), postX6_countKin R_43 K_43 pa6 rw6 le6 bi6 ki6 r_37 ki6_43 → (∃ (P_47 : Nat) (u_47 : Nat → Nat) (W_47 : Nat) (w_47 : Nat → Nat), preX6_mix P_47 u_47 W_47 w_47 pa6 rw6 co6 ki6_43 mi6 ∧ (∀ (co6_47 : Nat → Int32) (mi6_47 : Nat → Int32), postX6_mix P_47 u_47 W_47 w_47 pa6 rw6 co6 ki6_43 mi6 co6_47 mi6_47 → (vX6_countAll_c19 pa6 rw6 le6 bi6 Q n (x1 ||| r_37) (x2 + (1 : Int32)) co6_47 ki6_43 mi6_47)))))))))))
set_option maxHeartbeats 4000000 in
set_option maxRecDepth 100000 in
theorem kX6_countAll_c19 {p : Program} {l : Launch} {e : Env} {s : State} {m : MethodId} {args : Array Value} {below : List Frame} {meth : Method} {c : Code} {g : GP} {qty : Nat} {ql6 : Nat} {qb6 : Nat} {qc6 : Nat} {qk6 : Nat} {qm6 : Nat} {pa6 : Int32} {rw6 : Int32} {le6 : Nat → Int32} {bi6 : Nat → Int32}  {Q : (Nat → Int32) → (Nat → Int32) → (Nat → Int32) → Prop} {A : Nat → Prop} (S : CallFix p m c cX6_countAll 4 s args wsX6_countAll RX6) (hr : meth.sig.returnType = none) (hlocks : meth.locks = false) (hG : GK g s) (hA : ∀ q : Nat, s.heap.size ≤ q → A q) : ∀ (n : Nat), ∀ (x1 : Int32) (x2 : Int32) (co6 : Nat → Int32) (ki6 : Nat → Int32) (mi6 : Nat → Int32), vX6_countAll_c19 pa6 rw6 le6 bi6 Q n x1 x2 co6 ki6 mi6 → ∀ (H : Heap) (locs : List Loc), va_P g.1 vwCl [(qty, .inr (6, [.ref ql6, .ref qb6, .ref qc6, .ref qk6, .ref qm6, .int pa6, .int rw6])), (ql6, .inl (g.2 0, 6, .inl le6)), (qb6, .inl (g.2 0, 6, .inl bi6)), (qc6, .inl (g.2 0, 64, .inl co6)), (qk6, .inl (g.2 0, 64, .inl ki6)), (qm6, .inl (g.2 0, 64, .inl mi6))] H → va_D A [(qty, .inr (6, [.ref ql6, .ref qb6, .ref qc6, .ref qk6, .ref qm6, .int pa6, .int rw6])), (ql6, .inl (g.2 0, 6, .inl le6)), (qb6, .inl (g.2 0, 6, .inl bi6)), (qc6, .inl (g.2 0, 64, .inl co6)), (qk6, .inl (g.2 0, 64, .inl ki6)), (qm6, .inl (g.2 0, 64, .inl mi6))] → va_S A s.heap H locs → ∀ (ls : Array Slot), lv_has ls 4 [(0, .ref qty), (1, .int x1), (2, .int x2)] → W p l e (headSpec wsX6_countAll rmX6_countAll).room s m args below meth c H locs 0 0 (MQ below (va_Qv (fun (u : (Nat → Int32) × (Nat → Int32) × (Nat → Int32)) => Q u.1 u.2.1 u.2.2) (fun (u : (Nat → Int32) × (Nat → Int32) × (Nat → Int32)) t => va_P g.1 vwCl [(qty, .inr (6, [.ref ql6, .ref qb6, .ref qc6, .ref qk6, .ref qm6, .int pa6, .int rw6])), (ql6, .inl (g.2 0, 6, .inl le6)), (qb6, .inl (g.2 0, 6, .inl bi6)), (qc6, .inl (g.2 0, 64, .inl u.1)), (qk6, .inl (g.2 0, 64, .inl u.2.1)), (qm6, .inl (g.2 0, 64, .inl u.2.2))] t.heap ∧ va_D A [(qty, .inr (6, [.ref ql6, .ref qb6, .ref qc6, .ref qk6, .ref qm6, .int pa6, .int rw6])), (ql6, .inl (g.2 0, 6, .inl le6)), (qb6, .inl (g.2 0, 6, .inl bi6)), (qc6, .inl (g.2 0, 64, .inl u.1)), (qk6, .inl (g.2 0, 64, .inl u.2.1)), (qm6, .inl (g.2 0, 64, .inl u.2.2))]) A) args s 0 0 A) (F0 m 19 ls []) := by
  obtain ⟨hx, hb, hml, hown, hts⟩ := id S
  have hK := hG.1
  intro n
  induction n with
  | zero => intro x1 x2 co6 ki6 mi6 hv; exact hv.elim
  | succ n ih =>
    intro x1 x2 co6 ki6 mi6 hv H locs hP hD hS ls hl
    refine lv_iload_n hx hb dX6_countAll_19 rfl (lv_at hl 2 rfl) ?_
    refine lv_aload_n hx hb dX6_countAll_20 rfl (lv_at hl 0 rfl) ?_
    refine va_get (D := g.1) (ci := 6) (v := .int rw6) (C := RX6) (T := TX6) (N := 7) hx hb hts inX6_countAll_6 hown hK hP 0 rfl rfl 6 (by decide) (hts (.fieldLink RX6 34 "RangeCodes$Tally" "rows" "I") (List.mem_of_getElem? (i := 2) rfl)) (fun _ h9 => h9) rfl dX6_countAll_21 ?_
    obtain ⟨hvt, hvf⟩ := hv
    refine lv_icmp_ge (tgt := 60) hx hb dX6_countAll_24 (by decide) (fun hc => ?_) (fun hc => ?_)
    · have hv := hvt hc
      have hP9 := hP.sub (ws' := [(qty, .inr (6, [.ref ql6, .ref qb6, .ref qc6, .ref qk6, .ref qm6, .int pa6, .int rw6])), (ql6, .inl (g.2 0, 6, .inl le6)), (qb6, .inl (g.2 0, 6, .inl bi6)), (qc6, .inl (g.2 0, 64, .inl co6)), (qk6, .inl (g.2 0, 64, .inl ki6)), (qm6, .inl (g.2 0, 64, .inl mi6))]) [0, 1, 2, 3, 4, 5] rfl
      have hD9 := hD.sub (ws' := [(qty, .inr (6, [.ref ql6, .ref qb6, .ref qc6, .ref qk6, .ref qm6, .int pa6, .int rw6])), (ql6, .inl (g.2 0, 6, .inl le6)), (qb6, .inl (g.2 0, 6, .inl bi6)), (qc6, .inl (g.2 0, 64, .inl co6)), (qk6, .inl (g.2 0, 64, .inl ki6)), (qm6, .inl (g.2 0, 64, .inl mi6))]) [0, 1, 2, 3, 4, 5] (by decide) rfl
      exact W.vret hx hb hr (fun t ht hW => ⟨⟨(co6, ki6, mi6), rfl, hv, by rw [ht]; exact hP9, hD9⟩, hS.F ht⟩) hS.2.2 dX6_countAll_60
    · have hv := hvf hc
      refine lv_iload_n hx hb dX6_countAll_27 rfl (lv_at hl 1 rfl) ?_
      refine lv_iload_n hx hb dX6_countAll_28 rfl (lv_at hl 2 rfl) ?_
      refine lv_ishr hx hb dX6_countAll_29 ?_
      refine lv_iconst (v := (1 : Int32)) hx hb dX6_countAll_30 (by decide) ?_
      refine lv_iand hx hb dX6_countAll_31 ?_
      obtain ⟨hvt, hvf⟩ := hv
      refine lv_if_ne (tgt := 54) hx hb dX6_countAll_32 (by decide) (fun hc => ?_) (fun hc => ?_)
      · have hv := hvt hc
        refine lv_iinc (v := (x2 + (1 : Int32))) (lv' := [(2, .int (x2 + (1 : Int32))), (0, .ref qty), (1, .int x1)]) hx hb dX6_countAll_54 hl (k := 2) rfl rfl (by decide) rfl (fun ls hl => ?_)
        refine lv_goto (tgt := 19) hx hb dX6_countAll_57 (by decide) ?_
        exact ih _ _ _ _ _ hv _ _ (hP.sub (ws' := [(qty, .inr (6, [.ref ql6, .ref qb6, .ref qc6, .ref qk6, .ref qm6, .int pa6, .int rw6])), (ql6, .inl (g.2 0, 6, .inl le6)), (qb6, .inl (g.2 0, 6, .inl bi6)), (qc6, .inl (g.2 0, 64, .inl co6)), (qk6, .inl (g.2 0, 64, .inl ki6)), (qm6, .inl (g.2 0, 64, .inl mi6))]) [0, 1, 2, 3, 4, 5] rfl) (hD.sub (ws' := [(qty, .inr (6, [.ref ql6, .ref qb6, .ref qc6, .ref qk6, .ref qm6, .int pa6, .int rw6])), (ql6, .inl (g.2 0, 6, .inl le6)), (qb6, .inl (g.2 0, 6, .inl bi6)), (qc6, .inl (g.2 0, 64, .inl co6)), (qk6, .inl (g.2 0, 64, .inl ki6)), (qm6, .inl (g.2 0, 64, .inl mi6))]) [0, 1, 2, 3, 4, 5] (by decide) rfl) hS ls (lv_sub hl [1, 2, 0] rfl)
      · have hv := hvf hc
        refine lv_aload_n hx hb dX6_countAll_35 rfl (lv_at hl 0 rfl) ?_
        refine lv_iload_n hx hb dX6_countAll_36 rfl (lv_at hl 2 rfl) ?_
        obtain ⟨R_37, r0_37, ho_1, hv⟩ := hv
        refine vp_callSi (W.runV (As := [.int x2]) (rest := []) S (wX6_kinOf l g qty ql6 qb6 qc6 qk6 qm6 pa6 rw6 le6 x2 (sX6_kinOf R_37 r0_37 pa6 rw6 le6 x2 ho_1)) (cwV 1 hts gX6_countAll_X6_kinOf rfl rfl rfl (by decide +kernel) ⟨Nat.le_of_ble_eq_true rfl, Nat.le_of_ble_eq_true rfl⟩) ⟨blindRO, va_recv hK hP (ci := 6) (q0 := 0) rfl rfl, fun U hU hW => ⟨rfl, by rw [hU]; exact hP.sub (ws' := [(qty, .inr (6, [.ref ql6, .ref qb6, .ref qc6, .ref qk6, .ref qm6, .int pa6, .int rw6])), (ql6, .inl (g.2 0, 6, .inl le6))]) [0, 1] rfl, hG.warm hW⟩⟩ rfl rfl hl.1 rfl (lv_room (Nat.le_of_ble_eq_true rfl)) dX6_countAll_37 ⟨Nat.le_of_ble_eq_true rfl, Nat.le_of_ble_eq_true rfl⟩) (fun r_37 hr_37 => ?_)
        have hv := hv r_37 hr_37
        refine lv_istore_n (lv' := [(3, .int r_37), (0, .ref qty), (1, .int x1), (2, .int x2)]) hx hb dX6_countAll_40 rfl hl (by decide) rfl (fun ls hl => ?_)
        refine lv_aload_n hx hb dX6_countAll_41 rfl (lv_at hl 1 rfl) ?_
        refine lv_iload_n hx hb dX6_countAll_42 rfl (lv_at hl 0 rfl) ?_
        obtain ⟨R_43, K_43, ho_2, hv⟩ := hv
        have hPc := hP.sub (ws' := [(qty, .inr (6, [.ref ql6, .ref qb6, .ref qc6, .ref qk6, .ref qm6, .int pa6, .int rw6])), (ql6, .inl (g.2 0, 6, .inl le6)), (qb6, .inl (g.2 0, 6, .inl bi6)), (qk6, .inl (g.2 0, 64, .inl ki6))]) [0, 1, 2, 4] rfl
        have hDc := hD.sub (ws' := [(qty, .inr (6, [.ref ql6, .ref qb6, .ref qc6, .ref qk6, .ref qm6, .int pa6, .int rw6])), (ql6, .inl (g.2 0, 6, .inl le6)), (qb6, .inl (g.2 0, 6, .inl bi6)), (qk6, .inl (g.2 0, 64, .inl ki6))]) [0, 1, 2, 4] (by decide) rfl
        have hFc := va_free (wc := [(qty, .inr (6, [.ref ql6, .ref qb6, .ref qc6, .ref qk6, .ref qm6, .int pa6, .int rw6])), (ql6, .inl (g.2 0, 6, .inl le6)), (qb6, .inl (g.2 0, 6, .inl bi6)), (qk6, .inl (g.2 0, 64, .inl ki6))]) hD hS hA [0, 1, 2, 4] rfl
        refine va_callv (va_runV (As := [.int r_37]) (rest := []) S (wX6_countKin l g qty ql6 qb6 qc6 qk6 qm6 H.size pa6 rw6 le6 bi6 ki6 r_37 (sX6_countKin R_43 K_43 pa6 rw6 le6 bi6 ki6 r_37 ho_2)) (cwV 1 hts gX6_countAll_X6_countKin rfl rfl rfl (by decide +kernel) ⟨Nat.le_of_ble_eq_true rfl, Nat.le_of_ble_eq_true rfl⟩) ⟨blindRW, va_recv hK hP (ci := 6) (q0 := 0) rfl rfl, fun U hU hW => ⟨rfl, by rw [hU], by rw [hU]; exact hPc, hG.warm hW, hDc.weaken (fun _ _ _ _ => trivial)⟩⟩ rfl rfl hl.1 rfl (lv_room (Nat.le_of_ble_eq_true rfl)) dX6_countAll_43 ⟨Nat.le_of_ble_eq_true rfl, Nat.le_of_ble_eq_true rfl⟩) hS (fun q _ h => hFc q h) hFc (fun u t H1 locs ht hvm hw hB hz1 hk1 hS => ?_)
        obtain ⟨ki6_43, rfl⟩ : ∃ z, z = u := ⟨_, rfl⟩
        obtain ⟨hP1, hD1⟩ := hB
        rw [ht] at hP1
        have hv := hv ki6_43 hw
        obtain ⟨hP, hD⟩ := va_join (wr := [(qc6, .inl (g.2 0, 64, .inl co6)), (qm6, .inl (g.2 0, 64, .inl mi6))]) (w1 := [(qty, .inr (6, [.ref ql6, .ref qb6, .ref qc6, .ref qk6, .ref qm6, .int pa6, .int rw6])), (ql6, .inl (g.2 0, 6, .inl le6)), (qb6, .inl (g.2 0, 6, .inl bi6)), (qk6, .inl (g.2 0, 64, .inl ki6_43))]) hP hD [0, 1, 2, 4] [3, 5] rfl rfl (by decide) (by decide) hk1 hFc hP1 hD1
        clear hP1 hD1 hPc hDc hFc hk1
        generalize H1 = H at hP hS ⊢
        have hP : va_P g.1 vwCl [(qc6, .inl (g.2 0, 64, .inl co6)), (qm6, .inl (g.2 0, 64, .inl mi6)), (qty, .inr (6, [.ref ql6, .ref qb6, .ref qc6, .ref qk6, .ref qm6, .int pa6, .int rw6])), (ql6, .inl (g.2 0, 6, .inl le6)), (qb6, .inl (g.2 0, 6, .inl bi6)), (qk6, .inl (g.2 0, 64, .inl ki6_43))] H := hP
        have hD : va_D A [(qc6, .inl (g.2 0, 64, .inl co6)), (qm6, .inl (g.2 0, 64, .inl mi6)), (qty, .inr (6, [.ref ql6, .ref qb6, .ref qc6, .ref qk6, .ref qm6, .int pa6, .int rw6])), (ql6, .inl (g.2 0, 6, .inl le6)), (qb6, .inl (g.2 0, 6, .inl bi6)), (qk6, .inl (g.2 0, 64, .inl ki6_43))] := hD
        refine lv_aload_n hx hb dX6_countAll_46 rfl (lv_at hl 1 rfl) ?_
        obtain ⟨P_47, u_47, W_47, w_47, ho_3, hv⟩ := hv
        have hPc := hP.sub (ws' := [(qty, .inr (6, [.ref ql6, .ref qb6, .ref qc6, .ref qk6, .ref qm6, .int pa6, .int rw6])), (qc6, .inl (g.2 0, 64, .inl co6)), (qk6, .inl (g.2 0, 64, .inl ki6_43)), (qm6, .inl (g.2 0, 64, .inl mi6))]) [2, 0, 5, 1] rfl
        have hDc := hD.sub (ws' := [(qty, .inr (6, [.ref ql6, .ref qb6, .ref qc6, .ref qk6, .ref qm6, .int pa6, .int rw6])), (qc6, .inl (g.2 0, 64, .inl co6)), (qk6, .inl (g.2 0, 64, .inl ki6_43)), (qm6, .inl (g.2 0, 64, .inl mi6))]) [2, 0, 5, 1] (by decide) rfl
        have hFc := va_free (wc := [(qty, .inr (6, [.ref ql6, .ref qb6, .ref qc6, .ref qk6, .ref qm6, .int pa6, .int rw6])), (qc6, .inl (g.2 0, 64, .inl co6)), (qk6, .inl (g.2 0, 64, .inl ki6_43)), (qm6, .inl (g.2 0, 64, .inl mi6))]) hD hS hA [2, 0, 5, 1] rfl
        refine va_callv (va_runV (As := []) (rest := []) S (wX6_mix l g qty ql6 qb6 qc6 qk6 qm6 H.size pa6 rw6 co6 ki6_43 mi6 (sX6_mix P_47 u_47 W_47 w_47 pa6 rw6 co6 ki6_43 mi6 ho_3)) (cwV 0 hts gX6_countAll_X6_mix rfl rfl rfl (by decide +kernel) ⟨Nat.le_of_ble_eq_true rfl, Nat.le_of_ble_eq_true rfl⟩) ⟨blindRW, va_recv hK hP (ci := 6) (q0 := 2) rfl rfl, fun U hU hW => ⟨rfl, by rw [hU], by rw [hU]; exact hPc, hG.warm hW, hDc.weaken (fun _ _ _ _ => trivial)⟩⟩ rfl rfl hl.1 rfl (lv_room (Nat.le_of_ble_eq_true rfl)) dX6_countAll_47 ⟨Nat.le_of_ble_eq_true rfl, Nat.le_of_ble_eq_true rfl⟩) hS (fun q _ h => hFc q h) hFc (fun u t H1 locs ht hvm hw hB hz1 hk1 hS => ?_)
        obtain ⟨co6_47, mi6_47⟩ := u
        obtain ⟨hP1, hD1⟩ := hB
        rw [ht] at hP1
        have hv := hv co6_47 mi6_47 hw
        obtain ⟨hP, hD⟩ := va_join (wr := [(ql6, .inl (g.2 0, 6, .inl le6)), (qb6, .inl (g.2 0, 6, .inl bi6))]) (w1 := [(qty, .inr (6, [.ref ql6, .ref qb6, .ref qc6, .ref qk6, .ref qm6, .int pa6, .int rw6])), (qc6, .inl (g.2 0, 64, .inl co6_47)), (qk6, .inl (g.2 0, 64, .inl ki6_43)), (qm6, .inl (g.2 0, 64, .inl mi6_47))]) hP hD [2, 0, 5, 1] [3, 4] rfl rfl (by decide) (by decide) hk1 hFc hP1 hD1
        clear hP1 hD1 hPc hDc hFc hk1
        generalize H1 = H at hP hS ⊢
        have hP : va_P g.1 vwCl [(ql6, .inl (g.2 0, 6, .inl le6)), (qb6, .inl (g.2 0, 6, .inl bi6)), (qty, .inr (6, [.ref ql6, .ref qb6, .ref qc6, .ref qk6, .ref qm6, .int pa6, .int rw6])), (qc6, .inl (g.2 0, 64, .inl co6_47)), (qk6, .inl (g.2 0, 64, .inl ki6_43)), (qm6, .inl (g.2 0, 64, .inl mi6_47))] H := hP
        have hD : va_D A [(ql6, .inl (g.2 0, 6, .inl le6)), (qb6, .inl (g.2 0, 6, .inl bi6)), (qty, .inr (6, [.ref ql6, .ref qb6, .ref qc6, .ref qk6, .ref qm6, .int pa6, .int rw6])), (qc6, .inl (g.2 0, 64, .inl co6_47)), (qk6, .inl (g.2 0, 64, .inl ki6_43)), (qm6, .inl (g.2 0, 64, .inl mi6_47))] := hD
        refine lv_iload_n hx hb dX6_countAll_50 rfl (lv_at hl 2 rfl) ?_
        refine lv_iload_n hx hb dX6_countAll_51 rfl (lv_at hl 0 rfl) ?_
        refine lv_ior hx hb dX6_countAll_52 ?_
        refine lv_istore_n (lv' := [(1, .int (x1 ||| r_37)), (3, .int r_37), (0, .ref qty), (2, .int x2)]) hx hb dX6_countAll_53 rfl hl (by decide) rfl (fun ls hl => ?_)
        refine lv_iinc (v := (x2 + (1 : Int32))) (lv' := [(2, .int (x2 + (1 : Int32))), (1, .int (x1 ||| r_37)), (3, .int r_37), (0, .ref qty)]) hx hb dX6_countAll_54 hl (k := 3) rfl rfl (by decide) rfl (fun ls hl => ?_)
        refine lv_goto (tgt := 19) hx hb dX6_countAll_57 (by decide) ?_
        exact ih _ _ _ _ _ hv _ _ (hP.sub (ws' := [(qty, .inr (6, [.ref ql6, .ref qb6, .ref qc6, .ref qk6, .ref qm6, .int pa6, .int rw6])), (ql6, .inl (g.2 0, 6, .inl le6)), (qb6, .inl (g.2 0, 6, .inl bi6)), (qc6, .inl (g.2 0, 64, .inl co6_47)), (qk6, .inl (g.2 0, 64, .inl ki6_43)), (qm6, .inl (g.2 0, 64, .inl mi6_47))]) [2, 0, 1, 3, 4, 5] rfl) (hD.sub (ws' := [(qty, .inr (6, [.ref ql6, .ref qb6, .ref qc6, .ref qk6, .ref qm6, .int pa6, .int rw6])), (ql6, .inl (g.2 0, 6, .inl le6)), (qb6, .inl (g.2 0, 6, .inl bi6)), (qc6, .inl (g.2 0, 64, .inl co6_47)), (qk6, .inl (g.2 0, 64, .inl ki6_43)), (qm6, .inl (g.2 0, 64, .inl mi6_47))]) [2, 0, 1, 3, 4, 5] (by decide) rfl) hS ls (lv_sub hl [3, 1, 0] rfl)
def vX6_countAll (pa6 : Int32) (rw6 : Int32) (le6 : Nat → Int32) (bi6 : Nat → Int32) (co6 : Nat → Int32) (ki6 : Nat → Int32) (mi6 : Nat → Int32) (Q : (Nat → Int32) → (Nat → Int32) → (Nat → Int32) → Prop) : Prop := (preJ7_fill_53178 64 co6 (0 : Int32) ∧ (∀ (fA_5 : Nat → Int32), postJ7_fill_53178 64 co6 (0 : Int32) fA_5 → (∃ nn, vX6_countAll_c19 pa6 rw6 le6 bi6 Q nn (0 : Int32) (0 : Int32) (upd fA_5 0 (1 : Int32)) ki6 mi6)))
set_option maxHeartbeats 4000000 in
set_option maxRecDepth 100000 in
theorem wX6_countAll (l : Launch) (g : GP) (qty : Nat) (ql6 : Nat) (qb6 : Nat) (qc6 : Nat) (qk6 : Nat) (qm6 : Nat) (sz : Nat) (pa6 : Int32) (rw6 : Int32) (le6 : Nat → Int32) (bi6 : Nat → Int32) (co6 : Nat → Int32) (ki6 : Nat → Int32) (mi6 : Nat → Int32) {Q : (Nat → Int32) → (Nat → Int32) → (Nat → Int32) → Prop} (hv : vX6_countAll pa6 rw6 le6 bi6 co6 ki6 mi6 Q) : Met l yX6_countAll wsX6_countAll rmX6_countAll (va_Pc [.ref qty] (fun U => U.heap.size = sz ∧ va_P g.1 vwCl [(qty, .inr (6, [.ref ql6, .ref qb6, .ref qc6, .ref qk6, .ref qm6, .int pa6, .int rw6])), (ql6, .inl (g.2 0, 6, .inl le6)), (qb6, .inl (g.2 0, 6, .inl bi6)), (qc6, .inl (g.2 0, 64, .inl co6)), (qk6, .inl (g.2 0, 64, .inl ki6)), (qm6, .inl (g.2 0, 64, .inl mi6))] U.heap ∧ GK g U ∧ va_D (fun _ => True) [(qty, .inr (6, [.ref ql6, .ref qb6, .ref qc6, .ref qk6, .ref qm6, .int pa6, .int rw6])), (ql6, .inl (g.2 0, 6, .inl le6)), (qb6, .inl (g.2 0, 6, .inl bi6)), (qc6, .inl (g.2 0, 64, .inl co6)), (qk6, .inl (g.2 0, 64, .inl ki6)), (qm6, .inl (g.2 0, 64, .inl mi6))])) (va_Qv (fun (u : (Nat → Int32) × (Nat → Int32) × (Nat → Int32)) => Q u.1 u.2.1 u.2.2) (fun (u : (Nat → Int32) × (Nat → Int32) × (Nat → Int32)) t => va_P g.1 vwCl [(qty, .inr (6, [.ref ql6, .ref qb6, .ref qc6, .ref qk6, .ref qm6, .int pa6, .int rw6])), (ql6, .inl (g.2 0, 6, .inl le6)), (qb6, .inl (g.2 0, 6, .inl bi6)), (qc6, .inl (g.2 0, 64, .inl u.1)), (qk6, .inl (g.2 0, 64, .inl u.2.1)), (qm6, .inl (g.2 0, 64, .inl u.2.2))] t.heap ∧ va_D (va_A [(qty, .inr (6, [.ref ql6, .ref qb6, .ref qc6, .ref qk6, .ref qm6, .int pa6, .int rw6])), (ql6, .inl (g.2 0, 6, .inl le6)), (qb6, .inl (g.2 0, 6, .inl bi6)), (qc6, .inl (g.2 0, 64, .inl co6)), (qk6, .inl (g.2 0, 64, .inl ki6)), (qm6, .inl (g.2 0, 64, .inl mi6))] sz) [(qty, .inr (6, [.ref ql6, .ref qb6, .ref qc6, .ref qk6, .ref qm6, .int pa6, .int rw6])), (ql6, .inl (g.2 0, 6, .inl le6)), (qb6, .inl (g.2 0, 6, .inl bi6)), (qc6, .inl (g.2 0, 64, .inl u.1)), (qk6, .inl (g.2 0, 64, .inl u.2.1)), (qm6, .inl (g.2 0, 64, .inl u.2.2))]) (va_A [(qty, .inr (6, [.ref ql6, .ref qb6, .ref qc6, .ref qk6, .ref qm6, .int pa6, .int rw6])), (ql6, .inl (g.2 0, 6, .inl le6)), (qb6, .inl (g.2 0, 6, .inl bi6)), (qc6, .inl (g.2 0, 64, .inl co6)), (qk6, .inl (g.2 0, 64, .inl ki6)), (qm6, .inl (g.2 0, 64, .inl mi6))] sz)) 0 0 (va_A [(qty, .inr (6, [.ref ql6, .ref qb6, .ref qc6, .ref qk6, .ref qm6, .int pa6, .int rw6])), (ql6, .inl (g.2 0, 6, .inl le6)), (qb6, .inl (g.2 0, 6, .inl bi6)), (qc6, .inl (g.2 0, 64, .inl co6)), (qk6, .inl (g.2 0, 64, .inl ki6)), (qm6, .inl (g.2 0, 64, .inl mi6))] sz) := by
  refine Met.ofW (cc := cX6_countAll) (maxL := 4) (ret := none) (by decide) rfl ?_
  intro p e s m args below meth c s₁ B hml hv'
  obtain ⟨rfl, hsz, hP, hG, hD0⟩ := hv'
  have S : CallFix p m c cX6_countAll 4 s _ wsX6_countAll RX6 := ⟨B.exec, B.bytes, hml, findClass_of_methodNamed B.named, atoms_spec (ws := wsX6_countAll) B.pre⟩
  obtain ⟨hx, hb, hml, hown, hts⟩ := id S
  have hK := hG.1
  have hr := B.returns
  have hlocks := B.notSynchronized
  subst hsz
  have hD := hD0.self (sz := s.heap.size)
  generalize hAe : va_A [(qty, .inr (6, [.ref ql6, .ref qb6, .ref qc6, .ref qk6, .ref qm6, .int pa6, .int rw6])), (ql6, .inl (g.2 0, 6, .inl le6)), (qb6, .inl (g.2 0, 6, .inl bi6)), (qc6, .inl (g.2 0, 64, .inl co6)), (qk6, .inl (g.2 0, 64, .inl ki6)), (qm6, .inl (g.2 0, 64, .inl mi6))] s.heap.size = A at hD ⊢
  have hA : ∀ q : Nat, s.heap.size ≤ q → A q := fun q h => by rw [← hAe]; exact Or.inr h
  have hS : va_S A s.heap s.heap [] := va_S.rf
  clear hD0 hAe
  have hl := lv_entry ([.ref qty]) (n := 4) (Nat.le_of_ble_eq_true rfl)
  rw [lg_entry_eq]
  generalize (lg_sl ([.ref qty]) ++ List.replicate (4 - (lg_sl ([.ref qty])).length) Slot.unset).toArray = ls at hl ⊢
  have hl : lv_has ls 4 [(0, .ref qty)] := hl
  unfold vX6_countAll at hv
  refine lv_aload_n hx hb dX6_countAll_0 rfl (lv_at hl 0 rfl) ?_
  refine va_get (D := g.1) (ci := 6) (v := .ref qc6) (C := RX6) (T := TX6) (N := 7) hx hb hts inX6_countAll_6 hown hK hP 0 rfl rfl 2 (by decide) (hts (.fieldLink RX6 18 "RangeCodes$Tally" "counts" "[I") (List.mem_of_getElem? (i := 1) rfl)) (fun _ h9 => h9) rfl dX6_countAll_1 ?_
  refine lv_iconst (v := (0 : Int32)) hx hb dX6_countAll_4 (by decide) ?_
  obtain ⟨ho_1, hv⟩ := hv
  have hPc := hP.sub (ws' := [(qc6, .inl (g.2 0, 64, .inl co6))]) [3] rfl
  have hDc := hD.sub (ws' := [(qc6, .inl (g.2 0, 64, .inl co6))]) [3] (by decide) rfl
  have hFc := va_free (wc := [(qc6, .inl (g.2 0, 64, .inl co6))]) hD hS hA [3] rfl
  refine va_callv (va_runS (As := [.ref qc6, .int (0 : Int32)]) (rest := []) S (wJ7_fill_53178 l g qc6 s.heap.size 64 co6 (0 : Int32) (sJ7_fill_53178 64 co6 (0 : Int32) ho_1)) (va_cwS 2 hts gX6_countAll_J7_fill_53178 rfl rfl rfl (by decide +kernel) ⟨Nat.le_of_ble_eq_true rfl, Nat.le_of_ble_eq_true rfl⟩) ⟨blindRW, fun U hU hW => ⟨rfl, by rw [hU], by rw [hU]; exact hPc, hG.warm hW, hDc.weaken (fun _ _ _ _ => trivial)⟩⟩ rfl rfl hl.1 rfl (lv_room (Nat.le_of_ble_eq_true rfl)) dX6_countAll_5 ⟨Nat.le_of_ble_eq_true rfl, Nat.le_of_ble_eq_true rfl⟩) hS (fun q _ h => hFc q h) hFc (fun u t H1 locs ht hvm hw hB hz1 hk1 hS => ?_)
  obtain ⟨fA_5, rfl⟩ : ∃ z, z = u := ⟨_, rfl⟩
  obtain ⟨hP1, hD1⟩ := hB
  rw [ht] at hP1
  have hv := hv fA_5 hw
  obtain ⟨hP, hD⟩ := va_join (wr := [(qty, .inr (6, [.ref ql6, .ref qb6, .ref qc6, .ref qk6, .ref qm6, .int pa6, .int rw6])), (ql6, .inl (g.2 0, 6, .inl le6)), (qb6, .inl (g.2 0, 6, .inl bi6)), (qk6, .inl (g.2 0, 64, .inl ki6)), (qm6, .inl (g.2 0, 64, .inl mi6))]) (w1 := [(qc6, .inl (g.2 0, 64, .inl fA_5))]) hP hD [3] [0, 1, 2, 4, 5] rfl rfl (by decide) (by decide) hk1 hFc hP1 hD1
  clear hP1 hD1 hPc hDc hFc hk1
  generalize H1 = H at hP hS ⊢
  have hP : va_P g.1 vwCl [(qty, .inr (6, [.ref ql6, .ref qb6, .ref qc6, .ref qk6, .ref qm6, .int pa6, .int rw6])), (ql6, .inl (g.2 0, 6, .inl le6)), (qb6, .inl (g.2 0, 6, .inl bi6)), (qk6, .inl (g.2 0, 64, .inl ki6)), (qm6, .inl (g.2 0, 64, .inl mi6)), (qc6, .inl (g.2 0, 64, .inl fA_5))] H := hP
  have hD : va_D A [(qty, .inr (6, [.ref ql6, .ref qb6, .ref qc6, .ref qk6, .ref qm6, .int pa6, .int rw6])), (ql6, .inl (g.2 0, 6, .inl le6)), (qb6, .inl (g.2 0, 6, .inl bi6)), (qk6, .inl (g.2 0, 64, .inl ki6)), (qm6, .inl (g.2 0, 64, .inl mi6)), (qc6, .inl (g.2 0, 64, .inl fA_5))] := hD
  refine lv_aload_n hx hb dX6_countAll_8 rfl (lv_at hl 0 rfl) ?_
  refine va_get (D := g.1) (ci := 6) (v := .ref qc6) (C := RX6) (T := TX6) (N := 7) hx hb hts inX6_countAll_6 hown hK hP 0 rfl rfl 2 (by decide) (hts (.fieldLink RX6 18 "RangeCodes$Tally" "counts" "[I") (List.mem_of_getElem? (i := 1) rfl)) (fun _ h9 => h9) rfl dX6_countAll_9 ?_
  refine lv_iconst (v := (0 : Int32)) hx hb dX6_countAll_12 (by decide) ?_
  refine lv_iconst (v := (1 : Int32)) hx hb dX6_countAll_13 (by decide) ?_
  refine va_iast hx hb hK hP hD hS 5 0 rfl rfl (by unfold vp_in; decide) dX6_countAll_14 (fun H locs hP hD hS => ?_)
  have hP : va_P g.1 vwCl [(qty, .inr (6, [.ref ql6, .ref qb6, .ref qc6, .ref qk6, .ref qm6, .int pa6, .int rw6])), (ql6, .inl (g.2 0, 6, .inl le6)), (qb6, .inl (g.2 0, 6, .inl bi6)), (qk6, .inl (g.2 0, 64, .inl ki6)), (qm6, .inl (g.2 0, 64, .inl mi6)), (qc6, .inl (g.2 0, 64, .inl (upd fA_5 0 (1 : Int32))))] H := hP
  have hD : va_D A [(qty, .inr (6, [.ref ql6, .ref qb6, .ref qc6, .ref qk6, .ref qm6, .int pa6, .int rw6])), (ql6, .inl (g.2 0, 6, .inl le6)), (qb6, .inl (g.2 0, 6, .inl bi6)), (qk6, .inl (g.2 0, 64, .inl ki6)), (qm6, .inl (g.2 0, 64, .inl mi6)), (qc6, .inl (g.2 0, 64, .inl (upd fA_5 0 (1 : Int32))))] := hD
  refine lv_iconst (v := (0 : Int32)) hx hb dX6_countAll_15 (by decide) ?_
  refine lv_istore_n (lv' := [(1, .int (0 : Int32)), (0, .ref qty)]) hx hb dX6_countAll_16 rfl hl (by decide) rfl (fun ls hl => ?_)
  refine lv_iconst (v := (0 : Int32)) hx hb dX6_countAll_17 (by decide) ?_
  refine lv_istore_n (lv' := [(2, .int (0 : Int32)), (1, .int (0 : Int32)), (0, .ref qty)]) hx hb dX6_countAll_18 rfl hl (by decide) rfl (fun ls hl => ?_)
  obtain ⟨nn, hv⟩ := hv
  exact kX6_countAll_c19 S hr hlocks hG hA nn _ _ _ _ _ hv _ _ (hP.sub (ws' := [(qty, .inr (6, [.ref ql6, .ref qb6, .ref qc6, .ref qk6, .ref qm6, .int pa6, .int rw6])), (ql6, .inl (g.2 0, 6, .inl le6)), (qb6, .inl (g.2 0, 6, .inl bi6)), (qc6, .inl (g.2 0, 64, .inl (upd fA_5 0 (1 : Int32)))), (qk6, .inl (g.2 0, 64, .inl ki6)), (qm6, .inl (g.2 0, 64, .inl mi6))]) [0, 1, 2, 5, 3, 4] rfl) (hD.sub (ws' := [(qty, .inr (6, [.ref ql6, .ref qb6, .ref qc6, .ref qk6, .ref qm6, .int pa6, .int rw6])), (ql6, .inl (g.2 0, 6, .inl le6)), (qb6, .inl (g.2 0, 6, .inl bi6)), (qc6, .inl (g.2 0, 64, .inl (upd fA_5 0 (1 : Int32)))), (qk6, .inl (g.2 0, 64, .inl ki6)), (qm6, .inl (g.2 0, 64, .inl mi6))]) [0, 1, 2, 5, 3, 4] (by decide) rfl) hS ls (lv_sub hl [2, 1, 0] rfl)
theorem cnF_cong {u w : Nat → Nat} {S : Nat} : ∀ {P : Nat}, (∀ t, t < P → u t = w t) → cnF u P S = cnF w P S := fun h => suN_cong (fun t ht => by rw [h t ht])
abbrev preX6_countAll (R : Cd) (pa6 : Int32) (rw6 : Int32) (le6 : Nat → Int32) (bi6 : Nat → Int32) (co6 : Nat → Int32) (ki6 : Nat → Int32) (mi6 : Nat → Int32) : Prop := tyR R rw6 le6 bi6
abbrev postX6_countAll (R : Cd) (pa6 : Int32) (rw6 : Int32) (le6 : Nat → Int32) (bi6 : Nat → Int32) (co6 : Nat → Int32) (ki6 : Nat → Int32) (mi6 : Nat → Int32) (co6' : Nat → Int32) (ki6' : Nat → Int32) (mi6' : Nat → Int32) : Prop := isC (yS R (2 ^ cn R - 1)) (lcS R (2 ^ cn R - 1) (cn R)) co6'
/-- what is done so far -/
def doI (R : Cd) (D k : Nat) (co : Nat → Int32) : Prop := D < 64 ∧ (∀ r, r < k → D.testBit r = true) ∧ (∀ r, D.testBit r = true → r < cn R) ∧ isC (yS R D) (lcS R D (cn R)) co ∧ ∀ r, r < cn R → D.testBit r = true ∨ Nat.Coprime (lcS R D (cn R)) (cL R r)
theorem sX6_countAll_19 (R : Cd) (pa6 : Int32) (rw6 : Int32) (le6 : Nat → Int32) (bi6 : Nat → Int32) (co6 : Nat → Int32) (ki6 : Nat → Int32) (mi6 : Nat → Int32) (H : preX6_countAll R pa6 rw6 le6 bi6 co6 ki6 mi6) : ∀ (f k D : Nat) (x1 x2 : Int32) (co ki mi : Nat → Int32), x1.toInt = (D : Int) → x2.toInt = (k : Int) → k ≤ cn R → doI R D k co → cn R + 1 ≤ k + f → vX6_countAll_c19 pa6 rw6 le6 bi6 (postX6_countAll R pa6 rw6 le6 bi6 co6 ki6 mi6) f x1 x2 co ki mi
  | 0, k, D, x1, x2, co, ki, mi, _, _, _, _, hf => absurd hf (by omega)
  | f + 1, k, D, x1, x2, co, ki, mi, h1, h2, hk, hI, hf => by
    obtain ⟨a1, a2, a3, a4⟩ := id H
    obtain ⟨d1, d2, d3, d4, d5⟩ := id hI
    have hLL : ∀ p, p < cn R → 2 ≤ cL R p ∧ cL R p ≤ 13 := fun p hq => (a3 p hq).2
    rw [vX6_countAll_c19, q_le a1 h2, q_bit h1 h2 (by omega)]
    refine ⟨fun c => ?_, fun c => ⟨fun d => ?_, fun d => ?_⟩⟩
    · have e : k = cn R := by omega
      subst e
      have eD : D = 2 ^ cn R - 1 := by
        apply Nat.eq_of_testBit_eq
        intro r
        rw [Nat.testBit_two_pow_sub_one]
        cases e : D.testBit r
        · symm; apply decide_eq_false; intro q; rw [d2 r q] at e; exact absurd e (by decide)
        · symm; exact decide_eq_true (d3 r e)
      rw [eD] at d4; exact d4
    · have d : D.testBit k = true := by
        cases e : D.testBit k
        · rw [e] at d; exact absurd rfl d
        · rfl
      refine sX6_countAll_19 R pa6 rw6 le6 bi6 co6 ki6 mi6 H f (k + 1) D _ _ co ki mi h1 (q_1 h2 (by omega)) (by omega) ⟨d1, fun r hr => ?_, d3, d4, d5⟩ (by omega)
      by_cases e : r = k
      · subst e; exact d
      · exact d2 r (by omega)
    · have d : D.testBit k = false := by
        cases e : D.testBit k
        · rfl
        · rw [e] at d; exact absurd d (by decide)
      refine ⟨R, k, ⟨a1, a2, a3, h2, by omega⟩, fun r hr => ?_⟩
      obtain ⟨K, k1, k2, k3, k4, k5, k6⟩ := hr
      have hcop : Nat.Coprime (lcS R D (cn R)) (lcS R K (cn R)) := by
        refine k6 _ ?_ (fun x hx => ?_)
        · rcases d5 k (by omega) with z | z
          · rw [d] at z; exact absurd z (by decide)
          · exact z
        · rcases d5 x hx with z | z
          · exact Or.inr (lcS_in D (cn R) x hx z)
          · exact Or.inl z
      have p1 := lcS_pos (fun p hq => (hLL p hq).1) D (cn R) (Nat.le_refl _)
      have p2 := lcS_pos (fun p hq => (hLL p hq).1) K (cn R) (Nat.le_refl _)
      have ePW : lcS R D (cn R) * lcS R K (cn R) = lcS R (D ||| K) (cn R) := by
        apply Nat.dvd_antisymm
        · refine Nat.Coprime.mul_dvd_of_dvd_of_dvd hcop ?_ ?_
          · exact lcS_to D (cn R) (fun p hp hs => lcS_in (D ||| K) (cn R) p hp (by rw [Nat.testBit_or, hs]; rfl))
          · exact lcS_to K (cn R) (fun p hp hs => lcS_in (D ||| K) (cn R) p hp (by rw [Nat.testBit_or, hs, Bool.or_true]))
        · refine lcS_to (D ||| K) (cn R) (fun p hp hs => ?_)
          rw [Nat.testBit_or] at hs
          cases e : D.testBit p
          · rw [e] at hs
            exact Nat.dvd_trans (lcS_in K (cn R) p hp (by simpa using hs)) (Nat.dvd_mul_left _ _)
          · exact Nat.dvd_trans (lcS_in D (cn R) p hp e) (Nat.dvd_mul_right _ _)
      have hle := Nat.le_of_dvd (by decide) (lcS_dvd hLL (D ||| K) (cn R) (Nat.le_refl _))
      refine ⟨R, K, ⟨H, k1⟩, fun ki2 hki => ⟨lcS R D (cn R), yS R D, lcS R K (cn R), yS R K, ⟨d4, hki, p1, p2, hcop, fun t _ => yS_lt D t a2, fun t _ => yS_lt K t a2, by rw [ePW]; exact hle⟩, fun co2 mi2 hm => ?_⟩⟩
      have hor := q_or h1 k1 d1 k2
      refine sX6_countAll_19 R pa6 rw6 le6 bi6 co6 ki6 mi6 H f (k + 1) (D ||| K) _ _ co2 ki2 mi2 hor (q_1 h2 (by omega)) (by omega) ⟨or_lt d1 k2, fun r hr => ?_, fun r hr => ?_, fun S hS => ?_, fun r hr => ?_⟩ (by omega)
      · rw [Nat.testBit_or]
        by_cases e : r = k
        · subst e; rw [k3, Bool.or_true]
        · rw [d2 r (by omega)]; rfl
      · rw [Nat.testBit_or] at hr
        cases e : D.testBit r
        · rw [e] at hr; exact k4 r (by simpa using hr)
        · exact d3 r e
      · rw [hm S hS, ePW]
        congr 1
        refine cnF_cong (fun t _ => ?_)
        rw [yS_mod (fun p hp hs => lcS_in D (cn R) p hp hs), yS_mod (fun p hp hs => lcS_in K (cn R) p hp hs), yS_or]
      · rw [Nat.testBit_or, ← ePW]
        rcases d5 r hr with z | z
        · rw [z]; exact Or.inl rfl
        · rcases k5 r hr with y | y
          · rw [y, Bool.or_true]; exact Or.inl rfl
          · exact Or.inr (Nat.Coprime.mul_left z y)
theorem sX6_countAll (R : Cd) (pa6 : Int32) (rw6 : Int32) (le6 : Nat → Int32) (bi6 : Nat → Int32) (co6 : Nat → Int32) (ki6 : Nat → Int32) (mi6 : Nat → Int32) (H : preX6_countAll R pa6 rw6 le6 bi6 co6 ki6 mi6) : vX6_countAll pa6 rw6 le6 bi6 co6 ki6 mi6 (postX6_countAll R pa6 rw6 le6 bi6 co6 ki6 mi6) := by
  have l1 : ∀ k, lcS R 0 k = 1 := fun k => by
    induction k with
    | zero => rfl
    | succ k ih => rw [lcS, if_neg (by rw [Nat.zero_testBit]; decide)]; exact ih
  refine ⟨by show 64 < 2147483647; decide, fun f hf => ⟨cn R + 1, sX6_countAll_19 R pa6 rw6 le6 bi6 co6 ki6 mi6 H _ 0 0 0 0 _ _ _ rfl rfl (by omega) ⟨by decide, fun r hr => absurd hr (by omega), fun r hr => by rw [Nat.zero_testBit] at hr; exact absurd hr (by decide), fun S hS => ?_, fun r hr => Or.inr (by rw [l1]; exact Nat.coprime_one_left _)⟩ (by omega)⟩⟩
  have y0 : yS R 0 0 = 0 := by
    apply Nat.eq_of_testBit_eq
    intro i
    unfold yS
    rw [trN_bit]; simp
  have ec : cnF (yS R 0) (lcS R 0 (cn R)) S = if 0 = S then 1 else 0 := by
    rw [l1]
    show 0 + (if yS R 0 0 = S then 1 else 0) = _
    rw [y0, Nat.zero_add]
  rw [ec]
  by_cases e : S = 0
  · subst e; rw [upd_eq]; rfl
  · rw [upd_ne e, hf S, if_pos hS, if_neg (fun q => e q.symm)]; rfl
theorem dX6_fullOf_0 : decode cX6_fullOf 0 = .ok (.iconst 0, 1) := by decide +kernel
theorem dX6_fullOf_1 : decode cX6_fullOf 1 = .ok (.istore_n 3, 1) := by decide +kernel
theorem dX6_fullOf_2 : decode cX6_fullOf 2 = .ok (.iconst 1, 1) := by decide +kernel
theorem dX6_fullOf_3 : decode cX6_fullOf 3 = .ok (.aload_n 0, 1) := by decide +kernel
theorem dX6_fullOf_4 : decode cX6_fullOf 4 = .ok (.getfield 33, 3) := by decide +kernel
theorem dX6_fullOf_7 : decode cX6_fullOf 7 = .ok (.ishl, 1) := by decide +kernel
theorem dX6_fullOf_8 : decode cX6_fullOf 8 = .ok (.iconst 1, 1) := by decide +kernel
theorem dX6_fullOf_9 : decode cX6_fullOf 9 = .ok (.isub, 1) := by decide +kernel
theorem dX6_fullOf_10 : decode cX6_fullOf 10 = .ok (.istore 4, 2) := by decide +kernel
theorem dX6_fullOf_12 : decode cX6_fullOf 12 = .ok (.iconst 0, 1) := by decide +kernel
theorem dX6_fullOf_13 : decode cX6_fullOf 13 = .ok (.istore 5, 2) := by decide +kernel
theorem dX6_fullOf_15 : decode cX6_fullOf 15 = .ok (.iload 5, 2) := by decide +kernel
theorem dX6_fullOf_17 : decode cX6_fullOf 17 = .ok (.bipush 64, 2) := by decide +kernel
theorem dX6_fullOf_19 : decode cX6_fullOf 19 = .ok (.if_icmp .ge 52, 3) := by decide +kernel
theorem dX6_fullOf_22 : decode cX6_fullOf 22 = .ok (.iload_n 2, 1) := by decide +kernel
theorem dX6_fullOf_23 : decode cX6_fullOf 23 = .ok (.iload 5, 2) := by decide +kernel
theorem dX6_fullOf_25 : decode cX6_fullOf 25 = .ok (.iload 4, 2) := by decide +kernel
theorem dX6_fullOf_27 : decode cX6_fullOf 27 = .ok (.iand, 1) := by decide +kernel
theorem dX6_fullOf_28 : decode cX6_fullOf 28 = .ok (.iushr, 1) := by decide +kernel
theorem dX6_fullOf_29 : decode cX6_fullOf 29 = .ok (.iconst 1, 1) := by decide +kernel
theorem dX6_fullOf_30 : decode cX6_fullOf 30 = .ok (.iand, 1) := by decide +kernel
theorem dX6_fullOf_31 : decode cX6_fullOf 31 = .ok (.istore 6, 2) := by decide +kernel
theorem dX6_fullOf_33 : decode cX6_fullOf 33 = .ok (.iload_n 3, 1) := by decide +kernel
theorem dX6_fullOf_34 : decode cX6_fullOf 34 = .ok (.iload 6, 2) := by decide +kernel
theorem dX6_fullOf_36 : decode cX6_fullOf 36 = .ok (.iload 5, 2) := by decide +kernel
theorem dX6_fullOf_38 : decode cX6_fullOf 38 = .ok (.iload_n 1, 1) := by decide +kernel
theorem dX6_fullOf_39 : decode cX6_fullOf 39 = .ok (.ishr, 1) := by decide +kernel
theorem dX6_fullOf_40 : decode cX6_fullOf 40 = .ok (.iconst 1, 1) := by decide +kernel
theorem dX6_fullOf_41 : decode cX6_fullOf 41 = .ok (.iand, 1) := by decide +kernel
theorem dX6_fullOf_42 : decode cX6_fullOf 42 = .ok (.if_icmp .ne 13, 3) := by decide +kernel
theorem dX6_fullOf_45 : decode cX6_fullOf 45 = .ok (.aload_n 0, 1) := by decide +kernel
theorem dX6_fullOf_46 : decode cX6_fullOf 46 = .ok (.getfield 18, 3) := by decide +kernel
theorem dX6_fullOf_49 : decode cX6_fullOf 49 = .ok (.iload 5, 2) := by decide +kernel
theorem dX6_fullOf_51 : decode cX6_fullOf 51 = .ok (.iaload, 1) := by decide +kernel
theorem dX6_fullOf_52 : decode cX6_fullOf 52 = .ok (.goto 11, 3) := by decide +kernel
theorem dX6_fullOf_55 : decode cX6_fullOf 55 = .ok (.aload_n 0, 1) := by decide +kernel
theorem dX6_fullOf_56 : decode cX6_fullOf 56 = .ok (.getfield 18, 3) := by decide +kernel
theorem dX6_fullOf_59 : decode cX6_fullOf 59 = .ok (.iload 5, 2) := by decide +kernel
theorem dX6_fullOf_61 : decode cX6_fullOf 61 = .ok (.iaload, 1) := by decide +kernel
theorem dX6_fullOf_62 : decode cX6_fullOf 62 = .ok (.ineg, 1) := by decide +kernel
theorem dX6_fullOf_63 : decode cX6_fullOf 63 = .ok (.iadd, 1) := by decide +kernel
theorem dX6_fullOf_64 : decode cX6_fullOf 64 = .ok (.istore_n 3, 1) := by decide +kernel
theorem dX6_fullOf_65 : decode cX6_fullOf 65 = .ok (.iinc 5 1, 3) := by decide +kernel
theorem dX6_fullOf_68 : decode cX6_fullOf 68 = .ok (.goto (-53), 3) := by decide +kernel
theorem dX6_fullOf_71 : decode cX6_fullOf 71 = .ok (.iload_n 3, 1) := by decide +kernel
theorem dX6_fullOf_72 : decode cX6_fullOf 72 = .ok (.ireturn, 1) := by decide +kernel
abbrev rmX6_fullOf : Room := { frames := 0, cells := 0, slots := 0, locals := 0 }
theorem inX6_fullOf_6 : ∀ w ∈ wsX60, w ∈ wsX6_fullOf := by decide +kernel
def vX6_fullOf_c15 (pa6 : Int32) (rw6 : Int32) (co6 : Nat → Int32) (p1 : Int32) (p2 : Int32) (Q : Int32 → Prop) : Nat → Int32 → Int32 → Int32 → Prop
  | 0, _, _, _ => False
  | n + 1, x3, x4, x5 => (((64 : Int32) ≤ x5 → (Q x3)) ∧ (¬ (64 : Int32) ≤ x5 → (∀ y_31 : Int32, y_31 = (((p2.toUInt32 >>> ((x5 &&& x4).toUInt32 &&& Int32.toUInt32 31)).toInt32) &&& (1 : Int32)) → ((¬ y_31 = ((x5 >>> (p1 &&& 31)) &&& (1 : Int32)) → (vp_in x5 64 ∧ (∀ y_64 : Int32, y_64 = (x3 + (-(co6 x5.toNatClampNeg))) → (vX6_fullOf_c15 pa6 rw6 co6 p1 p2 Q n y_64 x4 (x5 + (1 : Int32)))))) ∧ (y_31 = ((x5 >>> (p1 &&& 31)) &&& (1 : Int32)) → (vp_in x5 64 ∧ (∀ y_64 : Int32, y_64 = (x3 + (co6 x5.toNatClampNeg)) → (vX6_fullOf_c15 pa6 rw6 co6 p1 p2 Q n y_64 x4 (x5 + (1 : Int32))))))))))
set_option maxHeartbeats 4000000 in
set_option maxRecDepth 100000 in
theorem kX6_fullOf_c15 {p : Program} {l : Launch} {e : Env} {s : State} {m : MethodId} {args : Array Value} {below : List Frame} {meth : Method} {c : Code} {g : GP} {qty : Nat} {ql6 : Nat} {qb6 : Nat} {qc6 : Nat} {qk6 : Nat} {qm6 : Nat} {pa6 : Int32} {rw6 : Int32} {co6 : Nat → Int32} {p1 : Int32} {p2 : Int32} {Q : Int32 → Prop} (S : CallFix p m c cX6_fullOf 7 s args wsX6_fullOf RX6) (hr : meth.sig.returnType = (some .int)) (hlocks : meth.locks = false) (hG : GK g s) (hP : va_P g.1 vwCl [(qty, .inr (6, [.ref ql6, .ref qb6, .ref qc6, .ref qk6, .ref qm6, .int pa6, .int rw6])), (qc6, .inl (g.2 0, 64, .inl co6))] s.heap) : ∀ (n : Nat), ∀ (x3 : Int32) (x4 : Int32) (x5 : Int32), vX6_fullOf_c15 pa6 rw6 co6 p1 p2 Q n x3 x4 x5 → ∀ (ls : Array Slot), lv_has ls 7 [(0, .ref qty), (1, .int p1), (2, .int p2), (3, .int x3), (4, .int x4), (5, .int x5)] → W p l e (headSpec wsX6_fullOf rmX6_fullOf).room s m args below meth c s.heap [] 0 0 (MQ below (vp_Si Q) args s 0 0 (fun _ => False)) (F0 m 15 ls []) := by
  obtain ⟨hx, hb, hml, hown, hts⟩ := id S
  have hK := hG.1
  intro n
  induction n with
  | zero => intro x3 x4 x5 hv; exact hv.elim
  | succ n ih =>
    intro x3 x4 x5 hv ls hl
    refine lv_iload hx hb dX6_fullOf_15 (lv_at hl 5 rfl) ?_
    refine lv_bipush (v := (64 : Int32)) hx hb dX6_fullOf_17 (by decide) ?_
    obtain ⟨hvt, hvf⟩ := hv
    refine lv_icmp_ge (tgt := 71) hx hb dX6_fullOf_19 (by decide) (fun hc => ?_) (fun hc => ?_)
    · have hv := hvt hc
      refine lv_iload_n hx hb dX6_fullOf_71 rfl (lv_at hl 3 rfl) ?_
      exact W.iret (v := x3) hx hb hr (fun t ht hW => ⟨_, rfl, hv, ht⟩) (fun _ h => by cases h) dX6_fullOf_72
    · have hv := hvf hc
      refine lv_iload_n hx hb dX6_fullOf_22 rfl (lv_at hl 2 rfl) ?_
      refine lv_iload hx hb dX6_fullOf_23 (lv_at hl 5 rfl) ?_
      refine lv_iload hx hb dX6_fullOf_25 (lv_at hl 4 rfl) ?_
      refine lv_iand hx hb dX6_fullOf_27 ?_
      refine lv_iushr (v := ((p2.toUInt32 >>> ((x5 &&& x4).toUInt32 &&& Int32.toUInt32 31)).toInt32)) hx hb dX6_fullOf_28 rfl ?_
      refine lv_iconst (v := (1 : Int32)) hx hb dX6_fullOf_29 (by decide) ?_
      refine lv_iand hx hb dX6_fullOf_30 ?_
      refine lv_topi (fun y_31 ey_31 => ?_)
      have hv := hv y_31 ey_31
      refine lv_istore (lv' := [(6, .int y_31), (0, .ref qty), (1, .int p1), (2, .int p2), (3, .int x3), (4, .int x4), (5, .int x5)]) hx hb dX6_fullOf_31 hl (by decide) rfl (fun ls hl => ?_)
      refine lv_iload_n hx hb dX6_fullOf_33 rfl (lv_at hl 4 rfl) ?_
      refine lv_iload hx hb dX6_fullOf_34 (lv_at hl 0 rfl) ?_
      refine lv_iload hx hb dX6_fullOf_36 (lv_at hl 6 rfl) ?_
      refine lv_iload_n hx hb dX6_fullOf_38 rfl (lv_at hl 2 rfl) ?_
      refine lv_ishr hx hb dX6_fullOf_39 ?_
      refine lv_iconst (v := (1 : Int32)) hx hb dX6_fullOf_40 (by decide) ?_
      refine lv_iand hx hb dX6_fullOf_41 ?_
      obtain ⟨hvt, hvf⟩ := hv
      refine lv_icmp_ne (tgt := 55) hx hb dX6_fullOf_42 (by decide) (fun hc => ?_) (fun hc => ?_)
      · have hv := hvt hc
        refine lv_aload_n hx hb dX6_fullOf_55 rfl (lv_at hl 1 rfl) ?_
        refine va_get (D := g.1) (ci := 6) (v := .ref qc6) (C := RX6) (T := TX6) (N := 7) hx hb hts inX6_fullOf_6 hown hK hP 0 rfl rfl 2 (by decide) (hts (.fieldLink RX6 18 "RangeCodes$Tally" "counts" "[I") (List.mem_of_getElem? (i := 2) rfl)) (fun _ h9 => h9) rfl dX6_fullOf_56 ?_
        refine lv_iload hx hb dX6_fullOf_59 (lv_at hl 6 rfl) ?_
        obtain ⟨ho_1, hv⟩ := hv
        refine va_iald hx hb hK hP 1 0 rfl rfl ho_1 dX6_fullOf_61 ?_
        refine lv_ineg hx hb dX6_fullOf_62 ?_
        refine lv_iadd hx hb dX6_fullOf_63 ?_
        refine lv_topi (fun y_64 ey_64 => ?_)
        have hv := hv y_64 ey_64
        refine lv_istore_n (lv' := [(3, .int y_64), (6, .int y_31), (0, .ref qty), (1, .int p1), (2, .int p2), (4, .int x4), (5, .int x5)]) hx hb dX6_fullOf_64 rfl hl (by decide) rfl (fun ls hl => ?_)
        refine lv_iinc (v := (x5 + (1 : Int32))) (lv' := [(5, .int (x5 + (1 : Int32))), (3, .int y_64), (6, .int y_31), (0, .ref qty), (1, .int p1), (2, .int p2), (4, .int x4)]) hx hb dX6_fullOf_65 hl (k := 6) rfl rfl (by decide) rfl (fun ls hl => ?_)
        refine lv_goto (tgt := 15) hx hb dX6_fullOf_68 (by decide) ?_
        exact ih _ _ _ hv ls (lv_sub hl [3, 4, 5, 1, 6, 0] rfl)
      · have hv := hvf hc
        refine lv_aload_n hx hb dX6_fullOf_45 rfl (lv_at hl 1 rfl) ?_
        refine va_get (D := g.1) (ci := 6) (v := .ref qc6) (C := RX6) (T := TX6) (N := 7) hx hb hts inX6_fullOf_6 hown hK hP 0 rfl rfl 2 (by decide) (hts (.fieldLink RX6 18 "RangeCodes$Tally" "counts" "[I") (List.mem_of_getElem? (i := 2) rfl)) (fun _ h9 => h9) rfl dX6_fullOf_46 ?_
        refine lv_iload hx hb dX6_fullOf_49 (lv_at hl 6 rfl) ?_
        obtain ⟨ho_2, hv⟩ := hv
        refine va_iald hx hb hK hP 1 0 rfl rfl ho_2 dX6_fullOf_51 ?_
        refine lv_goto (tgt := 63) hx hb dX6_fullOf_52 (by decide) ?_
        refine lv_iadd hx hb dX6_fullOf_63 ?_
        refine lv_topi (fun y_64 ey_64 => ?_)
        have hv := hv y_64 ey_64
        refine lv_istore_n (lv' := [(3, .int y_64), (6, .int y_31), (0, .ref qty), (1, .int p1), (2, .int p2), (4, .int x4), (5, .int x5)]) hx hb dX6_fullOf_64 rfl hl (by decide) rfl (fun ls hl => ?_)
        refine lv_iinc (v := (x5 + (1 : Int32))) (lv' := [(5, .int (x5 + (1 : Int32))), (3, .int y_64), (6, .int y_31), (0, .ref qty), (1, .int p1), (2, .int p2), (4, .int x4)]) hx hb dX6_fullOf_65 hl (k := 6) rfl rfl (by decide) rfl (fun ls hl => ?_)
        refine lv_goto (tgt := 15) hx hb dX6_fullOf_68 (by decide) ?_
        exact ih _ _ _ hv ls (lv_sub hl [3, 4, 5, 1, 6, 0] rfl)
def vX6_fullOf (pa6 : Int32) (rw6 : Int32) (co6 : Nat → Int32) (p1 : Int32) (p2 : Int32) (Q : Int32 → Prop) : Prop := (∀ y_10 : Int32, y_10 = (((1 : Int32) <<< (pa6 &&& 31)) - (1 : Int32)) → (∃ nn, vX6_fullOf_c15 pa6 rw6 co6 p1 p2 Q nn (0 : Int32) y_10 (0 : Int32)))
set_option maxHeartbeats 4000000 in
set_option maxRecDepth 100000 in
theorem wX6_fullOf (l : Launch) (g : GP) (qty : Nat) (ql6 : Nat) (qb6 : Nat) (qc6 : Nat) (qk6 : Nat) (qm6 : Nat) (pa6 : Int32) (rw6 : Int32) (co6 : Nat → Int32) (p1 : Int32) (p2 : Int32) {Q : Int32 → Prop} (hv : vX6_fullOf pa6 rw6 co6 p1 p2 Q) : Met l yX6_fullOf wsX6_fullOf rmX6_fullOf (va_Pc [.ref qty, .int p1, .int p2] (fun U => va_P g.1 vwCl [(qty, .inr (6, [.ref ql6, .ref qb6, .ref qc6, .ref qk6, .ref qm6, .int pa6, .int rw6])), (qc6, .inl (g.2 0, 64, .inl co6))] U.heap ∧ GK g U)) (vp_Si Q) 0 0 (fun _ => False) := by
  refine Met.ofW (cc := cX6_fullOf) (maxL := 7) (ret := (some .int)) (by decide) rfl ?_
  intro p e s m args below meth c s₁ B hml hv'
  obtain ⟨rfl, hP, hG⟩ := hv'
  have S : CallFix p m c cX6_fullOf 7 s _ wsX6_fullOf RX6 := ⟨B.exec, B.bytes, hml, findClass_of_methodNamed B.named, atoms_spec (ws := wsX6_fullOf) B.pre⟩
  obtain ⟨hx, hb, hml, hown, hts⟩ := id S
  have hK := hG.1
  have hr := B.returns
  have hlocks := B.notSynchronized
  have hl := lv_entry ([.ref qty, .int p1, .int p2]) (n := 7) (Nat.le_of_ble_eq_true rfl)
  rw [lg_entry_eq]
  generalize (lg_sl ([.ref qty, .int p1, .int p2]) ++ List.replicate (7 - (lg_sl ([.ref qty, .int p1, .int p2])).length) Slot.unset).toArray = ls at hl ⊢
  have hl : lv_has ls 7 [(0, .ref qty), (1, .int p1), (2, .int p2)] := hl
  unfold vX6_fullOf at hv
  refine lv_iconst (v := (0 : Int32)) hx hb dX6_fullOf_0 (by decide) ?_
  refine lv_istore_n (lv' := [(3, .int (0 : Int32)), (0, .ref qty), (1, .int p1), (2, .int p2)]) hx hb dX6_fullOf_1 rfl hl (by decide) rfl (fun ls hl => ?_)
  refine lv_iconst (v := (1 : Int32)) hx hb dX6_fullOf_2 (by decide) ?_
  refine lv_aload_n hx hb dX6_fullOf_3 rfl (lv_at hl 1 rfl) ?_
  refine va_get (D := g.1) (ci := 6) (v := .int pa6) (C := RX6) (T := TX6) (N := 7) hx hb hts inX6_fullOf_6 hown hK hP 0 rfl rfl 5 (by decide) (hts (.fieldLink RX6 33 "RangeCodes$Tally" "parts" "I") (List.mem_of_getElem? (i := 1) rfl)) (fun _ h9 => h9) rfl dX6_fullOf_4 ?_
  refine lv_ishl hx hb dX6_fullOf_7 ?_
  refine lv_iconst (v := (1 : Int32)) hx hb dX6_fullOf_8 (by decide) ?_
  refine lv_isub hx hb dX6_fullOf_9 ?_
  refine lv_topi (fun y_10 ey_10 => ?_)
  have hv := hv y_10 ey_10
  refine lv_istore (lv' := [(4, .int y_10), (3, .int (0 : Int32)), (0, .ref qty), (1, .int p1), (2, .int p2)]) hx hb dX6_fullOf_10 hl (by decide) rfl (fun ls hl => ?_)
  refine lv_iconst (v := (0 : Int32)) hx hb dX6_fullOf_12 (by decide) ?_
  refine lv_istore (lv' := [(5, .int (0 : Int32)), (4, .int y_10), (3, .int (0 : Int32)), (0, .ref qty), (1, .int p1), (2, .int p2)]) hx hb dX6_fullOf_13 hl (by decide) rfl (fun ls hl => ?_)
  obtain ⟨nn, hv⟩ := hv
  exact kX6_fullOf_c15 S hr hlocks hG hP nn _ _ _ hv ls (lv_sub hl [3, 4, 5, 2, 1, 0] rfl)
theorem bt_ush (x : Int32) (k : Nat) (hk : k < 32) : (((x.toUInt32 >>> ((nI k).toUInt32 &&& Int32.toUInt32 31)).toInt32) &&& (1 : Int32)) = if bt x k then 1 else 0 := by rw [bt_and1, b_ushr _ hk, Nat.add_zero]
abbrev preX6_fullOf (n : Nat) (P : Nat) (u : Nat → Nat) (E : Nat → Bool) (r0 : Nat) (pa6 : Int32) (rw6 : Int32) (co6 : Nat → Int32) (p1 : Int32) (p2 : Int32) : Prop := pa6.toInt = (n : Int) ∧ n ≤ 5 ∧ isC u P co6 ∧ P ≤ 360360 ∧ (∀ t, t < P → u t < 64) ∧ (∀ S, S < 2 ^ n → bt p2 S = E S) ∧ p1.toInt = (r0 : Int) ∧ r0 < 6
def sgE (n : Nat) (E : Nat → Bool) (r0 S : Nat) : Int := if E (S % 2 ^ n) = S.testBit r0 then 1 else -1
def fuN (n P : Nat) (u : Nat → Nat) (E : Nat → Bool) (r0 : Nat) : Int := smZ (fun t => sgE n E r0 (u t)) P
abbrev postX6_fullOf (n : Nat) (P : Nat) (u : Nat → Nat) (E : Nat → Bool) (r0 : Nat) (pa6 : Int32) (rw6 : Int32) (co6 : Nat → Int32) (p1 : Int32) (p2 : Int32) (r : Int32) : Prop := r.toInt = fuN n P u E r0
theorem smZ_ab (u : Nat → Nat) (P : Nat) (g : Nat → Int) (hg : ∀ S, g S = 1 ∨ g S = -1) : ∀ m, -(suN (cnF u P) m : Int) ≤ smZ (fun S => (cnF u P S : Int) * g S) m ∧ smZ (fun S => (cnF u P S : Int) * g S) m ≤ (suN (cnF u P) m : Int)
  | 0 => by simp [suN, smZ]
  | m + 1 => by
    have ih := smZ_ab u P g hg m
    rw [suN, smZ, Int.natCast_add]
    rcases hg m with q | q
    · rw [q, Int.mul_one]; omega
    · rw [q, Int.mul_neg, Int.mul_one]; omega
theorem suN_tot {u : Nat → Nat} {P : Nat} (hu : ∀ t, t < P → u t < 64) (m : Nat) (hm : m ≤ 64) : suN (cnF u P) m ≤ P := by
  have h1 : suN (cnF u P) 64 = P := by
    have := suN_fib u (fun _ => 1) 64 P hu
    rw [suN_cong (g := cnF u P) (fun S _ => Nat.mul_one _)] at this
    rw [this]
    have o : ∀ n, suN (fun _ => 1) n = n := fun n => by
      induction n with
      | zero => rfl
      | succ n ih => rw [suN, ih]
    exact o P
  obtain ⟨k, hk⟩ : ∃ k, 64 = m + k := ⟨64 - m, by omega⟩
  rw [hk, suN_app] at h1
  omega
theorem sX6_fullOf_15 (n : Nat) (P : Nat) (u : Nat → Nat) (E : Nat → Bool) (r0 : Nat) (pa6 : Int32) (rw6 : Int32) (co6 : Nat → Int32) (p1 : Int32) (p2 : Int32) (H : preX6_fullOf n P u E r0 pa6 rw6 co6 p1 p2) (x4 : Int32) (h4 : x4.toInt = ((2 ^ n - 1 : Nat) : Int)) : ∀ (f S : Nat) (x3 x5 : Int32), x3.toInt = smZ (fun S => (cnF u P S : Int) * sgE n E r0 S) S → x5.toInt = (S : Int) → S ≤ 64 → 65 ≤ S + f → vX6_fullOf_c15 pa6 rw6 co6 p1 p2 (postX6_fullOf n P u E r0 pa6 rw6 co6 p1 p2) f x3 x4 x5
  | 0, S, x3, x5, _, _, _, hf => absurd hf (by omega)
  | f + 1, S, x3, x5, h3, h5, hS, hf => by
    obtain ⟨hn, hn5, hc, hP, hu, hE, hp1, hr0⟩ := id H
    have h2n : 2 ^ n ≤ 32 := p32_le hn5
    have h2p : 0 < 2 ^ n := Nat.pow_pos (by decide)
    have hsg : ∀ S, sgE n E r0 S = 1 ∨ sgE n E r0 S = -1 := fun S => by unfold sgE; split; exact Or.inl rfl; exact Or.inr rfl
    have ab := smZ_ab u P (sgE n E r0) hsg S
    have tot := suN_tot hu S hS
    rw [vX6_fullOf_c15, fa_le, z64, h5]
    refine ⟨fun c => ?_, fun c y ey => ?_⟩
    · have e : S = 64 := by omega
      subst e
      show x3.toInt = fuN n P u E r0
      rw [h3, smZ_fib u (sgE n E r0) 64 P hu]
      rfl
    · have hcS := hc S (by omega)
      have tot1 := suN_tot hu (S + 1) (by omega)
      rw [suN] at tot1
      have hmod : S % 2 ^ n < 2 ^ n := Nat.mod_lt _ h2p
      have eand : x5 &&& x4 = nI (S % 2 ^ n) := by rw [q_eqN h5, q_eqN h4, fa_mask]
      have hy : y = if E (S % 2 ^ n) then 1 else 0 := by
        rw [ey, eand, ← hE _ hmod]
        exact bt_ush p2 (S % 2 ^ n) (by omega)
      have hb : ((x5 >>> (p1 &&& 31)) &&& (1 : Int32)) = if S.testBit r0 then 1 else 0 := q_bit h5 hp1 (by omega)
      have hin := q_in (N := 64) h5 (by omega)
      have eq : (y = ((x5 >>> (p1 &&& 31)) &&& (1 : Int32))) = (E (S % 2 ^ n) = S.testBit r0) := by
        rw [hy, hb]
        cases E (S % 2 ^ n) <;> cases S.testBit r0 <;> simp
      rw [eq, q_cl h5]
      refine ⟨fun d => ⟨hin, fun z ez => sX6_fullOf_15 n P u E r0 pa6 rw6 co6 p1 p2 H x4 h4 f (S + 1) _ _ ?_ (q_1 h5 (by omega)) (by omega) (by omega)⟩, fun d => ⟨hin, fun z ez => sX6_fullOf_15 n P u E r0 pa6 rw6 co6 p1 p2 H x4 h4 f (S + 1) _ _ ?_ (q_1 h5 (by omega)) (by omega) (by omega)⟩⟩
      · have hs : sgE n E r0 S = -1 := by unfold sgE; rw [if_neg d]
        have e0 : (0 : Int32) - co6 S = -(co6 S) := Int32.zero_sub _
        have e1 : (-(co6 S)).toInt = -(cnF u P S : Int) := by rw [← e0, q_sub z0 hcS (by omega) (by omega)]; omega
        rw [ez, q_add h3 e1 (by omega) (by omega), smZ, hs, Int.mul_neg, Int.mul_one]
      · have hs : sgE n E r0 S = 1 := by unfold sgE; rw [if_pos d]
        rw [ez, q_add h3 hcS (by omega) (by omega), smZ, hs, Int.mul_one]
theorem sX6_fullOf (n : Nat) (P : Nat) (u : Nat → Nat) (E : Nat → Bool) (r0 : Nat) (pa6 : Int32) (rw6 : Int32) (co6 : Nat → Int32) (p1 : Int32) (p2 : Int32) (H : preX6_fullOf n P u E r0 pa6 rw6 co6 p1 p2) : vX6_fullOf pa6 rw6 co6 p1 p2 (postX6_fullOf n P u E r0 pa6 rw6 co6 p1 p2) := by
  obtain ⟨hn, hn5, -⟩ := id H
  have h2n : 2 ^ n ≤ 32 := p32_le hn5
  have h2p : 0 < 2 ^ n := Nat.pow_pos (by decide)
  intro y ey
  have e1 := q_shlN (x := (1 : Int32)) (a := 1) rfl hn (by omega) (by omega)
  have hy : y.toInt = ((2 ^ n - 1 : Nat) : Int) := by rw [ey, q_subN (b := 1) e1 rfl (by omega) (by omega)]; omega
  exact ⟨65, sX6_fullOf_15 n P u E r0 pa6 rw6 co6 p1 p2 H y hy 65 0 0 0 rfl rfl (by omega) (by omega)⟩
set_option maxRecDepth 20000 in
theorem ggX6_leastFull_X6_fullOf : GoodIn wsX6_leastFull wsX6_fullOf := goodIn_r _ [10, 1, 11, 12, 13, 14, 15, 16, 17, 18] (by decide +kernel) (by decide +kernel)
set_option maxRecDepth 20000 in
theorem gX6_leastFull_X6_fullOf : GoodIn wsX6_leastFull (wsV RX6 77 RX6 yX6_fullOf wsX6_fullOf) := goodIn_app (goodIn_of _ (by decide +kernel)) ggX6_leastFull_X6_fullOf
theorem dX6_leastFull_0 : decode cX6_leastFull 0 = .ok (.aload_n 0, 1) := by decide +kernel
theorem dX6_leastFull_1 : decode cX6_leastFull 1 = .ok (.iconst 0, 1) := by decide +kernel
theorem dX6_leastFull_2 : decode cX6_leastFull 2 = .ok (.iload_n 1, 1) := by decide +kernel
theorem dX6_leastFull_3 : decode cX6_leastFull 3 = .ok (.invokevirtual 77, 3) := by decide +kernel
theorem dX6_leastFull_6 : decode cX6_leastFull 6 = .ok (.istore_n 2, 1) := by decide +kernel
theorem dX6_leastFull_7 : decode cX6_leastFull 7 = .ok (.iconst 1, 1) := by decide +kernel
theorem dX6_leastFull_8 : decode cX6_leastFull 8 = .ok (.istore_n 3, 1) := by decide +kernel
theorem dX6_leastFull_9 : decode cX6_leastFull 9 = .ok (.iload_n 3, 1) := by decide +kernel
theorem dX6_leastFull_10 : decode cX6_leastFull 10 = .ok (.aload_n 0, 1) := by decide +kernel
theorem dX6_leastFull_11 : decode cX6_leastFull 11 = .ok (.getfield 33, 3) := by decide +kernel
theorem dX6_leastFull_14 : decode cX6_leastFull 14 = .ok (.if_icmp .ge 20, 3) := by decide +kernel
theorem dX6_leastFull_17 : decode cX6_leastFull 17 = .ok (.iload_n 2, 1) := by decide +kernel
theorem dX6_leastFull_18 : decode cX6_leastFull 18 = .ok (.aload_n 0, 1) := by decide +kernel
theorem dX6_leastFull_19 : decode cX6_leastFull 19 = .ok (.iload_n 3, 1) := by decide +kernel
theorem dX6_leastFull_20 : decode cX6_leastFull 20 = .ok (.iload_n 1, 1) := by decide +kernel
theorem dX6_leastFull_21 : decode cX6_leastFull 21 = .ok (.invokevirtual 77, 3) := by decide +kernel
theorem dX6_leastFull_24 : decode cX6_leastFull 24 = .ok (.invokestatic 80, 3) := by decide +kernel
theorem dX6_leastFull_27 : decode cX6_leastFull 27 = .ok (.istore_n 2, 1) := by decide +kernel
theorem dX6_leastFull_28 : decode cX6_leastFull 28 = .ok (.iinc 3 1, 3) := by decide +kernel
theorem dX6_leastFull_31 : decode cX6_leastFull 31 = .ok (.goto (-22), 3) := by decide +kernel
theorem dX6_leastFull_34 : decode cX6_leastFull 34 = .ok (.iload_n 2, 1) := by decide +kernel
theorem dX6_leastFull_35 : decode cX6_leastFull 35 = .ok (.ireturn, 1) := by decide +kernel
abbrev rmX6_leastFull : Room := { frames := 1, cells := 0, slots := 0, locals := 26 }
theorem inX6_leastFull_6 : ∀ w ∈ wsX60, w ∈ wsX6_leastFull := by decide +kernel
def vX6_leastFull_c9 (pa6 : Int32) (rw6 : Int32) (co6 : Nat → Int32) (p1 : Int32) (Q : Int32 → Prop) : Nat → Int32 → Int32 → Prop
  | 0, _, _ => False
  | n + 1, x2, x3 => ((pa6 ≤ x3 → (Q x2)) ∧ (¬ pa6 ≤ x3 → (∃ (n_21 : Nat) (P_21 : Nat) (u_21 : Nat → Nat) (E_21 : Nat → Bool) (r0_21 : Nat), preX6_fullOf n_21 P_21 u_21 E_21 r0_21 pa6 rw6 co6 x3 p1 ∧ (∀ r_21 : Int32, postX6_fullOf n_21 P_21 u_21 E_21 r0_21 pa6 rw6 co6 x3 p1 r_21 → (∀ y_27 : Int32, y_27 = (if r_21 < x2 then r_21 else x2) → (vX6_leastFull_c9 pa6 rw6 co6 p1 Q n y_27 (x3 + (1 : Int32))))))))
set_option maxHeartbeats 4000000 in
set_option maxRecDepth 100000 in
theorem kX6_leastFull_c9 {p : Program} {l : Launch} {e : Env} {s : State} {m : MethodId} {args : Array Value} {below : List Frame} {meth : Method} {c : Code} {g : GP} {qty : Nat} {ql6 : Nat} {qb6 : Nat} {qc6 : Nat} {qk6 : Nat} {qm6 : Nat} {pa6 : Int32} {rw6 : Int32} {co6 : Nat → Int32} {p1 : Int32} {Q : Int32 → Prop} (S : CallFix p m c cX6_leastFull 4 s args wsX6_leastFull RX6) (hr : meth.sig.returnType = (some .int)) (hlocks : meth.locks = false) (hG : GK g s) (hP : va_P g.1 vwCl [(qty, .inr (6, [.ref ql6, .ref qb6, .ref qc6, .ref qk6, .ref qm6, .int pa6, .int rw6])), (qc6, .inl (g.2 0, 64, .inl co6))] s.heap) : ∀ (n : Nat), ∀ (x2 : Int32) (x3 : Int32), vX6_leastFull_c9 pa6 rw6 co6 p1 Q n x2 x3 → ∀ (ls : Array Slot), lv_has ls 4 [(0, .ref qty), (1, .int p1), (2, .int x2), (3, .int x3)] → W p l e (headSpec wsX6_leastFull rmX6_leastFull).room s m args below meth c s.heap [] 0 0 (MQ below (vp_Si Q) args s 0 0 (fun _ => False)) (F0 m 9 ls []) := by
  obtain ⟨hx, hb, hml, hown, hts⟩ := id S
  have hK := hG.1
  intro n
  induction n with
  | zero => intro x2 x3 hv; exact hv.elim
  | succ n ih =>
    intro x2 x3 hv ls hl
    refine lv_iload_n hx hb dX6_leastFull_9 rfl (lv_at hl 3 rfl) ?_
    refine lv_aload_n hx hb dX6_leastFull_10 rfl (lv_at hl 0 rfl) ?_
    refine va_get (D := g.1) (ci := 6) (v := .int pa6) (C := RX6) (T := TX6) (N := 7) hx hb hts inX6_leastFull_6 hown hK hP 0 rfl rfl 5 (by decide) (hts (.fieldLink RX6 33 "RangeCodes$Tally" "parts" "I") (List.mem_of_getElem? (i := 1) rfl)) (fun _ h9 => h9) rfl dX6_leastFull_11 ?_
    obtain ⟨hvt, hvf⟩ := hv
    refine lv_icmp_ge (tgt := 34) hx hb dX6_leastFull_14 (by decide) (fun hc => ?_) (fun hc => ?_)
    · have hv := hvt hc
      refine lv_iload_n hx hb dX6_leastFull_34 rfl (lv_at hl 2 rfl) ?_
      exact W.iret (v := x2) hx hb hr (fun t ht hW => ⟨_, rfl, hv, ht⟩) (fun _ h => by cases h) dX6_leastFull_35
    · have hv := hvf hc
      refine lv_iload_n hx hb dX6_leastFull_17 rfl (lv_at hl 2 rfl) ?_
      refine lv_aload_n hx hb dX6_leastFull_18 rfl (lv_at hl 0 rfl) ?_
      refine lv_iload_n hx hb dX6_leastFull_19 rfl (lv_at hl 3 rfl) ?_
      refine lv_iload_n hx hb dX6_leastFull_20 rfl (lv_at hl 1 rfl) ?_
      obtain ⟨n_21, P_21, u_21, E_21, r0_21, ho_1, hv⟩ := hv
      refine vp_callSi (W.runV (As := [.int x3, .int p1]) (rest := [.int x2]) S (wX6_fullOf l g qty ql6 qb6 qc6 qk6 qm6 pa6 rw6 co6 x3 p1 (sX6_fullOf n_21 P_21 u_21 E_21 r0_21 pa6 rw6 co6 x3 p1 ho_1)) (cwV 2 hts gX6_leastFull_X6_fullOf rfl rfl rfl (by decide +kernel) ⟨Nat.le_of_ble_eq_true rfl, Nat.le_of_ble_eq_true rfl⟩) ⟨blindRO, va_recv hK hP (ci := 6) (q0 := 0) rfl rfl, fun U hU hW => ⟨rfl, by rw [hU]; exact hP.sub (ws' := [(qty, .inr (6, [.ref ql6, .ref qb6, .ref qc6, .ref qk6, .ref qm6, .int pa6, .int rw6])), (qc6, .inl (g.2 0, 64, .inl co6))]) [0, 1] rfl, hG.warm hW⟩⟩ rfl rfl hl.1 rfl (lv_room (Nat.le_of_ble_eq_true rfl)) dX6_leastFull_21 ⟨Nat.le_of_ble_eq_true rfl, Nat.le_of_ble_eq_true rfl⟩) (fun r_21 hr_21 => ?_)
      have hv := hv r_21 hr_21
      refine va_mmin hx hb (by rw [hml]; exact hl.1.symm) hown (hts (.methodLink RX6 80 Lib.Math.min.name) (List.mem_of_getElem? (i := 2) rfl)) (hts (.static Lib.Math.min.name) (List.mem_of_getElem? (i := 3) rfl)) (hts (.initialized "java/lang/Math") (List.mem_of_getElem? (i := 4) rfl)) (hts (.code Lib.Math.min.name Lib.Math.min.code 2 (some .int)) (List.mem_of_getElem? (i := 5) rfl)) (Nat.le_of_ble_eq_true rfl) (Nat.le_of_ble_eq_true rfl) (Nat.zero_le _) (Nat.zero_le _) dX6_leastFull_24 ?_
      refine lv_topi (fun y_27 ey_27 => ?_)
      have hv := hv y_27 ey_27
      refine lv_istore_n (lv' := [(2, .int y_27), (0, .ref qty), (1, .int p1), (3, .int x3)]) hx hb dX6_leastFull_27 rfl hl (by decide) rfl (fun ls hl => ?_)
      refine lv_iinc (v := (x3 + (1 : Int32))) (lv' := [(3, .int (x3 + (1 : Int32))), (2, .int y_27), (0, .ref qty), (1, .int p1)]) hx hb dX6_leastFull_28 hl (k := 3) rfl rfl (by decide) rfl (fun ls hl => ?_)
      refine lv_goto (tgt := 9) hx hb dX6_leastFull_31 (by decide) ?_
      exact ih _ _ hv ls (lv_sub hl [2, 3, 1, 0] rfl)
def vX6_leastFull (pa6 : Int32) (rw6 : Int32) (co6 : Nat → Int32) (p1 : Int32) (Q : Int32 → Prop) : Prop := (∃ (n_3 : Nat) (P_3 : Nat) (u_3 : Nat → Nat) (E_3 : Nat → Bool) (r0_3 : Nat), preX6_fullOf n_3 P_3 u_3 E_3 r0_3 pa6 rw6 co6 (0 : Int32) p1 ∧ (∀ r_3 : Int32, postX6_fullOf n_3 P_3 u_3 E_3 r0_3 pa6 rw6 co6 (0 : Int32) p1 r_3 → (∃ nn, vX6_leastFull_c9 pa6 rw6 co6 p1 Q nn r_3 (1 : Int32))))
set_option maxHeartbeats 4000000 in
set_option maxRecDepth 100000 in
theorem wX6_leastFull (l : Launch) (g : GP) (qty : Nat) (ql6 : Nat) (qb6 : Nat) (qc6 : Nat) (qk6 : Nat) (qm6 : Nat) (pa6 : Int32) (rw6 : Int32) (co6 : Nat → Int32) (p1 : Int32) {Q : Int32 → Prop} (hv : vX6_leastFull pa6 rw6 co6 p1 Q) : Met l yX6_leastFull wsX6_leastFull rmX6_leastFull (va_Pc [.ref qty, .int p1] (fun U => va_P g.1 vwCl [(qty, .inr (6, [.ref ql6, .ref qb6, .ref qc6, .ref qk6, .ref qm6, .int pa6, .int rw6])), (qc6, .inl (g.2 0, 64, .inl co6))] U.heap ∧ GK g U)) (vp_Si Q) 0 0 (fun _ => False) := by
  refine Met.ofW (cc := cX6_leastFull) (maxL := 4) (ret := (some .int)) (by decide) rfl ?_
  intro p e s m args below meth c s₁ B hml hv'
  obtain ⟨rfl, hP, hG⟩ := hv'
  have S : CallFix p m c cX6_leastFull 4 s _ wsX6_leastFull RX6 := ⟨B.exec, B.bytes, hml, findClass_of_methodNamed B.named, atoms_spec (ws := wsX6_leastFull) B.pre⟩
  obtain ⟨hx, hb, hml, hown, hts⟩ := id S
  have hK := hG.1
  have hr := B.returns
  have hlocks := B.notSynchronized
  have hl := lv_entry ([.ref qty, .int p1]) (n := 4) (Nat.le_of_ble_eq_true rfl)
  rw [lg_entry_eq]
  generalize (lg_sl ([.ref qty, .int p1]) ++ List.replicate (4 - (lg_sl ([.ref qty, .int p1])).length) Slot.unset).toArray = ls at hl ⊢
  have hl : lv_has ls 4 [(0, .ref qty), (1, .int p1)] := hl
  unfold vX6_leastFull at hv
  refine lv_aload_n hx hb dX6_leastFull_0 rfl (lv_at hl 0 rfl) ?_
  refine lv_iconst (v := (0 : Int32)) hx hb dX6_leastFull_1 (by decide) ?_
  refine lv_iload_n hx hb dX6_leastFull_2 rfl (lv_at hl 1 rfl) ?_
  obtain ⟨n_3, P_3, u_3, E_3, r0_3, ho_1, hv⟩ := hv
  refine vp_callSi (W.runV (As := [.int (0 : Int32), .int p1]) (rest := []) S (wX6_fullOf l g qty ql6 qb6 qc6 qk6 qm6 pa6 rw6 co6 (0 : Int32) p1 (sX6_fullOf n_3 P_3 u_3 E_3 r0_3 pa6 rw6 co6 (0 : Int32) p1 ho_1)) (cwV 2 hts gX6_leastFull_X6_fullOf rfl rfl rfl (by decide +kernel) ⟨Nat.le_of_ble_eq_true rfl, Nat.le_of_ble_eq_true rfl⟩) ⟨blindRO, va_recv hK hP (ci := 6) (q0 := 0) rfl rfl, fun U hU hW => ⟨rfl, by rw [hU]; exact hP.sub (ws' := [(qty, .inr (6, [.ref ql6, .ref qb6, .ref qc6, .ref qk6, .ref qm6, .int pa6, .int rw6])), (qc6, .inl (g.2 0, 64, .inl co6))]) [0, 1] rfl, hG.warm hW⟩⟩ rfl rfl hl.1 rfl (lv_room (Nat.le_of_ble_eq_true rfl)) dX6_leastFull_3 ⟨Nat.le_of_ble_eq_true rfl, Nat.le_of_ble_eq_true rfl⟩) (fun r_3 hr_3 => ?_)
  have hv := hv r_3 hr_3
  refine lv_istore_n (lv' := [(2, .int r_3), (0, .ref qty), (1, .int p1)]) hx hb dX6_leastFull_6 rfl hl (by decide) rfl (fun ls hl => ?_)
  refine lv_iconst (v := (1 : Int32)) hx hb dX6_leastFull_7 (by decide) ?_
  refine lv_istore_n (lv' := [(3, .int (1 : Int32)), (2, .int r_3), (0, .ref qty), (1, .int p1)]) hx hb dX6_leastFull_8 rfl hl (by decide) rfl (fun ls hl => ?_)
  obtain ⟨nn, hv⟩ := hv
  exact kX6_leastFull_c9 S hr hlocks hG hP nn _ _ hv ls (lv_sub hl [2, 3, 1, 0] rfl)
def lsZ (f : Nat → Int) : Nat → Int
  | 0 => f 0
  | k + 1 => if f k < lsZ f k then f k else lsZ f k
abbrev preX6_leastFull (n : Nat) (P : Nat) (u : Nat → Nat) (E : Nat → Bool) (pa6 : Int32) (rw6 : Int32) (co6 : Nat → Int32) (p1 : Int32) : Prop := pa6.toInt = (n : Int) ∧ 1 ≤ n ∧ n ≤ 5 ∧ isC u P co6 ∧ P ≤ 360360 ∧ (∀ t, t < P → u t < 64) ∧ (∀ S, S < 2 ^ n → bt p1 S = E S)
abbrev postX6_leastFull (n : Nat) (P : Nat) (u : Nat → Nat) (E : Nat → Bool) (pa6 : Int32) (rw6 : Int32) (co6 : Nat → Int32) (p1 : Int32) (r : Int32) : Prop := r.toInt = lsZ (fuN n P u E) n
theorem sX6_leastFull_9 (n : Nat) (P : Nat) (u : Nat → Nat) (E : Nat → Bool) (pa6 : Int32) (rw6 : Int32) (co6 : Nat → Int32) (p1 : Int32) (H : preX6_leastFull n P u E pa6 rw6 co6 p1) : ∀ (f k : Nat) (x2 x3 : Int32), x2.toInt = lsZ (fuN n P u E) k → x3.toInt = (k : Int) → k ≤ n → n + 1 ≤ k + f → vX6_leastFull_c9 pa6 rw6 co6 p1 (postX6_leastFull n P u E pa6 rw6 co6 p1) f x2 x3
  | 0, k, x2, x3, _, _, _, hf => absurd hf (by omega)
  | f + 1, k, x2, x3, h2, h3, hk, hf => by
    obtain ⟨hn, hn1, hn5, hc, hP, hu, hE⟩ := id H
    rw [vX6_leastFull_c9, q_le hn h3]
    refine ⟨fun c => ?_, fun c => ⟨n, P, u, E, k, ⟨hn, hn5, hc, hP, hu, hE, h3, by omega⟩, fun r hr y ey => sX6_leastFull_9 n P u E pa6 rw6 co6 p1 H f (k + 1) _ _ ?_ (q_1 h3 (by omega)) (by omega) (by omega)⟩⟩
    · have e : k = n := by omega
      rw [e] at h2; exact h2
    · have hr : r.toInt = fuN n P u E k := hr
      rw [ey, lsZ]
      by_cases d : fuN n P u E k < lsZ (fuN n P u E) k
      · rw [if_pos d, if_pos (by rw [fa_lt, hr, h2]; exact d)]; exact hr
      · rw [if_neg d, if_neg (by rw [fa_lt, hr, h2]; exact d)]; exact h2
theorem sX6_leastFull (n : Nat) (P : Nat) (u : Nat → Nat) (E : Nat → Bool) (pa6 : Int32) (rw6 : Int32) (co6 : Nat → Int32) (p1 : Int32) (H : preX6_leastFull n P u E pa6 rw6 co6 p1) : vX6_leastFull pa6 rw6 co6 p1 (postX6_leastFull n P u E pa6 rw6 co6 p1) := by
  obtain ⟨hn, hn1, hn5, hc, hP, hu, hE⟩ := id H
  refine ⟨n, P, u, E, 0, ⟨hn, hn5, hc, hP, hu, hE, rfl, by omega⟩, fun r hr => ⟨n + 1, sX6_leastFull_9 n P u E pa6 rw6 co6 p1 H _ 1 r 1 ?_ rfl hn1 (by omega)⟩⟩
  have hr : r.toInt = fuN n P u E 0 := hr
  rw [hr, lsZ, lsZ, if_neg (by omega)]
