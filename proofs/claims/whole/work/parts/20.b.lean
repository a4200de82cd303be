set_option maxRecDepth 20000 in
theorem ggX4_readMark_X4_note : GoodIn wsX4_readMark wsX4_note := goodIn_r _ [7, 8, 9, 10, 54, 55, 56, 57, 58, 59, 60, 61, 62] (by decide +kernel) (by decide +kernel)
set_option maxRecDepth 20000 in
theorem gX4_readMark_X4_note : GoodIn wsX4_readMark (wsV RX4 89 RX4 yX4_note wsX4_note) := goodIn_app (goodIn_of _ (by decide +kernel)) ggX4_readMark_X4_note
set_option maxRecDepth 20000 in
theorem ggX4_readMark_X4_readNumber : GoodIn wsX4_readMark wsX4_readNumber := goodIn_r _ [14, 15, 2, 16, 17, 18, 6, 19, 20, 21, 22, 9, 23, 24, 25, 26, 27, 28, 29, 30, 31, 32, 33, 34, 35, 8, 10, 3, 4, 5, 7, 54, 55, 56, 57, 58, 59, 60, 61, 62] (by decide +kernel) (by decide +kernel)
set_option maxRecDepth 20000 in
theorem gX4_readMark_X4_readNumber : GoodIn wsX4_readMark (wsV RX4 59 RX4 yX4_readNumber wsX4_readNumber) := goodIn_app (goodIn_of _ (by decide +kernel)) ggX4_readMark_X4_readNumber
set_option maxRecDepth 20000 in
theorem ggX4_readMark_X1_addMark : GoodIn wsX4_readMark wsX1_addMark := goodIn_r _ [40, 41, 42, 43, 44, 49, 50, 51, 52, 53] (by decide +kernel) (by decide +kernel)
set_option maxRecDepth 20000 in
theorem gX4_readMark_X1_addMark : GoodIn wsX4_readMark (wsV RX4 132 RX1 yX1_addMark wsX1_addMark) := goodIn_app (goodIn_of _ (by decide +kernel)) ggX4_readMark_X1_addMark
set_option maxRecDepth 20000 in
theorem ggX4_readMark_X4_readSign : GoodIn wsX4_readMark wsX4_readSign := goodIn_r _ [48, 15, 16, 17, 18, 6, 19, 20, 21, 22, 9, 2, 23, 24, 25, 26, 27, 28, 29, 30, 31, 32, 33, 34, 35, 8, 10, 54, 55, 56, 57, 58, 59, 60, 61, 62] (by decide +kernel) (by decide +kernel)
set_option maxRecDepth 20000 in
theorem gX4_readMark_X4_readSign : GoodIn wsX4_readMark (wsV RX4 68 RX4 yX4_readSign wsX4_readSign) := goodIn_app (goodIn_of _ (by decide +kernel)) ggX4_readMark_X4_readSign
theorem dX4_readMark_0 : decode cX4_readMark 0 = .ok (.aload_n 1, 1) := by decide +kernel
theorem dX4_readMark_1 : decode cX4_readMark 1 = .ok (.getfield 129, 3) := by decide +kernel
theorem dX4_readMark_4 : decode cX4_readMark 4 = .ok (.bipush 10, 2) := by decide +kernel
theorem dX4_readMark_6 : decode cX4_readMark 6 = .ok (.if_icmp .lt 8, 3) := by decide +kernel
theorem dX4_readMark_9 : decode cX4_readMark 9 = .ok (.aload_n 0, 1) := by decide +kernel
theorem dX4_readMark_10 : decode cX4_readMark 10 = .ok (.iconst 4, 1) := by decide +kernel
theorem dX4_readMark_11 : decode cX4_readMark 11 = .ok (.invokevirtual 89, 3) := by decide +kernel
theorem dX4_readMark_14 : decode cX4_readMark 14 = .ok (.aload_n 0, 1) := by decide +kernel
theorem dX4_readMark_15 : decode cX4_readMark 15 = .ok (.iconst 0, 1) := by decide +kernel
theorem dX4_readMark_16 : decode cX4_readMark 16 = .ok (.sipush 199, 3) := by decide +kernel
theorem dX4_readMark_19 : decode cX4_readMark 19 = .ok (.invokevirtual 59, 3) := by decide +kernel
theorem dX4_readMark_22 : decode cX4_readMark 22 = .ok (.ifCond .ne 5, 3) := by decide +kernel
theorem dX4_readMark_25 : decode cX4_readMark 25 = .ok (.iconst 0, 1) := by decide +kernel
theorem dX4_readMark_26 : decode cX4_readMark 26 = .ok (.ireturn, 1) := by decide +kernel
theorem dX4_readMark_27 : decode cX4_readMark 27 = .ok (.aload_n 0, 1) := by decide +kernel
theorem dX4_readMark_28 : decode cX4_readMark 28 = .ok (.getfield 63, 3) := by decide +kernel
theorem dX4_readMark_31 : decode cX4_readMark 31 = .ok (.istore_n 3, 1) := by decide +kernel
theorem dX4_readMark_32 : decode cX4_readMark 32 = .ok (.iload_n 2, 1) := by decide +kernel
theorem dX4_readMark_33 : decode cX4_readMark 33 = .ok (.iconst 3, 1) := by decide +kernel
theorem dX4_readMark_34 : decode cX4_readMark 34 = .ok (.if_icmp .ne 16, 3) := by decide +kernel
theorem dX4_readMark_37 : decode cX4_readMark 37 = .ok (.aload_n 0, 1) := by decide +kernel
theorem dX4_readMark_38 : decode cX4_readMark 38 = .ok (.iload_n 3, 1) := by decide +kernel
theorem dX4_readMark_39 : decode cX4_readMark 39 = .ok (.sipush 199, 3) := by decide +kernel
theorem dX4_readMark_42 : decode cX4_readMark 42 = .ok (.invokevirtual 59, 3) := by decide +kernel
theorem dX4_readMark_45 : decode cX4_readMark 45 = .ok (.ifCond .ne 5, 3) := by decide +kernel
theorem dX4_readMark_48 : decode cX4_readMark 48 = .ok (.iconst 0, 1) := by decide +kernel
theorem dX4_readMark_49 : decode cX4_readMark 49 = .ok (.ireturn, 1) := by decide +kernel
theorem dX4_readMark_50 : decode cX4_readMark 50 = .ok (.aload_n 1, 1) := by decide +kernel
theorem dX4_readMark_51 : decode cX4_readMark 51 = .ok (.iload_n 2, 1) := by decide +kernel
theorem dX4_readMark_52 : decode cX4_readMark 52 = .ok (.iload_n 3, 1) := by decide +kernel
theorem dX4_readMark_53 : decode cX4_readMark 53 = .ok (.aload_n 0, 1) := by decide +kernel
theorem dX4_readMark_54 : decode cX4_readMark 54 = .ok (.getfield 63, 3) := by decide +kernel
theorem dX4_readMark_57 : decode cX4_readMark 57 = .ok (.invokevirtual 132, 3) := by decide +kernel
theorem dX4_readMark_60 : decode cX4_readMark 60 = .ok (.pop, 1) := by decide +kernel
theorem dX4_readMark_61 : decode cX4_readMark 61 = .ok (.aload_n 0, 1) := by decide +kernel
theorem dX4_readMark_62 : decode cX4_readMark 62 = .ok (.invokevirtual 68, 3) := by decide +kernel
theorem dX4_readMark_65 : decode cX4_readMark 65 = .ok (.ireturn, 1) := by decide +kernel
abbrev rmX4_readMark : Room := { frames := 3, cells := 0, slots := 0, locals := 62 }
theorem inX4_readMark_1 : ∀ w ∈ wsX10, w ∈ wsX4_readMark := by decide +kernel
theorem inX4_readMark_4 : ∀ w ∈ wsX40, w ∈ wsX4_readMark := by decide +kernel
def vX4_readMark_c50 (tx : Nat → Int32) (nu : Nat → Int32) (p2 : Int32) (Q : Int32 → (Nat → Int32) → (Int32) → (Nat → Int32) → (Nat → Int32) → (Nat → Int32) → Prop) (x3 : Int32) (D : Nat → Int32) (mk : Int32) (kd : Nat → Int32) (fi : Nat → Int32) (la : Nat → Int32) : Prop := (preX1_addMark mk nu kd fi la p2 x3 (D 8) ∧ (∀ (r_57 : Int32) (mk_57 : Int32) (kd_57 : Nat → Int32) (fi_57 : Nat → Int32) (la_57 : Nat → Int32), postX1_addMark mk nu kd fi la p2 x3 (D 8) r_57 mk_57 kd_57 fi_57 la_57 → (∃ (b_62 : Nat → Int32) (nb_62 : Nat) (i_62 : Nat), preX4_readSign b_62 nb_62 i_62 D tx ∧ (∀ (r_62 : Int32) (D_62 : Nat → Int32), postX4_readSign b_62 nb_62 i_62 D tx r_62 D_62 → (narrow .boolean (.int r_62) = .int r_62 ∧ (Q r_62 D_62 mk_57 kd_57 fi_57 la_57))))))
set_option maxHeartbeats 4000000 in
set_option maxRecDepth 100000 in
theorem kX4_readMark_c50 {p : Program} {l : Launch} {e : Env} {s : State} {m : MethodId} {args : Array Value} {below : List Frame} {meth : Method} {c : Code} {g : GP} {qd : Nat} {qtr : Nat} {qtx : Nat} {qG : Nat} {qn : Nat} {qk : Nat} {qf : Nat} {qs : Nat} {tx : Nat → Int32} {nu : Nat → Int32} {p2 : Int32} {Q : Int32 → (Nat → Int32) → (Int32) → (Nat → Int32) → (Nat → Int32) → (Nat → Int32) → Prop} {A : Nat → Prop} (S : CallFix p m c cX4_readMark 4 s args wsX4_readMark RX4) (hr : meth.sig.returnType = (some .boolean)) (hlocks : meth.locks = false) (hG : GK g s) (hA : ∀ q : Nat, s.heap.size ≤ q → A q) : ∀ (x3 : Int32) (D : Nat → Int32) (mk : Int32) (kd : Nat → Int32) (fi : Nat → Int32) (la : Nat → Int32), vX4_readMark_c50 tx nu p2 Q x3 D mk kd fi la → ∀ (H : Heap) (locs : List Loc), va_P g.1 vwCl [(qd, .inr (4, [.ref qtr, .ref qtx, .int (D 2), .int (D 3), .int (D 4), .int (D 5), .int (D 6), .int (D 7), .int (D 8)])), (qtx, .inl (g.2 1, 500, .inl tx)), (qG, .inr (1, [.ref qn, .ref qk, .ref qf, .ref qs, .int mk])), (qn, .inl (g.2 0, 6, .inl nu)), (qk, .inl (g.2 0, 10, .inl kd)), (qf, .inl (g.2 0, 10, .inl fi)), (qs, .inl (g.2 0, 10, .inl la))] H → va_D A [(qd, .inr (4, [.ref qtr, .ref qtx, .int (D 2), .int (D 3), .int (D 4), .int (D 5), .int (D 6), .int (D 7), .int (D 8)])), (qtx, .inl (g.2 1, 500, .inl tx)), (qG, .inr (1, [.ref qn, .ref qk, .ref qf, .ref qs, .int mk])), (qn, .inl (g.2 0, 6, .inl nu)), (qk, .inl (g.2 0, 10, .inl kd)), (qf, .inl (g.2 0, 10, .inl fi)), (qs, .inl (g.2 0, 10, .inl la))] → va_S A s.heap H locs → ∀ (ls : Array Slot), lv_has ls 4 [(0, .ref qd), (1, .ref qG), (2, .int p2), (3, .int x3)] → W p l e (headSpec wsX4_readMark rmX4_readMark).room s m args below meth c H locs 0 0 (MQ below (va_Qi (fun (r : Int32) (u : (Nat → Int32) × Int32 × (Nat → Int32) × (Nat → Int32) × (Nat → Int32)) => Q r u.1 u.2.1 u.2.2.1 u.2.2.2.1 u.2.2.2.2) (fun (u : (Nat → Int32) × Int32 × (Nat → Int32) × (Nat → Int32) × (Nat → Int32)) t => va_P g.1 vwCl [(qd, .inr (4, [.ref qtr, .ref qtx, .int (u.1 2), .int (u.1 3), .int (u.1 4), .int (u.1 5), .int (u.1 6), .int (u.1 7), .int (u.1 8)])), (qtx, .inl (g.2 1, 500, .inl tx)), (qG, .inr (1, [.ref qn, .ref qk, .ref qf, .ref qs, .int u.2.1])), (qn, .inl (g.2 0, 6, .inl nu)), (qk, .inl (g.2 0, 10, .inl u.2.2.1)), (qf, .inl (g.2 0, 10, .inl u.2.2.2.1)), (qs, .inl (g.2 0, 10, .inl u.2.2.2.2))] t.heap ∧ va_D A [(qd, .inr (4, [.ref qtr, .ref qtx, .int (u.1 2), .int (u.1 3), .int (u.1 4), .int (u.1 5), .int (u.1 6), .int (u.1 7), .int (u.1 8)])), (qtx, .inl (g.2 1, 500, .inl tx)), (qG, .inr (1, [.ref qn, .ref qk, .ref qf, .ref qs, .int u.2.1])), (qn, .inl (g.2 0, 6, .inl nu)), (qk, .inl (g.2 0, 10, .inl u.2.2.1)), (qf, .inl (g.2 0, 10, .inl u.2.2.2.1)), (qs, .inl (g.2 0, 10, .inl u.2.2.2.2))]) A) args s 0 0 A) (F0 m 50 ls []) := by
  obtain ⟨hx, hb, hml, hown, hts⟩ := id S
  have hK := hG.1
  intro x3 D mk kd fi la hv H locs hP hD hS ls hl
  unfold vX4_readMark_c50 at hv
  refine lv_aload_n hx hb dX4_readMark_50 rfl (lv_at hl 1 rfl) ?_
  refine lv_iload_n hx hb dX4_readMark_51 rfl (lv_at hl 2 rfl) ?_
  refine lv_iload_n hx hb dX4_readMark_52 rfl (lv_at hl 3 rfl) ?_
  refine lv_aload_n hx hb dX4_readMark_53 rfl (lv_at hl 0 rfl) ?_
  refine va_get (D := g.1) (ci := 4) (v := .int (D 8)) (C := RX4) (T := TX4) (N := 9) hx hb hts inX4_readMark_4 hown hK hP 0 rfl rfl 8 (by decide) (hts (.fieldLink RX4 63 "RangeCodes$Reader" "value" "I") (List.mem_of_getElem? (i := 2) rfl)) (fun _ h9 => h9) rfl dX4_readMark_54 ?_
  obtain ⟨ho_1, hv⟩ := hv
  have hPc := hP.sub (ws' := [(qG, .inr (1, [.ref qn, .ref qk, .ref qf, .ref qs, .int mk])), (qn, .inl (g.2 0, 6, .inl nu)), (qk, .inl (g.2 0, 10, .inl kd)), (qf, .inl (g.2 0, 10, .inl fi)), (qs, .inl (g.2 0, 10, .inl la))]) [2, 3, 4, 5, 6] rfl
  have hDc := hD.sub (ws' := [(qG, .inr (1, [.ref qn, .ref qk, .ref qf, .ref qs, .int mk])), (qn, .inl (g.2 0, 6, .inl nu)), (qk, .inl (g.2 0, 10, .inl kd)), (qf, .inl (g.2 0, 10, .inl fi)), (qs, .inl (g.2 0, 10, .inl la))]) [2, 3, 4, 5, 6] (by decide) rfl
  have hFc := va_free (wc := [(qG, .inr (1, [.ref qn, .ref qk, .ref qf, .ref qs, .int mk])), (qn, .inl (g.2 0, 6, .inl nu)), (qk, .inl (g.2 0, 10, .inl kd)), (qf, .inl (g.2 0, 10, .inl fi)), (qs, .inl (g.2 0, 10, .inl la))]) hD hS hA [2, 3, 4, 5, 6] rfl
  refine va_calli (va_runV (As := [.int p2, .int x3, .int (D 8)]) (rest := []) S (wX1_addMark l g qG qn qk qf qs H.size mk nu kd fi la p2 x3 (D 8) (sX1_addMark mk nu kd fi la p2 x3 (D 8) ho_1)) (cwV 3 hts gX4_readMark_X1_addMark rfl rfl rfl (by decide +kernel) ⟨Nat.le_of_ble_eq_true rfl, Nat.le_of_ble_eq_true rfl⟩) ⟨blindRW, va_recv hK hP (ci := 1) (q0 := 2) rfl rfl, fun U hU hW => ⟨rfl, by rw [hU], by rw [hU]; exact hPc, hG.warm hW, hDc.weaken (fun _ _ _ _ => trivial)⟩⟩ rfl rfl hl.1 rfl (lv_room (Nat.le_of_ble_eq_true rfl)) dX4_readMark_57 ⟨Nat.le_of_ble_eq_true rfl, Nat.le_of_ble_eq_true rfl⟩) hS (fun q _ h => hFc q h) hFc (fun r_57 u t H1 locs ht hvm hw hB hz1 hk1 hS => ?_)
  obtain ⟨mk_57, kd_57, fi_57, la_57⟩ := u
  obtain ⟨hP1, hD1⟩ := hB
  rw [ht] at hP1
  have hv := hv r_57 mk_57 kd_57 fi_57 la_57 hw
  obtain ⟨hP, hD⟩ := va_join (wr := [(qd, .inr (4, [.ref qtr, .ref qtx, .int (D 2), .int (D 3), .int (D 4), .int (D 5), .int (D 6), .int (D 7), .int (D 8)])), (qtx, .inl (g.2 1, 500, .inl tx))]) (w1 := [(qG, .inr (1, [.ref qn, .ref qk, .ref qf, .ref qs, .int mk_57])), (qn, .inl (g.2 0, 6, .inl nu)), (qk, .inl (g.2 0, 10, .inl kd_57)), (qf, .inl (g.2 0, 10, .inl fi_57)), (qs, .inl (g.2 0, 10, .inl la_57))]) hP hD [2, 3, 4, 5, 6] [0, 1] rfl rfl (by decide) (by decide) hk1 hFc hP1 hD1
  clear hP1 hD1 hPc hDc hFc hk1
  generalize H1 = H at hP hS ⊢
  have hP : va_P g.1 vwCl [(qd, .inr (4, [.ref qtr, .ref qtx, .int (D 2), .int (D 3), .int (D 4), .int (D 5), .int (D 6), .int (D 7), .int (D 8)])), (qtx, .inl (g.2 1, 500, .inl tx)), (qG, .inr (1, [.ref qn, .ref qk, .ref qf, .ref qs, .int mk_57])), (qn, .inl (g.2 0, 6, .inl nu)), (qk, .inl (g.2 0, 10, .inl kd_57)), (qf, .inl (g.2 0, 10, .inl fi_57)), (qs, .inl (g.2 0, 10, .inl la_57))] H := hP
  have hD : va_D A [(qd, .inr (4, [.ref qtr, .ref qtx, .int (D 2), .int (D 3), .int (D 4), .int (D 5), .int (D 6), .int (D 7), .int (D 8)])), (qtx, .inl (g.2 1, 500, .inl tx)), (qG, .inr (1, [.ref qn, .ref qk, .ref qf, .ref qs, .int mk_57])), (qn, .inl (g.2 0, 6, .inl nu)), (qk, .inl (g.2 0, 10, .inl kd_57)), (qf, .inl (g.2 0, 10, .inl fi_57)), (qs, .inl (g.2 0, 10, .inl la_57))] := hD
  refine lv_pop hx hb dX4_readMark_60 rfl ?_
  refine lv_aload_n hx hb dX4_readMark_61 rfl (lv_at hl 0 rfl) ?_
  obtain ⟨b_62, nb_62, i_62, ho_2, hv⟩ := hv
  have hPc := hP.sub (ws' := [(qd, .inr (4, [.ref qtr, .ref qtx, .int (D 2), .int (D 3), .int (D 4), .int (D 5), .int (D 6), .int (D 7), .int (D 8)])), (qtx, .inl (g.2 1, 500, .inl tx))]) [0, 1] rfl
  have hDc := hD.sub (ws' := [(qd, .inr (4, [.ref qtr, .ref qtx, .int (D 2), .int (D 3), .int (D 4), .int (D 5), .int (D 6), .int (D 7), .int (D 8)])), (qtx, .inl (g.2 1, 500, .inl tx))]) [0, 1] (by decide) rfl
  have hFc := va_free (wc := [(qd, .inr (4, [.ref qtr, .ref qtx, .int (D 2), .int (D 3), .int (D 4), .int (D 5), .int (D 6), .int (D 7), .int (D 8)])), (qtx, .inl (g.2 1, 500, .inl tx))]) hD hS hA [0, 1] rfl
  refine va_calli (va_runV (As := []) (rest := []) S (wX4_readSign l g qd qtr qtx H.size D tx (sX4_readSign b_62 nb_62 i_62 D tx ho_2)) (cwV 0 hts gX4_readMark_X4_readSign rfl rfl rfl (by decide +kernel) ⟨Nat.le_of_ble_eq_true rfl, Nat.le_of_ble_eq_true rfl⟩) ⟨blindRW, va_recv hK hP (ci := 4) (q0 := 0) rfl rfl, fun U hU hW => ⟨rfl, by rw [hU], by rw [hU]; exact hPc, hG.warm hW, hDc.weaken (fun _ _ _ _ => trivial)⟩⟩ rfl rfl hl.1 rfl (lv_room (Nat.le_of_ble_eq_true rfl)) dX4_readMark_62 ⟨Nat.le_of_ble_eq_true rfl, Nat.le_of_ble_eq_true rfl⟩) hS (fun q _ h => hFc q h) hFc (fun r_62 u t H1 locs ht hvm hw hB hz1 hk1 hS => ?_)
  obtain ⟨D_62, rfl⟩ : ∃ z, z = u := ⟨_, rfl⟩
  obtain ⟨hP1, hD1⟩ := hB
  rw [ht] at hP1
  have hv := hv r_62 D_62 hw
  obtain ⟨hP, hD⟩ := va_join (wr := [(qG, .inr (1, [.ref qn, .ref qk, .ref qf, .ref qs, .int mk_57])), (qn, .inl (g.2 0, 6, .inl nu)), (qk, .inl (g.2 0, 10, .inl kd_57)), (qf, .inl (g.2 0, 10, .inl fi_57)), (qs, .inl (g.2 0, 10, .inl la_57))]) (w1 := [(qd, .inr (4, [.ref qtr, .ref qtx, .int (D_62 2), .int (D_62 3), .int (D_62 4), .int (D_62 5), .int (D_62 6), .int (D_62 7), .int (D_62 8)])), (qtx, .inl (g.2 1, 500, .inl tx))]) hP hD [0, 1] [2, 3, 4, 5, 6] rfl rfl (by decide) (by decide) hk1 hFc hP1 hD1
  clear hP1 hD1 hPc hDc hFc hk1
  generalize H1 = H at hP hS ⊢
  have hP : va_P g.1 vwCl [(qG, .inr (1, [.ref qn, .ref qk, .ref qf, .ref qs, .int mk_57])), (qn, .inl (g.2 0, 6, .inl nu)), (qk, .inl (g.2 0, 10, .inl kd_57)), (qf, .inl (g.2 0, 10, .inl fi_57)), (qs, .inl (g.2 0, 10, .inl la_57)), (qd, .inr (4, [.ref qtr, .ref qtx, .int (D_62 2), .int (D_62 3), .int (D_62 4), .int (D_62 5), .int (D_62 6), .int (D_62 7), .int (D_62 8)])), (qtx, .inl (g.2 1, 500, .inl tx))] H := hP
  have hD : va_D A [(qG, .inr (1, [.ref qn, .ref qk, .ref qf, .ref qs, .int mk_57])), (qn, .inl (g.2 0, 6, .inl nu)), (qk, .inl (g.2 0, 10, .inl kd_57)), (qf, .inl (g.2 0, 10, .inl fi_57)), (qs, .inl (g.2 0, 10, .inl la_57)), (qd, .inr (4, [.ref qtr, .ref qtx, .int (D_62 2), .int (D_62 3), .int (D_62 4), .int (D_62 5), .int (D_62 6), .int (D_62 7), .int (D_62 8)])), (qtx, .inl (g.2 1, 500, .inl tx))] := hD
  have hP9 := hP.sub (ws' := [(qd, .inr (4, [.ref qtr, .ref qtx, .int (D_62 2), .int (D_62 3), .int (D_62 4), .int (D_62 5), .int (D_62 6), .int (D_62 7), .int (D_62 8)])), (qtx, .inl (g.2 1, 500, .inl tx)), (qG, .inr (1, [.ref qn, .ref qk, .ref qf, .ref qs, .int mk_57])), (qn, .inl (g.2 0, 6, .inl nu)), (qk, .inl (g.2 0, 10, .inl kd_57)), (qf, .inl (g.2 0, 10, .inl fi_57)), (qs, .inl (g.2 0, 10, .inl la_57))]) [5, 6, 0, 1, 2, 3, 4] rfl
  have hD9 := hD.sub (ws' := [(qd, .inr (4, [.ref qtr, .ref qtx, .int (D_62 2), .int (D_62 3), .int (D_62 4), .int (D_62 5), .int (D_62 6), .int (D_62 7), .int (D_62 8)])), (qtx, .inl (g.2 1, 500, .inl tx)), (qG, .inr (1, [.ref qn, .ref qk, .ref qf, .ref qs, .int mk_57])), (qn, .inl (g.2 0, 6, .inl nu)), (qk, .inl (g.2 0, 10, .inl kd_57)), (qf, .inl (g.2 0, 10, .inl fi_57)), (qs, .inl (g.2 0, 10, .inl la_57))]) [5, 6, 0, 1, 2, 3, 4] (by decide) rfl
  obtain ⟨hn, hv⟩ := hv
  exact W.zret (v := r_62) (ty := .boolean) hx hb hr hn (fun t ht hW => ⟨⟨_, (D_62, mk_57, kd_57, fi_57, la_57), rfl, hv, by rw [ht]; exact hP9, hD9⟩, hS.F ht⟩) hS.2.2 dX4_readMark_65
def vX4_readMark_c14 (tx : Nat → Int32) (nu : Nat → Int32) (p2 : Int32) (Q : Int32 → (Nat → Int32) → (Int32) → (Nat → Int32) → (Nat → Int32) → (Nat → Int32) → Prop) (D : Nat → Int32) (mk : Int32) (kd : Nat → Int32) (fi : Nat → Int32) (la : Nat → Int32) : Prop := (∃ (b_19 : Nat → Int32) (nb_19 : Nat) (i_19 : Nat), preX4_readNumber b_19 nb_19 i_19 D tx (0 : Int32) (199 : Int32) ∧ (∀ (r_19 : Int32) (D_19 : Nat → Int32), postX4_readNumber b_19 nb_19 i_19 D tx (0 : Int32) (199 : Int32) r_19 D_19 → ((¬ r_19 = 0 → ((¬ p2 = (3 : Int32) → (vX4_readMark_c50 tx nu p2 Q (D_19 8) D_19 mk kd fi la)) ∧ (p2 = (3 : Int32) → (∃ (b_42 : Nat → Int32) (nb_42 : Nat) (i_42 : Nat), preX4_readNumber b_42 nb_42 i_42 D_19 tx (D_19 8) (199 : Int32) ∧ (∀ (r_42 : Int32) (D_42 : Nat → Int32), postX4_readNumber b_42 nb_42 i_42 D_19 tx (D_19 8) (199 : Int32) r_42 D_42 → ((¬ r_42 = 0 → (vX4_readMark_c50 tx nu p2 Q (D_19 8) D_42 mk kd fi la)) ∧ (r_42 = 0 → (Q (0 : Int32) D_42 mk kd fi la)))))))) ∧ (r_19 = 0 → (Q (0 : Int32) D_19 mk kd fi la)))))
set_option maxHeartbeats 4000000 in
set_option maxRecDepth 100000 in
theorem kX4_readMark_c14 {p : Program} {l : Launch} {e : Env} {s : State} {m : MethodId} {args : Array Value} {below : List Frame} {meth : Method} {c : Code} {g : GP} {qd : Nat} {qtr : Nat} {qtx : Nat} {qG : Nat} {qn : Nat} {qk : Nat} {qf : Nat} {qs : Nat} {tx : Nat → Int32} {nu : Nat → Int32} {p2 : Int32} {Q : Int32 → (Nat → Int32) → (Int32) → (Nat → Int32) → (Nat → Int32) → (Nat → Int32) → Prop} {A : Nat → Prop} (S : CallFix p m c cX4_readMark 4 s args wsX4_readMark RX4) (hr : meth.sig.returnType = (some .boolean)) (hlocks : meth.locks = false) (hG : GK g s) (hA : ∀ q : Nat, s.heap.size ≤ q → A q) : ∀ (D : Nat → Int32) (mk : Int32) (kd : Nat → Int32) (fi : Nat → Int32) (la : Nat → Int32), vX4_readMark_c14 tx nu p2 Q D mk kd fi la → ∀ (H : Heap) (locs : List Loc), va_P g.1 vwCl [(qd, .inr (4, [.ref qtr, .ref qtx, .int (D 2), .int (D 3), .int (D 4), .int (D 5), .int (D 6), .int (D 7), .int (D 8)])), (qtx, .inl (g.2 1, 500, .inl tx)), (qG, .inr (1, [.ref qn, .ref qk, .ref qf, .ref qs, .int mk])), (qn, .inl (g.2 0, 6, .inl nu)), (qk, .inl (g.2 0, 10, .inl kd)), (qf, .inl (g.2 0, 10, .inl fi)), (qs, .inl (g.2 0, 10, .inl la))] H → va_D A [(qd, .inr (4, [.ref qtr, .ref qtx, .int (D 2), .int (D 3), .int (D 4), .int (D 5), .int (D 6), .int (D 7), .int (D 8)])), (qtx, .inl (g.2 1, 500, .inl tx)), (qG, .inr (1, [.ref qn, .ref qk, .ref qf, .ref qs, .int mk])), (qn, .inl (g.2 0, 6, .inl nu)), (qk, .inl (g.2 0, 10, .inl kd)), (qf, .inl (g.2 0, 10, .inl fi)), (qs, .inl (g.2 0, 10, .inl la))] → va_S A s.heap H locs → ∀ (ls : Array Slot), lv_has ls 4 [(0, .ref qd), (1, .ref qG), (2, .int p2)] → W p l e (headSpec wsX4_readMark rmX4_readMark).room s m args below meth c H locs 0 0 (MQ below (va_Qi (fun (r : Int32) (u : (Nat → Int32) × Int32 × (Nat → Int32) × (Nat → Int32) × (Nat → Int32)) => Q r u.1 u.2.1 u.2.2.1 u.2.2.2.1 u.2.2.2.2) (fun (u : (Nat → Int32) × Int32 × (Nat → Int32) × (Nat → Int32) × (Nat → Int32)) t => va_P g.1 vwCl [(qd, .inr (4, [.ref qtr, .ref qtx, .int (u.1 2), .int (u.1 3), .int (u.1 4), .int (u.1 5), .int (u.1 6), .int (u.1 7), .int (u.1 8)])), (qtx, .inl (g.2 1, 500, .inl tx)), (qG, .inr (1, [.ref qn, .ref qk, .ref qf, .ref qs, .int u.2.1])), (qn, .inl (g.2 0, 6, .inl nu)), (qk, .inl (g.2 0, 10, .inl u.2.2.1)), (qf, .inl (g.2 0, 10, .inl u.2.2.2.1)), (qs, .inl (g.2 0, 10, .inl u.2.2.2.2))] t.heap ∧ va_D A [(qd, .inr (4, [.ref qtr, .ref qtx, .int (u.1 2), .int (u.1 3), .int (u.1 4), .int (u.1 5), .int (u.1 6), .int (u.1 7), .int (u.1 8)])), (qtx, .inl (g.2 1, 500, .inl tx)), (qG, .inr (1, [.ref qn, .ref qk, .ref qf, .ref qs, .int u.2.1])), (qn, .inl (g.2 0, 6, .inl nu)), (qk, .inl (g.2 0, 10, .inl u.2.2.1)), (qf, .inl (g.2 0, 10, .inl u.2.2.2.1)), (qs, .inl (g.2 0, 10, .inl u.2.2.2.2))]) A) args s 0 0 A) (F0 m 14 ls []) := by
  obtain ⟨hx, hb, hml, hown, hts⟩ := id S
  have hK := hG.1
  intro D mk kd fi la hv H locs hP hD hS ls hl
  unfold vX4_readMark_c14 at hv
  refine lv_aload_n hx hb dX4_readMark_14 rfl (lv_at hl 0 rfl) ?_
  refine lv_iconst (v := (0 : Int32)) hx hb dX4_readMark_15 (by decide) ?_
  refine lv_sipush (v := (199 : Int32)) hx hb dX4_readMark_16 (by decide) ?_
  obtain ⟨b_19, nb_19, i_19, ho_1, hv⟩ := hv
  have hPc := hP.sub (ws' := [(qd, .inr (4, [.ref qtr, .ref qtx, .int (D 2), .int (D 3), .int (D 4), .int (D 5), .int (D 6), .int (D 7), .int (D 8)])), (qtx, .inl (g.2 1, 500, .inl tx))]) [0, 1] rfl
  have hDc := hD.sub (ws' := [(qd, .inr (4, [.ref qtr, .ref qtx, .int (D 2), .int (D 3), .int (D 4), .int (D 5), .int (D 6), .int (D 7), .int (D 8)])), (qtx, .inl (g.2 1, 500, .inl tx))]) [0, 1] (by decide) rfl
  have hFc := va_free (wc := [(qd, .inr (4, [.ref qtr, .ref qtx, .int (D 2), .int (D 3), .int (D 4), .int (D 5), .int (D 6), .int (D 7), .int (D 8)])), (qtx, .inl (g.2 1, 500, .inl tx))]) hD hS hA [0, 1] rfl
  refine va_calli (va_runV (As := [.int (0 : Int32), .int (199 : Int32)]) (rest := []) S (wX4_readNumber l g qd qtr qtx H.size D tx (0 : Int32) (199 : Int32) (sX4_readNumber b_19 nb_19 i_19 D tx (0 : Int32) (199 : Int32) ho_1)) (cwV 2 hts gX4_readMark_X4_readNumber rfl rfl rfl (by decide +kernel) ⟨Nat.le_of_ble_eq_true rfl, Nat.le_of_ble_eq_true rfl⟩) ⟨blindRW, va_recv hK hP (ci := 4) (q0 := 0) rfl rfl, fun U hU hW => ⟨rfl, by rw [hU], by rw [hU]; exact hPc, hG.warm hW, hDc.weaken (fun _ _ _ _ => trivial)⟩⟩ rfl rfl hl.1 rfl (lv_room (Nat.le_of_ble_eq_true rfl)) dX4_readMark_19 ⟨Nat.le_of_ble_eq_true rfl, Nat.le_of_ble_eq_true rfl⟩) hS (fun q _ h => hFc q h) hFc (fun r_19 u t H1 locs ht hvm hw hB hz1 hk1 hS => ?_)
  obtain ⟨D_19, rfl⟩ : ∃ z, z = u := ⟨_, rfl⟩
  obtain ⟨hP1, hD1⟩ := hB
  rw [ht] at hP1
  have hv := hv r_19 D_19 hw
  obtain ⟨hP, hD⟩ := va_join (wr := [(qG, .inr (1, [.ref qn, .ref qk, .ref qf, .ref qs, .int mk])), (qn, .inl (g.2 0, 6, .inl nu)), (qk, .inl (g.2 0, 10, .inl kd)), (qf, .inl (g.2 0, 10, .inl fi)), (qs, .inl (g.2 0, 10, .inl la))]) (w1 := [(qd, .inr (4, [.ref qtr, .ref qtx, .int (D_19 2), .int (D_19 3), .int (D_19 4), .int (D_19 5), .int (D_19 6), .int (D_19 7), .int (D_19 8)])), (qtx, .inl (g.2 1, 500, .inl tx))]) hP hD [0, 1] [2, 3, 4, 5, 6] rfl rfl (by decide) (by decide) hk1 hFc hP1 hD1
  clear hP1 hD1 hPc hDc hFc hk1
  generalize H1 = H at hP hS ⊢
  have hP : va_P g.1 vwCl [(qG, .inr (1, [.ref qn, .ref qk, .ref qf, .ref qs, .int mk])), (qn, .inl (g.2 0, 6, .inl nu)), (qk, .inl (g.2 0, 10, .inl kd)), (qf, .inl (g.2 0, 10, .inl fi)), (qs, .inl (g.2 0, 10, .inl la)), (qd, .inr (4, [.ref qtr, .ref qtx, .int (D_19 2), .int (D_19 3), .int (D_19 4), .int (D_19 5), .int (D_19 6), .int (D_19 7), .int (D_19 8)])), (qtx, .inl (g.2 1, 500, .inl tx))] H := hP
  have hD : va_D A [(qG, .inr (1, [.ref qn, .ref qk, .ref qf, .ref qs, .int mk])), (qn, .inl (g.2 0, 6, .inl nu)), (qk, .inl (g.2 0, 10, .inl kd)), (qf, .inl (g.2 0, 10, .inl fi)), (qs, .inl (g.2 0, 10, .inl la)), (qd, .inr (4, [.ref qtr, .ref qtx, .int (D_19 2), .int (D_19 3), .int (D_19 4), .int (D_19 5), .int (D_19 6), .int (D_19 7), .int (D_19 8)])), (qtx, .inl (g.2 1, 500, .inl tx))] := hD
  obtain ⟨hvt, hvf⟩ := hv
  refine lv_if_ne (tgt := 27) hx hb dX4_readMark_22 (by decide) (fun hc => ?_) (fun hc => ?_)
  · have hv := hvt hc
    refine lv_aload_n hx hb dX4_readMark_27 rfl (lv_at hl 0 rfl) ?_
    refine va_get (D := g.1) (ci := 4) (v := .int (D_19 8)) (C := RX4) (T := TX4) (N := 9) hx hb hts inX4_readMark_4 hown hK hP 5 rfl rfl 8 (by decide) (hts (.fieldLink RX4 63 "RangeCodes$Reader" "value" "I") (List.mem_of_getElem? (i := 2) rfl)) (fun _ h9 => h9) rfl dX4_readMark_28 ?_
    refine lv_istore_n (lv' := [(3, .int (D_19 8)), (0, .ref qd), (1, .ref qG), (2, .int p2)]) hx hb dX4_readMark_31 rfl hl (by decide) rfl (fun ls hl => ?_)
    refine lv_iload_n hx hb dX4_readMark_32 rfl (lv_at hl 3 rfl) ?_
    refine lv_iconst (v := (3 : Int32)) hx hb dX4_readMark_33 (by decide) ?_
    obtain ⟨hvt, hvf⟩ := hv
    refine lv_icmp_ne (tgt := 50) hx hb dX4_readMark_34 (by decide) (fun hc => ?_) (fun hc => ?_)
    · have hv := hvt hc
      exact kX4_readMark_c50 S hr hlocks hG hA _ _ _ _ _ _ hv _ _ (hP.sub (ws' := [(qd, .inr (4, [.ref qtr, .ref qtx, .int (D_19 2), .int (D_19 3), .int (D_19 4), .int (D_19 5), .int (D_19 6), .int (D_19 7), .int (D_19 8)])), (qtx, .inl (g.2 1, 500, .inl tx)), (qG, .inr (1, [.ref qn, .ref qk, .ref qf, .ref qs, .int mk])), (qn, .inl (g.2 0, 6, .inl nu)), (qk, .inl (g.2 0, 10, .inl kd)), (qf, .inl (g.2 0, 10, .inl fi)), (qs, .inl (g.2 0, 10, .inl la))]) [5, 6, 0, 1, 2, 3, 4] rfl) (hD.sub (ws' := [(qd, .inr (4, [.ref qtr, .ref qtx, .int (D_19 2), .int (D_19 3), .int (D_19 4), .int (D_19 5), .int (D_19 6), .int (D_19 7), .int (D_19 8)])), (qtx, .inl (g.2 1, 500, .inl tx)), (qG, .inr (1, [.ref qn, .ref qk, .ref qf, .ref qs, .int mk])), (qn, .inl (g.2 0, 6, .inl nu)), (qk, .inl (g.2 0, 10, .inl kd)), (qf, .inl (g.2 0, 10, .inl fi)), (qs, .inl (g.2 0, 10, .inl la))]) [5, 6, 0, 1, 2, 3, 4] (by decide) rfl) hS ls (lv_sub hl [1, 2, 3, 0] rfl)
    · have hv := hvf hc
      refine lv_aload_n hx hb dX4_readMark_37 rfl (lv_at hl 1 rfl) ?_
      refine lv_iload_n hx hb dX4_readMark_38 rfl (lv_at hl 0 rfl) ?_
      refine lv_sipush (v := (199 : Int32)) hx hb dX4_readMark_39 (by decide) ?_
      obtain ⟨b_42, nb_42, i_42, ho_2, hv⟩ := hv
      have hPc := hP.sub (ws' := [(qd, .inr (4, [.ref qtr, .ref qtx, .int (D_19 2), .int (D_19 3), .int (D_19 4), .int (D_19 5), .int (D_19 6), .int (D_19 7), .int (D_19 8)])), (qtx, .inl (g.2 1, 500, .inl tx))]) [5, 6] rfl
      have hDc := hD.sub (ws' := [(qd, .inr (4, [.ref qtr, .ref qtx, .int (D_19 2), .int (D_19 3), .int (D_19 4), .int (D_19 5), .int (D_19 6), .int (D_19 7), .int (D_19 8)])), (qtx, .inl (g.2 1, 500, .inl tx))]) [5, 6] (by decide) rfl
      have hFc := va_free (wc := [(qd, .inr (4, [.ref qtr, .ref qtx, .int (D_19 2), .int (D_19 3), .int (D_19 4), .int (D_19 5), .int (D_19 6), .int (D_19 7), .int (D_19 8)])), (qtx, .inl (g.2 1, 500, .inl tx))]) hD hS hA [5, 6] rfl
      refine va_calli (va_runV (As := [.int (D_19 8), .int (199 : Int32)]) (rest := []) S (wX4_readNumber l g qd qtr qtx H.size D_19 tx (D_19 8) (199 : Int32) (sX4_readNumber b_42 nb_42 i_42 D_19 tx (D_19 8) (199 : Int32) ho_2)) (cwV 2 hts gX4_readMark_X4_readNumber rfl rfl rfl (by decide +kernel) ⟨Nat.le_of_ble_eq_true rfl, Nat.le_of_ble_eq_true rfl⟩) ⟨blindRW, va_recv hK hP (ci := 4) (q0 := 5) rfl rfl, fun U hU hW => ⟨rfl, by rw [hU], by rw [hU]; exact hPc, hG.warm hW, hDc.weaken (fun _ _ _ _ => trivial)⟩⟩ rfl rfl hl.1 rfl (lv_room (Nat.le_of_ble_eq_true rfl)) dX4_readMark_42 ⟨Nat.le_of_ble_eq_true rfl, Nat.le_of_ble_eq_true rfl⟩) hS (fun q _ h => hFc q h) hFc (fun r_42 u t H1 locs ht hvm hw hB hz1 hk1 hS => ?_)
      obtain ⟨D_42, rfl⟩ : ∃ z, z = u := ⟨_, rfl⟩
      obtain ⟨hP1, hD1⟩ := hB
      rw [ht] at hP1
      have hv := hv r_42 D_42 hw
      obtain ⟨hP, hD⟩ := va_join (wr := [(qG, .inr (1, [.ref qn, .ref qk, .ref qf, .ref qs, .int mk])), (qn, .inl (g.2 0, 6, .inl nu)), (qk, .inl (g.2 0, 10, .inl kd)), (qf, .inl (g.2 0, 10, .inl fi)), (qs, .inl (g.2 0, 10, .inl la))]) (w1 := [(qd, .inr (4, [.ref qtr, .ref qtx, .int (D_42 2), .int (D_42 3), .int (D_42 4), .int (D_42 5), .int (D_42 6), .int (D_42 7), .int (D_42 8)])), (qtx, .inl (g.2 1, 500, .inl tx))]) hP hD [5, 6] [0, 1, 2, 3, 4] rfl rfl (by decide) (by decide) hk1 hFc hP1 hD1
      clear hP1 hD1 hPc hDc hFc hk1
      generalize H1 = H at hP hS ⊢
      have hP : va_P g.1 vwCl [(qG, .inr (1, [.ref qn, .ref qk, .ref qf, .ref qs, .int mk])), (qn, .inl (g.2 0, 6, .inl nu)), (qk, .inl (g.2 0, 10, .inl kd)), (qf, .inl (g.2 0, 10, .inl fi)), (qs, .inl (g.2 0, 10, .inl la)), (qd, .inr (4, [.ref qtr, .ref qtx, .int (D_42 2), .int (D_42 3), .int (D_42 4), .int (D_42 5), .int (D_42 6), .int (D_42 7), .int (D_42 8)])), (qtx, .inl (g.2 1, 500, .inl tx))] H := hP
      have hD : va_D A [(qG, .inr (1, [.ref qn, .ref qk, .ref qf, .ref qs, .int mk])), (qn, .inl (g.2 0, 6, .inl nu)), (qk, .inl (g.2 0, 10, .inl kd)), (qf, .inl (g.2 0, 10, .inl fi)), (qs, .inl (g.2 0, 10, .inl la)), (qd, .inr (4, [.ref qtr, .ref qtx, .int (D_42 2), .int (D_42 3), .int (D_42 4), .int (D_42 5), .int (D_42 6), .int (D_42 7), .int (D_42 8)])), (qtx, .inl (g.2 1, 500, .inl tx))] := hD
      obtain ⟨hvt, hvf⟩ := hv
      refine lv_if_ne (tgt := 50) hx hb dX4_readMark_45 (by decide) (fun hc => ?_) (fun hc => ?_)
      · have hv := hvt hc
        exact kX4_readMark_c50 S hr hlocks hG hA _ _ _ _ _ _ hv _ _ (hP.sub (ws' := [(qd, .inr (4, [.ref qtr, .ref qtx, .int (D_42 2), .int (D_42 3), .int (D_42 4), .int (D_42 5), .int (D_42 6), .int (D_42 7), .int (D_42 8)])), (qtx, .inl (g.2 1, 500, .inl tx)), (qG, .inr (1, [.ref qn, .ref qk, .ref qf, .ref qs, .int mk])), (qn, .inl (g.2 0, 6, .inl nu)), (qk, .inl (g.2 0, 10, .inl kd)), (qf, .inl (g.2 0, 10, .inl fi)), (qs, .inl (g.2 0, 10, .inl la))]) [5, 6, 0, 1, 2, 3, 4] rfl) (hD.sub (ws' := [(qd, .inr (4, [.ref qtr, .ref qtx, .int (D_42 2), .int (D_42 3), .int (D_42 4), .int (D_42 5), .int (D_42 6), .int (D_42 7), .int (D_42 8)])), (qtx, .inl (g.2 1, 500, .inl tx)), (qG, .inr (1, [.ref qn, .ref qk, .ref qf, .ref qs, .int mk])), (qn, .inl (g.2 0, 6, .inl nu)), (qk, .inl (g.2 0, 10, .inl kd)), (qf, .inl (g.2 0, 10, .inl fi)), (qs, .inl (g.2 0, 10, .inl la))]) [5, 6, 0, 1, 2, 3, 4] (by decide) rfl) hS ls (lv_sub hl [1, 2, 3, 0] rfl)
      · have hv := hvf hc
        refine lv_iconst (v := (0 : Int32)) hx hb dX4_readMark_48 (by decide) ?_
        have hP9 := hP.sub (ws' := [(qd, .inr (4, [.ref qtr, .ref qtx, .int (D_42 2), .int (D_42 3), .int (D_42 4), .int (D_42 5), .int (D_42 6), .int (D_42 7), .int (D_42 8)])), (qtx, .inl (g.2 1, 500, .inl tx)), (qG, .inr (1, [.ref qn, .ref qk, .ref qf, .ref qs, .int mk])), (qn, .inl (g.2 0, 6, .inl nu)), (qk, .inl (g.2 0, 10, .inl kd)), (qf, .inl (g.2 0, 10, .inl fi)), (qs, .inl (g.2 0, 10, .inl la))]) [5, 6, 0, 1, 2, 3, 4] rfl
        have hD9 := hD.sub (ws' := [(qd, .inr (4, [.ref qtr, .ref qtx, .int (D_42 2), .int (D_42 3), .int (D_42 4), .int (D_42 5), .int (D_42 6), .int (D_42 7), .int (D_42 8)])), (qtx, .inl (g.2 1, 500, .inl tx)), (qG, .inr (1, [.ref qn, .ref qk, .ref qf, .ref qs, .int mk])), (qn, .inl (g.2 0, 6, .inl nu)), (qk, .inl (g.2 0, 10, .inl kd)), (qf, .inl (g.2 0, 10, .inl fi)), (qs, .inl (g.2 0, 10, .inl la))]) [5, 6, 0, 1, 2, 3, 4] (by decide) rfl
        exact W.zret (v := (0 : Int32)) (ty := .boolean) hx hb hr rfl (fun t ht hW => ⟨⟨_, (D_42, mk, kd, fi, la), rfl, hv, by rw [ht]; exact hP9, hD9⟩, hS.F ht⟩) hS.2.2 dX4_readMark_49
  · have hv := hvf hc
    refine lv_iconst (v := (0 : Int32)) hx hb dX4_readMark_25 (by decide) ?_
    have hP9 := hP.sub (ws' := [(qd, .inr (4, [.ref qtr, .ref qtx, .int (D_19 2), .int (D_19 3), .int (D_19 4), .int (D_19 5), .int (D_19 6), .int (D_19 7), .int (D_19 8)])), (qtx, .inl (g.2 1, 500, .inl tx)), (qG, .inr (1, [.ref qn, .ref qk, .ref qf, .ref qs, .int mk])), (qn, .inl (g.2 0, 6, .inl nu)), (qk, .inl (g.2 0, 10, .inl kd)), (qf, .inl (g.2 0, 10, .inl fi)), (qs, .inl (g.2 0, 10, .inl la))]) [5, 6, 0, 1, 2, 3, 4] rfl
    have hD9 := hD.sub (ws' := [(qd, .inr (4, [.ref qtr, .ref qtx, .int (D_19 2), .int (D_19 3), .int (D_19 4), .int (D_19 5), .int (D_19 6), .int (D_19 7), .int (D_19 8)])), (qtx, .inl (g.2 1, 500, .inl tx)), (qG, .inr (1, [.ref qn, .ref qk, .ref qf, .ref qs, .int mk])), (qn, .inl (g.2 0, 6, .inl nu)), (qk, .inl (g.2 0, 10, .inl kd)), (qf, .inl (g.2 0, 10, .inl fi)), (qs, .inl (g.2 0, 10, .inl la))]) [5, 6, 0, 1, 2, 3, 4] (by decide) rfl
    exact W.zret (v := (0 : Int32)) (ty := .boolean) hx hb hr rfl (fun t ht hW => ⟨⟨_, (D_19, mk, kd, fi, la), rfl, hv, by rw [ht]; exact hP9, hD9⟩, hS.F ht⟩) hS.2.2 dX4_readMark_26
def vX4_readMark (D : Nat → Int32) (tx : Nat → Int32) (mk : Int32) (nu : Nat → Int32) (kd : Nat → Int32) (fi : Nat → Int32) (la : Nat → Int32) (p2 : Int32) (Q : Int32 → (Nat → Int32) → (Int32) → (Nat → Int32) → (Nat → Int32) → (Nat → Int32) → Prop) : Prop := ((mk < (10 : Int32) → (vX4_readMark_c14 tx nu p2 Q D mk kd fi la)) ∧ (¬ mk < (10 : Int32) → (preX4_note D (4 : Int32) ∧ (∀ (D_11 : Nat → Int32), postX4_note D (4 : Int32) D_11 → (vX4_readMark_c14 tx nu p2 Q D_11 mk kd fi la)))))
set_option maxHeartbeats 4000000 in
set_option maxRecDepth 100000 in
theorem wX4_readMark (l : Launch) (g : GP) (qd : Nat) (qtr : Nat) (qtx : Nat) (qG : Nat) (qn : Nat) (qk : Nat) (qf : Nat) (qs : Nat) (sz : Nat) (D : Nat → Int32) (tx : Nat → Int32) (mk : Int32) (nu : Nat → Int32) (kd : Nat → Int32) (fi : Nat → Int32) (la : Nat → Int32) (p2 : Int32) {Q : Int32 → (Nat → Int32) → (Int32) → (Nat → Int32) → (Nat → Int32) → (Nat → Int32) → Prop} (hv : vX4_readMark D tx mk nu kd fi la p2 Q) : Met l yX4_readMark wsX4_readMark rmX4_readMark (va_Pc [.ref qd, .ref qG, .int p2] (fun U => U.heap.size = sz ∧ va_P g.1 vwCl [(qd, .inr (4, [.ref qtr, .ref qtx, .int (D 2), .int (D 3), .int (D 4), .int (D 5), .int (D 6), .int (D 7), .int (D 8)])), (qtx, .inl (g.2 1, 500, .inl tx)), (qG, .inr (1, [.ref qn, .ref qk, .ref qf, .ref qs, .int mk])), (qn, .inl (g.2 0, 6, .inl nu)), (qk, .inl (g.2 0, 10, .inl kd)), (qf, .inl (g.2 0, 10, .inl fi)), (qs, .inl (g.2 0, 10, .inl la))] U.heap ∧ GK g U ∧ va_D (fun _ => True) [(qd, .inr (4, [.ref qtr, .ref qtx, .int (D 2), .int (D 3), .int (D 4), .int (D 5), .int (D 6), .int (D 7), .int (D 8)])), (qtx, .inl (g.2 1, 500, .inl tx)), (qG, .inr (1, [.ref qn, .ref qk, .ref qf, .ref qs, .int mk])), (qn, .inl (g.2 0, 6, .inl nu)), (qk, .inl (g.2 0, 10, .inl kd)), (qf, .inl (g.2 0, 10, .inl fi)), (qs, .inl (g.2 0, 10, .inl la))])) (va_Qi (fun (r : Int32) (u : (Nat → Int32) × Int32 × (Nat → Int32) × (Nat → Int32) × (Nat → Int32)) => Q r u.1 u.2.1 u.2.2.1 u.2.2.2.1 u.2.2.2.2) (fun (u : (Nat → Int32) × Int32 × (Nat → Int32) × (Nat → Int32) × (Nat → Int32)) t => va_P g.1 vwCl [(qd, .inr (4, [.ref qtr, .ref qtx, .int (u.1 2), .int (u.1 3), .int (u.1 4), .int (u.1 5), .int (u.1 6), .int (u.1 7), .int (u.1 8)])), (qtx, .inl (g.2 1, 500, .inl tx)), (qG, .inr (1, [.ref qn, .ref qk, .ref qf, .ref qs, .int u.2.1])), (qn, .inl (g.2 0, 6, .inl nu)), (qk, .inl (g.2 0, 10, .inl u.2.2.1)), (qf, .inl (g.2 0, 10, .inl u.2.2.2.1)), (qs, .inl (g.2 0, 10, .inl u.2.2.2.2))] t.heap ∧ va_D (va_A [(qd, .inr (4, [.ref qtr, .ref qtx, .int (D 2), .int (D 3), .int (D 4), .int (D 5), .int (D 6), .int (D 7), .int (D 8)])), (qtx, .inl (g.2 1, 500, .inl tx)), (qG, .inr (1, [.ref qn, .ref qk, .ref qf, .ref qs, .int mk])), (qn, .inl (g.2 0, 6, .inl nu)), (qk, .inl (g.2 0, 10, .inl kd)), (qf, .inl (g.2 0, 10, .inl fi)), (qs, .inl (g.2 0, 10, .inl la))] sz) [(qd, .inr (4, [.ref qtr, .ref qtx, .int (u.1 2), .int (u.1 3), .int (u.1 4), .int (u.1 5), .int (u.1 6), .int (u.1 7), .int (u.1 8)])), (qtx, .inl (g.2 1, 500, .inl tx)), (qG, .inr (1, [.ref qn, .ref qk, .ref qf, .ref qs, .int u.2.1])), (qn, .inl (g.2 0, 6, .inl nu)), (qk, .inl (g.2 0, 10, .inl u.2.2.1)), (qf, .inl (g.2 0, 10, .inl u.2.2.2.1)), (qs, .inl (g.2 0, 10, .inl u.2.2.2.2))]) (va_A [(qd, .inr (4, [.ref qtr, .ref qtx, .int (D 2), .int (D 3), .int (D 4), .int (D 5), .int (D 6), .int (D 7), .int (D 8)])), (qtx, .inl (g.2 1, 500, .inl tx)), (qG, .inr (1, [.ref qn, .ref qk, .ref qf, .ref qs, .int mk])), (qn, .inl (g.2 0, 6, .inl nu)), (qk, .inl (g.2 0, 10, .inl kd)), (qf, .inl (g.2 0, 10, .inl fi)), (qs, .inl (g.2 0, 10, .inl la))] sz)) 0 0 (va_A [(qd, .inr (4, [.ref qtr, .ref qtx, .int (D 2), .int (D 3), .int (D 4), .int (D 5), .int (D 6), .int (D 7), .int (D 8)])), (qtx, .inl (g.2 1, 500, .inl tx)), (qG, .inr (1, [.ref qn, .ref qk, .ref qf, .ref qs, .int mk])), (qn, .inl (g.2 0, 6, .inl nu)), (qk, .inl (g.2 0, 10, .inl kd)), (qf, .inl (g.2 0, 10, .inl fi)), (qs, .inl (g.2 0, 10, .inl la))] sz) := by
  refine Met.ofW (cc := cX4_readMark) (maxL := 4) (ret := (some .boolean)) (by decide) rfl ?_
  intro p e s m args below meth c s₁ B hml hv'
  obtain ⟨rfl, hsz, hP, hG, hD0⟩ := hv'
  have S : CallFix p m c cX4_readMark 4 s _ wsX4_readMark RX4 := ⟨B.exec, B.bytes, hml, findClass_of_methodNamed B.named, atoms_spec (ws := wsX4_readMark) B.pre⟩
  obtain ⟨hx, hb, hml, hown, hts⟩ := id S
  have hK := hG.1
  have hr := B.returns
  have hlocks := B.notSynchronized
  subst hsz
  have hD := hD0.self (sz := s.heap.size)
  generalize hAe : va_A [(qd, .inr (4, [.ref qtr, .ref qtx, .int (D 2), .int (D 3), .int (D 4), .int (D 5), .int (D 6), .int (D 7), .int (D 8)])), (qtx, .inl (g.2 1, 500, .inl tx)), (qG, .inr (1, [.ref qn, .ref qk, .ref qf, .ref qs, .int mk])), (qn, .inl (g.2 0, 6, .inl nu)), (qk, .inl (g.2 0, 10, .inl kd)), (qf, .inl (g.2 0, 10, .inl fi)), (qs, .inl (g.2 0, 10, .inl la))] s.heap.size = A at hD ⊢
  have hA : ∀ q : Nat, s.heap.size ≤ q → A q := fun q h => by rw [← hAe]; exact Or.inr h
  have hS : va_S A s.heap s.heap [] := va_S.rf
  clear hD0 hAe
  have hl := lv_entry ([.ref qd, .ref qG, .int p2]) (n := 4) (Nat.le_of_ble_eq_true rfl)
  rw [lg_entry_eq]
  generalize (lg_sl ([.ref qd, .ref qG, .int p2]) ++ List.replicate (4 - (lg_sl ([.ref qd, .ref qG, .int p2])).length) Slot.unset).toArray = ls at hl ⊢
  have hl : lv_has ls 4 [(0, .ref qd), (1, .ref qG), (2, .int p2)] := hl
  unfold vX4_readMark at hv
  refine lv_aload_n hx hb dX4_readMark_0 rfl (lv_at hl 1 rfl) ?_
  refine va_get (D := g.1) (ci := 1) (v := .int mk) (C := RX1) (T := TX1) (N := 5) hx hb hts inX4_readMark_1 hown hK hP 2 rfl rfl 4 (by decide) (hts (.fieldLink RX4 129 "RangeCodes$Leg" "marks" "I") (List.mem_of_getElem? (i := 1) rfl)) (fun _ h9 => h9) rfl dX4_readMark_1 ?_
  refine lv_bipush (v := (10 : Int32)) hx hb dX4_readMark_4 (by decide) ?_
  obtain ⟨hvt, hvf⟩ := hv
  refine lv_icmp_lt (tgt := 14) hx hb dX4_readMark_6 (by decide) (fun hc => ?_) (fun hc => ?_)
  · have hv := hvt hc
    exact kX4_readMark_c14 S hr hlocks hG hA _ _ _ _ _ hv _ _ (hP.sub (ws' := [(qd, .inr (4, [.ref qtr, .ref qtx, .int (D 2), .int (D 3), .int (D 4), .int (D 5), .int (D 6), .int (D 7), .int (D 8)])), (qtx, .inl (g.2 1, 500, .inl tx)), (qG, .inr (1, [.ref qn, .ref qk, .ref qf, .ref qs, .int mk])), (qn, .inl (g.2 0, 6, .inl nu)), (qk, .inl (g.2 0, 10, .inl kd)), (qf, .inl (g.2 0, 10, .inl fi)), (qs, .inl (g.2 0, 10, .inl la))]) [0, 1, 2, 3, 4, 5, 6] rfl) (hD.sub (ws' := [(qd, .inr (4, [.ref qtr, .ref qtx, .int (D 2), .int (D 3), .int (D 4), .int (D 5), .int (D 6), .int (D 7), .int (D 8)])), (qtx, .inl (g.2 1, 500, .inl tx)), (qG, .inr (1, [.ref qn, .ref qk, .ref qf, .ref qs, .int mk])), (qn, .inl (g.2 0, 6, .inl nu)), (qk, .inl (g.2 0, 10, .inl kd)), (qf, .inl (g.2 0, 10, .inl fi)), (qs, .inl (g.2 0, 10, .inl la))]) [0, 1, 2, 3, 4, 5, 6] (by decide) rfl) hS ls (lv_sub hl [0, 1, 2] rfl)
  · have hv := hvf hc
    refine lv_aload_n hx hb dX4_readMark_9 rfl (lv_at hl 0 rfl) ?_
    refine lv_iconst (v := (4 : Int32)) hx hb dX4_readMark_10 (by decide) ?_
    obtain ⟨ho_1, hv⟩ := hv
    have hPc := hP.sub (ws' := [(qd, .inr (4, [.ref qtr, .ref qtx, .int (D 2), .int (D 3), .int (D 4), .int (D 5), .int (D 6), .int (D 7), .int (D 8)]))]) [0] rfl
    have hDc := hD.sub (ws' := [(qd, .inr (4, [.ref qtr, .ref qtx, .int (D 2), .int (D 3), .int (D 4), .int (D 5), .int (D 6), .int (D 7), .int (D 8)]))]) [0] (by decide) rfl
    have hFc := va_free (wc := [(qd, .inr (4, [.ref qtr, .ref qtx, .int (D 2), .int (D 3), .int (D 4), .int (D 5), .int (D 6), .int (D 7), .int (D 8)]))]) hD hS hA [0] rfl
    refine va_callv (va_runV (As := [.int (4 : Int32)]) (rest := []) S (wX4_note l g qd qtr qtx s.heap.size D (4 : Int32) (sX4_note D (4 : Int32) ho_1)) (cwV 1 hts gX4_readMark_X4_note rfl rfl rfl (by decide +kernel) ⟨Nat.le_of_ble_eq_true rfl, Nat.le_of_ble_eq_true rfl⟩) ⟨blindRW, va_recv hK hP (ci := 4) (q0 := 0) rfl rfl, fun U hU hW => ⟨rfl, by rw [hU], by rw [hU]; exact hPc, hG.warm hW, hDc.weaken (fun _ _ _ _ => trivial)⟩⟩ rfl rfl hl.1 rfl (lv_room (Nat.le_of_ble_eq_true rfl)) dX4_readMark_11 ⟨Nat.le_of_ble_eq_true rfl, Nat.le_of_ble_eq_true rfl⟩) hS (fun q _ h => hFc q h) hFc (fun u t H1 locs ht hvm hw hB hz1 hk1 hS => ?_)
    obtain ⟨D_11, rfl⟩ : ∃ z, z = u := ⟨_, rfl⟩
    obtain ⟨hP1, hD1⟩ := hB
    rw [ht] at hP1
    have hv := hv D_11 hw
    obtain ⟨hP, hD⟩ := va_join (wr := [(qtx, .inl (g.2 1, 500, .inl tx)), (qG, .inr (1, [.ref qn, .ref qk, .ref qf, .ref qs, .int mk])), (qn, .inl (g.2 0, 6, .inl nu)), (qk, .inl (g.2 0, 10, .inl kd)), (qf, .inl (g.2 0, 10, .inl fi)), (qs, .inl (g.2 0, 10, .inl la))]) (w1 := [(qd, .inr (4, [.ref qtr, .ref qtx, .int (D_11 2), .int (D_11 3), .int (D_11 4), .int (D_11 5), .int (D_11 6), .int (D_11 7), .int (D_11 8)]))]) hP hD [0] [1, 2, 3, 4, 5, 6] rfl rfl (by decide) (by decide) hk1 hFc hP1 hD1
    clear hP1 hD1 hPc hDc hFc hk1
    generalize H1 = H at hP hS ⊢
    have hP : va_P g.1 vwCl [(qtx, .inl (g.2 1, 500, .inl tx)), (qG, .inr (1, [.ref qn, .ref qk, .ref qf, .ref qs, .int mk])), (qn, .inl (g.2 0, 6, .inl nu)), (qk, .inl (g.2 0, 10, .inl kd)), (qf, .inl (g.2 0, 10, .inl fi)), (qs, .inl (g.2 0, 10, .inl la)), (qd, .inr (4, [.ref qtr, .ref qtx, .int (D_11 2), .int (D_11 3), .int (D_11 4), .int (D_11 5), .int (D_11 6), .int (D_11 7), .int (D_11 8)]))] H := hP
    have hD : va_D A [(qtx, .inl (g.2 1, 500, .inl tx)), (qG, .inr (1, [.ref qn, .ref qk, .ref qf, .ref qs, .int mk])), (qn, .inl (g.2 0, 6, .inl nu)), (qk, .inl (g.2 0, 10, .inl kd)), (qf, .inl (g.2 0, 10, .inl fi)), (qs, .inl (g.2 0, 10, .inl la)), (qd, .inr (4, [.ref qtr, .ref qtx, .int (D_11 2), .int (D_11 3), .int (D_11 4), .int (D_11 5), .int (D_11 6), .int (D_11 7), .int (D_11 8)]))] := hD
    exact kX4_readMark_c14 S hr hlocks hG hA _ _ _ _ _ hv _ _ (hP.sub (ws' := [(qd, .inr (4, [.ref qtr, .ref qtx, .int (D_11 2), .int (D_11 3), .int (D_11 4), .int (D_11 5), .int (D_11 6), .int (D_11 7), .int (D_11 8)])), (qtx, .inl (g.2 1, 500, .inl tx)), (qG, .inr (1, [.ref qn, .ref qk, .ref qf, .ref qs, .int mk])), (qn, .inl (g.2 0, 6, .inl nu)), (qk, .inl (g.2 0, 10, .inl kd)), (qf, .inl (g.2 0, 10, .inl fi)), (qs, .inl (g.2 0, 10, .inl la))]) [6, 0, 1, 2, 3, 4, 5] rfl) (hD.sub (ws' := [(qd, .inr (4, [.ref qtr, .ref qtx, .int (D_11 2), .int (D_11 3), .int (D_11 4), .int (D_11 5), .int (D_11 6), .int (D_11 7), .int (D_11 8)])), (qtx, .inl (g.2 1, 500, .inl tx)), (qG, .inr (1, [.ref qn, .ref qk, .ref qf, .ref qs, .int mk])), (qn, .inl (g.2 0, 6, .inl nu)), (qk, .inl (g.2 0, 10, .inl kd)), (qf, .inl (g.2 0, 10, .inl fi)), (qs, .inl (g.2 0, 10, .inl la))]) [6, 0, 1, 2, 3, 4, 5] (by decide) rfl) hS ls (lv_sub hl [0, 1, 2] rfl)
theorem nar_if {c : Prop} [Decidable c] {r : Int32} (h : r = if c then 1 else 0) : narrow .boolean (.int r) = .int r := by
  rw [h]; split <;> rfl
theorem rdK_st {b : Nat → Int32} {nb i : Nat} {D tx : Nat → Int32} (h : rdK b nb i D) (ht : isTx b nb tx) : preX4_step b nb (tE b nb i) D tx := ⟨h.1, h.2.1, (tE_le b h.2.2.1).2, h.2.2.2.2.1, ht⟩
/-- behind a statement: where the reader stands -/
def rdA (nb : Nat) (o : Ou) (r : Int32) (D' : Nat → Int32) : Prop := (r = if o.1 = true then 1 else 0) ∧ fl D' = o.2.2 ∧ (o.1 = true → (D' 4).toInt = (nb : Int) ∧ nb ≤ 500 ∧ (D' 7).toInt = (o.2.1 : Int) ∧ o.2.1 ≤ nb)
theorem rdA_sg {b : Nat → Int32} {nb i : Nat} {f : Ft} {D D' tx : Nat → Int32} {r : Int32} (hf : fl D = f) (h : postX4_readSign b nb i D tx r D') : rdA nb (sgnS b nb (true, i, f)) r D' := by
  subst hf
  obtain ⟨h1, h2, h3⟩ := h
  refine ⟨h1, h2, fun q => ?_⟩
  have k := h3 q
  have ke := tE_le b k.2.2.1
  refine ⟨k.1, k.2.1, ?_⟩
  have e : (sgnS b nb (true, i, fl D)).2.1 = tE b nb i := by
    unfold sgnS at q ⊢
    rw [if_pos rfl] at q ⊢
    by_cases c : tK b nb i = 3
    · rw [if_pos c]
    · rw [if_neg c] at q; exact absurd q rfS_1
  rw [e]
  exact ⟨k.2.2.2.2.1, ke.2⟩
theorem rdA_no {b : Nat → Int32} {nb : Nat} {o : Ou} {D' : Nat → Int32} (h : o.1 = false) (hf : fl D' = o.2.2) : rdA nb (sgnS b nb o) 0 D' := by
  have e : sgnS b nb o = o := by unfold sgnS; rw [if_neg (by rw [h]; decide)]
  rw [e]
  exact ⟨by rw [if_neg (by rw [h]; decide)], hf, fun q => by rw [h] at q; exact absurd q (by decide)⟩
abbrev preX4_readMark (b : Nat → Int32) (nb : Nat) (i : Nat) (G : Lg) (w : Nat) (D : Nat → Int32) (tx : Nat → Int32) (mk : Int32) (nu : Nat → Int32) (kd : Nat → Int32) (fi : Nat → Int32) (la : Nat → Int32) (p2 : Int32) : Prop := preX4_step b nb i D tx ∧ 0 ≤ (D 6).toInt ∧ rdG G (fl D) mk nu kd fi la ∧ 11 ≤ w ∧ w ≤ 14 ∧ p2.toInt = (w : Int) - 11
abbrev postX4_readMark (b : Nat → Int32) (nb : Nat) (i : Nat) (G : Lg) (w : Nat) (D : Nat → Int32) (tx : Nat → Int32) (mk : Int32) (nu : Nat → Int32) (kd : Nat → Int32) (fi : Nat → Int32) (la : Nat → Int32) (p2 : Int32) (r : Int32) (D' : Nat → Int32) (mk' : Int32) (kd' : Nat → Int32) (fi' : Nat → Int32) (la' : Nat → Int32) : Prop := rdA nb (sgnS b nb (mkS b nb i (D 6).toInt.toNat w (gm G) (fl D))) r D' ∧ rdG (mkG b nb i w G) (sgnS b nb (mkS b nb i (D 6).toInt.toNat w (gm G) (fl D))).2.2 mk' nu kd' fi' la'
theorem sX4_readMark_50 (b : Nat → Int32) (nb : Nat) (i : Nat) (G : Lg) (w : Nat) (D : Nat → Int32) (tx : Nat → Int32) (mk : Int32) (nu : Nat → Int32) (kd : Nat → Int32) (fi : Nat → Int32) (la : Nat → Int32) (p2 : Int32) (H : preX4_readMark b nb i G w D tx mk nu kd fi la p2) (j : Nat) (D3 : Nat → Int32) (hr : rdK b nb j D3) (ho : mkS b nb i (D 6).toInt.toNat w (gm G) (fl D) = (true, tE b nb j, fl D3)) (x3 : Int32) (h3 : x3.toInt = (tV b nb i : Int)) (h8 : (D3 8).toInt = ((if w = 14 then tV b nb (tE b nb i) else tV b nb i : Nat) : Int)) (hz : (fl D3).1 = 0 → (fl D).1 = 0 ∧ gm G < 10 ∧ tV b nb i ≤ (if w = 14 then tV b nb (tE b nb i) else tV b nb i) ∧ (if w = 14 then tV b nb (tE b nb i) else tV b nb i) ≤ 199) : vX4_readMark_c50 tx nu p2 (postX4_readMark b nb i G w D tx mk nu kd fi la p2) x3 D3 mk kd fi la := by
  obtain ⟨hs, h6, ⟨hg, hm0, hm1⟩, hw1, hw2, hp⟩ := id H
  refine ⟨hm0, fun r mk' kd' fi' la' hq => ⟨b, nb, tE b nb j, rdK_st hr hs.2.2.2.2, fun r2 D4 h2 => ⟨nar_if h2.1, ?_⟩⟩⟩
  have hA := rdA_sg rfl h2
  rw [← ho] at hA
  refine ⟨hA, fun z => ?_, ?_, ?_⟩
  · have z := (sgnS_f z (by rw [ho]; intro q; exact absurd (show true = false from q) (by decide))).2
    rw [ho] at z
    obtain ⟨a1, a2, a3, a4⟩ := hz z
    have hG := hg a1
    have hm := hG.2.1
    rcases hq with ⟨q1, q2, q3, q4, q5, q6⟩ | ⟨q1, _⟩
    · subst q4 q5 q6
      exact isG_gA hG a2 (by omega) a3 a4 (fun q => by rw [if_neg (by omega)]) q3 (by omega) h3 h8
    · omega
  · rcases hq with ⟨q1, q2, q3, _⟩ | ⟨q1, q2, q3, _⟩
    · omega
    · rw [q3]; exact hm0
  · rcases hq with ⟨q1, q2, q3, _⟩ | ⟨q1, q2, q3, _⟩
    · omega
    · rw [q3]; exact hm1
theorem sX4_readMark_14 (b : Nat → Int32) (nb : Nat) (i : Nat) (G : Lg) (w : Nat) (D : Nat → Int32) (tx : Nat → Int32) (mk : Int32) (nu : Nat → Int32) (kd : Nat → Int32) (fi : Nat → Int32) (la : Nat → Int32) (p2 : Int32) (H : preX4_readMark b nb i G w D tx mk nu kd fi la p2) (D1 : Nat → Int32) (hs1 : preX4_step b nb i D1 tx) (hf1 : fl D1 = if 10 ≤ gm G then noF (fl D) 4 (D 6).toInt.toNat else fl D) : vX4_readMark_c14 tx nu p2 (postX4_readMark b nb i G w D tx mk nu kd fi la p2) D1 mk kd fi la := by
  obtain ⟨hs, h6, ⟨hg, hm0, hm1⟩, hw1, hw2, hp⟩ := id H
  have hi := hs.2.2.1
  have hie := tE_le b hi
  have hp3 : (p2 = (3 : Int32)) = (w = 14) := by rw [fa_eq, z3, hp]; exact propext (by omega)
  refine ⟨b, nb, i, hs1, fun r D2 h2 => ?_⟩
  obtain ⟨h2a, h2b, h2c⟩ := h2
  rw [show (0 : Int32).toInt = 0 from rfl, z199, hf1] at h2a h2b h2c
  rw [h2a, q_if1, hp3]
  have bad : ∀ _ : (fl D2).1 = 0, tK b nb i = 2 ∧ (fl D).1 = 0 ∧ gm G < 10 ∧ (tV b nb i : Int) ≤ 199 := fun z => by
    rw [h2b] at z
    have q := numS_0 z
    have q2 := if_f (by decide) q.2.1
    exact ⟨q.1, q2.1, by omega, q.2.2.2.1⟩
  refine ⟨fun c => ?_, fun c => ?_⟩
  · have c := Decidable.not_not.mp c
    have hk := numS_t.mp c
    have hr := h2c c
    have h8 := hr.2.2.2.2.2.2 hk
    have hv := tV_le hi hk
    have eo : (numS b nb i 0 199 (if 10 ≤ gm G then noF (fl D) 4 (D 6).toInt.toNat else fl D)) = (true, tE b nb i, fl D2) := by rw [h2b, ← c, ← numS_p hk]
    refine ⟨fun d => sX4_readMark_50 b nb i G w D tx mk nu kd fi la p2 H i D2 hr (by unfold mkS; rw [if_neg (fun q => d q.2)]; exact eo) _ h8 (by rw [if_neg d]; exact h8) (fun z => by rw [if_neg d]; have := bad z; omega), fun d => ⟨b, nb, tE b nb i, rdK_st hr hs.2.2.2.2, fun r3 D3 h3 => ?_⟩⟩
    obtain ⟨h3a, h3b, h3c⟩ := h3
    rw [h8, z199] at h3a h3b h3c
    have em : mkS b nb i (D 6).toInt.toNat w (gm G) (fl D) = numS b nb (tE b nb i) (tV b nb i) 199 (fl D2) := by unfold mkS; rw [if_pos ⟨c, d⟩, eo]
    rw [h3a, q_if1]
    refine ⟨fun e => ?_, fun e => ?_⟩
    · have e := Decidable.not_not.mp e
      have hk3 := numS_t.mp e
      have hr3 := h3c e
      have h83 := hr3.2.2.2.2.2.2 hk3
      refine sX4_readMark_50 b nb i G w D tx mk nu kd fi la p2 H (tE b nb i) D3 hr3 (by rw [em, h3b, ← e, ← numS_p hk3]) _ h8 (by rw [if_pos d]; exact h83) (fun z => ?_)
      rw [h3b] at z
      have q := numS_0 z
      have := bad q.2.1
      rw [if_pos d]
      have := q.2.2.1
      have := q.2.2.2.1
      omega
    · have e : (numS b nb (tE b nb i) (tV b nb i) 199 (fl D2)).1 = false := by simpa using e
      refine ⟨by rw [em]; exact rdA_no e h3b, fun z => ?_, hm0, hm1⟩
      rw [em] at z
      exact absurd (sgnS_f z (fun q => numS_n q)).1 (by rw [e]; decide)
  · have c : (numS b nb i 0 199 (if 10 ≤ gm G then noF (fl D) 4 (D 6).toInt.toNat else fl D)).1 = false := by simpa using c
    have em : mkS b nb i (D 6).toInt.toNat w (gm G) (fl D) = numS b nb i 0 199 (if 10 ≤ gm G then noF (fl D) 4 (D 6).toInt.toNat else fl D) := by unfold mkS; rw [if_neg (fun q => by rw [c] at q; exact absurd q.1 (by decide))]
    refine ⟨by rw [em]; exact rdA_no c h2b, fun z => ?_, hm0, hm1⟩
    rw [em] at z
    exact absurd (sgnS_f z (fun q => numS_n q)).1 (by rw [c]; decide)
theorem sX4_readMark (b : Nat → Int32) (nb : Nat) (i : Nat) (G : Lg) (w : Nat) (D : Nat → Int32) (tx : Nat → Int32) (mk : Int32) (nu : Nat → Int32) (kd : Nat → Int32) (fi : Nat → Int32) (la : Nat → Int32) (p2 : Int32) (H : preX4_readMark b nb i G w D tx mk nu kd fi la p2) : vX4_readMark D tx mk nu kd fi la p2 (postX4_readMark b nb i G w D tx mk nu kd fi la p2) := by
  obtain ⟨hs, h6, ⟨hg, hm0, hm1⟩, hw1, hw2, hp⟩ := id H
  have key : (if mk.toInt ≥ 10 then noF (fl D) 4 (D 6).toInt.toNat else fl D) = if 10 ≤ gm G then noF (fl D) 4 (D 6).toInt.toNat else fl D := if_k (fun z => by have := (hg z).2.1; omega)
  unfold vX4_readMark
  rw [fa_lt, z10]
  refine ⟨fun c => sX4_readMark_14 b nb i G w D tx mk nu kd fi la p2 H D hs (by rw [← key, if_neg (by omega)]), fun c => ⟨h6, fun D1 h1 => sX4_readMark_14 b nb i G w D tx mk nu kd fi la p2 H D1 ?_ (by rw [← key, if_pos (by omega), h1.1]; rfl)⟩⟩
  refine ⟨?_, hs.2.1, hs.2.2.1, ?_, hs.2.2.2.2⟩
  · rw [h1.2 4 (by decide)]; exact hs.1
  · rw [h1.2 7 (by decide)]; exact hs.2.2.2.1
set_option maxRecDepth 20000 in
theorem ggX4_readSetting_X4_readNumber : GoodIn wsX4_readSetting wsX4_readNumber := goodIn_r _ [7, 8, 2, 9, 10, 11, 6, 12, 13, 14, 15, 16, 17, 18, 19, 20, 21, 22, 23, 24, 25, 26, 27, 28, 29, 30, 31, 32, 33, 34, 35, 45, 46, 47, 48, 49, 50, 51, 52, 53] (by decide +kernel) (by decide +kernel)
set_option maxRecDepth 20000 in
theorem gX4_readSetting_X4_readNumber : GoodIn wsX4_readSetting (wsV RX4 59 RX4 yX4_readNumber wsX4_readNumber) := goodIn_app (goodIn_of _ (by decide +kernel)) ggX4_readSetting_X4_readNumber
set_option maxRecDepth 20000 in
theorem ggX4_readSetting_X4_readSign : GoodIn wsX4_readSetting wsX4_readSign := goodIn_r _ [39, 8, 9, 10, 11, 6, 12, 13, 14, 15, 16, 2, 17, 18, 19, 20, 21, 22, 23, 24, 25, 26, 27, 28, 29, 30, 31, 45, 46, 47, 48, 49, 50, 51, 52, 53] (by decide +kernel) (by decide +kernel)
set_option maxRecDepth 20000 in
theorem gX4_readSetting_X4_readSign : GoodIn wsX4_readSetting (wsV RX4 68 RX4 yX4_readSign wsX4_readSign) := goodIn_app (goodIn_of _ (by decide +kernel)) ggX4_readSetting_X4_readSign
theorem dX4_readSetting_0 : decode cX4_readSetting 0 = .ok (.iload_n 2, 1) := by decide +kernel
theorem dX4_readSetting_1 : decode cX4_readSetting 1 = .ok (.bipush 6, 2) := by decide +kernel
theorem dX4_readSetting_3 : decode cX4_readSetting 3 = .ok (.if_icmp .ne 7, 3) := by decide +kernel
theorem dX4_readSetting_6 : decode cX4_readSetting 6 = .ok (.iconst 1, 1) := by decide +kernel
theorem dX4_readSetting_7 : decode cX4_readSetting 7 = .ok (.goto 4, 3) := by decide +kernel
theorem dX4_readSetting_10 : decode cX4_readSetting 10 = .ok (.iload_n 2, 1) := by decide +kernel
theorem dX4_readSetting_11 : decode cX4_readSetting 11 = .ok (.istore_n 3, 1) := by decide +kernel
theorem dX4_readSetting_12 : decode cX4_readSetting 12 = .ok (.iload_n 3, 1) := by decide +kernel
theorem dX4_readSetting_13 : decode cX4_readSetting 13 = .ok (.iconst 3, 1) := by decide +kernel
theorem dX4_readSetting_14 : decode cX4_readSetting 14 = .ok (.if_icmp .ne 7, 3) := by decide +kernel
theorem dX4_readSetting_17 : decode cX4_readSetting 17 = .ok (.iconst 1, 1) := by decide +kernel
theorem dX4_readSetting_18 : decode cX4_readSetting 18 = .ok (.goto 4, 3) := by decide +kernel
theorem dX4_readSetting_21 : decode cX4_readSetting 21 = .ok (.iconst 0, 1) := by decide +kernel
theorem dX4_readSetting_22 : decode cX4_readSetting 22 = .ok (.istore 4, 2) := by decide +kernel
theorem dX4_readSetting_24 : decode cX4_readSetting 24 = .ok (.aload_n 0, 1) := by decide +kernel
theorem dX4_readSetting_25 : decode cX4_readSetting 25 = .ok (.iload 4, 2) := by decide +kernel
theorem dX4_readSetting_27 : decode cX4_readSetting 27 = .ok (.getstatic 120, 3) := by decide +kernel
theorem dX4_readSetting_30 : decode cX4_readSetting 30 = .ok (.iload_n 3, 1) := by decide +kernel
theorem dX4_readSetting_31 : decode cX4_readSetting 31 = .ok (.iaload, 1) := by decide +kernel
theorem dX4_readSetting_32 : decode cX4_readSetting 32 = .ok (.invokevirtual 59, 3) := by decide +kernel
theorem dX4_readSetting_35 : decode cX4_readSetting 35 = .ok (.ifCond .ne 5, 3) := by decide +kernel
theorem dX4_readSetting_38 : decode cX4_readSetting 38 = .ok (.iconst 0, 1) := by decide +kernel
theorem dX4_readSetting_39 : decode cX4_readSetting 39 = .ok (.ireturn, 1) := by decide +kernel
theorem dX4_readSetting_40 : decode cX4_readSetting 40 = .ok (.aload_n 1, 1) := by decide +kernel
theorem dX4_readSetting_41 : decode cX4_readSetting 41 = .ok (.getfield 124, 3) := by decide +kernel
theorem dX4_readSetting_44 : decode cX4_readSetting 44 = .ok (.iload_n 3, 1) := by decide +kernel
theorem dX4_readSetting_45 : decode cX4_readSetting 45 = .ok (.iload_n 2, 1) := by decide +kernel
theorem dX4_readSetting_46 : decode cX4_readSetting 46 = .ok (.bipush 6, 2) := by decide +kernel
theorem dX4_readSetting_48 : decode cX4_readSetting 48 = .ok (.if_icmp .ne 11, 3) := by decide +kernel
theorem dX4_readSetting_51 : decode cX4_readSetting 51 = .ok (.aload_n 0, 1) := by decide +kernel
theorem dX4_readSetting_52 : decode cX4_readSetting 52 = .ok (.getfield 63, 3) := by decide +kernel
theorem dX4_readSetting_55 : decode cX4_readSetting 55 = .ok (.ineg, 1) := by decide +kernel
theorem dX4_readSetting_56 : decode cX4_readSetting 56 = .ok (.goto 7, 3) := by decide +kernel
theorem dX4_readSetting_59 : decode cX4_readSetting 59 = .ok (.aload_n 0, 1) := by decide +kernel
theorem dX4_readSetting_60 : decode cX4_readSetting 60 = .ok (.getfield 63, 3) := by decide +kernel
theorem dX4_readSetting_63 : decode cX4_readSetting 63 = .ok (.iastore, 1) := by decide +kernel
theorem dX4_readSetting_64 : decode cX4_readSetting 64 = .ok (.aload_n 0, 1) := by decide +kernel
theorem dX4_readSetting_65 : decode cX4_readSetting 65 = .ok (.invokevirtual 68, 3) := by decide +kernel
theorem dX4_readSetting_68 : decode cX4_readSetting 68 = .ok (.ireturn, 1) := by decide +kernel
abbrev rmX4_readSetting : Room := { frames := 3, cells := 0, slots := 0, locals := 62 }
theorem inX4_readSetting_1 : ∀ w ∈ wsX10, w ∈ wsX4_readSetting := by decide +kernel
theorem inX4_readSetting_4 : ∀ w ∈ wsX40, w ∈ wsX4_readSetting := by decide +kernel
def vX4_readSetting_c22 (tx : Nat → Int32) (mk : Int32) (kd : Nat → Int32) (fi : Nat → Int32) (la : Nat → Int32) (p2 : Int32) (Q : Int32 → (Nat → Int32) → (Nat → Int32) → Prop) (x3 : Int32) (s0 : Int32) (D : Nat → Int32) (nu : Nat → Int32) : Prop := (vp_in x3 6 ∧ (∃ (b_32 : Nat → Int32) (nb_32 : Nat) (i_32 : Nat), preX4_readNumber b_32 nb_32 i_32 D tx s0 (msF.getD x3.toNatClampNeg 0) ∧ (∀ (r_32 : Int32) (D_32 : Nat → Int32), postX4_readNumber b_32 nb_32 i_32 D tx s0 (msF.getD x3.toNatClampNeg 0) r_32 D_32 → ((¬ r_32 = 0 → ((¬ p2 = (6 : Int32) → (vp_in x3 6 ∧ (∃ (b_65 : Nat → Int32) (nb_65 : Nat) (i_65 : Nat), preX4_readSign b_65 nb_65 i_65 D_32 tx ∧ (∀ (r_65 : Int32) (D_65 : Nat → Int32), postX4_readSign b_65 nb_65 i_65 D_32 tx r_65 D_65 → (narrow .boolean (.int r_65) = .int r_65 ∧ (Q r_65 D_65 (upd nu x3.toNatClampNeg (D_32 8)))))))) ∧ (p2 = (6 : Int32) → (vp_in x3 6 ∧ (∃ (b_65 : Nat → Int32) (nb_65 : Nat) (i_65 : Nat), preX4_readSign b_65 nb_65 i_65 D_32 tx ∧ (∀ (r_65 : Int32) (D_65 : Nat → Int32), postX4_readSign b_65 nb_65 i_65 D_32 tx r_65 D_65 → (narrow .boolean (.int r_65) = .int r_65 ∧ (Q r_65 D_65 (upd nu x3.toNatClampNeg (-(D_32 8))))))))))) ∧ (r_32 = 0 → (Q (0 : Int32) D_32 nu))))))
set_option maxHeartbeats 4000000 in
set_option maxRecDepth 100000 in
theorem kX4_readSetting_c22 {p : Program} {l : Launch} {e : Env} {s : State} {m : MethodId} {args : Array Value} {below : List Frame} {meth : Method} {c : Code} {g : GP} {v : GV} {qd : Nat} {qtr : Nat} {qtx : Nat} {qG : Nat} {qn : Nat} {qk : Nat} {qf : Nat} {qs : Nat} {tx : Nat → Int32} {mk : Int32} {kd : Nat → Int32} {fi : Nat → Int32} {la : Nat → Int32} {p2 : Int32} {Q : Int32 → (Nat → Int32) → (Nat → Int32) → Prop} {A : Nat → Prop} (S : CallFix p m c cX4_readSetting 5 s args wsX4_readSetting RX4) (hr : meth.sig.returnType = (some .boolean)) (hlocks : meth.locks = false) (hG : GK g s) (hA : ∀ q : Nat, s.heap.size ≤ q → A q) (hE : GE v A s s.heap) : ∀ (x3 : Int32) (s0 : Int32) (D : Nat → Int32) (nu : Nat → Int32), vX4_readSetting_c22 tx mk kd fi la p2 Q x3 s0 D nu → ∀ (H : Heap) (locs : List Loc), va_P g.1 vwCl [(qd, .inr (4, [.ref qtr, .ref qtx, .int (D 2), .int (D 3), .int (D 4), .int (D 5), .int (D 6), .int (D 7), .int (D 8)])), (qtx, .inl (g.2 1, 500, .inl tx)), (qG, .inr (1, [.ref qn, .ref qk, .ref qf, .ref qs, .int mk])), (qn, .inl (g.2 0, 6, .inl nu)), (qk, .inl (g.2 0, 10, .inl kd)), (qf, .inl (g.2 0, 10, .inl fi)), (qs, .inl (g.2 0, 10, .inl la))] H → va_D A [(qd, .inr (4, [.ref qtr, .ref qtx, .int (D 2), .int (D 3), .int (D 4), .int (D 5), .int (D 6), .int (D 7), .int (D 8)])), (qtx, .inl (g.2 1, 500, .inl tx)), (qG, .inr (1, [.ref qn, .ref qk, .ref qf, .ref qs, .int mk])), (qn, .inl (g.2 0, 6, .inl nu)), (qk, .inl (g.2 0, 10, .inl kd)), (qf, .inl (g.2 0, 10, .inl fi)), (qs, .inl (g.2 0, 10, .inl la))] → va_S A s.heap H locs → ∀ (ls : Array Slot), lv_has ls 5 [(0, .ref qd), (1, .ref qG), (2, .int p2), (3, .int x3)] → W p l e (headSpec wsX4_readSetting rmX4_readSetting).room s m args below meth c H locs 0 0 (MQ below (va_Qi (fun (r : Int32) (u : (Nat → Int32) × (Nat → Int32)) => Q r u.1 u.2) (fun (u : (Nat → Int32) × (Nat → Int32)) t => va_P g.1 vwCl [(qd, .inr (4, [.ref qtr, .ref qtx, .int (u.1 2), .int (u.1 3), .int (u.1 4), .int (u.1 5), .int (u.1 6), .int (u.1 7), .int (u.1 8)])), (qtx, .inl (g.2 1, 500, .inl tx)), (qG, .inr (1, [.ref qn, .ref qk, .ref qf, .ref qs, .int mk])), (qn, .inl (g.2 0, 6, .inl u.2)), (qk, .inl (g.2 0, 10, .inl kd)), (qf, .inl (g.2 0, 10, .inl fi)), (qs, .inl (g.2 0, 10, .inl la))] t.heap ∧ va_D A [(qd, .inr (4, [.ref qtr, .ref qtx, .int (u.1 2), .int (u.1 3), .int (u.1 4), .int (u.1 5), .int (u.1 6), .int (u.1 7), .int (u.1 8)])), (qtx, .inl (g.2 1, 500, .inl tx)), (qG, .inr (1, [.ref qn, .ref qk, .ref qf, .ref qs, .int mk])), (qn, .inl (g.2 0, 6, .inl u.2)), (qk, .inl (g.2 0, 10, .inl kd)), (qf, .inl (g.2 0, 10, .inl fi)), (qs, .inl (g.2 0, 10, .inl la))]) A) args s 0 0 A) (F0 m 22 ls [.int s0]) := by
  obtain ⟨hx, hb, hml, hown, hts⟩ := id S
  have hK := hG.1
  intro x3 s0 D nu hv H locs hP hD hS ls hl
  unfold vX4_readSetting_c22 at hv
  refine lv_istore (lv' := [(4, .int s0), (0, .ref qd), (1, .ref qG), (2, .int p2), (3, .int x3)]) hx hb dX4_readSetting_22 hl (by decide) rfl (fun ls hl => ?_)
  refine lv_aload_n hx hb dX4_readSetting_24 rfl (lv_at hl 1 rfl) ?_
  refine lv_iload hx hb dX4_readSetting_25 (lv_at hl 0 rfl) ?_
  refine va_getsN hx hb hE.2.2.1 hS hown (va_Nw.use rfl hE.2.2.2.2.2.2.2.2) (fun _ h => h) dX4_readSetting_27 ?_
  refine lv_iload_n hx hb dX4_readSetting_30 rfl (lv_at hl 4 rfl) ?_
  obtain ⟨ho_1, hv⟩ := hv
  refine va_ti (v := .int (msF.getD x3.toNatClampNeg 0)) hx hb hE.2.2.2.1 hS ho_1 rfl dX4_readSetting_31 ?_
  obtain ⟨b_32, nb_32, i_32, ho_2, hv⟩ := hv
  have hPc := hP.sub (ws' := [(qd, .inr (4, [.ref qtr, .ref qtx, .int (D 2), .int (D 3), .int (D 4), .int (D 5), .int (D 6), .int (D 7), .int (D 8)])), (qtx, .inl (g.2 1, 500, .inl tx))]) [0, 1] rfl
  have hDc := hD.sub (ws' := [(qd, .inr (4, [.ref qtr, .ref qtx, .int (D 2), .int (D 3), .int (D 4), .int (D 5), .int (D 6), .int (D 7), .int (D 8)])), (qtx, .inl (g.2 1, 500, .inl tx))]) [0, 1] (by decide) rfl
  have hFc := va_free (wc := [(qd, .inr (4, [.ref qtr, .ref qtx, .int (D 2), .int (D 3), .int (D 4), .int (D 5), .int (D 6), .int (D 7), .int (D 8)])), (qtx, .inl (g.2 1, 500, .inl tx))]) hD hS hA [0, 1] rfl
  refine va_calli (va_runV (As := [.int s0, .int (msF.getD x3.toNatClampNeg 0)]) (rest := []) S (wX4_readNumber l g qd qtr qtx H.size D tx s0 (msF.getD x3.toNatClampNeg 0) (sX4_readNumber b_32 nb_32 i_32 D tx s0 (msF.getD x3.toNatClampNeg 0) ho_2)) (cwV 2 hts gX4_readSetting_X4_readNumber rfl rfl rfl (by decide +kernel) ⟨Nat.le_of_ble_eq_true rfl, Nat.le_of_ble_eq_true rfl⟩) ⟨blindRW, va_recv hK hP (ci := 4) (q0 := 0) rfl rfl, fun U hU hW => ⟨rfl, by rw [hU], by rw [hU]; exact hPc, hG.warm hW, hDc.weaken (fun _ _ _ _ => trivial)⟩⟩ rfl rfl hl.1 rfl (lv_room (Nat.le_of_ble_eq_true rfl)) dX4_readSetting_32 ⟨Nat.le_of_ble_eq_true rfl, Nat.le_of_ble_eq_true rfl⟩) hS (fun q _ h => hFc q h) hFc (fun r_32 u t H1 locs ht hvm hw hB hz1 hk1 hS => ?_)
  obtain ⟨D_32, rfl⟩ : ∃ z, z = u := ⟨_, rfl⟩
  obtain ⟨hP1, hD1⟩ := hB
  rw [ht] at hP1
  have hv := hv r_32 D_32 hw
  obtain ⟨hP, hD⟩ := va_join (wr := [(qG, .inr (1, [.ref qn, .ref qk, .ref qf, .ref qs, .int mk])), (qn, .inl (g.2 0, 6, .inl nu)), (qk, .inl (g.2 0, 10, .inl kd)), (qf, .inl (g.2 0, 10, .inl fi)), (qs, .inl (g.2 0, 10, .inl la))]) (w1 := [(qd, .inr (4, [.ref qtr, .ref qtx, .int (D_32 2), .int (D_32 3), .int (D_32 4), .int (D_32 5), .int (D_32 6), .int (D_32 7), .int (D_32 8)])), (qtx, .inl (g.2 1, 500, .inl tx))]) hP hD [0, 1] [2, 3, 4, 5, 6] rfl rfl (by decide) (by decide) hk1 hFc hP1 hD1
  clear hP1 hD1 hPc hDc hFc hk1
  generalize H1 = H at hP hS ⊢
  have hP : va_P g.1 vwCl [(qG, .inr (1, [.ref qn, .ref qk, .ref qf, .ref qs, .int mk])), (qn, .inl (g.2 0, 6, .inl nu)), (qk, .inl (g.2 0, 10, .inl kd)), (qf, .inl (g.2 0, 10, .inl fi)), (qs, .inl (g.2 0, 10, .inl la)), (qd, .inr (4, [.ref qtr, .ref qtx, .int (D_32 2), .int (D_32 3), .int (D_32 4), .int (D_32 5), .int (D_32 6), .int (D_32 7), .int (D_32 8)])), (qtx, .inl (g.2 1, 500, .inl tx))] H := hP
  have hD : va_D A [(qG, .inr (1, [.ref qn, .ref qk, .ref qf, .ref qs, .int mk])), (qn, .inl (g.2 0, 6, .inl nu)), (qk, .inl (g.2 0, 10, .inl kd)), (qf, .inl (g.2 0, 10, .inl fi)), (qs, .inl (g.2 0, 10, .inl la)), (qd, .inr (4, [.ref qtr, .ref qtx, .int (D_32 2), .int (D_32 3), .int (D_32 4), .int (D_32 5), .int (D_32 6), .int (D_32 7), .int (D_32 8)])), (qtx, .inl (g.2 1, 500, .inl tx))] := hD
  obtain ⟨hvt, hvf⟩ := hv
  refine lv_if_ne (tgt := 40) hx hb dX4_readSetting_35 (by decide) (fun hc => ?_) (fun hc => ?_)
  · have hv := hvt hc
    refine lv_aload_n hx hb dX4_readSetting_40 rfl (lv_at hl 2 rfl) ?_
    refine va_get (D := g.1) (ci := 1) (v := .ref qn) (C := RX1) (T := TX1) (N := 5) hx hb hts inX4_readSetting_1 hown hK hP 0 rfl rfl 0 (by decide) (hts (.fieldLink RX4 124 "RangeCodes$Leg" "numbers" "[I") (List.mem_of_getElem? (i := 1) rfl)) (fun _ h9 => h9) rfl dX4_readSetting_41 ?_
    refine lv_iload_n hx hb dX4_readSetting_44 rfl (lv_at hl 4 rfl) ?_
    refine lv_iload_n hx hb dX4_readSetting_45 rfl (lv_at hl 3 rfl) ?_
    refine lv_bipush (v := (6 : Int32)) hx hb dX4_readSetting_46 (by decide) ?_
    obtain ⟨hvt, hvf⟩ := hv
    refine lv_icmp_ne (tgt := 59) hx hb dX4_readSetting_48 (by decide) (fun hc => ?_) (fun hc => ?_)
    · have hv := hvt hc
      refine lv_aload_n hx hb dX4_readSetting_59 rfl (lv_at hl 1 rfl) ?_
      refine va_get (D := g.1) (ci := 4) (v := .int (D_32 8)) (C := RX4) (T := TX4) (N := 9) hx hb hts inX4_readSetting_4 hown hK hP 5 rfl rfl 8 (by decide) (hts (.fieldLink RX4 63 "RangeCodes$Reader" "value" "I") (List.mem_of_getElem? (i := 2) rfl)) (fun _ h9 => h9) rfl dX4_readSetting_60 ?_
      obtain ⟨ho_3, hv⟩ := hv
      refine va_iast hx hb hK hP hD hS 1 0 rfl rfl ho_3 dX4_readSetting_63 (fun H locs hP hD hS => ?_)
      have hP : va_P g.1 vwCl [(qG, .inr (1, [.ref qn, .ref qk, .ref qf, .ref qs, .int mk])), (qn, .inl (g.2 0, 6, .inl (upd nu x3.toNatClampNeg (D_32 8)))), (qk, .inl (g.2 0, 10, .inl kd)), (qf, .inl (g.2 0, 10, .inl fi)), (qs, .inl (g.2 0, 10, .inl la)), (qd, .inr (4, [.ref qtr, .ref qtx, .int (D_32 2), .int (D_32 3), .int (D_32 4), .int (D_32 5), .int (D_32 6), .int (D_32 7), .int (D_32 8)])), (qtx, .inl (g.2 1, 500, .inl tx))] H := hP
      have hD : va_D A [(qG, .inr (1, [.ref qn, .ref qk, .ref qf, .ref qs, .int mk])), (qn, .inl (g.2 0, 6, .inl (upd nu x3.toNatClampNeg (D_32 8)))), (qk, .inl (g.2 0, 10, .inl kd)), (qf, .inl (g.2 0, 10, .inl fi)), (qs, .inl (g.2 0, 10, .inl la)), (qd, .inr (4, [.ref qtr, .ref qtx, .int (D_32 2), .int (D_32 3), .int (D_32 4), .int (D_32 5), .int (D_32 6), .int (D_32 7), .int (D_32 8)])), (qtx, .inl (g.2 1, 500, .inl tx))] := hD
      refine lv_aload_n hx hb dX4_readSetting_64 rfl (lv_at hl 1 rfl) ?_
      obtain ⟨b_65, nb_65, i_65, ho_4, hv⟩ := hv
      have hPc := hP.sub (ws' := [(qd, .inr (4, [.ref qtr, .ref qtx, .int (D_32 2), .int (D_32 3), .int (D_32 4), .int (D_32 5), .int (D_32 6), .int (D_32 7), .int (D_32 8)])), (qtx, .inl (g.2 1, 500, .inl tx))]) [5, 6] rfl
      have hDc := hD.sub (ws' := [(qd, .inr (4, [.ref qtr, .ref qtx, .int (D_32 2), .int (D_32 3), .int (D_32 4), .int (D_32 5), .int (D_32 6), .int (D_32 7), .int (D_32 8)])), (qtx, .inl (g.2 1, 500, .inl tx))]) [5, 6] (by decide) rfl
      have hFc := va_free (wc := [(qd, .inr (4, [.ref qtr, .ref qtx, .int (D_32 2), .int (D_32 3), .int (D_32 4), .int (D_32 5), .int (D_32 6), .int (D_32 7), .int (D_32 8)])), (qtx, .inl (g.2 1, 500, .inl tx))]) hD hS hA [5, 6] rfl
      refine va_calli (va_runV (As := []) (rest := []) S (wX4_readSign l g qd qtr qtx H.size D_32 tx (sX4_readSign b_65 nb_65 i_65 D_32 tx ho_4)) (cwV 0 hts gX4_readSetting_X4_readSign rfl rfl rfl (by decide +kernel) ⟨Nat.le_of_ble_eq_true rfl, Nat.le_of_ble_eq_true rfl⟩) ⟨blindRW, va_recv hK hP (ci := 4) (q0 := 5) rfl rfl, fun U hU hW => ⟨rfl, by rw [hU], by rw [hU]; exact hPc, hG.warm hW, hDc.weaken (fun _ _ _ _ => trivial)⟩⟩ rfl rfl hl.1 rfl (lv_room (Nat.le_of_ble_eq_true rfl)) dX4_readSetting_65 ⟨Nat.le_of_ble_eq_true rfl, Nat.le_of_ble_eq_true rfl⟩) hS (fun q _ h => hFc q h) hFc (fun r_65 u t H1 locs ht hvm hw hB hz1 hk1 hS => ?_)
      obtain ⟨D_65, rfl⟩ : ∃ z, z = u := ⟨_, rfl⟩
      obtain ⟨hP1, hD1⟩ := hB
      rw [ht] at hP1
      have hv := hv r_65 D_65 hw
      obtain ⟨hP, hD⟩ := va_join (wr := [(qG, .inr (1, [.ref qn, .ref qk, .ref qf, .ref qs, .int mk])), (qn, .inl (g.2 0, 6, .inl (upd nu x3.toNatClampNeg (D_32 8)))), (qk, .inl (g.2 0, 10, .inl kd)), (qf, .inl (g.2 0, 10, .inl fi)), (qs, .inl (g.2 0, 10, .inl la))]) (w1 := [(qd, .inr (4, [.ref qtr, .ref qtx, .int (D_65 2), .int (D_65 3), .int (D_65 4), .int (D_65 5), .int (D_65 6), .int (D_65 7), .int (D_65 8)])), (qtx, .inl (g.2 1, 500, .inl tx))]) hP hD [5, 6] [0, 1, 2, 3, 4] rfl rfl (by decide) (by decide) hk1 hFc hP1 hD1
      clear hP1 hD1 hPc hDc hFc hk1
      generalize H1 = H at hP hS ⊢
      have hP : va_P g.1 vwCl [(qG, .inr (1, [.ref qn, .ref qk, .ref qf, .ref qs, .int mk])), (qn, .inl (g.2 0, 6, .inl (upd nu x3.toNatClampNeg (D_32 8)))), (qk, .inl (g.2 0, 10, .inl kd)), (qf, .inl (g.2 0, 10, .inl fi)), (qs, .inl (g.2 0, 10, .inl la)), (qd, .inr (4, [.ref qtr, .ref qtx, .int (D_65 2), .int (D_65 3), .int (D_65 4), .int (D_65 5), .int (D_65 6), .int (D_65 7), .int (D_65 8)])), (qtx, .inl (g.2 1, 500, .inl tx))] H := hP
      have hD : va_D A [(qG, .inr (1, [.ref qn, .ref qk, .ref qf, .ref qs, .int mk])), (qn, .inl (g.2 0, 6, .inl (upd nu x3.toNatClampNeg (D_32 8)))), (qk, .inl (g.2 0, 10, .inl kd)), (qf, .inl (g.2 0, 10, .inl fi)), (qs, .inl (g.2 0, 10, .inl la)), (qd, .inr (4, [.ref qtr, .ref qtx, .int (D_65 2), .int (D_65 3), .int (D_65 4), .int (D_65 5), .int (D_65 6), .int (D_65 7), .int (D_65 8)])), (qtx, .inl (g.2 1, 500, .inl tx))] := hD
      have hP9 := hP.sub (ws' := [(qd, .inr (4, [.ref qtr, .ref qtx, .int (D_65 2), .int (D_65 3), .int (D_65 4), .int (D_65 5), .int (D_65 6), .int (D_65 7), .int (D_65 8)])), (qtx, .inl (g.2 1, 500, .inl tx)), (qG, .inr (1, [.ref qn, .ref qk, .ref qf, .ref qs, .int mk])), (qn, .inl (g.2 0, 6, .inl (upd nu x3.toNatClampNeg (D_32 8)))), (qk, .inl (g.2 0, 10, .inl kd)), (qf, .inl (g.2 0, 10, .inl fi)), (qs, .inl (g.2 0, 10, .inl la))]) [5, 6, 0, 1, 2, 3, 4] rfl
      have hD9 := hD.sub (ws' := [(qd, .inr (4, [.ref qtr, .ref qtx, .int (D_65 2), .int (D_65 3), .int (D_65 4), .int (D_65 5), .int (D_65 6), .int (D_65 7), .int (D_65 8)])), (qtx, .inl (g.2 1, 500, .inl tx)), (qG, .inr (1, [.ref qn, .ref qk, .ref qf, .ref qs, .int mk])), (qn, .inl (g.2 0, 6, .inl (upd nu x3.toNatClampNeg (D_32 8)))), (qk, .inl (g.2 0, 10, .inl kd)), (qf, .inl (g.2 0, 10, .inl fi)), (qs, .inl (g.2 0, 10, .inl la))]) [5, 6, 0, 1, 2, 3, 4] (by decide) rfl
      obtain ⟨hn, hv⟩ := hv
      exact W.zret (v := r_65) (ty := .boolean) hx hb hr hn (fun t ht hW => ⟨⟨_, (D_65, (upd nu x3.toNatClampNeg (D_32 8))), rfl, hv, by rw [ht]; exact hP9, hD9⟩, hS.F ht⟩) hS.2.2 dX4_readSetting_68
    · have hv := hvf hc
      refine lv_aload_n hx hb dX4_readSetting_51 rfl (lv_at hl 1 rfl) ?_
      refine va_get (D := g.1) (ci := 4) (v := .int (D_32 8)) (C := RX4) (T := TX4) (N := 9) hx hb hts inX4_readSetting_4 hown hK hP 5 rfl rfl 8 (by decide) (hts (.fieldLink RX4 63 "RangeCodes$Reader" "value" "I") (List.mem_of_getElem? (i := 2) rfl)) (fun _ h9 => h9) rfl dX4_readSetting_52 ?_
      refine lv_ineg hx hb dX4_readSetting_55 ?_
      refine lv_goto (tgt := 63) hx hb dX4_readSetting_56 (by decide) ?_
      obtain ⟨ho_5, hv⟩ := hv
      refine va_iast hx hb hK hP hD hS 1 0 rfl rfl ho_5 dX4_readSetting_63 (fun H locs hP hD hS => ?_)
      have hP : va_P g.1 vwCl [(qG, .inr (1, [.ref qn, .ref qk, .ref qf, .ref qs, .int mk])), (qn, .inl (g.2 0, 6, .inl (upd nu x3.toNatClampNeg (-(D_32 8))))), (qk, .inl (g.2 0, 10, .inl kd)), (qf, .inl (g.2 0, 10, .inl fi)), (qs, .inl (g.2 0, 10, .inl la)), (qd, .inr (4, [.ref qtr, .ref qtx, .int (D_32 2), .int (D_32 3), .int (D_32 4), .int (D_32 5), .int (D_32 6), .int (D_32 7), .int (D_32 8)])), (qtx, .inl (g.2 1, 500, .inl tx))] H := hP
      have hD : va_D A [(qG, .inr (1, [.ref qn, .ref qk, .ref qf, .ref qs, .int mk])), (qn, .inl (g.2 0, 6, .inl (upd nu x3.toNatClampNeg (-(D_32 8))))), (qk, .inl (g.2 0, 10, .inl kd)), (qf, .inl (g.2 0, 10, .inl fi)), (qs, .inl (g.2 0, 10, .inl la)), (qd, .inr (4, [.ref qtr, .ref qtx, .int (D_32 2), .int (D_32 3), .int (D_32 4), .int (D_32 5), .int (D_32 6), .int (D_32 7), .int (D_32 8)])), (qtx, .inl (g.2 1, 500, .inl tx))] := hD
      refine lv_aload_n hx hb dX4_readSetting_64 rfl (lv_at hl 1 rfl) ?_
      obtain ⟨b_65, nb_65, i_65, ho_6, hv⟩ := hv
      have hPc := hP.sub (ws' := [(qd, .inr (4, [.ref qtr, .ref qtx, .int (D_32 2), .int (D_32 3), .int (D_32 4), .int (D_32 5), .int (D_32 6), .int (D_32 7), .int (D_32 8)])), (qtx, .inl (g.2 1, 500, .inl tx))]) [5, 6] rfl
      have hDc := hD.sub (ws' := [(qd, .inr (4, [.ref qtr, .ref qtx, .int (D_32 2), .int (D_32 3), .int (D_32 4), .int (D_32 5), .int (D_32 6), .int (D_32 7), .int (D_32 8)])), (qtx, .inl (g.2 1, 500, .inl tx))]) [5, 6] (by decide) rfl
      have hFc := va_free (wc := [(qd, .inr (4, [.ref qtr, .ref qtx, .int (D_32 2), .int (D_32 3), .int (D_32 4), .int (D_32 5), .int (D_32 6), .int (D_32 7), .int (D_32 8)])), (qtx, .inl (g.2 1, 500, .inl tx))]) hD hS hA [5, 6] rfl
      refine va_calli (va_runV (As := []) (rest := []) S (wX4_readSign l g qd qtr qtx H.size D_32 tx (sX4_readSign b_65 nb_65 i_65 D_32 tx ho_6)) (cwV 0 hts gX4_readSetting_X4_readSign rfl rfl rfl (by decide +kernel) ⟨Nat.le_of_ble_eq_true rfl, Nat.le_of_ble_eq_true rfl⟩) ⟨blindRW, va_recv hK hP (ci := 4) (q0 := 5) rfl rfl, fun U hU hW => ⟨rfl, by rw [hU], by rw [hU]; exact hPc, hG.warm hW, hDc.weaken (fun _ _ _ _ => trivial)⟩⟩ rfl rfl hl.1 rfl (lv_room (Nat.le_of_ble_eq_true rfl)) dX4_readSetting_65 ⟨Nat.le_of_ble_eq_true rfl, Nat.le_of_ble_eq_true rfl⟩) hS (fun q _ h => hFc q h) hFc (fun r_65 u t H1 locs ht hvm hw hB hz1 hk1 hS => ?_)
      obtain ⟨D_65, rfl⟩ : ∃ z, z = u := ⟨_, rfl⟩
      obtain ⟨hP1, hD1⟩ := hB
      rw [ht] at hP1
      have hv := hv r_65 D_65 hw
      obtain ⟨hP, hD⟩ := va_join (wr := [(qG, .inr (1, [.ref qn, .ref qk, .ref qf, .ref qs, .int mk])), (qn, .inl (g.2 0, 6, .inl (upd nu x3.toNatClampNeg (-(D_32 8))))), (qk, .inl (g.2 0, 10, .inl kd)), (qf, .inl (g.2 0, 10, .inl fi)), (qs, .inl (g.2 0, 10, .inl la))]) (w1 := [(qd, .inr (4, [.ref qtr, .ref qtx, .int (D_65 2), .int (D_65 3), .int (D_65 4), .int (D_65 5), .int (D_65 6), .int (D_65 7), .int (D_65 8)])), (qtx, .inl (g.2 1, 500, .inl tx))]) hP hD [5, 6] [0, 1, 2, 3, 4] rfl rfl (by decide) (by decide) hk1 hFc hP1 hD1
      clear hP1 hD1 hPc hDc hFc hk1
      generalize H1 = H at hP hS ⊢
      have hP : va_P g.1 vwCl [(qG, .inr (1, [.ref qn, .ref qk, .ref qf, .ref qs, .int mk])), (qn, .inl (g.2 0, 6, .inl (upd nu x3.toNatClampNeg (-(D_32 8))))), (qk, .inl (g.2 0, 10, .inl kd)), (qf, .inl (g.2 0, 10, .inl fi)), (qs, .inl (g.2 0, 10, .inl la)), (qd, .inr (4, [.ref qtr, .ref qtx, .int (D_65 2), .int (D_65 3), .int (D_65 4), .int (D_65 5), .int (D_65 6), .int (D_65 7), .int (D_65 8)])), (qtx, .inl (g.2 1, 500, .inl tx))] H := hP
      have hD : va_D A [(qG, .inr (1, [.ref qn, .ref qk, .ref qf, .ref qs, .int mk])), (qn, .inl (g.2 0, 6, .inl (upd nu x3.toNatClampNeg (-(D_32 8))))), (qk, .inl (g.2 0, 10, .inl kd)), (qf, .inl (g.2 0, 10, .inl fi)), (qs, .inl (g.2 0, 10, .inl la)), (qd, .inr (4, [.ref qtr, .ref qtx, .int (D_65 2), .int (D_65 3), .int (D_65 4), .int (D_65 5), .int (D_65 6), .int (D_65 7), .int (D_65 8)])), (qtx, .inl (g.2 1, 500, .inl tx))] := hD
      have hP9 := hP.sub (ws' := [(qd, .inr (4, [.ref qtr, .ref qtx, .int (D_65 2), .int (D_65 3), .int (D_65 4), .int (D_65 5), .int (D_65 6), .int (D_65 7), .int (D_65 8)])), (qtx, .inl (g.2 1, 500, .inl tx)), (qG, .inr (1, [.ref qn, .ref qk, .ref qf, .ref qs, .int mk])), (qn, .inl (g.2 0, 6, .inl (upd nu x3.toNatClampNeg (-(D_32 8))))), (qk, .inl (g.2 0, 10, .inl kd)), (qf, .inl (g.2 0, 10, .inl fi)), (qs, .inl (g.2 0, 10, .inl la))]) [5, 6, 0, 1, 2, 3, 4] rfl
      have hD9 := hD.sub (ws' := [(qd, .inr (4, [.ref qtr, .ref qtx, .int (D_65 2), .int (D_65 3), .int (D_65 4), .int (D_65 5), .int (D_65 6), .int (D_65 7), .int (D_65 8)])), (qtx, .inl (g.2 1, 500, .inl tx)), (qG, .inr (1, [.ref qn, .ref qk, .ref qf, .ref qs, .int mk])), (qn, .inl (g.2 0, 6, .inl (upd nu x3.toNatClampNeg (-(D_32 8))))), (qk, .inl (g.2 0, 10, .inl kd)), (qf, .inl (g.2 0, 10, .inl fi)), (qs, .inl (g.2 0, 10, .inl la))]) [5, 6, 0, 1, 2, 3, 4] (by decide) rfl
      obtain ⟨hn, hv⟩ := hv
      exact W.zret (v := r_65) (ty := .boolean) hx hb hr hn (fun t ht hW => ⟨⟨_, (D_65, (upd nu x3.toNatClampNeg (-(D_32 8)))), rfl, hv, by rw [ht]; exact hP9, hD9⟩, hS.F ht⟩) hS.2.2 dX4_readSetting_68
  · have hv := hvf hc
    refine lv_iconst (v := (0 : Int32)) hx hb dX4_readSetting_38 (by decide) ?_
    have hP9 := hP.sub (ws' := [(qd, .inr (4, [.ref qtr, .ref qtx, .int (D_32 2), .int (D_32 3), .int (D_32 4), .int (D_32 5), .int (D_32 6), .int (D_32 7), .int (D_32 8)])), (qtx, .inl (g.2 1, 500, .inl tx)), (qG, .inr (1, [.ref qn, .ref qk, .ref qf, .ref qs, .int mk])), (qn, .inl (g.2 0, 6, .inl nu)), (qk, .inl (g.2 0, 10, .inl kd)), (qf, .inl (g.2 0, 10, .inl fi)), (qs, .inl (g.2 0, 10, .inl la))]) [5, 6, 0, 1, 2, 3, 4] rfl
    have hD9 := hD.sub (ws' := [(qd, .inr (4, [.ref qtr, .ref qtx, .int (D_32 2), .int (D_32 3), .int (D_32 4), .int (D_32 5), .int (D_32 6), .int (D_32 7), .int (D_32 8)])), (qtx, .inl (g.2 1, 500, .inl tx)), (qG, .inr (1, [.ref qn, .ref qk, .ref qf, .ref qs, .int mk])), (qn, .inl (g.2 0, 6, .inl nu)), (qk, .inl (g.2 0, 10, .inl kd)), (qf, .inl (g.2 0, 10, .inl fi)), (qs, .inl (g.2 0, 10, .inl la))]) [5, 6, 0, 1, 2, 3, 4] (by decide) rfl
    exact W.zret (v := (0 : Int32)) (ty := .boolean) hx hb hr rfl (fun t ht hW => ⟨⟨_, (D_32, nu), rfl, hv, by rw [ht]; exact hP9, hD9⟩, hS.F ht⟩) hS.2.2 dX4_readSetting_39
def vX4_readSetting_c11 (tx : Nat → Int32) (mk : Int32) (kd : Nat → Int32) (fi : Nat → Int32) (la : Nat → Int32) (p2 : Int32) (Q : Int32 → (Nat → Int32) → (Nat → Int32) → Prop) (s0 : Int32) (D : Nat → Int32) (nu : Nat → Int32) : Prop := ((¬ s0 = (3 : Int32) → (vX4_readSetting_c22 tx mk kd fi la p2 Q s0 (0 : Int32) D nu)) ∧ (s0 = (3 : Int32) → (vX4_readSetting_c22 tx mk kd fi la p2 Q s0 (1 : Int32) D nu)))
set_option maxHeartbeats 4000000 in
set_option maxRecDepth 100000 in
theorem kX4_readSetting_c11 {p : Program} {l : Launch} {e : Env} {s : State} {m : MethodId} {args : Array Value} {below : List Frame} {meth : Method} {c : Code} {g : GP} {v : GV} {qd : Nat} {qtr : Nat} {qtx : Nat} {qG : Nat} {qn : Nat} {qk : Nat} {qf : Nat} {qs : Nat} {tx : Nat → Int32} {mk : Int32} {kd : Nat → Int32} {fi : Nat → Int32} {la : Nat → Int32} {p2 : Int32} {Q : Int32 → (Nat → Int32) → (Nat → Int32) → Prop} {A : Nat → Prop} (S : CallFix p m c cX4_readSetting 5 s args wsX4_readSetting RX4) (hr : meth.sig.returnType = (some .boolean)) (hlocks : meth.locks = false) (hG : GK g s) (hA : ∀ q : Nat, s.heap.size ≤ q → A q) (hE : GE v A s s.heap) : ∀ (s0 : Int32) (D : Nat → Int32) (nu : Nat → Int32), vX4_readSetting_c11 tx mk kd fi la p2 Q s0 D nu → ∀ (H : Heap) (locs : List Loc), va_P g.1 vwCl [(qd, .inr (4, [.ref qtr, .ref qtx, .int (D 2), .int (D 3), .int (D 4), .int (D 5), .int (D 6), .int (D 7), .int (D 8)])), (qtx, .inl (g.2 1, 500, .inl tx)), (qG, .inr (1, [.ref qn, .ref qk, .ref qf, .ref qs, .int mk])), (qn, .inl (g.2 0, 6, .inl nu)), (qk, .inl (g.2 0, 10, .inl kd)), (qf, .inl (g.2 0, 10, .inl fi)), (qs, .inl (g.2 0, 10, .inl la))] H → va_D A [(qd, .inr (4, [.ref qtr, .ref qtx, .int (D 2), .int (D 3), .int (D 4), .int (D 5), .int (D 6), .int (D 7), .int (D 8)])), (qtx, .inl (g.2 1, 500, .inl tx)), (qG, .inr (1, [.ref qn, .ref qk, .ref qf, .ref qs, .int mk])), (qn, .inl (g.2 0, 6, .inl nu)), (qk, .inl (g.2 0, 10, .inl kd)), (qf, .inl (g.2 0, 10, .inl fi)), (qs, .inl (g.2 0, 10, .inl la))] → va_S A s.heap H locs → ∀ (ls : Array Slot), lv_has ls 5 [(0, .ref qd), (1, .ref qG), (2, .int p2)] → W p l e (headSpec wsX4_readSetting rmX4_readSetting).room s m args below meth c H locs 0 0 (MQ below (va_Qi (fun (r : Int32) (u : (Nat → Int32) × (Nat → Int32)) => Q r u.1 u.2) (fun (u : (Nat → Int32) × (Nat → Int32)) t => va_P g.1 vwCl [(qd, .inr (4, [.ref qtr, .ref qtx, .int (u.1 2), .int (u.1 3), .int (u.1 4), .int (u.1 5), .int (u.1 6), .int (u.1 7), .int (u.1 8)])), (qtx, .inl (g.2 1, 500, .inl tx)), (qG, .inr (1, [.ref qn, .ref qk, .ref qf, .ref qs, .int mk])), (qn, .inl (g.2 0, 6, .inl u.2)), (qk, .inl (g.2 0, 10, .inl kd)), (qf, .inl (g.2 0, 10, .inl fi)), (qs, .inl (g.2 0, 10, .inl la))] t.heap ∧ va_D A [(qd, .inr (4, [.ref qtr, .ref qtx, .int (u.1 2), .int (u.1 3), .int (u.1 4), .int (u.1 5), .int (u.1 6), .int (u.1 7), .int (u.1 8)])), (qtx, .inl (g.2 1, 500, .inl tx)), (qG, .inr (1, [.ref qn, .ref qk, .ref qf, .ref qs, .int mk])), (qn, .inl (g.2 0, 6, .inl u.2)), (qk, .inl (g.2 0, 10, .inl kd)), (qf, .inl (g.2 0, 10, .inl fi)), (qs, .inl (g.2 0, 10, .inl la))]) A) args s 0 0 A) (F0 m 11 ls [.int s0]) := by
  obtain ⟨hx, hb, hml, hown, hts⟩ := id S
  have hK := hG.1
  intro s0 D nu hv H locs hP hD hS ls hl
  unfold vX4_readSetting_c11 at hv
  refine lv_istore_n (lv' := [(3, .int s0), (0, .ref qd), (1, .ref qG), (2, .int p2)]) hx hb dX4_readSetting_11 rfl hl (by decide) rfl (fun ls hl => ?_)
  refine lv_iload_n hx hb dX4_readSetting_12 rfl (lv_at hl 0 rfl) ?_
  refine lv_iconst (v := (3 : Int32)) hx hb dX4_readSetting_13 (by decide) ?_
  obtain ⟨hvt, hvf⟩ := hv
  refine lv_icmp_ne (tgt := 21) hx hb dX4_readSetting_14 (by decide) (fun hc => ?_) (fun hc => ?_)
  · have hv := hvt hc
    refine lv_iconst (v := (0 : Int32)) hx hb dX4_readSetting_21 (by decide) ?_
    exact kX4_readSetting_c22 S hr hlocks hG hA hE _ _ _ _ hv _ _ (hP.sub (ws' := [(qd, .inr (4, [.ref qtr, .ref qtx, .int (D 2), .int (D 3), .int (D 4), .int (D 5), .int (D 6), .int (D 7), .int (D 8)])), (qtx, .inl (g.2 1, 500, .inl tx)), (qG, .inr (1, [.ref qn, .ref qk, .ref qf, .ref qs, .int mk])), (qn, .inl (g.2 0, 6, .inl nu)), (qk, .inl (g.2 0, 10, .inl kd)), (qf, .inl (g.2 0, 10, .inl fi)), (qs, .inl (g.2 0, 10, .inl la))]) [0, 1, 2, 3, 4, 5, 6] rfl) (hD.sub (ws' := [(qd, .inr (4, [.ref qtr, .ref qtx, .int (D 2), .int (D 3), .int (D 4), .int (D 5), .int (D 6), .int (D 7), .int (D 8)])), (qtx, .inl (g.2 1, 500, .inl tx)), (qG, .inr (1, [.ref qn, .ref qk, .ref qf, .ref qs, .int mk])), (qn, .inl (g.2 0, 6, .inl nu)), (qk, .inl (g.2 0, 10, .inl kd)), (qf, .inl (g.2 0, 10, .inl fi)), (qs, .inl (g.2 0, 10, .inl la))]) [0, 1, 2, 3, 4, 5, 6] (by decide) rfl) hS ls (lv_sub hl [1, 2, 3, 0] rfl)
  · have hv := hvf hc
    refine lv_iconst (v := (1 : Int32)) hx hb dX4_readSetting_17 (by decide) ?_
    refine lv_goto (tgt := 22) hx hb dX4_readSetting_18 (by decide) ?_
    exact kX4_readSetting_c22 S hr hlocks hG hA hE _ _ _ _ hv _ _ (hP.sub (ws' := [(qd, .inr (4, [.ref qtr, .ref qtx, .int (D 2), .int (D 3), .int (D 4), .int (D 5), .int (D 6), .int (D 7), .int (D 8)])), (qtx, .inl (g.2 1, 500, .inl tx)), (qG, .inr (1, [.ref qn, .ref qk, .ref qf, .ref qs, .int mk])), (qn, .inl (g.2 0, 6, .inl nu)), (qk, .inl (g.2 0, 10, .inl kd)), (qf, .inl (g.2 0, 10, .inl fi)), (qs, .inl (g.2 0, 10, .inl la))]) [0, 1, 2, 3, 4, 5, 6] rfl) (hD.sub (ws' := [(qd, .inr (4, [.ref qtr, .ref qtx, .int (D 2), .int (D 3), .int (D 4), .int (D 5), .int (D 6), .int (D 7), .int (D 8)])), (qtx, .inl (g.2 1, 500, .inl tx)), (qG, .inr (1, [.ref qn, .ref qk, .ref qf, .ref qs, .int mk])), (qn, .inl (g.2 0, 6, .inl nu)), (qk, .inl (g.2 0, 10, .inl kd)), (qf, .inl (g.2 0, 10, .inl fi)), (qs, .inl (g.2 0, 10, .inl la))]) [0, 1, 2, 3, 4, 5, 6] (by decide) rfl) hS ls (lv_sub hl [1, 2, 3, 0] rfl)
def vX4_readSetting (D : Nat → Int32) (tx : Nat → Int32) (mk : Int32) (nu : Nat → Int32) (kd : Nat → Int32) (fi : Nat → Int32) (la : Nat → Int32) (p2 : Int32) (Q : Int32 → (Nat → Int32) → (Nat → Int32) → Prop) : Prop := ((¬ p2 = (6 : Int32) → (vX4_readSetting_c11 tx mk kd fi la p2 Q p2 D nu)) ∧ (p2 = (6 : Int32) → (vX4_readSetting_c11 tx mk kd fi la p2 Q (1 : Int32) D nu)))
set_option maxHeartbeats 4000000 in
set_option maxRecDepth 100000 in
theorem wX4_readSetting (l : Launch) (g : GP) (v : GV) (qd : Nat) (qtr : Nat) (qtx : Nat) (qG : Nat) (qn : Nat) (qk : Nat) (qf : Nat) (qs : Nat) (sz : Nat) (D : Nat → Int32) (tx : Nat → Int32) (mk : Int32) (nu : Nat → Int32) (kd : Nat → Int32) (fi : Nat → Int32) (la : Nat → Int32) (p2 : Int32) {Q : Int32 → (Nat → Int32) → (Nat → Int32) → Prop} (hv : vX4_readSetting D tx mk nu kd fi la p2 Q) : Met l yX4_readSetting wsX4_readSetting rmX4_readSetting (va_Pc [.ref qd, .ref qG, .int p2] (fun U => U.heap.size = sz ∧ va_P g.1 vwCl [(qd, .inr (4, [.ref qtr, .ref qtx, .int (D 2), .int (D 3), .int (D 4), .int (D 5), .int (D 6), .int (D 7), .int (D 8)])), (qtx, .inl (g.2 1, 500, .inl tx)), (qG, .inr (1, [.ref qn, .ref qk, .ref qf, .ref qs, .int mk])), (qn, .inl (g.2 0, 6, .inl nu)), (qk, .inl (g.2 0, 10, .inl kd)), (qf, .inl (g.2 0, 10, .inl fi)), (qs, .inl (g.2 0, 10, .inl la))] U.heap ∧ GK g U ∧ va_D (fun _ => True) [(qd, .inr (4, [.ref qtr, .ref qtx, .int (D 2), .int (D 3), .int (D 4), .int (D 5), .int (D 6), .int (D 7), .int (D 8)])), (qtx, .inl (g.2 1, 500, .inl tx)), (qG, .inr (1, [.ref qn, .ref qk, .ref qf, .ref qs, .int mk])), (qn, .inl (g.2 0, 6, .inl nu)), (qk, .inl (g.2 0, 10, .inl kd)), (qf, .inl (g.2 0, 10, .inl fi)), (qs, .inl (g.2 0, 10, .inl la))] ∧ GE v (va_A [(qd, .inr (4, [.ref qtr, .ref qtx, .int (D 2), .int (D 3), .int (D 4), .int (D 5), .int (D 6), .int (D 7), .int (D 8)])), (qtx, .inl (g.2 1, 500, .inl tx)), (qG, .inr (1, [.ref qn, .ref qk, .ref qf, .ref qs, .int mk])), (qn, .inl (g.2 0, 6, .inl nu)), (qk, .inl (g.2 0, 10, .inl kd)), (qf, .inl (g.2 0, 10, .inl fi)), (qs, .inl (g.2 0, 10, .inl la))] sz) U U.heap)) (va_Qi (fun (r : Int32) (u : (Nat → Int32) × (Nat → Int32)) => Q r u.1 u.2) (fun (u : (Nat → Int32) × (Nat → Int32)) t => va_P g.1 vwCl [(qd, .inr (4, [.ref qtr, .ref qtx, .int (u.1 2), .int (u.1 3), .int (u.1 4), .int (u.1 5), .int (u.1 6), .int (u.1 7), .int (u.1 8)])), (qtx, .inl (g.2 1, 500, .inl tx)), (qG, .inr (1, [.ref qn, .ref qk, .ref qf, .ref qs, .int mk])), (qn, .inl (g.2 0, 6, .inl u.2)), (qk, .inl (g.2 0, 10, .inl kd)), (qf, .inl (g.2 0, 10, .inl fi)), (qs, .inl (g.2 0, 10, .inl la))] t.heap ∧ va_D (va_A [(qd, .inr (4, [.ref qtr, .ref qtx, .int (D 2), .int (D 3), .int (D 4), .int (D 5), .int (D 6), .int (D 7), .int (D 8)])), (qtx, .inl (g.2 1, 500, .inl tx)), (qG, .inr (1, [.ref qn, .ref qk, .ref qf, .ref qs, .int mk])), (qn, .inl (g.2 0, 6, .inl nu)), (qk, .inl (g.2 0, 10, .inl kd)), (qf, .inl (g.2 0, 10, .inl fi)), (qs, .inl (g.2 0, 10, .inl la))] sz) [(qd, .inr (4, [.ref qtr, .ref qtx, .int (u.1 2), .int (u.1 3), .int (u.1 4), .int (u.1 5), .int (u.1 6), .int (u.1 7), .int (u.1 8)])), (qtx, .inl (g.2 1, 500, .inl tx)), (qG, .inr (1, [.ref qn, .ref qk, .ref qf, .ref qs, .int mk])), (qn, .inl (g.2 0, 6, .inl u.2)), (qk, .inl (g.2 0, 10, .inl kd)), (qf, .inl (g.2 0, 10, .inl fi)), (qs, .inl (g.2 0, 10, .inl la))]) (va_A [(qd, .inr (4, [.ref qtr, .ref qtx, .int (D 2), .int (D 3), .int (D 4), .int (D 5), .int (D 6), .int (D 7), .int (D 8)])), (qtx, .inl (g.2 1, 500, .inl tx)), (qG, .inr (1, [.ref qn, .ref qk, .ref qf, .ref qs, .int mk])), (qn, .inl (g.2 0, 6, .inl nu)), (qk, .inl (g.2 0, 10, .inl kd)), (qf, .inl (g.2 0, 10, .inl fi)), (qs, .inl (g.2 0, 10, .inl la))] sz)) 0 0 (va_A [(qd, .inr (4, [.ref qtr, .ref qtx, .int (D 2), .int (D 3), .int (D 4), .int (D 5), .int (D 6), .int (D 7), .int (D 8)])), (qtx, .inl (g.2 1, 500, .inl tx)), (qG, .inr (1, [.ref qn, .ref qk, .ref qf, .ref qs, .int mk])), (qn, .inl (g.2 0, 6, .inl nu)), (qk, .inl (g.2 0, 10, .inl kd)), (qf, .inl (g.2 0, 10, .inl fi)), (qs, .inl (g.2 0, 10, .inl la))] sz) := by
  refine Met.ofW (cc := cX4_readSetting) (maxL := 5) (ret := (some .boolean)) (by decide) rfl ?_
  intro p e s m args below meth c s₁ B hml hv'
  obtain ⟨rfl, hsz, hP, hG, hD0, hE⟩ := hv'
  have S : CallFix p m c cX4_readSetting 5 s _ wsX4_readSetting RX4 := ⟨B.exec, B.bytes, hml, findClass_of_methodNamed B.named, atoms_spec (ws := wsX4_readSetting) B.pre⟩
  obtain ⟨hx, hb, hml, hown, hts⟩ := id S
  have hK := hG.1
  have hr := B.returns
  have hlocks := B.notSynchronized
  subst hsz
  have hD := hD0.self (sz := s.heap.size)
  generalize hAe : va_A [(qd, .inr (4, [.ref qtr, .ref qtx, .int (D 2), .int (D 3), .int (D 4), .int (D 5), .int (D 6), .int (D 7), .int (D 8)])), (qtx, .inl (g.2 1, 500, .inl tx)), (qG, .inr (1, [.ref qn, .ref qk, .ref qf, .ref qs, .int mk])), (qn, .inl (g.2 0, 6, .inl nu)), (qk, .inl (g.2 0, 10, .inl kd)), (qf, .inl (g.2 0, 10, .inl fi)), (qs, .inl (g.2 0, 10, .inl la))] s.heap.size = A at hD hE ⊢
  have hA : ∀ q : Nat, s.heap.size ≤ q → A q := fun q h => by rw [← hAe]; exact Or.inr h
  have hS : va_S A s.heap s.heap [] := va_S.rf
  clear hD0 hAe
  have hl := lv_entry ([.ref qd, .ref qG, .int p2]) (n := 5) (Nat.le_of_ble_eq_true rfl)
  rw [lg_entry_eq]
  generalize (lg_sl ([.ref qd, .ref qG, .int p2]) ++ List.replicate (5 - (lg_sl ([.ref qd, .ref qG, .int p2])).length) Slot.unset).toArray = ls at hl ⊢
  have hl : lv_has ls 5 [(0, .ref qd), (1, .ref qG), (2, .int p2)] := hl
  unfold vX4_readSetting at hv
  refine lv_iload_n hx hb dX4_readSetting_0 rfl (lv_at hl 2 rfl) ?_
  refine lv_bipush (v := (6 : Int32)) hx hb dX4_readSetting_1 (by decide) ?_
  obtain ⟨hvt, hvf⟩ := hv
  refine lv_icmp_ne (tgt := 10) hx hb dX4_readSetting_3 (by decide) (fun hc => ?_) (fun hc => ?_)
  · have hv := hvt hc
    refine lv_iload_n hx hb dX4_readSetting_10 rfl (lv_at hl 2 rfl) ?_
    exact kX4_readSetting_c11 S hr hlocks hG hA hE _ _ _ hv _ _ (hP.sub (ws' := [(qd, .inr (4, [.ref qtr, .ref qtx, .int (D 2), .int (D 3), .int (D 4), .int (D 5), .int (D 6), .int (D 7), .int (D 8)])), (qtx, .inl (g.2 1, 500, .inl tx)), (qG, .inr (1, [.ref qn, .ref qk, .ref qf, .ref qs, .int mk])), (qn, .inl (g.2 0, 6, .inl nu)), (qk, .inl (g.2 0, 10, .inl kd)), (qf, .inl (g.2 0, 10, .inl fi)), (qs, .inl (g.2 0, 10, .inl la))]) [0, 1, 2, 3, 4, 5, 6] rfl) (hD.sub (ws' := [(qd, .inr (4, [.ref qtr, .ref qtx, .int (D 2), .int (D 3), .int (D 4), .int (D 5), .int (D 6), .int (D 7), .int (D 8)])), (qtx, .inl (g.2 1, 500, .inl tx)), (qG, .inr (1, [.ref qn, .ref qk, .ref qf, .ref qs, .int mk])), (qn, .inl (g.2 0, 6, .inl nu)), (qk, .inl (g.2 0, 10, .inl kd)), (qf, .inl (g.2 0, 10, .inl fi)), (qs, .inl (g.2 0, 10, .inl la))]) [0, 1, 2, 3, 4, 5, 6] (by decide) rfl) hS ls (lv_sub hl [0, 1, 2] rfl)
  · have hv := hvf hc
    refine lv_iconst (v := (1 : Int32)) hx hb dX4_readSetting_6 (by decide) ?_
    refine lv_goto (tgt := 11) hx hb dX4_readSetting_7 (by decide) ?_
    exact kX4_readSetting_c11 S hr hlocks hG hA hE _ _ _ hv _ _ (hP.sub (ws' := [(qd, .inr (4, [.ref qtr, .ref qtx, .int (D 2), .int (D 3), .int (D 4), .int (D 5), .int (D 6), .int (D 7), .int (D 8)])), (qtx, .inl (g.2 1, 500, .inl tx)), (qG, .inr (1, [.ref qn, .ref qk, .ref qf, .ref qs, .int mk])), (qn, .inl (g.2 0, 6, .inl nu)), (qk, .inl (g.2 0, 10, .inl kd)), (qf, .inl (g.2 0, 10, .inl fi)), (qs, .inl (g.2 0, 10, .inl la))]) [0, 1, 2, 3, 4, 5, 6] rfl) (hD.sub (ws' := [(qd, .inr (4, [.ref qtr, .ref qtx, .int (D 2), .int (D 3), .int (D 4), .int (D 5), .int (D 6), .int (D 7), .int (D 8)])), (qtx, .inl (g.2 1, 500, .inl tx)), (qG, .inr (1, [.ref qn, .ref qk, .ref qf, .ref qs, .int mk])), (qn, .inl (g.2 0, 6, .inl nu)), (qk, .inl (g.2 0, 10, .inl kd)), (qf, .inl (g.2 0, 10, .inl fi)), (qs, .inl (g.2 0, 10, .inl la))]) [0, 1, 2, 3, 4, 5, 6] (by decide) rfl) hS ls (lv_sub hl [0, 1, 2] rfl)
abbrev preX4_readSetting (b : Nat → Int32) (nb : Nat) (i : Nat) (G : Lg) (w : Nat) (D : Nat → Int32) (tx : Nat → Int32) (mk : Int32) (nu : Nat → Int32) (kd : Nat → Int32) (fi : Nat → Int32) (la : Nat → Int32) (p2 : Int32) : Prop := preX4_step b nb i D tx ∧ rdG G (fl D) mk nu kd fi la ∧ 4 ≤ w ∧ w ≤ 10 ∧ p2.toInt = seI w
abbrev postX4_readSetting (b : Nat → Int32) (nb : Nat) (i : Nat) (G : Lg) (w : Nat) (D : Nat → Int32) (tx : Nat → Int32) (mk : Int32) (nu : Nat → Int32) (kd : Nat → Int32) (fi : Nat → Int32) (la : Nat → Int32) (p2 : Int32) (r : Int32) (D' : Nat → Int32) (nu' : Nat → Int32) : Prop := rdA nb (sgnS b nb (numS b nb i (stL w) (stM w) (fl D))) r D' ∧ rdG (stG b nb i w G) (sgnS b nb (numS b nb i (stL w) (stM w) (fl D))).2.2 mk nu' kd fi la
theorem stS_all : ∀ w, w < 11 → 4 ≤ w → stJ w < 6 ∧ (msF.getD (stJ w) 0).toInt = stM w ∧ (seI w = 6 ↔ w = 6) ∧ (w ≠ 6 → seI w = (stJ w : Int)) ∧ (w = 6 → stJ w = 1) ∧ ((stJ w : Int) = 3 ↔ w = 8) := by decide
theorem sX4_readSetting_22 (b : Nat → Int32) (nb : Nat) (i : Nat) (G : Lg) (w : Nat) (D : Nat → Int32) (tx : Nat → Int32) (mk : Int32) (nu : Nat → Int32) (kd : Nat → Int32) (fi : Nat → Int32) (la : Nat → Int32) (p2 : Int32) (H : preX4_readSetting b nb i G w D tx mk nu kd fi la p2) (x3 s0 : Int32) (h3 : x3.toInt = (stJ w : Int)) (hs0 : s0.toInt = stL w) : vX4_readSetting_c22 tx mk kd fi la p2 (postX4_readSetting b nb i G w D tx mk nu kd fi la p2) x3 s0 D nu := by
  obtain ⟨hs, ⟨hg, hm0, hm1⟩, hw1, hw2, hp⟩ := id H
  have hi := hs.2.2.1
  have hie := tE_le b hi
  obtain ⟨a1, a2, a3, a4, a5, a6⟩ := stS_all w (by omega) hw1
  have hin : vp_in x3 6 := q_in h3 a1
  have hp6 : (p2 = (6 : Int32)) = (w = 6) := by rw [fa_eq, z6, hp]; exact propext a3
  refine ⟨hin, b, nb, i, hs, fun r D2 h2 => ?_⟩
  obtain ⟨h2a, h2b, h2c⟩ := h2
  rw [q_cl h3, a2, hs0] at h2a h2b h2c
  rw [h2a, q_if1, hp6, q_cl h3]
  refine ⟨fun c => ?_, fun c => ?_⟩
  · have c := Decidable.not_not.mp c
    have hk := numS_t.mp c
    have hr := h2c c
    have h8 := hr.2.2.2.2.2.2 hk
    have hv := tV_le hi hk
    have eo : numS b nb i (stL w) (stM w) (fl D) = (true, tE b nb i, fl D2) := by rw [h2b, ← c, ← numS_p hk]
    have en : ∀ (y : Int32), y.toInt = stV w (tV b nb i) → ∀ (r3 : Int32) (D3 : Nat → Int32), postX4_readSign b nb (tE b nb i) D2 tx r3 D3 → narrow .boolean (.int r3) = .int r3 ∧ postX4_readSetting b nb i G w D tx mk nu kd fi la p2 r3 D3 (upd nu (stJ w) y) := fun y hy r3 D3 h4 => by
      have hA := rdA_sg rfl h4
      rw [← eo] at hA
      refine ⟨nar_if h4.1, hA, fun z => ?_, hm0, hm1⟩
      have z := (sgnS_f z (fun q => numS_n q)).2
      have q := numS_0 z
      exact isG_st (hg q.2.1) ⟨hw1, hw2⟩ q.2.2.1 q.2.2.2.1 (by omega) hy
    refine ⟨fun d => ⟨hin, b, nb, tE b nb i, rdK_st hr hs.2.2.2.2, en _ ?_⟩, fun d => ⟨hin, b, nb, tE b nb i, rdK_st hr hs.2.2.2.2, en _ ?_⟩⟩
    · unfold stV; rw [if_neg d]; exact h8
    · unfold stV
      rw [if_pos d, ← h8]
      have e0 : (0 : Int32) - D2 8 = -(D2 8) := Int32.zero_sub _
      rw [← e0, q_sub z0 rfl (by omega) (by omega)]; omega
  · have c : (numS b nb i (stL w) (stM w) (fl D)).1 = false := by simpa using c
    refine ⟨rdA_no c h2b, fun z => ?_, hm0, hm1⟩
    exact absurd (sgnS_f z (fun q => numS_n q)).1 (by rw [c]; decide)
theorem sX4_readSetting (b : Nat → Int32) (nb : Nat) (i : Nat) (G : Lg) (w : Nat) (D : Nat → Int32) (tx : Nat → Int32) (mk : Int32) (nu : Nat → Int32) (kd : Nat → Int32) (fi : Nat → Int32) (la : Nat → Int32) (p2 : Int32) (H : preX4_readSetting b nb i G w D tx mk nu kd fi la p2) : vX4_readSetting D tx mk nu kd fi la p2 (postX4_readSetting b nb i G w D tx mk nu kd fi la p2) := by
  obtain ⟨hs, ⟨hg, hm0, hm1⟩, hw1, hw2, hp⟩ := id H
  obtain ⟨a1, a2, a3, a4, a5, a6⟩ := stS_all w (by omega) hw1
  have hp6 : (p2 = (6 : Int32)) = (w = 6) := by rw [fa_eq, z6, hp]; exact propext a3
  have st : ∀ x3 : Int32, x3.toInt = (stJ w : Int) → vX4_readSetting_c11 tx mk kd fi la p2 (postX4_readSetting b nb i G w D tx mk nu kd fi la p2) x3 D nu := fun x3 h3 => by
    have h38 : (x3 = (3 : Int32)) = (w = 8) := by rw [fa_eq, z3, h3]; exact propext a6
    unfold vX4_readSetting_c11
    rw [h38]
    exact ⟨fun d => sX4_readSetting_22 b nb i G w D tx mk nu kd fi la p2 H x3 _ h3 (by unfold stL; rw [if_neg d]; rfl), fun d => sX4_readSetting_22 b nb i G w D tx mk nu kd fi la p2 H x3 _ h3 (by unfold stL; rw [if_pos d]; rfl)⟩
  unfold vX4_readSetting
  rw [hp6]
  exact ⟨fun d => st _ (by rw [hp, a4 d]), fun d => st _ (by rw [a5 d]; rfl)⟩
set_option maxRecDepth 20000 in
theorem ggX4_readLeg_X4_step : GoodIn wsX4_readLeg wsX4_step := goodIn_r _ [5, 6, 7, 8, 9, 10, 11, 12, 13, 4, 14, 15, 16, 17, 18, 19, 20, 119, 120, 121, 122, 123, 124, 125, 126, 127] (by decide +kernel) (by decide +kernel)
set_option maxRecDepth 20000 in
theorem gX4_readLeg_X4_step : GoodIn wsX4_readLeg (wsV RX4 38 RX4 yX4_step wsX4_step) := goodIn_app (goodIn_of _ (by decide +kernel)) ggX4_readLeg_X4_step
set_option maxRecDepth 20000 in
theorem ggX4_readLeg_X4_settingWord : GoodIn wsX4_readLeg wsX4_settingWord := goodIn_r _ [24, 25, 26, 27, 4, 28, 11, 6, 9, 8, 29, 30, 31, 32, 33, 34, 35, 36, 37, 38, 39, 40, 41, 42, 43, 44, 45, 46, 47, 48, 49, 50, 51, 52, 53, 54, 55, 56, 57, 58, 59, 60, 61, 62, 63, 64, 65, 66, 67, 68, 69, 70, 71, 72, 73, 74, 75, 76, 77, 119, 120, 121, 122, 123, 124, 125, 126, 127] (by decide +kernel) (by decide +kernel)
set_option maxRecDepth 20000 in
theorem gX4_readLeg_X4_settingWord : GoodIn wsX4_readLeg (wsV RX4 107 RX4 yX4_settingWord wsX4_settingWord) := goodIn_app (goodIn_of _ (by decide +kernel)) ggX4_readLeg_X4_settingWord
set_option maxRecDepth 20000 in
theorem ggX4_readLeg_X4_readSetting : GoodIn wsX4_readLeg wsX4_readSetting := goodIn_r _ [81, 82, 10, 83, 84, 85, 4, 86, 11, 1, 2, 3, 5, 6, 7, 8, 9, 12, 13, 14, 15, 16, 17, 18, 19, 20, 87, 88, 89, 90, 91, 92, 93, 94, 95, 96, 97, 98, 99, 100, 128, 129, 130, 131, 132, 119, 120, 121, 122, 123, 124, 125, 126, 127] (by decide +kernel) (by decide +kernel)
set_option maxRecDepth 20000 in
theorem gX4_readLeg_X4_readSetting : GoodIn wsX4_readLeg (wsV RX4 110 RX4 yX4_readSetting wsX4_readSetting) := goodIn_app (goodIn_of _ (by decide +kernel)) ggX4_readLeg_X4_readSetting
set_option maxRecDepth 20000 in
theorem ggX4_readLeg_X4_markWord : GoodIn wsX4_readLeg wsX4_markWord := goodIn_r _ [104, 25, 26, 27, 4, 28, 11, 6, 9, 8, 29, 30, 31, 32, 33, 34, 35, 36, 37, 38, 39, 40, 41, 42, 43, 44, 45, 46, 47, 48, 49, 50, 51, 52, 53, 54, 55, 56, 57, 58, 59, 60, 61, 62, 63, 64, 65, 66, 67, 68, 69, 70, 71, 72, 73, 74, 75, 76, 77, 119, 120, 121, 122, 123, 124, 125, 126, 127] (by decide +kernel) (by decide +kernel)
set_option maxRecDepth 20000 in
theorem gX4_readLeg_X4_markWord : GoodIn wsX4_readLeg (wsV RX4 114 RX4 yX4_markWord wsX4_markWord) := goodIn_app (goodIn_of _ (by decide +kernel)) ggX4_readLeg_X4_markWord
set_option maxRecDepth 20000 in
theorem ggX4_readLeg_X4_readMark : GoodIn wsX4_readLeg wsX4_readMark := goodIn_r _ [108, 109, 10, 93, 94, 95, 4, 96, 91, 9, 92, 83, 84, 85, 86, 11, 1, 2, 3, 5, 6, 7, 8, 12, 13, 14, 15, 16, 17, 18, 19, 20, 87, 88, 89, 90, 110, 111, 112, 113, 114, 115, 116, 117, 118, 97, 98, 99, 100, 128, 129, 130, 131, 132, 119, 120, 121, 122, 123, 124, 125, 126, 127] (by decide +kernel) (by decide +kernel)
set_option maxRecDepth 20000 in
theorem gX4_readLeg_X4_readMark : GoodIn wsX4_readLeg (wsV RX4 117 RX4 yX4_readMark wsX4_readMark) := goodIn_app (goodIn_of _ (by decide +kernel)) ggX4_readLeg_X4_readMark
set_option maxRecDepth 20000 in
theorem ggX4_readLeg_X4_refuse : GoodIn wsX4_readLeg wsX4_refuse := goodIn_r _ [90, 91, 9, 92, 119, 120, 121, 122, 123, 124, 125, 126, 127] (by decide +kernel) (by decide +kernel)
set_option maxRecDepth 20000 in
theorem gX4_readLeg_X4_refuse : GoodIn wsX4_readLeg (wsV RX4 83 RX4 yX4_refuse wsX4_refuse) := goodIn_app (goodIn_of _ (by decide +kernel)) ggX4_readLeg_X4_refuse
theorem dX4_readLeg_0 : decode cX4_readLeg 0 = .ok (.aload_n 0, 1) := by decide +kernel
theorem dX4_readLeg_1 : decode cX4_readLeg 1 = .ok (.invokevirtual 38, 3) := by decide +kernel
theorem dX4_readLeg_4 : decode cX4_readLeg 4 = .ok (.aload_n 0, 1) := by decide +kernel
theorem dX4_readLeg_5 : decode cX4_readLeg 5 = .ok (.invokevirtual 107, 3) := by decide +kernel
theorem dX4_readLeg_8 : decode cX4_readLeg 8 = .ok (.istore_n 2, 1) := by decide +kernel
theorem dX4_readLeg_9 : decode cX4_readLeg 9 = .ok (.iload_n 2, 1) := by decide +kernel
theorem dX4_readLeg_10 : decode cX4_readLeg 10 = .ok (.iconst (-1), 1) := by decide +kernel
theorem dX4_readLeg_11 : decode cX4_readLeg 11 = .ok (.if_icmp .eq 10, 3) := by decide +kernel
theorem dX4_readLeg_14 : decode cX4_readLeg 14 = .ok (.aload_n 0, 1) := by decide +kernel
theorem dX4_readLeg_15 : decode cX4_readLeg 15 = .ok (.aload_n 1, 1) := by decide +kernel
theorem dX4_readLeg_16 : decode cX4_readLeg 16 = .ok (.iload_n 2, 1) := by decide +kernel
theorem dX4_readLeg_17 : decode cX4_readLeg 17 = .ok (.invokevirtual 110, 3) := by decide +kernel
theorem dX4_readLeg_20 : decode cX4_readLeg 20 = .ok (.ireturn, 1) := by decide +kernel
theorem dX4_readLeg_21 : decode cX4_readLeg 21 = .ok (.aload_n 0, 1) := by decide +kernel
theorem dX4_readLeg_22 : decode cX4_readLeg 22 = .ok (.invokevirtual 114, 3) := by decide +kernel
theorem dX4_readLeg_25 : decode cX4_readLeg 25 = .ok (.istore_n 3, 1) := by decide +kernel
theorem dX4_readLeg_26 : decode cX4_readLeg 26 = .ok (.iload_n 3, 1) := by decide +kernel
theorem dX4_readLeg_27 : decode cX4_readLeg 27 = .ok (.iconst (-1), 1) := by decide +kernel
theorem dX4_readLeg_28 : decode cX4_readLeg 28 = .ok (.if_icmp .eq 10, 3) := by decide +kernel
theorem dX4_readLeg_31 : decode cX4_readLeg 31 = .ok (.aload_n 0, 1) := by decide +kernel
theorem dX4_readLeg_32 : decode cX4_readLeg 32 = .ok (.aload_n 1, 1) := by decide +kernel
theorem dX4_readLeg_33 : decode cX4_readLeg 33 = .ok (.iload_n 3, 1) := by decide +kernel
theorem dX4_readLeg_34 : decode cX4_readLeg 34 = .ok (.invokevirtual 117, 3) := by decide +kernel
theorem dX4_readLeg_37 : decode cX4_readLeg 37 = .ok (.ireturn, 1) := by decide +kernel
theorem dX4_readLeg_38 : decode cX4_readLeg 38 = .ok (.aload_n 0, 1) := by decide +kernel
theorem dX4_readLeg_39 : decode cX4_readLeg 39 = .ok (.invokevirtual 83, 3) := by decide +kernel
theorem dX4_readLeg_42 : decode cX4_readLeg 42 = .ok (.ireturn, 1) := by decide +kernel
abbrev rmX4_readLeg : Room := { frames := 6, cells := 0, slots := 0, locals := 127 }
def vX4_readLeg (D : Nat → Int32) (tx : Nat → Int32) (mk : Int32) (nu : Nat → Int32) (kd : Nat → Int32) (fi : Nat → Int32) (la : Nat → Int32) (Q : Int32 → (Nat → Int32) → (Int32) → (Nat → Int32) → (Nat → Int32) → (Nat → Int32) → (Nat → Int32) → Prop) : Prop := (∃ (b_1 : Nat → Int32) (nb_1 : Nat) (i_1 : Nat), preX4_step b_1 nb_1 i_1 D tx ∧ (∀ (D_1 : Nat → Int32), postX4_step b_1 nb_1 i_1 D tx D_1 → (∃ (b_5 : Nat → Int32) (nb_5 : Nat) (i_5 : Nat), preX4_settingWord b_5 nb_5 i_5 D_1 tx ∧ (∀ r_5 : Int32, postX4_settingWord b_5 nb_5 i_5 D_1 tx r_5 → ((r_5 = (-1 : Int32) → (∃ (b_22 : Nat → Int32) (nb_22 : Nat) (i_22 : Nat), preX4_markWord b_22 nb_22 i_22 D_1 tx ∧ (∀ r_22 : Int32, postX4_markWord b_22 nb_22 i_22 D_1 tx r_22 → ((r_22 = (-1 : Int32) → (preX4_refuse D_1 ∧ (∀ (r_39 : Int32) (D_39 : Nat → Int32), postX4_refuse D_1 r_39 D_39 → (narrow .boolean (.int r_39) = .int r_39 ∧ (Q r_39 D_39 mk nu kd fi la))))) ∧ (¬ r_22 = (-1 : Int32) → (∃ (b_34 : Nat → Int32) (nb_34 : Nat) (i_34 : Nat) (G_34 : Lg) (w_34 : Nat), preX4_readMark b_34 nb_34 i_34 G_34 w_34 D_1 tx mk nu kd fi la r_22 ∧ (∀ (r_34 : Int32) (D_34 : Nat → Int32) (mk_34 : Int32) (kd_34 : Nat → Int32) (fi_34 : Nat → Int32) (la_34 : Nat → Int32), postX4_readMark b_34 nb_34 i_34 G_34 w_34 D_1 tx mk nu kd fi la r_22 r_34 D_34 mk_34 kd_34 fi_34 la_34 → (narrow .boolean (.int r_34) = .int r_34 ∧ (Q r_34 D_34 mk_34 nu kd_34 fi_34 la_34))))))))) ∧ (¬ r_5 = (-1 : Int32) → (∃ (b_17 : Nat → Int32) (nb_17 : Nat) (i_17 : Nat) (G_17 : Lg) (w_17 : Nat), preX4_readSetting b_17 nb_17 i_17 G_17 w_17 D_1 tx mk nu kd fi la r_5 ∧ (∀ (r_17 : Int32) (D_17 : Nat → Int32) (nu_17 : Nat → Int32), postX4_readSetting b_17 nb_17 i_17 G_17 w_17 D_1 tx mk nu kd fi la r_5 r_17 D_17 nu_17 → (narrow .boolean (.int r_17) = .int r_17 ∧ (Q r_17 D_17 mk nu_17 kd fi la))))))))))
set_option maxHeartbeats 4000000 in
set_option maxRecDepth 100000 in
theorem wX4_readLeg (l : Launch) (g : GP) (v : GV) (qd : Nat) (qtr : Nat) (qtx : Nat) (qG : Nat) (qn : Nat) (qk : Nat) (qf : Nat) (qs : Nat) (sz : Nat) (D : Nat → Int32) (tx : Nat → Int32) (mk : Int32) (nu : Nat → Int32) (kd : Nat → Int32) (fi : Nat → Int32) (la : Nat → Int32) {Q : Int32 → (Nat → Int32) → (Int32) → (Nat → Int32) → (Nat → Int32) → (Nat → Int32) → (Nat → Int32) → Prop} (hv : vX4_readLeg D tx mk nu kd fi la Q) : Met l yX4_readLeg wsX4_readLeg rmX4_readLeg (va_Pc [.ref qd, .ref qG] (fun U => U.heap.size = sz ∧ va_P g.1 vwCl [(qd, .inr (4, [.ref qtr, .ref qtx, .int (D 2), .int (D 3), .int (D 4), .int (D 5), .int (D 6), .int (D 7), .int (D 8)])), (qtx, .inl (g.2 1, 500, .inl tx)), (qG, .inr (1, [.ref qn, .ref qk, .ref qf, .ref qs, .int mk])), (qn, .inl (g.2 0, 6, .inl nu)), (qk, .inl (g.2 0, 10, .inl kd)), (qf, .inl (g.2 0, 10, .inl fi)), (qs, .inl (g.2 0, 10, .inl la))] U.heap ∧ GK g U ∧ va_D (fun _ => True) [(qd, .inr (4, [.ref qtr, .ref qtx, .int (D 2), .int (D 3), .int (D 4), .int (D 5), .int (D 6), .int (D 7), .int (D 8)])), (qtx, .inl (g.2 1, 500, .inl tx)), (qG, .inr (1, [.ref qn, .ref qk, .ref qf, .ref qs, .int mk])), (qn, .inl (g.2 0, 6, .inl nu)), (qk, .inl (g.2 0, 10, .inl kd)), (qf, .inl (g.2 0, 10, .inl fi)), (qs, .inl (g.2 0, 10, .inl la))] ∧ GE v (va_A [(qd, .inr (4, [.ref qtr, .ref qtx, .int (D 2), .int (D 3), .int (D 4), .int (D 5), .int (D 6), .int (D 7), .int (D 8)])), (qtx, .inl (g.2 1, 500, .inl tx)), (qG, .inr (1, [.ref qn, .ref qk, .ref qf, .ref qs, .int mk])), (qn, .inl (g.2 0, 6, .inl nu)), (qk, .inl (g.2 0, 10, .inl kd)), (qf, .inl (g.2 0, 10, .inl fi)), (qs, .inl (g.2 0, 10, .inl la))] sz) U U.heap)) (va_Qi (fun (r : Int32) (u : (Nat → Int32) × Int32 × (Nat → Int32) × (Nat → Int32) × (Nat → Int32) × (Nat → Int32)) => Q r u.1 u.2.1 u.2.2.1 u.2.2.2.1 u.2.2.2.2.1 u.2.2.2.2.2) (fun (u : (Nat → Int32) × Int32 × (Nat → Int32) × (Nat → Int32) × (Nat → Int32) × (Nat → Int32)) t => va_P g.1 vwCl [(qd, .inr (4, [.ref qtr, .ref qtx, .int (u.1 2), .int (u.1 3), .int (u.1 4), .int (u.1 5), .int (u.1 6), .int (u.1 7), .int (u.1 8)])), (qtx, .inl (g.2 1, 500, .inl tx)), (qG, .inr (1, [.ref qn, .ref qk, .ref qf, .ref qs, .int u.2.1])), (qn, .inl (g.2 0, 6, .inl u.2.2.1)), (qk, .inl (g.2 0, 10, .inl u.2.2.2.1)), (qf, .inl (g.2 0, 10, .inl u.2.2.2.2.1)), (qs, .inl (g.2 0, 10, .inl u.2.2.2.2.2))] t.heap ∧ va_D (va_A [(qd, .inr (4, [.ref qtr, .ref qtx, .int (D 2), .int (D 3), .int (D 4), .int (D 5), .int (D 6), .int (D 7), .int (D 8)])), (qtx, .inl (g.2 1, 500, .inl tx)), (qG, .inr (1, [.ref qn, .ref qk, .ref qf, .ref qs, .int mk])), (qn, .inl (g.2 0, 6, .inl nu)), (qk, .inl (g.2 0, 10, .inl kd)), (qf, .inl (g.2 0, 10, .inl fi)), (qs, .inl (g.2 0, 10, .inl la))] sz) [(qd, .inr (4, [.ref qtr, .ref qtx, .int (u.1 2), .int (u.1 3), .int (u.1 4), .int (u.1 5), .int (u.1 6), .int (u.1 7), .int (u.1 8)])), (qtx, .inl (g.2 1, 500, .inl tx)), (qG, .inr (1, [.ref qn, .ref qk, .ref qf, .ref qs, .int u.2.1])), (qn, .inl (g.2 0, 6, .inl u.2.2.1)), (qk, .inl (g.2 0, 10, .inl u.2.2.2.1)), (qf, .inl (g.2 0, 10, .inl u.2.2.2.2.1)), (qs, .inl (g.2 0, 10, .inl u.2.2.2.2.2))]) (va_A [(qd, .inr (4, [.ref qtr, .ref qtx, .int (D 2), .int (D 3), .int (D 4), .int (D 5), .int (D 6), .int (D 7), .int (D 8)])), (qtx, .inl (g.2 1, 500, .inl tx)), (qG, .inr (1, [.ref qn, .ref qk, .ref qf, .ref qs, .int mk])), (qn, .inl (g.2 0, 6, .inl nu)), (qk, .inl (g.2 0, 10, .inl kd)), (qf, .inl (g.2 0, 10, .inl fi)), (qs, .inl (g.2 0, 10, .inl la))] sz)) 0 0 (va_A [(qd, .inr (4, [.ref qtr, .ref qtx, .int (D 2), .int (D 3), .int (D 4), .int (D 5), .int (D 6), .int (D 7), .int (D 8)])), (qtx, .inl (g.2 1, 500, .inl tx)), (qG, .inr (1, [.ref qn, .ref qk, .ref qf, .ref qs, .int mk])), (qn, .inl (g.2 0, 6, .inl nu)), (qk, .inl (g.2 0, 10, .inl kd)), (qf, .inl (g.2 0, 10, .inl fi)), (qs, .inl (g.2 0, 10, .inl la))] sz) := by
  refine Met.ofW (cc := cX4_readLeg) (maxL := 4) (ret := (some .boolean)) (by decide) rfl ?_
  intro p e s m args below meth c s₁ B hml hv'
  obtain ⟨rfl, hsz, hP, hG, hD0, hE⟩ := hv'
  have S : CallFix p m c cX4_readLeg 4 s _ wsX4_readLeg RX4 := ⟨B.exec, B.bytes, hml, findClass_of_methodNamed B.named, atoms_spec (ws := wsX4_readLeg) B.pre⟩
  obtain ⟨hx, hb, hml, hown, hts⟩ := id S
  have hK := hG.1
  have hr := B.returns
  have hlocks := B.notSynchronized
  subst hsz
  have hD := hD0.self (sz := s.heap.size)
  generalize hAe : va_A [(qd, .inr (4, [.ref qtr, .ref qtx, .int (D 2), .int (D 3), .int (D 4), .int (D 5), .int (D 6), .int (D 7), .int (D 8)])), (qtx, .inl (g.2 1, 500, .inl tx)), (qG, .inr (1, [.ref qn, .ref qk, .ref qf, .ref qs, .int mk])), (qn, .inl (g.2 0, 6, .inl nu)), (qk, .inl (g.2 0, 10, .inl kd)), (qf, .inl (g.2 0, 10, .inl fi)), (qs, .inl (g.2 0, 10, .inl la))] s.heap.size = A at hD hE ⊢
  have hA : ∀ q : Nat, s.heap.size ≤ q → A q := fun q h => by rw [← hAe]; exact Or.inr h
  have hS : va_S A s.heap s.heap [] := va_S.rf
  clear hD0 hAe
  have hl := lv_entry ([.ref qd, .ref qG]) (n := 4) (Nat.le_of_ble_eq_true rfl)
  rw [lg_entry_eq]
  generalize (lg_sl ([.ref qd, .ref qG]) ++ List.replicate (4 - (lg_sl ([.ref qd, .ref qG])).length) Slot.unset).toArray = ls at hl ⊢
  have hl : lv_has ls 4 [(0, .ref qd), (1, .ref qG)] := hl
  unfold vX4_readLeg at hv
  refine lv_aload_n hx hb dX4_readLeg_0 rfl (lv_at hl 0 rfl) ?_
  obtain ⟨b_1, nb_1, i_1, ho_1, hv⟩ := hv
  have hPc := hP.sub (ws' := [(qd, .inr (4, [.ref qtr, .ref qtx, .int (D 2), .int (D 3), .int (D 4), .int (D 5), .int (D 6), .int (D 7), .int (D 8)])), (qtx, .inl (g.2 1, 500, .inl tx))]) [0, 1] rfl
  have hDc := hD.sub (ws' := [(qd, .inr (4, [.ref qtr, .ref qtx, .int (D 2), .int (D 3), .int (D 4), .int (D 5), .int (D 6), .int (D 7), .int (D 8)])), (qtx, .inl (g.2 1, 500, .inl tx))]) [0, 1] (by decide) rfl
  have hFc := va_free (wc := [(qd, .inr (4, [.ref qtr, .ref qtx, .int (D 2), .int (D 3), .int (D 4), .int (D 5), .int (D 6), .int (D 7), .int (D 8)])), (qtx, .inl (g.2 1, 500, .inl tx))]) hD hS hA [0, 1] rfl
  refine va_callv (va_runV (As := []) (rest := []) S (wX4_step l g qd qtr qtx s.heap.size D tx (sX4_step b_1 nb_1 i_1 D tx ho_1)) (cwV 0 hts gX4_readLeg_X4_step rfl rfl rfl (by decide +kernel) ⟨Nat.le_of_ble_eq_true rfl, Nat.le_of_ble_eq_true rfl⟩) ⟨blindRW, va_recv hK hP (ci := 4) (q0 := 0) rfl rfl, fun U hU hW => ⟨rfl, by rw [hU], by rw [hU]; exact hPc, hG.warm hW, hDc.weaken (fun _ _ _ _ => trivial)⟩⟩ rfl rfl hl.1 rfl (lv_room (Nat.le_of_ble_eq_true rfl)) dX4_readLeg_1 ⟨Nat.le_of_ble_eq_true rfl, Nat.le_of_ble_eq_true rfl⟩) hS (fun q _ h => hFc q h) hFc (fun u t H1 locs ht hvm hw hB hz1 hk1 hS => ?_)
  obtain ⟨D_1, rfl⟩ : ∃ z, z = u := ⟨_, rfl⟩
  obtain ⟨hP1, hD1⟩ := hB
  rw [ht] at hP1
  have hv := hv D_1 hw
  obtain ⟨hP, hD⟩ := va_join (wr := [(qG, .inr (1, [.ref qn, .ref qk, .ref qf, .ref qs, .int mk])), (qn, .inl (g.2 0, 6, .inl nu)), (qk, .inl (g.2 0, 10, .inl kd)), (qf, .inl (g.2 0, 10, .inl fi)), (qs, .inl (g.2 0, 10, .inl la))]) (w1 := [(qd, .inr (4, [.ref qtr, .ref qtx, .int (D_1 2), .int (D_1 3), .int (D_1 4), .int (D_1 5), .int (D_1 6), .int (D_1 7), .int (D_1 8)])), (qtx, .inl (g.2 1, 500, .inl tx))]) hP hD [0, 1] [2, 3, 4, 5, 6] rfl rfl (by decide) (by decide) hk1 hFc hP1 hD1
  clear hP1 hD1 hPc hDc hFc hk1
  generalize H1 = H at hP hS ⊢
  have hP : va_P g.1 vwCl [(qG, .inr (1, [.ref qn, .ref qk, .ref qf, .ref qs, .int mk])), (qn, .inl (g.2 0, 6, .inl nu)), (qk, .inl (g.2 0, 10, .inl kd)), (qf, .inl (g.2 0, 10, .inl fi)), (qs, .inl (g.2 0, 10, .inl la)), (qd, .inr (4, [.ref qtr, .ref qtx, .int (D_1 2), .int (D_1 3), .int (D_1 4), .int (D_1 5), .int (D_1 6), .int (D_1 7), .int (D_1 8)])), (qtx, .inl (g.2 1, 500, .inl tx))] H := hP
  have hD : va_D A [(qG, .inr (1, [.ref qn, .ref qk, .ref qf, .ref qs, .int mk])), (qn, .inl (g.2 0, 6, .inl nu)), (qk, .inl (g.2 0, 10, .inl kd)), (qf, .inl (g.2 0, 10, .inl fi)), (qs, .inl (g.2 0, 10, .inl la)), (qd, .inr (4, [.ref qtr, .ref qtx, .int (D_1 2), .int (D_1 3), .int (D_1 4), .int (D_1 5), .int (D_1 6), .int (D_1 7), .int (D_1 8)])), (qtx, .inl (g.2 1, 500, .inl tx))] := hD
  refine lv_aload_n hx hb dX4_readLeg_4 rfl (lv_at hl 0 rfl) ?_
  obtain ⟨b_5, nb_5, i_5, ho_2, hv⟩ := hv
  refine vp_callSi (W.runV (As := []) (rest := []) S (wX4_settingWord l g v qd qtr qtx D_1 tx (sX4_settingWord b_5 nb_5 i_5 D_1 tx ho_2)) (cwV 0 hts gX4_readLeg_X4_settingWord rfl rfl rfl (by decide +kernel) ⟨Nat.le_of_ble_eq_true rfl, Nat.le_of_ble_eq_true rfl⟩) ⟨blindROE, va_recv hK hP (ci := 4) (q0 := 5) rfl rfl, fun U hU hW => ⟨rfl, by rw [hU]; exact hP.sub (ws' := [(qd, .inr (4, [.ref qtr, .ref qtx, .int (D_1 2), .int (D_1 3), .int (D_1 4), .int (D_1 5), .int (D_1 6), .int (D_1 7), .int (D_1 8)])), (qtx, .inl (g.2 1, 500, .inl tx))]) [5, 6] rfl, hG.warm hW, by rw [hU]; exact ((hE.kept hS.2.1).narrow (fun _ h => h.elim)).warm hW⟩⟩ rfl rfl hl.1 rfl (lv_room (Nat.le_of_ble_eq_true rfl)) dX4_readLeg_5 ⟨Nat.le_of_ble_eq_true rfl, Nat.le_of_ble_eq_true rfl⟩) (fun r_5 hr_5 => ?_)
  have hv := hv r_5 hr_5
  refine lv_istore_n (lv' := [(2, .int r_5), (0, .ref qd), (1, .ref qG)]) hx hb dX4_readLeg_8 rfl hl (by decide) rfl (fun ls hl => ?_)
  refine lv_iload_n hx hb dX4_readLeg_9 rfl (lv_at hl 0 rfl) ?_
  refine lv_iconst (v := (-1 : Int32)) hx hb dX4_readLeg_10 (by decide) ?_
  obtain ⟨hvt, hvf⟩ := hv
  refine lv_icmp_eq (tgt := 21) hx hb dX4_readLeg_11 (by decide) (fun hc => ?_) (fun hc => ?_)
  · have hv := hvt hc
    refine lv_aload_n hx hb dX4_readLeg_21 rfl (lv_at hl 1 rfl) ?_
    obtain ⟨b_22, nb_22, i_22, ho_3, hv⟩ := hv
    refine vp_callSi (W.runV (As := []) (rest := []) S (wX4_markWord l g v qd qtr qtx D_1 tx (sX4_markWord b_22 nb_22 i_22 D_1 tx ho_3)) (cwV 0 hts gX4_readLeg_X4_markWord rfl rfl rfl (by decide +kernel) ⟨Nat.le_of_ble_eq_true rfl, Nat.le_of_ble_eq_true rfl⟩) ⟨blindROE, va_recv hK hP (ci := 4) (q0 := 5) rfl rfl, fun U hU hW => ⟨rfl, by rw [hU]; exact hP.sub (ws' := [(qd, .inr (4, [.ref qtr, .ref qtx, .int (D_1 2), .int (D_1 3), .int (D_1 4), .int (D_1 5), .int (D_1 6), .int (D_1 7), .int (D_1 8)])), (qtx, .inl (g.2 1, 500, .inl tx))]) [5, 6] rfl, hG.warm hW, by rw [hU]; exact ((hE.kept hS.2.1).narrow (fun _ h => h.elim)).warm hW⟩⟩ rfl rfl hl.1 rfl (lv_room (Nat.le_of_ble_eq_true rfl)) dX4_readLeg_22 ⟨Nat.le_of_ble_eq_true rfl, Nat.le_of_ble_eq_true rfl⟩) (fun r_22 hr_22 => ?_)
    have hv := hv r_22 hr_22
    refine lv_istore_n (lv' := [(3, .int r_22), (2, .int r_5), (0, .ref qd), (1, .ref qG)]) hx hb dX4_readLeg_25 rfl hl (by decide) rfl (fun ls hl => ?_)
    refine lv_iload_n hx hb dX4_readLeg_26 rfl (lv_at hl 0 rfl) ?_
    refine lv_iconst (v := (-1 : Int32)) hx hb dX4_readLeg_27 (by decide) ?_
    obtain ⟨hvt, hvf⟩ := hv
    refine lv_icmp_eq (tgt := 38) hx hb dX4_readLeg_28 (by decide) (fun hc => ?_) (fun hc => ?_)
    · have hv := hvt hc
      refine lv_aload_n hx hb dX4_readLeg_38 rfl (lv_at hl 2 rfl) ?_
      obtain ⟨ho_4, hv⟩ := hv
      have hPc := hP.sub (ws' := [(qd, .inr (4, [.ref qtr, .ref qtx, .int (D_1 2), .int (D_1 3), .int (D_1 4), .int (D_1 5), .int (D_1 6), .int (D_1 7), .int (D_1 8)]))]) [5] rfl
      have hDc := hD.sub (ws' := [(qd, .inr (4, [.ref qtr, .ref qtx, .int (D_1 2), .int (D_1 3), .int (D_1 4), .int (D_1 5), .int (D_1 6), .int (D_1 7), .int (D_1 8)]))]) [5] (by decide) rfl
      have hFc := va_free (wc := [(qd, .inr (4, [.ref qtr, .ref qtx, .int (D_1 2), .int (D_1 3), .int (D_1 4), .int (D_1 5), .int (D_1 6), .int (D_1 7), .int (D_1 8)]))]) hD hS hA [5] rfl
      refine va_calli (va_runV (As := []) (rest := []) S (wX4_refuse l g qd qtr qtx H.size D_1 (sX4_refuse D_1 ho_4)) (cwV 0 hts gX4_readLeg_X4_refuse rfl rfl rfl (by decide +kernel) ⟨Nat.le_of_ble_eq_true rfl, Nat.le_of_ble_eq_true rfl⟩) ⟨blindRW, va_recv hK hP (ci := 4) (q0 := 5) rfl rfl, fun U hU hW => ⟨rfl, by rw [hU], by rw [hU]; exact hPc, hG.warm hW, hDc.weaken (fun _ _ _ _ => trivial)⟩⟩ rfl rfl hl.1 rfl (lv_room (Nat.le_of_ble_eq_true rfl)) dX4_readLeg_39 ⟨Nat.le_of_ble_eq_true rfl, Nat.le_of_ble_eq_true rfl⟩) hS (fun q _ h => hFc q h) hFc (fun r_39 u t H1 locs ht hvm hw hB hz1 hk1 hS => ?_)
      obtain ⟨D_39, rfl⟩ : ∃ z, z = u := ⟨_, rfl⟩
      obtain ⟨hP1, hD1⟩ := hB
      rw [ht] at hP1
      have hv := hv r_39 D_39 hw
      obtain ⟨hP, hD⟩ := va_join (wr := [(qG, .inr (1, [.ref qn, .ref qk, .ref qf, .ref qs, .int mk])), (qn, .inl (g.2 0, 6, .inl nu)), (qk, .inl (g.2 0, 10, .inl kd)), (qf, .inl (g.2 0, 10, .inl fi)), (qs, .inl (g.2 0, 10, .inl la)), (qtx, .inl (g.2 1, 500, .inl tx))]) (w1 := [(qd, .inr (4, [.ref qtr, .ref qtx, .int (D_39 2), .int (D_39 3), .int (D_39 4), .int (D_39 5), .int (D_39 6), .int (D_39 7), .int (D_39 8)]))]) hP hD [5] [0, 1, 2, 3, 4, 6] rfl rfl (by decide) (by decide) hk1 hFc hP1 hD1
      clear hP1 hD1 hPc hDc hFc hk1
      generalize H1 = H at hP hS ⊢
      have hP : va_P g.1 vwCl [(qG, .inr (1, [.ref qn, .ref qk, .ref qf, .ref qs, .int mk])), (qn, .inl (g.2 0, 6, .inl nu)), (qk, .inl (g.2 0, 10, .inl kd)), (qf, .inl (g.2 0, 10, .inl fi)), (qs, .inl (g.2 0, 10, .inl la)), (qtx, .inl (g.2 1, 500, .inl tx)), (qd, .inr (4, [.ref qtr, .ref qtx, .int (D_39 2), .int (D_39 3), .int (D_39 4), .int (D_39 5), .int (D_39 6), .int (D_39 7), .int (D_39 8)]))] H := hP
      have hD : va_D A [(qG, .inr (1, [.ref qn, .ref qk, .ref qf, .ref qs, .int mk])), (qn, .inl (g.2 0, 6, .inl nu)), (qk, .inl (g.2 0, 10, .inl kd)), (qf, .inl (g.2 0, 10, .inl fi)), (qs, .inl (g.2 0, 10, .inl la)), (qtx, .inl (g.2 1, 500, .inl tx)), (qd, .inr (4, [.ref qtr, .ref qtx, .int (D_39 2), .int (D_39 3), .int (D_39 4), .int (D_39 5), .int (D_39 6), .int (D_39 7), .int (D_39 8)]))] := hD
      have hP9 := hP.sub (ws' := [(qd, .inr (4, [.ref qtr, .ref qtx, .int (D_39 2), .int (D_39 3), .int (D_39 4), .int (D_39 5), .int (D_39 6), .int (D_39 7), .int (D_39 8)])), (qtx, .inl (g.2 1, 500, .inl tx)), (qG, .inr (1, [.ref qn, .ref qk, .ref qf, .ref qs, .int mk])), (qn, .inl (g.2 0, 6, .inl nu)), (qk, .inl (g.2 0, 10, .inl kd)), (qf, .inl (g.2 0, 10, .inl fi)), (qs, .inl (g.2 0, 10, .inl la))]) [6, 5, 0, 1, 2, 3, 4] rfl
      have hD9 := hD.sub (ws' := [(qd, .inr (4, [.ref qtr, .ref qtx, .int (D_39 2), .int (D_39 3), .int (D_39 4), .int (D_39 5), .int (D_39 6), .int (D_39 7), .int (D_39 8)])), (qtx, .inl (g.2 1, 500, .inl tx)), (qG, .inr (1, [.ref qn, .ref qk, .ref qf, .ref qs, .int mk])), (qn, .inl (g.2 0, 6, .inl nu)), (qk, .inl (g.2 0, 10, .inl kd)), (qf, .inl (g.2 0, 10, .inl fi)), (qs, .inl (g.2 0, 10, .inl la))]) [6, 5, 0, 1, 2, 3, 4] (by decide) rfl
      obtain ⟨hn, hv⟩ := hv
      exact W.zret (v := r_39) (ty := .boolean) hx hb hr hn (fun t ht hW => ⟨⟨_, (D_39, mk, nu, kd, fi, la), rfl, hv, by rw [ht]; exact hP9, hD9⟩, hS.F ht⟩) hS.2.2 dX4_readLeg_42
    · have hv := hvf hc
      refine lv_aload_n hx hb dX4_readLeg_31 rfl (lv_at hl 2 rfl) ?_
      refine lv_aload_n hx hb dX4_readLeg_32 rfl (lv_at hl 3 rfl) ?_
      refine lv_iload_n hx hb dX4_readLeg_33 rfl (lv_at hl 0 rfl) ?_
      obtain ⟨b_34, nb_34, i_34, G_34, w_34, ho_5, hv⟩ := hv
      have hPc := hP.sub (ws' := [(qd, .inr (4, [.ref qtr, .ref qtx, .int (D_1 2), .int (D_1 3), .int (D_1 4), .int (D_1 5), .int (D_1 6), .int (D_1 7), .int (D_1 8)])), (qtx, .inl (g.2 1, 500, .inl tx)), (qG, .inr (1, [.ref qn, .ref qk, .ref qf, .ref qs, .int mk])), (qn, .inl (g.2 0, 6, .inl nu)), (qk, .inl (g.2 0, 10, .inl kd)), (qf, .inl (g.2 0, 10, .inl fi)), (qs, .inl (g.2 0, 10, .inl la))]) [5, 6, 0, 1, 2, 3, 4] rfl
      have hDc := hD.sub (ws' := [(qd, .inr (4, [.ref qtr, .ref qtx, .int (D_1 2), .int (D_1 3), .int (D_1 4), .int (D_1 5), .int (D_1 6), .int (D_1 7), .int (D_1 8)])), (qtx, .inl (g.2 1, 500, .inl tx)), (qG, .inr (1, [.ref qn, .ref qk, .ref qf, .ref qs, .int mk])), (qn, .inl (g.2 0, 6, .inl nu)), (qk, .inl (g.2 0, 10, .inl kd)), (qf, .inl (g.2 0, 10, .inl fi)), (qs, .inl (g.2 0, 10, .inl la))]) [5, 6, 0, 1, 2, 3, 4] (by decide) rfl
      have hFc := va_free (wc := [(qd, .inr (4, [.ref qtr, .ref qtx, .int (D_1 2), .int (D_1 3), .int (D_1 4), .int (D_1 5), .int (D_1 6), .int (D_1 7), .int (D_1 8)])), (qtx, .inl (g.2 1, 500, .inl tx)), (qG, .inr (1, [.ref qn, .ref qk, .ref qf, .ref qs, .int mk])), (qn, .inl (g.2 0, 6, .inl nu)), (qk, .inl (g.2 0, 10, .inl kd)), (qf, .inl (g.2 0, 10, .inl fi)), (qs, .inl (g.2 0, 10, .inl la))]) hD hS hA [5, 6, 0, 1, 2, 3, 4] rfl
      refine va_calli (va_runV (As := [.ref qG, .int r_22]) (rest := []) S (wX4_readMark l g qd qtr qtx qG qn qk qf qs H.size D_1 tx mk nu kd fi la r_22 (sX4_readMark b_34 nb_34 i_34 G_34 w_34 D_1 tx mk nu kd fi la r_22 ho_5)) (cwV 2 hts gX4_readLeg_X4_readMark rfl rfl rfl (by decide +kernel) ⟨Nat.le_of_ble_eq_true rfl, Nat.le_of_ble_eq_true rfl⟩) ⟨blindRW, va_recv hK hP (ci := 4) (q0 := 5) rfl rfl, fun U hU hW => ⟨rfl, by rw [hU], by rw [hU]; exact hPc, hG.warm hW, hDc.weaken (fun _ _ _ _ => trivial)⟩⟩ rfl rfl hl.1 rfl (lv_room (Nat.le_of_ble_eq_true rfl)) dX4_readLeg_34 ⟨Nat.le_of_ble_eq_true rfl, Nat.le_of_ble_eq_true rfl⟩) hS (fun q _ h => hFc q h) hFc (fun r_34 u t H1 locs ht hvm hw hB hz1 hk1 hS => ?_)
      obtain ⟨D_34, mk_34, kd_34, fi_34, la_34⟩ := u
      obtain ⟨hP1, hD1⟩ := hB
      rw [ht] at hP1
      have hv := hv r_34 D_34 mk_34 kd_34 fi_34 la_34 hw
      obtain ⟨hP, hD⟩ := va_join (wr := []) (w1 := [(qd, .inr (4, [.ref qtr, .ref qtx, .int (D_34 2), .int (D_34 3), .int (D_34 4), .int (D_34 5), .int (D_34 6), .int (D_34 7), .int (D_34 8)])), (qtx, .inl (g.2 1, 500, .inl tx)), (qG, .inr (1, [.ref qn, .ref qk, .ref qf, .ref qs, .int mk_34])), (qn, .inl (g.2 0, 6, .inl nu)), (qk, .inl (g.2 0, 10, .inl kd_34)), (qf, .inl (g.2 0, 10, .inl fi_34)), (qs, .inl (g.2 0, 10, .inl la_34))]) hP hD [5, 6, 0, 1, 2, 3, 4] [] rfl rfl (by decide) (by decide) hk1 hFc hP1 hD1
      clear hP1 hD1 hPc hDc hFc hk1
      generalize H1 = H at hP hS ⊢
      have hP : va_P g.1 vwCl [(qd, .inr (4, [.ref qtr, .ref qtx, .int (D_34 2), .int (D_34 3), .int (D_34 4), .int (D_34 5), .int (D_34 6), .int (D_34 7), .int (D_34 8)])), (qtx, .inl (g.2 1, 500, .inl tx)), (qG, .inr (1, [.ref qn, .ref qk, .ref qf, .ref qs, .int mk_34])), (qn, .inl (g.2 0, 6, .inl nu)), (qk, .inl (g.2 0, 10, .inl kd_34)), (qf, .inl (g.2 0, 10, .inl fi_34)), (qs, .inl (g.2 0, 10, .inl la_34))] H := hP
      have hD : va_D A [(qd, .inr (4, [.ref qtr, .ref qtx, .int (D_34 2), .int (D_34 3), .int (D_34 4), .int (D_34 5), .int (D_34 6), .int (D_34 7), .int (D_34 8)])), (qtx, .inl (g.2 1, 500, .inl tx)), (qG, .inr (1, [.ref qn, .ref qk, .ref qf, .ref qs, .int mk_34])), (qn, .inl (g.2 0, 6, .inl nu)), (qk, .inl (g.2 0, 10, .inl kd_34)), (qf, .inl (g.2 0, 10, .inl fi_34)), (qs, .inl (g.2 0, 10, .inl la_34))] := hD
      have hP9 := hP.sub (ws' := [(qd, .inr (4, [.ref qtr, .ref qtx, .int (D_34 2), .int (D_34 3), .int (D_34 4), .int (D_34 5), .int (D_34 6), .int (D_34 7), .int (D_34 8)])), (qtx, .inl (g.2 1, 500, .inl tx)), (qG, .inr (1, [.ref qn, .ref qk, .ref qf, .ref qs, .int mk_34])), (qn, .inl (g.2 0, 6, .inl nu)), (qk, .inl (g.2 0, 10, .inl kd_34)), (qf, .inl (g.2 0, 10, .inl fi_34)), (qs, .inl (g.2 0, 10, .inl la_34))]) [0, 1, 2, 3, 4, 5, 6] rfl
      have hD9 := hD.sub (ws' := [(qd, .inr (4, [.ref qtr, .ref qtx, .int (D_34 2), .int (D_34 3), .int (D_34 4), .int (D_34 5), .int (D_34 6), .int (D_34 7), .int (D_34 8)])), (qtx, .inl (g.2 1, 500, .inl tx)), (qG, .inr (1, [.ref qn, .ref qk, .ref qf, .ref qs, .int mk_34])), (qn, .inl (g.2 0, 6, .inl nu)), (qk, .inl (g.2 0, 10, .inl kd_34)), (qf, .inl (g.2 0, 10, .inl fi_34)), (qs, .inl (g.2 0, 10, .inl la_34))]) [0, 1, 2, 3, 4, 5, 6] (by decide) rfl
      obtain ⟨hn, hv⟩ := hv
      exact W.zret (v := r_34) (ty := .boolean) hx hb hr hn (fun t ht hW => ⟨⟨_, (D_34, mk_34, nu, kd_34, fi_34, la_34), rfl, hv, by rw [ht]; exact hP9, hD9⟩, hS.F ht⟩) hS.2.2 dX4_readLeg_37
  · have hv := hvf hc
    refine lv_aload_n hx hb dX4_readLeg_14 rfl (lv_at hl 1 rfl) ?_
    refine lv_aload_n hx hb dX4_readLeg_15 rfl (lv_at hl 2 rfl) ?_
    refine lv_iload_n hx hb dX4_readLeg_16 rfl (lv_at hl 0 rfl) ?_
    obtain ⟨b_17, nb_17, i_17, G_17, w_17, ho_6, hv⟩ := hv
    have hPc := hP.sub (ws' := [(qd, .inr (4, [.ref qtr, .ref qtx, .int (D_1 2), .int (D_1 3), .int (D_1 4), .int (D_1 5), .int (D_1 6), .int (D_1 7), .int (D_1 8)])), (qtx, .inl (g.2 1, 500, .inl tx)), (qG, .inr (1, [.ref qn, .ref qk, .ref qf, .ref qs, .int mk])), (qn, .inl (g.2 0, 6, .inl nu)), (qk, .inl (g.2 0, 10, .inl kd)), (qf, .inl (g.2 0, 10, .inl fi)), (qs, .inl (g.2 0, 10, .inl la))]) [5, 6, 0, 1, 2, 3, 4] rfl
    have hDc := hD.sub (ws' := [(qd, .inr (4, [.ref qtr, .ref qtx, .int (D_1 2), .int (D_1 3), .int (D_1 4), .int (D_1 5), .int (D_1 6), .int (D_1 7), .int (D_1 8)])), (qtx, .inl (g.2 1, 500, .inl tx)), (qG, .inr (1, [.ref qn, .ref qk, .ref qf, .ref qs, .int mk])), (qn, .inl (g.2 0, 6, .inl nu)), (qk, .inl (g.2 0, 10, .inl kd)), (qf, .inl (g.2 0, 10, .inl fi)), (qs, .inl (g.2 0, 10, .inl la))]) [5, 6, 0, 1, 2, 3, 4] (by decide) rfl
    have hFc := va_free (wc := [(qd, .inr (4, [.ref qtr, .ref qtx, .int (D_1 2), .int (D_1 3), .int (D_1 4), .int (D_1 5), .int (D_1 6), .int (D_1 7), .int (D_1 8)])), (qtx, .inl (g.2 1, 500, .inl tx)), (qG, .inr (1, [.ref qn, .ref qk, .ref qf, .ref qs, .int mk])), (qn, .inl (g.2 0, 6, .inl nu)), (qk, .inl (g.2 0, 10, .inl kd)), (qf, .inl (g.2 0, 10, .inl fi)), (qs, .inl (g.2 0, 10, .inl la))]) hD hS hA [5, 6, 0, 1, 2, 3, 4] rfl
    refine va_calli (va_runV (As := [.ref qG, .int r_5]) (rest := []) S (wX4_readSetting l g v qd qtr qtx qG qn qk qf qs H.size D_1 tx mk nu kd fi la r_5 (sX4_readSetting b_17 nb_17 i_17 G_17 w_17 D_1 tx mk nu kd fi la r_5 ho_6)) (cwV 2 hts gX4_readLeg_X4_readSetting rfl rfl rfl (by decide +kernel) ⟨Nat.le_of_ble_eq_true rfl, Nat.le_of_ble_eq_true rfl⟩) ⟨blindRWE, va_recv hK hP (ci := 4) (q0 := 5) rfl rfl, fun U hU hW => ⟨rfl, by rw [hU], by rw [hU]; exact hPc, hG.warm hW, hDc.weaken (fun _ _ _ _ => trivial), by rw [hU]; exact ((hE.kept hS.2.1).narrow hFc).warm hW⟩⟩ rfl rfl hl.1 rfl (lv_room (Nat.le_of_ble_eq_true rfl)) dX4_readLeg_17 ⟨Nat.le_of_ble_eq_true rfl, Nat.le_of_ble_eq_true rfl⟩) hS (fun q _ h => hFc q h) hFc (fun r_17 u t H1 locs ht hvm hw hB hz1 hk1 hS => ?_)
    obtain ⟨D_17, nu_17⟩ := u
    obtain ⟨hP1, hD1⟩ := hB
    rw [ht] at hP1
    have hv := hv r_17 D_17 nu_17 hw
    obtain ⟨hP, hD⟩ := va_join (wr := []) (w1 := [(qd, .inr (4, [.ref qtr, .ref qtx, .int (D_17 2), .int (D_17 3), .int (D_17 4), .int (D_17 5), .int (D_17 6), .int (D_17 7), .int (D_17 8)])), (qtx, .inl (g.2 1, 500, .inl tx)), (qG, .inr (1, [.ref qn, .ref qk, .ref qf, .ref qs, .int mk])), (qn, .inl (g.2 0, 6, .inl nu_17)), (qk, .inl (g.2 0, 10, .inl kd)), (qf, .inl (g.2 0, 10, .inl fi)), (qs, .inl (g.2 0, 10, .inl la))]) hP hD [5, 6, 0, 1, 2, 3, 4] [] rfl rfl (by decide) (by decide) hk1 hFc hP1 hD1
    clear hP1 hD1 hPc hDc hFc hk1
    generalize H1 = H at hP hS ⊢
    have hP : va_P g.1 vwCl [(qd, .inr (4, [.ref qtr, .ref qtx, .int (D_17 2), .int (D_17 3), .int (D_17 4), .int (D_17 5), .int (D_17 6), .int (D_17 7), .int (D_17 8)])), (qtx, .inl (g.2 1, 500, .inl tx)), (qG, .inr (1, [.ref qn, .ref qk, .ref qf, .ref qs, .int mk])), (qn, .inl (g.2 0, 6, .inl nu_17)), (qk, .inl (g.2 0, 10, .inl kd)), (qf, .inl (g.2 0, 10, .inl fi)), (qs, .inl (g.2 0, 10, .inl la))] H := hP
    have hD : va_D A [(qd, .inr (4, [.ref qtr, .ref qtx, .int (D_17 2), .int (D_17 3), .int (D_17 4), .int (D_17 5), .int (D_17 6), .int (D_17 7), .int (D_17 8)])), (qtx, .inl (g.2 1, 500, .inl tx)), (qG, .inr (1, [.ref qn, .ref qk, .ref qf, .ref qs, .int mk])), (qn, .inl (g.2 0, 6, .inl nu_17)), (qk, .inl (g.2 0, 10, .inl kd)), (qf, .inl (g.2 0, 10, .inl fi)), (qs, .inl (g.2 0, 10, .inl la))] := hD
    have hP9 := hP.sub (ws' := [(qd, .inr (4, [.ref qtr, .ref qtx, .int (D_17 2), .int (D_17 3), .int (D_17 4), .int (D_17 5), .int (D_17 6), .int (D_17 7), .int (D_17 8)])), (qtx, .inl (g.2 1, 500, .inl tx)), (qG, .inr (1, [.ref qn, .ref qk, .ref qf, .ref qs, .int mk])), (qn, .inl (g.2 0, 6, .inl nu_17)), (qk, .inl (g.2 0, 10, .inl kd)), (qf, .inl (g.2 0, 10, .inl fi)), (qs, .inl (g.2 0, 10, .inl la))]) [0, 1, 2, 3, 4, 5, 6] rfl
    have hD9 := hD.sub (ws' := [(qd, .inr (4, [.ref qtr, .ref qtx, .int (D_17 2), .int (D_17 3), .int (D_17 4), .int (D_17 5), .int (D_17 6), .int (D_17 7), .int (D_17 8)])), (qtx, .inl (g.2 1, 500, .inl tx)), (qG, .inr (1, [.ref qn, .ref qk, .ref qf, .ref qs, .int mk])), (qn, .inl (g.2 0, 6, .inl nu_17)), (qk, .inl (g.2 0, 10, .inl kd)), (qf, .inl (g.2 0, 10, .inl fi)), (qs, .inl (g.2 0, 10, .inl la))]) [0, 1, 2, 3, 4, 5, 6] (by decide) rfl
    obtain ⟨hn, hv⟩ := hv
    exact W.zret (v := r_17) (ty := .boolean) hx hb hr hn (fun t ht hW => ⟨⟨_, (D_17, mk, nu_17, kd, fi, la), rfl, hv, by rw [ht]; exact hP9, hD9⟩, hS.F ht⟩) hS.2.2 dX4_readLeg_20
abbrev preX4_readLeg (b : Nat → Int32) (nb : Nat) (i : Nat) (G : Lg) (D : Nat → Int32) (tx : Nat → Int32) (mk : Int32) (nu : Nat → Int32) (kd : Nat → Int32) (fi : Nat → Int32) (la : Nat → Int32) : Prop := preX4_step b nb i D tx ∧ rdG G (fl D) mk nu kd fi la
abbrev postX4_readLeg (b : Nat → Int32) (nb : Nat) (i : Nat) (G : Lg) (D : Nat → Int32) (tx : Nat → Int32) (mk : Int32) (nu : Nat → Int32) (kd : Nat → Int32) (fi : Nat → Int32) (la : Nat → Int32) (r : Int32) (D' : Nat → Int32) (mk' : Int32) (nu' : Nat → Int32) (kd' : Nat → Int32) (fi' : Nat → Int32) (la' : Nat → Int32) : Prop := rdA nb (sgnS b nb (legS b nb i G (fl D))) r D' ∧ rdG (legG b nb i G) (sgnS b nb (legS b nb i G (fl D))).2.2 mk' nu' kd' fi' la'
theorem rfS_n {b : Nat → Int32} {nb s : Nat} : (sgnS b nb (rfS s)) = rfS s := by unfold sgnS; rw [if_neg (by show ¬ (false = true); decide)]
theorem sX4_readLeg (b : Nat → Int32) (nb : Nat) (i : Nat) (G : Lg) (D : Nat → Int32) (tx : Nat → Int32) (mk : Int32) (nu : Nat → Int32) (kd : Nat → Int32) (fi : Nat → Int32) (la : Nat → Int32) (H : preX4_readLeg b nb i G D tx mk nu kd fi la) : vX4_readLeg D tx mk nu kd fi la (postX4_readLeg b nb i G D tx mk nu kd fi la) := by
  obtain ⟨hs, hg⟩ := H
  refine ⟨b, nb, i, hs, fun D1 h1 => ?_⟩
  obtain ⟨hr, hk⟩ := h1
  have hf := fl_kp hk
  refine ⟨b, nb, i, ⟨hr, hs.2.2.2.2⟩, fun r2 h2 => ?_⟩
  have h2 : r2.toInt = seI (wI b nb i) := h2
  rw [fa_eq r2, zm1, h2, seI_m]
  unfold postX4_readLeg legS legG
  refine ⟨fun c => ⟨b, nb, i, ⟨hr, hs.2.2.2.2⟩, fun r3 h3 => ?_⟩, fun c => ?_⟩
  · have h3 : r3.toInt = mkI (wI b nb i) := h3
    rw [fa_eq r3, zm1, h3, mkI_m, if_neg c, if_neg c]
    refine ⟨fun d => ⟨trivial, fun r4 D4 h4 => ?_⟩, fun d => ?_⟩
    · obtain ⟨e1, e2⟩ := h4
      subst e1
      rw [if_neg d]
      refine ⟨rfl, rdA_no rfl (by rw [e2, hr.2.2.2.1]; rfl), fun z => ?_, hg.2⟩
      rw [rfS_n] at z
      exact absurd z (by show (1 : Int) ≠ 0; decide)
    · have d := Decidable.not_not.mp d
      rw [if_pos d]
      refine ⟨b, nb, tE b nb i, G, wI b nb i, ⟨rdK_st hr hs.2.2.2.2, by rw [hr.2.2.2.1]; omega, by rw [hf]; exact hg, d.1, d.2, by rw [h3, mkI_e d]⟩, fun r4 D4 mk4 kd4 fi4 la4 h4 => ⟨nar_if h4.1.1, ?_⟩⟩
      have h4 : rdA nb (sgnS b nb (mkS b nb (tE b nb i) (D1 6).toInt.toNat (wI b nb i) (gm G) (fl D1))) r4 D4 ∧ rdG (mkG b nb (tE b nb i) (wI b nb i) G) (sgnS b nb (mkS b nb (tE b nb i) (D1 6).toInt.toNat (wI b nb i) (gm G) (fl D1))).2.2 mk4 nu kd4 fi4 la4 := h4
      rw [hf, hr.2.2.2.1] at h4
      exact h4
  · have c := Decidable.not_not.mp c
    rw [if_pos c, if_pos c]
    refine ⟨b, nb, tE b nb i, G, wI b nb i, ⟨rdK_st hr hs.2.2.2.2, by rw [hf]; exact hg, c.1, c.2, h2⟩, fun r4 D4 nu4 h4 => ⟨nar_if h4.1.1, ?_⟩⟩
    have h4 : rdA nb (sgnS b nb (numS b nb (tE b nb i) (stL (wI b nb i)) (stM (wI b nb i)) (fl D1))) r4 D4 ∧ rdG (stG b nb (tE b nb i) (wI b nb i) G) (sgnS b nb (numS b nb (tE b nb i) (stL (wI b nb i)) (stM (wI b nb i)) (fl D1))).2.2 mk nu4 kd fi la := h4
    rw [hf] at h4
    exact h4
