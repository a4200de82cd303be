set_option maxRecDepth 20000 in
theorem ggX4_readPart_X4_note : GoodIn wsX4_readPart wsX4_note := goodIn_r _ [10, 11, 4, 12, 58, 59, 60, 61, 62, 63, 64, 65, 66] (by decide +kernel) (by decide +kernel)
set_option maxRecDepth 20000 in
theorem gX4_readPart_X4_note : GoodIn wsX4_readPart (wsV RX4 89 RX4 yX4_note wsX4_note) := goodIn_app (goodIn_of _ (by decide +kernel)) ggX4_readPart_X4_note
set_option maxRecDepth 20000 in
theorem ggX4_readPart_X4_step : GoodIn wsX4_readPart wsX4_step := goodIn_r _ [16, 3, 17, 18, 4, 5, 19, 20, 21, 9, 22, 23, 24, 25, 26, 27, 28, 58, 59, 60, 61, 62, 63, 64, 65, 66] (by decide +kernel) (by decide +kernel)
set_option maxRecDepth 20000 in
theorem gX4_readPart_X4_step : GoodIn wsX4_readPart (wsV RX4 38 RX4 yX4_step wsX4_step) := goodIn_app (goodIn_of _ (by decide +kernel)) ggX4_readPart_X4_step
set_option maxRecDepth 20000 in
theorem ggX4_readPart_X4_isRow : GoodIn wsX4_readPart wsX4_isRow := goodIn_r _ [32, 19, 3, 4, 18, 58, 59, 60, 61, 62, 63, 64, 65, 66] (by decide +kernel) (by decide +kernel)
set_option maxRecDepth 20000 in
theorem gX4_readPart_X4_isRow : GoodIn wsX4_readPart (wsV RX4 93 RX4 yX4_isRow wsX4_isRow) := goodIn_app (goodIn_of _ (by decide +kernel)) ggX4_readPart_X4_isRow
set_option maxRecDepth 20000 in
theorem ggX4_readPart_X4_refuse : GoodIn wsX4_readPart wsX4_refuse := goodIn_r _ [36, 11, 4, 12, 58, 59, 60, 61, 62, 63, 64, 65, 66] (by decide +kernel) (by decide +kernel)
set_option maxRecDepth 20000 in
theorem gX4_readPart_X4_refuse : GoodIn wsX4_readPart (wsV RX4 83 RX4 yX4_refuse wsX4_refuse) := goodIn_app (goodIn_of _ (by decide +kernel)) ggX4_readPart_X4_refuse
set_option maxRecDepth 20000 in
theorem ggX4_readPart_X4_rowBits : GoodIn wsX4_readPart wsX4_rowBits := goodIn_r _ [40, 4, 3, 18, 58, 59, 60, 61, 62, 63, 64, 65, 66] (by decide +kernel) (by decide +kernel)
set_option maxRecDepth 20000 in
theorem gX4_readPart_X4_rowBits : GoodIn wsX4_readPart (wsV RX4 96 RX4 yX4_rowBits wsX4_rowBits) := goodIn_app (goodIn_of _ (by decide +kernel)) ggX4_readPart_X4_rowBits
set_option maxRecDepth 20000 in
theorem ggX4_readPart_X4_readNumber : GoodIn wsX4_readPart wsX4_readNumber := goodIn_r _ [44, 19, 5, 13, 14, 15, 9, 16, 3, 17, 18, 4, 20, 21, 22, 23, 24, 25, 26, 27, 28, 33, 34, 35, 36, 11, 12, 6, 7, 8, 10, 58, 59, 60, 61, 62, 63, 64, 65, 66] (by decide +kernel) (by decide +kernel)
set_option maxRecDepth 20000 in
theorem gX4_readPart_X4_readNumber : GoodIn wsX4_readPart (wsV RX4 59 RX4 yX4_readNumber wsX4_readNumber) := goodIn_app (goodIn_of _ (by decide +kernel)) ggX4_readPart_X4_readNumber
set_option maxRecDepth 20000 in
theorem ggX4_readPart_X7_addPart : GoodIn wsX4_readPart wsX7_addPart := goodIn_r _ [49, 50, 51, 52, 53, 67, 68, 69, 70, 71, 72] (by decide +kernel) (by decide +kernel)
set_option maxRecDepth 20000 in
theorem gX4_readPart_X7_addPart : GoodIn wsX4_readPart (wsV RX4 103 RX7 yX7_addPart wsX7_addPart) := goodIn_app (goodIn_of _ (by decide +kernel)) ggX4_readPart_X7_addPart
set_option maxRecDepth 20000 in
theorem ggX4_readPart_X4_readSign : GoodIn wsX4_readPart wsX4_readSign := goodIn_r _ [57, 19, 13, 14, 15, 9, 16, 3, 17, 18, 4, 5, 20, 21, 22, 23, 24, 25, 26, 27, 28, 33, 34, 35, 36, 11, 12, 58, 59, 60, 61, 62, 63, 64, 65, 66] (by decide +kernel) (by decide +kernel)
set_option maxRecDepth 20000 in
theorem gX4_readPart_X4_readSign : GoodIn wsX4_readPart (wsV RX4 68 RX4 yX4_readSign wsX4_readSign) := goodIn_app (goodIn_of _ (by decide +kernel)) ggX4_readPart_X4_readSign
theorem dX4_readPart_0 : decode cX4_readPart 0 = .ok (.aload_n 0, 1) := by decide +kernel
theorem dX4_readPart_1 : decode cX4_readPart 1 = .ok (.getfield 12, 3) := by decide +kernel
theorem dX4_readPart_4 : decode cX4_readPart 4 = .ok (.getfield 86, 3) := by decide +kernel
theorem dX4_readPart_7 : decode cX4_readPart 7 = .ok (.iconst 5, 1) := by decide +kernel
theorem dX4_readPart_8 : decode cX4_readPart 8 = .ok (.if_icmp .lt 8, 3) := by decide +kernel
theorem dX4_readPart_11 : decode cX4_readPart 11 = .ok (.aload_n 0, 1) := by decide +kernel
theorem dX4_readPart_12 : decode cX4_readPart 12 = .ok (.iconst 3, 1) := by decide +kernel
theorem dX4_readPart_13 : decode cX4_readPart 13 = .ok (.invokevirtual 89, 3) := by decide +kernel
theorem dX4_readPart_16 : decode cX4_readPart 16 = .ok (.aload_n 0, 1) := by decide +kernel
theorem dX4_readPart_17 : decode cX4_readPart 17 = .ok (.invokevirtual 38, 3) := by decide +kernel
theorem dX4_readPart_20 : decode cX4_readPart 20 = .ok (.aload_n 0, 1) := by decide +kernel
theorem dX4_readPart_21 : decode cX4_readPart 21 = .ok (.invokevirtual 93, 3) := by decide +kernel
theorem dX4_readPart_24 : decode cX4_readPart 24 = .ok (.ifCond .ne 8, 3) := by decide +kernel
theorem dX4_readPart_27 : decode cX4_readPart 27 = .ok (.aload_n 0, 1) := by decide +kernel
theorem dX4_readPart_28 : decode cX4_readPart 28 = .ok (.invokevirtual 83, 3) := by decide +kernel
theorem dX4_readPart_31 : decode cX4_readPart 31 = .ok (.ireturn, 1) := by decide +kernel
theorem dX4_readPart_32 : decode cX4_readPart 32 = .ok (.aload_n 0, 1) := by decide +kernel
theorem dX4_readPart_33 : decode cX4_readPart 33 = .ok (.invokevirtual 96, 3) := by decide +kernel
theorem dX4_readPart_36 : decode cX4_readPart 36 = .ok (.istore_n 1, 1) := by decide +kernel
theorem dX4_readPart_37 : decode cX4_readPart 37 = .ok (.aload_n 0, 1) := by decide +kernel
theorem dX4_readPart_38 : decode cX4_readPart 38 = .ok (.getfield 35, 3) := by decide +kernel
theorem dX4_readPart_41 : decode cX4_readPart 41 = .ok (.aload_n 0, 1) := by decide +kernel
theorem dX4_readPart_42 : decode cX4_readPart 42 = .ok (.getfield 100, 3) := by decide +kernel
theorem dX4_readPart_45 : decode cX4_readPart 45 = .ok (.isub, 1) := by decide +kernel
theorem dX4_readPart_46 : decode cX4_readPart 46 = .ok (.istore_n 2, 1) := by decide +kernel
theorem dX4_readPart_47 : decode cX4_readPart 47 = .ok (.aload_n 0, 1) := by decide +kernel
theorem dX4_readPart_48 : decode cX4_readPart 48 = .ok (.iconst 1, 1) := by decide +kernel
theorem dX4_readPart_49 : decode cX4_readPart 49 = .ok (.bipush 9, 2) := by decide +kernel
theorem dX4_readPart_51 : decode cX4_readPart 51 = .ok (.invokevirtual 59, 3) := by decide +kernel
theorem dX4_readPart_54 : decode cX4_readPart 54 = .ok (.ifCond .ne 5, 3) := by decide +kernel
theorem dX4_readPart_57 : decode cX4_readPart 57 = .ok (.iconst 0, 1) := by decide +kernel
theorem dX4_readPart_58 : decode cX4_readPart 58 = .ok (.ireturn, 1) := by decide +kernel
theorem dX4_readPart_59 : decode cX4_readPart 59 = .ok (.aload_n 0, 1) := by decide +kernel
theorem dX4_readPart_60 : decode cX4_readPart 60 = .ok (.getfield 12, 3) := by decide +kernel
theorem dX4_readPart_63 : decode cX4_readPart 63 = .ok (.iload_n 1, 1) := by decide +kernel
theorem dX4_readPart_64 : decode cX4_readPart 64 = .ok (.iload_n 2, 1) := by decide +kernel
theorem dX4_readPart_65 : decode cX4_readPart 65 = .ok (.aload_n 0, 1) := by decide +kernel
theorem dX4_readPart_66 : decode cX4_readPart 66 = .ok (.getfield 63, 3) := by decide +kernel
theorem dX4_readPart_69 : decode cX4_readPart 69 = .ok (.invokevirtual 103, 3) := by decide +kernel
theorem dX4_readPart_72 : decode cX4_readPart 72 = .ok (.aload_n 0, 1) := by decide +kernel
theorem dX4_readPart_73 : decode cX4_readPart 73 = .ok (.invokevirtual 68, 3) := by decide +kernel
theorem dX4_readPart_76 : decode cX4_readPart 76 = .ok (.ireturn, 1) := by decide +kernel
abbrev rmX4_readPart : Room := { frames := 3, cells := 0, slots := 0, locals := 62 }
theorem inX4_readPart_4 : ∀ w ∈ wsX40, w ∈ wsX4_readPart := by decide +kernel
theorem inX4_readPart_7 : ∀ w ∈ wsX70, w ∈ wsX4_readPart := by decide +kernel
def vX4_readPart_c16 (tx : Nat → Int32) (limitr : Int32) (Q : Int32 → (Nat → Int32) → (Int32) → (Nat → Int32) → (Nat → Int32) → (Nat → Int32) → Prop) (D : Nat → Int32) (partsr : Int32) (lenr : Nat → Int32) (rowr : Nat → Int32) (votr : Nat → Int32) : Prop := (∃ (b_17 : Nat → Int32) (nb_17 : Nat) (i_17 : Nat), preX4_step b_17 nb_17 i_17 D tx ∧ (∀ (D_17 : Nat → Int32), postX4_step b_17 nb_17 i_17 D tx D_17 → (∃ (b_21 : Nat → Int32) (nb_21 : Nat) (i_21 : Nat), preX4_isRow b_21 nb_21 i_21 D_17 tx ∧ (∀ r_21 : Int32, postX4_isRow b_21 nb_21 i_21 D_17 tx r_21 → ((¬ r_21 = 0 → (∃ (b_33 : Nat → Int32) (nb_33 : Nat) (i_33 : Nat), preX4_rowBits b_33 nb_33 i_33 D_17 tx ∧ (∀ r_33 : Int32, postX4_rowBits b_33 nb_33 i_33 D_17 tx r_33 → (∃ (b_51 : Nat → Int32) (nb_51 : Nat) (i_51 : Nat), preX4_readNumber b_51 nb_51 i_51 D_17 tx (1 : Int32) (9 : Int32) ∧ (∀ (r_51 : Int32) (D_51 : Nat → Int32), postX4_readNumber b_51 nb_51 i_51 D_17 tx (1 : Int32) (9 : Int32) r_51 D_51 → ((¬ r_51 = 0 → (preX7_addPart partsr limitr lenr rowr votr r_33 ((D_17 7) - (D_17 6)) (D_51 8) ∧ (∀ (parts_69 : Int32) (len_69 : Nat → Int32) (row_69 : Nat → Int32) (vot_69 : Nat → Int32), postX7_addPart partsr limitr lenr rowr votr r_33 ((D_17 7) - (D_17 6)) (D_51 8) parts_69 len_69 row_69 vot_69 → (∃ (b_73 : Nat → Int32) (nb_73 : Nat) (i_73 : Nat), preX4_readSign b_73 nb_73 i_73 D_51 tx ∧ (∀ (r_73 : Int32) (D_73 : Nat → Int32), postX4_readSign b_73 nb_73 i_73 D_51 tx r_73 D_73 → (narrow .boolean (.int r_73) = .int r_73 ∧ (Q r_73 D_73 parts_69 len_69 row_69 vot_69))))))) ∧ (r_51 = 0 → (Q (0 : Int32) D_51 partsr lenr rowr votr)))))))) ∧ (r_21 = 0 → (preX4_refuse D_17 ∧ (∀ (r_28 : Int32) (D_28 : Nat → Int32), postX4_refuse D_17 r_28 D_28 → (narrow .boolean (.int r_28) = .int r_28 ∧ (Q r_28 D_28 partsr lenr rowr votr))))))))))
set_option maxHeartbeats 4000000 in
set_option maxRecDepth 100000 in
theorem kX4_readPart_c16 {p : Program} {l : Launch} {e : Env} {s : State} {m : MethodId} {args : Array Value} {below : List Frame} {meth : Method} {c : Code} {g : GP} {qd : Nat} {qtr : Nat} {qtx : Nat} {qlr : Nat} {qrr : Nat} {qvr : Nat} {qgr : Nat} {tx : Nat → Int32} {limitr : Int32}  {Q : Int32 → (Nat → Int32) → (Int32) → (Nat → Int32) → (Nat → Int32) → (Nat → Int32) → Prop} {A : Nat → Prop} (S : CallFix p m c cX4_readPart 3 s args wsX4_readPart RX4) (hr : meth.sig.returnType = (some .boolean)) (hlocks : meth.locks = false) (hG : GK g s) (hA : ∀ q : Nat, s.heap.size ≤ q → A q) : ∀ (D : Nat → Int32) (partsr : Int32) (lenr : Nat → Int32) (rowr : Nat → Int32) (votr : Nat → Int32), vX4_readPart_c16 tx limitr Q D partsr lenr rowr votr → ∀ (H : Heap) (locs : List Loc), va_P g.1 vwCl [(qd, .inr (4, [.ref qtr, .ref qtx, .int (D 2), .int (D 3), .int (D 4), .int (D 5), .int (D 6), .int (D 7), .int (D 8)])), (qtx, .inl (g.2 1, 500, .inl tx)), (qtr, .inr (7, [.ref qlr, .ref qrr, .ref qvr, .ref qgr, .int partsr, .int limitr])), (qlr, .inl (g.2 0, 5, .inl lenr)), (qrr, .inl (g.2 0, 5, .inl rowr)), (qvr, .inl (g.2 0, 5, .inl votr))] H → va_D A [(qd, .inr (4, [.ref qtr, .ref qtx, .int (D 2), .int (D 3), .int (D 4), .int (D 5), .int (D 6), .int (D 7), .int (D 8)])), (qtx, .inl (g.2 1, 500, .inl tx)), (qtr, .inr (7, [.ref qlr, .ref qrr, .ref qvr, .ref qgr, .int partsr, .int limitr])), (qlr, .inl (g.2 0, 5, .inl lenr)), (qrr, .inl (g.2 0, 5, .inl rowr)), (qvr, .inl (g.2 0, 5, .inl votr))] → va_S A s.heap H locs → ∀ (ls : Array Slot), lv_has ls 3 [(0, .ref qd)] → W p l e (headSpec wsX4_readPart rmX4_readPart).room s m args below meth c H locs 0 0 (MQ below (va_Qi (fun (r : Int32) (u : (Nat → Int32) × Int32 × (Nat → Int32) × (Nat → Int32) × (Nat → Int32)) => Q r u.1 u.2.1 u.2.2.1 u.2.2.2.1 u.2.2.2.2) (fun (u : (Nat → Int32) × Int32 × (Nat → Int32) × (Nat → Int32) × (Nat → Int32)) t => va_P g.1 vwCl [(qd, .inr (4, [.ref qtr, .ref qtx, .int (u.1 2), .int (u.1 3), .int (u.1 4), .int (u.1 5), .int (u.1 6), .int (u.1 7), .int (u.1 8)])), (qtx, .inl (g.2 1, 500, .inl tx)), (qtr, .inr (7, [.ref qlr, .ref qrr, .ref qvr, .ref qgr, .int u.2.1, .int limitr])), (qlr, .inl (g.2 0, 5, .inl u.2.2.1)), (qrr, .inl (g.2 0, 5, .inl u.2.2.2.1)), (qvr, .inl (g.2 0, 5, .inl u.2.2.2.2))] t.heap ∧ va_D A [(qd, .inr (4, [.ref qtr, .ref qtx, .int (u.1 2), .int (u.1 3), .int (u.1 4), .int (u.1 5), .int (u.1 6), .int (u.1 7), .int (u.1 8)])), (qtx, .inl (g.2 1, 500, .inl tx)), (qtr, .inr (7, [.ref qlr, .ref qrr, .ref qvr, .ref qgr, .int u.2.1, .int limitr])), (qlr, .inl (g.2 0, 5, .inl u.2.2.1)), (qrr, .inl (g.2 0, 5, .inl u.2.2.2.1)), (qvr, .inl (g.2 0, 5, .inl u.2.2.2.2))]) A) args s 0 0 A) (F0 m 16 ls []) := by
  obtain ⟨hx, hb, hml, hown, hts⟩ := id S
  have hK := hG.1
  intro D partsr lenr rowr votr hv H locs hP hD hS ls hl
  unfold vX4_readPart_c16 at hv
  refine lv_aload_n hx hb dX4_readPart_16 rfl (lv_at hl 0 rfl) ?_
  obtain ⟨b_17, nb_17, i_17, ho_1, hv⟩ := hv
  have hPc := hP.sub (ws' := [(qd, .inr (4, [.ref qtr, .ref qtx, .int (D 2), .int (D 3), .int (D 4), .int (D 5), .int (D 6), .int (D 7), .int (D 8)])), (qtx, .inl (g.2 1, 500, .inl tx))]) [0, 1] rfl
  have hDc := hD.sub (ws' := [(qd, .inr (4, [.ref qtr, .ref qtx, .int (D 2), .int (D 3), .int (D 4), .int (D 5), .int (D 6), .int (D 7), .int (D 8)])), (qtx, .inl (g.2 1, 500, .inl tx))]) [0, 1] (by decide) rfl
  have hFc := va_free (wc := [(qd, .inr (4, [.ref qtr, .ref qtx, .int (D 2), .int (D 3), .int (D 4), .int (D 5), .int (D 6), .int (D 7), .int (D 8)])), (qtx, .inl (g.2 1, 500, .inl tx))]) hD hS hA [0, 1] rfl
  refine va_callv (va_runV (As := []) (rest := []) S (wX4_step l g qd qtr qtx H.size D tx (sX4_step b_17 nb_17 i_17 D tx ho_1)) (cwV 0 hts gX4_readPart_X4_step rfl rfl rfl (by decide +kernel) ⟨Nat.le_of_ble_eq_true rfl, Nat.le_of_ble_eq_true rfl⟩) ⟨blindRW, va_recv hK hP (ci := 4) (q0 := 0) rfl rfl, fun U hU hW => ⟨rfl, by rw [hU], by rw [hU]; exact hPc, hG.warm hW, hDc.weaken (fun _ _ _ _ => trivial)⟩⟩ rfl rfl hl.1 rfl (lv_room (Nat.le_of_ble_eq_true rfl)) dX4_readPart_17 ⟨Nat.le_of_ble_eq_true rfl, Nat.le_of_ble_eq_true rfl⟩) hS (fun q _ h => hFc q h) hFc (fun u t H1 locs ht hvm hw hB hz1 hk1 hS => ?_)
  obtain ⟨D_17, rfl⟩ : ∃ z, z = u := ⟨_, rfl⟩
  obtain ⟨hP1, hD1⟩ := hB
  rw [ht] at hP1
  have hv := hv D_17 hw
  obtain ⟨hP, hD⟩ := va_join (wr := [(qtr, .inr (7, [.ref qlr, .ref qrr, .ref qvr, .ref qgr, .int partsr, .int limitr])), (qlr, .inl (g.2 0, 5, .inl lenr)), (qrr, .inl (g.2 0, 5, .inl rowr)), (qvr, .inl (g.2 0, 5, .inl votr))]) (w1 := [(qd, .inr (4, [.ref qtr, .ref qtx, .int (D_17 2), .int (D_17 3), .int (D_17 4), .int (D_17 5), .int (D_17 6), .int (D_17 7), .int (D_17 8)])), (qtx, .inl (g.2 1, 500, .inl tx))]) hP hD [0, 1] [2, 3, 4, 5] rfl rfl (by decide) (by decide) hk1 hFc hP1 hD1
  clear hP1 hD1 hPc hDc hFc hk1
  generalize H1 = H at hP hS ⊢
  have hP : va_P g.1 vwCl [(qtr, .inr (7, [.ref qlr, .ref qrr, .ref qvr, .ref qgr, .int partsr, .int limitr])), (qlr, .inl (g.2 0, 5, .inl lenr)), (qrr, .inl (g.2 0, 5, .inl rowr)), (qvr, .inl (g.2 0, 5, .inl votr)), (qd, .inr (4, [.ref qtr, .ref qtx, .int (D_17 2), .int (D_17 3), .int (D_17 4), .int (D_17 5), .int (D_17 6), .int (D_17 7), .int (D_17 8)])), (qtx, .inl (g.2 1, 500, .inl tx))] H := hP
  have hD : va_D A [(qtr, .inr (7, [.ref qlr, .ref qrr, .ref qvr, .ref qgr, .int partsr, .int limitr])), (qlr, .inl (g.2 0, 5, .inl lenr)), (qrr, .inl (g.2 0, 5, .inl rowr)), (qvr, .inl (g.2 0, 5, .inl votr)), (qd, .inr (4, [.ref qtr, .ref qtx, .int (D_17 2), .int (D_17 3), .int (D_17 4), .int (D_17 5), .int (D_17 6), .int (D_17 7), .int (D_17 8)])), (qtx, .inl (g.2 1, 500, .inl tx))] := hD
  refine lv_aload_n hx hb dX4_readPart_20 rfl (lv_at hl 0 rfl) ?_
  obtain ⟨b_21, nb_21, i_21, ho_2, hv⟩ := hv
  refine vp_callSi (W.runV (As := []) (rest := []) S (wX4_isRow l g qd qtr qtx D_17 tx (sX4_isRow b_21 nb_21 i_21 D_17 tx ho_2)) (cwV 0 hts gX4_readPart_X4_isRow rfl rfl rfl (by decide +kernel) ⟨Nat.le_of_ble_eq_true rfl, Nat.le_of_ble_eq_true rfl⟩) ⟨blindRO, va_recv hK hP (ci := 4) (q0 := 4) rfl rfl, fun U hU hW => ⟨rfl, by rw [hU]; exact hP.sub (ws' := [(qd, .inr (4, [.ref qtr, .ref qtx, .int (D_17 2), .int (D_17 3), .int (D_17 4), .int (D_17 5), .int (D_17 6), .int (D_17 7), .int (D_17 8)])), (qtx, .inl (g.2 1, 500, .inl tx))]) [4, 5] rfl, hG.warm hW⟩⟩ rfl rfl hl.1 rfl (lv_room (Nat.le_of_ble_eq_true rfl)) dX4_readPart_21 ⟨Nat.le_of_ble_eq_true rfl, Nat.le_of_ble_eq_true rfl⟩) (fun r_21 hr_21 => ?_)
  have hv := hv r_21 hr_21
  obtain ⟨hvt, hvf⟩ := hv
  refine lv_if_ne (tgt := 32) hx hb dX4_readPart_24 (by decide) (fun hc => ?_) (fun hc => ?_)
  · have hv := hvt hc
    refine lv_aload_n hx hb dX4_readPart_32 rfl (lv_at hl 0 rfl) ?_
    obtain ⟨b_33, nb_33, i_33, ho_3, hv⟩ := hv
    refine vp_callSi (W.runV (As := []) (rest := []) S (wX4_rowBits l g qd qtr qtx D_17 tx (sX4_rowBits b_33 nb_33 i_33 D_17 tx ho_3)) (cwV 0 hts gX4_readPart_X4_rowBits rfl rfl rfl (by decide +kernel) ⟨Nat.le_of_ble_eq_true rfl, Nat.le_of_ble_eq_true rfl⟩) ⟨blindRO, va_recv hK hP (ci := 4) (q0 := 4) rfl rfl, fun U hU hW => ⟨rfl, by rw [hU]; exact hP.sub (ws' := [(qd, .inr (4, [.ref qtr, .ref qtx, .int (D_17 2), .int (D_17 3), .int (D_17 4), .int (D_17 5), .int (D_17 6), .int (D_17 7), .int (D_17 8)])), (qtx, .inl (g.2 1, 500, .inl tx))]) [4, 5] rfl, hG.warm hW⟩⟩ rfl rfl hl.1 rfl (lv_room (Nat.le_of_ble_eq_true rfl)) dX4_readPart_33 ⟨Nat.le_of_ble_eq_true rfl, Nat.le_of_ble_eq_true rfl⟩) (fun r_33 hr_33 => ?_)
    have hv := hv r_33 hr_33
    refine lv_istore_n (lv' := [(1, .int r_33), (0, .ref qd)]) hx hb dX4_readPart_36 rfl hl (by decide) rfl (fun ls hl => ?_)
    refine lv_aload_n hx hb dX4_readPart_37 rfl (lv_at hl 1 rfl) ?_
    refine va_get (D := g.1) (ci := 4) (v := .int (D_17 7)) (C := RX4) (T := TX4) (N := 9) hx hb hts inX4_readPart_4 hown hK hP 4 rfl rfl 7 (by decide) (hts (.fieldLink RX4 35 "RangeCodes$Reader" "at" "I") (List.mem_of_getElem? (i := 3) rfl)) (fun _ h9 => h9) rfl dX4_readPart_38 ?_
    refine lv_aload_n hx hb dX4_readPart_41 rfl (lv_at hl 1 rfl) ?_
    refine va_get (D := g.1) (ci := 4) (v := .int (D_17 6)) (C := RX4) (T := TX4) (N := 9) hx hb hts inX4_readPart_4 hown hK hP 4 rfl rfl 6 (by decide) (hts (.fieldLink RX4 100 "RangeCodes$Reader" "start" "I") (List.mem_of_getElem? (i := 4) rfl)) (fun _ h9 => h9) rfl dX4_readPart_42 ?_
    refine lv_isub hx hb dX4_readPart_45 ?_
    refine lv_istore_n (lv' := [(2, .int ((D_17 7) - (D_17 6))), (1, .int r_33), (0, .ref qd)]) hx hb dX4_readPart_46 rfl hl (by decide) rfl (fun ls hl => ?_)
    refine lv_aload_n hx hb dX4_readPart_47 rfl (lv_at hl 2 rfl) ?_
    refine lv_iconst (v := (1 : Int32)) hx hb dX4_readPart_48 (by decide) ?_
    refine lv_bipush (v := (9 : Int32)) hx hb dX4_readPart_49 (by decide) ?_
    obtain ⟨b_51, nb_51, i_51, ho_4, hv⟩ := hv
    have hPc := hP.sub (ws' := [(qd, .inr (4, [.ref qtr, .ref qtx, .int (D_17 2), .int (D_17 3), .int (D_17 4), .int (D_17 5), .int (D_17 6), .int (D_17 7), .int (D_17 8)])), (qtx, .inl (g.2 1, 500, .inl tx))]) [4, 5] rfl
    have hDc := hD.sub (ws' := [(qd, .inr (4, [.ref qtr, .ref qtx, .int (D_17 2), .int (D_17 3), .int (D_17 4), .int (D_17 5), .int (D_17 6), .int (D_17 7), .int (D_17 8)])), (qtx, .inl (g.2 1, 500, .inl tx))]) [4, 5] (by decide) rfl
    have hFc := va_free (wc := [(qd, .inr (4, [.ref qtr, .ref qtx, .int (D_17 2), .int (D_17 3), .int (D_17 4), .int (D_17 5), .int (D_17 6), .int (D_17 7), .int (D_17 8)])), (qtx, .inl (g.2 1, 500, .inl tx))]) hD hS hA [4, 5] rfl
    refine va_calli (va_runV (As := [.int (1 : Int32), .int (9 : Int32)]) (rest := []) S (wX4_readNumber l g qd qtr qtx H.size D_17 tx (1 : Int32) (9 : Int32) (sX4_readNumber b_51 nb_51 i_51 D_17 tx (1 : Int32) (9 : Int32) ho_4)) (cwV 2 hts gX4_readPart_X4_readNumber rfl rfl rfl (by decide +kernel) ⟨Nat.le_of_ble_eq_true rfl, Nat.le_of_ble_eq_true rfl⟩) ⟨blindRW, va_recv hK hP (ci := 4) (q0 := 4) rfl rfl, fun U hU hW => ⟨rfl, by rw [hU], by rw [hU]; exact hPc, hG.warm hW, hDc.weaken (fun _ _ _ _ => trivial)⟩⟩ rfl rfl hl.1 rfl (lv_room (Nat.le_of_ble_eq_true rfl)) dX4_readPart_51 ⟨Nat.le_of_ble_eq_true rfl, Nat.le_of_ble_eq_true rfl⟩) hS (fun q _ h => hFc q h) hFc (fun r_51 u t H1 locs ht hvm hw hB hz1 hk1 hS => ?_)
    obtain ⟨D_51, rfl⟩ : ∃ z, z = u := ⟨_, rfl⟩
    obtain ⟨hP1, hD1⟩ := hB
    rw [ht] at hP1
    have hv := hv r_51 D_51 hw
    obtain ⟨hP, hD⟩ := va_join (wr := [(qtr, .inr (7, [.ref qlr, .ref qrr, .ref qvr, .ref qgr, .int partsr, .int limitr])), (qlr, .inl (g.2 0, 5, .inl lenr)), (qrr, .inl (g.2 0, 5, .inl rowr)), (qvr, .inl (g.2 0, 5, .inl votr))]) (w1 := [(qd, .inr (4, [.ref qtr, .ref qtx, .int (D_51 2), .int (D_51 3), .int (D_51 4), .int (D_51 5), .int (D_51 6), .int (D_51 7), .int (D_51 8)])), (qtx, .inl (g.2 1, 500, .inl tx))]) hP hD [4, 5] [0, 1, 2, 3] rfl rfl (by decide) (by decide) hk1 hFc hP1 hD1
    clear hP1 hD1 hPc hDc hFc hk1
    generalize H1 = H at hP hS ⊢
    have hP : va_P g.1 vwCl [(qtr, .inr (7, [.ref qlr, .ref qrr, .ref qvr, .ref qgr, .int partsr, .int limitr])), (qlr, .inl (g.2 0, 5, .inl lenr)), (qrr, .inl (g.2 0, 5, .inl rowr)), (qvr, .inl (g.2 0, 5, .inl votr)), (qd, .inr (4, [.ref qtr, .ref qtx, .int (D_51 2), .int (D_51 3), .int (D_51 4), .int (D_51 5), .int (D_51 6), .int (D_51 7), .int (D_51 8)])), (qtx, .inl (g.2 1, 500, .inl tx))] H := hP
    have hD : va_D A [(qtr, .inr (7, [.ref qlr, .ref qrr, .ref qvr, .ref qgr, .int partsr, .int limitr])), (qlr, .inl (g.2 0, 5, .inl lenr)), (qrr, .inl (g.2 0, 5, .inl rowr)), (qvr, .inl (g.2 0, 5, .inl votr)), (qd, .inr (4, [.ref qtr, .ref qtx, .int (D_51 2), .int (D_51 3), .int (D_51 4), .int (D_51 5), .int (D_51 6), .int (D_51 7), .int (D_51 8)])), (qtx, .inl (g.2 1, 500, .inl tx))] := hD
    obtain ⟨hvt, hvf⟩ := hv
    refine lv_if_ne (tgt := 59) hx hb dX4_readPart_54 (by decide) (fun hc => ?_) (fun hc => ?_)
    · have hv := hvt hc
      refine lv_aload_n hx hb dX4_readPart_59 rfl (lv_at hl 2 rfl) ?_
      refine va_get (D := g.1) (ci := 4) (v := .ref qtr) (C := RX4) (T := TX4) (N := 9) hx hb hts inX4_readPart_4 hown hK hP 4 rfl rfl 0 (by decide) (hts (.fieldLink RX4 12 "RangeCodes$Reader" "told" "LRangeCodes$Told;") (List.mem_of_getElem? (i := 1) rfl)) (fun _ h9 => h9) rfl dX4_readPart_60 ?_
      refine lv_iload_n hx hb dX4_readPart_63 rfl (lv_at hl 1 rfl) ?_
      refine lv_iload_n hx hb dX4_readPart_64 rfl (lv_at hl 0 rfl) ?_
      refine lv_aload_n hx hb dX4_readPart_65 rfl (lv_at hl 2 rfl) ?_
      refine va_get (D := g.1) (ci := 4) (v := .int (D_51 8)) (C := RX4) (T := TX4) (N := 9) hx hb hts inX4_readPart_4 hown hK hP 4 rfl rfl 8 (by decide) (hts (.fieldLink RX4 63 "RangeCodes$Reader" "value" "I") (List.mem_of_getElem? (i := 5) rfl)) (fun _ h9 => h9) rfl dX4_readPart_66 ?_
      obtain ⟨ho_5, hv⟩ := hv
      have hPc := hP.sub (ws' := [(qtr, .inr (7, [.ref qlr, .ref qrr, .ref qvr, .ref qgr, .int partsr, .int limitr])), (qlr, .inl (g.2 0, 5, .inl lenr)), (qrr, .inl (g.2 0, 5, .inl rowr)), (qvr, .inl (g.2 0, 5, .inl votr))]) [0, 1, 2, 3] rfl
      have hDc := hD.sub (ws' := [(qtr, .inr (7, [.ref qlr, .ref qrr, .ref qvr, .ref qgr, .int partsr, .int limitr])), (qlr, .inl (g.2 0, 5, .inl lenr)), (qrr, .inl (g.2 0, 5, .inl rowr)), (qvr, .inl (g.2 0, 5, .inl votr))]) [0, 1, 2, 3] (by decide) rfl
      have hFc := va_free (wc := [(qtr, .inr (7, [.ref qlr, .ref qrr, .ref qvr, .ref qgr, .int partsr, .int limitr])), (qlr, .inl (g.2 0, 5, .inl lenr)), (qrr, .inl (g.2 0, 5, .inl rowr)), (qvr, .inl (g.2 0, 5, .inl votr))]) hD hS hA [0, 1, 2, 3] rfl
      refine va_callv (va_runV (As := [.int r_33, .int ((D_17 7) - (D_17 6)), .int (D_51 8)]) (rest := []) S (wX7_addPart l g qtr qlr qrr qvr qgr H.size partsr limitr lenr rowr votr r_33 ((D_17 7) - (D_17 6)) (D_51 8) (sX7_addPart partsr limitr lenr rowr votr r_33 ((D_17 7) - (D_17 6)) (D_51 8) ho_5)) (cwV 3 hts gX4_readPart_X7_addPart rfl rfl rfl (by decide +kernel) ⟨Nat.le_of_ble_eq_true rfl, Nat.le_of_ble_eq_true rfl⟩) ⟨blindRW, va_recv hK hP (ci := 7) (q0 := 0) rfl rfl, fun U hU hW => ⟨rfl, by rw [hU], by rw [hU]; exact hPc, hG.warm hW, hDc.weaken (fun _ _ _ _ => trivial)⟩⟩ rfl rfl hl.1 rfl (lv_room (Nat.le_of_ble_eq_true rfl)) dX4_readPart_69 ⟨Nat.le_of_ble_eq_true rfl, Nat.le_of_ble_eq_true rfl⟩) hS (fun q _ h => hFc q h) hFc (fun u t H1 locs ht hvm hw hB hz1 hk1 hS => ?_)
      obtain ⟨parts_69, len_69, row_69, vot_69⟩ := u
      obtain ⟨hP1, hD1⟩ := hB
      rw [ht] at hP1
      have hv := hv parts_69 len_69 row_69 vot_69 hw
      obtain ⟨hP, hD⟩ := va_join (wr := [(qd, .inr (4, [.ref qtr, .ref qtx, .int (D_51 2), .int (D_51 3), .int (D_51 4), .int (D_51 5), .int (D_51 6), .int (D_51 7), .int (D_51 8)])), (qtx, .inl (g.2 1, 500, .inl tx))]) (w1 := [(qtr, .inr (7, [.ref qlr, .ref qrr, .ref qvr, .ref qgr, .int parts_69, .int limitr])), (qlr, .inl (g.2 0, 5, .inl len_69)), (qrr, .inl (g.2 0, 5, .inl row_69)), (qvr, .inl (g.2 0, 5, .inl vot_69))]) hP hD [0, 1, 2, 3] [4, 5] rfl rfl (by decide) (by decide) hk1 hFc hP1 hD1
      clear hP1 hD1 hPc hDc hFc hk1
      generalize H1 = H at hP hS ⊢
      have hP : va_P g.1 vwCl [(qd, .inr (4, [.ref qtr, .ref qtx, .int (D_51 2), .int (D_51 3), .int (D_51 4), .int (D_51 5), .int (D_51 6), .int (D_51 7), .int (D_51 8)])), (qtx, .inl (g.2 1, 500, .inl tx)), (qtr, .inr (7, [.ref qlr, .ref qrr, .ref qvr, .ref qgr, .int parts_69, .int limitr])), (qlr, .inl (g.2 0, 5, .inl len_69)), (qrr, .inl (g.2 0, 5, .inl row_69)), (qvr, .inl (g.2 0, 5, .inl vot_69))] H := hP
      have hD : va_D A [(qd, .inr (4, [.ref qtr, .ref qtx, .int (D_51 2), .int (D_51 3), .int (D_51 4), .int (D_51 5), .int (D_51 6), .int (D_51 7), .int (D_51 8)])), (qtx, .inl (g.2 1, 500, .inl tx)), (qtr, .inr (7, [.ref qlr, .ref qrr, .ref qvr, .ref qgr, .int parts_69, .int limitr])), (qlr, .inl (g.2 0, 5, .inl len_69)), (qrr, .inl (g.2 0, 5, .inl row_69)), (qvr, .inl (g.2 0, 5, .inl vot_69))] := hD
      refine lv_aload_n hx hb dX4_readPart_72 rfl (lv_at hl 2 rfl) ?_
      obtain ⟨b_73, nb_73, i_73, ho_6, hv⟩ := hv
      have hPc := hP.sub (ws' := [(qd, .inr (4, [.ref qtr, .ref qtx, .int (D_51 2), .int (D_51 3), .int (D_51 4), .int (D_51 5), .int (D_51 6), .int (D_51 7), .int (D_51 8)])), (qtx, .inl (g.2 1, 500, .inl tx))]) [0, 1] rfl
      have hDc := hD.sub (ws' := [(qd, .inr (4, [.ref qtr, .ref qtx, .int (D_51 2), .int (D_51 3), .int (D_51 4), .int (D_51 5), .int (D_51 6), .int (D_51 7), .int (D_51 8)])), (qtx, .inl (g.2 1, 500, .inl tx))]) [0, 1] (by decide) rfl
      have hFc := va_free (wc := [(qd, .inr (4, [.ref qtr, .ref qtx, .int (D_51 2), .int (D_51 3), .int (D_51 4), .int (D_51 5), .int (D_51 6), .int (D_51 7), .int (D_51 8)])), (qtx, .inl (g.2 1, 500, .inl tx))]) hD hS hA [0, 1] rfl
      refine va_calli (va_runV (As := []) (rest := []) S (wX4_readSign l g qd qtr qtx H.size D_51 tx (sX4_readSign b_73 nb_73 i_73 D_51 tx ho_6)) (cwV 0 hts gX4_readPart_X4_readSign rfl rfl rfl (by decide +kernel) ⟨Nat.le_of_ble_eq_true rfl, Nat.le_of_ble_eq_true rfl⟩) ⟨blindRW, va_recv hK hP (ci := 4) (q0 := 0) rfl rfl, fun U hU hW => ⟨rfl, by rw [hU], by rw [hU]; exact hPc, hG.warm hW, hDc.weaken (fun _ _ _ _ => trivial)⟩⟩ rfl rfl hl.1 rfl (lv_room (Nat.le_of_ble_eq_true rfl)) dX4_readPart_73 ⟨Nat.le_of_ble_eq_true rfl, Nat.le_of_ble_eq_true rfl⟩) hS (fun q _ h => hFc q h) hFc (fun r_73 u t H1 locs ht hvm hw hB hz1 hk1 hS => ?_)
      obtain ⟨D_73, rfl⟩ : ∃ z, z = u := ⟨_, rfl⟩
      obtain ⟨hP1, hD1⟩ := hB
      rw [ht] at hP1
      have hv := hv r_73 D_73 hw
      obtain ⟨hP, hD⟩ := va_join (wr := [(qtr, .inr (7, [.ref qlr, .ref qrr, .ref qvr, .ref qgr, .int parts_69, .int limitr])), (qlr, .inl (g.2 0, 5, .inl len_69)), (qrr, .inl (g.2 0, 5, .inl row_69)), (qvr, .inl (g.2 0, 5, .inl vot_69))]) (w1 := [(qd, .inr (4, [.ref qtr, .ref qtx, .int (D_73 2), .int (D_73 3), .int (D_73 4), .int (D_73 5), .int (D_73 6), .int (D_73 7), .int (D_73 8)])), (qtx, .inl (g.2 1, 500, .inl tx))]) hP hD [0, 1] [2, 3, 4, 5] rfl rfl (by decide) (by decide) hk1 hFc hP1 hD1
      clear hP1 hD1 hPc hDc hFc hk1
      generalize H1 = H at hP hS ⊢
      have hP : va_P g.1 vwCl [(qtr, .inr (7, [.ref qlr, .ref qrr, .ref qvr, .ref qgr, .int parts_69, .int limitr])), (qlr, .inl (g.2 0, 5, .inl len_69)), (qrr, .inl (g.2 0, 5, .inl row_69)), (qvr, .inl (g.2 0, 5, .inl vot_69)), (qd, .inr (4, [.ref qtr, .ref qtx, .int (D_73 2), .int (D_73 3), .int (D_73 4), .int (D_73 5), .int (D_73 6), .int (D_73 7), .int (D_73 8)])), (qtx, .inl (g.2 1, 500, .inl tx))] H := hP
      have hD : va_D A [(qtr, .inr (7, [.ref qlr, .ref qrr, .ref qvr, .ref qgr, .int parts_69, .int limitr])), (qlr, .inl (g.2 0, 5, .inl len_69)), (qrr, .inl (g.2 0, 5, .inl row_69)), (qvr, .inl (g.2 0, 5, .inl vot_69)), (qd, .inr (4, [.ref qtr, .ref qtx, .int (D_73 2), .int (D_73 3), .int (D_73 4), .int (D_73 5), .int (D_73 6), .int (D_73 7), .int (D_73 8)])), (qtx, .inl (g.2 1, 500, .inl tx))] := hD
      have hP9 := hP.sub (ws' := [(qd, .inr (4, [.ref qtr, .ref qtx, .int (D_73 2), .int (D_73 3), .int (D_73 4), .int (D_73 5), .int (D_73 6), .int (D_73 7), .int (D_73 8)])), (qtx, .inl (g.2 1, 500, .inl tx)), (qtr, .inr (7, [.ref qlr, .ref qrr, .ref qvr, .ref qgr, .int parts_69, .int limitr])), (qlr, .inl (g.2 0, 5, .inl len_69)), (qrr, .inl (g.2 0, 5, .inl row_69)), (qvr, .inl (g.2 0, 5, .inl vot_69))]) [4, 5, 0, 1, 2, 3] rfl
      have hD9 := hD.sub (ws' := [(qd, .inr (4, [.ref qtr, .ref qtx, .int (D_73 2), .int (D_73 3), .int (D_73 4), .int (D_73 5), .int (D_73 6), .int (D_73 7), .int (D_73 8)])), (qtx, .inl (g.2 1, 500, .inl tx)), (qtr, .inr (7, [.ref qlr, .ref qrr, .ref qvr, .ref qgr, .int parts_69, .int limitr])), (qlr, .inl (g.2 0, 5, .inl len_69)), (qrr, .inl (g.2 0, 5, .inl row_69)), (qvr, .inl (g.2 0, 5, .inl vot_69))]) [4, 5, 0, 1, 2, 3] (by decide) rfl
      obtain ⟨hn, hv⟩ := hv
      exact W.zret (v := r_73) (ty := .boolean) hx hb hr hn (fun t ht hW => ⟨⟨_, (D_73, parts_69, len_69, row_69, vot_69), rfl, hv, by rw [ht]; exact hP9, hD9⟩, hS.F ht⟩) hS.2.2 dX4_readPart_76
    · have hv := hvf hc
      refine lv_iconst (v := (0 : Int32)) hx hb dX4_readPart_57 (by decide) ?_
      have hP9 := hP.sub (ws' := [(qd, .inr (4, [.ref qtr, .ref qtx, .int (D_51 2), .int (D_51 3), .int (D_51 4), .int (D_51 5), .int (D_51 6), .int (D_51 7), .int (D_51 8)])), (qtx, .inl (g.2 1, 500, .inl tx)), (qtr, .inr (7, [.ref qlr, .ref qrr, .ref qvr, .ref qgr, .int partsr, .int limitr])), (qlr, .inl (g.2 0, 5, .inl lenr)), (qrr, .inl (g.2 0, 5, .inl rowr)), (qvr, .inl (g.2 0, 5, .inl votr))]) [4, 5, 0, 1, 2, 3] rfl
      have hD9 := hD.sub (ws' := [(qd, .inr (4, [.ref qtr, .ref qtx, .int (D_51 2), .int (D_51 3), .int (D_51 4), .int (D_51 5), .int (D_51 6), .int (D_51 7), .int (D_51 8)])), (qtx, .inl (g.2 1, 500, .inl tx)), (qtr, .inr (7, [.ref qlr, .ref qrr, .ref qvr, .ref qgr, .int partsr, .int limitr])), (qlr, .inl (g.2 0, 5, .inl lenr)), (qrr, .inl (g.2 0, 5, .inl rowr)), (qvr, .inl (g.2 0, 5, .inl votr))]) [4, 5, 0, 1, 2, 3] (by decide) rfl
      exact W.zret (v := (0 : Int32)) (ty := .boolean) hx hb hr rfl (fun t ht hW => ⟨⟨_, (D_51, partsr, lenr, rowr, votr), rfl, hv, by rw [ht]; exact hP9, hD9⟩, hS.F ht⟩) hS.2.2 dX4_readPart_58
  · have hv := hvf hc
    refine lv_aload_n hx hb dX4_readPart_27 rfl (lv_at hl 0 rfl) ?_
    obtain ⟨ho_7, hv⟩ := hv
    have hPc := hP.sub (ws' := [(qd, .inr (4, [.ref qtr, .ref qtx, .int (D_17 2), .int (D_17 3), .int (D_17 4), .int (D_17 5), .int (D_17 6), .int (D_17 7), .int (D_17 8)]))]) [4] rfl
    have hDc := hD.sub (ws' := [(qd, .inr (4, [.ref qtr, .ref qtx, .int (D_17 2), .int (D_17 3), .int (D_17 4), .int (D_17 5), .int (D_17 6), .int (D_17 7), .int (D_17 8)]))]) [4] (by decide) rfl
    have hFc := va_free (wc := [(qd, .inr (4, [.ref qtr, .ref qtx, .int (D_17 2), .int (D_17 3), .int (D_17 4), .int (D_17 5), .int (D_17 6), .int (D_17 7), .int (D_17 8)]))]) hD hS hA [4] rfl
    refine va_calli (va_runV (As := []) (rest := []) S (wX4_refuse l g qd qtr qtx H.size D_17 (sX4_refuse D_17 ho_7)) (cwV 0 hts gX4_readPart_X4_refuse rfl rfl rfl (by decide +kernel) ⟨Nat.le_of_ble_eq_true rfl, Nat.le_of_ble_eq_true rfl⟩) ⟨blindRW, va_recv hK hP (ci := 4) (q0 := 4) rfl rfl, fun U hU hW => ⟨rfl, by rw [hU], by rw [hU]; exact hPc, hG.warm hW, hDc.weaken (fun _ _ _ _ => trivial)⟩⟩ rfl rfl hl.1 rfl (lv_room (Nat.le_of_ble_eq_true rfl)) dX4_readPart_28 ⟨Nat.le_of_ble_eq_true rfl, Nat.le_of_ble_eq_true rfl⟩) hS (fun q _ h => hFc q h) hFc (fun r_28 u t H1 locs ht hvm hw hB hz1 hk1 hS => ?_)
    obtain ⟨D_28, rfl⟩ : ∃ z, z = u := ⟨_, rfl⟩
    obtain ⟨hP1, hD1⟩ := hB
    rw [ht] at hP1
    have hv := hv r_28 D_28 hw
    obtain ⟨hP, hD⟩ := va_join (wr := [(qtr, .inr (7, [.ref qlr, .ref qrr, .ref qvr, .ref qgr, .int partsr, .int limitr])), (qlr, .inl (g.2 0, 5, .inl lenr)), (qrr, .inl (g.2 0, 5, .inl rowr)), (qvr, .inl (g.2 0, 5, .inl votr)), (qtx, .inl (g.2 1, 500, .inl tx))]) (w1 := [(qd, .inr (4, [.ref qtr, .ref qtx, .int (D_28 2), .int (D_28 3), .int (D_28 4), .int (D_28 5), .int (D_28 6), .int (D_28 7), .int (D_28 8)]))]) hP hD [4] [0, 1, 2, 3, 5] rfl rfl (by decide) (by decide) hk1 hFc hP1 hD1
    clear hP1 hD1 hPc hDc hFc hk1
    generalize H1 = H at hP hS ⊢
    have hP : va_P g.1 vwCl [(qtr, .inr (7, [.ref qlr, .ref qrr, .ref qvr, .ref qgr, .int partsr, .int limitr])), (qlr, .inl (g.2 0, 5, .inl lenr)), (qrr, .inl (g.2 0, 5, .inl rowr)), (qvr, .inl (g.2 0, 5, .inl votr)), (qtx, .inl (g.2 1, 500, .inl tx)), (qd, .inr (4, [.ref qtr, .ref qtx, .int (D_28 2), .int (D_28 3), .int (D_28 4), .int (D_28 5), .int (D_28 6), .int (D_28 7), .int (D_28 8)]))] H := hP
    have hD : va_D A [(qtr, .inr (7, [.ref qlr, .ref qrr, .ref qvr, .ref qgr, .int partsr, .int limitr])), (qlr, .inl (g.2 0, 5, .inl lenr)), (qrr, .inl (g.2 0, 5, .inl rowr)), (qvr, .inl (g.2 0, 5, .inl votr)), (qtx, .inl (g.2 1, 500, .inl tx)), (qd, .inr (4, [.ref qtr, .ref qtx, .int (D_28 2), .int (D_28 3), .int (D_28 4), .int (D_28 5), .int (D_28 6), .int (D_28 7), .int (D_28 8)]))] := hD
    have hP9 := hP.sub (ws' := [(qd, .inr (4, [.ref qtr, .ref qtx, .int (D_28 2), .int (D_28 3), .int (D_28 4), .int (D_28 5), .int (D_28 6), .int (D_28 7), .int (D_28 8)])), (qtx, .inl (g.2 1, 500, .inl tx)), (qtr, .inr (7, [.ref qlr, .ref qrr, .ref qvr, .ref qgr, .int partsr, .int limitr])), (qlr, .inl (g.2 0, 5, .inl lenr)), (qrr, .inl (g.2 0, 5, .inl rowr)), (qvr, .inl (g.2 0, 5, .inl votr))]) [5, 4, 0, 1, 2, 3] rfl
    have hD9 := hD.sub (ws' := [(qd, .inr (4, [.ref qtr, .ref qtx, .int (D_28 2), .int (D_28 3), .int (D_28 4), .int (D_28 5), .int (D_28 6), .int (D_28 7), .int (D_28 8)])), (qtx, .inl (g.2 1, 500, .inl tx)), (qtr, .inr (7, [.ref qlr, .ref qrr, .ref qvr, .ref qgr, .int partsr, .int limitr])), (qlr, .inl (g.2 0, 5, .inl lenr)), (qrr, .inl (g.2 0, 5, .inl rowr)), (qvr, .inl (g.2 0, 5, .inl votr))]) [5, 4, 0, 1, 2, 3] (by decide) rfl
    obtain ⟨hn, hv⟩ := hv
    exact W.zret (v := r_28) (ty := .boolean) hx hb hr hn (fun t ht hW => ⟨⟨_, (D_28, partsr, lenr, rowr, votr), rfl, hv, by rw [ht]; exact hP9, hD9⟩, hS.F ht⟩) hS.2.2 dX4_readPart_31
def vX4_readPart (D : Nat → Int32) (tx : Nat → Int32) (partsr : Int32) (limitr : Int32) (lenr : Nat → Int32) (rowr : Nat → Int32) (votr : Nat → Int32) (Q : Int32 → (Nat → Int32) → (Int32) → (Nat → Int32) → (Nat → Int32) → (Nat → Int32) → Prop) : Prop := ((partsr < (5 : Int32) → (vX4_readPart_c16 tx limitr Q D partsr lenr rowr votr)) ∧ (¬ partsr < (5 : Int32) → (preX4_note D (3 : Int32) ∧ (∀ (D_13 : Nat → Int32), postX4_note D (3 : Int32) D_13 → (vX4_readPart_c16 tx limitr Q D_13 partsr lenr rowr votr)))))
set_option maxHeartbeats 4000000 in
set_option maxRecDepth 100000 in
theorem wX4_readPart (l : Launch) (g : GP) (qd : Nat) (qtr : Nat) (qtx : Nat) (qlr : Nat) (qrr : Nat) (qvr : Nat) (qgr : Nat) (sz : Nat) (D : Nat → Int32) (tx : Nat → Int32) (partsr : Int32) (limitr : Int32) (lenr : Nat → Int32) (rowr : Nat → Int32) (votr : Nat → Int32) {Q : Int32 → (Nat → Int32) → (Int32) → (Nat → Int32) → (Nat → Int32) → (Nat → Int32) → Prop} (hv : vX4_readPart D tx partsr limitr lenr rowr votr Q) : Met l yX4_readPart wsX4_readPart rmX4_readPart (va_Pc [.ref qd] (fun U => U.heap.size = sz ∧ va_P g.1 vwCl [(qd, .inr (4, [.ref qtr, .ref qtx, .int (D 2), .int (D 3), .int (D 4), .int (D 5), .int (D 6), .int (D 7), .int (D 8)])), (qtx, .inl (g.2 1, 500, .inl tx)), (qtr, .inr (7, [.ref qlr, .ref qrr, .ref qvr, .ref qgr, .int partsr, .int limitr])), (qlr, .inl (g.2 0, 5, .inl lenr)), (qrr, .inl (g.2 0, 5, .inl rowr)), (qvr, .inl (g.2 0, 5, .inl votr))] U.heap ∧ GK g U ∧ va_D (fun _ => True) [(qd, .inr (4, [.ref qtr, .ref qtx, .int (D 2), .int (D 3), .int (D 4), .int (D 5), .int (D 6), .int (D 7), .int (D 8)])), (qtx, .inl (g.2 1, 500, .inl tx)), (qtr, .inr (7, [.ref qlr, .ref qrr, .ref qvr, .ref qgr, .int partsr, .int limitr])), (qlr, .inl (g.2 0, 5, .inl lenr)), (qrr, .inl (g.2 0, 5, .inl rowr)), (qvr, .inl (g.2 0, 5, .inl votr))])) (va_Qi (fun (r : Int32) (u : (Nat → Int32) × Int32 × (Nat → Int32) × (Nat → Int32) × (Nat → Int32)) => Q r u.1 u.2.1 u.2.2.1 u.2.2.2.1 u.2.2.2.2) (fun (u : (Nat → Int32) × Int32 × (Nat → Int32) × (Nat → Int32) × (Nat → Int32)) t => va_P g.1 vwCl [(qd, .inr (4, [.ref qtr, .ref qtx, .int (u.1 2), .int (u.1 3), .int (u.1 4), .int (u.1 5), .int (u.1 6), .int (u.1 7), .int (u.1 8)])), (qtx, .inl (g.2 1, 500, .inl tx)), (qtr, .inr (7, [.ref qlr, .ref qrr, .ref qvr, .ref qgr, .int u.2.1, .int limitr])), (qlr, .inl (g.2 0, 5, .inl u.2.2.1)), (qrr, .inl (g.2 0, 5, .inl u.2.2.2.1)), (qvr, .inl (g.2 0, 5, .inl u.2.2.2.2))] t.heap ∧ va_D (va_A [(qd, .inr (4, [.ref qtr, .ref qtx, .int (D 2), .int (D 3), .int (D 4), .int (D 5), .int (D 6), .int (D 7), .int (D 8)])), (qtx, .inl (g.2 1, 500, .inl tx)), (qtr, .inr (7, [.ref qlr, .ref qrr, .ref qvr, .ref qgr, .int partsr, .int limitr])), (qlr, .inl (g.2 0, 5, .inl lenr)), (qrr, .inl (g.2 0, 5, .inl rowr)), (qvr, .inl (g.2 0, 5, .inl votr))] sz) [(qd, .inr (4, [.ref qtr, .ref qtx, .int (u.1 2), .int (u.1 3), .int (u.1 4), .int (u.1 5), .int (u.1 6), .int (u.1 7), .int (u.1 8)])), (qtx, .inl (g.2 1, 500, .inl tx)), (qtr, .inr (7, [.ref qlr, .ref qrr, .ref qvr, .ref qgr, .int u.2.1, .int limitr])), (qlr, .inl (g.2 0, 5, .inl u.2.2.1)), (qrr, .inl (g.2 0, 5, .inl u.2.2.2.1)), (qvr, .inl (g.2 0, 5, .inl u.2.2.2.2))]) (va_A [(qd, .inr (4, [.ref qtr, .ref qtx, .int (D 2), .int (D 3), .int (D 4), .int (D 5), .int (D 6), .int (D 7), .int (D 8)])), (qtx, .inl (g.2 1, 500, .inl tx)), (qtr, .inr (7, [.ref qlr, .ref qrr, .ref qvr, .ref qgr, .int partsr, .int limitr])), (qlr, .inl (g.2 0, 5, .inl lenr)), (qrr, .inl (g.2 0, 5, .inl rowr)), (qvr, .inl (g.2 0, 5, .inl votr))] sz)) 0 0 (va_A [(qd, .inr (4, [.ref qtr, .ref qtx, .int (D 2), .int (D 3), .int (D 4), .int (D 5), .int (D 6), .int (D 7), .int (D 8)])), (qtx, .inl (g.2 1, 500, .inl tx)), (qtr, .inr (7, [.ref qlr, .ref qrr, .ref qvr, .ref qgr, .int partsr, .int limitr])), (qlr, .inl (g.2 0, 5, .inl lenr)), (qrr, .inl (g.2 0, 5, .inl rowr)), (qvr, .inl (g.2 0, 5, .inl votr))] sz) := by
  refine Met.ofW (cc := cX4_readPart) (maxL := 3) (ret := (some .boolean)) (by decide) rfl ?_
  intro p e s m args below meth c s₁ B hml hv'
  obtain ⟨rfl, hsz, hP, hG, hD0⟩ := hv'
  have S : CallFix p m c cX4_readPart 3 s _ wsX4_readPart RX4 := ⟨B.exec, B.bytes, hml, findClass_of_methodNamed B.named, atoms_spec (ws := wsX4_readPart) B.pre⟩
  obtain ⟨hx, hb, hml, hown, hts⟩ := id S
  have hK := hG.1
  have hr := B.returns
  have hlocks := B.notSynchronized
  subst hsz
  have hD := hD0.self (sz := s.heap.size)
  generalize hAe : va_A [(qd, .inr (4, [.ref qtr, .ref qtx, .int (D 2), .int (D 3), .int (D 4), .int (D 5), .int (D 6), .int (D 7), .int (D 8)])), (qtx, .inl (g.2 1, 500, .inl tx)), (qtr, .inr (7, [.ref qlr, .ref qrr, .ref qvr, .ref qgr, .int partsr, .int limitr])), (qlr, .inl (g.2 0, 5, .inl lenr)), (qrr, .inl (g.2 0, 5, .inl rowr)), (qvr, .inl (g.2 0, 5, .inl votr))] s.heap.size = A at hD ⊢
  have hA : ∀ q : Nat, s.heap.size ≤ q → A q := fun q h => by rw [← hAe]; exact Or.inr h
  have hS : va_S A s.heap s.heap [] := va_S.rf
  clear hD0 hAe
  have hl := lv_entry ([.ref qd]) (n := 3) (Nat.le_of_ble_eq_true rfl)
  rw [lg_entry_eq]
  generalize (lg_sl ([.ref qd]) ++ List.replicate (3 - (lg_sl ([.ref qd])).length) Slot.unset).toArray = ls at hl ⊢
  have hl : lv_has ls 3 [(0, .ref qd)] := hl
  unfold vX4_readPart at hv
  refine lv_aload_n hx hb dX4_readPart_0 rfl (lv_at hl 0 rfl) ?_
  refine va_get (D := g.1) (ci := 4) (v := .ref qtr) (C := RX4) (T := TX4) (N := 9) hx hb hts inX4_readPart_4 hown hK hP 0 rfl rfl 0 (by decide) (hts (.fieldLink RX4 12 "RangeCodes$Reader" "told" "LRangeCodes$Told;") (List.mem_of_getElem? (i := 1) rfl)) (fun _ h9 => h9) rfl dX4_readPart_1 ?_
  refine va_get (D := g.1) (ci := 7) (v := .int partsr) (C := RX7) (T := TX7) (N := 6) hx hb hts inX4_readPart_7 hown hK hP 2 rfl rfl 4 (by decide) (hts (.fieldLink RX4 86 "RangeCodes$Told" "parts" "I") (List.mem_of_getElem? (i := 2) rfl)) (fun _ h9 => h9) rfl dX4_readPart_4 ?_
  refine lv_iconst (v := (5 : Int32)) hx hb dX4_readPart_7 (by decide) ?_
  obtain ⟨hvt, hvf⟩ := hv
  refine lv_icmp_lt (tgt := 16) hx hb dX4_readPart_8 (by decide) (fun hc => ?_) (fun hc => ?_)
  · have hv := hvt hc
    exact kX4_readPart_c16 S hr hlocks hG hA _ _ _ _ _ hv _ _ (hP.sub (ws' := [(qd, .inr (4, [.ref qtr, .ref qtx, .int (D 2), .int (D 3), .int (D 4), .int (D 5), .int (D 6), .int (D 7), .int (D 8)])), (qtx, .inl (g.2 1, 500, .inl tx)), (qtr, .inr (7, [.ref qlr, .ref qrr, .ref qvr, .ref qgr, .int partsr, .int limitr])), (qlr, .inl (g.2 0, 5, .inl lenr)), (qrr, .inl (g.2 0, 5, .inl rowr)), (qvr, .inl (g.2 0, 5, .inl votr))]) [0, 1, 2, 3, 4, 5] rfl) (hD.sub (ws' := [(qd, .inr (4, [.ref qtr, .ref qtx, .int (D 2), .int (D 3), .int (D 4), .int (D 5), .int (D 6), .int (D 7), .int (D 8)])), (qtx, .inl (g.2 1, 500, .inl tx)), (qtr, .inr (7, [.ref qlr, .ref qrr, .ref qvr, .ref qgr, .int partsr, .int limitr])), (qlr, .inl (g.2 0, 5, .inl lenr)), (qrr, .inl (g.2 0, 5, .inl rowr)), (qvr, .inl (g.2 0, 5, .inl votr))]) [0, 1, 2, 3, 4, 5] (by decide) rfl) hS ls (lv_sub hl [0] rfl)
  · have hv := hvf hc
    refine lv_aload_n hx hb dX4_readPart_11 rfl (lv_at hl 0 rfl) ?_
    refine lv_iconst (v := (3 : Int32)) hx hb dX4_readPart_12 (by decide) ?_
    obtain ⟨ho_1, hv⟩ := hv
    have hPc := hP.sub (ws' := [(qd, .inr (4, [.ref qtr, .ref qtx, .int (D 2), .int (D 3), .int (D 4), .int (D 5), .int (D 6), .int (D 7), .int (D 8)]))]) [0] rfl
    have hDc := hD.sub (ws' := [(qd, .inr (4, [.ref qtr, .ref qtx, .int (D 2), .int (D 3), .int (D 4), .int (D 5), .int (D 6), .int (D 7), .int (D 8)]))]) [0] (by decide) rfl
    have hFc := va_free (wc := [(qd, .inr (4, [.ref qtr, .ref qtx, .int (D 2), .int (D 3), .int (D 4), .int (D 5), .int (D 6), .int (D 7), .int (D 8)]))]) hD hS hA [0] rfl
    refine va_callv (va_runV (As := [.int (3 : Int32)]) (rest := []) S (wX4_note l g qd qtr qtx s.heap.size D (3 : Int32) (sX4_note D (3 : Int32) ho_1)) (cwV 1 hts gX4_readPart_X4_note rfl rfl rfl (by decide +kernel) ⟨Nat.le_of_ble_eq_true rfl, Nat.le_of_ble_eq_true rfl⟩) ⟨blindRW, va_recv hK hP (ci := 4) (q0 := 0) rfl rfl, fun U hU hW => ⟨rfl, by rw [hU], by rw [hU]; exact hPc, hG.warm hW, hDc.weaken (fun _ _ _ _ => trivial)⟩⟩ rfl rfl hl.1 rfl (lv_room (Nat.le_of_ble_eq_true rfl)) dX4_readPart_13 ⟨Nat.le_of_ble_eq_true rfl, Nat.le_of_ble_eq_true rfl⟩) hS (fun q _ h => hFc q h) hFc (fun u t H1 locs ht hvm hw hB hz1 hk1 hS => ?_)
    obtain ⟨D_13, rfl⟩ : ∃ z, z = u := ⟨_, rfl⟩
    obtain ⟨hP1, hD1⟩ := hB
    rw [ht] at hP1
    have hv := hv D_13 hw
    obtain ⟨hP, hD⟩ := va_join (wr := [(qtx, .inl (g.2 1, 500, .inl tx)), (qtr, .inr (7, [.ref qlr, .ref qrr, .ref qvr, .ref qgr, .int partsr, .int limitr])), (qlr, .inl (g.2 0, 5, .inl lenr)), (qrr, .inl (g.2 0, 5, .inl rowr)), (qvr, .inl (g.2 0, 5, .inl votr))]) (w1 := [(qd, .inr (4, [.ref qtr, .ref qtx, .int (D_13 2), .int (D_13 3), .int (D_13 4), .int (D_13 5), .int (D_13 6), .int (D_13 7), .int (D_13 8)]))]) hP hD [0] [1, 2, 3, 4, 5] rfl rfl (by decide) (by decide) hk1 hFc hP1 hD1
    clear hP1 hD1 hPc hDc hFc hk1
    generalize H1 = H at hP hS ⊢
    have hP : va_P g.1 vwCl [(qtx, .inl (g.2 1, 500, .inl tx)), (qtr, .inr (7, [.ref qlr, .ref qrr, .ref qvr, .ref qgr, .int partsr, .int limitr])), (qlr, .inl (g.2 0, 5, .inl lenr)), (qrr, .inl (g.2 0, 5, .inl rowr)), (qvr, .inl (g.2 0, 5, .inl votr)), (qd, .inr (4, [.ref qtr, .ref qtx, .int (D_13 2), .int (D_13 3), .int (D_13 4), .int (D_13 5), .int (D_13 6), .int (D_13 7), .int (D_13 8)]))] H := hP
    have hD : va_D A [(qtx, .inl (g.2 1, 500, .inl tx)), (qtr, .inr (7, [.ref qlr, .ref qrr, .ref qvr, .ref qgr, .int partsr, .int limitr])), (qlr, .inl (g.2 0, 5, .inl lenr)), (qrr, .inl (g.2 0, 5, .inl rowr)), (qvr, .inl (g.2 0, 5, .inl votr)), (qd, .inr (4, [.ref qtr, .ref qtx, .int (D_13 2), .int (D_13 3), .int (D_13 4), .int (D_13 5), .int (D_13 6), .int (D_13 7), .int (D_13 8)]))] := hD
    exact kX4_readPart_c16 S hr hlocks hG hA _ _ _ _ _ hv _ _ (hP.sub (ws' := [(qd, .inr (4, [.ref qtr, .ref qtx, .int (D_13 2), .int (D_13 3), .int (D_13 4), .int (D_13 5), .int (D_13 6), .int (D_13 7), .int (D_13 8)])), (qtx, .inl (g.2 1, 500, .inl tx)), (qtr, .inr (7, [.ref qlr, .ref qrr, .ref qvr, .ref qgr, .int partsr, .int limitr])), (qlr, .inl (g.2 0, 5, .inl lenr)), (qrr, .inl (g.2 0, 5, .inl rowr)), (qvr, .inl (g.2 0, 5, .inl votr))]) [5, 0, 1, 2, 3, 4] rfl) (hD.sub (ws' := [(qd, .inr (4, [.ref qtr, .ref qtx, .int (D_13 2), .int (D_13 3), .int (D_13 4), .int (D_13 5), .int (D_13 6), .int (D_13 7), .int (D_13 8)])), (qtx, .inl (g.2 1, 500, .inl tx)), (qtr, .inr (7, [.ref qlr, .ref qrr, .ref qvr, .ref qgr, .int partsr, .int limitr])), (qlr, .inl (g.2 0, 5, .inl lenr)), (qrr, .inl (g.2 0, 5, .inl rowr)), (qvr, .inl (g.2 0, 5, .inl votr))]) [5, 0, 1, 2, 3, 4] (by decide) rfl) hS ls (lv_sub hl [0] rfl)
/-- parts in the reader -/
def rdP (T : Cd) (f : Ft) (parts : Int32) (len row vot : Nat → Int32) : Prop := (f.1 = 0 → isN T parts ∧ isL T len ∧ isR T row ∧ isV T vot) ∧ 0 ≤ parts.toInt ∧ parts.toInt ≤ 5
theorem rwN_lt (b : Nat → Int32) (nb i : Nat) : rwN b nb i < 2 ^ (tE b nb i - tS b nb i) := trN_lt _ _
theorem isT_part {b : Nat → Int32} {nb i : Nat} {T : Cd} {parts : Int32} {len row vot : Nat → Int32} (h : isN T parts ∧ isL T len ∧ isR T row ∧ isV T vot) (hn : cn T < 5) (h2 : 2 ≤ tE b nb i - tS b nb i) (h13 : tE b nb i - tS b nb i ≤ 13) (hv : tV b nb (tE b nb i) ≤ 9) {parts' x y z : Int32} (hp : parts'.toInt = parts.toInt + 1) (hx : x.toInt = ((tE b nb i - tS b nb i : Nat) : Int)) (hy : y.toInt = (rwN b nb i : Int)) (hz : z.toInt = (tV b nb (tE b nb i) : Int)) : isN (partT b nb i T) parts' ∧ isL (partT b nb i T) (upd len parts.toInt.toNat x) ∧ isR (partT b nb i T) (upd row parts.toInt.toNat y) ∧ isV (partT b nb i T) (upd vot parts.toInt.toNat z) := by
  obtain ⟨a1, a2, a3, a4⟩ := h
  have e : parts.toInt.toNat = cn T := by have := a1.1; omega
  have en : cn (partT b nb i T) = cn T + 1 := rfl
  have eL : ∀ q, cL (partT b nb i T) q = if q = cn T then tE b nb i - tS b nb i else cL T q := fun _ => rfl
  have eR : ∀ q, cR (partT b nb i T) q = if q = cn T then rwN b nb i else cR T q := fun _ => rfl
  have eV : ∀ q, cV (partT b nb i T) q = if q = cn T then tV b nb (tE b nb i) else cV T q := fun _ => rfl
  rw [e]
  refine ⟨⟨by rw [en, hp, a1.1]; omega, by rw [en]; omega⟩, fun q hq => ?_, fun q hq => ?_, fun q hq => ?_⟩
  · rw [en] at hq
    rw [eL]
    by_cases c : q = cn T
    · rw [c, upd_eq, if_pos rfl]; exact ⟨hx, h2, h13⟩
    · rw [upd_ne c, if_neg c]; exact a2 q (by omega)
  · rw [en] at hq
    rw [eR, eL]
    by_cases c : q = cn T
    · rw [c, upd_eq, if_pos rfl, if_pos rfl]; exact ⟨hy, rwN_lt b nb i⟩
    · rw [upd_ne c, if_neg c, if_neg c]; exact a3 q (by omega)
  · rw [en] at hq
    rw [eV]
    by_cases c : q = cn T
    · rw [c, upd_eq, if_pos rfl]; exact ⟨hz, hv⟩
    · rw [upd_ne c, if_neg c]; exact a4 q (by omega)
abbrev preX4_readPart (b : Nat → Int32) (nb : Nat) (i : Nat) (T : Cd) (D : Nat → Int32) (tx : Nat → Int32) (partsr : Int32) (limitr : Int32) (lenr : Nat → Int32) (rowr : Nat → Int32) (votr : Nat → Int32) : Prop := preX4_step b nb i D tx ∧ 0 ≤ (D 6).toInt ∧ rdP T (fl D) partsr lenr rowr votr
abbrev postX4_readPart (b : Nat → Int32) (nb : Nat) (i : Nat) (T : Cd) (D : Nat → Int32) (tx : Nat → Int32) (partsr : Int32) (limitr : Int32) (lenr : Nat → Int32) (rowr : Nat → Int32) (votr : Nat → Int32) (r : Int32) (D' : Nat → Int32) (partsr' : Int32) (lenr' : Nat → Int32) (rowr' : Nat → Int32) (votr' : Nat → Int32) : Prop := rdA nb (sgnS b nb (partS b nb i (D 6).toInt.toNat (cn T) (fl D))) r D' ∧ rdP (partT b nb i T) (sgnS b nb (partS b nb i (D 6).toInt.toNat (cn T) (fl D))).2.2 partsr' lenr' rowr' votr'
theorem sX4_readPart_16 (b : Nat → Int32) (nb : Nat) (i : Nat) (T : Cd) (D : Nat → Int32) (tx : Nat → Int32) (partsr : Int32) (limitr : Int32) (lenr : Nat → Int32) (rowr : Nat → Int32) (votr : Nat → Int32) (H : preX4_readPart b nb i T D tx partsr limitr lenr rowr votr) (D1 : Nat → Int32) (hs1 : preX4_step b nb i D1 tx) (hf1 : fl D1 = if 5 ≤ cn T then noF (fl D) 3 (D 6).toInt.toNat else fl D) : vX4_readPart_c16 tx limitr (postX4_readPart b nb i T D tx partsr limitr lenr rowr votr) D1 partsr lenr rowr votr := by
  obtain ⟨hs, h6, hg, hm0, hm1⟩ := id H
  have hi := hs.2.2.1
  have htx := hs.2.2.2.2
  refine ⟨b, nb, i, hs1, fun D2 h2 => ?_⟩
  obtain ⟨hr, hk⟩ := h2
  have hf := fl_kp hk
  have hie := tE_le b hi
  unfold postX4_readPart partS
  refine ⟨b, nb, i, ⟨hr, htx⟩, fun r3 h3 => ?_⟩
  have h3 : r3 = if rwB b nb i = true then 1 else 0 := h3
  rw [h3, q_if1]
  refine ⟨fun c => ?_, fun c => ⟨trivial, fun r4 D4 h4 => ?_⟩⟩
  · have c := Decidable.not_not.mp c
    rw [if_pos c]
    obtain ⟨c1, c2, c3⟩ := of_decide_eq_true c
    have h13 := (tK_1 c1).2.2
    refine ⟨b, nb, i, ⟨hr, htx, h13⟩, fun r4 h4 => ⟨b, nb, tE b nb i, rdK_st hr htx, fun r5 D5 h5 => ?_⟩⟩
    have h4 : r4.toInt = (rwN b nb i : Int) := h4
    obtain ⟨h5a, h5b, h5c⟩ := h5
    rw [z1, z9, hf, hf1] at h5a h5b h5c
    rw [h5a, q_if1]
    refine ⟨fun d => ?_, fun d => ?_⟩
    · have d := Decidable.not_not.mp d
      have hk5 := numS_t.mp d
      have hr5 := h5c d
      have h8 := hr5.2.2.2.2.2.2 hk5
      have eo : numS b nb (tE b nb i) 1 9 (if 5 ≤ cn T then noF (fl D) 3 (D 6).toInt.toNat else fl D) = (true, tE b nb (tE b nb i), fl D5) := by rw [h5b, ← d, ← numS_p hk5]
      refine ⟨⟨hm0, hm1⟩, fun pa le ro vo hq => ⟨b, nb, tE b nb (tE b nb i), rdK_st hr5 htx, fun r6 D6 h6' => ⟨nar_if h6'.1, ?_⟩⟩⟩
      have hA := rdA_sg rfl h6'
      rw [← eo] at hA
      refine ⟨hA, fun z => ?_, ?_, ?_⟩
      · have z := (sgnS_f z (fun q => numS_n q)).2
        have q := numS_0 z
        have q2 := if_f (by decide) q.2.1
        have hT := hg q2.1
        rcases hq with ⟨e1, e2, e3, e4, e5⟩ | ⟨e1, _⟩
        · subst e3 e4 e5
          exact isT_part hT (by omega) c2 h13 (by have := q.2.2.2.1; omega) e2 (by rw [q_subN hr.2.2.2.2.1 hr.2.2.2.1 hie.1 (by have := hr.2.1; omega)]) h4 h8
        · have := hT.1.1; omega
      · rcases hq with ⟨e1, e2, _⟩ | ⟨e1, e2, _⟩
        · omega
        · rw [e2]; exact hm0
      · rcases hq with ⟨e1, e2, _⟩ | ⟨e1, e2, _⟩
        · omega
        · rw [e2]; exact hm1
    · have d : (numS b nb (tE b nb i) 1 9 (if 5 ≤ cn T then noF (fl D) 3 (D 6).toInt.toNat else fl D)).1 = false := by simpa using d
      refine ⟨rdA_no d h5b, fun z => ?_, hm0, hm1⟩
      exact absurd (sgnS_f z (fun q => numS_n q)).1 (by rw [d]; decide)
  · rw [if_neg c]
    obtain ⟨e1, e2⟩ := h4
    subst e1
    refine ⟨rfl, rdA_no rfl (by rw [e2, hr.2.2.2.1]; rfl), fun z => ?_, hm0, hm1⟩
    rw [rfS_n] at z
    exact absurd z (by show (1 : Int) ≠ 0; decide)
theorem sX4_readPart (b : Nat → Int32) (nb : Nat) (i : Nat) (T : Cd) (D : Nat → Int32) (tx : Nat → Int32) (partsr : Int32) (limitr : Int32) (lenr : Nat → Int32) (rowr : Nat → Int32) (votr : Nat → Int32) (H : preX4_readPart b nb i T D tx partsr limitr lenr rowr votr) : vX4_readPart D tx partsr limitr lenr rowr votr (postX4_readPart b nb i T D tx partsr limitr lenr rowr votr) := by
  obtain ⟨hs, h6, hg, hm0, hm1⟩ := id H
  have key : (if partsr.toInt ≥ 5 then noF (fl D) 3 (D 6).toInt.toNat else fl D) = if 5 ≤ cn T then noF (fl D) 3 (D 6).toInt.toNat else fl D := if_k (fun z => by have := (hg z).1.1; omega)
  unfold vX4_readPart
  rw [fa_lt, z5]
  refine ⟨fun c => sX4_readPart_16 b nb i T D tx partsr limitr lenr rowr votr H D hs (by rw [← key, if_neg (by omega)]), fun c => ⟨h6, fun D1 h1 => sX4_readPart_16 b nb i T D tx partsr limitr lenr rowr votr H D1 ?_ (by rw [← key, if_pos (by omega), h1.1]; rfl)⟩⟩
  refine ⟨?_, hs.2.1, hs.2.2.1, ?_, hs.2.2.2.2⟩
  · rw [h1.2 4 (by decide)]; exact hs.1
  · rw [h1.2 7 (by decide)]; exact hs.2.2.2.1
set_option maxRecDepth 20000 in
theorem ggX4_readStatement_X4_isWord : GoodIn wsX4_readStatement wsX4_isWord := goodIn_r _ [9, 10, 11, 12, 13, 14, 15, 16, 17, 18, 19, 20, 21, 22, 23, 24, 25, 26, 27, 28, 29, 30, 31, 32, 33, 34, 35, 36, 37, 38, 39, 40, 41, 42, 43, 44, 45, 46, 47, 48, 49, 50, 51, 52, 53, 54, 55, 56, 57, 58, 59, 60, 61, 62, 148, 149, 150, 151, 152, 153, 154, 155, 156] (by decide +kernel) (by decide +kernel)
set_option maxRecDepth 20000 in
theorem gX4_readStatement_X4_isWord : GoodIn wsX4_readStatement (wsV RX4 50 RX4 yX4_isWord wsX4_isWord) := goodIn_app (goodIn_of _ (by decide +kernel)) ggX4_readStatement_X4_isWord
set_option maxRecDepth 20000 in
theorem ggX4_readStatement_X4_readPart : GoodIn wsX4_readStatement wsX4_readPart := goodIn_r _ [66, 1, 67, 11, 12, 2, 68, 69, 70, 8, 71, 72, 73, 74, 75, 76, 77, 78, 13, 10, 79, 80, 81, 82, 83, 84, 85, 86, 87, 88, 89, 90, 91, 92, 93, 94, 95, 96, 97, 98, 99, 100, 101, 102, 103, 104, 105, 106, 107, 108, 109, 110, 111, 112, 113, 114, 115, 116, 148, 149, 150, 151, 152, 153, 154, 155, 156, 157, 158, 159, 160, 161, 162] (by decide +kernel) (by decide +kernel)
set_option maxRecDepth 20000 in
theorem gX4_readStatement_X4_readPart : GoodIn wsX4_readStatement (wsV RX4 54 RX4 yX4_readPart wsX4_readPart) := goodIn_app (goodIn_of _ (by decide +kernel)) ggX4_readStatement_X4_readPart
set_option maxRecDepth 20000 in
theorem ggX4_readStatement_X4_readNumber : GoodIn wsX4_readStatement wsX4_readNumber := goodIn_r _ [103, 10, 2, 74, 75, 76, 8, 77, 11, 78, 13, 12, 79, 80, 81, 82, 83, 84, 85, 86, 87, 92, 93, 94, 95, 72, 73, 68, 69, 70, 71, 148, 149, 150, 151, 152, 153, 154, 155, 156] (by decide +kernel) (by decide +kernel)
set_option maxRecDepth 20000 in
theorem gX4_readStatement_X4_readNumber : GoodIn wsX4_readStatement (wsV RX4 59 RX4 yX4_readNumber wsX4_readNumber) := goodIn_app (goodIn_of _ (by decide +kernel)) ggX4_readStatement_X4_readNumber
set_option maxRecDepth 20000 in
theorem ggX4_readStatement_X4_readSign : GoodIn wsX4_readStatement wsX4_readSign := goodIn_r _ [116, 10, 74, 75, 76, 8, 77, 11, 78, 13, 12, 2, 79, 80, 81, 82, 83, 84, 85, 86, 87, 92, 93, 94, 95, 72, 73, 148, 149, 150, 151, 152, 153, 154, 155, 156] (by decide +kernel) (by decide +kernel)
set_option maxRecDepth 20000 in
theorem gX4_readStatement_X4_readSign : GoodIn wsX4_readStatement (wsV RX4 68 RX4 yX4_readSign wsX4_readSign) := goodIn_app (goodIn_of _ (by decide +kernel)) ggX4_readStatement_X4_readSign
set_option maxRecDepth 20000 in
theorem ggX4_readStatement_X4_readLeg : GoodIn wsX4_readStatement wsX4_readLeg := goodIn_r _ [120, 74, 75, 76, 8, 77, 11, 78, 13, 12, 2, 10, 79, 80, 81, 82, 83, 84, 85, 86, 87, 121, 122, 123, 124, 5, 6, 7, 9, 14, 15, 16, 17, 18, 19, 20, 21, 22, 23, 24, 25, 26, 27, 28, 29, 30, 31, 32, 33, 34, 35, 36, 37, 38, 39, 40, 41, 42, 43, 44, 45, 46, 47, 48, 49, 50, 51, 52, 53, 54, 55, 56, 57, 58, 59, 60, 61, 62, 125, 126, 127, 128, 129, 100, 101, 102, 103, 92, 93, 94, 95, 72, 73, 68, 69, 70, 71, 113, 114, 115, 116, 130, 131, 132, 133, 134, 135, 136, 137, 138, 139, 140, 141, 142, 143, 144, 145, 146, 147, 148, 149, 150, 151, 152, 153, 154, 155, 156, 163, 164, 165, 166, 167] (by decide +kernel) (by decide +kernel)
set_option maxRecDepth 20000 in
theorem gX4_readStatement_X4_readLeg : GoodIn wsX4_readStatement (wsV RX4 77 RX4 yX4_readLeg wsX4_readLeg) := goodIn_app (goodIn_of _ (by decide +kernel)) ggX4_readStatement_X4_readLeg
set_option maxRecDepth 20000 in
theorem ggX4_readStatement_X4_refuse : GoodIn wsX4_readStatement wsX4_refuse := goodIn_r _ [95, 72, 12, 73, 148, 149, 150, 151, 152, 153, 154, 155, 156] (by decide +kernel) (by decide +kernel)
set_option maxRecDepth 20000 in
theorem gX4_readStatement_X4_refuse : GoodIn wsX4_readStatement (wsV RX4 83 RX4 yX4_refuse wsX4_refuse) := goodIn_app (goodIn_of _ (by decide +kernel)) ggX4_readStatement_X4_refuse
theorem dX4_readStatement_0 : decode cX4_readStatement 0 = .ok (.aload_n 0, 1) := by decide +kernel
theorem dX4_readStatement_1 : decode cX4_readStatement 1 = .ok (.ldc 48, 2) := by decide +kernel
theorem dX4_readStatement_3 : decode cX4_readStatement 3 = .ok (.invokevirtual 50, 3) := by decide +kernel
theorem dX4_readStatement_6 : decode cX4_readStatement 6 = .ok (.ifCond .eq 8, 3) := by decide +kernel
theorem dX4_readStatement_9 : decode cX4_readStatement 9 = .ok (.aload_n 0, 1) := by decide +kernel
theorem dX4_readStatement_10 : decode cX4_readStatement 10 = .ok (.invokevirtual 54, 3) := by decide +kernel
theorem dX4_readStatement_13 : decode cX4_readStatement 13 = .ok (.ireturn, 1) := by decide +kernel
theorem dX4_readStatement_14 : decode cX4_readStatement 14 = .ok (.aload_n 0, 1) := by decide +kernel
theorem dX4_readStatement_15 : decode cX4_readStatement 15 = .ok (.ldc 57, 2) := by decide +kernel
theorem dX4_readStatement_17 : decode cX4_readStatement 17 = .ok (.invokevirtual 50, 3) := by decide +kernel
theorem dX4_readStatement_20 : decode cX4_readStatement 20 = .ok (.ifCond .eq 32, 3) := by decide +kernel
theorem dX4_readStatement_23 : decode cX4_readStatement 23 = .ok (.aload_n 0, 1) := by decide +kernel
theorem dX4_readStatement_24 : decode cX4_readStatement 24 = .ok (.iconst 1, 1) := by decide +kernel
theorem dX4_readStatement_25 : decode cX4_readStatement 25 = .ok (.sipush 9999, 3) := by decide +kernel
theorem dX4_readStatement_28 : decode cX4_readStatement 28 = .ok (.invokevirtual 59, 3) := by decide +kernel
theorem dX4_readStatement_31 : decode cX4_readStatement 31 = .ok (.ifCond .ne 5, 3) := by decide +kernel
theorem dX4_readStatement_34 : decode cX4_readStatement 34 = .ok (.iconst 0, 1) := by decide +kernel
theorem dX4_readStatement_35 : decode cX4_readStatement 35 = .ok (.ireturn, 1) := by decide +kernel
theorem dX4_readStatement_36 : decode cX4_readStatement 36 = .ok (.aload_n 0, 1) := by decide +kernel
theorem dX4_readStatement_37 : decode cX4_readStatement 37 = .ok (.getfield 12, 3) := by decide +kernel
theorem dX4_readStatement_40 : decode cX4_readStatement 40 = .ok (.aload_n 0, 1) := by decide +kernel
theorem dX4_readStatement_41 : decode cX4_readStatement 41 = .ok (.getfield 63, 3) := by decide +kernel
theorem dX4_readStatement_44 : decode cX4_readStatement 44 = .ok (.putfield 66, 3) := by decide +kernel
theorem dX4_readStatement_47 : decode cX4_readStatement 47 = .ok (.aload_n 0, 1) := by decide +kernel
theorem dX4_readStatement_48 : decode cX4_readStatement 48 = .ok (.invokevirtual 68, 3) := by decide +kernel
theorem dX4_readStatement_51 : decode cX4_readStatement 51 = .ok (.ireturn, 1) := by decide +kernel
theorem dX4_readStatement_52 : decode cX4_readStatement 52 = .ok (.aload_n 0, 1) := by decide +kernel
theorem dX4_readStatement_53 : decode cX4_readStatement 53 = .ok (.ldc 71, 2) := by decide +kernel
theorem dX4_readStatement_55 : decode cX4_readStatement 55 = .ok (.invokevirtual 50, 3) := by decide +kernel
theorem dX4_readStatement_58 : decode cX4_readStatement 58 = .ok (.ifCond .eq 17, 3) := by decide +kernel
theorem dX4_readStatement_61 : decode cX4_readStatement 61 = .ok (.aload_n 0, 1) := by decide +kernel
theorem dX4_readStatement_62 : decode cX4_readStatement 62 = .ok (.aload_n 0, 1) := by decide +kernel
theorem dX4_readStatement_63 : decode cX4_readStatement 63 = .ok (.getfield 12, 3) := by decide +kernel
theorem dX4_readStatement_66 : decode cX4_readStatement 66 = .ok (.getfield 73, 3) := by decide +kernel
theorem dX4_readStatement_69 : decode cX4_readStatement 69 = .ok (.iconst 0, 1) := by decide +kernel
theorem dX4_readStatement_70 : decode cX4_readStatement 70 = .ok (.aaload, 1) := by decide +kernel
theorem dX4_readStatement_71 : decode cX4_readStatement 71 = .ok (.invokevirtual 77, 3) := by decide +kernel
theorem dX4_readStatement_74 : decode cX4_readStatement 74 = .ok (.ireturn, 1) := by decide +kernel
theorem dX4_readStatement_75 : decode cX4_readStatement 75 = .ok (.aload_n 0, 1) := by decide +kernel
theorem dX4_readStatement_76 : decode cX4_readStatement 76 = .ok (.ldc 81, 2) := by decide +kernel
theorem dX4_readStatement_78 : decode cX4_readStatement 78 = .ok (.invokevirtual 50, 3) := by decide +kernel
theorem dX4_readStatement_81 : decode cX4_readStatement 81 = .ok (.ifCond .eq 17, 3) := by decide +kernel
theorem dX4_readStatement_84 : decode cX4_readStatement 84 = .ok (.aload_n 0, 1) := by decide +kernel
theorem dX4_readStatement_85 : decode cX4_readStatement 85 = .ok (.aload_n 0, 1) := by decide +kernel
theorem dX4_readStatement_86 : decode cX4_readStatement 86 = .ok (.getfield 12, 3) := by decide +kernel
theorem dX4_readStatement_89 : decode cX4_readStatement 89 = .ok (.getfield 73, 3) := by decide +kernel
theorem dX4_readStatement_92 : decode cX4_readStatement 92 = .ok (.iconst 1, 1) := by decide +kernel
theorem dX4_readStatement_93 : decode cX4_readStatement 93 = .ok (.aaload, 1) := by decide +kernel
theorem dX4_readStatement_94 : decode cX4_readStatement 94 = .ok (.invokevirtual 77, 3) := by decide +kernel
theorem dX4_readStatement_97 : decode cX4_readStatement 97 = .ok (.ireturn, 1) := by decide +kernel
theorem dX4_readStatement_98 : decode cX4_readStatement 98 = .ok (.aload_n 0, 1) := by decide +kernel
theorem dX4_readStatement_99 : decode cX4_readStatement 99 = .ok (.invokevirtual 83, 3) := by decide +kernel
theorem dX4_readStatement_102 : decode cX4_readStatement 102 = .ok (.ireturn, 1) := by decide +kernel
abbrev rmX4_readStatement : Room := { frames := 7, cells := 0, slots := 0, locals := 150 }
theorem inX4_readStatement_4 : ∀ w ∈ wsX40, w ∈ wsX4_readStatement := by decide +kernel
theorem inX4_readStatement_7 : ∀ w ∈ wsX70, w ∈ wsX4_readStatement := by decide +kernel
def vX4_readStatement (D : Nat → Int32) (tx : Nat → Int32) (partsr : Int32) (limitr : Int32) (lenr : Nat → Int32) (rowr : Nat → Int32) (votr : Nat → Int32) (mk0r : Int32) (nu0r : Nat → Int32) (kd0r : Nat → Int32) (fi0r : Nat → Int32) (la0r : Nat → Int32) (mk1r : Int32) (nu1r : Nat → Int32) (kd1r : Nat → Int32) (fi1r : Nat → Int32) (la1r : Nat → Int32) (Q : Int32 → (Nat → Int32) → (Int32) → (Int32) → (Nat → Int32) → (Nat → Int32) → (Nat → Int32) → (Int32) → (Nat → Int32) → (Nat → Int32) → (Nat → Int32) → (Nat → Int32) → (Int32) → (Nat → Int32) → (Nat → Int32) → (Nat → Int32) → (Nat → Int32) → Prop) : Prop := (∃ (b_3 : Nat → Int32) (nb_3 : Nat) (i_3 : Nat), preX4_isWord b_3 nb_3 i_3 D tx 0 ∧ (∀ r_3 : Int32, postX4_isWord b_3 nb_3 i_3 D tx 0 r_3 → ((r_3 = 0 → (∃ (b_17 : Nat → Int32) (nb_17 : Nat) (i_17 : Nat), preX4_isWord b_17 nb_17 i_17 D tx 1 ∧ (∀ r_17 : Int32, postX4_isWord b_17 nb_17 i_17 D tx 1 r_17 → ((r_17 = 0 → (∃ (b_55 : Nat → Int32) (nb_55 : Nat) (i_55 : Nat), preX4_isWord b_55 nb_55 i_55 D tx 2 ∧ (∀ r_55 : Int32, postX4_isWord b_55 nb_55 i_55 D tx 2 r_55 → ((r_55 = 0 → (∃ (b_78 : Nat → Int32) (nb_78 : Nat) (i_78 : Nat), preX4_isWord b_78 nb_78 i_78 D tx 3 ∧ (∀ r_78 : Int32, postX4_isWord b_78 nb_78 i_78 D tx 3 r_78 → ((r_78 = 0 → (preX4_refuse D ∧ (∀ (r_99 : Int32) (D_99 : Nat → Int32), postX4_refuse D r_99 D_99 → (narrow .boolean (.int r_99) = .int r_99 ∧ (Q r_99 D_99 partsr limitr lenr rowr votr mk0r nu0r kd0r fi0r la0r mk1r nu1r kd1r fi1r la1r))))) ∧ (¬ r_78 = 0 → (∃ (b_94 : Nat → Int32) (nb_94 : Nat) (i_94 : Nat) (G_94 : Lg), preX4_readLeg b_94 nb_94 i_94 G_94 D tx mk1r nu1r kd1r fi1r la1r ∧ (∀ (r_94 : Int32) (D_94 : Nat → Int32) (mk_94 : Int32) (nu_94 : Nat → Int32) (kd_94 : Nat → Int32) (fi_94 : Nat → Int32) (la_94 : Nat → Int32), postX4_readLeg b_94 nb_94 i_94 G_94 D tx mk1r nu1r kd1r fi1r la1r r_94 D_94 mk_94 nu_94 kd_94 fi_94 la_94 → (narrow .boolean (.int r_94) = .int r_94 ∧ (Q r_94 D_94 partsr limitr lenr rowr votr mk0r nu0r kd0r fi0r la0r mk_94 nu_94 kd_94 fi_94 la_94))))))))) ∧ (¬ r_55 = 0 → (∃ (b_71 : Nat → Int32) (nb_71 : Nat) (i_71 : Nat) (G_71 : Lg), preX4_readLeg b_71 nb_71 i_71 G_71 D tx mk0r nu0r kd0r fi0r la0r ∧ (∀ (r_71 : Int32) (D_71 : Nat → Int32) (mk_71 : Int32) (nu_71 : Nat → Int32) (kd_71 : Nat → Int32) (fi_71 : Nat → Int32) (la_71 : Nat → Int32), postX4_readLeg b_71 nb_71 i_71 G_71 D tx mk0r nu0r kd0r fi0r la0r r_71 D_71 mk_71 nu_71 kd_71 fi_71 la_71 → (narrow .boolean (.int r_71) = .int r_71 ∧ (Q r_71 D_71 partsr limitr lenr rowr votr mk_71 nu_71 kd_71 fi_71 la_71 mk1r nu1r kd1r fi1r la1r))))))))) ∧ (¬ r_17 = 0 → (∃ (b_28 : Nat → Int32) (nb_28 : Nat) (i_28 : Nat), preX4_readNumber b_28 nb_28 i_28 D tx (1 : Int32) (9999 : Int32) ∧ (∀ (r_28 : Int32) (D_28 : Nat → Int32), postX4_readNumber b_28 nb_28 i_28 D tx (1 : Int32) (9999 : Int32) r_28 D_28 → ((¬ r_28 = 0 → (∃ (b_48 : Nat → Int32) (nb_48 : Nat) (i_48 : Nat), preX4_readSign b_48 nb_48 i_48 D_28 tx ∧ (∀ (r_48 : Int32) (D_48 : Nat → Int32), postX4_readSign b_48 nb_48 i_48 D_28 tx r_48 D_48 → (narrow .boolean (.int r_48) = .int r_48 ∧ (Q r_48 D_48 partsr (D_28 8) lenr rowr votr mk0r nu0r kd0r fi0r la0r mk1r nu1r kd1r fi1r la1r))))) ∧ (r_28 = 0 → (Q (0 : Int32) D_28 partsr limitr lenr rowr votr mk0r nu0r kd0r fi0r la0r mk1r nu1r kd1r fi1r la1r)))))))))) ∧ (¬ r_3 = 0 → (∃ (b_10 : Nat → Int32) (nb_10 : Nat) (i_10 : Nat) (T_10 : Cd), preX4_readPart b_10 nb_10 i_10 T_10 D tx partsr limitr lenr rowr votr ∧ (∀ (r_10 : Int32) (D_10 : Nat → Int32) (partsr_10 : Int32) (lenr_10 : Nat → Int32) (rowr_10 : Nat → Int32) (votr_10 : Nat → Int32), postX4_readPart b_10 nb_10 i_10 T_10 D tx partsr limitr lenr rowr votr r_10 D_10 partsr_10 lenr_10 rowr_10 votr_10 → (narrow .boolean (.int r_10) = .int r_10 ∧ (Q r_10 D_10 partsr_10 limitr lenr_10 rowr_10 votr_10 mk0r nu0r kd0r fi0r la0r mk1r nu1r kd1r fi1r la1r))))))))
set_option maxHeartbeats 4000000 in
set_option maxRecDepth 100000 in
theorem wX4_readStatement (l : Launch) (g : GP) (v : GV) (qd : Nat) (qtr : Nat) (qtx : Nat) (qlr : Nat) (qrr : Nat) (qvr : Nat) (qgr : Nat) (qG0r : Nat) (qn0r : Nat) (qk0r : Nat) (qf0r : Nat) (qs0r : Nat) (qG1r : Nat) (qn1r : Nat) (qk1r : Nat) (qf1r : Nat) (qs1r : Nat) (sz : Nat) (D : Nat → Int32) (tx : Nat → Int32) (partsr : Int32) (limitr : Int32) (lenr : Nat → Int32) (rowr : Nat → Int32) (votr : Nat → Int32) (mk0r : Int32) (nu0r : Nat → Int32) (kd0r : Nat → Int32) (fi0r : Nat → Int32) (la0r : Nat → Int32) (mk1r : Int32) (nu1r : Nat → Int32) (kd1r : Nat → Int32) (fi1r : Nat → Int32) (la1r : Nat → Int32) {Q : Int32 → (Nat → Int32) → (Int32) → (Int32) → (Nat → Int32) → (Nat → Int32) → (Nat → Int32) → (Int32) → (Nat → Int32) → (Nat → Int32) → (Nat → Int32) → (Nat → Int32) → (Int32) → (Nat → Int32) → (Nat → Int32) → (Nat → Int32) → (Nat → Int32) → Prop} (hv : vX4_readStatement D tx partsr limitr lenr rowr votr mk0r nu0r kd0r fi0r la0r mk1r nu1r kd1r fi1r la1r Q) : Met l yX4_readStatement wsX4_readStatement rmX4_readStatement (va_Pc [.ref qd] (fun U => U.heap.size = sz ∧ va_P g.1 vwCl [(qd, .inr (4, [.ref qtr, .ref qtx, .int (D 2), .int (D 3), .int (D 4), .int (D 5), .int (D 6), .int (D 7), .int (D 8)])), (qtx, .inl (g.2 1, 500, .inl tx)), (qtr, .inr (7, [.ref qlr, .ref qrr, .ref qvr, .ref qgr, .int partsr, .int limitr])), (qlr, .inl (g.2 0, 5, .inl lenr)), (qrr, .inl (g.2 0, 5, .inl rowr)), (qvr, .inl (g.2 0, 5, .inl votr)), (qgr, .inl (g.2 4, 2, .inr (.inr (.inr (.inr (lgC qG0r qG1r)))))), (qG0r, .inr (1, [.ref qn0r, .ref qk0r, .ref qf0r, .ref qs0r, .int mk0r])), (qn0r, .inl (g.2 0, 6, .inl nu0r)), (qk0r, .inl (g.2 0, 10, .inl kd0r)), (qf0r, .inl (g.2 0, 10, .inl fi0r)), (qs0r, .inl (g.2 0, 10, .inl la0r)), (qG1r, .inr (1, [.ref qn1r, .ref qk1r, .ref qf1r, .ref qs1r, .int mk1r])), (qn1r, .inl (g.2 0, 6, .inl nu1r)), (qk1r, .inl (g.2 0, 10, .inl kd1r)), (qf1r, .inl (g.2 0, 10, .inl fi1r)), (qs1r, .inl (g.2 0, 10, .inl la1r))] U.heap ∧ GK g U ∧ va_D (fun _ => True) [(qd, .inr (4, [.ref qtr, .ref qtx, .int (D 2), .int (D 3), .int (D 4), .int (D 5), .int (D 6), .int (D 7), .int (D 8)])), (qtx, .inl (g.2 1, 500, .inl tx)), (qtr, .inr (7, [.ref qlr, .ref qrr, .ref qvr, .ref qgr, .int partsr, .int limitr])), (qlr, .inl (g.2 0, 5, .inl lenr)), (qrr, .inl (g.2 0, 5, .inl rowr)), (qvr, .inl (g.2 0, 5, .inl votr)), (qgr, .inl (g.2 4, 2, .inr (.inr (.inr (.inr (lgC qG0r qG1r)))))), (qG0r, .inr (1, [.ref qn0r, .ref qk0r, .ref qf0r, .ref qs0r, .int mk0r])), (qn0r, .inl (g.2 0, 6, .inl nu0r)), (qk0r, .inl (g.2 0, 10, .inl kd0r)), (qf0r, .inl (g.2 0, 10, .inl fi0r)), (qs0r, .inl (g.2 0, 10, .inl la0r)), (qG1r, .inr (1, [.ref qn1r, .ref qk1r, .ref qf1r, .ref qs1r, .int mk1r])), (qn1r, .inl (g.2 0, 6, .inl nu1r)), (qk1r, .inl (g.2 0, 10, .inl kd1r)), (qf1r, .inl (g.2 0, 10, .inl fi1r)), (qs1r, .inl (g.2 0, 10, .inl la1r))] ∧ GE v (va_A [(qd, .inr (4, [.ref qtr, .ref qtx, .int (D 2), .int (D 3), .int (D 4), .int (D 5), .int (D 6), .int (D 7), .int (D 8)])), (qtx, .inl (g.2 1, 500, .inl tx)), (qtr, .inr (7, [.ref qlr, .ref qrr, .ref qvr, .ref qgr, .int partsr, .int limitr])), (qlr, .inl (g.2 0, 5, .inl lenr)), (qrr, .inl (g.2 0, 5, .inl rowr)), (qvr, .inl (g.2 0, 5, .inl votr)), (qgr, .inl (g.2 4, 2, .inr (.inr (.inr (.inr (lgC qG0r qG1r)))))), (qG0r, .inr (1, [.ref qn0r, .ref qk0r, .ref qf0r, .ref qs0r, .int mk0r])), (qn0r, .inl (g.2 0, 6, .inl nu0r)), (qk0r, .inl (g.2 0, 10, .inl kd0r)), (qf0r, .inl (g.2 0, 10, .inl fi0r)), (qs0r, .inl (g.2 0, 10, .inl la0r)), (qG1r, .inr (1, [.ref qn1r, .ref qk1r, .ref qf1r, .ref qs1r, .int mk1r])), (qn1r, .inl (g.2 0, 6, .inl nu1r)), (qk1r, .inl (g.2 0, 10, .inl kd1r)), (qf1r, .inl (g.2 0, 10, .inl fi1r)), (qs1r, .inl (g.2 0, 10, .inl la1r))] sz) U U.heap)) (va_Qi (fun (r : Int32) (u : (Nat → Int32) × Int32 × Int32 × (Nat → Int32) × (Nat → Int32) × (Nat → Int32) × Int32 × (Nat → Int32) × (Nat → Int32) × (Nat → Int32) × (Nat → Int32) × Int32 × (Nat → Int32) × (Nat → Int32) × (Nat → Int32) × (Nat → Int32)) => Q r u.1 u.2.1 u.2.2.1 u.2.2.2.1 u.2.2.2.2.1 u.2.2.2.2.2.1 u.2.2.2.2.2.2.1 u.2.2.2.2.2.2.2.1 u.2.2.2.2.2.2.2.2.1 u.2.2.2.2.2.2.2.2.2.1 u.2.2.2.2.2.2.2.2.2.2.1 u.2.2.2.2.2.2.2.2.2.2.2.1 u.2.2.2.2.2.2.2.2.2.2.2.2.1 u.2.2.2.2.2.2.2.2.2.2.2.2.2.1 u.2.2.2.2.2.2.2.2.2.2.2.2.2.2.1 u.2.2.2.2.2.2.2.2.2.2.2.2.2.2.2) (fun (u : (Nat → Int32) × Int32 × Int32 × (Nat → Int32) × (Nat → Int32) × (Nat → Int32) × Int32 × (Nat → Int32) × (Nat → Int32) × (Nat → Int32) × (Nat → Int32) × Int32 × (Nat → Int32) × (Nat → Int32) × (Nat → Int32) × (Nat → Int32)) t => va_P g.1 vwCl [(qd, .inr (4, [.ref qtr, .ref qtx, .int (u.1 2), .int (u.1 3), .int (u.1 4), .int (u.1 5), .int (u.1 6), .int (u.1 7), .int (u.1 8)])), (qtx, .inl (g.2 1, 500, .inl tx)), (qtr, .inr (7, [.ref qlr, .ref qrr, .ref qvr, .ref qgr, .int u.2.1, .int u.2.2.1])), (qlr, .inl (g.2 0, 5, .inl u.2.2.2.1)), (qrr, .inl (g.2 0, 5, .inl u.2.2.2.2.1)), (qvr, .inl (g.2 0, 5, .inl u.2.2.2.2.2.1)), (qgr, .inl (g.2 4, 2, .inr (.inr (.inr (.inr (lgC qG0r qG1r)))))), (qG0r, .inr (1, [.ref qn0r, .ref qk0r, .ref qf0r, .ref qs0r, .int u.2.2.2.2.2.2.1])), (qn0r, .inl (g.2 0, 6, .inl u.2.2.2.2.2.2.2.1)), (qk0r, .inl (g.2 0, 10, .inl u.2.2.2.2.2.2.2.2.1)), (qf0r, .inl (g.2 0, 10, .inl u.2.2.2.2.2.2.2.2.2.1)), (qs0r, .inl (g.2 0, 10, .inl u.2.2.2.2.2.2.2.2.2.2.1)), (qG1r, .inr (1, [.ref qn1r, .ref qk1r, .ref qf1r, .ref qs1r, .int u.2.2.2.2.2.2.2.2.2.2.2.1])), (qn1r, .inl (g.2 0, 6, .inl u.2.2.2.2.2.2.2.2.2.2.2.2.1)), (qk1r, .inl (g.2 0, 10, .inl u.2.2.2.2.2.2.2.2.2.2.2.2.2.1)), (qf1r, .inl (g.2 0, 10, .inl u.2.2.2.2.2.2.2.2.2.2.2.2.2.2.1)), (qs1r, .inl (g.2 0, 10, .inl u.2.2.2.2.2.2.2.2.2.2.2.2.2.2.2))] t.heap ∧ va_D (va_A [(qd, .inr (4, [.ref qtr, .ref qtx, .int (D 2), .int (D 3), .int (D 4), .int (D 5), .int (D 6), .int (D 7), .int (D 8)])), (qtx, .inl (g.2 1, 500, .inl tx)), (qtr, .inr (7, [.ref qlr, .ref qrr, .ref qvr, .ref qgr, .int partsr, .int limitr])), (qlr, .inl (g.2 0, 5, .inl lenr)), (qrr, .inl (g.2 0, 5, .inl rowr)), (qvr, .inl (g.2 0, 5, .inl votr)), (qgr, .inl (g.2 4, 2, .inr (.inr (.inr (.inr (lgC qG0r qG1r)))))), (qG0r, .inr (1, [.ref qn0r, .ref qk0r, .ref qf0r, .ref qs0r, .int mk0r])), (qn0r, .inl (g.2 0, 6, .inl nu0r)), (qk0r, .inl (g.2 0, 10, .inl kd0r)), (qf0r, .inl (g.2 0, 10, .inl fi0r)), (qs0r, .inl (g.2 0, 10, .inl la0r)), (qG1r, .inr (1, [.ref qn1r, .ref qk1r, .ref qf1r, .ref qs1r, .int mk1r])), (qn1r, .inl (g.2 0, 6, .inl nu1r)), (qk1r, .inl (g.2 0, 10, .inl kd1r)), (qf1r, .inl (g.2 0, 10, .inl fi1r)), (qs1r, .inl (g.2 0, 10, .inl la1r))] sz) [(qd, .inr (4, [.ref qtr, .ref qtx, .int (u.1 2), .int (u.1 3), .int (u.1 4), .int (u.1 5), .int (u.1 6), .int (u.1 7), .int (u.1 8)])), (qtx, .inl (g.2 1, 500, .inl tx)), (qtr, .inr (7, [.ref qlr, .ref qrr, .ref qvr, .ref qgr, .int u.2.1, .int u.2.2.1])), (qlr, .inl (g.2 0, 5, .inl u.2.2.2.1)), (qrr, .inl (g.2 0, 5, .inl u.2.2.2.2.1)), (qvr, .inl (g.2 0, 5, .inl u.2.2.2.2.2.1)), (qgr, .inl (g.2 4, 2, .inr (.inr (.inr (.inr (lgC qG0r qG1r)))))), (qG0r, .inr (1, [.ref qn0r, .ref qk0r, .ref qf0r, .ref qs0r, .int u.2.2.2.2.2.2.1])), (qn0r, .inl (g.2 0, 6, .inl u.2.2.2.2.2.2.2.1)), (qk0r, .inl (g.2 0, 10, .inl u.2.2.2.2.2.2.2.2.1)), (qf0r, .inl (g.2 0, 10, .inl u.2.2.2.2.2.2.2.2.2.1)), (qs0r, .inl (g.2 0, 10, .inl u.2.2.2.2.2.2.2.2.2.2.1)), (qG1r, .inr (1, [.ref qn1r, .ref qk1r, .ref qf1r, .ref qs1r, .int u.2.2.2.2.2.2.2.2.2.2.2.1])), (qn1r, .inl (g.2 0, 6, .inl u.2.2.2.2.2.2.2.2.2.2.2.2.1)), (qk1r, .inl (g.2 0, 10, .inl u.2.2.2.2.2.2.2.2.2.2.2.2.2.1)), (qf1r, .inl (g.2 0, 10, .inl u.2.2.2.2.2.2.2.2.2.2.2.2.2.2.1)), (qs1r, .inl (g.2 0, 10, .inl u.2.2.2.2.2.2.2.2.2.2.2.2.2.2.2))]) (va_A [(qd, .inr (4, [.ref qtr, .ref qtx, .int (D 2), .int (D 3), .int (D 4), .int (D 5), .int (D 6), .int (D 7), .int (D 8)])), (qtx, .inl (g.2 1, 500, .inl tx)), (qtr, .inr (7, [.ref qlr, .ref qrr, .ref qvr, .ref qgr, .int partsr, .int limitr])), (qlr, .inl (g.2 0, 5, .inl lenr)), (qrr, .inl (g.2 0, 5, .inl rowr)), (qvr, .inl (g.2 0, 5, .inl votr)), (qgr, .inl (g.2 4, 2, .inr (.inr (.inr (.inr (lgC qG0r qG1r)))))), (qG0r, .inr (1, [.ref qn0r, .ref qk0r, .ref qf0r, .ref qs0r, .int mk0r])), (qn0r, .inl (g.2 0, 6, .inl nu0r)), (qk0r, .inl (g.2 0, 10, .inl kd0r)), (qf0r, .inl (g.2 0, 10, .inl fi0r)), (qs0r, .inl (g.2 0, 10, .inl la0r)), (qG1r, .inr (1, [.ref qn1r, .ref qk1r, .ref qf1r, .ref qs1r, .int mk1r])), (qn1r, .inl (g.2 0, 6, .inl nu1r)), (qk1r, .inl (g.2 0, 10, .inl kd1r)), (qf1r, .inl (g.2 0, 10, .inl fi1r)), (qs1r, .inl (g.2 0, 10, .inl la1r))] sz)) 0 0 (va_A [(qd, .inr (4, [.ref qtr, .ref qtx, .int (D 2), .int (D 3), .int (D 4), .int (D 5), .int (D 6), .int (D 7), .int (D 8)])), (qtx, .inl (g.2 1, 500, .inl tx)), (qtr, .inr (7, [.ref qlr, .ref qrr, .ref qvr, .ref qgr, .int partsr, .int limitr])), (qlr, .inl (g.2 0, 5, .inl lenr)), (qrr, .inl (g.2 0, 5, .inl rowr)), (qvr, .inl (g.2 0, 5, .inl votr)), (qgr, .inl (g.2 4, 2, .inr (.inr (.inr (.inr (lgC qG0r qG1r)))))), (qG0r, .inr (1, [.ref qn0r, .ref qk0r, .ref qf0r, .ref qs0r, .int mk0r])), (qn0r, .inl (g.2 0, 6, .inl nu0r)), (qk0r, .inl (g.2 0, 10, .inl kd0r)), (qf0r, .inl (g.2 0, 10, .inl fi0r)), (qs0r, .inl (g.2 0, 10, .inl la0r)), (qG1r, .inr (1, [.ref qn1r, .ref qk1r, .ref qf1r, .ref qs1r, .int mk1r])), (qn1r, .inl (g.2 0, 6, .inl nu1r)), (qk1r, .inl (g.2 0, 10, .inl kd1r)), (qf1r, .inl (g.2 0, 10, .inl fi1r)), (qs1r, .inl (g.2 0, 10, .inl la1r))] sz) := by
  refine Met.ofW (cc := cX4_readStatement) (maxL := 1) (ret := (some .boolean)) (by decide) rfl ?_
  intro p e s m args below meth c s₁ B hml hv'
  obtain ⟨rfl, hsz, hP, hG, hD0, hE⟩ := hv'
  have S : CallFix p m c cX4_readStatement 1 s _ wsX4_readStatement RX4 := ⟨B.exec, B.bytes, hml, findClass_of_methodNamed B.named, atoms_spec (ws := wsX4_readStatement) B.pre⟩
  obtain ⟨hx, hb, hml, hown, hts⟩ := id S
  have hK := hG.1
  have hr := B.returns
  have hlocks := B.notSynchronized
  subst hsz
  have hD := hD0.self (sz := s.heap.size)
  generalize hAe : va_A [(qd, .inr (4, [.ref qtr, .ref qtx, .int (D 2), .int (D 3), .int (D 4), .int (D 5), .int (D 6), .int (D 7), .int (D 8)])), (qtx, .inl (g.2 1, 500, .inl tx)), (qtr, .inr (7, [.ref qlr, .ref qrr, .ref qvr, .ref qgr, .int partsr, .int limitr])), (qlr, .inl (g.2 0, 5, .inl lenr)), (qrr, .inl (g.2 0, 5, .inl rowr)), (qvr, .inl (g.2 0, 5, .inl votr)), (qgr, .inl (g.2 4, 2, .inr (.inr (.inr (.inr (lgC qG0r qG1r)))))), (qG0r, .inr (1, [.ref qn0r, .ref qk0r, .ref qf0r, .ref qs0r, .int mk0r])), (qn0r, .inl (g.2 0, 6, .inl nu0r)), (qk0r, .inl (g.2 0, 10, .inl kd0r)), (qf0r, .inl (g.2 0, 10, .inl fi0r)), (qs0r, .inl (g.2 0, 10, .inl la0r)), (qG1r, .inr (1, [.ref qn1r, .ref qk1r, .ref qf1r, .ref qs1r, .int mk1r])), (qn1r, .inl (g.2 0, 6, .inl nu1r)), (qk1r, .inl (g.2 0, 10, .inl kd1r)), (qf1r, .inl (g.2 0, 10, .inl fi1r)), (qs1r, .inl (g.2 0, 10, .inl la1r))] s.heap.size = A at hD hE ⊢
  have hA : ∀ q : Nat, s.heap.size ≤ q → A q := fun q h => by rw [← hAe]; exact Or.inr h
  have hS : va_S A s.heap s.heap [] := va_S.rf
  clear hD0 hAe
  have hl := lv_entry ([.ref qd]) (n := 1) (Nat.le_of_ble_eq_true rfl)
  rw [lg_entry_eq]
  generalize (lg_sl ([.ref qd]) ++ List.replicate (1 - (lg_sl ([.ref qd])).length) Slot.unset).toArray = ls at hl ⊢
  have hl : lv_has ls 1 [(0, .ref qd)] := hl
  unfold vX4_readStatement at hv
  refine lv_aload_n hx hb dX4_readStatement_0 rfl (lv_at hl 0 rfl) ?_
  refine va_ldcS hx hb hown (hE.2.2.2.2.2.2.2.1 0 (by decide)) dX4_readStatement_1 ?_
  obtain ⟨b_3, nb_3, i_3, ho_1, hv⟩ := hv
  refine vp_callSi (W.runV (As := [.ref (kyS v 0)]) (rest := []) S (wX4_isWord l g v qd qtr qtx D tx 0 (sX4_isWord b_3 nb_3 i_3 D tx 0 ho_1)) (cwV 1 hts gX4_readStatement_X4_isWord rfl rfl rfl (by decide +kernel) ⟨Nat.le_of_ble_eq_true rfl, Nat.le_of_ble_eq_true rfl⟩) ⟨blindROE, va_recv hK hP (ci := 4) (q0 := 0) rfl rfl, fun U hU hW => ⟨rfl, by rw [hU]; exact hP.sub (ws' := [(qd, .inr (4, [.ref qtr, .ref qtx, .int (D 2), .int (D 3), .int (D 4), .int (D 5), .int (D 6), .int (D 7), .int (D 8)])), (qtx, .inl (g.2 1, 500, .inl tx))]) [0, 1] rfl, hG.warm hW, by rw [hU]; exact ((hE.kept hS.2.1).narrow (fun _ h => h.elim)).warm hW⟩⟩ rfl rfl hl.1 rfl (lv_room (Nat.le_of_ble_eq_true rfl)) dX4_readStatement_3 ⟨Nat.le_of_ble_eq_true rfl, Nat.le_of_ble_eq_true rfl⟩) (fun r_3 hr_3 => ?_)
  have hv := hv r_3 hr_3
  obtain ⟨hvt, hvf⟩ := hv
  refine lv_if_eq (tgt := 14) hx hb dX4_readStatement_6 (by decide) (fun hc => ?_) (fun hc => ?_)
  · have hv := hvt hc
    refine lv_aload_n hx hb dX4_readStatement_14 rfl (lv_at hl 0 rfl) ?_
    refine va_ldcS hx hb hown (hE.2.2.2.2.2.2.2.1 1 (by decide)) dX4_readStatement_15 ?_
    obtain ⟨b_17, nb_17, i_17, ho_2, hv⟩ := hv
    refine vp_callSi (W.runV (As := [.ref (kyS v 1)]) (rest := []) S (wX4_isWord l g v qd qtr qtx D tx 1 (sX4_isWord b_17 nb_17 i_17 D tx 1 ho_2)) (cwV 1 hts gX4_readStatement_X4_isWord rfl rfl rfl (by decide +kernel) ⟨Nat.le_of_ble_eq_true rfl, Nat.le_of_ble_eq_true rfl⟩) ⟨blindROE, va_recv hK hP (ci := 4) (q0 := 0) rfl rfl, fun U hU hW => ⟨rfl, by rw [hU]; exact hP.sub (ws' := [(qd, .inr (4, [.ref qtr, .ref qtx, .int (D 2), .int (D 3), .int (D 4), .int (D 5), .int (D 6), .int (D 7), .int (D 8)])), (qtx, .inl (g.2 1, 500, .inl tx))]) [0, 1] rfl, hG.warm hW, by rw [hU]; exact ((hE.kept hS.2.1).narrow (fun _ h => h.elim)).warm hW⟩⟩ rfl rfl hl.1 rfl (lv_room (Nat.le_of_ble_eq_true rfl)) dX4_readStatement_17 ⟨Nat.le_of_ble_eq_true rfl, Nat.le_of_ble_eq_true rfl⟩) (fun r_17 hr_17 => ?_)
    have hv := hv r_17 hr_17
    obtain ⟨hvt, hvf⟩ := hv
    refine lv_if_eq (tgt := 52) hx hb dX4_readStatement_20 (by decide) (fun hc => ?_) (fun hc => ?_)
    · have hv := hvt hc
      refine lv_aload_n hx hb dX4_readStatement_52 rfl (lv_at hl 0 rfl) ?_
      refine va_ldcS hx hb hown (hE.2.2.2.2.2.2.2.1 2 (by decide)) dX4_readStatement_53 ?_
      obtain ⟨b_55, nb_55, i_55, ho_3, hv⟩ := hv
      refine vp_callSi (W.runV (As := [.ref (kyS v 2)]) (rest := []) S (wX4_isWord l g v qd qtr qtx D tx 2 (sX4_isWord b_55 nb_55 i_55 D tx 2 ho_3)) (cwV 1 hts gX4_readStatement_X4_isWord rfl rfl rfl (by decide +kernel) ⟨Nat.le_of_ble_eq_true rfl, Nat.le_of_ble_eq_true rfl⟩) ⟨blindROE, va_recv hK hP (ci := 4) (q0 := 0) rfl rfl, fun U hU hW => ⟨rfl, by rw [hU]; exact hP.sub (ws' := [(qd, .inr (4, [.ref qtr, .ref qtx, .int (D 2), .int (D 3), .int (D 4), .int (D 5), .int (D 6), .int (D 7), .int (D 8)])), (qtx, .inl (g.2 1, 500, .inl tx))]) [0, 1] rfl, hG.warm hW, by rw [hU]; exact ((hE.kept hS.2.1).narrow (fun _ h => h.elim)).warm hW⟩⟩ rfl rfl hl.1 rfl (lv_room (Nat.le_of_ble_eq_true rfl)) dX4_readStatement_55 ⟨Nat.le_of_ble_eq_true rfl, Nat.le_of_ble_eq_true rfl⟩) (fun r_55 hr_55 => ?_)
      have hv := hv r_55 hr_55
      obtain ⟨hvt, hvf⟩ := hv
      refine lv_if_eq (tgt := 75) hx hb dX4_readStatement_58 (by decide) (fun hc => ?_) (fun hc => ?_)
      · have hv := hvt hc
        refine lv_aload_n hx hb dX4_readStatement_75 rfl (lv_at hl 0 rfl) ?_
        refine va_ldcS hx hb hown (hE.2.2.2.2.2.2.2.1 3 (by decide)) dX4_readStatement_76 ?_
        obtain ⟨b_78, nb_78, i_78, ho_4, hv⟩ := hv
        refine vp_callSi (W.runV (As := [.ref (kyS v 3)]) (rest := []) S (wX4_isWord l g v qd qtr qtx D tx 3 (sX4_isWord b_78 nb_78 i_78 D tx 3 ho_4)) (cwV 1 hts gX4_readStatement_X4_isWord rfl rfl rfl (by decide +kernel) ⟨Nat.le_of_ble_eq_true rfl, Nat.le_of_ble_eq_true rfl⟩) ⟨blindROE, va_recv hK hP (ci := 4) (q0 := 0) rfl rfl, fun U hU hW => ⟨rfl, by rw [hU]; exact hP.sub (ws' := [(qd, .inr (4, [.ref qtr, .ref qtx, .int (D 2), .int (D 3), .int (D 4), .int (D 5), .int (D 6), .int (D 7), .int (D 8)])), (qtx, .inl (g.2 1, 500, .inl tx))]) [0, 1] rfl, hG.warm hW, by rw [hU]; exact ((hE.kept hS.2.1).narrow (fun _ h => h.elim)).warm hW⟩⟩ rfl rfl hl.1 rfl (lv_room (Nat.le_of_ble_eq_true rfl)) dX4_readStatement_78 ⟨Nat.le_of_ble_eq_true rfl, Nat.le_of_ble_eq_true rfl⟩) (fun r_78 hr_78 => ?_)
        have hv := hv r_78 hr_78
        obtain ⟨hvt, hvf⟩ := hv
        refine lv_if_eq (tgt := 98) hx hb dX4_readStatement_81 (by decide) (fun hc => ?_) (fun hc => ?_)
        · have hv := hvt hc
          refine lv_aload_n hx hb dX4_readStatement_98 rfl (lv_at hl 0 rfl) ?_
          obtain ⟨ho_5, hv⟩ := hv
          have hPc := hP.sub (ws' := [(qd, .inr (4, [.ref qtr, .ref qtx, .int (D 2), .int (D 3), .int (D 4), .int (D 5), .int (D 6), .int (D 7), .int (D 8)]))]) [0] rfl
          have hDc := hD.sub (ws' := [(qd, .inr (4, [.ref qtr, .ref qtx, .int (D 2), .int (D 3), .int (D 4), .int (D 5), .int (D 6), .int (D 7), .int (D 8)]))]) [0] (by decide) rfl
          have hFc := va_free (wc := [(qd, .inr (4, [.ref qtr, .ref qtx, .int (D 2), .int (D 3), .int (D 4), .int (D 5), .int (D 6), .int (D 7), .int (D 8)]))]) hD hS hA [0] rfl
          refine va_calli (va_runV (As := []) (rest := []) S (wX4_refuse l g qd qtr qtx s.heap.size D (sX4_refuse D ho_5)) (cwV 0 hts gX4_readStatement_X4_refuse rfl rfl rfl (by decide +kernel) ⟨Nat.le_of_ble_eq_true rfl, Nat.le_of_ble_eq_true rfl⟩) ⟨blindRW, va_recv hK hP (ci := 4) (q0 := 0) rfl rfl, fun U hU hW => ⟨rfl, by rw [hU], by rw [hU]; exact hPc, hG.warm hW, hDc.weaken (fun _ _ _ _ => trivial)⟩⟩ rfl rfl hl.1 rfl (lv_room (Nat.le_of_ble_eq_true rfl)) dX4_readStatement_99 ⟨Nat.le_of_ble_eq_true rfl, Nat.le_of_ble_eq_true rfl⟩) hS (fun q _ h => hFc q h) hFc (fun r_99 u t H1 locs ht hvm hw hB hz1 hk1 hS => ?_)
          obtain ⟨D_99, rfl⟩ : ∃ z, z = u := ⟨_, rfl⟩
          obtain ⟨hP1, hD1⟩ := hB
          rw [ht] at hP1
          have hv := hv r_99 D_99 hw
          obtain ⟨hP, hD⟩ := va_join (wr := [(qtx, .inl (g.2 1, 500, .inl tx)), (qtr, .inr (7, [.ref qlr, .ref qrr, .ref qvr, .ref qgr, .int partsr, .int limitr])), (qlr, .inl (g.2 0, 5, .inl lenr)), (qrr, .inl (g.2 0, 5, .inl rowr)), (qvr, .inl (g.2 0, 5, .inl votr)), (qgr, .inl (g.2 4, 2, .inr (.inr (.inr (.inr (lgC qG0r qG1r)))))), (qG0r, .inr (1, [.ref qn0r, .ref qk0r, .ref qf0r, .ref qs0r, .int mk0r])), (qn0r, .inl (g.2 0, 6, .inl nu0r)), (qk0r, .inl (g.2 0, 10, .inl kd0r)), (qf0r, .inl (g.2 0, 10, .inl fi0r)), (qs0r, .inl (g.2 0, 10, .inl la0r)), (qG1r, .inr (1, [.ref qn1r, .ref qk1r, .ref qf1r, .ref qs1r, .int mk1r])), (qn1r, .inl (g.2 0, 6, .inl nu1r)), (qk1r, .inl (g.2 0, 10, .inl kd1r)), (qf1r, .inl (g.2 0, 10, .inl fi1r)), (qs1r, .inl (g.2 0, 10, .inl la1r))]) (w1 := [(qd, .inr (4, [.ref qtr, .ref qtx, .int (D_99 2), .int (D_99 3), .int (D_99 4), .int (D_99 5), .int (D_99 6), .int (D_99 7), .int (D_99 8)]))]) hP hD [0] [1, 2, 3, 4, 5, 6, 7, 8, 9, 10, 11, 12, 13, 14, 15, 16] rfl rfl (by decide) (by decide) hk1 hFc hP1 hD1
          clear hP1 hD1 hPc hDc hFc hk1
          generalize H1 = H at hP hS ⊢
          have hP : va_P g.1 vwCl [(qtx, .inl (g.2 1, 500, .inl tx)), (qtr, .inr (7, [.ref qlr, .ref qrr, .ref qvr, .ref qgr, .int partsr, .int limitr])), (qlr, .inl (g.2 0, 5, .inl lenr)), (qrr, .inl (g.2 0, 5, .inl rowr)), (qvr, .inl (g.2 0, 5, .inl votr)), (qgr, .inl (g.2 4, 2, .inr (.inr (.inr (.inr (lgC qG0r qG1r)))))), (qG0r, .inr (1, [.ref qn0r, .ref qk0r, .ref qf0r, .ref qs0r, .int mk0r])), (qn0r, .inl (g.2 0, 6, .inl nu0r)), (qk0r, .inl (g.2 0, 10, .inl kd0r)), (qf0r, .inl (g.2 0, 10, .inl fi0r)), (qs0r, .inl (g.2 0, 10, .inl la0r)), (qG1r, .inr (1, [.ref qn1r, .ref qk1r, .ref qf1r, .ref qs1r, .int mk1r])), (qn1r, .inl (g.2 0, 6, .inl nu1r)), (qk1r, .inl (g.2 0, 10, .inl kd1r)), (qf1r, .inl (g.2 0, 10, .inl fi1r)), (qs1r, .inl (g.2 0, 10, .inl la1r)), (qd, .inr (4, [.ref qtr, .ref qtx, .int (D_99 2), .int (D_99 3), .int (D_99 4), .int (D_99 5), .int (D_99 6), .int (D_99 7), .int (D_99 8)]))] H := hP
          have hD : va_D A [(qtx, .inl (g.2 1, 500, .inl tx)), (qtr, .inr (7, [.ref qlr, .ref qrr, .ref qvr, .ref qgr, .int partsr, .int limitr])), (qlr, .inl (g.2 0, 5, .inl lenr)), (qrr, .inl (g.2 0, 5, .inl rowr)), (qvr, .inl (g.2 0, 5, .inl votr)), (qgr, .inl (g.2 4, 2, .inr (.inr (.inr (.inr (lgC qG0r qG1r)))))), (qG0r, .inr (1, [.ref qn0r, .ref qk0r, .ref qf0r, .ref qs0r, .int mk0r])), (qn0r, .inl (g.2 0, 6, .inl nu0r)), (qk0r, .inl (g.2 0, 10, .inl kd0r)), (qf0r, .inl (g.2 0, 10, .inl fi0r)), (qs0r, .inl (g.2 0, 10, .inl la0r)), (qG1r, .inr (1, [.ref qn1r, .ref qk1r, .ref qf1r, .ref qs1r, .int mk1r])), (qn1r, .inl (g.2 0, 6, .inl nu1r)), (qk1r, .inl (g.2 0, 10, .inl kd1r)), (qf1r, .inl (g.2 0, 10, .inl fi1r)), (qs1r, .inl (g.2 0, 10, .inl la1r)), (qd, .inr (4, [.ref qtr, .ref qtx, .int (D_99 2), .int (D_99 3), .int (D_99 4), .int (D_99 5), .int (D_99 6), .int (D_99 7), .int (D_99 8)]))] := hD
          have hP9 := hP.sub (ws' := [(qd, .inr (4, [.ref qtr, .ref qtx, .int (D_99 2), .int (D_99 3), .int (D_99 4), .int (D_99 5), .int (D_99 6), .int (D_99 7), .int (D_99 8)])), (qtx, .inl (g.2 1, 500, .inl tx)), (qtr, .inr (7, [.ref qlr, .ref qrr, .ref qvr, .ref qgr, .int partsr, .int limitr])), (qlr, .inl (g.2 0, 5, .inl lenr)), (qrr, .inl (g.2 0, 5, .inl rowr)), (qvr, .inl (g.2 0, 5, .inl votr)), (qgr, .inl (g.2 4, 2, .inr (.inr (.inr (.inr (lgC qG0r qG1r)))))), (qG0r, .inr (1, [.ref qn0r, .ref qk0r, .ref qf0r, .ref qs0r, .int mk0r])), (qn0r, .inl (g.2 0, 6, .inl nu0r)), (qk0r, .inl (g.2 0, 10, .inl kd0r)), (qf0r, .inl (g.2 0, 10, .inl fi0r)), (qs0r, .inl (g.2 0, 10, .inl la0r)), (qG1r, .inr (1, [.ref qn1r, .ref qk1r, .ref qf1r, .ref qs1r, .int mk1r])), (qn1r, .inl (g.2 0, 6, .inl nu1r)), (qk1r, .inl (g.2 0, 10, .inl kd1r)), (qf1r, .inl (g.2 0, 10, .inl fi1r)), (qs1r, .inl (g.2 0, 10, .inl la1r))]) [16, 0, 1, 2, 3, 4, 5, 6, 7, 8, 9, 10, 11, 12, 13, 14, 15] rfl
          have hD9 := hD.sub (ws' := [(qd, .inr (4, [.ref qtr, .ref qtx, .int (D_99 2), .int (D_99 3), .int (D_99 4), .int (D_99 5), .int (D_99 6), .int (D_99 7), .int (D_99 8)])), (qtx, .inl (g.2 1, 500, .inl tx)), (qtr, .inr (7, [.ref qlr, .ref qrr, .ref qvr, .ref qgr, .int partsr, .int limitr])), (qlr, .inl (g.2 0, 5, .inl lenr)), (qrr, .inl (g.2 0, 5, .inl rowr)), (qvr, .inl (g.2 0, 5, .inl votr)), (qgr, .inl (g.2 4, 2, .inr (.inr (.inr (.inr (lgC qG0r qG1r)))))), (qG0r, .inr (1, [.ref qn0r, .ref qk0r, .ref qf0r, .ref qs0r, .int mk0r])), (qn0r, .inl (g.2 0, 6, .inl nu0r)), (qk0r, .inl (g.2 0, 10, .inl kd0r)), (qf0r, .inl (g.2 0, 10, .inl fi0r)), (qs0r, .inl (g.2 0, 10, .inl la0r)), (qG1r, .inr (1, [.ref qn1r, .ref qk1r, .ref qf1r, .ref qs1r, .int mk1r])), (qn1r, .inl (g.2 0, 6, .inl nu1r)), (qk1r, .inl (g.2 0, 10, .inl kd1r)), (qf1r, .inl (g.2 0, 10, .inl fi1r)), (qs1r, .inl (g.2 0, 10, .inl la1r))]) [16, 0, 1, 2, 3, 4, 5, 6, 7, 8, 9, 10, 11, 12, 13, 14, 15] (by decide) rfl
          obtain ⟨hn, hv⟩ := hv
          exact W.zret (v := r_99) (ty := .boolean) hx hb hr hn (fun t ht hW => ⟨⟨_, (D_99, partsr, limitr, lenr, rowr, votr, mk0r, nu0r, kd0r, fi0r, la0r, mk1r, nu1r, kd1r, fi1r, la1r), rfl, hv, by rw [ht]; exact hP9, hD9⟩, hS.F ht⟩) hS.2.2 dX4_readStatement_102
        · have hv := hvf hc
          refine lv_aload_n hx hb dX4_readStatement_84 rfl (lv_at hl 0 rfl) ?_
          refine lv_aload_n hx hb dX4_readStatement_85 rfl (lv_at hl 0 rfl) ?_
          refine va_get (D := g.1) (ci := 4) (v := .ref qtr) (C := RX4) (T := TX4) (N := 9) hx hb hts inX4_readStatement_4 hown hK hP 0 rfl rfl 0 (by decide) (hts (.fieldLink RX4 12 "RangeCodes$Reader" "told" "LRangeCodes$Told;") (List.mem_of_getElem? (i := 1) rfl)) (fun _ h9 => h9) rfl dX4_readStatement_86 ?_
          refine va_get (D := g.1) (ci := 7) (v := .ref qgr) (C := RX7) (T := TX7) (N := 6) hx hb hts inX4_readStatement_7 hown hK hP 2 rfl rfl 3 (by decide) (hts (.fieldLink RX4 73 "RangeCodes$Told" "legs" "[LRangeCodes$Leg;") (List.mem_of_getElem? (i := 4) rfl)) (fun _ h9 => h9) rfl dX4_readStatement_89 ?_
          refine lv_iconst (v := (1 : Int32)) hx hb dX4_readStatement_92 (by decide) ?_
          refine va_ldG hx hb hK hP 6 4 1 rfl rfl rfl (by decide) (by decide) rfl dX4_readStatement_93 ?_
          obtain ⟨b_94, nb_94, i_94, G_94, ho_6, hv⟩ := hv
          have hPc := hP.sub (ws' := [(qd, .inr (4, [.ref qtr, .ref qtx, .int (D 2), .int (D 3), .int (D 4), .int (D 5), .int (D 6), .int (D 7), .int (D 8)])), (qtx, .inl (g.2 1, 500, .inl tx)), (qG1r, .inr (1, [.ref qn1r, .ref qk1r, .ref qf1r, .ref qs1r, .int mk1r])), (qn1r, .inl (g.2 0, 6, .inl nu1r)), (qk1r, .inl (g.2 0, 10, .inl kd1r)), (qf1r, .inl (g.2 0, 10, .inl fi1r)), (qs1r, .inl (g.2 0, 10, .inl la1r))]) [0, 1, 12, 13, 14, 15, 16] rfl
          have hDc := hD.sub (ws' := [(qd, .inr (4, [.ref qtr, .ref qtx, .int (D 2), .int (D 3), .int (D 4), .int (D 5), .int (D 6), .int (D 7), .int (D 8)])), (qtx, .inl (g.2 1, 500, .inl tx)), (qG1r, .inr (1, [.ref qn1r, .ref qk1r, .ref qf1r, .ref qs1r, .int mk1r])), (qn1r, .inl (g.2 0, 6, .inl nu1r)), (qk1r, .inl (g.2 0, 10, .inl kd1r)), (qf1r, .inl (g.2 0, 10, .inl fi1r)), (qs1r, .inl (g.2 0, 10, .inl la1r))]) [0, 1, 12, 13, 14, 15, 16] (by decide) rfl
          have hFc := va_free (wc := [(qd, .inr (4, [.ref qtr, .ref qtx, .int (D 2), .int (D 3), .int (D 4), .int (D 5), .int (D 6), .int (D 7), .int (D 8)])), (qtx, .inl (g.2 1, 500, .inl tx)), (qG1r, .inr (1, [.ref qn1r, .ref qk1r, .ref qf1r, .ref qs1r, .int mk1r])), (qn1r, .inl (g.2 0, 6, .inl nu1r)), (qk1r, .inl (g.2 0, 10, .inl kd1r)), (qf1r, .inl (g.2 0, 10, .inl fi1r)), (qs1r, .inl (g.2 0, 10, .inl la1r))]) hD hS hA [0, 1, 12, 13, 14, 15, 16] rfl
          refine va_calli (va_runV (As := [.ref qG1r]) (rest := []) S (wX4_readLeg l g v qd qtr qtx qG1r qn1r qk1r qf1r qs1r s.heap.size D tx mk1r nu1r kd1r fi1r la1r (sX4_readLeg b_94 nb_94 i_94 G_94 D tx mk1r nu1r kd1r fi1r la1r ho_6)) (cwV 1 hts gX4_readStatement_X4_readLeg rfl rfl rfl (by decide +kernel) ⟨Nat.le_of_ble_eq_true rfl, Nat.le_of_ble_eq_true rfl⟩) ⟨blindRWE, va_recv hK hP (ci := 4) (q0 := 0) rfl rfl, fun U hU hW => ⟨rfl, by rw [hU], by rw [hU]; exact hPc, hG.warm hW, hDc.weaken (fun _ _ _ _ => trivial), by rw [hU]; exact ((hE.kept hS.2.1).narrow hFc).warm hW⟩⟩ rfl rfl hl.1 rfl (lv_room (Nat.le_of_ble_eq_true rfl)) dX4_readStatement_94 ⟨Nat.le_of_ble_eq_true rfl, Nat.le_of_ble_eq_true rfl⟩) hS (fun q _ h => hFc q h) hFc (fun r_94 u t H1 locs ht hvm hw hB hz1 hk1 hS => ?_)
          obtain ⟨D_94, mk_94, nu_94, kd_94, fi_94, la_94⟩ := u
          obtain ⟨hP1, hD1⟩ := hB
          rw [ht] at hP1
          have hv := hv r_94 D_94 mk_94 nu_94 kd_94 fi_94 la_94 hw
          obtain ⟨hP, hD⟩ := va_join (wr := [(qtr, .inr (7, [.ref qlr, .ref qrr, .ref qvr, .ref qgr, .int partsr, .int limitr])), (qlr, .inl (g.2 0, 5, .inl lenr)), (qrr, .inl (g.2 0, 5, .inl rowr)), (qvr, .inl (g.2 0, 5, .inl votr)), (qgr, .inl (g.2 4, 2, .inr (.inr (.inr (.inr (lgC qG0r qG1r)))))), (qG0r, .inr (1, [.ref qn0r, .ref qk0r, .ref qf0r, .ref qs0r, .int mk0r])), (qn0r, .inl (g.2 0, 6, .inl nu0r)), (qk0r, .inl (g.2 0, 10, .inl kd0r)), (qf0r, .inl (g.2 0, 10, .inl fi0r)), (qs0r, .inl (g.2 0, 10, .inl la0r))]) (w1 := [(qd, .inr (4, [.ref qtr, .ref qtx, .int (D_94 2), .int (D_94 3), .int (D_94 4), .int (D_94 5), .int (D_94 6), .int (D_94 7), .int (D_94 8)])), (qtx, .inl (g.2 1, 500, .inl tx)), (qG1r, .inr (1, [.ref qn1r, .ref qk1r, .ref qf1r, .ref qs1r, .int mk_94])), (qn1r, .inl (g.2 0, 6, .inl nu_94)), (qk1r, .inl (g.2 0, 10, .inl kd_94)), (qf1r, .inl (g.2 0, 10, .inl fi_94)), (qs1r, .inl (g.2 0, 10, .inl la_94))]) hP hD [0, 1, 12, 13, 14, 15, 16] [2, 3, 4, 5, 6, 7, 8, 9, 10, 11] rfl rfl (by decide) (by decide) hk1 hFc hP1 hD1
          clear hP1 hD1 hPc hDc hFc hk1
          generalize H1 = H at hP hS ⊢
          have hP : va_P g.1 vwCl [(qtr, .inr (7, [.ref qlr, .ref qrr, .ref qvr, .ref qgr, .int partsr, .int limitr])), (qlr, .inl (g.2 0, 5, .inl lenr)), (qrr, .inl (g.2 0, 5, .inl rowr)), (qvr, .inl (g.2 0, 5, .inl votr)), (qgr, .inl (g.2 4, 2, .inr (.inr (.inr (.inr (lgC qG0r qG1r)))))), (qG0r, .inr (1, [.ref qn0r, .ref qk0r, .ref qf0r, .ref qs0r, .int mk0r])), (qn0r, .inl (g.2 0, 6, .inl nu0r)), (qk0r, .inl (g.2 0, 10, .inl kd0r)), (qf0r, .inl (g.2 0, 10, .inl fi0r)), (qs0r, .inl (g.2 0, 10, .inl la0r)), (qd, .inr (4, [.ref qtr, .ref qtx, .int (D_94 2), .int (D_94 3), .int (D_94 4), .int (D_94 5), .int (D_94 6), .int (D_94 7), .int (D_94 8)])), (qtx, .inl (g.2 1, 500, .inl tx)), (qG1r, .inr (1, [.ref qn1r, .ref qk1r, .ref qf1r, .ref qs1r, .int mk_94])), (qn1r, .inl (g.2 0, 6, .inl nu_94)), (qk1r, .inl (g.2 0, 10, .inl kd_94)), (qf1r, .inl (g.2 0, 10, .inl fi_94)), (qs1r, .inl (g.2 0, 10, .inl la_94))] H := hP
          have hD : va_D A [(qtr, .inr (7, [.ref qlr, .ref qrr, .ref qvr, .ref qgr, .int partsr, .int limitr])), (qlr, .inl (g.2 0, 5, .inl lenr)), (qrr, .inl (g.2 0, 5, .inl rowr)), (qvr, .inl (g.2 0, 5, .inl votr)), (qgr, .inl (g.2 4, 2, .inr (.inr (.inr (.inr (lgC qG0r qG1r)))))), (qG0r, .inr (1, [.ref qn0r, .ref qk0r, .ref qf0r, .ref qs0r, .int mk0r])), (qn0r, .inl (g.2 0, 6, .inl nu0r)), (qk0r, .inl (g.2 0, 10, .inl kd0r)), (qf0r, .inl (g.2 0, 10, .inl fi0r)), (qs0r, .inl (g.2 0, 10, .inl la0r)), (qd, .inr (4, [.ref qtr, .ref qtx, .int (D_94 2), .int (D_94 3), .int (D_94 4), .int (D_94 5), .int (D_94 6), .int (D_94 7), .int (D_94 8)])), (qtx, .inl (g.2 1, 500, .inl tx)), (qG1r, .inr (1, [.ref qn1r, .ref qk1r, .ref qf1r, .ref qs1r, .int mk_94])), (qn1r, .inl (g.2 0, 6, .inl nu_94)), (qk1r, .inl (g.2 0, 10, .inl kd_94)), (qf1r, .inl (g.2 0, 10, .inl fi_94)), (qs1r, .inl (g.2 0, 10, .inl la_94))] := hD
          have hP9 := hP.sub (ws' := [(qd, .inr (4, [.ref qtr, .ref qtx, .int (D_94 2), .int (D_94 3), .int (D_94 4), .int (D_94 5), .int (D_94 6), .int (D_94 7), .int (D_94 8)])), (qtx, .inl (g.2 1, 500, .inl tx)), (qtr, .inr (7, [.ref qlr, .ref qrr, .ref qvr, .ref qgr, .int partsr, .int limitr])), (qlr, .inl (g.2 0, 5, .inl lenr)), (qrr, .inl (g.2 0, 5, .inl rowr)), (qvr, .inl (g.2 0, 5, .inl votr)), (qgr, .inl (g.2 4, 2, .inr (.inr (.inr (.inr (lgC qG0r qG1r)))))), (qG0r, .inr (1, [.ref qn0r, .ref qk0r, .ref qf0r, .ref qs0r, .int mk0r])), (qn0r, .inl (g.2 0, 6, .inl nu0r)), (qk0r, .inl (g.2 0, 10, .inl kd0r)), (qf0r, .inl (g.2 0, 10, .inl fi0r)), (qs0r, .inl (g.2 0, 10, .inl la0r)), (qG1r, .inr (1, [.ref qn1r, .ref qk1r, .ref qf1r, .ref qs1r, .int mk_94])), (qn1r, .inl (g.2 0, 6, .inl nu_94)), (qk1r, .inl (g.2 0, 10, .inl kd_94)), (qf1r, .inl (g.2 0, 10, .inl fi_94)), (qs1r, .inl (g.2 0, 10, .inl la_94))]) [10, 11, 0, 1, 2, 3, 4, 5, 6, 7, 8, 9, 12, 13, 14, 15, 16] rfl
          have hD9 := hD.sub (ws' := [(qd, .inr (4, [.ref qtr, .ref qtx, .int (D_94 2), .int (D_94 3), .int (D_94 4), .int (D_94 5), .int (D_94 6), .int (D_94 7), .int (D_94 8)])), (qtx, .inl (g.2 1, 500, .inl tx)), (qtr, .inr (7, [.ref qlr, .ref qrr, .ref qvr, .ref qgr, .int partsr, .int limitr])), (qlr, .inl (g.2 0, 5, .inl lenr)), (qrr, .inl (g.2 0, 5, .inl rowr)), (qvr, .inl (g.2 0, 5, .inl votr)), (qgr, .inl (g.2 4, 2, .inr (.inr (.inr (.inr (lgC qG0r qG1r)))))), (qG0r, .inr (1, [.ref qn0r, .ref qk0r, .ref qf0r, .ref qs0r, .int mk0r])), (qn0r, .inl (g.2 0, 6, .inl nu0r)), (qk0r, .inl (g.2 0, 10, .inl kd0r)), (qf0r, .inl (g.2 0, 10, .inl fi0r)), (qs0r, .inl (g.2 0, 10, .inl la0r)), (qG1r, .inr (1, [.ref qn1r, .ref qk1r, .ref qf1r, .ref qs1r, .int mk_94])), (qn1r, .inl (g.2 0, 6, .inl nu_94)), (qk1r, .inl (g.2 0, 10, .inl kd_94)), (qf1r, .inl (g.2 0, 10, .inl fi_94)), (qs1r, .inl (g.2 0, 10, .inl la_94))]) [10, 11, 0, 1, 2, 3, 4, 5, 6, 7, 8, 9, 12, 13, 14, 15, 16] (by decide) rfl
          obtain ⟨hn, hv⟩ := hv
          exact W.zret (v := r_94) (ty := .boolean) hx hb hr hn (fun t ht hW => ⟨⟨_, (D_94, partsr, limitr, lenr, rowr, votr, mk0r, nu0r, kd0r, fi0r, la0r, mk_94, nu_94, kd_94, fi_94, la_94), rfl, hv, by rw [ht]; exact hP9, hD9⟩, hS.F ht⟩) hS.2.2 dX4_readStatement_97
      · have hv := hvf hc
        refine lv_aload_n hx hb dX4_readStatement_61 rfl (lv_at hl 0 rfl) ?_
        refine lv_aload_n hx hb dX4_readStatement_62 rfl (lv_at hl 0 rfl) ?_
        refine va_get (D := g.1) (ci := 4) (v := .ref qtr) (C := RX4) (T := TX4) (N := 9) hx hb hts inX4_readStatement_4 hown hK hP 0 rfl rfl 0 (by decide) (hts (.fieldLink RX4 12 "RangeCodes$Reader" "told" "LRangeCodes$Told;") (List.mem_of_getElem? (i := 1) rfl)) (fun _ h9 => h9) rfl dX4_readStatement_63 ?_
        refine va_get (D := g.1) (ci := 7) (v := .ref qgr) (C := RX7) (T := TX7) (N := 6) hx hb hts inX4_readStatement_7 hown hK hP 2 rfl rfl 3 (by decide) (hts (.fieldLink RX4 73 "RangeCodes$Told" "legs" "[LRangeCodes$Leg;") (List.mem_of_getElem? (i := 4) rfl)) (fun _ h9 => h9) rfl dX4_readStatement_66 ?_
        refine lv_iconst (v := (0 : Int32)) hx hb dX4_readStatement_69 (by decide) ?_
        refine va_ldG hx hb hK hP 6 4 0 rfl rfl rfl (by decide) (by decide) rfl dX4_readStatement_70 ?_
        obtain ⟨b_71, nb_71, i_71, G_71, ho_7, hv⟩ := hv
        have hPc := hP.sub (ws' := [(qd, .inr (4, [.ref qtr, .ref qtx, .int (D 2), .int (D 3), .int (D 4), .int (D 5), .int (D 6), .int (D 7), .int (D 8)])), (qtx, .inl (g.2 1, 500, .inl tx)), (qG0r, .inr (1, [.ref qn0r, .ref qk0r, .ref qf0r, .ref qs0r, .int mk0r])), (qn0r, .inl (g.2 0, 6, .inl nu0r)), (qk0r, .inl (g.2 0, 10, .inl kd0r)), (qf0r, .inl (g.2 0, 10, .inl fi0r)), (qs0r, .inl (g.2 0, 10, .inl la0r))]) [0, 1, 7, 8, 9, 10, 11] rfl
        have hDc := hD.sub (ws' := [(qd, .inr (4, [.ref qtr, .ref qtx, .int (D 2), .int (D 3), .int (D 4), .int (D 5), .int (D 6), .int (D 7), .int (D 8)])), (qtx, .inl (g.2 1, 500, .inl tx)), (qG0r, .inr (1, [.ref qn0r, .ref qk0r, .ref qf0r, .ref qs0r, .int mk0r])), (qn0r, .inl (g.2 0, 6, .inl nu0r)), (qk0r, .inl (g.2 0, 10, .inl kd0r)), (qf0r, .inl (g.2 0, 10, .inl fi0r)), (qs0r, .inl (g.2 0, 10, .inl la0r))]) [0, 1, 7, 8, 9, 10, 11] (by decide) rfl
        have hFc := va_free (wc := [(qd, .inr (4, [.ref qtr, .ref qtx, .int (D 2), .int (D 3), .int (D 4), .int (D 5), .int (D 6), .int (D 7), .int (D 8)])), (qtx, .inl (g.2 1, 500, .inl tx)), (qG0r, .inr (1, [.ref qn0r, .ref qk0r, .ref qf0r, .ref qs0r, .int mk0r])), (qn0r, .inl (g.2 0, 6, .inl nu0r)), (qk0r, .inl (g.2 0, 10, .inl kd0r)), (qf0r, .inl (g.2 0, 10, .inl fi0r)), (qs0r, .inl (g.2 0, 10, .inl la0r))]) hD hS hA [0, 1, 7, 8, 9, 10, 11] rfl
        refine va_calli (va_runV (As := [.ref qG0r]) (rest := []) S (wX4_readLeg l g v qd qtr qtx qG0r qn0r qk0r qf0r qs0r s.heap.size D tx mk0r nu0r kd0r fi0r la0r (sX4_readLeg b_71 nb_71 i_71 G_71 D tx mk0r nu0r kd0r fi0r la0r ho_7)) (cwV 1 hts gX4_readStatement_X4_readLeg rfl rfl rfl (by decide +kernel) ⟨Nat.le_of_ble_eq_true rfl, Nat.le_of_ble_eq_true rfl⟩) ⟨blindRWE, va_recv hK hP (ci := 4) (q0 := 0) rfl rfl, fun U hU hW => ⟨rfl, by rw [hU], by rw [hU]; exact hPc, hG.warm hW, hDc.weaken (fun _ _ _ _ => trivial), by rw [hU]; exact ((hE.kept hS.2.1).narrow hFc).warm hW⟩⟩ rfl rfl hl.1 rfl (lv_room (Nat.le_of_ble_eq_true rfl)) dX4_readStatement_71 ⟨Nat.le_of_ble_eq_true rfl, Nat.le_of_ble_eq_true rfl⟩) hS (fun q _ h => hFc q h) hFc (fun r_71 u t H1 locs ht hvm hw hB hz1 hk1 hS => ?_)
        obtain ⟨D_71, mk_71, nu_71, kd_71, fi_71, la_71⟩ := u
        obtain ⟨hP1, hD1⟩ := hB
        rw [ht] at hP1
        have hv := hv r_71 D_71 mk_71 nu_71 kd_71 fi_71 la_71 hw
        obtain ⟨hP, hD⟩ := va_join (wr := [(qtr, .inr (7, [.ref qlr, .ref qrr, .ref qvr, .ref qgr, .int partsr, .int limitr])), (qlr, .inl (g.2 0, 5, .inl lenr)), (qrr, .inl (g.2 0, 5, .inl rowr)), (qvr, .inl (g.2 0, 5, .inl votr)), (qgr, .inl (g.2 4, 2, .inr (.inr (.inr (.inr (lgC qG0r qG1r)))))), (qG1r, .inr (1, [.ref qn1r, .ref qk1r, .ref qf1r, .ref qs1r, .int mk1r])), (qn1r, .inl (g.2 0, 6, .inl nu1r)), (qk1r, .inl (g.2 0, 10, .inl kd1r)), (qf1r, .inl (g.2 0, 10, .inl fi1r)), (qs1r, .inl (g.2 0, 10, .inl la1r))]) (w1 := [(qd, .inr (4, [.ref qtr, .ref qtx, .int (D_71 2), .int (D_71 3), .int (D_71 4), .int (D_71 5), .int (D_71 6), .int (D_71 7), .int (D_71 8)])), (qtx, .inl (g.2 1, 500, .inl tx)), (qG0r, .inr (1, [.ref qn0r, .ref qk0r, .ref qf0r, .ref qs0r, .int mk_71])), (qn0r, .inl (g.2 0, 6, .inl nu_71)), (qk0r, .inl (g.2 0, 10, .inl kd_71)), (qf0r, .inl (g.2 0, 10, .inl fi_71)), (qs0r, .inl (g.2 0, 10, .inl la_71))]) hP hD [0, 1, 7, 8, 9, 10, 11] [2, 3, 4, 5, 6, 12, 13, 14, 15, 16] rfl rfl (by decide) (by decide) hk1 hFc hP1 hD1
        clear hP1 hD1 hPc hDc hFc hk1
        generalize H1 = H at hP hS ⊢
        have hP : va_P g.1 vwCl [(qtr, .inr (7, [.ref qlr, .ref qrr, .ref qvr, .ref qgr, .int partsr, .int limitr])), (qlr, .inl (g.2 0, 5, .inl lenr)), (qrr, .inl (g.2 0, 5, .inl rowr)), (qvr, .inl (g.2 0, 5, .inl votr)), (qgr, .inl (g.2 4, 2, .inr (.inr (.inr (.inr (lgC qG0r qG1r)))))), (qG1r, .inr (1, [.ref qn1r, .ref qk1r, .ref qf1r, .ref qs1r, .int mk1r])), (qn1r, .inl (g.2 0, 6, .inl nu1r)), (qk1r, .inl (g.2 0, 10, .inl kd1r)), (qf1r, .inl (g.2 0, 10, .inl fi1r)), (qs1r, .inl (g.2 0, 10, .inl la1r)), (qd, .inr (4, [.ref qtr, .ref qtx, .int (D_71 2), .int (D_71 3), .int (D_71 4), .int (D_71 5), .int (D_71 6), .int (D_71 7), .int (D_71 8)])), (qtx, .inl (g.2 1, 500, .inl tx)), (qG0r, .inr (1, [.ref qn0r, .ref qk0r, .ref qf0r, .ref qs0r, .int mk_71])), (qn0r, .inl (g.2 0, 6, .inl nu_71)), (qk0r, .inl (g.2 0, 10, .inl kd_71)), (qf0r, .inl (g.2 0, 10, .inl fi_71)), (qs0r, .inl (g.2 0, 10, .inl la_71))] H := hP
        have hD : va_D A [(qtr, .inr (7, [.ref qlr, .ref qrr, .ref qvr, .ref qgr, .int partsr, .int limitr])), (qlr, .inl (g.2 0, 5, .inl lenr)), (qrr, .inl (g.2 0, 5, .inl rowr)), (qvr, .inl (g.2 0, 5, .inl votr)), (qgr, .inl (g.2 4, 2, .inr (.inr (.inr (.inr (lgC qG0r qG1r)))))), (qG1r, .inr (1, [.ref qn1r, .ref qk1r, .ref qf1r, .ref qs1r, .int mk1r])), (qn1r, .inl (g.2 0, 6, .inl nu1r)), (qk1r, .inl (g.2 0, 10, .inl kd1r)), (qf1r, .inl (g.2 0, 10, .inl fi1r)), (qs1r, .inl (g.2 0, 10, .inl la1r)), (qd, .inr (4, [.ref qtr, .ref qtx, .int (D_71 2), .int (D_71 3), .int (D_71 4), .int (D_71 5), .int (D_71 6), .int (D_71 7), .int (D_71 8)])), (qtx, .inl (g.2 1, 500, .inl tx)), (qG0r, .inr (1, [.ref qn0r, .ref qk0r, .ref qf0r, .ref qs0r, .int mk_71])), (qn0r, .inl (g.2 0, 6, .inl nu_71)), (qk0r, .inl (g.2 0, 10, .inl kd_71)), (qf0r, .inl (g.2 0, 10, .inl fi_71)), (qs0r, .inl (g.2 0, 10, .inl la_71))] := hD
        have hP9 := hP.sub (ws' := [(qd, .inr (4, [.ref qtr, .ref qtx, .int (D_71 2), .int (D_71 3), .int (D_71 4), .int (D_71 5), .int (D_71 6), .int (D_71 7), .int (D_71 8)])), (qtx, .inl (g.2 1, 500, .inl tx)), (qtr, .inr (7, [.ref qlr, .ref qrr, .ref qvr, .ref qgr, .int partsr, .int limitr])), (qlr, .inl (g.2 0, 5, .inl lenr)), (qrr, .inl (g.2 0, 5, .inl rowr)), (qvr, .inl (g.2 0, 5, .inl votr)), (qgr, .inl (g.2 4, 2, .inr (.inr (.inr (.inr (lgC qG0r qG1r)))))), (qG0r, .inr (1, [.ref qn0r, .ref qk0r, .ref qf0r, .ref qs0r, .int mk_71])), (qn0r, .inl (g.2 0, 6, .inl nu_71)), (qk0r, .inl (g.2 0, 10, .inl kd_71)), (qf0r, .inl (g.2 0, 10, .inl fi_71)), (qs0r, .inl (g.2 0, 10, .inl la_71)), (qG1r, .inr (1, [.ref qn1r, .ref qk1r, .ref qf1r, .ref qs1r, .int mk1r])), (qn1r, .inl (g.2 0, 6, .inl nu1r)), (qk1r, .inl (g.2 0, 10, .inl kd1r)), (qf1r, .inl (g.2 0, 10, .inl fi1r)), (qs1r, .inl (g.2 0, 10, .inl la1r))]) [10, 11, 0, 1, 2, 3, 4, 12, 13, 14, 15, 16, 5, 6, 7, 8, 9] rfl
        have hD9 := hD.sub (ws' := [(qd, .inr (4, [.ref qtr, .ref qtx, .int (D_71 2), .int (D_71 3), .int (D_71 4), .int (D_71 5), .int (D_71 6), .int (D_71 7), .int (D_71 8)])), (qtx, .inl (g.2 1, 500, .inl tx)), (qtr, .inr (7, [.ref qlr, .ref qrr, .ref qvr, .ref qgr, .int partsr, .int limitr])), (qlr, .inl (g.2 0, 5, .inl lenr)), (qrr, .inl (g.2 0, 5, .inl rowr)), (qvr, .inl (g.2 0, 5, .inl votr)), (qgr, .inl (g.2 4, 2, .inr (.inr (.inr (.inr (lgC qG0r qG1r)))))), (qG0r, .inr (1, [.ref qn0r, .ref qk0r, .ref qf0r, .ref qs0r, .int mk_71])), (qn0r, .inl (g.2 0, 6, .inl nu_71)), (qk0r, .inl (g.2 0, 10, .inl kd_71)), (qf0r, .inl (g.2 0, 10, .inl fi_71)), (qs0r, .inl (g.2 0, 10, .inl la_71)), (qG1r, .inr (1, [.ref qn1r, .ref qk1r, .ref qf1r, .ref qs1r, .int mk1r])), (qn1r, .inl (g.2 0, 6, .inl nu1r)), (qk1r, .inl (g.2 0, 10, .inl kd1r)), (qf1r, .inl (g.2 0, 10, .inl fi1r)), (qs1r, .inl (g.2 0, 10, .inl la1r))]) [10, 11, 0, 1, 2, 3, 4, 12, 13, 14, 15, 16, 5, 6, 7, 8, 9] (by decide) rfl
        obtain ⟨hn, hv⟩ := hv
        exact W.zret (v := r_71) (ty := .boolean) hx hb hr hn (fun t ht hW => ⟨⟨_, (D_71, partsr, limitr, lenr, rowr, votr, mk_71, nu_71, kd_71, fi_71, la_71, mk1r, nu1r, kd1r, fi1r, la1r), rfl, hv, by rw [ht]; exact hP9, hD9⟩, hS.F ht⟩) hS.2.2 dX4_readStatement_74
    · have hv := hvf hc
      refine lv_aload_n hx hb dX4_readStatement_23 rfl (lv_at hl 0 rfl) ?_
      refine lv_iconst (v := (1 : Int32)) hx hb dX4_readStatement_24 (by decide) ?_
      refine lv_sipush (v := (9999 : Int32)) hx hb dX4_readStatement_25 (by decide) ?_
      obtain ⟨b_28, nb_28, i_28, ho_8, hv⟩ := hv
      have hPc := hP.sub (ws' := [(qd, .inr (4, [.ref qtr, .ref qtx, .int (D 2), .int (D 3), .int (D 4), .int (D 5), .int (D 6), .int (D 7), .int (D 8)])), (qtx, .inl (g.2 1, 500, .inl tx))]) [0, 1] rfl
      have hDc := hD.sub (ws' := [(qd, .inr (4, [.ref qtr, .ref qtx, .int (D 2), .int (D 3), .int (D 4), .int (D 5), .int (D 6), .int (D 7), .int (D 8)])), (qtx, .inl (g.2 1, 500, .inl tx))]) [0, 1] (by decide) rfl
      have hFc := va_free (wc := [(qd, .inr (4, [.ref qtr, .ref qtx, .int (D 2), .int (D 3), .int (D 4), .int (D 5), .int (D 6), .int (D 7), .int (D 8)])), (qtx, .inl (g.2 1, 500, .inl tx))]) hD hS hA [0, 1] rfl
      refine va_calli (va_runV (As := [.int (1 : Int32), .int (9999 : Int32)]) (rest := []) S (wX4_readNumber l g qd qtr qtx s.heap.size D tx (1 : Int32) (9999 : Int32) (sX4_readNumber b_28 nb_28 i_28 D tx (1 : Int32) (9999 : Int32) ho_8)) (cwV 2 hts gX4_readStatement_X4_readNumber rfl rfl rfl (by decide +kernel) ⟨Nat.le_of_ble_eq_true rfl, Nat.le_of_ble_eq_true rfl⟩) ⟨blindRW, va_recv hK hP (ci := 4) (q0 := 0) rfl rfl, fun U hU hW => ⟨rfl, by rw [hU], by rw [hU]; exact hPc, hG.warm hW, hDc.weaken (fun _ _ _ _ => trivial)⟩⟩ rfl rfl hl.1 rfl (lv_room (Nat.le_of_ble_eq_true rfl)) dX4_readStatement_28 ⟨Nat.le_of_ble_eq_true rfl, Nat.le_of_ble_eq_true rfl⟩) hS (fun q _ h => hFc q h) hFc (fun r_28 u t H1 locs ht hvm hw hB hz1 hk1 hS => ?_)
      obtain ⟨D_28, rfl⟩ : ∃ z, z = u := ⟨_, rfl⟩
      obtain ⟨hP1, hD1⟩ := hB
      rw [ht] at hP1
      have hv := hv r_28 D_28 hw
      obtain ⟨hP, hD⟩ := va_join (wr := [(qtr, .inr (7, [.ref qlr, .ref qrr, .ref qvr, .ref qgr, .int partsr, .int limitr])), (qlr, .inl (g.2 0, 5, .inl lenr)), (qrr, .inl (g.2 0, 5, .inl rowr)), (qvr, .inl (g.2 0, 5, .inl votr)), (qgr, .inl (g.2 4, 2, .inr (.inr (.inr (.inr (lgC qG0r qG1r)))))), (qG0r, .inr (1, [.ref qn0r, .ref qk0r, .ref qf0r, .ref qs0r, .int mk0r])), (qn0r, .inl (g.2 0, 6, .inl nu0r)), (qk0r, .inl (g.2 0, 10, .inl kd0r)), (qf0r, .inl (g.2 0, 10, .inl fi0r)), (qs0r, .inl (g.2 0, 10, .inl la0r)), (qG1r, .inr (1, [.ref qn1r, .ref qk1r, .ref qf1r, .ref qs1r, .int mk1r])), (qn1r, .inl (g.2 0, 6, .inl nu1r)), (qk1r, .inl (g.2 0, 10, .inl kd1r)), (qf1r, .inl (g.2 0, 10, .inl fi1r)), (qs1r, .inl (g.2 0, 10, .inl la1r))]) (w1 := [(qd, .inr (4, [.ref qtr, .ref qtx, .int (D_28 2), .int (D_28 3), .int (D_28 4), .int (D_28 5), .int (D_28 6), .int (D_28 7), .int (D_28 8)])), (qtx, .inl (g.2 1, 500, .inl tx))]) hP hD [0, 1] [2, 3, 4, 5, 6, 7, 8, 9, 10, 11, 12, 13, 14, 15, 16] rfl rfl (by decide) (by decide) hk1 hFc hP1 hD1
      clear hP1 hD1 hPc hDc hFc hk1
      generalize H1 = H at hP hS ⊢
      have hP : va_P g.1 vwCl [(qtr, .inr (7, [.ref qlr, .ref qrr, .ref qvr, .ref qgr, .int partsr, .int limitr])), (qlr, .inl (g.2 0, 5, .inl lenr)), (qrr, .inl (g.2 0, 5, .inl rowr)), (qvr, .inl (g.2 0, 5, .inl votr)), (qgr, .inl (g.2 4, 2, .inr (.inr (.inr (.inr (lgC qG0r qG1r)))))), (qG0r, .inr (1, [.ref qn0r, .ref qk0r, .ref qf0r, .ref qs0r, .int mk0r])), (qn0r, .inl (g.2 0, 6, .inl nu0r)), (qk0r, .inl (g.2 0, 10, .inl kd0r)), (qf0r, .inl (g.2 0, 10, .inl fi0r)), (qs0r, .inl (g.2 0, 10, .inl la0r)), (qG1r, .inr (1, [.ref qn1r, .ref qk1r, .ref qf1r, .ref qs1r, .int mk1r])), (qn1r, .inl (g.2 0, 6, .inl nu1r)), (qk1r, .inl (g.2 0, 10, .inl kd1r)), (qf1r, .inl (g.2 0, 10, .inl fi1r)), (qs1r, .inl (g.2 0, 10, .inl la1r)), (qd, .inr (4, [.ref qtr, .ref qtx, .int (D_28 2), .int (D_28 3), .int (D_28 4), .int (D_28 5), .int (D_28 6), .int (D_28 7), .int (D_28 8)])), (qtx, .inl (g.2 1, 500, .inl tx))] H := hP
      have hD : va_D A [(qtr, .inr (7, [.ref qlr, .ref qrr, .ref qvr, .ref qgr, .int partsr, .int limitr])), (qlr, .inl (g.2 0, 5, .inl lenr)), (qrr, .inl (g.2 0, 5, .inl rowr)), (qvr, .inl (g.2 0, 5, .inl votr)), (qgr, .inl (g.2 4, 2, .inr (.inr (.inr (.inr (lgC qG0r qG1r)))))), (qG0r, .inr (1, [.ref qn0r, .ref qk0r, .ref qf0r, .ref qs0r, .int mk0r])), (qn0r, .inl (g.2 0, 6, .inl nu0r)), (qk0r, .inl (g.2 0, 10, .inl kd0r)), (qf0r, .inl (g.2 0, 10, .inl fi0r)), (qs0r, .inl (g.2 0, 10, .inl la0r)), (qG1r, .inr (1, [.ref qn1r, .ref qk1r, .ref qf1r, .ref qs1r, .int mk1r])), (qn1r, .inl (g.2 0, 6, .inl nu1r)), (qk1r, .inl (g.2 0, 10, .inl kd1r)), (qf1r, .inl (g.2 0, 10, .inl fi1r)), (qs1r, .inl (g.2 0, 10, .inl la1r)), (qd, .inr (4, [.ref qtr, .ref qtx, .int (D_28 2), .int (D_28 3), .int (D_28 4), .int (D_28 5), .int (D_28 6), .int (D_28 7), .int (D_28 8)])), (qtx, .inl (g.2 1, 500, .inl tx))] := hD
      obtain ⟨hvt, hvf⟩ := hv
      refine lv_if_ne (tgt := 36) hx hb dX4_readStatement_31 (by decide) (fun hc => ?_) (fun hc => ?_)
      · have hv := hvt hc
        refine lv_aload_n hx hb dX4_readStatement_36 rfl (lv_at hl 0 rfl) ?_
        refine va_get (D := g.1) (ci := 4) (v := .ref qtr) (C := RX4) (T := TX4) (N := 9) hx hb hts inX4_readStatement_4 hown hK hP 15 rfl rfl 0 (by decide) (hts (.fieldLink RX4 12 "RangeCodes$Reader" "told" "LRangeCodes$Told;") (List.mem_of_getElem? (i := 1) rfl)) (fun _ h9 => h9) rfl dX4_readStatement_37 ?_
        refine lv_aload_n hx hb dX4_readStatement_40 rfl (lv_at hl 0 rfl) ?_
        refine va_get (D := g.1) (ci := 4) (v := .int (D_28 8)) (C := RX4) (T := TX4) (N := 9) hx hb hts inX4_readStatement_4 hown hK hP 15 rfl rfl 8 (by decide) (hts (.fieldLink RX4 63 "RangeCodes$Reader" "value" "I") (List.mem_of_getElem? (i := 2) rfl)) (fun _ h9 => h9) rfl dX4_readStatement_41 ?_
        refine va_put (D := g.1) (ci := 7) (v := .int (D_28 8)) (ty := .int) (C := RX7) (T := TX7) (N := 6) hx hb hts inX4_readStatement_7 tyX7 tyX7_ok nmX7 hown hK hP hD hS 0 rfl rfl 5 (by decide) (hts (.fieldLink RX4 66 "RangeCodes$Told" "limit" "I") (List.mem_of_getElem? (i := 3) rfl)) (fun _ h9 => h9) rfl (by decide +kernel) rfl rfl (Nat.le_of_ble_eq_true rfl) dX4_readStatement_44 (fun H locs hP hD hS => ?_)
        have hP : va_P g.1 vwCl [(qtr, .inr (7, [.ref qlr, .ref qrr, .ref qvr, .ref qgr, .int partsr, .int (D_28 8)])), (qlr, .inl (g.2 0, 5, .inl lenr)), (qrr, .inl (g.2 0, 5, .inl rowr)), (qvr, .inl (g.2 0, 5, .inl votr)), (qgr, .inl (g.2 4, 2, .inr (.inr (.inr (.inr (lgC qG0r qG1r)))))), (qG0r, .inr (1, [.ref qn0r, .ref qk0r, .ref qf0r, .ref qs0r, .int mk0r])), (qn0r, .inl (g.2 0, 6, .inl nu0r)), (qk0r, .inl (g.2 0, 10, .inl kd0r)), (qf0r, .inl (g.2 0, 10, .inl fi0r)), (qs0r, .inl (g.2 0, 10, .inl la0r)), (qG1r, .inr (1, [.ref qn1r, .ref qk1r, .ref qf1r, .ref qs1r, .int mk1r])), (qn1r, .inl (g.2 0, 6, .inl nu1r)), (qk1r, .inl (g.2 0, 10, .inl kd1r)), (qf1r, .inl (g.2 0, 10, .inl fi1r)), (qs1r, .inl (g.2 0, 10, .inl la1r)), (qd, .inr (4, [.ref qtr, .ref qtx, .int (D_28 2), .int (D_28 3), .int (D_28 4), .int (D_28 5), .int (D_28 6), .int (D_28 7), .int (D_28 8)])), (qtx, .inl (g.2 1, 500, .inl tx))] H := hP
        have hD : va_D A [(qtr, .inr (7, [.ref qlr, .ref qrr, .ref qvr, .ref qgr, .int partsr, .int (D_28 8)])), (qlr, .inl (g.2 0, 5, .inl lenr)), (qrr, .inl (g.2 0, 5, .inl rowr)), (qvr, .inl (g.2 0, 5, .inl votr)), (qgr, .inl (g.2 4, 2, .inr (.inr (.inr (.inr (lgC qG0r qG1r)))))), (qG0r, .inr (1, [.ref qn0r, .ref qk0r, .ref qf0r, .ref qs0r, .int mk0r])), (qn0r, .inl (g.2 0, 6, .inl nu0r)), (qk0r, .inl (g.2 0, 10, .inl kd0r)), (qf0r, .inl (g.2 0, 10, .inl fi0r)), (qs0r, .inl (g.2 0, 10, .inl la0r)), (qG1r, .inr (1, [.ref qn1r, .ref qk1r, .ref qf1r, .ref qs1r, .int mk1r])), (qn1r, .inl (g.2 0, 6, .inl nu1r)), (qk1r, .inl (g.2 0, 10, .inl kd1r)), (qf1r, .inl (g.2 0, 10, .inl fi1r)), (qs1r, .inl (g.2 0, 10, .inl la1r)), (qd, .inr (4, [.ref qtr, .ref qtx, .int (D_28 2), .int (D_28 3), .int (D_28 4), .int (D_28 5), .int (D_28 6), .int (D_28 7), .int (D_28 8)])), (qtx, .inl (g.2 1, 500, .inl tx))] := hD
        refine lv_aload_n hx hb dX4_readStatement_47 rfl (lv_at hl 0 rfl) ?_
        obtain ⟨b_48, nb_48, i_48, ho_9, hv⟩ := hv
        have hPc := hP.sub (ws' := [(qd, .inr (4, [.ref qtr, .ref qtx, .int (D_28 2), .int (D_28 3), .int (D_28 4), .int (D_28 5), .int (D_28 6), .int (D_28 7), .int (D_28 8)])), (qtx, .inl (g.2 1, 500, .inl tx))]) [15, 16] rfl
        have hDc := hD.sub (ws' := [(qd, .inr (4, [.ref qtr, .ref qtx, .int (D_28 2), .int (D_28 3), .int (D_28 4), .int (D_28 5), .int (D_28 6), .int (D_28 7), .int (D_28 8)])), (qtx, .inl (g.2 1, 500, .inl tx))]) [15, 16] (by decide) rfl
        have hFc := va_free (wc := [(qd, .inr (4, [.ref qtr, .ref qtx, .int (D_28 2), .int (D_28 3), .int (D_28 4), .int (D_28 5), .int (D_28 6), .int (D_28 7), .int (D_28 8)])), (qtx, .inl (g.2 1, 500, .inl tx))]) hD hS hA [15, 16] rfl
        refine va_calli (va_runV (As := []) (rest := []) S (wX4_readSign l g qd qtr qtx H.size D_28 tx (sX4_readSign b_48 nb_48 i_48 D_28 tx ho_9)) (cwV 0 hts gX4_readStatement_X4_readSign rfl rfl rfl (by decide +kernel) ⟨Nat.le_of_ble_eq_true rfl, Nat.le_of_ble_eq_true rfl⟩) ⟨blindRW, va_recv hK hP (ci := 4) (q0 := 15) rfl rfl, fun U hU hW => ⟨rfl, by rw [hU], by rw [hU]; exact hPc, hG.warm hW, hDc.weaken (fun _ _ _ _ => trivial)⟩⟩ rfl rfl hl.1 rfl (lv_room (Nat.le_of_ble_eq_true rfl)) dX4_readStatement_48 ⟨Nat.le_of_ble_eq_true rfl, Nat.le_of_ble_eq_true rfl⟩) hS (fun q _ h => hFc q h) hFc (fun r_48 u t H1 locs ht hvm hw hB hz1 hk1 hS => ?_)
        obtain ⟨D_48, rfl⟩ : ∃ z, z = u := ⟨_, rfl⟩
        obtain ⟨hP1, hD1⟩ := hB
        rw [ht] at hP1
        have hv := hv r_48 D_48 hw
        obtain ⟨hP, hD⟩ := va_join (wr := [(qtr, .inr (7, [.ref qlr, .ref qrr, .ref qvr, .ref qgr, .int partsr, .int (D_28 8)])), (qlr, .inl (g.2 0, 5, .inl lenr)), (qrr, .inl (g.2 0, 5, .inl rowr)), (qvr, .inl (g.2 0, 5, .inl votr)), (qgr, .inl (g.2 4, 2, .inr (.inr (.inr (.inr (lgC qG0r qG1r)))))), (qG0r, .inr (1, [.ref qn0r, .ref qk0r, .ref qf0r, .ref qs0r, .int mk0r])), (qn0r, .inl (g.2 0, 6, .inl nu0r)), (qk0r, .inl (g.2 0, 10, .inl kd0r)), (qf0r, .inl (g.2 0, 10, .inl fi0r)), (qs0r, .inl (g.2 0, 10, .inl la0r)), (qG1r, .inr (1, [.ref qn1r, .ref qk1r, .ref qf1r, .ref qs1r, .int mk1r])), (qn1r, .inl (g.2 0, 6, .inl nu1r)), (qk1r, .inl (g.2 0, 10, .inl kd1r)), (qf1r, .inl (g.2 0, 10, .inl fi1r)), (qs1r, .inl (g.2 0, 10, .inl la1r))]) (w1 := [(qd, .inr (4, [.ref qtr, .ref qtx, .int (D_48 2), .int (D_48 3), .int (D_48 4), .int (D_48 5), .int (D_48 6), .int (D_48 7), .int (D_48 8)])), (qtx, .inl (g.2 1, 500, .inl tx))]) hP hD [15, 16] [0, 1, 2, 3, 4, 5, 6, 7, 8, 9, 10, 11, 12, 13, 14] rfl rfl (by decide) (by decide) hk1 hFc hP1 hD1
        clear hP1 hD1 hPc hDc hFc hk1
        generalize H1 = H at hP hS ⊢
        have hP : va_P g.1 vwCl [(qtr, .inr (7, [.ref qlr, .ref qrr, .ref qvr, .ref qgr, .int partsr, .int (D_28 8)])), (qlr, .inl (g.2 0, 5, .inl lenr)), (qrr, .inl (g.2 0, 5, .inl rowr)), (qvr, .inl (g.2 0, 5, .inl votr)), (qgr, .inl (g.2 4, 2, .inr (.inr (.inr (.inr (lgC qG0r qG1r)))))), (qG0r, .inr (1, [.ref qn0r, .ref qk0r, .ref qf0r, .ref qs0r, .int mk0r])), (qn0r, .inl (g.2 0, 6, .inl nu0r)), (qk0r, .inl (g.2 0, 10, .inl kd0r)), (qf0r, .inl (g.2 0, 10, .inl fi0r)), (qs0r, .inl (g.2 0, 10, .inl la0r)), (qG1r, .inr (1, [.ref qn1r, .ref qk1r, .ref qf1r, .ref qs1r, .int mk1r])), (qn1r, .inl (g.2 0, 6, .inl nu1r)), (qk1r, .inl (g.2 0, 10, .inl kd1r)), (qf1r, .inl (g.2 0, 10, .inl fi1r)), (qs1r, .inl (g.2 0, 10, .inl la1r)), (qd, .inr (4, [.ref qtr, .ref qtx, .int (D_48 2), .int (D_48 3), .int (D_48 4), .int (D_48 5), .int (D_48 6), .int (D_48 7), .int (D_48 8)])), (qtx, .inl (g.2 1, 500, .inl tx))] H := hP
        have hD : va_D A [(qtr, .inr (7, [.ref qlr, .ref qrr, .ref qvr, .ref qgr, .int partsr, .int (D_28 8)])), (qlr, .inl (g.2 0, 5, .inl lenr)), (qrr, .inl (g.2 0, 5, .inl rowr)), (qvr, .inl (g.2 0, 5, .inl votr)), (qgr, .inl (g.2 4, 2, .inr (.inr (.inr (.inr (lgC qG0r qG1r)))))), (qG0r, .inr (1, [.ref qn0r, .ref qk0r, .ref qf0r, .ref qs0r, .int mk0r])), (qn0r, .inl (g.2 0, 6, .inl nu0r)), (qk0r, .inl (g.2 0, 10, .inl kd0r)), (qf0r, .inl (g.2 0, 10, .inl fi0r)), (qs0r, .inl (g.2 0, 10, .inl la0r)), (qG1r, .inr (1, [.ref qn1r, .ref qk1r, .ref qf1r, .ref qs1r, .int mk1r])), (qn1r, .inl (g.2 0, 6, .inl nu1r)), (qk1r, .inl (g.2 0, 10, .inl kd1r)), (qf1r, .inl (g.2 0, 10, .inl fi1r)), (qs1r, .inl (g.2 0, 10, .inl la1r)), (qd, .inr (4, [.ref qtr, .ref qtx, .int (D_48 2), .int (D_48 3), .int (D_48 4), .int (D_48 5), .int (D_48 6), .int (D_48 7), .int (D_48 8)])), (qtx, .inl (g.2 1, 500, .inl tx))] := hD
        have hP9 := hP.sub (ws' := [(qd, .inr (4, [.ref qtr, .ref qtx, .int (D_48 2), .int (D_48 3), .int (D_48 4), .int (D_48 5), .int (D_48 6), .int (D_48 7), .int (D_48 8)])), (qtx, .inl (g.2 1, 500, .inl tx)), (qtr, .inr (7, [.ref qlr, .ref qrr, .ref qvr, .ref qgr, .int partsr, .int (D_28 8)])), (qlr, .inl (g.2 0, 5, .inl lenr)), (qrr, .inl (g.2 0, 5, .inl rowr)), (qvr, .inl (g.2 0, 5, .inl votr)), (qgr, .inl (g.2 4, 2, .inr (.inr (.inr (.inr (lgC qG0r qG1r)))))), (qG0r, .inr (1, [.ref qn0r, .ref qk0r, .ref qf0r, .ref qs0r, .int mk0r])), (qn0r, .inl (g.2 0, 6, .inl nu0r)), (qk0r, .inl (g.2 0, 10, .inl kd0r)), (qf0r, .inl (g.2 0, 10, .inl fi0r)), (qs0r, .inl (g.2 0, 10, .inl la0r)), (qG1r, .inr (1, [.ref qn1r, .ref qk1r, .ref qf1r, .ref qs1r, .int mk1r])), (qn1r, .inl (g.2 0, 6, .inl nu1r)), (qk1r, .inl (g.2 0, 10, .inl kd1r)), (qf1r, .inl (g.2 0, 10, .inl fi1r)), (qs1r, .inl (g.2 0, 10, .inl la1r))]) [15, 16, 0, 1, 2, 3, 4, 5, 6, 7, 8, 9, 10, 11, 12, 13, 14] rfl
        have hD9 := hD.sub (ws' := [(qd, .inr (4, [.ref qtr, .ref qtx, .int (D_48 2), .int (D_48 3), .int (D_48 4), .int (D_48 5), .int (D_48 6), .int (D_48 7), .int (D_48 8)])), (qtx, .inl (g.2 1, 500, .inl tx)), (qtr, .inr (7, [.ref qlr, .ref qrr, .ref qvr, .ref qgr, .int partsr, .int (D_28 8)])), (qlr, .inl (g.2 0, 5, .inl lenr)), (qrr, .inl (g.2 0, 5, .inl rowr)), (qvr, .inl (g.2 0, 5, .inl votr)), (qgr, .inl (g.2 4, 2, .inr (.inr (.inr (.inr (lgC qG0r qG1r)))))), (qG0r, .inr (1, [.ref qn0r, .ref qk0r, .ref qf0r, .ref qs0r, .int mk0r])), (qn0r, .inl (g.2 0, 6, .inl nu0r)), (qk0r, .inl (g.2 0, 10, .inl kd0r)), (qf0r, .inl (g.2 0, 10, .inl fi0r)), (qs0r, .inl (g.2 0, 10, .inl la0r)), (qG1r, .inr (1, [.ref qn1r, .ref qk1r, .ref qf1r, .ref qs1r, .int mk1r])), (qn1r, .inl (g.2 0, 6, .inl nu1r)), (qk1r, .inl (g.2 0, 10, .inl kd1r)), (qf1r, .inl (g.2 0, 10, .inl fi1r)), (qs1r, .inl (g.2 0, 10, .inl la1r))]) [15, 16, 0, 1, 2, 3, 4, 5, 6, 7, 8, 9, 10, 11, 12, 13, 14] (by decide) rfl
        obtain ⟨hn, hv⟩ := hv
        exact W.zret (v := r_48) (ty := .boolean) hx hb hr hn (fun t ht hW => ⟨⟨_, (D_48, partsr, (D_28 8), lenr, rowr, votr, mk0r, nu0r, kd0r, fi0r, la0r, mk1r, nu1r, kd1r, fi1r, la1r), rfl, hv, by rw [ht]; exact hP9, hD9⟩, hS.F ht⟩) hS.2.2 dX4_readStatement_51
      · have hv := hvf hc
        refine lv_iconst (v := (0 : Int32)) hx hb dX4_readStatement_34 (by decide) ?_
        have hP9 := hP.sub (ws' := [(qd, .inr (4, [.ref qtr, .ref qtx, .int (D_28 2), .int (D_28 3), .int (D_28 4), .int (D_28 5), .int (D_28 6), .int (D_28 7), .int (D_28 8)])), (qtx, .inl (g.2 1, 500, .inl tx)), (qtr, .inr (7, [.ref qlr, .ref qrr, .ref qvr, .ref qgr, .int partsr, .int limitr])), (qlr, .inl (g.2 0, 5, .inl lenr)), (qrr, .inl (g.2 0, 5, .inl rowr)), (qvr, .inl (g.2 0, 5, .inl votr)), (qgr, .inl (g.2 4, 2, .inr (.inr (.inr (.inr (lgC qG0r qG1r)))))), (qG0r, .inr (1, [.ref qn0r, .ref qk0r, .ref qf0r, .ref qs0r, .int mk0r])), (qn0r, .inl (g.2 0, 6, .inl nu0r)), (qk0r, .inl (g.2 0, 10, .inl kd0r)), (qf0r, .inl (g.2 0, 10, .inl fi0r)), (qs0r, .inl (g.2 0, 10, .inl la0r)), (qG1r, .inr (1, [.ref qn1r, .ref qk1r, .ref qf1r, .ref qs1r, .int mk1r])), (qn1r, .inl (g.2 0, 6, .inl nu1r)), (qk1r, .inl (g.2 0, 10, .inl kd1r)), (qf1r, .inl (g.2 0, 10, .inl fi1r)), (qs1r, .inl (g.2 0, 10, .inl la1r))]) [15, 16, 0, 1, 2, 3, 4, 5, 6, 7, 8, 9, 10, 11, 12, 13, 14] rfl
        have hD9 := hD.sub (ws' := [(qd, .inr (4, [.ref qtr, .ref qtx, .int (D_28 2), .int (D_28 3), .int (D_28 4), .int (D_28 5), .int (D_28 6), .int (D_28 7), .int (D_28 8)])), (qtx, .inl (g.2 1, 500, .inl tx)), (qtr, .inr (7, [.ref qlr, .ref qrr, .ref qvr, .ref qgr, .int partsr, .int limitr])), (qlr, .inl (g.2 0, 5, .inl lenr)), (qrr, .inl (g.2 0, 5, .inl rowr)), (qvr, .inl (g.2 0, 5, .inl votr)), (qgr, .inl (g.2 4, 2, .inr (.inr (.inr (.inr (lgC qG0r qG1r)))))), (qG0r, .inr (1, [.ref qn0r, .ref qk0r, .ref qf0r, .ref qs0r, .int mk0r])), (qn0r, .inl (g.2 0, 6, .inl nu0r)), (qk0r, .inl (g.2 0, 10, .inl kd0r)), (qf0r, .inl (g.2 0, 10, .inl fi0r)), (qs0r, .inl (g.2 0, 10, .inl la0r)), (qG1r, .inr (1, [.ref qn1r, .ref qk1r, .ref qf1r, .ref qs1r, .int mk1r])), (qn1r, .inl (g.2 0, 6, .inl nu1r)), (qk1r, .inl (g.2 0, 10, .inl kd1r)), (qf1r, .inl (g.2 0, 10, .inl fi1r)), (qs1r, .inl (g.2 0, 10, .inl la1r))]) [15, 16, 0, 1, 2, 3, 4, 5, 6, 7, 8, 9, 10, 11, 12, 13, 14] (by decide) rfl
        exact W.zret (v := (0 : Int32)) (ty := .boolean) hx hb hr rfl (fun t ht hW => ⟨⟨_, (D_28, partsr, limitr, lenr, rowr, votr, mk0r, nu0r, kd0r, fi0r, la0r, mk1r, nu1r, kd1r, fi1r, la1r), rfl, hv, by rw [ht]; exact hP9, hD9⟩, hS.F ht⟩) hS.2.2 dX4_readStatement_35
  · have hv := hvf hc
    refine lv_aload_n hx hb dX4_readStatement_9 rfl (lv_at hl 0 rfl) ?_
    obtain ⟨b_10, nb_10, i_10, T_10, ho_10, hv⟩ := hv
    have hPc := hP.sub (ws' := [(qd, .inr (4, [.ref qtr, .ref qtx, .int (D 2), .int (D 3), .int (D 4), .int (D 5), .int (D 6), .int (D 7), .int (D 8)])), (qtx, .inl (g.2 1, 500, .inl tx)), (qtr, .inr (7, [.ref qlr, .ref qrr, .ref qvr, .ref qgr, .int partsr, .int limitr])), (qlr, .inl (g.2 0, 5, .inl lenr)), (qrr, .inl (g.2 0, 5, .inl rowr)), (qvr, .inl (g.2 0, 5, .inl votr))]) [0, 1, 2, 3, 4, 5] rfl
    have hDc := hD.sub (ws' := [(qd, .inr (4, [.ref qtr, .ref qtx, .int (D 2), .int (D 3), .int (D 4), .int (D 5), .int (D 6), .int (D 7), .int (D 8)])), (qtx, .inl (g.2 1, 500, .inl tx)), (qtr, .inr (7, [.ref qlr, .ref qrr, .ref qvr, .ref qgr, .int partsr, .int limitr])), (qlr, .inl (g.2 0, 5, .inl lenr)), (qrr, .inl (g.2 0, 5, .inl rowr)), (qvr, .inl (g.2 0, 5, .inl votr))]) [0, 1, 2, 3, 4, 5] (by decide) rfl
    have hFc := va_free (wc := [(qd, .inr (4, [.ref qtr, .ref qtx, .int (D 2), .int (D 3), .int (D 4), .int (D 5), .int (D 6), .int (D 7), .int (D 8)])), (qtx, .inl (g.2 1, 500, .inl tx)), (qtr, .inr (7, [.ref qlr, .ref qrr, .ref qvr, .ref qgr, .int partsr, .int limitr])), (qlr, .inl (g.2 0, 5, .inl lenr)), (qrr, .inl (g.2 0, 5, .inl rowr)), (qvr, .inl (g.2 0, 5, .inl votr))]) hD hS hA [0, 1, 2, 3, 4, 5] rfl
    refine va_calli (va_runV (As := []) (rest := []) S (wX4_readPart l g qd qtr qtx qlr qrr qvr qgr s.heap.size D tx partsr limitr lenr rowr votr (sX4_readPart b_10 nb_10 i_10 T_10 D tx partsr limitr lenr rowr votr ho_10)) (cwV 0 hts gX4_readStatement_X4_readPart rfl rfl rfl (by decide +kernel) ⟨Nat.le_of_ble_eq_true rfl, Nat.le_of_ble_eq_true rfl⟩) ⟨blindRW, va_recv hK hP (ci := 4) (q0 := 0) rfl rfl, fun U hU hW => ⟨rfl, by rw [hU], by rw [hU]; exact hPc, hG.warm hW, hDc.weaken (fun _ _ _ _ => trivial)⟩⟩ rfl rfl hl.1 rfl (lv_room (Nat.le_of_ble_eq_true rfl)) dX4_readStatement_10 ⟨Nat.le_of_ble_eq_true rfl, Nat.le_of_ble_eq_true rfl⟩) hS (fun q _ h => hFc q h) hFc (fun r_10 u t H1 locs ht hvm hw hB hz1 hk1 hS => ?_)
    obtain ⟨D_10, partsr_10, lenr_10, rowr_10, votr_10⟩ := u
    obtain ⟨hP1, hD1⟩ := hB
    rw [ht] at hP1
    have hv := hv r_10 D_10 partsr_10 lenr_10 rowr_10 votr_10 hw
    obtain ⟨hP, hD⟩ := va_join (wr := [(qgr, .inl (g.2 4, 2, .inr (.inr (.inr (.inr (lgC qG0r qG1r)))))), (qG0r, .inr (1, [.ref qn0r, .ref qk0r, .ref qf0r, .ref qs0r, .int mk0r])), (qn0r, .inl (g.2 0, 6, .inl nu0r)), (qk0r, .inl (g.2 0, 10, .inl kd0r)), (qf0r, .inl (g.2 0, 10, .inl fi0r)), (qs0r, .inl (g.2 0, 10, .inl la0r)), (qG1r, .inr (1, [.ref qn1r, .ref qk1r, .ref qf1r, .ref qs1r, .int mk1r])), (qn1r, .inl (g.2 0, 6, .inl nu1r)), (qk1r, .inl (g.2 0, 10, .inl kd1r)), (qf1r, .inl (g.2 0, 10, .inl fi1r)), (qs1r, .inl (g.2 0, 10, .inl la1r))]) (w1 := [(qd, .inr (4, [.ref qtr, .ref qtx, .int (D_10 2), .int (D_10 3), .int (D_10 4), .int (D_10 5), .int (D_10 6), .int (D_10 7), .int (D_10 8)])), (qtx, .inl (g.2 1, 500, .inl tx)), (qtr, .inr (7, [.ref qlr, .ref qrr, .ref qvr, .ref qgr, .int partsr_10, .int limitr])), (qlr, .inl (g.2 0, 5, .inl lenr_10)), (qrr, .inl (g.2 0, 5, .inl rowr_10)), (qvr, .inl (g.2 0, 5, .inl votr_10))]) hP hD [0, 1, 2, 3, 4, 5] [6, 7, 8, 9, 10, 11, 12, 13, 14, 15, 16] rfl rfl (by decide) (by decide) hk1 hFc hP1 hD1
    clear hP1 hD1 hPc hDc hFc hk1
    generalize H1 = H at hP hS ⊢
    have hP : va_P g.1 vwCl [(qgr, .inl (g.2 4, 2, .inr (.inr (.inr (.inr (lgC qG0r qG1r)))))), (qG0r, .inr (1, [.ref qn0r, .ref qk0r, .ref qf0r, .ref qs0r, .int mk0r])), (qn0r, .inl (g.2 0, 6, .inl nu0r)), (qk0r, .inl (g.2 0, 10, .inl kd0r)), (qf0r, .inl (g.2 0, 10, .inl fi0r)), (qs0r, .inl (g.2 0, 10, .inl la0r)), (qG1r, .inr (1, [.ref qn1r, .ref qk1r, .ref qf1r, .ref qs1r, .int mk1r])), (qn1r, .inl (g.2 0, 6, .inl nu1r)), (qk1r, .inl (g.2 0, 10, .inl kd1r)), (qf1r, .inl (g.2 0, 10, .inl fi1r)), (qs1r, .inl (g.2 0, 10, .inl la1r)), (qd, .inr (4, [.ref qtr, .ref qtx, .int (D_10 2), .int (D_10 3), .int (D_10 4), .int (D_10 5), .int (D_10 6), .int (D_10 7), .int (D_10 8)])), (qtx, .inl (g.2 1, 500, .inl tx)), (qtr, .inr (7, [.ref qlr, .ref qrr, .ref qvr, .ref qgr, .int partsr_10, .int limitr])), (qlr, .inl (g.2 0, 5, .inl lenr_10)), (qrr, .inl (g.2 0, 5, .inl rowr_10)), (qvr, .inl (g.2 0, 5, .inl votr_10))] H := hP
    have hD : va_D A [(qgr, .inl (g.2 4, 2, .inr (.inr (.inr (.inr (lgC qG0r qG1r)))))), (qG0r, .inr (1, [.ref qn0r, .ref qk0r, .ref qf0r, .ref qs0r, .int mk0r])), (qn0r, .inl (g.2 0, 6, .inl nu0r)), (qk0r, .inl (g.2 0, 10, .inl kd0r)), (qf0r, .inl (g.2 0, 10, .inl fi0r)), (qs0r, .inl (g.2 0, 10, .inl la0r)), (qG1r, .inr (1, [.ref qn1r, .ref qk1r, .ref qf1r, .ref qs1r, .int mk1r])), (qn1r, .inl (g.2 0, 6, .inl nu1r)), (qk1r, .inl (g.2 0, 10, .inl kd1r)), (qf1r, .inl (g.2 0, 10, .inl fi1r)), (qs1r, .inl (g.2 0, 10, .inl la1r)), (qd, .inr (4, [.ref qtr, .ref qtx, .int (D_10 2), .int (D_10 3), .int (D_10 4), .int (D_10 5), .int (D_10 6), .int (D_10 7), .int (D_10 8)])), (qtx, .inl (g.2 1, 500, .inl tx)), (qtr, .inr (7, [.ref qlr, .ref qrr, .ref qvr, .ref qgr, .int partsr_10, .int limitr])), (qlr, .inl (g.2 0, 5, .inl lenr_10)), (qrr, .inl (g.2 0, 5, .inl rowr_10)), (qvr, .inl (g.2 0, 5, .inl votr_10))] := hD
    have hP9 := hP.sub (ws' := [(qd, .inr (4, [.ref qtr, .ref qtx, .int (D_10 2), .int (D_10 3), .int (D_10 4), .int (D_10 5), .int (D_10 6), .int (D_10 7), .int (D_10 8)])), (qtx, .inl (g.2 1, 500, .inl tx)), (qtr, .inr (7, [.ref qlr, .ref qrr, .ref qvr, .ref qgr, .int partsr_10, .int limitr])), (qlr, .inl (g.2 0, 5, .inl lenr_10)), (qrr, .inl (g.2 0, 5, .inl rowr_10)), (qvr, .inl (g.2 0, 5, .inl votr_10)), (qgr, .inl (g.2 4, 2, .inr (.inr (.inr (.inr (lgC qG0r qG1r)))))), (qG0r, .inr (1, [.ref qn0r, .ref qk0r, .ref qf0r, .ref qs0r, .int mk0r])), (qn0r, .inl (g.2 0, 6, .inl nu0r)), (qk0r, .inl (g.2 0, 10, .inl kd0r)), (qf0r, .inl (g.2 0, 10, .inl fi0r)), (qs0r, .inl (g.2 0, 10, .inl la0r)), (qG1r, .inr (1, [.ref qn1r, .ref qk1r, .ref qf1r, .ref qs1r, .int mk1r])), (qn1r, .inl (g.2 0, 6, .inl nu1r)), (qk1r, .inl (g.2 0, 10, .inl kd1r)), (qf1r, .inl (g.2 0, 10, .inl fi1r)), (qs1r, .inl (g.2 0, 10, .inl la1r))]) [11, 12, 13, 14, 15, 16, 0, 1, 2, 3, 4, 5, 6, 7, 8, 9, 10] rfl
    have hD9 := hD.sub (ws' := [(qd, .inr (4, [.ref qtr, .ref qtx, .int (D_10 2), .int (D_10 3), .int (D_10 4), .int (D_10 5), .int (D_10 6), .int (D_10 7), .int (D_10 8)])), (qtx, .inl (g.2 1, 500, .inl tx)), (qtr, .inr (7, [.ref qlr, .ref qrr, .ref qvr, .ref qgr, .int partsr_10, .int limitr])), (qlr, .inl (g.2 0, 5, .inl lenr_10)), (qrr, .inl (g.2 0, 5, .inl rowr_10)), (qvr, .inl (g.2 0, 5, .inl votr_10)), (qgr, .inl (g.2 4, 2, .inr (.inr (.inr (.inr (lgC qG0r qG1r)))))), (qG0r, .inr (1, [.ref qn0r, .ref qk0r, .ref qf0r, .ref qs0r, .int mk0r])), (qn0r, .inl (g.2 0, 6, .inl nu0r)), (qk0r, .inl (g.2 0, 10, .inl kd0r)), (qf0r, .inl (g.2 0, 10, .inl fi0r)), (qs0r, .inl (g.2 0, 10, .inl la0r)), (qG1r, .inr (1, [.ref qn1r, .ref qk1r, .ref qf1r, .ref qs1r, .int mk1r])), (qn1r, .inl (g.2 0, 6, .inl nu1r)), (qk1r, .inl (g.2 0, 10, .inl kd1r)), (qf1r, .inl (g.2 0, 10, .inl fi1r)), (qs1r, .inl (g.2 0, 10, .inl la1r))]) [11, 12, 13, 14, 15, 16, 0, 1, 2, 3, 4, 5, 6, 7, 8, 9, 10] (by decide) rfl
    obtain ⟨hn, hv⟩ := hv
    exact W.zret (v := r_10) (ty := .boolean) hx hb hr hn (fun t ht hW => ⟨⟨_, (D_10, partsr_10, limitr, lenr_10, rowr_10, votr_10, mk0r, nu0r, kd0r, fi0r, la0r, mk1r, nu1r, kd1r, fi1r, la1r), rfl, hv, by rw [ht]; exact hP9, hD9⟩, hS.F ht⟩) hS.2.2 dX4_readStatement_13
/-- what the reader holds -/
def rdT (T : Cd) (G0 G1 : Lg) (lim : Nat) (f : Ft) (partsr : Int32) (limitr : Int32) (lenr : Nat → Int32) (rowr : Nat → Int32) (votr : Nat → Int32) (mk0r : Int32) (nu0r : Nat → Int32) (kd0r : Nat → Int32) (fi0r : Nat → Int32) (la0r : Nat → Int32) (mk1r : Int32) (nu1r : Nat → Int32) (kd1r : Nat → Int32) (fi1r : Nat → Int32) (la1r : Nat → Int32) : Prop := rdP T f partsr lenr rowr votr ∧ rdG G0 f mk0r nu0r kd0r fi0r la0r ∧ rdG G1 f mk1r nu1r kd1r fi1r la1r ∧ (f.1 = 0 → limitr.toInt = (lim : Int) ∧ lim ≤ 9999 ∧ 1 ≤ lim)
theorem rdP_f {T : Cd} {f f' : Ft} {parts : Int32} {len row vot : Nat → Int32} (h : rdP T f parts len row vot) (hf : f'.1 = 0 → f.1 = 0) : rdP T f' parts len row vot := ⟨fun z => h.1 (hf z), h.2⟩
theorem rdG_f {G : Lg} {f f' : Ft} {mk : Int32} {nu kd fi la : Nat → Int32} (h : rdG G f mk nu kd fi la) (hf : f'.1 = 0 → f.1 = 0) : rdG G f' mk nu kd fi la := ⟨fun z => h.1 (hf z), h.2⟩
theorem mkS_f {b : Nat → Int32} {nb i p0 w n : Nat} {f : Ft} (h : (mkS b nb i p0 w n f).2.2.1 = 0) : f.1 = 0 := by
  unfold mkS at h
  by_cases c : (numS b nb i 0 199 (if 10 ≤ n then noF f 4 p0 else f)).1 = true ∧ w = 14
  · rw [if_pos c] at h
    exact (if_f (k := 4) (by decide) (numS_0 (numS_0 h).2.1).2.1).1
  · rw [if_neg c] at h
    exact (if_f (k := 4) (by decide) (numS_0 h).2.1).1
theorem legS_f {b : Nat → Int32} {nb i : Nat} {G : Lg} {f : Ft} (h : (legS b nb i G f).2.2.1 = 0) : f.1 = 0 := by
  unfold legS at h
  split at h
  · exact (numS_0 h).2.1
  · split at h
    · exact mkS_f h
    · exact absurd h (by show (1 : Int) ≠ 0; decide)
theorem partS_f {b : Nat → Int32} {nb i p0 n : Nat} {f : Ft} (h : (partS b nb i p0 n f).2.2.1 = 0) : f.1 = 0 := by
  unfold partS at h
  by_cases c : rwB b nb i = true
  · rw [if_pos c] at h
    exact (if_f (k := 3) (by decide) (numS_0 h).2.1).1
  · rw [if_neg c] at h
    exact absurd h (by show (1 : Int) ≠ 0; decide)
theorem lineS_f {b : Nat → Int32} {nb i : Nat} {T : Cd} {G0 G1 : Lg} {f : Ft} (h : (lineS b nb i T G0 G1 f).2.2.1 = 0) : f.1 = 0 := by
  unfold lineS at h
  split at h
  · exact partS_f h
  · split at h
    · exact (numS_0 h).2.1
    · split at h
      · exact legS_f h
      · split at h
        · exact legS_f h
        · exact absurd h (by show (1 : Int) ≠ 0; decide)
theorem sgnS_1 {b : Nat → Int32} {nb : Nat} {o : Ou} (h : (sgnS b nb o).2.2.1 = 0) : o.2.2.1 = 0 := by
  unfold sgnS at h
  split at h
  · split at h
    · exact h
    · exact absurd h (by show (1 : Int) ≠ 0; decide)
  · exact h
abbrev preX4_readStatement (b : Nat → Int32) (nb : Nat) (i : Nat) (T : Cd) (G0 : Lg) (G1 : Lg) (lim : Nat) (D : Nat → Int32) (tx : Nat → Int32) (partsr : Int32) (limitr : Int32) (lenr : Nat → Int32) (rowr : Nat → Int32) (votr : Nat → Int32) (mk0r : Int32) (nu0r : Nat → Int32) (kd0r : Nat → Int32) (fi0r : Nat → Int32) (la0r : Nat → Int32) (mk1r : Int32) (nu1r : Nat → Int32) (kd1r : Nat → Int32) (fi1r : Nat → Int32) (la1r : Nat → Int32) : Prop := rdK b nb i D ∧ isTx b nb tx ∧ rdT T G0 G1 lim (fl D) partsr limitr lenr rowr votr mk0r nu0r kd0r fi0r la0r mk1r nu1r kd1r fi1r la1r
abbrev postX4_readStatement (b : Nat → Int32) (nb : Nat) (i : Nat) (T : Cd) (G0 : Lg) (G1 : Lg) (lim : Nat) (D : Nat → Int32) (tx : Nat → Int32) (partsr : Int32) (limitr : Int32) (lenr : Nat → Int32) (rowr : Nat → Int32) (votr : Nat → Int32) (mk0r : Int32) (nu0r : Nat → Int32) (kd0r : Nat → Int32) (fi0r : Nat → Int32) (la0r : Nat → Int32) (mk1r : Int32) (nu1r : Nat → Int32) (kd1r : Nat → Int32) (fi1r : Nat → Int32) (la1r : Nat → Int32) (r : Int32) (D' : Nat → Int32) (partsr' : Int32) (limitr' : Int32) (lenr' : Nat → Int32) (rowr' : Nat → Int32) (votr' : Nat → Int32) (mk0r' : Int32) (nu0r' : Nat → Int32) (kd0r' : Nat → Int32) (fi0r' : Nat → Int32) (la0r' : Nat → Int32) (mk1r' : Int32) (nu1r' : Nat → Int32) (kd1r' : Nat → Int32) (fi1r' : Nat → Int32) (la1r' : Nat → Int32) : Prop := rdA nb (sgnS b nb (lineS b nb i T G0 G1 (fl D))) r D' ∧ rdT (liT b nb i T) (li0 b nb i G0) (li1 b nb i G1) (liL b nb i lim) (sgnS b nb (lineS b nb i T G0 G1 (fl D))).2.2 partsr' limitr' lenr' rowr' votr' mk0r' nu0r' kd0r' fi0r' la0r' mk1r' nu1r' kd1r' fi1r' la1r'
theorem sX4_readStatement (b : Nat → Int32) (nb : Nat) (i : Nat) (T : Cd) (G0 : Lg) (G1 : Lg) (lim : Nat) (D : Nat → Int32) (tx : Nat → Int32) (partsr : Int32) (limitr : Int32) (lenr : Nat → Int32) (rowr : Nat → Int32) (votr : Nat → Int32) (mk0r : Int32) (nu0r : Nat → Int32) (kd0r : Nat → Int32) (fi0r : Nat → Int32) (la0r : Nat → Int32) (mk1r : Int32) (nu1r : Nat → Int32) (kd1r : Nat → Int32) (fi1r : Nat → Int32) (la1r : Nat → Int32) (H : preX4_readStatement b nb i T G0 G1 lim D tx partsr limitr lenr rowr votr mk0r nu0r kd0r fi0r la0r mk1r nu1r kd1r fi1r la1r) : vX4_readStatement D tx partsr limitr lenr rowr votr mk0r nu0r kd0r fi0r la0r mk1r nu1r kd1r fi1r la1r (postX4_readStatement b nb i T G0 G1 lim D tx partsr limitr lenr rowr votr mk0r nu0r kd0r fi0r la0r mk1r nu1r kd1r fi1r la1r) := by
  obtain ⟨hr, htx, hP, h0, h1, hl⟩ := H
  have hi := hr.2.2.1
  have hst := rdK_st hr htx
  have h6 : 0 ≤ (D 6).toInt := by rw [hr.2.2.2.1]; omega
  have e6 : (D 6).toInt.toNat = tS b nb i := by rw [hr.2.2.2.1]; rfl
  have hie := tE_le b (tE_le b hi).2
  have zz : ∀ {o : Ou}, (sgnS b nb o).2.2.1 = 0 → (o.2.2.1 = 0 → (fl D).1 = 0) → (fl D).1 = 0 := fun q w => w (sgnS_1 q)
  unfold postX4_readStatement
  refine ⟨b, nb, i, ⟨hr, htx, by decide⟩, fun r hw => br_w (k := 0) (by decide) hw (fun n0 => ⟨b, nb, i, ⟨hr, htx, by decide⟩, fun r hw => br_w (k := 1) (by decide) hw (fun n1 => ⟨b, nb, i, ⟨hr, htx, by decide⟩, fun r hw => br_w (k := 2) (by decide) hw (fun n2 => ⟨b, nb, i, ⟨hr, htx, by decide⟩, fun r hw => br_w (k := 3) (by decide) hw (fun n3 => ?_) (fun e => ?_)⟩) (fun e => ?_)⟩) (fun e => ?_)⟩) (fun e => ?_)⟩
  · refine ⟨trivial, fun r4 D4 h4 => ?_⟩
    obtain ⟨e1, e2⟩ := h4
    subst e1
    unfold lineS
    rw [if_neg n0, if_neg n1, if_neg n2, if_neg n3]
    have no : (sgnS b nb (rfS (tS b nb i))).2.2.1 ≠ 0 := by rw [rfS_n]; show (1 : Int) ≠ 0; decide
    refine ⟨rfl, rdA_no rfl (by rw [e2, hr.2.2.2.1]; rfl), ⟨fun z => absurd z no, hP.2⟩, ⟨fun z => absurd z no, h0.2⟩, ⟨fun z => absurd z no, h1.2⟩, fun z => absurd z no⟩
  · refine ⟨b, nb, tE b nb i, G1, ⟨hst, h1⟩, fun r4 D4 mk4 nu4 kd4 fi4 la4 h4 => ⟨nar_if h4.1.1, ?_⟩⟩
    unfold lineS liT li0 li1 liL
    rw [if_neg n0, if_neg n1, if_neg n2, if_pos e, if_neg n0, if_neg n2, if_pos e, if_neg n1]
    exact ⟨h4.1, rdP_f hP (fun z => zz z legS_f), rdG_f h0 (fun z => zz z legS_f), h4.2, fun z => hl (zz z legS_f)⟩
  · refine ⟨b, nb, tE b nb i, G0, ⟨hst, h0⟩, fun r4 D4 mk4 nu4 kd4 fi4 la4 h4 => ⟨nar_if h4.1.1, ?_⟩⟩
    unfold lineS liT li0 li1 liL
    rw [if_neg n0, if_neg n1, if_pos e, if_neg n0, if_pos e, if_neg (by omega), if_neg n1]
    exact ⟨h4.1, rdP_f hP (fun z => zz z legS_f), h4.2, rdG_f h1 (fun z => zz z legS_f), fun z => hl (zz z legS_f)⟩
  · refine ⟨b, nb, tE b nb i, hst, fun r4 D4 h4 => ?_⟩
    obtain ⟨h4a, h4b, h4c⟩ := h4
    rw [z1, z9999] at h4a h4b h4c
    rw [h4a, q_if1]
    unfold lineS liT li0 li1 liL
    rw [if_neg n0, if_pos e, if_neg n0, if_neg (by omega), if_neg (by omega), if_pos e]
    refine ⟨fun c => ?_, fun c => ?_⟩
    · have c := Decidable.not_not.mp c
      have hk := numS_t.mp c
      have hr4 := h4c c
      have h8 := hr4.2.2.2.2.2.2 hk
      have eo : numS b nb (tE b nb i) 1 9999 (fl D) = (true, tE b nb (tE b nb i), fl D4) := by rw [h4b, ← c, ← numS_p hk]
      refine ⟨b, nb, tE b nb (tE b nb i), rdK_st hr4 htx, fun r5 D5 h5 => ⟨nar_if h5.1, ?_⟩⟩
      have hA := rdA_sg rfl h5
      rw [← eo] at hA
      have z2 : ∀ z : (sgnS b nb (numS b nb (tE b nb i) 1 9999 (fl D))).2.2.1 = 0, (fl D).1 = 0 := fun z => (numS_0 (sgnS_1 z)).2.1
      refine ⟨hA, rdP_f hP z2, rdG_f h0 z2, rdG_f h1 z2, fun z => ?_⟩
      have q := numS_0 (sgnS_1 z)
      exact ⟨h8, by have := q.2.2.2.1; omega, by have := q.2.2.1; omega⟩
    · have c : (numS b nb (tE b nb i) 1 9999 (fl D)).1 = false := by simpa using c
      have no : (sgnS b nb (numS b nb (tE b nb i) 1 9999 (fl D))).2.2.1 ≠ 0 := fun z => absurd (sgnS_f z (fun q => numS_n q)).1 (by rw [c]; decide)
      refine ⟨rdA_no c h4b, ⟨fun z => absurd z no, hP.2⟩, ⟨fun z => absurd z no, h0.2⟩, ⟨fun z => absurd z no, h1.2⟩, fun z => absurd z no⟩
  · refine ⟨b, nb, tE b nb i, T, ⟨hst, h6, hP⟩, fun r4 D4 pa le ro vo h4 => ⟨nar_if h4.1.1, ?_⟩⟩
    unfold lineS liT li0 li1 liL
    rw [if_pos e, if_pos e, if_neg (by omega), if_neg (by omega), if_neg (by omega)]
    have h4 : rdA nb (sgnS b nb (partS b nb (tE b nb i) (D 6).toInt.toNat (cn T) (fl D))) r4 D4 ∧ rdP (partT b nb (tE b nb i) T) (sgnS b nb (partS b nb (tE b nb i) (D 6).toInt.toNat (cn T) (fl D))).2.2 pa le ro vo := h4
    rw [e6] at h4
    exact ⟨h4.1, h4.2, rdG_f h0 (fun z => zz z partS_f), rdG_f h1 (fun z => zz z partS_f), fun z => hl (zz z partS_f)⟩
