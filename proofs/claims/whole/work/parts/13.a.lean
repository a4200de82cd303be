set_option maxRecDepth 20000 in
theorem ggX0_forgetMatches_J7_fill_53178 : GoodIn wsX0_forgetMatches wsJ7_fill_53178 := goodIn_r _ [7] (by decide +kernel) (by decide +kernel)
set_option maxRecDepth 20000 in
theorem gX0_forgetMatches_J7_fill_53178 : GoodIn wsX0_forgetMatches (va_wsS RX0 110 yJ7_fill_53178 wsJ7_fill_53178) := goodIn_app (goodIn_of _ (by decide +kernel)) ggX0_forgetMatches_J7_fill_53178
theorem dX0_forgetMatches_0 : decode cX0_forgetMatches 0 = .ok (.iconst 0, 1) := by decide +kernel
theorem dX0_forgetMatches_1 : decode cX0_forgetMatches 1 = .ok (.istore_n 1, 1) := by decide +kernel
theorem dX0_forgetMatches_2 : decode cX0_forgetMatches 2 = .ok (.iload_n 1, 1) := by decide +kernel
theorem dX0_forgetMatches_3 : decode cX0_forgetMatches 3 = .ok (.aload_n 0, 1) := by decide +kernel
theorem dX0_forgetMatches_4 : decode cX0_forgetMatches 4 = .ok (.getfield 26, 3) := by decide +kernel
theorem dX0_forgetMatches_7 : decode cX0_forgetMatches 7 = .ok (.getfield 70, 3) := by decide +kernel
theorem dX0_forgetMatches_10 : decode cX0_forgetMatches 10 = .ok (.if_icmp .ge 19, 3) := by decide +kernel
theorem dX0_forgetMatches_13 : decode cX0_forgetMatches 13 = .ok (.aload_n 0, 1) := by decide +kernel
theorem dX0_forgetMatches_14 : decode cX0_forgetMatches 14 = .ok (.getfield 17, 3) := by decide +kernel
theorem dX0_forgetMatches_17 : decode cX0_forgetMatches 17 = .ok (.iload_n 1, 1) := by decide +kernel
theorem dX0_forgetMatches_18 : decode cX0_forgetMatches 18 = .ok (.aaload, 1) := by decide +kernel
theorem dX0_forgetMatches_19 : decode cX0_forgetMatches 19 = .ok (.iconst 0, 1) := by decide +kernel
theorem dX0_forgetMatches_20 : decode cX0_forgetMatches 20 = .ok (.invokestatic 110, 3) := by decide +kernel
theorem dX0_forgetMatches_23 : decode cX0_forgetMatches 23 = .ok (.iinc 1 1, 3) := by decide +kernel
theorem dX0_forgetMatches_26 : decode cX0_forgetMatches 26 = .ok (.goto (-24), 3) := by decide +kernel
theorem dX0_forgetMatches_29 : decode cX0_forgetMatches 29 = .ok (.return_, 1) := by decide +kernel
abbrev rmX0_forgetMatches : Room := { frames := 1, cells := 0, slots := 0, locals := 23 }
theorem inX0_forgetMatches_0 : ∀ w ∈ wsX00, w ∈ wsX0_forgetMatches := by decide +kernel
theorem inX0_forgetMatches_7 : ∀ w ∈ wsX70, w ∈ wsX0_forgetMatches := by decide +kernel
def vX0_forgetMatches_c2 (E : Nat → Int32) (parts : Int32) (limit : Int32) (Q : (Nat → Nat → Int32) → Prop) : Nat → Int32 → (Nat → Nat → Int32) → Prop
  | 0, _, _ => False
  | n + 1, x1, M => ((parts ≤ x1 → (Q M)) ∧ (¬ parts ≤ x1 → (vp_in x1 5 ∧ (∀ j_18 : Nat, j_18 < 5 → x1 = nI j_18 → (preJ7_fill_53178 13 (M j_18) (0 : Int32) ∧ (∀ (fA_20 : Nat → Int32), postJ7_fill_53178 13 (M j_18) (0 : Int32) fA_20 → (vX0_forgetMatches_c2 E parts limit Q n (x1 + (1 : Int32)) (va_up M j_18 fA_20))))))))
set_option maxHeartbeats 4000000 in
set_option maxRecDepth 100000 in
theorem kX0_forgetMatches_c2 {p : Program} {l : Launch} {e : Env} {s : State} {m : MethodId} {args : Array Value} {below : List Frame} {meth : Method} {c : Code} {g : GP} {qe : Nat} {qt : Nat} {qh : Nat} {qm : Nat} {qb : Nat} {qx : Nat} {ql : Nat} {qr : Nat} {qv : Nat} {qg : Nat} {aM : Nat → Nat} {E : Nat → Int32} {parts : Int32} {limit : Int32}  {Q : (Nat → Nat → Int32) → Prop} {A : Nat → Prop} (S : CallFix p m c cX0_forgetMatches 2 s args wsX0_forgetMatches RX0) (hr : meth.sig.returnType = none) (hlocks : meth.locks = false) (hG : GK g s) (hA : ∀ q : Nat, s.heap.size ≤ q → A q) : ∀ (n : Nat), ∀ (x1 : Int32) (M : Nat → Nat → Int32), vX0_forgetMatches_c2 E parts limit Q n x1 M → ∀ (H : Heap) (locs : List Loc), va_P g.1 vwCl [(qe, .inr (0, [.ref qt, .ref qh, .ref qm, .ref qb, .ref qx, .int (E 5), .int (E 6), .int (E 7), .int (E 8), .int (E 9), .int (E 10), .int (E 11)])), (qm, .inl (g.2 6, 5, .inr (.inr (.inr (.inr (rwM aM)))))), ((aM 0), .inl (g.2 0, 13, .inl (M 0))), ((aM 1), .inl (g.2 0, 13, .inl (M 1))), ((aM 2), .inl (g.2 0, 13, .inl (M 2))), ((aM 3), .inl (g.2 0, 13, .inl (M 3))), ((aM 4), .inl (g.2 0, 13, .inl (M 4))), (qt, .inr (7, [.ref ql, .ref qr, .ref qv, .ref qg, .int parts, .int limit]))] H → va_D A [(qe, .inr (0, [.ref qt, .ref qh, .ref qm, .ref qb, .ref qx, .int (E 5), .int (E 6), .int (E 7), .int (E 8), .int (E 9), .int (E 10), .int (E 11)])), (qm, .inl (g.2 6, 5, .inr (.inr (.inr (.inr (rwM aM)))))), ((aM 0), .inl (g.2 0, 13, .inl (M 0))), ((aM 1), .inl (g.2 0, 13, .inl (M 1))), ((aM 2), .inl (g.2 0, 13, .inl (M 2))), ((aM 3), .inl (g.2 0, 13, .inl (M 3))), ((aM 4), .inl (g.2 0, 13, .inl (M 4))), (qt, .inr (7, [.ref ql, .ref qr, .ref qv, .ref qg, .int parts, .int limit]))] → va_S A s.heap H locs → ∀ (ls : Array Slot), lv_has ls 2 [(0, .ref qe), (1, .int x1)] → W p l e (headSpec wsX0_forgetMatches rmX0_forgetMatches).room s m args below meth c H locs 0 0 (MQ below (va_Qv (fun (u : (Nat → Nat → Int32)) => Q u) (fun (u : (Nat → Nat → Int32)) t => va_P g.1 vwCl [(qe, .inr (0, [.ref qt, .ref qh, .ref qm, .ref qb, .ref qx, .int (E 5), .int (E 6), .int (E 7), .int (E 8), .int (E 9), .int (E 10), .int (E 11)])), (qm, .inl (g.2 6, 5, .inr (.inr (.inr (.inr (rwM aM)))))), ((aM 0), .inl (g.2 0, 13, .inl (u 0))), ((aM 1), .inl (g.2 0, 13, .inl (u 1))), ((aM 2), .inl (g.2 0, 13, .inl (u 2))), ((aM 3), .inl (g.2 0, 13, .inl (u 3))), ((aM 4), .inl (g.2 0, 13, .inl (u 4))), (qt, .inr (7, [.ref ql, .ref qr, .ref qv, .ref qg, .int parts, .int limit]))] t.heap ∧ va_D A [(qe, .inr (0, [.ref qt, .ref qh, .ref qm, .ref qb, .ref qx, .int (E 5), .int (E 6), .int (E 7), .int (E 8), .int (E 9), .int (E 10), .int (E 11)])), (qm, .inl (g.2 6, 5, .inr (.inr (.inr (.inr (rwM aM)))))), ((aM 0), .inl (g.2 0, 13, .inl (u 0))), ((aM 1), .inl (g.2 0, 13, .inl (u 1))), ((aM 2), .inl (g.2 0, 13, .inl (u 2))), ((aM 3), .inl (g.2 0, 13, .inl (u 3))), ((aM 4), .inl (g.2 0, 13, .inl (u 4))), (qt, .inr (7, [.ref ql, .ref qr, .ref qv, .ref qg, .int parts, .int limit]))]) A) args s 0 0 A) (F0 m 2 ls []) := by
  obtain ⟨hx, hb, hml, hown, hts⟩ := id S
  have hK := hG.1
  intro n
  induction n with
  | zero => intro x1 M hv; exact hv.elim
  | succ n ih =>
    intro x1 M hv H locs hP hD hS ls hl
    refine lv_iload_n hx hb dX0_forgetMatches_2 rfl (lv_at hl 1 rfl) ?_
    refine lv_aload_n hx hb dX0_forgetMatches_3 rfl (lv_at hl 0 rfl) ?_
    refine va_get (D := g.1) (ci := 0) (v := .ref qt) (C := RX0) (T := TX0) (N := 12) hx hb hts inX0_forgetMatches_0 hown hK hP 0 rfl rfl 0 (by decide) (hts (.fieldLink RX0 26 "RangeCodes$Ear" "told" "LRangeCodes$Told;") (List.mem_of_getElem? (i := 1) rfl)) (fun _ h9 => h9) rfl dX0_forgetMatches_4 ?_
    refine va_get (D := g.1) (ci := 7) (v := .int parts) (C := RX7) (T := TX7) (N := 6) hx hb hts inX0_forgetMatches_7 hown hK hP 7 rfl rfl 4 (by decide) (hts (.fieldLink RX0 70 "RangeCodes$Told" "parts" "I") (List.mem_of_getElem? (i := 2) rfl)) (fun _ h9 => h9) rfl dX0_forgetMatches_7 ?_
    obtain ⟨hvt, hvf⟩ := hv
    refine lv_icmp_ge (tgt := 29) hx hb dX0_forgetMatches_10 (by decide) (fun hc => ?_) (fun hc => ?_)
    · have hv := hvt hc
      have hP9 := hP.sub (ws' := [(qe, .inr (0, [.ref qt, .ref qh, .ref qm, .ref qb, .ref qx, .int (E 5), .int (E 6), .int (E 7), .int (E 8), .int (E 9), .int (E 10), .int (E 11)])), (qm, .inl (g.2 6, 5, .inr (.inr (.inr (.inr (rwM aM)))))), ((aM 0), .inl (g.2 0, 13, .inl (M 0))), ((aM 1), .inl (g.2 0, 13, .inl (M 1))), ((aM 2), .inl (g.2 0, 13, .inl (M 2))), ((aM 3), .inl (g.2 0, 13, .inl (M 3))), ((aM 4), .inl (g.2 0, 13, .inl (M 4))), (qt, .inr (7, [.ref ql, .ref qr, .ref qv, .ref qg, .int parts, .int limit]))]) [0, 1, 2, 3, 4, 5, 6, 7] rfl
      have hD9 := hD.sub (ws' := [(qe, .inr (0, [.ref qt, .ref qh, .ref qm, .ref qb, .ref qx, .int (E 5), .int (E 6), .int (E 7), .int (E 8), .int (E 9), .int (E 10), .int (E 11)])), (qm, .inl (g.2 6, 5, .inr (.inr (.inr (.inr (rwM aM)))))), ((aM 0), .inl (g.2 0, 13, .inl (M 0))), ((aM 1), .inl (g.2 0, 13, .inl (M 1))), ((aM 2), .inl (g.2 0, 13, .inl (M 2))), ((aM 3), .inl (g.2 0, 13, .inl (M 3))), ((aM 4), .inl (g.2 0, 13, .inl (M 4))), (qt, .inr (7, [.ref ql, .ref qr, .ref qv, .ref qg, .int parts, .int limit]))]) [0, 1, 2, 3, 4, 5, 6, 7] (by decide) rfl
      exact W.vret hx hb hr (fun t ht hW => ⟨⟨(M), rfl, hv, by rw [ht]; exact hP9, hD9⟩, hS.F ht⟩) hS.2.2 dX0_forgetMatches_29
    · have hv := hvf hc
      refine lv_aload_n hx hb dX0_forgetMatches_13 rfl (lv_at hl 0 rfl) ?_
      refine va_get (D := g.1) (ci := 0) (v := .ref qm) (C := RX0) (T := TX0) (N := 12) hx hb hts inX0_forgetMatches_0 hown hK hP 0 rfl rfl 2 (by decide) (hts (.fieldLink RX0 17 "RangeCodes$Ear" "matches" "[[I") (List.mem_of_getElem? (i := 3) rfl)) (fun _ h9 => h9) rfl dX0_forgetMatches_14 ?_
      refine lv_iload_n hx hb dX0_forgetMatches_17 rfl (lv_at hl 1 rfl) ?_
      obtain ⟨ho_1, hv⟩ := hv
      obtain ⟨j_18, hj_18, ej_18⟩ := vp_in_of ho_1 (by decide)
      have hv := hv j_18 hj_18 ej_18
      refine va_ldM hx hb hK hP 1 6 j_18 rfl rfl ej_18 hj_18 dX0_forgetMatches_18 ?_
      refine lv_iconst (v := (0 : Int32)) hx hb dX0_forgetMatches_19 (by decide) ?_
      obtain ⟨ho_2, hv⟩ := hv
      have hPc : va_P g.1 vwCl [((aM j_18), .inl (g.2 0, 13, .inl (M j_18)))] H := by
        rcases (show j_18 = 0 ∨ j_18 = 1 ∨ j_18 = 2 ∨ j_18 = 3 ∨ j_18 = 4 by omega) with rfl | rfl | rfl | rfl | rfl
        · exact hP.sub [2] rfl
        · exact hP.sub [3] rfl
        · exact hP.sub [4] rfl
        · exact hP.sub [5] rfl
        · exact hP.sub [6] rfl
      have hDc : va_D A [((aM j_18), .inl (g.2 0, 13, .inl (M j_18)))] := by
        rcases (show j_18 = 0 ∨ j_18 = 1 ∨ j_18 = 2 ∨ j_18 = 3 ∨ j_18 = 4 by omega) with rfl | rfl | rfl | rfl | rfl
        · exact hD.sub [2] (by decide) rfl
        · exact hD.sub [3] (by decide) rfl
        · exact hD.sub [4] (by decide) rfl
        · exact hD.sub [5] (by decide) rfl
        · exact hD.sub [6] (by decide) rfl
      have hFc : ∀ q, va_A [((aM j_18), .inl (g.2 0, 13, .inl (M j_18)))] H.size q → A q := by
        rcases (show j_18 = 0 ∨ j_18 = 1 ∨ j_18 = 2 ∨ j_18 = 3 ∨ j_18 = 4 by omega) with rfl | rfl | rfl | rfl | rfl
        · exact va_free hD hS hA [2] rfl
        · exact va_free hD hS hA [3] rfl
        · exact va_free hD hS hA [4] rfl
        · exact va_free hD hS hA [5] rfl
        · exact va_free hD hS hA [6] rfl
      refine va_callv (va_runS (As := [.ref (aM j_18), .int (0 : Int32)]) (rest := []) S (wJ7_fill_53178 l g (aM j_18) H.size 13 (M j_18) (0 : Int32) (sJ7_fill_53178 13 (M j_18) (0 : Int32) ho_2)) (va_cwS 2 hts gX0_forgetMatches_J7_fill_53178 rfl rfl rfl (by decide +kernel) ⟨Nat.le_of_ble_eq_true rfl, Nat.le_of_ble_eq_true rfl⟩) ⟨blindRW, fun U hU hW => ⟨rfl, by rw [hU], by rw [hU]; exact hPc, hG.warm hW, hDc.weaken (fun _ _ _ _ => trivial)⟩⟩ rfl rfl hl.1 rfl (lv_room (Nat.le_of_ble_eq_true rfl)) dX0_forgetMatches_20 ⟨Nat.le_of_ble_eq_true rfl, Nat.le_of_ble_eq_true rfl⟩) hS (fun q _ h => hFc q h) hFc (fun u t H1 locs ht hvm hw hB hz1 hk1 hS => ?_)
      obtain ⟨fA_20, rfl⟩ : ∃ z, z = u := ⟨_, rfl⟩
      obtain ⟨hP1, hD1⟩ := hB
      rw [ht] at hP1
      have hv := hv fA_20 hw
      have hPD : va_P g.1 vwCl [(qe, .inr (0, [.ref qt, .ref qh, .ref qm, .ref qb, .ref qx, .int (E 5), .int (E 6), .int (E 7), .int (E 8), .int (E 9), .int (E 10), .int (E 11)])), (qm, .inl (g.2 6, 5, .inr (.inr (.inr (.inr (rwM aM)))))), (qt, .inr (7, [.ref ql, .ref qr, .ref qv, .ref qg, .int parts, .int limit])), ((aM 0), .inl (g.2 0, 13, .inl ((va_up M j_18 fA_20) 0))), ((aM 1), .inl (g.2 0, 13, .inl ((va_up M j_18 fA_20) 1))), ((aM 2), .inl (g.2 0, 13, .inl ((va_up M j_18 fA_20) 2))), ((aM 3), .inl (g.2 0, 13, .inl ((va_up M j_18 fA_20) 3))), ((aM 4), .inl (g.2 0, 13, .inl ((va_up M j_18 fA_20) 4)))] H1 ∧ va_D A [(qe, .inr (0, [.ref qt, .ref qh, .ref qm, .ref qb, .ref qx, .int (E 5), .int (E 6), .int (E 7), .int (E 8), .int (E 9), .int (E 10), .int (E 11)])), (qm, .inl (g.2 6, 5, .inr (.inr (.inr (.inr (rwM aM)))))), (qt, .inr (7, [.ref ql, .ref qr, .ref qv, .ref qg, .int parts, .int limit])), ((aM 0), .inl (g.2 0, 13, .inl ((va_up M j_18 fA_20) 0))), ((aM 1), .inl (g.2 0, 13, .inl ((va_up M j_18 fA_20) 1))), ((aM 2), .inl (g.2 0, 13, .inl ((va_up M j_18 fA_20) 2))), ((aM 3), .inl (g.2 0, 13, .inl ((va_up M j_18 fA_20) 3))), ((aM 4), .inl (g.2 0, 13, .inl ((va_up M j_18 fA_20) 4)))] := by
        rcases (show j_18 = 0 ∨ j_18 = 1 ∨ j_18 = 2 ∨ j_18 = 3 ∨ j_18 = 4 by omega) with rfl | rfl | rfl | rfl | rfl
        · obtain ⟨hP, hD⟩ := va_join (wr := [(qe, .inr (0, [.ref qt, .ref qh, .ref qm, .ref qb, .ref qx, .int (E 5), .int (E 6), .int (E 7), .int (E 8), .int (E 9), .int (E 10), .int (E 11)])), (qm, .inl (g.2 6, 5, .inr (.inr (.inr (.inr (rwM aM)))))), (qt, .inr (7, [.ref ql, .ref qr, .ref qv, .ref qg, .int parts, .int limit])), ((aM 1), .inl (g.2 0, 13, .inl (M 1))), ((aM 2), .inl (g.2 0, 13, .inl (M 2))), ((aM 3), .inl (g.2 0, 13, .inl (M 3))), ((aM 4), .inl (g.2 0, 13, .inl (M 4)))]) (w1 := [((aM 0), .inl (g.2 0, 13, .inl fA_20))]) hP hD [2] [0, 1, 7, 3, 4, 5, 6] rfl rfl (by decide) (by decide) hk1 hFc hP1 hD1
          exact ⟨hP.sub [0, 1, 2, 7, 3, 4, 5, 6] rfl, hD.sub [0, 1, 2, 7, 3, 4, 5, 6] (by decide) rfl⟩
        · obtain ⟨hP, hD⟩ := va_join (wr := [(qe, .inr (0, [.ref qt, .ref qh, .ref qm, .ref qb, .ref qx, .int (E 5), .int (E 6), .int (E 7), .int (E 8), .int (E 9), .int (E 10), .int (E 11)])), (qm, .inl (g.2 6, 5, .inr (.inr (.inr (.inr (rwM aM)))))), (qt, .inr (7, [.ref ql, .ref qr, .ref qv, .ref qg, .int parts, .int limit])), ((aM 0), .inl (g.2 0, 13, .inl (M 0))), ((aM 2), .inl (g.2 0, 13, .inl (M 2))), ((aM 3), .inl (g.2 0, 13, .inl (M 3))), ((aM 4), .inl (g.2 0, 13, .inl (M 4)))]) (w1 := [((aM 1), .inl (g.2 0, 13, .inl fA_20))]) hP hD [3] [0, 1, 7, 2, 4, 5, 6] rfl rfl (by decide) (by decide) hk1 hFc hP1 hD1
          exact ⟨hP.sub [0, 1, 2, 3, 7, 4, 5, 6] rfl, hD.sub [0, 1, 2, 3, 7, 4, 5, 6] (by decide) rfl⟩
        · obtain ⟨hP, hD⟩ := va_join (wr := [(qe, .inr (0, [.ref qt, .ref qh, .ref qm, .ref qb, .ref qx, .int (E 5), .int (E 6), .int (E 7), .int (E 8), .int (E 9), .int (E 10), .int (E 11)])), (qm, .inl (g.2 6, 5, .inr (.inr (.inr (.inr (rwM aM)))))), (qt, .inr (7, [.ref ql, .ref qr, .ref qv, .ref qg, .int parts, .int limit])), ((aM 0), .inl (g.2 0, 13, .inl (M 0))), ((aM 1), .inl (g.2 0, 13, .inl (M 1))), ((aM 3), .inl (g.2 0, 13, .inl (M 3))), ((aM 4), .inl (g.2 0, 13, .inl (M 4)))]) (w1 := [((aM 2), .inl (g.2 0, 13, .inl fA_20))]) hP hD [4] [0, 1, 7, 2, 3, 5, 6] rfl rfl (by decide) (by decide) hk1 hFc hP1 hD1
          exact ⟨hP.sub [0, 1, 2, 3, 4, 7, 5, 6] rfl, hD.sub [0, 1, 2, 3, 4, 7, 5, 6] (by decide) rfl⟩
        · obtain ⟨hP, hD⟩ := va_join (wr := [(qe, .inr (0, [.ref qt, .ref qh, .ref qm, .ref qb, .ref qx, .int (E 5), .int (E 6), .int (E 7), .int (E 8), .int (E 9), .int (E 10), .int (E 11)])), (qm, .inl (g.2 6, 5, .inr (.inr (.inr (.inr (rwM aM)))))), (qt, .inr (7, [.ref ql, .ref qr, .ref qv, .ref qg, .int parts, .int limit])), ((aM 0), .inl (g.2 0, 13, .inl (M 0))), ((aM 1), .inl (g.2 0, 13, .inl (M 1))), ((aM 2), .inl (g.2 0, 13, .inl (M 2))), ((aM 4), .inl (g.2 0, 13, .inl (M 4)))]) (w1 := [((aM 3), .inl (g.2 0, 13, .inl fA_20))]) hP hD [5] [0, 1, 7, 2, 3, 4, 6] rfl rfl (by decide) (by decide) hk1 hFc hP1 hD1
          exact ⟨hP.sub [0, 1, 2, 3, 4, 5, 7, 6] rfl, hD.sub [0, 1, 2, 3, 4, 5, 7, 6] (by decide) rfl⟩
        · obtain ⟨hP, hD⟩ := va_join (wr := [(qe, .inr (0, [.ref qt, .ref qh, .ref qm, .ref qb, .ref qx, .int (E 5), .int (E 6), .int (E 7), .int (E 8), .int (E 9), .int (E 10), .int (E 11)])), (qm, .inl (g.2 6, 5, .inr (.inr (.inr (.inr (rwM aM)))))), (qt, .inr (7, [.ref ql, .ref qr, .ref qv, .ref qg, .int parts, .int limit])), ((aM 0), .inl (g.2 0, 13, .inl (M 0))), ((aM 1), .inl (g.2 0, 13, .inl (M 1))), ((aM 2), .inl (g.2 0, 13, .inl (M 2))), ((aM 3), .inl (g.2 0, 13, .inl (M 3)))]) (w1 := [((aM 4), .inl (g.2 0, 13, .inl fA_20))]) hP hD [6] [0, 1, 7, 2, 3, 4, 5] rfl rfl (by decide) (by decide) hk1 hFc hP1 hD1
          exact ⟨hP.sub [0, 1, 2, 3, 4, 5, 6, 7] rfl, hD.sub [0, 1, 2, 3, 4, 5, 6, 7] (by decide) rfl⟩
      obtain ⟨hP, hD⟩ := hPD
      clear hP1 hD1 hPc hDc hFc hk1
      generalize H1 = H at hP hS ⊢
      have hP : va_P g.1 vwCl [(qe, .inr (0, [.ref qt, .ref qh, .ref qm, .ref qb, .ref qx, .int (E 5), .int (E 6), .int (E 7), .int (E 8), .int (E 9), .int (E 10), .int (E 11)])), (qm, .inl (g.2 6, 5, .inr (.inr (.inr (.inr (rwM aM)))))), (qt, .inr (7, [.ref ql, .ref qr, .ref qv, .ref qg, .int parts, .int limit])), ((aM 0), .inl (g.2 0, 13, .inl ((va_up M j_18 fA_20) 0))), ((aM 1), .inl (g.2 0, 13, .inl ((va_up M j_18 fA_20) 1))), ((aM 2), .inl (g.2 0, 13, .inl ((va_up M j_18 fA_20) 2))), ((aM 3), .inl (g.2 0, 13, .inl ((va_up M j_18 fA_20) 3))), ((aM 4), .inl (g.2 0, 13, .inl ((va_up M j_18 fA_20) 4)))] H := hP
      have hD : va_D A [(qe, .inr (0, [.ref qt, .ref qh, .ref qm, .ref qb, .ref qx, .int (E 5), .int (E 6), .int (E 7), .int (E 8), .int (E 9), .int (E 10), .int (E 11)])), (qm, .inl (g.2 6, 5, .inr (.inr (.inr (.inr (rwM aM)))))), (qt, .inr (7, [.ref ql, .ref qr, .ref qv, .ref qg, .int parts, .int limit])), ((aM 0), .inl (g.2 0, 13, .inl ((va_up M j_18 fA_20) 0))), ((aM 1), .inl (g.2 0, 13, .inl ((va_up M j_18 fA_20) 1))), ((aM 2), .inl (g.2 0, 13, .inl ((va_up M j_18 fA_20) 2))), ((aM 3), .inl (g.2 0, 13, .inl ((va_up M j_18 fA_20) 3))), ((aM 4), .inl (g.2 0, 13, .inl ((va_up M j_18 fA_20) 4)))] := hD
      refine lv_iinc (v := (x1 + (1 : Int32))) (lv' := [(1, .int (x1 + (1 : Int32))), (0, .ref qe)]) hx hb dX0_forgetMatches_23 hl (k := 1) rfl rfl (by decide) rfl (fun ls hl => ?_)
      refine lv_goto (tgt := 2) hx hb dX0_forgetMatches_26 (by decide) ?_
      exact ih _ _ hv _ _ (hP.sub (ws' := [(qe, .inr (0, [.ref qt, .ref qh, .ref qm, .ref qb, .ref qx, .int (E 5), .int (E 6), .int (E 7), .int (E 8), .int (E 9), .int (E 10), .int (E 11)])), (qm, .inl (g.2 6, 5, .inr (.inr (.inr (.inr (rwM aM)))))), ((aM 0), .inl (g.2 0, 13, .inl ((va_up M j_18 fA_20) 0))), ((aM 1), .inl (g.2 0, 13, .inl ((va_up M j_18 fA_20) 1))), ((aM 2), .inl (g.2 0, 13, .inl ((va_up M j_18 fA_20) 2))), ((aM 3), .inl (g.2 0, 13, .inl ((va_up M j_18 fA_20) 3))), ((aM 4), .inl (g.2 0, 13, .inl ((va_up M j_18 fA_20) 4))), (qt, .inr (7, [.ref ql, .ref qr, .ref qv, .ref qg, .int parts, .int limit]))]) [0, 1, 3, 4, 5, 6, 7, 2] rfl) (hD.sub (ws' := [(qe, .inr (0, [.ref qt, .ref qh, .ref qm, .ref qb, .ref qx, .int (E 5), .int (E 6), .int (E 7), .int (E 8), .int (E 9), .int (E 10), .int (E 11)])), (qm, .inl (g.2 6, 5, .inr (.inr (.inr (.inr (rwM aM)))))), ((aM 0), .inl (g.2 0, 13, .inl ((va_up M j_18 fA_20) 0))), ((aM 1), .inl (g.2 0, 13, .inl ((va_up M j_18 fA_20) 1))), ((aM 2), .inl (g.2 0, 13, .inl ((va_up M j_18 fA_20) 2))), ((aM 3), .inl (g.2 0, 13, .inl ((va_up M j_18 fA_20) 3))), ((aM 4), .inl (g.2 0, 13, .inl ((va_up M j_18 fA_20) 4))), (qt, .inr (7, [.ref ql, .ref qr, .ref qv, .ref qg, .int parts, .int limit]))]) [0, 1, 3, 4, 5, 6, 7, 2] (by decide) rfl) hS ls (lv_sub hl [1, 0] rfl)
def vX0_forgetMatches (E : Nat → Int32) (M : Nat → Nat → Int32) (parts : Int32) (limit : Int32) (Q : (Nat → Nat → Int32) → Prop) : Prop := (∃ nn, vX0_forgetMatches_c2 E parts limit Q nn (0 : Int32) M)
set_option maxHeartbeats 4000000 in
set_option maxRecDepth 100000 in
theorem wX0_forgetMatches (l : Launch) (g : GP) (qe : Nat) (qt : Nat) (qh : Nat) (qm : Nat) (qb : Nat) (qx : Nat) (ql : Nat) (qr : Nat) (qv : Nat) (qg : Nat) (aM : Nat → Nat) (sz : Nat) (E : Nat → Int32) (M : Nat → Nat → Int32) (parts : Int32) (limit : Int32) {Q : (Nat → Nat → Int32) → Prop} (hv : vX0_forgetMatches E M parts limit Q) : Met l yX0_forgetMatches wsX0_forgetMatches rmX0_forgetMatches (va_Pc [.ref qe] (fun U => U.heap.size = sz ∧ va_P g.1 vwCl [(qe, .inr (0, [.ref qt, .ref qh, .ref qm, .ref qb, .ref qx, .int (E 5), .int (E 6), .int (E 7), .int (E 8), .int (E 9), .int (E 10), .int (E 11)])), (qm, .inl (g.2 6, 5, .inr (.inr (.inr (.inr (rwM aM)))))), ((aM 0), .inl (g.2 0, 13, .inl (M 0))), ((aM 1), .inl (g.2 0, 13, .inl (M 1))), ((aM 2), .inl (g.2 0, 13, .inl (M 2))), ((aM 3), .inl (g.2 0, 13, .inl (M 3))), ((aM 4), .inl (g.2 0, 13, .inl (M 4))), (qt, .inr (7, [.ref ql, .ref qr, .ref qv, .ref qg, .int parts, .int limit]))] U.heap ∧ GK g U ∧ va_D (fun _ => True) [(qe, .inr (0, [.ref qt, .ref qh, .ref qm, .ref qb, .ref qx, .int (E 5), .int (E 6), .int (E 7), .int (E 8), .int (E 9), .int (E 10), .int (E 11)])), (qm, .inl (g.2 6, 5, .inr (.inr (.inr (.inr (rwM aM)))))), ((aM 0), .inl (g.2 0, 13, .inl (M 0))), ((aM 1), .inl (g.2 0, 13, .inl (M 1))), ((aM 2), .inl (g.2 0, 13, .inl (M 2))), ((aM 3), .inl (g.2 0, 13, .inl (M 3))), ((aM 4), .inl (g.2 0, 13, .inl (M 4))), (qt, .inr (7, [.ref ql, .ref qr, .ref qv, .ref qg, .int parts, .int limit]))])) (va_Qv (fun (u : (Nat → Nat → Int32)) => Q u) (fun (u : (Nat → Nat → Int32)) t => va_P g.1 vwCl [(qe, .inr (0, [.ref qt, .ref qh, .ref qm, .ref qb, .ref qx, .int (E 5), .int (E 6), .int (E 7), .int (E 8), .int (E 9), .int (E 10), .int (E 11)])), (qm, .inl (g.2 6, 5, .inr (.inr (.inr (.inr (rwM aM)))))), ((aM 0), .inl (g.2 0, 13, .inl (u 0))), ((aM 1), .inl (g.2 0, 13, .inl (u 1))), ((aM 2), .inl (g.2 0, 13, .inl (u 2))), ((aM 3), .inl (g.2 0, 13, .inl (u 3))), ((aM 4), .inl (g.2 0, 13, .inl (u 4))), (qt, .inr (7, [.ref ql, .ref qr, .ref qv, .ref qg, .int parts, .int limit]))] t.heap ∧ va_D (va_A [(qe, .inr (0, [.ref qt, .ref qh, .ref qm, .ref qb, .ref qx, .int (E 5), .int (E 6), .int (E 7), .int (E 8), .int (E 9), .int (E 10), .int (E 11)])), (qm, .inl (g.2 6, 5, .inr (.inr (.inr (.inr (rwM aM)))))), ((aM 0), .inl (g.2 0, 13, .inl (M 0))), ((aM 1), .inl (g.2 0, 13, .inl (M 1))), ((aM 2), .inl (g.2 0, 13, .inl (M 2))), ((aM 3), .inl (g.2 0, 13, .inl (M 3))), ((aM 4), .inl (g.2 0, 13, .inl (M 4))), (qt, .inr (7, [.ref ql, .ref qr, .ref qv, .ref qg, .int parts, .int limit]))] sz) [(qe, .inr (0, [.ref qt, .ref qh, .ref qm, .ref qb, .ref qx, .int (E 5), .int (E 6), .int (E 7), .int (E 8), .int (E 9), .int (E 10), .int (E 11)])), (qm, .inl (g.2 6, 5, .inr (.inr (.inr (.inr (rwM aM)))))), ((aM 0), .inl (g.2 0, 13, .inl (u 0))), ((aM 1), .inl (g.2 0, 13, .inl (u 1))), ((aM 2), .inl (g.2 0, 13, .inl (u 2))), ((aM 3), .inl (g.2 0, 13, .inl (u 3))), ((aM 4), .inl (g.2 0, 13, .inl (u 4))), (qt, .inr (7, [.ref ql, .ref qr, .ref qv, .ref qg, .int parts, .int limit]))]) (va_A [(qe, .inr (0, [.ref qt, .ref qh, .ref qm, .ref qb, .ref qx, .int (E 5), .int (E 6), .int (E 7), .int (E 8), .int (E 9), .int (E 10), .int (E 11)])), (qm, .inl (g.2 6, 5, .inr (.inr (.inr (.inr (rwM aM)))))), ((aM 0), .inl (g.2 0, 13, .inl (M 0))), ((aM 1), .inl (g.2 0, 13, .inl (M 1))), ((aM 2), .inl (g.2 0, 13, .inl (M 2))), ((aM 3), .inl (g.2 0, 13, .inl (M 3))), ((aM 4), .inl (g.2 0, 13, .inl (M 4))), (qt, .inr (7, [.ref ql, .ref qr, .ref qv, .ref qg, .int parts, .int limit]))] sz)) 0 0 (va_A [(qe, .inr (0, [.ref qt, .ref qh, .ref qm, .ref qb, .ref qx, .int (E 5), .int (E 6), .int (E 7), .int (E 8), .int (E 9), .int (E 10), .int (E 11)])), (qm, .inl (g.2 6, 5, .inr (.inr (.inr (.inr (rwM aM)))))), ((aM 0), .inl (g.2 0, 13, .inl (M 0))), ((aM 1), .inl (g.2 0, 13, .inl (M 1))), ((aM 2), .inl (g.2 0, 13, .inl (M 2))), ((aM 3), .inl (g.2 0, 13, .inl (M 3))), ((aM 4), .inl (g.2 0, 13, .inl (M 4))), (qt, .inr (7, [.ref ql, .ref qr, .ref qv, .ref qg, .int parts, .int limit]))] sz) := by
  refine Met.ofW (cc := cX0_forgetMatches) (maxL := 2) (ret := none) (by decide) rfl ?_
  intro p e s m args below meth c s₁ B hml hv'
  obtain ⟨rfl, hsz, hP, hG, hD0⟩ := hv'
  have S : CallFix p m c cX0_forgetMatches 2 s _ wsX0_forgetMatches RX0 := ⟨B.exec, B.bytes, hml, findClass_of_methodNamed B.named, atoms_spec (ws := wsX0_forgetMatches) B.pre⟩
  obtain ⟨hx, hb, hml, hown, hts⟩ := id S
  have hK := hG.1
  have hr := B.returns
  have hlocks := B.notSynchronized
  subst hsz
  have hD := hD0.self (sz := s.heap.size)
  generalize hAe : va_A [(qe, .inr (0, [.ref qt, .ref qh, .ref qm, .ref qb, .ref qx, .int (E 5), .int (E 6), .int (E 7), .int (E 8), .int (E 9), .int (E 10), .int (E 11)])), (qm, .inl (g.2 6, 5, .inr (.inr (.inr (.inr (rwM aM)))))), ((aM 0), .inl (g.2 0, 13, .inl (M 0))), ((aM 1), .inl (g.2 0, 13, .inl (M 1))), ((aM 2), .inl (g.2 0, 13, .inl (M 2))), ((aM 3), .inl (g.2 0, 13, .inl (M 3))), ((aM 4), .inl (g.2 0, 13, .inl (M 4))), (qt, .inr (7, [.ref ql, .ref qr, .ref qv, .ref qg, .int parts, .int limit]))] s.heap.size = A at hD ⊢
  have hA : ∀ q : Nat, s.heap.size ≤ q → A q := fun q h => by rw [← hAe]; exact Or.inr h
  have hS : va_S A s.heap s.heap [] := va_S.rf
  clear hD0 hAe
  have hl := lv_entry ([.ref qe]) (n := 2) (Nat.le_of_ble_eq_true rfl)
  rw [lg_entry_eq]
  generalize (lg_sl ([.ref qe]) ++ List.replicate (2 - (lg_sl ([.ref qe])).length) Slot.unset).toArray = ls at hl ⊢
  have hl : lv_has ls 2 [(0, .ref qe)] := hl
  unfold vX0_forgetMatches at hv
  refine lv_iconst (v := (0 : Int32)) hx hb dX0_forgetMatches_0 (by decide) ?_
  refine lv_istore_n (lv' := [(1, .int (0 : Int32)), (0, .ref qe)]) hx hb dX0_forgetMatches_1 rfl hl (by decide) rfl (fun ls hl => ?_)
  obtain ⟨nn, hv⟩ := hv
  exact kX0_forgetMatches_c2 S hr hlocks hG hA nn _ _ hv _ _ (hP.sub (ws' := [(qe, .inr (0, [.ref qt, .ref qh, .ref qm, .ref qb, .ref qx, .int (E 5), .int (E 6), .int (E 7), .int (E 8), .int (E 9), .int (E 10), .int (E 11)])), (qm, .inl (g.2 6, 5, .inr (.inr (.inr (.inr (rwM aM)))))), ((aM 0), .inl (g.2 0, 13, .inl (M 0))), ((aM 1), .inl (g.2 0, 13, .inl (M 1))), ((aM 2), .inl (g.2 0, 13, .inl (M 2))), ((aM 3), .inl (g.2 0, 13, .inl (M 3))), ((aM 4), .inl (g.2 0, 13, .inl (M 4))), (qt, .inr (7, [.ref ql, .ref qr, .ref qv, .ref qg, .int parts, .int limit]))]) [0, 1, 2, 3, 4, 5, 6, 7] rfl) (hD.sub (ws' := [(qe, .inr (0, [.ref qt, .ref qh, .ref qm, .ref qb, .ref qx, .int (E 5), .int (E 6), .int (E 7), .int (E 8), .int (E 9), .int (E 10), .int (E 11)])), (qm, .inl (g.2 6, 5, .inr (.inr (.inr (.inr (rwM aM)))))), ((aM 0), .inl (g.2 0, 13, .inl (M 0))), ((aM 1), .inl (g.2 0, 13, .inl (M 1))), ((aM 2), .inl (g.2 0, 13, .inl (M 2))), ((aM 3), .inl (g.2 0, 13, .inl (M 3))), ((aM 4), .inl (g.2 0, 13, .inl (M 4))), (qt, .inr (7, [.ref ql, .ref qr, .ref qv, .ref qg, .int parts, .int limit]))]) [0, 1, 2, 3, 4, 5, 6, 7] (by decide) rfl) hS ls (lv_sub hl [1, 0] rfl)
abbrev preX0_forgetMatches (T : Cd) (_ : Nat → Int32) (_ : Nat → Nat → Int32) (parts _ : Int32) : Prop := isN T parts
abbrev postX0_forgetMatches (T : Cd) (_ : Nat → Int32) (_ : Nat → Nat → Int32) (_ _ : Int32) (M' : Nat → Nat → Int32) : Prop := ∀ p, p < cn T → ∀ w, w < 13 → M' p w = 0
theorem sX0_forgetMatches_1 (T : Cd) (E : Nat → Int32) (M0 : Nat → Nat → Int32) (parts limit : Int32) (hN : isN T parts) : ∀ (n i : Nat) (x1 : Int32) (M : Nat → Nat → Int32), x1.toInt = (i : Int) → i ≤ cn T → cn T + 1 ≤ i + n → (∀ p, p < i → ∀ w, w < 13 → M p w = 0) → vX0_forgetMatches_c2 E parts limit (postX0_forgetMatches T E M0 parts limit) n x1 M
  | 0, i, x1, M, _, hi, hn, _ => absurd hn (by omega)
  | n + 1, i, x1, M, h1, hi, hn, hM => by
    have hn5 := hN.2
    rw [vX0_forgetMatches_c2, q_le hN.1 h1]
    refine ⟨fun hc => ?_, fun hc => ⟨q_in h1 (by omega), fun j hj e => ?_⟩⟩
    · have : i = cn T := by omega
      subst this
      exact hM
    · have := nI_at h1 hj e
      subst this
      refine ⟨by show 13 < 2147483647; omega, fun fA hfA => ?_⟩
      refine sX0_forgetMatches_1 T E M0 parts limit hN n (j + 1) _ _ (q_1 h1 (by omega)) (by omega) (by omega) (fun p hp w hw => ?_)
      unfold va_up
      by_cases e2 : p = j
      · rw [if_pos e2, hfA w, if_pos hw]
      · rw [if_neg e2]; exact hM p (by omega) w hw
theorem sX0_forgetMatches (T : Cd) (E : Nat → Int32) (M : Nat → Nat → Int32) (parts limit : Int32) (H : preX0_forgetMatches T E M parts limit) : vX0_forgetMatches E M parts limit (postX0_forgetMatches T E M parts limit) :=
  ⟨cn T + 1, sX0_forgetMatches_1 T E M parts limit H (cn T + 1) 0 0 M rfl (by omega) (by omega) (fun p hp => absurd hp (by omega))⟩
set_option maxRecDepth 20000 in
theorem ggX0_matchOne_X0_sign : GoodIn wsX0_matchOne wsX0_sign := goodIn_r _ [9, 10, 26, 27, 28, 29, 30, 31, 32, 33, 34, 35, 36, 37] (by decide +kernel) (by decide +kernel)
set_option maxRecDepth 20000 in
theorem gX0_matchOne_X0_sign : GoodIn wsX0_matchOne (wsV RX0 119 RX0 yX0_sign wsX0_sign) := goodIn_app (goodIn_of _ (by decide +kernel)) ggX0_matchOne_X0_sign
set_option maxRecDepth 20000 in
theorem ggX0_matchOne_X0_addMatches : GoodIn wsX0_matchOne wsX0_addMatches := goodIn_r _ [14, 1, 15, 16, 17, 18, 19, 20, 21, 22, 23, 24, 25, 26, 27, 28, 29, 30, 31, 32, 33, 34, 35, 36, 37, 38, 39, 40, 41, 42, 43] (by decide +kernel) (by decide +kernel)
set_option maxRecDepth 20000 in
theorem gX0_matchOne_X0_addMatches : GoodIn wsX0_matchOne (wsV RX0 122 RX0 yX0_addMatches wsX0_addMatches) := goodIn_app (goodIn_of _ (by decide +kernel)) ggX0_matchOne_X0_addMatches
theorem dX0_matchOne_0 : decode cX0_matchOne 0 = .ok (.iconst 0, 1) := by decide +kernel
theorem dX0_matchOne_1 : decode cX0_matchOne 1 = .ok (.istore_n 2, 1) := by decide +kernel
theorem dX0_matchOne_2 : decode cX0_matchOne 2 = .ok (.iload_n 2, 1) := by decide +kernel
theorem dX0_matchOne_3 : decode cX0_matchOne 3 = .ok (.aload_n 0, 1) := by decide +kernel
theorem dX0_matchOne_4 : decode cX0_matchOne 4 = .ok (.getfield 26, 3) := by decide +kernel
theorem dX0_matchOne_7 : decode cX0_matchOne 7 = .ok (.getfield 70, 3) := by decide +kernel
theorem dX0_matchOne_10 : decode cX0_matchOne 10 = .ok (.if_icmp .ge 31, 3) := by decide +kernel
theorem dX0_matchOne_13 : decode cX0_matchOne 13 = .ok (.aload_n 0, 1) := by decide +kernel
theorem dX0_matchOne_14 : decode cX0_matchOne 14 = .ok (.aload_n 0, 1) := by decide +kernel
theorem dX0_matchOne_15 : decode cX0_matchOne 15 = .ok (.getfield 17, 3) := by decide +kernel
theorem dX0_matchOne_18 : decode cX0_matchOne 18 = .ok (.iload_n 2, 1) := by decide +kernel
theorem dX0_matchOne_19 : decode cX0_matchOne 19 = .ok (.aaload, 1) := by decide +kernel
theorem dX0_matchOne_20 : decode cX0_matchOne 20 = .ok (.iload_n 2, 1) := by decide +kernel
theorem dX0_matchOne_21 : decode cX0_matchOne 21 = .ok (.aload_n 0, 1) := by decide +kernel
theorem dX0_matchOne_22 : decode cX0_matchOne 22 = .ok (.getfield 60, 3) := by decide +kernel
theorem dX0_matchOne_25 : decode cX0_matchOne 25 = .ok (.iload_n 1, 1) := by decide +kernel
theorem dX0_matchOne_26 : decode cX0_matchOne 26 = .ok (.iadd, 1) := by decide +kernel
theorem dX0_matchOne_27 : decode cX0_matchOne 27 = .ok (.aload_n 0, 1) := by decide +kernel
theorem dX0_matchOne_28 : decode cX0_matchOne 28 = .ok (.iload_n 1, 1) := by decide +kernel
theorem dX0_matchOne_29 : decode cX0_matchOne 29 = .ok (.invokevirtual 119, 3) := by decide +kernel
theorem dX0_matchOne_32 : decode cX0_matchOne 32 = .ok (.invokevirtual 122, 3) := by decide +kernel
theorem dX0_matchOne_35 : decode cX0_matchOne 35 = .ok (.iinc 2 1, 3) := by decide +kernel
theorem dX0_matchOne_38 : decode cX0_matchOne 38 = .ok (.goto (-36), 3) := by decide +kernel
theorem dX0_matchOne_41 : decode cX0_matchOne 41 = .ok (.return_, 1) := by decide +kernel
abbrev rmX0_matchOne : Room := { frames := 3, cells := 0, slots := 0, locals := 69 }
theorem inX0_matchOne_0 : ∀ w ∈ wsX00, w ∈ wsX0_matchOne := by decide +kernel
theorem inX0_matchOne_7 : ∀ w ∈ wsX70, w ∈ wsX0_matchOne := by decide +kernel
def vX0_matchOne_c2 (E : Nat → Int32) (he : Nat → Int32) (parts : Int32) (limit : Int32) (len : Nat → Int32) (row : Nat → Int32) (p1 : Int32) (Q : (Nat → Nat → Int32) → Prop) : Nat → Int32 → (Nat → Nat → Int32) → Prop
  | 0, _, _ => False
  | n + 1, x2, M => ((parts ≤ x2 → (Q M)) ∧ (¬ parts ≤ x2 → (vp_in x2 5 ∧ (∀ j_19 : Nat, j_19 < 5 → x2 = nI j_19 → (∃ (h_29 : Nat → Nat) (i_29 : Nat), preX0_sign h_29 i_29 E he p1 ∧ (∀ r_29 : Int32, postX0_sign h_29 i_29 E he p1 r_29 → (∃ (T_32 : Cd) (p_32 : Nat), preX0_addMatches T_32 p_32 E parts limit len row (M j_19) x2 ((E 5) + p1) r_29 ∧ (∀ (fc_32 : Nat → Int32), postX0_addMatches T_32 p_32 E parts limit len row (M j_19) x2 ((E 5) + p1) r_29 fc_32 → (vX0_matchOne_c2 E he parts limit len row p1 Q n (x2 + (1 : Int32)) (va_up M j_19 fc_32))))))))))
set_option maxHeartbeats 4000000 in
set_option maxRecDepth 100000 in
theorem kX0_matchOne_c2 {p : Program} {l : Launch} {e : Env} {s : State} {m : MethodId} {args : Array Value} {below : List Frame} {meth : Method} {c : Code} {g : GP} {qe : Nat} {qt : Nat} {qh : Nat} {qm : Nat} {qb : Nat} {qx : Nat} {ql : Nat} {qr : Nat} {qv : Nat} {qg : Nat} {aM : Nat → Nat} {E : Nat → Int32} {he : Nat → Int32} {parts : Int32} {limit : Int32} {len : Nat → Int32} {row : Nat → Int32} {p1 : Int32} {Q : (Nat → Nat → Int32) → Prop} {A : Nat → Prop} (S : CallFix p m c cX0_matchOne 3 s args wsX0_matchOne RX0) (hr : meth.sig.returnType = none) (hlocks : meth.locks = false) (hG : GK g s) (hA : ∀ q : Nat, s.heap.size ≤ q → A q) : ∀ (n : Nat), ∀ (x2 : Int32) (M : Nat → Nat → Int32), vX0_matchOne_c2 E he parts limit len row p1 Q n x2 M → ∀ (H : Heap) (locs : List Loc), va_P g.1 vwCl [(qe, .inr (0, [.ref qt, .ref qh, .ref qm, .ref qb, .ref qx, .int (E 5), .int (E 6), .int (E 7), .int (E 8), .int (E 9), .int (E 10), .int (E 11)])), (qh, .inl (g.2 0, 200, .inl he)), (qm, .inl (g.2 6, 5, .inr (.inr (.inr (.inr (rwM aM)))))), ((aM 0), .inl (g.2 0, 13, .inl (M 0))), ((aM 1), .inl (g.2 0, 13, .inl (M 1))), ((aM 2), .inl (g.2 0, 13, .inl (M 2))), ((aM 3), .inl (g.2 0, 13, .inl (M 3))), ((aM 4), .inl (g.2 0, 13, .inl (M 4))), (qt, .inr (7, [.ref ql, .ref qr, .ref qv, .ref qg, .int parts, .int limit])), (ql, .inl (g.2 0, 5, .inl len)), (qr, .inl (g.2 0, 5, .inl row))] H → va_D A [(qe, .inr (0, [.ref qt, .ref qh, .ref qm, .ref qb, .ref qx, .int (E 5), .int (E 6), .int (E 7), .int (E 8), .int (E 9), .int (E 10), .int (E 11)])), (qh, .inl (g.2 0, 200, .inl he)), (qm, .inl (g.2 6, 5, .inr (.inr (.inr (.inr (rwM aM)))))), ((aM 0), .inl (g.2 0, 13, .inl (M 0))), ((aM 1), .inl (g.2 0, 13, .inl (M 1))), ((aM 2), .inl (g.2 0, 13, .inl (M 2))), ((aM 3), .inl (g.2 0, 13, .inl (M 3))), ((aM 4), .inl (g.2 0, 13, .inl (M 4))), (qt, .inr (7, [.ref ql, .ref qr, .ref qv, .ref qg, .int parts, .int limit])), (ql, .inl (g.2 0, 5, .inl len)), (qr, .inl (g.2 0, 5, .inl row))] → va_S A s.heap H locs → ∀ (ls : Array Slot), lv_has ls 3 [(0, .ref qe), (1, .int p1), (2, .int x2)] → W p l e (headSpec wsX0_matchOne rmX0_matchOne).room s m args below meth c H locs 0 0 (MQ below (va_Qv (fun (u : (Nat → Nat → Int32)) => Q u) (fun (u : (Nat → Nat → Int32)) t => va_P g.1 vwCl [(qe, .inr (0, [.ref qt, .ref qh, .ref qm, .ref qb, .ref qx, .int (E 5), .int (E 6), .int (E 7), .int (E 8), .int (E 9), .int (E 10), .int (E 11)])), (qh, .inl (g.2 0, 200, .inl he)), (qm, .inl (g.2 6, 5, .inr (.inr (.inr (.inr (rwM aM)))))), ((aM 0), .inl (g.2 0, 13, .inl (u 0))), ((aM 1), .inl (g.2 0, 13, .inl (u 1))), ((aM 2), .inl (g.2 0, 13, .inl (u 2))), ((aM 3), .inl (g.2 0, 13, .inl (u 3))), ((aM 4), .inl (g.2 0, 13, .inl (u 4))), (qt, .inr (7, [.ref ql, .ref qr, .ref qv, .ref qg, .int parts, .int limit])), (ql, .inl (g.2 0, 5, .inl len)), (qr, .inl (g.2 0, 5, .inl row))] t.heap ∧ va_D A [(qe, .inr (0, [.ref qt, .ref qh, .ref qm, .ref qb, .ref qx, .int (E 5), .int (E 6), .int (E 7), .int (E 8), .int (E 9), .int (E 10), .int (E 11)])), (qh, .inl (g.2 0, 200, .inl he)), (qm, .inl (g.2 6, 5, .inr (.inr (.inr (.inr (rwM aM)))))), ((aM 0), .inl (g.2 0, 13, .inl (u 0))), ((aM 1), .inl (g.2 0, 13, .inl (u 1))), ((aM 2), .inl (g.2 0, 13, .inl (u 2))), ((aM 3), .inl (g.2 0, 13, .inl (u 3))), ((aM 4), .inl (g.2 0, 13, .inl (u 4))), (qt, .inr (7, [.ref ql, .ref qr, .ref qv, .ref qg, .int parts, .int limit])), (ql, .inl (g.2 0, 5, .inl len)), (qr, .inl (g.2 0, 5, .inl row))]) A) args s 0 0 A) (F0 m 2 ls []) := by
  obtain ⟨hx, hb, hml, hown, hts⟩ := id S
  have hK := hG.1
  intro n
  induction n with
  | zero => intro x2 M hv; exact hv.elim
  | succ n ih =>
    intro x2 M hv H locs hP hD hS ls hl
    refine lv_iload_n hx hb dX0_matchOne_2 rfl (lv_at hl 2 rfl) ?_
    refine lv_aload_n hx hb dX0_matchOne_3 rfl (lv_at hl 0 rfl) ?_
    refine va_get (D := g.1) (ci := 0) (v := .ref qt) (C := RX0) (T := TX0) (N := 12) hx hb hts inX0_matchOne_0 hown hK hP 0 rfl rfl 0 (by decide) (hts (.fieldLink RX0 26 "RangeCodes$Ear" "told" "LRangeCodes$Told;") (List.mem_of_getElem? (i := 1) rfl)) (fun _ h9 => h9) rfl dX0_matchOne_4 ?_
    refine va_get (D := g.1) (ci := 7) (v := .int parts) (C := RX7) (T := TX7) (N := 6) hx hb hts inX0_matchOne_7 hown hK hP 8 rfl rfl 4 (by decide) (hts (.fieldLink RX0 70 "RangeCodes$Told" "parts" "I") (List.mem_of_getElem? (i := 2) rfl)) (fun _ h9 => h9) rfl dX0_matchOne_7 ?_
    obtain ⟨hvt, hvf⟩ := hv
    refine lv_icmp_ge (tgt := 41) hx hb dX0_matchOne_10 (by decide) (fun hc => ?_) (fun hc => ?_)
    · have hv := hvt hc
      have hP9 := hP.sub (ws' := [(qe, .inr (0, [.ref qt, .ref qh, .ref qm, .ref qb, .ref qx, .int (E 5), .int (E 6), .int (E 7), .int (E 8), .int (E 9), .int (E 10), .int (E 11)])), (qh, .inl (g.2 0, 200, .inl he)), (qm, .inl (g.2 6, 5, .inr (.inr (.inr (.inr (rwM aM)))))), ((aM 0), .inl (g.2 0, 13, .inl (M 0))), ((aM 1), .inl (g.2 0, 13, .inl (M 1))), ((aM 2), .inl (g.2 0, 13, .inl (M 2))), ((aM 3), .inl (g.2 0, 13, .inl (M 3))), ((aM 4), .inl (g.2 0, 13, .inl (M 4))), (qt, .inr (7, [.ref ql, .ref qr, .ref qv, .ref qg, .int parts, .int limit])), (ql, .inl (g.2 0, 5, .inl len)), (qr, .inl (g.2 0, 5, .inl row))]) [0, 1, 2, 3, 4, 5, 6, 7, 8, 9, 10] rfl
      have hD9 := hD.sub (ws' := [(qe, .inr (0, [.ref qt, .ref qh, .ref qm, .ref qb, .ref qx, .int (E 5), .int (E 6), .int (E 7), .int (E 8), .int (E 9), .int (E 10), .int (E 11)])), (qh, .inl (g.2 0, 200, .inl he)), (qm, .inl (g.2 6, 5, .inr (.inr (.inr (.inr (rwM aM)))))), ((aM 0), .inl (g.2 0, 13, .inl (M 0))), ((aM 1), .inl (g.2 0, 13, .inl (M 1))), ((aM 2), .inl (g.2 0, 13, .inl (M 2))), ((aM 3), .inl (g.2 0, 13, .inl (M 3))), ((aM 4), .inl (g.2 0, 13, .inl (M 4))), (qt, .inr (7, [.ref ql, .ref qr, .ref qv, .ref qg, .int parts, .int limit])), (ql, .inl (g.2 0, 5, .inl len)), (qr, .inl (g.2 0, 5, .inl row))]) [0, 1, 2, 3, 4, 5, 6, 7, 8, 9, 10] (by decide) rfl
      exact W.vret hx hb hr (fun t ht hW => ⟨⟨(M), rfl, hv, by rw [ht]; exact hP9, hD9⟩, hS.F ht⟩) hS.2.2 dX0_matchOne_41
    · have hv := hvf hc
      refine lv_aload_n hx hb dX0_matchOne_13 rfl (lv_at hl 0 rfl) ?_
      refine lv_aload_n hx hb dX0_matchOne_14 rfl (lv_at hl 0 rfl) ?_
      refine va_get (D := g.1) (ci := 0) (v := .ref qm) (C := RX0) (T := TX0) (N := 12) hx hb hts inX0_matchOne_0 hown hK hP 0 rfl rfl 2 (by decide) (hts (.fieldLink RX0 17 "RangeCodes$Ear" "matches" "[[I") (List.mem_of_getElem? (i := 3) rfl)) (fun _ h9 => h9) rfl dX0_matchOne_15 ?_
      refine lv_iload_n hx hb dX0_matchOne_18 rfl (lv_at hl 2 rfl) ?_
      obtain ⟨ho_1, hv⟩ := hv
      obtain ⟨j_19, hj_19, ej_19⟩ := vp_in_of ho_1 (by decide)
      have hv := hv j_19 hj_19 ej_19
      refine va_ldM hx hb hK hP 2 6 j_19 rfl rfl ej_19 hj_19 dX0_matchOne_19 ?_
      refine lv_iload_n hx hb dX0_matchOne_20 rfl (lv_at hl 2 rfl) ?_
      refine lv_aload_n hx hb dX0_matchOne_21 rfl (lv_at hl 0 rfl) ?_
      refine va_get (D := g.1) (ci := 0) (v := .int (E 5)) (C := RX0) (T := TX0) (N := 12) hx hb hts inX0_matchOne_0 hown hK hP 0 rfl rfl 5 (by decide) (hts (.fieldLink RX0 60 "RangeCodes$Ear" "from" "I") (List.mem_of_getElem? (i := 4) rfl)) (fun _ h9 => h9) rfl dX0_matchOne_22 ?_
      refine lv_iload_n hx hb dX0_matchOne_25 rfl (lv_at hl 1 rfl) ?_
      refine lv_iadd hx hb dX0_matchOne_26 ?_
      refine lv_aload_n hx hb dX0_matchOne_27 rfl (lv_at hl 0 rfl) ?_
      refine lv_iload_n hx hb dX0_matchOne_28 rfl (lv_at hl 1 rfl) ?_
      obtain ⟨h_29, i_29, ho_2, hv⟩ := hv
      refine vp_callSi (W.runV (As := [.int p1]) (rest := [.int ((E 5) + p1), .int x2, .ref (aM j_19), .ref qe]) S (wX0_sign l g qe qt qh qm qb qx E he p1 (sX0_sign h_29 i_29 E he p1 ho_2)) (cwV 1 hts gX0_matchOne_X0_sign rfl rfl rfl (by decide +kernel) ⟨Nat.le_of_ble_eq_true rfl, Nat.le_of_ble_eq_true rfl⟩) ⟨blindRO, va_recv hK hP (ci := 0) (q0 := 0) rfl rfl, fun U hU hW => ⟨rfl, by rw [hU]; exact hP.sub (ws' := [(qe, .inr (0, [.ref qt, .ref qh, .ref qm, .ref qb, .ref qx, .int (E 5), .int (E 6), .int (E 7), .int (E 8), .int (E 9), .int (E 10), .int (E 11)])), (qh, .inl (g.2 0, 200, .inl he))]) [0, 1] rfl, hG.warm hW⟩⟩ rfl rfl hl.1 rfl (lv_room (Nat.le_of_ble_eq_true rfl)) dX0_matchOne_29 ⟨Nat.le_of_ble_eq_true rfl, Nat.le_of_ble_eq_true rfl⟩) (fun r_29 hr_29 => ?_)
      have hv := hv r_29 hr_29
      obtain ⟨T_32, p_32, ho_3, hv⟩ := hv
      have hPc : va_P g.1 vwCl [(qe, .inr (0, [.ref qt, .ref qh, .ref qm, .ref qb, .ref qx, .int (E 5), .int (E 6), .int (E 7), .int (E 8), .int (E 9), .int (E 10), .int (E 11)])), (qt, .inr (7, [.ref ql, .ref qr, .ref qv, .ref qg, .int parts, .int limit])), (ql, .inl (g.2 0, 5, .inl len)), (qr, .inl (g.2 0, 5, .inl row)), ((aM j_19), .inl (g.2 0, 13, .inl (M j_19)))] H := by
        rcases (show j_19 = 0 ∨ j_19 = 1 ∨ j_19 = 2 ∨ j_19 = 3 ∨ j_19 = 4 by omega) with rfl | rfl | rfl | rfl | rfl
        · exact hP.sub [0, 8, 9, 10, 3] rfl
        · exact hP.sub [0, 8, 9, 10, 4] rfl
        · exact hP.sub [0, 8, 9, 10, 5] rfl
        · exact hP.sub [0, 8, 9, 10, 6] rfl
        · exact hP.sub [0, 8, 9, 10, 7] rfl
      have hDc : va_D A [(qe, .inr (0, [.ref qt, .ref qh, .ref qm, .ref qb, .ref qx, .int (E 5), .int (E 6), .int (E 7), .int (E 8), .int (E 9), .int (E 10), .int (E 11)])), (qt, .inr (7, [.ref ql, .ref qr, .ref qv, .ref qg, .int parts, .int limit])), (ql, .inl (g.2 0, 5, .inl len)), (qr, .inl (g.2 0, 5, .inl row)), ((aM j_19), .inl (g.2 0, 13, .inl (M j_19)))] := by
        rcases (show j_19 = 0 ∨ j_19 = 1 ∨ j_19 = 2 ∨ j_19 = 3 ∨ j_19 = 4 by omega) with rfl | rfl | rfl | rfl | rfl
        · exact hD.sub [0, 8, 9, 10, 3] (by decide) rfl
        · exact hD.sub [0, 8, 9, 10, 4] (by decide) rfl
        · exact hD.sub [0, 8, 9, 10, 5] (by decide) rfl
        · exact hD.sub [0, 8, 9, 10, 6] (by decide) rfl
        · exact hD.sub [0, 8, 9, 10, 7] (by decide) rfl
      have hFc : ∀ q, va_A [(qe, .inr (0, [.ref qt, .ref qh, .ref qm, .ref qb, .ref qx, .int (E 5), .int (E 6), .int (E 7), .int (E 8), .int (E 9), .int (E 10), .int (E 11)])), (qt, .inr (7, [.ref ql, .ref qr, .ref qv, .ref qg, .int parts, .int limit])), (ql, .inl (g.2 0, 5, .inl len)), (qr, .inl (g.2 0, 5, .inl row)), ((aM j_19), .inl (g.2 0, 13, .inl (M j_19)))] H.size q → A q := by
        rcases (show j_19 = 0 ∨ j_19 = 1 ∨ j_19 = 2 ∨ j_19 = 3 ∨ j_19 = 4 by omega) with rfl | rfl | rfl | rfl | rfl
        · exact va_free hD hS hA [0, 8, 9, 10, 3] rfl
        · exact va_free hD hS hA [0, 8, 9, 10, 4] rfl
        · exact va_free hD hS hA [0, 8, 9, 10, 5] rfl
        · exact va_free hD hS hA [0, 8, 9, 10, 6] rfl
        · exact va_free hD hS hA [0, 8, 9, 10, 7] rfl
      refine va_callv (va_runV (As := [.ref (aM j_19), .int x2, .int ((E 5) + p1), .int r_29]) (rest := []) S (wX0_addMatches l g qe qt qh qm qb qx ql qr qv qg (aM j_19) H.size E parts limit len row (M j_19) x2 ((E 5) + p1) r_29 (sX0_addMatches T_32 p_32 E parts limit len row (M j_19) x2 ((E 5) + p1) r_29 ho_3)) (cwV 4 hts gX0_matchOne_X0_addMatches rfl rfl rfl (by decide +kernel) ⟨Nat.le_of_ble_eq_true rfl, Nat.le_of_ble_eq_true rfl⟩) ⟨blindRW, va_recv hK hP (ci := 0) (q0 := 0) rfl rfl, fun U hU hW => ⟨rfl, by rw [hU], by rw [hU]; exact hPc, hG.warm hW, hDc.weaken (fun _ _ _ _ => trivial)⟩⟩ rfl rfl hl.1 rfl (lv_room (Nat.le_of_ble_eq_true rfl)) dX0_matchOne_32 ⟨Nat.le_of_ble_eq_true rfl, Nat.le_of_ble_eq_true rfl⟩) hS (fun q _ h => hFc q h) hFc (fun u t H1 locs ht hvm hw hB hz1 hk1 hS => ?_)
      obtain ⟨fc_32, rfl⟩ : ∃ z, z = u := ⟨_, rfl⟩
      obtain ⟨hP1, hD1⟩ := hB
      rw [ht] at hP1
      have hv := hv fc_32 hw
      have hPD : va_P g.1 vwCl [(qh, .inl (g.2 0, 200, .inl he)), (qm, .inl (g.2 6, 5, .inr (.inr (.inr (.inr (rwM aM)))))), ((aM 0), .inl (g.2 0, 13, .inl ((va_up M j_19 fc_32) 0))), ((aM 1), .inl (g.2 0, 13, .inl ((va_up M j_19 fc_32) 1))), ((aM 2), .inl (g.2 0, 13, .inl ((va_up M j_19 fc_32) 2))), ((aM 3), .inl (g.2 0, 13, .inl ((va_up M j_19 fc_32) 3))), ((aM 4), .inl (g.2 0, 13, .inl ((va_up M j_19 fc_32) 4))), (qe, .inr (0, [.ref qt, .ref qh, .ref qm, .ref qb, .ref qx, .int (E 5), .int (E 6), .int (E 7), .int (E 8), .int (E 9), .int (E 10), .int (E 11)])), (qt, .inr (7, [.ref ql, .ref qr, .ref qv, .ref qg, .int parts, .int limit])), (ql, .inl (g.2 0, 5, .inl len)), (qr, .inl (g.2 0, 5, .inl row))] H1 ∧ va_D A [(qh, .inl (g.2 0, 200, .inl he)), (qm, .inl (g.2 6, 5, .inr (.inr (.inr (.inr (rwM aM)))))), ((aM 0), .inl (g.2 0, 13, .inl ((va_up M j_19 fc_32) 0))), ((aM 1), .inl (g.2 0, 13, .inl ((va_up M j_19 fc_32) 1))), ((aM 2), .inl (g.2 0, 13, .inl ((va_up M j_19 fc_32) 2))), ((aM 3), .inl (g.2 0, 13, .inl ((va_up M j_19 fc_32) 3))), ((aM 4), .inl (g.2 0, 13, .inl ((va_up M j_19 fc_32) 4))), (qe, .inr (0, [.ref qt, .ref qh, .ref qm, .ref qb, .ref qx, .int (E 5), .int (E 6), .int (E 7), .int (E 8), .int (E 9), .int (E 10), .int (E 11)])), (qt, .inr (7, [.ref ql, .ref qr, .ref qv, .ref qg, .int parts, .int limit])), (ql, .inl (g.2 0, 5, .inl len)), (qr, .inl (g.2 0, 5, .inl row))] := by
        rcases (show j_19 = 0 ∨ j_19 = 1 ∨ j_19 = 2 ∨ j_19 = 3 ∨ j_19 = 4 by omega) with rfl | rfl | rfl | rfl | rfl
        · obtain ⟨hP, hD⟩ := va_join (wr := [(qh, .inl (g.2 0, 200, .inl he)), (qm, .inl (g.2 6, 5, .inr (.inr (.inr (.inr (rwM aM)))))), ((aM 1), .inl (g.2 0, 13, .inl (M 1))), ((aM 2), .inl (g.2 0, 13, .inl (M 2))), ((aM 3), .inl (g.2 0, 13, .inl (M 3))), ((aM 4), .inl (g.2 0, 13, .inl (M 4)))]) (w1 := [(qe, .inr (0, [.ref qt, .ref qh, .ref qm, .ref qb, .ref qx, .int (E 5), .int (E 6), .int (E 7), .int (E 8), .int (E 9), .int (E 10), .int (E 11)])), (qt, .inr (7, [.ref ql, .ref qr, .ref qv, .ref qg, .int parts, .int limit])), (ql, .inl (g.2 0, 5, .inl len)), (qr, .inl (g.2 0, 5, .inl row)), ((aM 0), .inl (g.2 0, 13, .inl fc_32))]) hP hD [0, 8, 9, 10, 3] [1, 2, 4, 5, 6, 7] rfl rfl (by decide) (by decide) hk1 hFc hP1 hD1
          exact ⟨hP.sub [0, 1, 10, 2, 3, 4, 5, 6, 7, 8, 9] rfl, hD.sub [0, 1, 10, 2, 3, 4, 5, 6, 7, 8, 9] (by decide) rfl⟩
        · obtain ⟨hP, hD⟩ := va_join (wr := [(qh, .inl (g.2 0, 200, .inl he)), (qm, .inl (g.2 6, 5, .inr (.inr (.inr (.inr (rwM aM)))))), ((aM 0), .inl (g.2 0, 13, .inl (M 0))), ((aM 2), .inl (g.2 0, 13, .inl (M 2))), ((aM 3), .inl (g.2 0, 13, .inl (M 3))), ((aM 4), .inl (g.2 0, 13, .inl (M 4)))]) (w1 := [(qe, .inr (0, [.ref qt, .ref qh, .ref qm, .ref qb, .ref qx, .int (E 5), .int (E 6), .int (E 7), .int (E 8), .int (E 9), .int (E 10), .int (E 11)])), (qt, .inr (7, [.ref ql, .ref qr, .ref qv, .ref qg, .int parts, .int limit])), (ql, .inl (g.2 0, 5, .inl len)), (qr, .inl (g.2 0, 5, .inl row)), ((aM 1), .inl (g.2 0, 13, .inl fc_32))]) hP hD [0, 8, 9, 10, 4] [1, 2, 3, 5, 6, 7] rfl rfl (by decide) (by decide) hk1 hFc hP1 hD1
          exact ⟨hP.sub [0, 1, 2, 10, 3, 4, 5, 6, 7, 8, 9] rfl, hD.sub [0, 1, 2, 10, 3, 4, 5, 6, 7, 8, 9] (by decide) rfl⟩
        · obtain ⟨hP, hD⟩ := va_join (wr := [(qh, .inl (g.2 0, 200, .inl he)), (qm, .inl (g.2 6, 5, .inr (.inr (.inr (.inr (rwM aM)))))), ((aM 0), .inl (g.2 0, 13, .inl (M 0))), ((aM 1), .inl (g.2 0, 13, .inl (M 1))), ((aM 3), .inl (g.2 0, 13, .inl (M 3))), ((aM 4), .inl (g.2 0, 13, .inl (M 4)))]) (w1 := [(qe, .inr (0, [.ref qt, .ref qh, .ref qm, .ref qb, .ref qx, .int (E 5), .int (E 6), .int (E 7), .int (E 8), .int (E 9), .int (E 10), .int (E 11)])), (qt, .inr (7, [.ref ql, .ref qr, .ref qv, .ref qg, .int parts, .int limit])), (ql, .inl (g.2 0, 5, .inl len)), (qr, .inl (g.2 0, 5, .inl row)), ((aM 2), .inl (g.2 0, 13, .inl fc_32))]) hP hD [0, 8, 9, 10, 5] [1, 2, 3, 4, 6, 7] rfl rfl (by decide) (by decide) hk1 hFc hP1 hD1
          exact ⟨hP.sub [0, 1, 2, 3, 10, 4, 5, 6, 7, 8, 9] rfl, hD.sub [0, 1, 2, 3, 10, 4, 5, 6, 7, 8, 9] (by decide) rfl⟩
        · obtain ⟨hP, hD⟩ := va_join (wr := [(qh, .inl (g.2 0, 200, .inl he)), (qm, .inl (g.2 6, 5, .inr (.inr (.inr (.inr (rwM aM)))))), ((aM 0), .inl (g.2 0, 13, .inl (M 0))), ((aM 1), .inl (g.2 0, 13, .inl (M 1))), ((aM 2), .inl (g.2 0, 13, .inl (M 2))), ((aM 4), .inl (g.2 0, 13, .inl (M 4)))]) (w1 := [(qe, .inr (0, [.ref qt, .ref qh, .ref qm, .ref qb, .ref qx, .int (E 5), .int (E 6), .int (E 7), .int (E 8), .int (E 9), .int (E 10), .int (E 11)])), (qt, .inr (7, [.ref ql, .ref qr, .ref qv, .ref qg, .int parts, .int limit])), (ql, .inl (g.2 0, 5, .inl len)), (qr, .inl (g.2 0, 5, .inl row)), ((aM 3), .inl (g.2 0, 13, .inl fc_32))]) hP hD [0, 8, 9, 10, 6] [1, 2, 3, 4, 5, 7] rfl rfl (by decide) (by decide) hk1 hFc hP1 hD1
          exact ⟨hP.sub [0, 1, 2, 3, 4, 10, 5, 6, 7, 8, 9] rfl, hD.sub [0, 1, 2, 3, 4, 10, 5, 6, 7, 8, 9] (by decide) rfl⟩
        · obtain ⟨hP, hD⟩ := va_join (wr := [(qh, .inl (g.2 0, 200, .inl he)), (qm, .inl (g.2 6, 5, .inr (.inr (.inr (.inr (rwM aM)))))), ((aM 0), .inl (g.2 0, 13, .inl (M 0))), ((aM 1), .inl (g.2 0, 13, .inl (M 1))), ((aM 2), .inl (g.2 0, 13, .inl (M 2))), ((aM 3), .inl (g.2 0, 13, .inl (M 3)))]) (w1 := [(qe, .inr (0, [.ref qt, .ref qh, .ref qm, .ref qb, .ref qx, .int (E 5), .int (E 6), .int (E 7), .int (E 8), .int (E 9), .int (E 10), .int (E 11)])), (qt, .inr (7, [.ref ql, .ref qr, .ref qv, .ref qg, .int parts, .int limit])), (ql, .inl (g.2 0, 5, .inl len)), (qr, .inl (g.2 0, 5, .inl row)), ((aM 4), .inl (g.2 0, 13, .inl fc_32))]) hP hD [0, 8, 9, 10, 7] [1, 2, 3, 4, 5, 6] rfl rfl (by decide) (by decide) hk1 hFc hP1 hD1
          exact ⟨hP.sub [0, 1, 2, 3, 4, 5, 10, 6, 7, 8, 9] rfl, hD.sub [0, 1, 2, 3, 4, 5, 10, 6, 7, 8, 9] (by decide) rfl⟩
      obtain ⟨hP, hD⟩ := hPD
      clear hP1 hD1 hPc hDc hFc hk1
      generalize H1 = H at hP hS ⊢
      have hP : va_P g.1 vwCl [(qh, .inl (g.2 0, 200, .inl he)), (qm, .inl (g.2 6, 5, .inr (.inr (.inr (.inr (rwM aM)))))), ((aM 0), .inl (g.2 0, 13, .inl ((va_up M j_19 fc_32) 0))), ((aM 1), .inl (g.2 0, 13, .inl ((va_up M j_19 fc_32) 1))), ((aM 2), .inl (g.2 0, 13, .inl ((va_up M j_19 fc_32) 2))), ((aM 3), .inl (g.2 0, 13, .inl ((va_up M j_19 fc_32) 3))), ((aM 4), .inl (g.2 0, 13, .inl ((va_up M j_19 fc_32) 4))), (qe, .inr (0, [.ref qt, .ref qh, .ref qm, .ref qb, .ref qx, .int (E 5), .int (E 6), .int (E 7), .int (E 8), .int (E 9), .int (E 10), .int (E 11)])), (qt, .inr (7, [.ref ql, .ref qr, .ref qv, .ref qg, .int parts, .int limit])), (ql, .inl (g.2 0, 5, .inl len)), (qr, .inl (g.2 0, 5, .inl row))] H := hP
      have hD : va_D A [(qh, .inl (g.2 0, 200, .inl he)), (qm, .inl (g.2 6, 5, .inr (.inr (.inr (.inr (rwM aM)))))), ((aM 0), .inl (g.2 0, 13, .inl ((va_up M j_19 fc_32) 0))), ((aM 1), .inl (g.2 0, 13, .inl ((va_up M j_19 fc_32) 1))), ((aM 2), .inl (g.2 0, 13, .inl ((va_up M j_19 fc_32) 2))), ((aM 3), .inl (g.2 0, 13, .inl ((va_up M j_19 fc_32) 3))), ((aM 4), .inl (g.2 0, 13, .inl ((va_up M j_19 fc_32) 4))), (qe, .inr (0, [.ref qt, .ref qh, .ref qm, .ref qb, .ref qx, .int (E 5), .int (E 6), .int (E 7), .int (E 8), .int (E 9), .int (E 10), .int (E 11)])), (qt, .inr (7, [.ref ql, .ref qr, .ref qv, .ref qg, .int parts, .int limit])), (ql, .inl (g.2 0, 5, .inl len)), (qr, .inl (g.2 0, 5, .inl row))] := hD
      refine lv_iinc (v := (x2 + (1 : Int32))) (lv' := [(2, .int (x2 + (1 : Int32))), (0, .ref qe), (1, .int p1)]) hx hb dX0_matchOne_35 hl (k := 2) rfl rfl (by decide) rfl (fun ls hl => ?_)
      refine lv_goto (tgt := 2) hx hb dX0_matchOne_38 (by decide) ?_
      exact ih _ _ hv _ _ (hP.sub (ws' := [(qe, .inr (0, [.ref qt, .ref qh, .ref qm, .ref qb, .ref qx, .int (E 5), .int (E 6), .int (E 7), .int (E 8), .int (E 9), .int (E 10), .int (E 11)])), (qh, .inl (g.2 0, 200, .inl he)), (qm, .inl (g.2 6, 5, .inr (.inr (.inr (.inr (rwM aM)))))), ((aM 0), .inl (g.2 0, 13, .inl ((va_up M j_19 fc_32) 0))), ((aM 1), .inl (g.2 0, 13, .inl ((va_up M j_19 fc_32) 1))), ((aM 2), .inl (g.2 0, 13, .inl ((va_up M j_19 fc_32) 2))), ((aM 3), .inl (g.2 0, 13, .inl ((va_up M j_19 fc_32) 3))), ((aM 4), .inl (g.2 0, 13, .inl ((va_up M j_19 fc_32) 4))), (qt, .inr (7, [.ref ql, .ref qr, .ref qv, .ref qg, .int parts, .int limit])), (ql, .inl (g.2 0, 5, .inl len)), (qr, .inl (g.2 0, 5, .inl row))]) [7, 0, 1, 2, 3, 4, 5, 6, 8, 9, 10] rfl) (hD.sub (ws' := [(qe, .inr (0, [.ref qt, .ref qh, .ref qm, .ref qb, .ref qx, .int (E 5), .int (E 6), .int (E 7), .int (E 8), .int (E 9), .int (E 10), .int (E 11)])), (qh, .inl (g.2 0, 200, .inl he)), (qm, .inl (g.2 6, 5, .inr (.inr (.inr (.inr (rwM aM)))))), ((aM 0), .inl (g.2 0, 13, .inl ((va_up M j_19 fc_32) 0))), ((aM 1), .inl (g.2 0, 13, .inl ((va_up M j_19 fc_32) 1))), ((aM 2), .inl (g.2 0, 13, .inl ((va_up M j_19 fc_32) 2))), ((aM 3), .inl (g.2 0, 13, .inl ((va_up M j_19 fc_32) 3))), ((aM 4), .inl (g.2 0, 13, .inl ((va_up M j_19 fc_32) 4))), (qt, .inr (7, [.ref ql, .ref qr, .ref qv, .ref qg, .int parts, .int limit])), (ql, .inl (g.2 0, 5, .inl len)), (qr, .inl (g.2 0, 5, .inl row))]) [7, 0, 1, 2, 3, 4, 5, 6, 8, 9, 10] (by decide) rfl) hS ls (lv_sub hl [1, 2, 0] rfl)
def vX0_matchOne (E : Nat → Int32) (he : Nat → Int32) (M : Nat → Nat → Int32) (parts : Int32) (limit : Int32) (len : Nat → Int32) (row : Nat → Int32) (p1 : Int32) (Q : (Nat → Nat → Int32) → Prop) : Prop := (∃ nn, vX0_matchOne_c2 E he parts limit len row p1 Q nn (0 : Int32) M)
set_option maxHeartbeats 4000000 in
set_option maxRecDepth 100000 in
theorem wX0_matchOne (l : Launch) (g : GP) (qe : Nat) (qt : Nat) (qh : Nat) (qm : Nat) (qb : Nat) (qx : Nat) (ql : Nat) (qr : Nat) (qv : Nat) (qg : Nat) (aM : Nat → Nat) (sz : Nat) (E : Nat → Int32) (he : Nat → Int32) (M : Nat → Nat → Int32) (parts : Int32) (limit : Int32) (len : Nat → Int32) (row : Nat → Int32) (p1 : Int32) {Q : (Nat → Nat → Int32) → Prop} (hv : vX0_matchOne E he M parts limit len row p1 Q) : Met l yX0_matchOne wsX0_matchOne rmX0_matchOne (va_Pc [.ref qe, .int p1] (fun U => U.heap.size = sz ∧ va_P g.1 vwCl [(qe, .inr (0, [.ref qt, .ref qh, .ref qm, .ref qb, .ref qx, .int (E 5), .int (E 6), .int (E 7), .int (E 8), .int (E 9), .int (E 10), .int (E 11)])), (qh, .inl (g.2 0, 200, .inl he)), (qm, .inl (g.2 6, 5, .inr (.inr (.inr (.inr (rwM aM)))))), ((aM 0), .inl (g.2 0, 13, .inl (M 0))), ((aM 1), .inl (g.2 0, 13, .inl (M 1))), ((aM 2), .inl (g.2 0, 13, .inl (M 2))), ((aM 3), .inl (g.2 0, 13, .inl (M 3))), ((aM 4), .inl (g.2 0, 13, .inl (M 4))), (qt, .inr (7, [.ref ql, .ref qr, .ref qv, .ref qg, .int parts, .int limit])), (ql, .inl (g.2 0, 5, .inl len)), (qr, .inl (g.2 0, 5, .inl row))] U.heap ∧ GK g U ∧ va_D (fun _ => True) [(qe, .inr (0, [.ref qt, .ref qh, .ref qm, .ref qb, .ref qx, .int (E 5), .int (E 6), .int (E 7), .int (E 8), .int (E 9), .int (E 10), .int (E 11)])), (qh, .inl (g.2 0, 200, .inl he)), (qm, .inl (g.2 6, 5, .inr (.inr (.inr (.inr (rwM aM)))))), ((aM 0), .inl (g.2 0, 13, .inl (M 0))), ((aM 1), .inl (g.2 0, 13, .inl (M 1))), ((aM 2), .inl (g.2 0, 13, .inl (M 2))), ((aM 3), .inl (g.2 0, 13, .inl (M 3))), ((aM 4), .inl (g.2 0, 13, .inl (M 4))), (qt, .inr (7, [.ref ql, .ref qr, .ref qv, .ref qg, .int parts, .int limit])), (ql, .inl (g.2 0, 5, .inl len)), (qr, .inl (g.2 0, 5, .inl row))])) (va_Qv (fun (u : (Nat → Nat → Int32)) => Q u) (fun (u : (Nat → Nat → Int32)) t => va_P g.1 vwCl [(qe, .inr (0, [.ref qt, .ref qh, .ref qm, .ref qb, .ref qx, .int (E 5), .int (E 6), .int (E 7), .int (E 8), .int (E 9), .int (E 10), .int (E 11)])), (qh, .inl (g.2 0, 200, .inl he)), (qm, .inl (g.2 6, 5, .inr (.inr (.inr (.inr (rwM aM)))))), ((aM 0), .inl (g.2 0, 13, .inl (u 0))), ((aM 1), .inl (g.2 0, 13, .inl (u 1))), ((aM 2), .inl (g.2 0, 13, .inl (u 2))), ((aM 3), .inl (g.2 0, 13, .inl (u 3))), ((aM 4), .inl (g.2 0, 13, .inl (u 4))), (qt, .inr (7, [.ref ql, .ref qr, .ref qv, .ref qg, .int parts, .int limit])), (ql, .inl (g.2 0, 5, .inl len)), (qr, .inl (g.2 0, 5, .inl row))] t.heap ∧ va_D (va_A [(qe, .inr (0, [.ref qt, .ref qh, .ref qm, .ref qb, .ref qx, .int (E 5), .int (E 6), .int (E 7), .int (E 8), .int (E 9), .int (E 10), .int (E 11)])), (qh, .inl (g.2 0, 200, .inl he)), (qm, .inl (g.2 6, 5, .inr (.inr (.inr (.inr (rwM aM)))))), ((aM 0), .inl (g.2 0, 13, .inl (M 0))), ((aM 1), .inl (g.2 0, 13, .inl (M 1))), ((aM 2), .inl (g.2 0, 13, .inl (M 2))), ((aM 3), .inl (g.2 0, 13, .inl (M 3))), ((aM 4), .inl (g.2 0, 13, .inl (M 4))), (qt, .inr (7, [.ref ql, .ref qr, .ref qv, .ref qg, .int parts, .int limit])), (ql, .inl (g.2 0, 5, .inl len)), (qr, .inl (g.2 0, 5, .inl row))] sz) [(qe, .inr (0, [.ref qt, .ref qh, .ref qm, .ref qb, .ref qx, .int (E 5), .int (E 6), .int (E 7), .int (E 8), .int (E 9), .int (E 10), .int (E 11)])), (qh, .inl (g.2 0, 200, .inl he)), (qm, .inl (g.2 6, 5, .inr (.inr (.inr (.inr (rwM aM)))))), ((aM 0), .inl (g.2 0, 13, .inl (u 0))), ((aM 1), .inl (g.2 0, 13, .inl (u 1))), ((aM 2), .inl (g.2 0, 13, .inl (u 2))), ((aM 3), .inl (g.2 0, 13, .inl (u 3))), ((aM 4), .inl (g.2 0, 13, .inl (u 4))), (qt, .inr (7, [.ref ql, .ref qr, .ref qv, .ref qg, .int parts, .int limit])), (ql, .inl (g.2 0, 5, .inl len)), (qr, .inl (g.2 0, 5, .inl row))]) (va_A [(qe, .inr (0, [.ref qt, .ref qh, .ref qm, .ref qb, .ref qx, .int (E 5), .int (E 6), .int (E 7), .int (E 8), .int (E 9), .int (E 10), .int (E 11)])), (qh, .inl (g.2 0, 200, .inl he)), (qm, .inl (g.2 6, 5, .inr (.inr (.inr (.inr (rwM aM)))))), ((aM 0), .inl (g.2 0, 13, .inl (M 0))), ((aM 1), .inl (g.2 0, 13, .inl (M 1))), ((aM 2), .inl (g.2 0, 13, .inl (M 2))), ((aM 3), .inl (g.2 0, 13, .inl (M 3))), ((aM 4), .inl (g.2 0, 13, .inl (M 4))), (qt, .inr (7, [.ref ql, .ref qr, .ref qv, .ref qg, .int parts, .int limit])), (ql, .inl (g.2 0, 5, .inl len)), (qr, .inl (g.2 0, 5, .inl row))] sz)) 0 0 (va_A [(qe, .inr (0, [.ref qt, .ref qh, .ref qm, .ref qb, .ref qx, .int (E 5), .int (E 6), .int (E 7), .int (E 8), .int (E 9), .int (E 10), .int (E 11)])), (qh, .inl (g.2 0, 200, .inl he)), (qm, .inl (g.2 6, 5, .inr (.inr (.inr (.inr (rwM aM)))))), ((aM 0), .inl (g.2 0, 13, .inl (M 0))), ((aM 1), .inl (g.2 0, 13, .inl (M 1))), ((aM 2), .inl (g.2 0, 13, .inl (M 2))), ((aM 3), .inl (g.2 0, 13, .inl (M 3))), ((aM 4), .inl (g.2 0, 13, .inl (M 4))), (qt, .inr (7, [.ref ql, .ref qr, .ref qv, .ref qg, .int parts, .int limit])), (ql, .inl (g.2 0, 5, .inl len)), (qr, .inl (g.2 0, 5, .inl row))] sz) := by
  refine Met.ofW (cc := cX0_matchOne) (maxL := 3) (ret := none) (by decide) rfl ?_
  intro p e s m args below meth c s₁ B hml hv'
  obtain ⟨rfl, hsz, hP, hG, hD0⟩ := hv'
  have S : CallFix p m c cX0_matchOne 3 s _ wsX0_matchOne RX0 := ⟨B.exec, B.bytes, hml, findClass_of_methodNamed B.named, atoms_spec (ws := wsX0_matchOne) B.pre⟩
  obtain ⟨hx, hb, hml, hown, hts⟩ := id S
  have hK := hG.1
  have hr := B.returns
  have hlocks := B.notSynchronized
  subst hsz
  have hD := hD0.self (sz := s.heap.size)
  generalize hAe : va_A [(qe, .inr (0, [.ref qt, .ref qh, .ref qm, .ref qb, .ref qx, .int (E 5), .int (E 6), .int (E 7), .int (E 8), .int (E 9), .int (E 10), .int (E 11)])), (qh, .inl (g.2 0, 200, .inl he)), (qm, .inl (g.2 6, 5, .inr (.inr (.inr (.inr (rwM aM)))))), ((aM 0), .inl (g.2 0, 13, .inl (M 0))), ((aM 1), .inl (g.2 0, 13, .inl (M 1))), ((aM 2), .inl (g.2 0, 13, .inl (M 2))), ((aM 3), .inl (g.2 0, 13, .inl (M 3))), ((aM 4), .inl (g.2 0, 13, .inl (M 4))), (qt, .inr (7, [.ref ql, .ref qr, .ref qv, .ref qg, .int parts, .int limit])), (ql, .inl (g.2 0, 5, .inl len)), (qr, .inl (g.2 0, 5, .inl row))] s.heap.size = A at hD ⊢
  have hA : ∀ q : Nat, s.heap.size ≤ q → A q := fun q h => by rw [← hAe]; exact Or.inr h
  have hS : va_S A s.heap s.heap [] := va_S.rf
  clear hD0 hAe
  have hl := lv_entry ([.ref qe, .int p1]) (n := 3) (Nat.le_of_ble_eq_true rfl)
  rw [lg_entry_eq]
  generalize (lg_sl ([.ref qe, .int p1]) ++ List.replicate (3 - (lg_sl ([.ref qe, .int p1])).length) Slot.unset).toArray = ls at hl ⊢
  have hl : lv_has ls 3 [(0, .ref qe), (1, .int p1)] := hl
  unfold vX0_matchOne at hv
  refine lv_iconst (v := (0 : Int32)) hx hb dX0_matchOne_0 (by decide) ?_
  refine lv_istore_n (lv' := [(2, .int (0 : Int32)), (0, .ref qe), (1, .int p1)]) hx hb dX0_matchOne_1 rfl hl (by decide) rfl (fun ls hl => ?_)
  obtain ⟨nn, hv⟩ := hv
  exact kX0_matchOne_c2 S hr hlocks hG hA nn _ _ hv _ _ (hP.sub (ws' := [(qe, .inr (0, [.ref qt, .ref qh, .ref qm, .ref qb, .ref qx, .int (E 5), .int (E 6), .int (E 7), .int (E 8), .int (E 9), .int (E 10), .int (E 11)])), (qh, .inl (g.2 0, 200, .inl he)), (qm, .inl (g.2 6, 5, .inr (.inr (.inr (.inr (rwM aM)))))), ((aM 0), .inl (g.2 0, 13, .inl (M 0))), ((aM 1), .inl (g.2 0, 13, .inl (M 1))), ((aM 2), .inl (g.2 0, 13, .inl (M 2))), ((aM 3), .inl (g.2 0, 13, .inl (M 3))), ((aM 4), .inl (g.2 0, 13, .inl (M 4))), (qt, .inr (7, [.ref ql, .ref qr, .ref qv, .ref qg, .int parts, .int limit])), (ql, .inl (g.2 0, 5, .inl len)), (qr, .inl (g.2 0, 5, .inl row))]) [0, 1, 2, 3, 4, 5, 6, 7, 8, 9, 10] rfl) (hD.sub (ws' := [(qe, .inr (0, [.ref qt, .ref qh, .ref qm, .ref qb, .ref qx, .int (E 5), .int (E 6), .int (E 7), .int (E 8), .int (E 9), .int (E 10), .int (E 11)])), (qh, .inl (g.2 0, 200, .inl he)), (qm, .inl (g.2 6, 5, .inr (.inr (.inr (.inr (rwM aM)))))), ((aM 0), .inl (g.2 0, 13, .inl (M 0))), ((aM 1), .inl (g.2 0, 13, .inl (M 1))), ((aM 2), .inl (g.2 0, 13, .inl (M 2))), ((aM 3), .inl (g.2 0, 13, .inl (M 3))), ((aM 4), .inl (g.2 0, 13, .inl (M 4))), (qt, .inr (7, [.ref ql, .ref qr, .ref qv, .ref qg, .int parts, .int limit])), (ql, .inl (g.2 0, 5, .inl len)), (qr, .inl (g.2 0, 5, .inl row))]) [0, 1, 2, 3, 4, 5, 6, 7, 8, 9, 10] (by decide) rfl) hS ls (lv_sub hl [1, 2, 0] rfl)
abbrev preX0_matchOne (T : Cd) (h : Nat → Nat) (fr i : Nat) (m : Nat → Nat → Int) (E he : Nat → Int32) (M : Nat → Nat → Int32) (parts _ : Int32) (len row : Nat → Int32) (p1 : Int32) : Prop := isN T parts ∧ isL T len ∧ isR T row ∧ (E 5).toInt = (fr : Int) ∧ fr ≤ 20000 ∧ p1.toInt = (i : Int) ∧ i < 200 ∧ (he i).toInt = (h i : Int) ∧ h i ≤ 2 ∧ ∀ p, p < cn T → ∀ w, w < cL T p → (M p w).toInt = m p w ∧ -1000 ≤ m p w ∧ m p w ≤ 1000
abbrev postX0_matchOne (T : Cd) (h : Nat → Nat) (fr i : Nat) (m : Nat → Nat → Int) (_ _ : Nat → Int32) (_ : Nat → Nat → Int32) (_ _ : Int32) (_ _ : Nat → Int32) (_ : Int32) (M' : Nat → Nat → Int32) : Prop := ∀ p, p < cn T → ∀ w, w < cL T p → (M' p w).toInt = m p w + alZ T h fr p w i
theorem sX0_matchOne_1 (T : Cd) (h : Nat → Nat) (fr i : Nat) (m : Nat → Nat → Int) (E he : Nat → Int32) (M0 : Nat → Nat → Int32) (parts limit : Int32) (len row : Nat → Int32) (p1 : Int32) (H : preX0_matchOne T h fr i m E he M0 parts limit len row p1) : ∀ (n p : Nat) (x2 : Int32) (M : Nat → Nat → Int32), x2.toInt = (p : Int) → p ≤ cn T → cn T + 1 ≤ p + n → (∀ q, q < p → ∀ w, w < cL T q → (M q w).toInt = m q w + alZ T h fr q w i) → (∀ q, p ≤ q → M q = M0 q) → vX0_matchOne_c2 E he parts limit len row p1 (postX0_matchOne T h fr i m E he M0 parts limit len row p1) n x2 M
  | 0, p, x2, M, _, hi, hn, _, _ => absurd hn (by omega)
  | n + 1, p, x2, M, h2, hi, hn, hM, hMo => by
    obtain ⟨hN, hL, hR, hfr, hfr2, h1, hi2, hh, hh2, hm⟩ := id H
    have hn5 := hN.2
    rw [vX0_matchOne_c2, q_le hN.1 h2]
    refine ⟨fun hc => ?_, fun hc => ⟨q_in h2 (by omega), fun j hj e => ?_⟩⟩
    · have : p = cn T := by omega
      subst this
      exact hM
    · have := nI_at h2 hj e
      subst this
      have hjc : j < cn T := by omega
      have et := q_addN hfr h1 (by omega)
      refine ⟨h, i, ⟨h1, hi2, hh⟩, fun r hr => ?_⟩
      have hr : r.toInt = sgZ (h i) := hr
      have hsg := sgZ_le (h i)
      refine ⟨T, j, ⟨hn5, hL, hR, h2, hjc, by omega, by omega, by omega, by omega, fun w hw => ?_⟩, fun fc hfc => ?_⟩
      · rw [hMo j (Nat.le_refl _)]; have := hm j hjc w hw; omega
      · refine sX0_matchOne_1 T h fr i m E he M0 parts limit len row p1 H n (j + 1) _ _ (q_1 h2 (by omega)) (by omega) (by omega) (fun q hq w hw => ?_) (fun q hq => ?_)
        · unfold va_up
          by_cases e2 : q = j
          · subst e2
            rw [if_pos rfl]
            have hw2 := hfc w
            rw [if_pos hw, et, hr, hMo q (Nat.le_refl _), (hm q hjc w hw).1] at hw2
            rw [hw2, alZ_sg T h fr q w i hh2]
          · rw [if_neg e2]; exact hM q (by omega) w hw
        · unfold va_up
          rw [if_neg (by omega)]; exact hMo q (by omega)
theorem sX0_matchOne (T : Cd) (h : Nat → Nat) (fr i : Nat) (m : Nat → Nat → Int) (E he : Nat → Int32) (M : Nat → Nat → Int32) (parts limit : Int32) (len row : Nat → Int32) (p1 : Int32) (H : preX0_matchOne T h fr i m E he M parts limit len row p1) : vX0_matchOne E he M parts limit len row p1 (postX0_matchOne T h fr i m E he M parts limit len row p1) :=
  ⟨cn T + 1, sX0_matchOne_1 T h fr i m E he M parts limit len row p1 H (cn T + 1) 0 0 M rfl (by omega) (by omega) (fun q hq => absurd hq (by omega)) (fun _ _ => rfl)⟩
set_option maxRecDepth 20000 in
theorem ggX0_forBestAlone_X7_chipOf : GoodIn wsX0_forBestAlone wsX7_chipOf := goodIn_r _ [10, 11, 12, 13, 14, 15, 28, 29, 30, 31, 32, 33] (by decide +kernel) (by decide +kernel)
set_option maxRecDepth 20000 in
theorem gX0_forBestAlone_X7_chipOf : GoodIn wsX0_forBestAlone (wsV RX0 126 RX7 yX7_chipOf wsX7_chipOf) := goodIn_app (goodIn_of _ (by decide +kernel)) ggX0_forBestAlone_X7_chipOf
theorem dX0_forBestAlone_0 : decode cX0_forBestAlone 0 = .ok (.iconst 0, 1) := by decide +kernel
theorem dX0_forBestAlone_1 : decode cX0_forBestAlone 1 = .ok (.istore_n 3, 1) := by decide +kernel
theorem dX0_forBestAlone_2 : decode cX0_forBestAlone 2 = .ok (.iconst 0, 1) := by decide +kernel
theorem dX0_forBestAlone_3 : decode cX0_forBestAlone 3 = .ok (.istore 4, 2) := by decide +kernel
theorem dX0_forBestAlone_5 : decode cX0_forBestAlone 5 = .ok (.iload 4, 2) := by decide +kernel
theorem dX0_forBestAlone_7 : decode cX0_forBestAlone 7 = .ok (.aload_n 0, 1) := by decide +kernel
theorem dX0_forBestAlone_8 : decode cX0_forBestAlone 8 = .ok (.getfield 63, 3) := by decide +kernel
theorem dX0_forBestAlone_11 : decode cX0_forBestAlone 11 = .ok (.if_icmp .ge 72, 3) := by decide +kernel
theorem dX0_forBestAlone_14 : decode cX0_forBestAlone 14 = .ok (.aload_n 0, 1) := by decide +kernel
theorem dX0_forBestAlone_15 : decode cX0_forBestAlone 15 = .ok (.getfield 60, 3) := by decide +kernel
theorem dX0_forBestAlone_18 : decode cX0_forBestAlone 18 = .ok (.iload 4, 2) := by decide +kernel
theorem dX0_forBestAlone_20 : decode cX0_forBestAlone 20 = .ok (.iadd, 1) := by decide +kernel
theorem dX0_forBestAlone_21 : decode cX0_forBestAlone 21 = .ok (.istore 5, 2) := by decide +kernel
theorem dX0_forBestAlone_23 : decode cX0_forBestAlone 23 = .ok (.aload_n 0, 1) := by decide +kernel
theorem dX0_forBestAlone_24 : decode cX0_forBestAlone 24 = .ok (.getfield 9, 3) := by decide +kernel
theorem dX0_forBestAlone_27 : decode cX0_forBestAlone 27 = .ok (.iload 4, 2) := by decide +kernel
theorem dX0_forBestAlone_29 : decode cX0_forBestAlone 29 = .ok (.iaload, 1) := by decide +kernel
theorem dX0_forBestAlone_30 : decode cX0_forBestAlone 30 = .ok (.aload_n 0, 1) := by decide +kernel
theorem dX0_forBestAlone_31 : decode cX0_forBestAlone 31 = .ok (.getfield 26, 3) := by decide +kernel
theorem dX0_forBestAlone_34 : decode cX0_forBestAlone 34 = .ok (.iload_n 1, 1) := by decide +kernel
theorem dX0_forBestAlone_35 : decode cX0_forBestAlone 35 = .ok (.iload 5, 2) := by decide +kernel
theorem dX0_forBestAlone_37 : decode cX0_forBestAlone 37 = .ok (.aload_n 0, 1) := by decide +kernel
theorem dX0_forBestAlone_38 : decode cX0_forBestAlone 38 = .ok (.getfield 20, 3) := by decide +kernel
theorem dX0_forBestAlone_41 : decode cX0_forBestAlone 41 = .ok (.iload_n 1, 1) := by decide +kernel
theorem dX0_forBestAlone_42 : decode cX0_forBestAlone 42 = .ok (.iaload, 1) := by decide +kernel
theorem dX0_forBestAlone_43 : decode cX0_forBestAlone 43 = .ok (.isub, 1) := by decide +kernel
theorem dX0_forBestAlone_44 : decode cX0_forBestAlone 44 = .ok (.invokevirtual 126, 3) := by decide +kernel
theorem dX0_forBestAlone_47 : decode cX0_forBestAlone 47 = .ok (.if_icmp .ne 30, 3) := by decide +kernel
theorem dX0_forBestAlone_50 : decode cX0_forBestAlone 50 = .ok (.aload_n 0, 1) := by decide +kernel
theorem dX0_forBestAlone_51 : decode cX0_forBestAlone 51 = .ok (.getfield 9, 3) := by decide +kernel
theorem dX0_forBestAlone_54 : decode cX0_forBestAlone 54 = .ok (.iload 4, 2) := by decide +kernel
theorem dX0_forBestAlone_56 : decode cX0_forBestAlone 56 = .ok (.iaload, 1) := by decide +kernel
theorem dX0_forBestAlone_57 : decode cX0_forBestAlone 57 = .ok (.iconst 1, 1) := by decide +kernel
theorem dX0_forBestAlone_58 : decode cX0_forBestAlone 58 = .ok (.aload_n 0, 1) := by decide +kernel
theorem dX0_forBestAlone_59 : decode cX0_forBestAlone 59 = .ok (.getfield 26, 3) := by decide +kernel
theorem dX0_forBestAlone_62 : decode cX0_forBestAlone 62 = .ok (.iload_n 1, 1) := by decide +kernel
theorem dX0_forBestAlone_63 : decode cX0_forBestAlone 63 = .ok (.iload 5, 2) := by decide +kernel
theorem dX0_forBestAlone_65 : decode cX0_forBestAlone 65 = .ok (.iload_n 2, 1) := by decide +kernel
theorem dX0_forBestAlone_66 : decode cX0_forBestAlone 66 = .ok (.isub, 1) := by decide +kernel
theorem dX0_forBestAlone_67 : decode cX0_forBestAlone 67 = .ok (.invokevirtual 126, 3) := by decide +kernel
theorem dX0_forBestAlone_70 : decode cX0_forBestAlone 70 = .ok (.isub, 1) := by decide +kernel
theorem dX0_forBestAlone_71 : decode cX0_forBestAlone 71 = .ok (.if_icmp .ne 6, 3) := by decide +kernel
theorem dX0_forBestAlone_74 : decode cX0_forBestAlone 74 = .ok (.iinc 3 1, 3) := by decide +kernel
theorem dX0_forBestAlone_77 : decode cX0_forBestAlone 77 = .ok (.iinc 4 1, 3) := by decide +kernel
theorem dX0_forBestAlone_80 : decode cX0_forBestAlone 80 = .ok (.goto (-75), 3) := by decide +kernel
theorem dX0_forBestAlone_83 : decode cX0_forBestAlone 83 = .ok (.iload_n 3, 1) := by decide +kernel
theorem dX0_forBestAlone_84 : decode cX0_forBestAlone 84 = .ok (.ireturn, 1) := by decide +kernel
abbrev rmX0_forBestAlone : Room := { frames := 2, cells := 0, slots := 0, locals := 44 }
theorem inX0_forBestAlone_0 : ∀ w ∈ wsX00, w ∈ wsX0_forBestAlone := by decide +kernel
def vX0_forBestAlone_c5 (E : Nat → Int32) (he : Nat → Int32) (be : Nat → Int32) (parts : Int32) (limit : Int32) (len : Nat → Int32) (row : Nat → Int32) (p1 : Int32) (p2 : Int32) (Q : Int32 → Prop) : Nat → Int32 → Int32 → Prop
  | 0, _, _ => False
  | n + 1, x3, x4 => (((E 6) ≤ x4 → (Q x3)) ∧ (¬ (E 6) ≤ x4 → (vp_in x4 200 ∧ (vp_in p1 5 ∧ (∃ (T_44 : Cd) (pp_44 : Nat), preX7_chipOf T_44 pp_44 parts limit len row p1 (((E 5) + x4) - (be p1.toNatClampNeg)) ∧ (∀ r_44 : Int32, postX7_chipOf T_44 pp_44 parts limit len row p1 (((E 5) + x4) - (be p1.toNatClampNeg)) r_44 → ((¬ (he x4.toNatClampNeg) = r_44 → (vX0_forBestAlone_c5 E he be parts limit len row p1 p2 Q n x3 (x4 + (1 : Int32)))) ∧ ((he x4.toNatClampNeg) = r_44 → (vp_in x4 200 ∧ (∃ (T_67 : Cd) (pp_67 : Nat), preX7_chipOf T_67 pp_67 parts limit len row p1 (((E 5) + x4) - p2) ∧ (∀ r_67 : Int32, postX7_chipOf T_67 pp_67 parts limit len row p1 (((E 5) + x4) - p2) r_67 → ((¬ (he x4.toNatClampNeg) = ((1 : Int32) - r_67) → (vX0_forBestAlone_c5 E he be parts limit len row p1 p2 Q n x3 (x4 + (1 : Int32)))) ∧ ((he x4.toNatClampNeg) = ((1 : Int32) - r_67) → (vX0_forBestAlone_c5 E he be parts limit len row p1 p2 Q n (x3 + (1 : Int32)) (x4 + (1 : Int32))))))))))))))))
set_option maxHeartbeats 4000000 in
set_option maxRecDepth 100000 in
theorem kX0_forBestAlone_c5 {p : Program} {l : Launch} {e : Env} {s : State} {m : MethodId} {args : Array Value} {below : List Frame} {meth : Method} {c : Code} {g : GP} {qe : Nat} {qt : Nat} {qh : Nat} {qm : Nat} {qb : Nat} {qx : Nat} {ql : Nat} {qr : Nat} {qv : Nat} {qg : Nat} {E : Nat → Int32} {he : Nat → Int32} {be : Nat → Int32} {parts : Int32} {limit : Int32} {len : Nat → Int32} {row : Nat → Int32} {p1 : Int32} {p2 : Int32} {Q : Int32 → Prop} (S : CallFix p m c cX0_forBestAlone 6 s args wsX0_forBestAlone RX0) (hr : meth.sig.returnType = (some .int)) (hlocks : meth.locks = false) (hG : GK g s) (hP : va_P g.1 vwCl [(qe, .inr (0, [.ref qt, .ref qh, .ref qm, .ref qb, .ref qx, .int (E 5), .int (E 6), .int (E 7), .int (E 8), .int (E 9), .int (E 10), .int (E 11)])), (qh, .inl (g.2 0, 200, .inl he)), (qb, .inl (g.2 0, 5, .inl be)), (qt, .inr (7, [.ref ql, .ref qr, .ref qv, .ref qg, .int parts, .int limit])), (ql, .inl (g.2 0, 5, .inl len)), (qr, .inl (g.2 0, 5, .inl row))] s.heap) : ∀ (n : Nat), ∀ (x3 : Int32) (x4 : Int32), vX0_forBestAlone_c5 E he be parts limit len row p1 p2 Q n x3 x4 → ∀ (ls : Array Slot), lv_has ls 6 [(0, .ref qe), (1, .int p1), (2, .int p2), (3, .int x3), (4, .int x4)] → W p l e (headSpec wsX0_forBestAlone rmX0_forBestAlone).room s m args below meth c s.heap [] 0 0 (MQ below (vp_Si Q) args s 0 0 (fun _ => False)) (F0 m 5 ls []) := by
  obtain ⟨hx, hb, hml, hown, hts⟩ := id S
  have hK := hG.1
  intro n
  induction n with
  | zero => intro x3 x4 hv; exact hv.elim
  | succ n ih =>
    intro x3 x4 hv ls hl
    refine lv_iload hx hb dX0_forBestAlone_5 (lv_at hl 4 rfl) ?_
    refine lv_aload_n hx hb dX0_forBestAlone_7 rfl (lv_at hl 0 rfl) ?_
    refine va_get (D := g.1) (ci := 0) (v := .int (E 6)) (C := RX0) (T := TX0) (N := 12) hx hb hts inX0_forBestAlone_0 hown hK hP 0 rfl rfl 6 (by decide) (hts (.fieldLink RX0 63 "RangeCodes$Ear" "many" "I") (List.mem_of_getElem? (i := 1) rfl)) (fun _ h9 => h9) rfl dX0_forBestAlone_8 ?_
    obtain ⟨hvt, hvf⟩ := hv
    refine lv_icmp_ge (tgt := 83) hx hb dX0_forBestAlone_11 (by decide) (fun hc => ?_) (fun hc => ?_)
    · have hv := hvt hc
      refine lv_iload_n hx hb dX0_forBestAlone_83 rfl (lv_at hl 3 rfl) ?_
      exact W.iret (v := x3) hx hb hr (fun t ht hW => ⟨_, rfl, hv, ht⟩) (fun _ h => by cases h) dX0_forBestAlone_84
    · have hv := hvf hc
      refine lv_aload_n hx hb dX0_forBestAlone_14 rfl (lv_at hl 0 rfl) ?_
      refine va_get (D := g.1) (ci := 0) (v := .int (E 5)) (C := RX0) (T := TX0) (N := 12) hx hb hts inX0_forBestAlone_0 hown hK hP 0 rfl rfl 5 (by decide) (hts (.fieldLink RX0 60 "RangeCodes$Ear" "from" "I") (List.mem_of_getElem? (i := 2) rfl)) (fun _ h9 => h9) rfl dX0_forBestAlone_15 ?_
      refine lv_iload hx hb dX0_forBestAlone_18 (lv_at hl 4 rfl) ?_
      refine lv_iadd hx hb dX0_forBestAlone_20 ?_
      refine lv_istore (lv' := [(5, .int ((E 5) + x4)), (0, .ref qe), (1, .int p1), (2, .int p2), (3, .int x3), (4, .int x4)]) hx hb dX0_forBestAlone_21 hl (by decide) rfl (fun ls hl => ?_)
      refine lv_aload_n hx hb dX0_forBestAlone_23 rfl (lv_at hl 1 rfl) ?_
      refine va_get (D := g.1) (ci := 0) (v := .ref qh) (C := RX0) (T := TX0) (N := 12) hx hb hts inX0_forBestAlone_0 hown hK hP 0 rfl rfl 1 (by decide) (hts (.fieldLink RX0 9 "RangeCodes$Ear" "heard" "[I") (List.mem_of_getElem? (i := 3) rfl)) (fun _ h9 => h9) rfl dX0_forBestAlone_24 ?_
      refine lv_iload hx hb dX0_forBestAlone_27 (lv_at hl 5 rfl) ?_
      obtain ⟨ho_1, hv⟩ := hv
      refine va_iald hx hb hK hP 1 0 rfl rfl ho_1 dX0_forBestAlone_29 ?_
      refine lv_aload_n hx hb dX0_forBestAlone_30 rfl (lv_at hl 1 rfl) ?_
      refine va_get (D := g.1) (ci := 0) (v := .ref qt) (C := RX0) (T := TX0) (N := 12) hx hb hts inX0_forBestAlone_0 hown hK hP 0 rfl rfl 0 (by decide) (hts (.fieldLink RX0 26 "RangeCodes$Ear" "told" "LRangeCodes$Told;") (List.mem_of_getElem? (i := 4) rfl)) (fun _ h9 => h9) rfl dX0_forBestAlone_31 ?_
      refine lv_iload_n hx hb dX0_forBestAlone_34 rfl (lv_at hl 2 rfl) ?_
      refine lv_iload hx hb dX0_forBestAlone_35 (lv_at hl 0 rfl) ?_
      refine lv_aload_n hx hb dX0_forBestAlone_37 rfl (lv_at hl 1 rfl) ?_
      refine va_get (D := g.1) (ci := 0) (v := .ref qb) (C := RX0) (T := TX0) (N := 12) hx hb hts inX0_forBestAlone_0 hown hK hP 0 rfl rfl 3 (by decide) (hts (.fieldLink RX0 20 "RangeCodes$Ear" "bests" "[I") (List.mem_of_getElem? (i := 5) rfl)) (fun _ h9 => h9) rfl dX0_forBestAlone_38 ?_
      refine lv_iload_n hx hb dX0_forBestAlone_41 rfl (lv_at hl 2 rfl) ?_
      obtain ⟨ho_2, hv⟩ := hv
      refine va_iald hx hb hK hP 2 0 rfl rfl ho_2 dX0_forBestAlone_42 ?_
      refine lv_isub hx hb dX0_forBestAlone_43 ?_
      obtain ⟨T_44, pp_44, ho_3, hv⟩ := hv
      refine vp_callSi (W.runV (As := [.int p1, .int (((E 5) + x4) - (be p1.toNatClampNeg))]) (rest := [.int (he x4.toNatClampNeg)]) S (wX7_chipOf l g qt ql qr qv qg parts limit len row p1 (((E 5) + x4) - (be p1.toNatClampNeg)) (sX7_chipOf T_44 pp_44 parts limit len row p1 (((E 5) + x4) - (be p1.toNatClampNeg)) ho_3)) (cwV 2 hts gX0_forBestAlone_X7_chipOf rfl rfl rfl (by decide +kernel) ⟨Nat.le_of_ble_eq_true rfl, Nat.le_of_ble_eq_true rfl⟩) ⟨blindRO, va_recv hK hP (ci := 7) (q0 := 3) rfl rfl, fun U hU hW => ⟨rfl, by rw [hU]; exact hP.sub (ws' := [(qt, .inr (7, [.ref ql, .ref qr, .ref qv, .ref qg, .int parts, .int limit])), (ql, .inl (g.2 0, 5, .inl len)), (qr, .inl (g.2 0, 5, .inl row))]) [3, 4, 5] rfl, hG.warm hW⟩⟩ rfl rfl hl.1 rfl (lv_room (Nat.le_of_ble_eq_true rfl)) dX0_forBestAlone_44 ⟨Nat.le_of_ble_eq_true rfl, Nat.le_of_ble_eq_true rfl⟩) (fun r_44 hr_44 => ?_)
      have hv := hv r_44 hr_44
      obtain ⟨hvt, hvf⟩ := hv
      refine lv_icmp_ne (tgt := 77) hx hb dX0_forBestAlone_47 (by decide) (fun hc => ?_) (fun hc => ?_)
      · have hv := hvt hc
        refine lv_iinc (v := (x4 + (1 : Int32))) (lv' := [(4, .int (x4 + (1 : Int32))), (5, .int ((E 5) + x4)), (0, .ref qe), (1, .int p1), (2, .int p2), (3, .int x3)]) hx hb dX0_forBestAlone_77 hl (k := 5) rfl rfl (by decide) rfl (fun ls hl => ?_)
        refine lv_goto (tgt := 5) hx hb dX0_forBestAlone_80 (by decide) ?_
        exact ih _ _ hv ls (lv_sub hl [2, 3, 4, 5, 0] rfl)
      · have hv := hvf hc
        refine lv_aload_n hx hb dX0_forBestAlone_50 rfl (lv_at hl 1 rfl) ?_
        refine va_get (D := g.1) (ci := 0) (v := .ref qh) (C := RX0) (T := TX0) (N := 12) hx hb hts inX0_forBestAlone_0 hown hK hP 0 rfl rfl 1 (by decide) (hts (.fieldLink RX0 9 "RangeCodes$Ear" "heard" "[I") (List.mem_of_getElem? (i := 3) rfl)) (fun _ h9 => h9) rfl dX0_forBestAlone_51 ?_
        refine lv_iload hx hb dX0_forBestAlone_54 (lv_at hl 5 rfl) ?_
        obtain ⟨ho_4, hv⟩ := hv
        refine va_iald hx hb hK hP 1 0 rfl rfl ho_4 dX0_forBestAlone_56 ?_
        refine lv_iconst (v := (1 : Int32)) hx hb dX0_forBestAlone_57 (by decide) ?_
        refine lv_aload_n hx hb dX0_forBestAlone_58 rfl (lv_at hl 1 rfl) ?_
        refine va_get (D := g.1) (ci := 0) (v := .ref qt) (C := RX0) (T := TX0) (N := 12) hx hb hts inX0_forBestAlone_0 hown hK hP 0 rfl rfl 0 (by decide) (hts (.fieldLink RX0 26 "RangeCodes$Ear" "told" "LRangeCodes$Told;") (List.mem_of_getElem? (i := 4) rfl)) (fun _ h9 => h9) rfl dX0_forBestAlone_59 ?_
        refine lv_iload_n hx hb dX0_forBestAlone_62 rfl (lv_at hl 2 rfl) ?_
        refine lv_iload hx hb dX0_forBestAlone_63 (lv_at hl 0 rfl) ?_
        refine lv_iload_n hx hb dX0_forBestAlone_65 rfl (lv_at hl 3 rfl) ?_
        refine lv_isub hx hb dX0_forBestAlone_66 ?_
        obtain ⟨T_67, pp_67, ho_5, hv⟩ := hv
        refine vp_callSi (W.runV (As := [.int p1, .int (((E 5) + x4) - p2)]) (rest := [.int (1 : Int32), .int (he x4.toNatClampNeg)]) S (wX7_chipOf l g qt ql qr qv qg parts limit len row p1 (((E 5) + x4) - p2) (sX7_chipOf T_67 pp_67 parts limit len row p1 (((E 5) + x4) - p2) ho_5)) (cwV 2 hts gX0_forBestAlone_X7_chipOf rfl rfl rfl (by decide +kernel) ⟨Nat.le_of_ble_eq_true rfl, Nat.le_of_ble_eq_true rfl⟩) ⟨blindRO, va_recv hK hP (ci := 7) (q0 := 3) rfl rfl, fun U hU hW => ⟨rfl, by rw [hU]; exact hP.sub (ws' := [(qt, .inr (7, [.ref ql, .ref qr, .ref qv, .ref qg, .int parts, .int limit])), (ql, .inl (g.2 0, 5, .inl len)), (qr, .inl (g.2 0, 5, .inl row))]) [3, 4, 5] rfl, hG.warm hW⟩⟩ rfl rfl hl.1 rfl (lv_room (Nat.le_of_ble_eq_true rfl)) dX0_forBestAlone_67 ⟨Nat.le_of_ble_eq_true rfl, Nat.le_of_ble_eq_true rfl⟩) (fun r_67 hr_67 => ?_)
        have hv := hv r_67 hr_67
        refine lv_isub hx hb dX0_forBestAlone_70 ?_
        obtain ⟨hvt, hvf⟩ := hv
        refine lv_icmp_ne (tgt := 77) hx hb dX0_forBestAlone_71 (by decide) (fun hc => ?_) (fun hc => ?_)
        · have hv := hvt hc
          refine lv_iinc (v := (x4 + (1 : Int32))) (lv' := [(4, .int (x4 + (1 : Int32))), (5, .int ((E 5) + x4)), (0, .ref qe), (1, .int p1), (2, .int p2), (3, .int x3)]) hx hb dX0_forBestAlone_77 hl (k := 5) rfl rfl (by decide) rfl (fun ls hl => ?_)
          refine lv_goto (tgt := 5) hx hb dX0_forBestAlone_80 (by decide) ?_
          exact ih _ _ hv ls (lv_sub hl [2, 3, 4, 5, 0] rfl)
        · have hv := hvf hc
          refine lv_iinc (v := (x3 + (1 : Int32))) (lv' := [(3, .int (x3 + (1 : Int32))), (5, .int ((E 5) + x4)), (0, .ref qe), (1, .int p1), (2, .int p2), (4, .int x4)]) hx hb dX0_forBestAlone_74 hl (k := 4) rfl rfl (by decide) rfl (fun ls hl => ?_)
          refine lv_iinc (v := (x4 + (1 : Int32))) (lv' := [(4, .int (x4 + (1 : Int32))), (3, .int (x3 + (1 : Int32))), (5, .int ((E 5) + x4)), (0, .ref qe), (1, .int p1), (2, .int p2)]) hx hb dX0_forBestAlone_77 hl (k := 5) rfl rfl (by decide) rfl (fun ls hl => ?_)
          refine lv_goto (tgt := 5) hx hb dX0_forBestAlone_80 (by decide) ?_
          exact ih _ _ hv ls (lv_sub hl [3, 4, 5, 1, 0] rfl)
def vX0_forBestAlone (E : Nat → Int32) (he : Nat → Int32) (be : Nat → Int32) (parts : Int32) (limit : Int32) (len : Nat → Int32) (row : Nat → Int32) (p1 : Int32) (p2 : Int32) (Q : Int32 → Prop) : Prop := (∃ nn, vX0_forBestAlone_c5 E he be parts limit len row p1 p2 Q nn (0 : Int32) (0 : Int32))
set_option maxHeartbeats 4000000 in
set_option maxRecDepth 100000 in
theorem wX0_forBestAlone (l : Launch) (g : GP) (qe : Nat) (qt : Nat) (qh : Nat) (qm : Nat) (qb : Nat) (qx : Nat) (ql : Nat) (qr : Nat) (qv : Nat) (qg : Nat) (E : Nat → Int32) (he : Nat → Int32) (be : Nat → Int32) (parts : Int32) (limit : Int32) (len : Nat → Int32) (row : Nat → Int32) (p1 : Int32) (p2 : Int32) {Q : Int32 → Prop} (hv : vX0_forBestAlone E he be parts limit len row p1 p2 Q) : Met l yX0_forBestAlone wsX0_forBestAlone rmX0_forBestAlone (va_Pc [.ref qe, .int p1, .int p2] (fun U => va_P g.1 vwCl [(qe, .inr (0, [.ref qt, .ref qh, .ref qm, .ref qb, .ref qx, .int (E 5), .int (E 6), .int (E 7), .int (E 8), .int (E 9), .int (E 10), .int (E 11)])), (qh, .inl (g.2 0, 200, .inl he)), (qb, .inl (g.2 0, 5, .inl be)), (qt, .inr (7, [.ref ql, .ref qr, .ref qv, .ref qg, .int parts, .int limit])), (ql, .inl (g.2 0, 5, .inl len)), (qr, .inl (g.2 0, 5, .inl row))] U.heap ∧ GK g U)) (vp_Si Q) 0 0 (fun _ => False) := by
  refine Met.ofW (cc := cX0_forBestAlone) (maxL := 6) (ret := (some .int)) (by decide) rfl ?_
  intro p e s m args below meth c s₁ B hml hv'
  obtain ⟨rfl, hP, hG⟩ := hv'
  have S : CallFix p m c cX0_forBestAlone 6 s _ wsX0_forBestAlone RX0 := ⟨B.exec, B.bytes, hml, findClass_of_methodNamed B.named, atoms_spec (ws := wsX0_forBestAlone) B.pre⟩
  obtain ⟨hx, hb, hml, hown, hts⟩ := id S
  have hK := hG.1
  have hr := B.returns
  have hlocks := B.notSynchronized
  have hl := lv_entry ([.ref qe, .int p1, .int p2]) (n := 6) (Nat.le_of_ble_eq_true rfl)
  rw [lg_entry_eq]
  generalize (lg_sl ([.ref qe, .int p1, .int p2]) ++ List.replicate (6 - (lg_sl ([.ref qe, .int p1, .int p2])).length) Slot.unset).toArray = ls at hl ⊢
  have hl : lv_has ls 6 [(0, .ref qe), (1, .int p1), (2, .int p2)] := hl
  unfold vX0_forBestAlone at hv
  refine lv_iconst (v := (0 : Int32)) hx hb dX0_forBestAlone_0 (by decide) ?_
  refine lv_istore_n (lv' := [(3, .int (0 : Int32)), (0, .ref qe), (1, .int p1), (2, .int p2)]) hx hb dX0_forBestAlone_1 rfl hl (by decide) rfl (fun ls hl => ?_)
  refine lv_iconst (v := (0 : Int32)) hx hb dX0_forBestAlone_2 (by decide) ?_
  refine lv_istore (lv' := [(4, .int (0 : Int32)), (3, .int (0 : Int32)), (0, .ref qe), (1, .int p1), (2, .int p2)]) hx hb dX0_forBestAlone_3 hl (by decide) rfl (fun ls hl => ?_)
  obtain ⟨nn, hv⟩ := hv
  exact kX0_forBestAlone_c5 S hr hlocks hG hP nn _ _ hv ls (lv_sub hl [2, 3, 4, 1, 0] rfl)
/-- at how many i what is heard is like one place and unlike another one -/
def tlN (T : Cd) (h : Nat → Nat) (fr p b w : Nat) : Nat → Nat
  | 0 => 0
  | i + 1 => tlN T h fr p b w i + if alZ T h fr p b i = 1 ∧ alZ T h fr p w i = -1 then 1 else 0
theorem tlN_le (T : Cd) (h : Nat → Nat) (fr p b w : Nat) : ∀ k, tlN T h fr p b w k ≤ k
  | 0 => Nat.le_refl 0
  | k + 1 => by have := tlN_le T h fr p b w k; rw [tlN]; split <;> omega
abbrev preX0_forBestAlone (T : Cd) (h : Nat → Nat) (fr mn p b w : Nat) (E he be : Nat → Int32) (parts _ : Int32) (len row : Nat → Int32) (p1 p2 : Int32) : Prop := cn T ≤ 5 ∧ isL T len ∧ isR T row ∧ (E 5).toInt = (fr : Int) ∧ fr ≤ 20000 ∧ (E 6).toInt = (mn : Int) ∧ mn ≤ 200 ∧ isH h mn he ∧ p1.toInt = (p : Int) ∧ p < cn T ∧ (be p).toInt = (b : Int) ∧ b ≤ 13 ∧ p2.toInt = (w : Int) ∧ w ≤ 13
abbrev postX0_forBestAlone (T : Cd) (h : Nat → Nat) (fr mn p b w : Nat) (_ _ _ : Nat → Int32) (_ _ : Int32) (_ _ : Nat → Int32) (_ _ r : Int32) : Prop := r.toInt = ((tlN T h fr p b w mn : Nat) : Int)
theorem al_1 (T : Cd) (h : Nat → Nat) (fr p pl i : Nat) (hh : h i ≤ 2) (r x : Int32) (hx : x.toInt = (h i : Int)) (hr : r = if chB T p (((fr + i : Nat) : Int) - (pl : Int)) then 1 else 0) : (x = r ↔ alZ T h fr p pl i = 1) ∧ (x = (1 : Int32) - r ↔ alZ T h fr p pl i = -1) := by
  rw [q_eqN hx, hr]
  unfold alZ
  rcases (show h i = 0 ∨ h i = 1 ∨ h i = 2 by omega) with e | e | e <;> rw [e] <;> cases chB T p (((fr + i : Nat) : Int) - (pl : Int)) <;> decide
theorem sX0_forBestAlone_1 (T : Cd) (h : Nat → Nat) (fr mn p b w : Nat) (E he be : Nat → Int32) (parts limit : Int32) (len row : Nat → Int32) (p1 p2 : Int32) (H : preX0_forBestAlone T h fr mn p b w E he be parts limit len row p1 p2) : ∀ (n i : Nat) (x3 x4 : Int32), x3.toInt = ((tlN T h fr p b w i : Nat) : Int) → x4.toInt = (i : Int) → i ≤ mn → mn + 1 ≤ i + n → vX0_forBestAlone_c5 E he be parts limit len row p1 p2 (postX0_forBestAlone T h fr mn p b w E he be parts limit len row p1 p2) n x3 x4
  | 0, i, x3, x4, _, _, hi, hn => absurd hn (by omega)
  | n + 1, i, x3, x4, h3, h4, hi, hn => by
    obtain ⟨hn5, hL, hR, hfr, hfr2, hmn, hmn2, hH, h1, hp, hb, hb2, h2, hw⟩ := id H
    have hle := tlN_le T h fr p b w i
    rw [vX0_forBestAlone_c5, q_le hmn h4]
    refine ⟨fun hc => ?_, fun hc => ⟨q_in h4 (by omega), q_in h1 (by omega), ?_⟩⟩
    · have : i = mn := by omega
      subst this
      exact h3
    · have hh := hH i (by omega)
      have h4s := q_1 h4 (by omega)
      have et := q_addN hfr h4 (by omega)
      rw [q_cl h1, q_cl h4]
      have e1 := q_sub et hb (by omega) (by omega)
      have e2 := q_sub et h2 (by omega) (by omega)
      have no : ¬ (alZ T h fr p b i = 1 ∧ alZ T h fr p w i = -1) → vX0_forBestAlone_c5 E he be parts limit len row p1 p2 (postX0_forBestAlone T h fr mn p b w E he be parts limit len row p1 p2) n x3 (x4 + (1 : Int32)) := fun hno => sX0_forBestAlone_1 T h fr mn p b w E he be parts limit len row p1 p2 H n (i + 1) _ _ (by rw [tlN, if_neg hno]; exact h3) h4s (by omega) (by omega)
      refine ⟨T, p, ⟨hn5, hL, hR, h1, hp⟩, fun r hr => ?_⟩
      have hr : r = if chB T p (((E 5) + x4) - (be p)).toInt then 1 else 0 := hr
      rw [e1] at hr
      rw [(al_1 T h fr p b i hh.2 r (he i) hh.1 hr).1]
      refine ⟨fun hq => no (fun z => hq z.1), fun hq => ⟨q_in h4 (by omega), T, p, ⟨hn5, hL, hR, h1, hp⟩, fun r2 hr2 => ?_⟩⟩
      have hr2 : r2 = if chB T p (((E 5) + x4) - p2).toInt then 1 else 0 := hr2
      rw [e2] at hr2
      rw [(al_1 T h fr p w i hh.2 r2 (he i) hh.1 hr2).2]
      refine ⟨fun hq2 => no (fun z => hq2 z.2), fun hq2 => sX0_forBestAlone_1 T h fr mn p b w E he be parts limit len row p1 p2 H n (i + 1) _ _ ?_ h4s (by omega) (by omega)⟩
      rw [tlN, if_pos ⟨hq, hq2⟩]; exact q_1 h3 (by omega)
theorem sX0_forBestAlone (T : Cd) (h : Nat → Nat) (fr mn p b w : Nat) (E he be : Nat → Int32) (parts limit : Int32) (len row : Nat → Int32) (p1 p2 : Int32) (H : preX0_forBestAlone T h fr mn p b w E he be parts limit len row p1 p2) : vX0_forBestAlone E he be parts limit len row p1 p2 (postX0_forBestAlone T h fr mn p b w E he be parts limit len row p1 p2) :=
  ⟨mn + 1, sX0_forBestAlone_1 T h fr mn p b w E he be parts limit len row p1 p2 H (mn + 1) 0 0 0 rfl rfl (by omega) (by omega)⟩
set_option maxRecDepth 20000 in
theorem ggX0_fewestTurns_X0_bestMatch : GoodIn wsX0_fewestTurns wsX0_bestMatch := goodIn_r _ [9, 3, 4, 27, 28, 29, 30, 31, 32, 33, 34, 35, 36, 37, 38] (by decide +kernel) (by decide +kernel)
set_option maxRecDepth 20000 in
theorem gX0_fewestTurns_X0_bestMatch : GoodIn wsX0_fewestTurns (wsV RX0 133 RX0 yX0_bestMatch wsX0_bestMatch) := goodIn_app (goodIn_of _ (by decide +kernel)) ggX0_fewestTurns_X0_bestMatch
set_option maxRecDepth 20000 in
theorem ggX0_fewestTurns_X0_forBestAlone : GoodIn wsX0_fewestTurns wsX0_forBestAlone := goodIn_r _ [13, 14, 15, 16, 1, 4, 17, 18, 19, 20, 21, 22, 23, 24, 25, 26, 27, 28, 29, 30, 31, 32, 33, 34, 35, 36, 37, 38, 39, 40, 41, 42, 43, 44] (by decide +kernel) (by decide +kernel)
set_option maxRecDepth 20000 in
theorem gX0_fewestTurns_X0_forBestAlone : GoodIn wsX0_fewestTurns (wsV RX0 136 RX0 yX0_forBestAlone wsX0_forBestAlone) := goodIn_app (goodIn_of _ (by decide +kernel)) ggX0_fewestTurns_X0_forBestAlone
theorem dX0_fewestTurns_0 : decode cX0_fewestTurns 0 = .ok (.iconst (-1), 1) := by decide +kernel
theorem dX0_fewestTurns_1 : decode cX0_fewestTurns 1 = .ok (.istore_n 2, 1) := by decide +kernel
theorem dX0_fewestTurns_2 : decode cX0_fewestTurns 2 = .ok (.iconst 0, 1) := by decide +kernel
theorem dX0_fewestTurns_3 : decode cX0_fewestTurns 3 = .ok (.istore_n 3, 1) := by decide +kernel
theorem dX0_fewestTurns_4 : decode cX0_fewestTurns 4 = .ok (.iload_n 3, 1) := by decide +kernel
theorem dX0_fewestTurns_5 : decode cX0_fewestTurns 5 = .ok (.aload_n 0, 1) := by decide +kernel
theorem dX0_fewestTurns_6 : decode cX0_fewestTurns 6 = .ok (.getfield 26, 3) := by decide +kernel
theorem dX0_fewestTurns_9 : decode cX0_fewestTurns 9 = .ok (.getfield 107, 3) := by decide +kernel
theorem dX0_fewestTurns_12 : decode cX0_fewestTurns 12 = .ok (.iload_n 1, 1) := by decide +kernel
theorem dX0_fewestTurns_13 : decode cX0_fewestTurns 13 = .ok (.iaload, 1) := by decide +kernel
theorem dX0_fewestTurns_14 : decode cX0_fewestTurns 14 = .ok (.if_icmp .ge 99, 3) := by decide +kernel
theorem dX0_fewestTurns_17 : decode cX0_fewestTurns 17 = .ok (.aload_n 0, 1) := by decide +kernel
theorem dX0_fewestTurns_18 : decode cX0_fewestTurns 18 = .ok (.iload_n 1, 1) := by decide +kernel
theorem dX0_fewestTurns_19 : decode cX0_fewestTurns 19 = .ok (.invokevirtual 133, 3) := by decide +kernel
theorem dX0_fewestTurns_22 : decode cX0_fewestTurns 22 = .ok (.aload_n 0, 1) := by decide +kernel
theorem dX0_fewestTurns_23 : decode cX0_fewestTurns 23 = .ok (.getfield 17, 3) := by decide +kernel
theorem dX0_fewestTurns_26 : decode cX0_fewestTurns 26 = .ok (.iload_n 1, 1) := by decide +kernel
theorem dX0_fewestTurns_27 : decode cX0_fewestTurns 27 = .ok (.aaload, 1) := by decide +kernel
theorem dX0_fewestTurns_28 : decode cX0_fewestTurns 28 = .ok (.iload_n 3, 1) := by decide +kernel
theorem dX0_fewestTurns_29 : decode cX0_fewestTurns 29 = .ok (.iaload, 1) := by decide +kernel
theorem dX0_fewestTurns_30 : decode cX0_fewestTurns 30 = .ok (.isub, 1) := by decide +kernel
theorem dX0_fewestTurns_31 : decode cX0_fewestTurns 31 = .ok (.istore 4, 2) := by decide +kernel
theorem dX0_fewestTurns_33 : decode cX0_fewestTurns 33 = .ok (.iload_n 3, 1) := by decide +kernel
theorem dX0_fewestTurns_34 : decode cX0_fewestTurns 34 = .ok (.aload_n 0, 1) := by decide +kernel
theorem dX0_fewestTurns_35 : decode cX0_fewestTurns 35 = .ok (.getfield 20, 3) := by decide +kernel
theorem dX0_fewestTurns_38 : decode cX0_fewestTurns 38 = .ok (.iload_n 1, 1) := by decide +kernel
theorem dX0_fewestTurns_39 : decode cX0_fewestTurns 39 = .ok (.iaload, 1) := by decide +kernel
theorem dX0_fewestTurns_40 : decode cX0_fewestTurns 40 = .ok (.if_icmp .ge 12, 3) := by decide +kernel
theorem dX0_fewestTurns_43 : decode cX0_fewestTurns 43 = .ok (.iload 4, 2) := by decide +kernel
theorem dX0_fewestTurns_45 : decode cX0_fewestTurns 45 = .ok (.iconst 3, 1) := by decide +kernel
theorem dX0_fewestTurns_46 : decode cX0_fewestTurns 46 = .ok (.iadd, 1) := by decide +kernel
theorem dX0_fewestTurns_47 : decode cX0_fewestTurns 47 = .ok (.iconst 4, 1) := by decide +kernel
theorem dX0_fewestTurns_48 : decode cX0_fewestTurns 48 = .ok (.idiv, 1) := by decide +kernel
theorem dX0_fewestTurns_49 : decode cX0_fewestTurns 49 = .ok (.goto 9, 3) := by decide +kernel
theorem dX0_fewestTurns_52 : decode cX0_fewestTurns 52 = .ok (.iload 4, 2) := by decide +kernel
theorem dX0_fewestTurns_54 : decode cX0_fewestTurns 54 = .ok (.iconst 4, 1) := by decide +kernel
theorem dX0_fewestTurns_55 : decode cX0_fewestTurns 55 = .ok (.idiv, 1) := by decide +kernel
theorem dX0_fewestTurns_56 : decode cX0_fewestTurns 56 = .ok (.iconst 1, 1) := by decide +kernel
theorem dX0_fewestTurns_57 : decode cX0_fewestTurns 57 = .ok (.iadd, 1) := by decide +kernel
theorem dX0_fewestTurns_58 : decode cX0_fewestTurns 58 = .ok (.istore 5, 2) := by decide +kernel
theorem dX0_fewestTurns_60 : decode cX0_fewestTurns 60 = .ok (.iload_n 2, 1) := by decide +kernel
theorem dX0_fewestTurns_61 : decode cX0_fewestTurns 61 = .ok (.iconst (-1), 1) := by decide +kernel
theorem dX0_fewestTurns_62 : decode cX0_fewestTurns 62 = .ok (.if_icmp .eq 9, 3) := by decide +kernel
theorem dX0_fewestTurns_65 : decode cX0_fewestTurns 65 = .ok (.iload 5, 2) := by decide +kernel
theorem dX0_fewestTurns_67 : decode cX0_fewestTurns 67 = .ok (.iload_n 2, 1) := by decide +kernel
theorem dX0_fewestTurns_68 : decode cX0_fewestTurns 68 = .ok (.if_icmp .ge 7, 3) := by decide +kernel
theorem dX0_fewestTurns_71 : decode cX0_fewestTurns 71 = .ok (.iconst 1, 1) := by decide +kernel
theorem dX0_fewestTurns_72 : decode cX0_fewestTurns 72 = .ok (.goto 4, 3) := by decide +kernel
theorem dX0_fewestTurns_75 : decode cX0_fewestTurns 75 = .ok (.iconst 0, 1) := by decide +kernel
theorem dX0_fewestTurns_76 : decode cX0_fewestTurns 76 = .ok (.istore 6, 2) := by decide +kernel
theorem dX0_fewestTurns_78 : decode cX0_fewestTurns 78 = .ok (.iload_n 3, 1) := by decide +kernel
theorem dX0_fewestTurns_79 : decode cX0_fewestTurns 79 = .ok (.aload_n 0, 1) := by decide +kernel
theorem dX0_fewestTurns_80 : decode cX0_fewestTurns 80 = .ok (.getfield 20, 3) := by decide +kernel
theorem dX0_fewestTurns_83 : decode cX0_fewestTurns 83 = .ok (.iload_n 1, 1) := by decide +kernel
theorem dX0_fewestTurns_84 : decode cX0_fewestTurns 84 = .ok (.iaload, 1) := by decide +kernel
theorem dX0_fewestTurns_85 : decode cX0_fewestTurns 85 = .ok (.if_icmp .eq 22, 3) := by decide +kernel
theorem dX0_fewestTurns_88 : decode cX0_fewestTurns 88 = .ok (.iload 6, 2) := by decide +kernel
theorem dX0_fewestTurns_90 : decode cX0_fewestTurns 90 = .ok (.ifCond .eq 17, 3) := by decide +kernel
theorem dX0_fewestTurns_93 : decode cX0_fewestTurns 93 = .ok (.iload 5, 2) := by decide +kernel
theorem dX0_fewestTurns_95 : decode cX0_fewestTurns 95 = .ok (.aload_n 0, 1) := by decide +kernel
theorem dX0_fewestTurns_96 : decode cX0_fewestTurns 96 = .ok (.iload_n 1, 1) := by decide +kernel
theorem dX0_fewestTurns_97 : decode cX0_fewestTurns 97 = .ok (.iload_n 3, 1) := by decide +kernel
theorem dX0_fewestTurns_98 : decode cX0_fewestTurns 98 = .ok (.invokevirtual 136, 3) := by decide +kernel
theorem dX0_fewestTurns_101 : decode cX0_fewestTurns 101 = .ok (.if_icmp .gt 6, 3) := by decide +kernel
theorem dX0_fewestTurns_104 : decode cX0_fewestTurns 104 = .ok (.iload 5, 2) := by decide +kernel
theorem dX0_fewestTurns_106 : decode cX0_fewestTurns 106 = .ok (.istore_n 2, 1) := by decide +kernel
theorem dX0_fewestTurns_107 : decode cX0_fewestTurns 107 = .ok (.iinc 3 1, 3) := by decide +kernel
theorem dX0_fewestTurns_110 : decode cX0_fewestTurns 110 = .ok (.goto (-106), 3) := by decide +kernel
theorem dX0_fewestTurns_113 : decode cX0_fewestTurns 113 = .ok (.iload_n 2, 1) := by decide +kernel
theorem dX0_fewestTurns_114 : decode cX0_fewestTurns 114 = .ok (.ireturn, 1) := by decide +kernel
abbrev rmX0_fewestTurns : Room := { frames := 3, cells := 0, slots := 0, locals := 69 }
theorem inX0_fewestTurns_0 : ∀ w ∈ wsX00, w ∈ wsX0_fewestTurns := by decide +kernel
theorem inX0_fewestTurns_7 : ∀ w ∈ wsX70, w ∈ wsX0_fewestTurns := by decide +kernel
def vX0_fewestTurns_c76 (E : Nat → Int32) (he : Nat → Int32) (M : Nat → Nat → Int32) (be : Nat → Int32) (parts : Int32) (limit : Int32) (len : Nat → Int32) (row : Nat → Int32) (p1 : Int32) (Q : Int32 → Prop) (K4 : Int32 → Int32 → Prop) (x2 : Int32) (x3 : Int32) (x5 : Int32) (s0 : Int32) : Prop := (vp_in p1 5 ∧ ((x3 = (be p1.toNatClampNeg) → (K4 x2 (x3 + (1 : Int32)))) ∧ (¬ x3 = (be p1.toNatClampNeg) → ((s0 = 0 → (K4 x2 (x3 + (1 : Int32)))) ∧ (¬ s0 = 0 → (∃ (T_98 : Cd) (h_98 : Nat → Nat) (fr_98 : Nat) (mn_98 : Nat) (p_98 : Nat) (b_98 : Nat) (w_98 : Nat), preX0_forBestAlone T_98 h_98 fr_98 mn_98 p_98 b_98 w_98 E he be parts limit len row p1 x3 ∧ (∀ r_98 : Int32, postX0_forBestAlone T_98 h_98 fr_98 mn_98 p_98 b_98 w_98 E he be parts limit len row p1 x3 r_98 → ((r_98 < x5 → (K4 x2 (x3 + (1 : Int32)))) ∧ (¬ r_98 < x5 → (K4 x5 (x3 + (1 : Int32))))))))))))
set_option maxHeartbeats 4000000 in
set_option maxRecDepth 100000 in
theorem kX0_fewestTurns_c76 {p : Program} {l : Launch} {e : Env} {s : State} {m : MethodId} {args : Array Value} {below : List Frame} {meth : Method} {c : Code} {g : GP} {qe : Nat} {qt : Nat} {qh : Nat} {qm : Nat} {qb : Nat} {qx : Nat} {ql : Nat} {qr : Nat} {qv : Nat} {qg : Nat} {aM : Nat → Nat} {E : Nat → Int32} {he : Nat → Int32} {M : Nat → Nat → Int32} {be : Nat → Int32} {parts : Int32} {limit : Int32} {len : Nat → Int32} {row : Nat → Int32} {p1 : Int32} {Q : Int32 → Prop} {K4 : Int32 → Int32 → Prop} (S : CallFix p m c cX0_fewestTurns 7 s args wsX0_fewestTurns RX0) (hr : meth.sig.returnType = (some .int)) (hlocks : meth.locks = false) (hG : GK g s) (hP : va_P g.1 vwCl [(qe, .inr (0, [.ref qt, .ref qh, .ref qm, .ref qb, .ref qx, .int (E 5), .int (E 6), .int (E 7), .int (E 8), .int (E 9), .int (E 10), .int (E 11)])), (qh, .inl (g.2 0, 200, .inl he)), (qm, .inl (g.2 6, 5, .inr (.inr (.inr (.inr (rwM aM)))))), ((aM 0), .inl (g.2 0, 13, .inl (M 0))), ((aM 1), .inl (g.2 0, 13, .inl (M 1))), ((aM 2), .inl (g.2 0, 13, .inl (M 2))), ((aM 3), .inl (g.2 0, 13, .inl (M 3))), ((aM 4), .inl (g.2 0, 13, .inl (M 4))), (qb, .inl (g.2 0, 5, .inl be)), (qt, .inr (7, [.ref ql, .ref qr, .ref qv, .ref qg, .int parts, .int limit])), (ql, .inl (g.2 0, 5, .inl len)), (qr, .inl (g.2 0, 5, .inl row))] s.heap) (kk4 : ∀ (x2 : Int32) (x3 : Int32), K4 x2 x3 → ∀ (ls : Array Slot), lv_has ls 7 [(0, .ref qe), (1, .int p1), (2, .int x2), (3, .int x3)] → W p l e (headSpec wsX0_fewestTurns rmX0_fewestTurns).room s m args below meth c s.heap [] 0 0 (MQ below (vp_Si Q) args s 0 0 (fun _ => False)) (F0 m 4 ls [])) : ∀ (x2 : Int32) (x3 : Int32) (x5 : Int32) (s0 : Int32), vX0_fewestTurns_c76 E he M be parts limit len row p1 Q K4 x2 x3 x5 s0 → ∀ (ls : Array Slot), lv_has ls 7 [(0, .ref qe), (1, .int p1), (2, .int x2), (3, .int x3), (5, .int x5)] → W p l e (headSpec wsX0_fewestTurns rmX0_fewestTurns).room s m args below meth c s.heap [] 0 0 (MQ below (vp_Si Q) args s 0 0 (fun _ => False)) (F0 m 76 ls [.int s0]) := by
  obtain ⟨hx, hb, hml, hown, hts⟩ := id S
  have hK := hG.1
  intro x2 x3 x5 s0 hv ls hl
  unfold vX0_fewestTurns_c76 at hv
  refine lv_istore (lv' := [(6, .int s0), (0, .ref qe), (1, .int p1), (2, .int x2), (3, .int x3), (5, .int x5)]) hx hb dX0_fewestTurns_76 hl (by decide) rfl (fun ls hl => ?_)
  refine lv_iload_n hx hb dX0_fewestTurns_78 rfl (lv_at hl 4 rfl) ?_
  refine lv_aload_n hx hb dX0_fewestTurns_79 rfl (lv_at hl 1 rfl) ?_
  refine va_get (D := g.1) (ci := 0) (v := .ref qb) (C := RX0) (T := TX0) (N := 12) hx hb hts inX0_fewestTurns_0 hown hK hP 0 rfl rfl 3 (by decide) (hts (.fieldLink RX0 20 "RangeCodes$Ear" "bests" "[I") (List.mem_of_getElem? (i := 4) rfl)) (fun _ h9 => h9) rfl dX0_fewestTurns_80 ?_
  refine lv_iload_n hx hb dX0_fewestTurns_83 rfl (lv_at hl 2 rfl) ?_
  obtain ⟨ho_1, hv⟩ := hv
  refine va_iald hx hb hK hP 8 0 rfl rfl ho_1 dX0_fewestTurns_84 ?_
  obtain ⟨hvt, hvf⟩ := hv
  refine lv_icmp_eq (tgt := 107) hx hb dX0_fewestTurns_85 (by decide) (fun hc => ?_) (fun hc => ?_)
  · have hv := hvt hc
    refine lv_iinc (v := (x3 + (1 : Int32))) (lv' := [(3, .int (x3 + (1 : Int32))), (6, .int s0), (0, .ref qe), (1, .int p1), (2, .int x2), (5, .int x5)]) hx hb dX0_fewestTurns_107 hl (k := 4) rfl rfl (by decide) rfl (fun ls hl => ?_)
    refine lv_goto (tgt := 4) hx hb dX0_fewestTurns_110 (by decide) ?_
    exact kk4 _ _ hv ls (lv_sub hl [2, 3, 4, 0] rfl)
  · have hv := hvf hc
    refine lv_iload hx hb dX0_fewestTurns_88 (lv_at hl 0 rfl) ?_
    obtain ⟨hvt, hvf⟩ := hv
    refine lv_if_eq (tgt := 107) hx hb dX0_fewestTurns_90 (by decide) (fun hc => ?_) (fun hc => ?_)
    · have hv := hvt hc
      refine lv_iinc (v := (x3 + (1 : Int32))) (lv' := [(3, .int (x3 + (1 : Int32))), (6, .int s0), (0, .ref qe), (1, .int p1), (2, .int x2), (5, .int x5)]) hx hb dX0_fewestTurns_107 hl (k := 4) rfl rfl (by decide) rfl (fun ls hl => ?_)
      refine lv_goto (tgt := 4) hx hb dX0_fewestTurns_110 (by decide) ?_
      exact kk4 _ _ hv ls (lv_sub hl [2, 3, 4, 0] rfl)
    · have hv := hvf hc
      refine lv_iload hx hb dX0_fewestTurns_93 (lv_at hl 5 rfl) ?_
      refine lv_aload_n hx hb dX0_fewestTurns_95 rfl (lv_at hl 1 rfl) ?_
      refine lv_iload_n hx hb dX0_fewestTurns_96 rfl (lv_at hl 2 rfl) ?_
      refine lv_iload_n hx hb dX0_fewestTurns_97 rfl (lv_at hl 4 rfl) ?_
      obtain ⟨T_98, h_98, fr_98, mn_98, p_98, b_98, w_98, ho_2, hv⟩ := hv
      refine vp_callSi (W.runV (As := [.int p1, .int x3]) (rest := [.int x5]) S (wX0_forBestAlone l g qe qt qh qm qb qx ql qr qv qg E he be parts limit len row p1 x3 (sX0_forBestAlone T_98 h_98 fr_98 mn_98 p_98 b_98 w_98 E he be parts limit len row p1 x3 ho_2)) (cwV 2 hts gX0_fewestTurns_X0_forBestAlone rfl rfl rfl (by decide +kernel) ⟨Nat.le_of_ble_eq_true rfl, Nat.le_of_ble_eq_true rfl⟩) ⟨blindRO, va_recv hK hP (ci := 0) (q0 := 0) rfl rfl, fun U hU hW => ⟨rfl, by rw [hU]; exact hP.sub (ws' := [(qe, .inr (0, [.ref qt, .ref qh, .ref qm, .ref qb, .ref qx, .int (E 5), .int (E 6), .int (E 7), .int (E 8), .int (E 9), .int (E 10), .int (E 11)])), (qh, .inl (g.2 0, 200, .inl he)), (qb, .inl (g.2 0, 5, .inl be)), (qt, .inr (7, [.ref ql, .ref qr, .ref qv, .ref qg, .int parts, .int limit])), (ql, .inl (g.2 0, 5, .inl len)), (qr, .inl (g.2 0, 5, .inl row))]) [0, 1, 8, 9, 10, 11] rfl, hG.warm hW⟩⟩ rfl rfl hl.1 rfl (lv_room (Nat.le_of_ble_eq_true rfl)) dX0_fewestTurns_98 ⟨Nat.le_of_ble_eq_true rfl, Nat.le_of_ble_eq_true rfl⟩) (fun r_98 hr_98 => ?_)
      have hv := hv r_98 hr_98
      obtain ⟨hvt, hvf⟩ := hv
      refine lv_icmp_gt (tgt := 107) hx hb dX0_fewestTurns_101 (by decide) (fun hc => ?_) (fun hc => ?_)
      · have hv := hvt hc
        refine lv_iinc (v := (x3 + (1 : Int32))) (lv' := [(3, .int (x3 + (1 : Int32))), (6, .int s0), (0, .ref qe), (1, .int p1), (2, .int x2), (5, .int x5)]) hx hb dX0_fewestTurns_107 hl (k := 4) rfl rfl (by decide) rfl (fun ls hl => ?_)
        refine lv_goto (tgt := 4) hx hb dX0_fewestTurns_110 (by decide) ?_
        exact kk4 _ _ hv ls (lv_sub hl [2, 3, 4, 0] rfl)
      · have hv := hvf hc
        refine lv_iload hx hb dX0_fewestTurns_104 (lv_at hl 5 rfl) ?_
        refine lv_istore_n (lv' := [(2, .int x5), (6, .int s0), (0, .ref qe), (1, .int p1), (3, .int x3), (5, .int x5)]) hx hb dX0_fewestTurns_106 rfl hl (by decide) rfl (fun ls hl => ?_)
        refine lv_iinc (v := (x3 + (1 : Int32))) (lv' := [(3, .int (x3 + (1 : Int32))), (2, .int x5), (6, .int s0), (0, .ref qe), (1, .int p1), (5, .int x5)]) hx hb dX0_fewestTurns_107 hl (k := 4) rfl rfl (by decide) rfl (fun ls hl => ?_)
        refine lv_goto (tgt := 4) hx hb dX0_fewestTurns_110 (by decide) ?_
        exact kk4 _ _ hv ls (lv_sub hl [3, 4, 1, 0] rfl)
def vX0_fewestTurns_c71 (E : Nat → Int32) (he : Nat → Int32) (M : Nat → Nat → Int32) (be : Nat → Int32) (parts : Int32) (limit : Int32) (len : Nat → Int32) (row : Nat → Int32) (p1 : Int32) (Q : Int32 → Prop) (K4 : Int32 → Int32 → Prop) (x2 : Int32) (x3 : Int32) (x5 : Int32) : Prop := (vX0_fewestTurns_c76 E he M be parts limit len row p1 Q K4 x2 x3 x5 (1 : Int32))
set_option maxHeartbeats 4000000 in
set_option maxRecDepth 100000 in
theorem kX0_fewestTurns_c71 {p : Program} {l : Launch} {e : Env} {s : State} {m : MethodId} {args : Array Value} {below : List Frame} {meth : Method} {c : Code} {g : GP} {qe : Nat} {qt : Nat} {qh : Nat} {qm : Nat} {qb : Nat} {qx : Nat} {ql : Nat} {qr : Nat} {qv : Nat} {qg : Nat} {aM : Nat → Nat} {E : Nat → Int32} {he : Nat → Int32} {M : Nat → Nat → Int32} {be : Nat → Int32} {parts : Int32} {limit : Int32} {len : Nat → Int32} {row : Nat → Int32} {p1 : Int32} {Q : Int32 → Prop} {K4 : Int32 → Int32 → Prop} (S : CallFix p m c cX0_fewestTurns 7 s args wsX0_fewestTurns RX0) (hr : meth.sig.returnType = (some .int)) (hlocks : meth.locks = false) (hG : GK g s) (hP : va_P g.1 vwCl [(qe, .inr (0, [.ref qt, .ref qh, .ref qm, .ref qb, .ref qx, .int (E 5), .int (E 6), .int (E 7), .int (E 8), .int (E 9), .int (E 10), .int (E 11)])), (qh, .inl (g.2 0, 200, .inl he)), (qm, .inl (g.2 6, 5, .inr (.inr (.inr (.inr (rwM aM)))))), ((aM 0), .inl (g.2 0, 13, .inl (M 0))), ((aM 1), .inl (g.2 0, 13, .inl (M 1))), ((aM 2), .inl (g.2 0, 13, .inl (M 2))), ((aM 3), .inl (g.2 0, 13, .inl (M 3))), ((aM 4), .inl (g.2 0, 13, .inl (M 4))), (qb, .inl (g.2 0, 5, .inl be)), (qt, .inr (7, [.ref ql, .ref qr, .ref qv, .ref qg, .int parts, .int limit])), (ql, .inl (g.2 0, 5, .inl len)), (qr, .inl (g.2 0, 5, .inl row))] s.heap) (kk4 : ∀ (x2 : Int32) (x3 : Int32), K4 x2 x3 → ∀ (ls : Array Slot), lv_has ls 7 [(0, .ref qe), (1, .int p1), (2, .int x2), (3, .int x3)] → W p l e (headSpec wsX0_fewestTurns rmX0_fewestTurns).room s m args below meth c s.heap [] 0 0 (MQ below (vp_Si Q) args s 0 0 (fun _ => False)) (F0 m 4 ls [])) : ∀ (x2 : Int32) (x3 : Int32) (x5 : Int32), vX0_fewestTurns_c71 E he M be parts limit len row p1 Q K4 x2 x3 x5 → ∀ (ls : Array Slot), lv_has ls 7 [(0, .ref qe), (1, .int p1), (2, .int x2), (3, .int x3), (5, .int x5)] → W p l e (headSpec wsX0_fewestTurns rmX0_fewestTurns).room s m args below meth c s.heap [] 0 0 (MQ below (vp_Si Q) args s 0 0 (fun _ => False)) (F0 m 71 ls []) := by
  obtain ⟨hx, hb, hml, hown, hts⟩ := id S
  have hK := hG.1
  intro x2 x3 x5 hv ls hl
  unfold vX0_fewestTurns_c71 at hv
  refine lv_iconst (v := (1 : Int32)) hx hb dX0_fewestTurns_71 (by decide) ?_
  refine lv_goto (tgt := 76) hx hb dX0_fewestTurns_72 (by decide) ?_
  exact kX0_fewestTurns_c76 S hr hlocks hG hP kk4 _ _ _ _ hv ls (lv_sub hl [0, 1, 2, 3, 4] rfl)
def vX0_fewestTurns_c58 (E : Nat → Int32) (he : Nat → Int32) (M : Nat → Nat → Int32) (be : Nat → Int32) (parts : Int32) (limit : Int32) (len : Nat → Int32) (row : Nat → Int32) (p1 : Int32) (Q : Int32 → Prop) (K4 : Int32 → Int32 → Prop) (x2 : Int32) (x3 : Int32) (s0 : Int32) : Prop := ((x2 = (-1 : Int32) → (vX0_fewestTurns_c71 E he M be parts limit len row p1 Q K4 x2 x3 s0)) ∧ (¬ x2 = (-1 : Int32) → ((x2 ≤ s0 → (vX0_fewestTurns_c76 E he M be parts limit len row p1 Q K4 x2 x3 s0 (0 : Int32))) ∧ (¬ x2 ≤ s0 → (vX0_fewestTurns_c71 E he M be parts limit len row p1 Q K4 x2 x3 s0)))))
set_option maxHeartbeats 4000000 in
set_option maxRecDepth 100000 in
theorem kX0_fewestTurns_c58 {p : Program} {l : Launch} {e : Env} {s : State} {m : MethodId} {args : Array Value} {below : List Frame} {meth : Method} {c : Code} {g : GP} {qe : Nat} {qt : Nat} {qh : Nat} {qm : Nat} {qb : Nat} {qx : Nat} {ql : Nat} {qr : Nat} {qv : Nat} {qg : Nat} {aM : Nat → Nat} {E : Nat → Int32} {he : Nat → Int32} {M : Nat → Nat → Int32} {be : Nat → Int32} {parts : Int32} {limit : Int32} {len : Nat → Int32} {row : Nat → Int32} {p1 : Int32} {Q : Int32 → Prop} {K4 : Int32 → Int32 → Prop} (S : CallFix p m c cX0_fewestTurns 7 s args wsX0_fewestTurns RX0) (hr : meth.sig.returnType = (some .int)) (hlocks : meth.locks = false) (hG : GK g s) (hP : va_P g.1 vwCl [(qe, .inr (0, [.ref qt, .ref qh, .ref qm, .ref qb, .ref qx, .int (E 5), .int (E 6), .int (E 7), .int (E 8), .int (E 9), .int (E 10), .int (E 11)])), (qh, .inl (g.2 0, 200, .inl he)), (qm, .inl (g.2 6, 5, .inr (.inr (.inr (.inr (rwM aM)))))), ((aM 0), .inl (g.2 0, 13, .inl (M 0))), ((aM 1), .inl (g.2 0, 13, .inl (M 1))), ((aM 2), .inl (g.2 0, 13, .inl (M 2))), ((aM 3), .inl (g.2 0, 13, .inl (M 3))), ((aM 4), .inl (g.2 0, 13, .inl (M 4))), (qb, .inl (g.2 0, 5, .inl be)), (qt, .inr (7, [.ref ql, .ref qr, .ref qv, .ref qg, .int parts, .int limit])), (ql, .inl (g.2 0, 5, .inl len)), (qr, .inl (g.2 0, 5, .inl row))] s.heap) (kk4 : ∀ (x2 : Int32) (x3 : Int32), K4 x2 x3 → ∀ (ls : Array Slot), lv_has ls 7 [(0, .ref qe), (1, .int p1), (2, .int x2), (3, .int x3)] → W p l e (headSpec wsX0_fewestTurns rmX0_fewestTurns).room s m args below meth c s.heap [] 0 0 (MQ below (vp_Si Q) args s 0 0 (fun _ => False)) (F0 m 4 ls [])) : ∀ (x2 : Int32) (x3 : Int32) (s0 : Int32), vX0_fewestTurns_c58 E he M be parts limit len row p1 Q K4 x2 x3 s0 → ∀ (ls : Array Slot), lv_has ls 7 [(0, .ref qe), (1, .int p1), (2, .int x2), (3, .int x3)] → W p l e (headSpec wsX0_fewestTurns rmX0_fewestTurns).room s m args below meth c s.heap [] 0 0 (MQ below (vp_Si Q) args s 0 0 (fun _ => False)) (F0 m 58 ls [.int s0]) := by
  obtain ⟨hx, hb, hml, hown, hts⟩ := id S
  have hK := hG.1
  intro x2 x3 s0 hv ls hl
  unfold vX0_fewestTurns_c58 at hv
  refine lv_istore (lv' := [(5, .int s0), (0, .ref qe), (1, .int p1), (2, .int x2), (3, .int x3)]) hx hb dX0_fewestTurns_58 hl (by decide) rfl (fun ls hl => ?_)
  refine lv_iload_n hx hb dX0_fewestTurns_60 rfl (lv_at hl 3 rfl) ?_
  refine lv_iconst (v := (-1 : Int32)) hx hb dX0_fewestTurns_61 (by decide) ?_
  obtain ⟨hvt, hvf⟩ := hv
  refine lv_icmp_eq (tgt := 71) hx hb dX0_fewestTurns_62 (by decide) (fun hc => ?_) (fun hc => ?_)
  · have hv := hvt hc
    exact kX0_fewestTurns_c71 S hr hlocks hG hP kk4 _ _ _ hv ls (lv_sub hl [1, 2, 3, 4, 0] rfl)
  · have hv := hvf hc
    refine lv_iload hx hb dX0_fewestTurns_65 (lv_at hl 0 rfl) ?_
    refine lv_iload_n hx hb dX0_fewestTurns_67 rfl (lv_at hl 3 rfl) ?_
    obtain ⟨hvt, hvf⟩ := hv
    refine lv_icmp_ge (tgt := 75) hx hb dX0_fewestTurns_68 (by decide) (fun hc => ?_) (fun hc => ?_)
    · have hv := hvt hc
      refine lv_iconst (v := (0 : Int32)) hx hb dX0_fewestTurns_75 (by decide) ?_
      exact kX0_fewestTurns_c76 S hr hlocks hG hP kk4 _ _ _ _ hv ls (lv_sub hl [1, 2, 3, 4, 0] rfl)
    · have hv := hvf hc
      exact kX0_fewestTurns_c71 S hr hlocks hG hP kk4 _ _ _ hv ls (lv_sub hl [1, 2, 3, 4, 0] rfl)
def vX0_fewestTurns_c4 (E : Nat → Int32) (he : Nat → Int32) (M : Nat → Nat → Int32) (be : Nat → Int32) (parts : Int32) (limit : Int32) (len : Nat → Int32) (row : Nat → Int32) (p1 : Int32) (Q : Int32 → Prop) : Nat → Int32 → Int32 → Prop
  | 0, _, _ => False
  | n + 1, x2, x3 => (vp_in p1 5 ∧ (((len p1.toNatClampNeg) ≤ x3 → (Q x2)) ∧ (¬ (len p1.toNatClampNeg) ≤ x3 → (∃ (m_19 : Nat → Nat → Int) (p_19 : Nat) (b_19 : Nat), preX0_bestMatch m_19 p_19 b_19 E M be p1 ∧ (∀ r_19 : Int32, postX0_bestMatch m_19 p_19 b_19 E M be p1 r_19 → (vp_in p1 5 ∧ (∀ j_27 : Nat, j_27 < 5 → p1 = nI j_27 → (vp_in x3 13 ∧ (∀ y_31 : Int32, y_31 = (r_19 - (M j_27 x3.toNatClampNeg)) → (vp_in p1 5 ∧ (((be p1.toNatClampNeg) ≤ x3 → (vX0_fewestTurns_c58 E he M be parts limit len row p1 Q (vX0_fewestTurns_c4 E he M be parts limit len row p1 Q n) x2 x3 ((y_31 / (4 : Int32)) + (1 : Int32)))) ∧ (¬ (be p1.toNatClampNeg) ≤ x3 → (vX0_fewestTurns_c58 E he M be parts limit len row p1 Q (vX0_fewestTurns_c4 E he M be parts limit len row p1 Q n) x2 x3 ((y_31 + (3 : Int32)) / (4 : Int32)))))))))))))))
set_option maxHeartbeats 4000000 in
set_option maxRecDepth 100000 in
theorem kX0_fewestTurns_c4 {p : Program} {l : Launch} {e : Env} {s : State} {m : MethodId} {args : Array Value} {below : List Frame} {meth : Method} {c : Code} {g : GP} {qe : Nat} {qt : Nat} {qh : Nat} {qm : Nat} {qb : Nat} {qx : Nat} {ql : Nat} {qr : Nat} {qv : Nat} {qg : Nat} {aM : Nat → Nat} {E : Nat → Int32} {he : Nat → Int32} {M : Nat → Nat → Int32} {be : Nat → Int32} {parts : Int32} {limit : Int32} {len : Nat → Int32} {row : Nat → Int32} {p1 : Int32} {Q : Int32 → Prop} (S : CallFix p m c cX0_fewestTurns 7 s args wsX0_fewestTurns RX0) (hr : meth.sig.returnType = (some .int)) (hlocks : meth.locks = false) (hG : GK g s) (hP : va_P g.1 vwCl [(qe, .inr (0, [.ref qt, .ref qh, .ref qm, .ref qb, .ref qx, .int (E 5), .int (E 6), .int (E 7), .int (E 8), .int (E 9), .int (E 10), .int (E 11)])), (qh, .inl (g.2 0, 200, .inl he)), (qm, .inl (g.2 6, 5, .inr (.inr (.inr (.inr (rwM aM)))))), ((aM 0), .inl (g.2 0, 13, .inl (M 0))), ((aM 1), .inl (g.2 0, 13, .inl (M 1))), ((aM 2), .inl (g.2 0, 13, .inl (M 2))), ((aM 3), .inl (g.2 0, 13, .inl (M 3))), ((aM 4), .inl (g.2 0, 13, .inl (M 4))), (qb, .inl (g.2 0, 5, .inl be)), (qt, .inr (7, [.ref ql, .ref qr, .ref qv, .ref qg, .int parts, .int limit])), (ql, .inl (g.2 0, 5, .inl len)), (qr, .inl (g.2 0, 5, .inl row))] s.heap) : ∀ (n : Nat), ∀ (x2 : Int32) (x3 : Int32), vX0_fewestTurns_c4 E he M be parts limit len row p1 Q n x2 x3 → ∀ (ls : Array Slot), lv_has ls 7 [(0, .ref qe), (1, .int p1), (2, .int x2), (3, .int x3)] → W p l e (headSpec wsX0_fewestTurns rmX0_fewestTurns).room s m args below meth c s.heap [] 0 0 (MQ below (vp_Si Q) args s 0 0 (fun _ => False)) (F0 m 4 ls []) := by
  obtain ⟨hx, hb, hml, hown, hts⟩ := id S
  have hK := hG.1
  intro n
  induction n with
  | zero => intro x2 x3 hv; exact hv.elim
  | succ n ih =>
    intro x2 x3 hv ls hl
    refine lv_iload_n hx hb dX0_fewestTurns_4 rfl (lv_at hl 3 rfl) ?_
    refine lv_aload_n hx hb dX0_fewestTurns_5 rfl (lv_at hl 0 rfl) ?_
    refine va_get (D := g.1) (ci := 0) (v := .ref qt) (C := RX0) (T := TX0) (N := 12) hx hb hts inX0_fewestTurns_0 hown hK hP 0 rfl rfl 0 (by decide) (hts (.fieldLink RX0 26 "RangeCodes$Ear" "told" "LRangeCodes$Told;") (List.mem_of_getElem? (i := 1) rfl)) (fun _ h9 => h9) rfl dX0_fewestTurns_6 ?_
    refine va_get (D := g.1) (ci := 7) (v := .ref ql) (C := RX7) (T := TX7) (N := 6) hx hb hts inX0_fewestTurns_7 hown hK hP 9 rfl rfl 0 (by decide) (hts (.fieldLink RX0 107 "RangeCodes$Told" "lengths" "[I") (List.mem_of_getElem? (i := 2) rfl)) (fun _ h9 => h9) rfl dX0_fewestTurns_9 ?_
    refine lv_iload_n hx hb dX0_fewestTurns_12 rfl (lv_at hl 1 rfl) ?_
    obtain ⟨ho_1, hv⟩ := hv
    refine va_iald hx hb hK hP 10 0 rfl rfl ho_1 dX0_fewestTurns_13 ?_
    obtain ⟨hvt, hvf⟩ := hv
    refine lv_icmp_ge (tgt := 113) hx hb dX0_fewestTurns_14 (by decide) (fun hc => ?_) (fun hc => ?_)
    · have hv := hvt hc
      refine lv_iload_n hx hb dX0_fewestTurns_113 rfl (lv_at hl 2 rfl) ?_
      exact W.iret (v := x2) hx hb hr (fun t ht hW => ⟨_, rfl, hv, ht⟩) (fun _ h => by cases h) dX0_fewestTurns_114
    · have hv := hvf hc
      refine lv_aload_n hx hb dX0_fewestTurns_17 rfl (lv_at hl 0 rfl) ?_
      refine lv_iload_n hx hb dX0_fewestTurns_18 rfl (lv_at hl 1 rfl) ?_
      obtain ⟨m_19, p_19, b_19, ho_2, hv⟩ := hv
      refine vp_callSi (W.runV (As := [.int p1]) (rest := []) S (wX0_bestMatch l g qe qt qh qm qb qx aM E M be p1 (sX0_bestMatch m_19 p_19 b_19 E M be p1 ho_2)) (cwV 1 hts gX0_fewestTurns_X0_bestMatch rfl rfl rfl (by decide +kernel) ⟨Nat.le_of_ble_eq_true rfl, Nat.le_of_ble_eq_true rfl⟩) ⟨blindRO, va_recv hK hP (ci := 0) (q0 := 0) rfl rfl, fun U hU hW => ⟨rfl, by rw [hU]; exact hP.sub (ws' := [(qe, .inr (0, [.ref qt, .ref qh, .ref qm, .ref qb, .ref qx, .int (E 5), .int (E 6), .int (E 7), .int (E 8), .int (E 9), .int (E 10), .int (E 11)])), (qm, .inl (g.2 6, 5, .inr (.inr (.inr (.inr (rwM aM)))))), ((aM 0), .inl (g.2 0, 13, .inl (M 0))), ((aM 1), .inl (g.2 0, 13, .inl (M 1))), ((aM 2), .inl (g.2 0, 13, .inl (M 2))), ((aM 3), .inl (g.2 0, 13, .inl (M 3))), ((aM 4), .inl (g.2 0, 13, .inl (M 4))), (qb, .inl (g.2 0, 5, .inl be))]) [0, 2, 3, 4, 5, 6, 7, 8] rfl, hG.warm hW⟩⟩ rfl rfl hl.1 rfl (lv_room (Nat.le_of_ble_eq_true rfl)) dX0_fewestTurns_19 ⟨Nat.le_of_ble_eq_true rfl, Nat.le_of_ble_eq_true rfl⟩) (fun r_19 hr_19 => ?_)
      have hv := hv r_19 hr_19
      refine lv_aload_n hx hb dX0_fewestTurns_22 rfl (lv_at hl 0 rfl) ?_
      refine va_get (D := g.1) (ci := 0) (v := .ref qm) (C := RX0) (T := TX0) (N := 12) hx hb hts inX0_fewestTurns_0 hown hK hP 0 rfl rfl 2 (by decide) (hts (.fieldLink RX0 17 "RangeCodes$Ear" "matches" "[[I") (List.mem_of_getElem? (i := 3) rfl)) (fun _ h9 => h9) rfl dX0_fewestTurns_23 ?_
      refine lv_iload_n hx hb dX0_fewestTurns_26 rfl (lv_at hl 1 rfl) ?_
      obtain ⟨ho_3, hv⟩ := hv
      obtain ⟨j_27, hj_27, ej_27⟩ := vp_in_of ho_3 (by decide)
      have hv := hv j_27 hj_27 ej_27
      refine va_ldM hx hb hK hP 2 6 j_27 rfl rfl ej_27 hj_27 dX0_fewestTurns_27 ?_
      refine lv_iload_n hx hb dX0_fewestTurns_28 rfl (lv_at hl 3 rfl) ?_
      obtain ⟨ho_4, hv⟩ := hv
      refine va_iald hx hb hK hP (3 + j_27) 0 (co_5 (P := fun k => ([(qe, .inr (0, [.ref qt, .ref qh, .ref qm, .ref qb, .ref qx, .int (E 5), .int (E 6), .int (E 7), .int (E 8), .int (E 9), .int (E 10), .int (E 11)])), (qh, .inl (g.2 0, 200, .inl he)), (qm, .inl (g.2 6, 5, .inr (.inr (.inr (.inr (rwM aM)))))), ((aM 0), .inl (g.2 0, 13, .inl (M 0))), ((aM 1), .inl (g.2 0, 13, .inl (M 1))), ((aM 2), .inl (g.2 0, 13, .inl (M 2))), ((aM 3), .inl (g.2 0, 13, .inl (M 3))), ((aM 4), .inl (g.2 0, 13, .inl (M 4))), (qb, .inl (g.2 0, 5, .inl be)), (qt, .inr (7, [.ref ql, .ref qr, .ref qv, .ref qg, .int parts, .int limit])), (ql, .inl (g.2 0, 5, .inl len)), (qr, .inl (g.2 0, 5, .inl row))] : va_W)[3 + k]? = some (aM k, .inl (g.2 0, 13, .inl (M k)))) rfl rfl rfl rfl rfl hj_27) rfl ho_4 dX0_fewestTurns_29 ?_
      refine lv_isub hx hb dX0_fewestTurns_30 ?_
      refine lv_topi (fun y_31 ey_31 => ?_)
      have hv := hv y_31 ey_31
      refine lv_istore (lv' := [(4, .int y_31), (0, .ref qe), (1, .int p1), (2, .int x2), (3, .int x3)]) hx hb dX0_fewestTurns_31 hl (by decide) rfl (fun ls hl => ?_)
      refine lv_iload_n hx hb dX0_fewestTurns_33 rfl (lv_at hl 4 rfl) ?_
      refine lv_aload_n hx hb dX0_fewestTurns_34 rfl (lv_at hl 1 rfl) ?_
      refine va_get (D := g.1) (ci := 0) (v := .ref qb) (C := RX0) (T := TX0) (N := 12) hx hb hts inX0_fewestTurns_0 hown hK hP 0 rfl rfl 3 (by decide) (hts (.fieldLink RX0 20 "RangeCodes$Ear" "bests" "[I") (List.mem_of_getElem? (i := 4) rfl)) (fun _ h9 => h9) rfl dX0_fewestTurns_35 ?_
      refine lv_iload_n hx hb dX0_fewestTurns_38 rfl (lv_at hl 2 rfl) ?_
      obtain ⟨ho_5, hv⟩ := hv
      refine va_iald hx hb hK hP 8 0 rfl rfl ho_5 dX0_fewestTurns_39 ?_
      obtain ⟨hvt, hvf⟩ := hv
      refine lv_icmp_ge (tgt := 52) hx hb dX0_fewestTurns_40 (by decide) (fun hc => ?_) (fun hc => ?_)
      · have hv := hvt hc
        refine lv_iload hx hb dX0_fewestTurns_52 (lv_at hl 0 rfl) ?_
        refine lv_iconst (v := (4 : Int32)) hx hb dX0_fewestTurns_54 (by decide) ?_
        refine lv_idiv hx hb dX0_fewestTurns_55 (by decide) ?_
        refine lv_iconst (v := (1 : Int32)) hx hb dX0_fewestTurns_56 (by decide) ?_
        refine lv_iadd hx hb dX0_fewestTurns_57 ?_
        exact kX0_fewestTurns_c58 S hr hlocks hG hP ih _ _ _ hv ls (lv_sub hl [1, 2, 3, 4] rfl)
      · have hv := hvf hc
        refine lv_iload hx hb dX0_fewestTurns_43 (lv_at hl 0 rfl) ?_
        refine lv_iconst (v := (3 : Int32)) hx hb dX0_fewestTurns_45 (by decide) ?_
        refine lv_iadd hx hb dX0_fewestTurns_46 ?_
        refine lv_iconst (v := (4 : Int32)) hx hb dX0_fewestTurns_47 (by decide) ?_
        refine lv_idiv hx hb dX0_fewestTurns_48 (by decide) ?_
        refine lv_goto (tgt := 58) hx hb dX0_fewestTurns_49 (by decide) ?_
        exact kX0_fewestTurns_c58 S hr hlocks hG hP ih _ _ _ hv ls (lv_sub hl [1, 2, 3, 4] rfl)
def vX0_fewestTurns (E : Nat → Int32) (he : Nat → Int32) (M : Nat → Nat → Int32) (be : Nat → Int32) (parts : Int32) (limit : Int32) (len : Nat → Int32) (row : Nat → Int32) (p1 : Int32) (Q : Int32 → Prop) : Prop := (∃ nn, vX0_fewestTurns_c4 E he M be parts limit len row p1 Q nn (-1 : Int32) (0 : Int32))
set_option maxHeartbeats 4000000 in
set_option maxRecDepth 100000 in
theorem wX0_fewestTurns (l : Launch) (g : GP) (qe : Nat) (qt : Nat) (qh : Nat) (qm : Nat) (qb : Nat) (qx : Nat) (ql : Nat) (qr : Nat) (qv : Nat) (qg : Nat) (aM : Nat → Nat) (E : Nat → Int32) (he : Nat → Int32) (M : Nat → Nat → Int32) (be : Nat → Int32) (parts : Int32) (limit : Int32) (len : Nat → Int32) (row : Nat → Int32) (p1 : Int32) {Q : Int32 → Prop} (hv : vX0_fewestTurns E he M be parts limit len row p1 Q) : Met l yX0_fewestTurns wsX0_fewestTurns rmX0_fewestTurns (va_Pc [.ref qe, .int p1] (fun U => va_P g.1 vwCl [(qe, .inr (0, [.ref qt, .ref qh, .ref qm, .ref qb, .ref qx, .int (E 5), .int (E 6), .int (E 7), .int (E 8), .int (E 9), .int (E 10), .int (E 11)])), (qh, .inl (g.2 0, 200, .inl he)), (qm, .inl (g.2 6, 5, .inr (.inr (.inr (.inr (rwM aM)))))), ((aM 0), .inl (g.2 0, 13, .inl (M 0))), ((aM 1), .inl (g.2 0, 13, .inl (M 1))), ((aM 2), .inl (g.2 0, 13, .inl (M 2))), ((aM 3), .inl (g.2 0, 13, .inl (M 3))), ((aM 4), .inl (g.2 0, 13, .inl (M 4))), (qb, .inl (g.2 0, 5, .inl be)), (qt, .inr (7, [.ref ql, .ref qr, .ref qv, .ref qg, .int parts, .int limit])), (ql, .inl (g.2 0, 5, .inl len)), (qr, .inl (g.2 0, 5, .inl row))] U.heap ∧ GK g U)) (vp_Si Q) 0 0 (fun _ => False) := by
  refine Met.ofW (cc := cX0_fewestTurns) (maxL := 7) (ret := (some .int)) (by decide) rfl ?_
  intro p e s m args below meth c s₁ B hml hv'
  obtain ⟨rfl, hP, hG⟩ := hv'
  have S : CallFix p m c cX0_fewestTurns 7 s _ wsX0_fewestTurns RX0 := ⟨B.exec, B.bytes, hml, findClass_of_methodNamed B.named, atoms_spec (ws := wsX0_fewestTurns) B.pre⟩
  obtain ⟨hx, hb, hml, hown, hts⟩ := id S
  have hK := hG.1
  have hr := B.returns
  have hlocks := B.notSynchronized
  have hl := lv_entry ([.ref qe, .int p1]) (n := 7) (Nat.le_of_ble_eq_true rfl)
  rw [lg_entry_eq]
  generalize (lg_sl ([.ref qe, .int p1]) ++ List.replicate (7 - (lg_sl ([.ref qe, .int p1])).length) Slot.unset).toArray = ls at hl ⊢
  have hl : lv_has ls 7 [(0, .ref qe), (1, .int p1)] := hl
  unfold vX0_fewestTurns at hv
  refine lv_iconst (v := (-1 : Int32)) hx hb dX0_fewestTurns_0 (by decide) ?_
  refine lv_istore_n (lv' := [(2, .int (-1 : Int32)), (0, .ref qe), (1, .int p1)]) hx hb dX0_fewestTurns_1 rfl hl (by decide) rfl (fun ls hl => ?_)
  refine lv_iconst (v := (0 : Int32)) hx hb dX0_fewestTurns_2 (by decide) ?_
  refine lv_istore_n (lv' := [(3, .int (0 : Int32)), (2, .int (-1 : Int32)), (0, .ref qe), (1, .int p1)]) hx hb dX0_fewestTurns_3 rfl hl (by decide) rfl (fun ls hl => ?_)
  obtain ⟨nn, hv⟩ := hv
  exact kX0_fewestTurns_c4 S hr hlocks hG hP nn _ _ hv ls (lv_sub hl [2, 3, 1, 0] rfl)
/-- how many have to be turned over for a place -/
def tuZ (m : Nat → Int) (b w : Nat) : Int := if w < b then (m b - m w + 3) / 4 else (m b - m w) / 4 + 1
/-- the fewest, of the first so many places: -1 is none -/
def feZ (m : Nat → Int) (t : Nat → Int) (b : Nat) : Nat → Int
  | 0 => -1
  | w + 1 => if w ≠ b ∧ (feZ m t b w = -1 ∨ tuZ m b w < feZ m t b w) ∧ tuZ m b w ≤ t w then tuZ m b w else feZ m t b w
theorem bst_max (m : Nat → Int) : ∀ k w, w < k → m w ≤ m (bst m k)
  | 0, w, h => absurd h (by omega)
  | k + 1, w, h => by
    rw [bst]
    rcases Nat.lt_or_ge w k with z | z
    · have := bst_max m k w z
      split <;> omega
    · have : w = k := by omega
      subst this
      split <;> omega
abbrev preX0_fewestTurns (T : Cd) (h : Nat → Nat) (fr mn p : Nat) (m : Nat → Nat → Int) (E he : Nat → Int32) (M : Nat → Nat → Int32) (be : Nat → Int32) (parts _ : Int32) (len row : Nat → Int32) (p1 : Int32) : Prop := cn T ≤ 5 ∧ isL T len ∧ isR T row ∧ (E 5).toInt = (fr : Int) ∧ fr ≤ 20000 ∧ (E 6).toInt = (mn : Int) ∧ mn ≤ 200 ∧ isH h mn he ∧ p1.toInt = (p : Int) ∧ p < cn T ∧ isE T m M be ∧ ∀ w, w < cL T p → -10000 ≤ m p w ∧ m p w ≤ 10000
abbrev postX0_fewestTurns (T : Cd) (h : Nat → Nat) (fr mn p : Nat) (m : Nat → Nat → Int) (_ _ : Nat → Int32) (_ : Nat → Nat → Int32) (_ : Nat → Int32) (_ _ : Int32) (_ _ : Nat → Int32) (_ r : Int32) : Prop := r.toInt = feZ (m p) (fun w => (tlN T h fr p (bst (m p) (cL T p)) w mn : Int)) (bst (m p) (cL T p)) (cL T p)
theorem feZ_rng (m : Nat → Int) (t : Nat → Int) (b : Nat) (hm : ∀ w, 0 ≤ tuZ m b w ∨ True) (L : Nat) (ht : ∀ w, w < L → tuZ m b w ≤ t w → -1 ≤ tuZ m b w) (ht2 : ∀ w, w < L → t w ≤ 200) : ∀ k, k ≤ L → -1 ≤ feZ m t b k ∧ feZ m t b k ≤ 200
  | 0, _ => by simp [feZ]
  | k + 1, hk => by
    have := feZ_rng m t b hm L ht ht2 k (by omega)
    have h1 := ht k (by omega)
    have h2 := ht2 k (by omega)
    rw [feZ]; split
    · rename_i q; have := h1 q.2.2; omega
    · omega
theorem sX0_fewestTurns_1 (T : Cd) (h : Nat → Nat) (fr mn p : Nat) (m : Nat → Nat → Int) (E he : Nat → Int32) (M : Nat → Nat → Int32) (be : Nat → Int32) (parts limit : Int32) (len row : Nat → Int32) (p1 : Int32) (H : preX0_fewestTurns T h fr mn p m E he M be parts limit len row p1) : ∀ (n i : Nat) (x2 x3 : Int32), x2.toInt = feZ (m p) (fun w => (tlN T h fr p (bst (m p) (cL T p)) w mn : Int)) (bst (m p) (cL T p)) i → x3.toInt = (i : Int) → i ≤ cL T p → cL T p + 1 ≤ i + n → vX0_fewestTurns_c4 E he M be parts limit len row p1 (postX0_fewestTurns T h fr mn p m E he M be parts limit len row p1) n x2 x3
  | 0, i, x2, x3, _, _, hi, hn => absurd hn (by omega)
  | n + 1, i, x2, x3, h2, h3, hi, hn => by
    obtain ⟨hn5, hL, hR, hfr, hfr2, hmn, hmn2, hH, h1, hp, hE, hbd⟩ := id H
    have hl := hL p hp
    have hbe := hE p hp
    have hbl := bst_lt (m p) (cL T p) (by omega)
    have hmax := bst_max (m p) (cL T p)
    generalize hbb : bst (m p) (cL T p) = b at *
    have hin : vp_in p1 5 := q_in h1 (by omega)
    rw [vX0_fewestTurns_c4]
    refine ⟨hin, ?_⟩
    rw [q_cl h1, q_le hl.1 h3]
    refine ⟨fun hc => ?_, fun hc => ⟨m, p, b, ⟨h1, by omega, hbe.1, by omega, hbe.2 b hbl⟩, fun r hr => ⟨hin, fun j hj e => ?_⟩⟩⟩
    · have : i = cL T p := by omega
      subst this
      show x2.toInt = _
      rw [h2, hbb]
    · have := nI_at h1 hj e
      subst this
      have hr : r.toInt = m j b := hr
      have hil : i < cL T j := by omega
      have b1 := hbd b hbl
      have b2 := hbd i hil
      have hge := hmax i hil
      have h3s := q_1 h3 (by omega)
      have htl := tlN_le T h fr j b i mn
      have hfe := feZ_rng (m j) (fun w => (tlN T h fr j b w mn : Int)) b (fun _ => Or.inr trivial) (cL T j) (fun w hw hq => by
        have := hmax w hw
        unfold tuZ; split <;> omega) (fun w hw => by have := tlN_le T h fr j b w mn; show ((tlN T h fr j b w mn : Nat) : Int) ≤ 200; omega) i hi
      have next : ∀ y : Int32, y.toInt = feZ (m j) (fun w => (tlN T h fr j b w mn : Int)) b (i + 1) → vX0_fewestTurns_c4 E he M be parts limit len row p1 (postX0_fewestTurns T h fr mn j m E he M be parts limit len row p1) n y (x3 + (1 : Int32)) := fun y hy => sX0_fewestTurns_1 T h fr mn j m E he M be parts limit len row p1 H n (i + 1) y _ (by rw [hbb]; exact hy) h3s (by omega) (by omega)
      -- the test of one place
      have c76 : ∀ (bb : Bool) (s0 x5 : Int32), s0 = (if bb then 1 else 0) → x5.toInt = tuZ (m j) b i → (bb = true ↔ (feZ (m j) (fun w => (tlN T h fr j b w mn : Int)) b i = -1 ∨ tuZ (m j) b i < feZ (m j) (fun w => (tlN T h fr j b w mn : Int)) b i)) → vX0_fewestTurns_c76 E he M be parts limit len row p1 (postX0_fewestTurns T h fr mn j m E he M be parts limit len row p1) (vX0_fewestTurns_c4 E he M be parts limit len row p1 (postX0_fewestTurns T h fr mn j m E he M be parts limit len row p1) n) x2 x3 x5 s0 := by
        intro bb s0 x5 hs h5 hbb2
        refine ⟨hin, ?_⟩
        rw [q_cl h1, q_eq h3 hbe.1, hs, q_ifB]
        refine ⟨fun hq => next _ ?_, fun hq => ⟨fun hz => next _ ?_, fun hz => ⟨T, h, fr, mn, j, b, i, ⟨hn5, hL, hR, hfr, hfr2, hmn, hmn2, hH, h1, hp, hbe.1, by omega, h3, by omega⟩, fun r2 hr2 => ?_⟩⟩⟩
        · rw [feZ, if_neg (fun z => z.1 (by omega))]; exact h2
        · rw [feZ, if_neg (fun z => by have := hbb2.mpr z.2.1; rw [hz] at this; cases this)]; exact h2
        · have hr2 : r2.toInt = ((tlN T h fr j b i mn : Nat) : Int) := hr2
          have hyes := hbb2.mp (by simpa using hz)
          rw [q_lt hr2 h5]
          refine ⟨fun hlt => next _ ?_, fun hlt => next _ ?_⟩
          · rw [feZ, if_neg (fun z => by have := z.2.2; omega)]; exact h2
          · rw [feZ, if_pos ⟨by omega, hyes, by show tuZ (m j) b i ≤ ((tlN T h fr j b i mn : Nat) : Int); omega⟩]; exact h5
      have c58 : ∀ x5 : Int32, x5.toInt = tuZ (m j) b i → vX0_fewestTurns_c58 E he M be parts limit len row p1 (postX0_fewestTurns T h fr mn j m E he M be parts limit len row p1) (vX0_fewestTurns_c4 E he M be parts limit len row p1 (postX0_fewestTurns T h fr mn j m E he M be parts limit len row p1) n) x2 x3 x5 := by
        intro x5 h5
        unfold vX0_fewestTurns_c58 vX0_fewestTurns_c71
        rw [fa_eq x2, zm1, h2, fa_le x2, h2, h5]
        refine ⟨fun hq => c76 true _ x5 rfl h5 ⟨fun _ => Or.inl hq, fun _ => rfl⟩, fun hq => ⟨fun hq2 => c76 false _ x5 rfl h5 ⟨fun z => (by cases z), fun z => (by rcases z with z | z <;> omega)⟩, fun hq2 => c76 true _ x5 rfl h5 ⟨fun _ => Or.inr (by omega), fun _ => rfl⟩⟩⟩
      refine ⟨q_in h3 (by omega), fun y hy => ⟨hin, ?_⟩⟩
      have hy2 : y.toInt = m j b - m j i := by
        rw [hy, q_cl h3]
        exact q_sub hr (hbe.2 i hil) (by omega) (by omega)
      rw [q_le hbe.1 h3]
      refine ⟨fun hq => c58 _ ?_, fun hq => c58 _ ?_⟩
      · have e4 : (y / (4 : Int32)).toInt = (m j b - m j i) / 4 := by
          rw [q_div (by decide), hy2, z4, Int.tdiv_eq_ediv_of_nonneg (by omega)]
        unfold tuZ
        rw [if_neg (by omega), q_add e4 z1 (by omega) (by omega)]
      · have e3 : (y + (3 : Int32)).toInt = m j b - m j i + 3 := q_add hy2 z3 (by omega) (by omega)
        unfold tuZ
        rw [if_pos (by omega), q_div (by decide), e3, z4, Int.tdiv_eq_ediv_of_nonneg (by omega)]
theorem sX0_fewestTurns (T : Cd) (h : Nat → Nat) (fr mn p : Nat) (m : Nat → Nat → Int) (E he : Nat → Int32) (M : Nat → Nat → Int32) (be : Nat → Int32) (parts limit : Int32) (len row : Nat → Int32) (p1 : Int32) (H : preX0_fewestTurns T h fr mn p m E he M be parts limit len row p1) : vX0_fewestTurns E he M be parts limit len row p1 (postX0_fewestTurns T h fr mn p m E he M be parts limit len row p1) :=
  ⟨cL T p + 1, sX0_fewestTurns_1 T h fr mn p m E he M be parts limit len row p1 H (cL T p + 1) 0 (-1) 0 rfl rfl (by omega) (by omega)⟩
set_option maxRecDepth 20000 in
theorem ggX0_join_X8_rest : GoodIn wsX0_join wsX8_rest := goodIn_r _ [7] (by decide +kernel) (by decide +kernel)
set_option maxRecDepth 20000 in
theorem gX0_join_X8_rest_n116 : GoodIn wsX0_join (wsX8_rest) := ggX0_join_X8_rest
set_option maxRecDepth 20000 in
theorem ggX0_join_X8_commonMultiple : GoodIn wsX0_join wsX8_commonMultiple := goodIn_r _ [9, 10, 11, 6, 12] (by decide +kernel) (by decide +kernel)
set_option maxRecDepth 20000 in
theorem gX0_join_X8_commonMultiple_n139 : GoodIn wsX0_join (wsX8_commonMultiple) := ggX0_join_X8_commonMultiple
theorem dX0_join_0 : decode cX0_join 0 = .ok (.iconst 0, 1) := by decide +kernel
theorem dX0_join_1 : decode cX0_join 1 = .ok (.istore_n 2, 1) := by decide +kernel
theorem dX0_join_2 : decode cX0_join 2 = .ok (.iconst 1, 1) := by decide +kernel
theorem dX0_join_3 : decode cX0_join 3 = .ok (.istore_n 3, 1) := by decide +kernel
theorem dX0_join_4 : decode cX0_join 4 = .ok (.iconst 0, 1) := by decide +kernel
theorem dX0_join_5 : decode cX0_join 5 = .ok (.istore 4, 2) := by decide +kernel
theorem dX0_join_7 : decode cX0_join 7 = .ok (.iload 4, 2) := by decide +kernel
theorem dX0_join_9 : decode cX0_join 9 = .ok (.aload_n 0, 1) := by decide +kernel
theorem dX0_join_10 : decode cX0_join 10 = .ok (.getfield 26, 3) := by decide +kernel
theorem dX0_join_13 : decode cX0_join 13 = .ok (.getfield 70, 3) := by decide +kernel
theorem dX0_join_16 : decode cX0_join 16 = .ok (.if_icmp .ge 83, 3) := by decide +kernel
theorem dX0_join_19 : decode cX0_join 19 = .ok (.iload_n 1, 1) := by decide +kernel
theorem dX0_join_20 : decode cX0_join 20 = .ok (.iload 4, 2) := by decide +kernel
theorem dX0_join_22 : decode cX0_join 22 = .ok (.ishr, 1) := by decide +kernel
theorem dX0_join_23 : decode cX0_join 23 = .ok (.iconst 1, 1) := by decide +kernel
theorem dX0_join_24 : decode cX0_join 24 = .ok (.iand, 1) := by decide +kernel
theorem dX0_join_25 : decode cX0_join 25 = .ok (.iconst 1, 1) := by decide +kernel
theorem dX0_join_26 : decode cX0_join 26 = .ok (.if_icmp .ne 67, 3) := by decide +kernel
theorem dX0_join_29 : decode cX0_join 29 = .ok (.aload_n 0, 1) := by decide +kernel
theorem dX0_join_30 : decode cX0_join 30 = .ok (.getfield 26, 3) := by decide +kernel
theorem dX0_join_33 : decode cX0_join 33 = .ok (.getfield 107, 3) := by decide +kernel
theorem dX0_join_36 : decode cX0_join 36 = .ok (.iload 4, 2) := by decide +kernel
theorem dX0_join_38 : decode cX0_join 38 = .ok (.iaload, 1) := by decide +kernel
theorem dX0_join_39 : decode cX0_join 39 = .ok (.istore 5, 2) := by decide +kernel
theorem dX0_join_41 : decode cX0_join 41 = .ok (.iconst 0, 1) := by decide +kernel
theorem dX0_join_42 : decode cX0_join 42 = .ok (.istore 6, 2) := by decide +kernel
theorem dX0_join_44 : decode cX0_join 44 = .ok (.iload 6, 2) := by decide +kernel
theorem dX0_join_46 : decode cX0_join 46 = .ok (.iload 5, 2) := by decide +kernel
theorem dX0_join_48 : decode cX0_join 48 = .ok (.if_icmp .ge 29, 3) := by decide +kernel
theorem dX0_join_51 : decode cX0_join 51 = .ok (.iload_n 2, 1) := by decide +kernel
theorem dX0_join_52 : decode cX0_join 52 = .ok (.iload 5, 2) := by decide +kernel
theorem dX0_join_54 : decode cX0_join 54 = .ok (.invokestatic 116, 3) := by decide +kernel
theorem dX0_join_57 : decode cX0_join 57 = .ok (.aload_n 0, 1) := by decide +kernel
theorem dX0_join_58 : decode cX0_join 58 = .ok (.getfield 20, 3) := by decide +kernel
theorem dX0_join_61 : decode cX0_join 61 = .ok (.iload 4, 2) := by decide +kernel
theorem dX0_join_63 : decode cX0_join 63 = .ok (.iaload, 1) := by decide +kernel
theorem dX0_join_64 : decode cX0_join 64 = .ok (.if_icmp .eq 13, 3) := by decide +kernel
theorem dX0_join_67 : decode cX0_join 67 = .ok (.iload_n 2, 1) := by decide +kernel
theorem dX0_join_68 : decode cX0_join 68 = .ok (.iload_n 3, 1) := by decide +kernel
theorem dX0_join_69 : decode cX0_join 69 = .ok (.iadd, 1) := by decide +kernel
theorem dX0_join_70 : decode cX0_join 70 = .ok (.istore_n 2, 1) := by decide +kernel
theorem dX0_join_71 : decode cX0_join 71 = .ok (.iinc 6 1, 3) := by decide +kernel
theorem dX0_join_74 : decode cX0_join 74 = .ok (.goto (-30), 3) := by decide +kernel
theorem dX0_join_77 : decode cX0_join 77 = .ok (.iload 6, 2) := by decide +kernel
theorem dX0_join_79 : decode cX0_join 79 = .ok (.iload 5, 2) := by decide +kernel
theorem dX0_join_81 : decode cX0_join 81 = .ok (.if_icmp .lt 5, 3) := by decide +kernel
theorem dX0_join_84 : decode cX0_join 84 = .ok (.iconst (-1), 1) := by decide +kernel
theorem dX0_join_85 : decode cX0_join 85 = .ok (.ireturn, 1) := by decide +kernel
theorem dX0_join_86 : decode cX0_join 86 = .ok (.iload_n 3, 1) := by decide +kernel
theorem dX0_join_87 : decode cX0_join 87 = .ok (.iload 5, 2) := by decide +kernel
theorem dX0_join_89 : decode cX0_join 89 = .ok (.invokestatic 139, 3) := by decide +kernel
theorem dX0_join_92 : decode cX0_join 92 = .ok (.istore_n 3, 1) := by decide +kernel
theorem dX0_join_93 : decode cX0_join 93 = .ok (.iinc 4 1, 3) := by decide +kernel
theorem dX0_join_96 : decode cX0_join 96 = .ok (.goto (-89), 3) := by decide +kernel
theorem dX0_join_99 : decode cX0_join 99 = .ok (.iload_n 2, 1) := by decide +kernel
theorem dX0_join_100 : decode cX0_join 100 = .ok (.ireturn, 1) := by decide +kernel
abbrev rmX0_join : Room := { frames := 2, cells := 0, slots := 0, locals := 52 }
theorem inX0_join_0 : ∀ w ∈ wsX00, w ∈ wsX0_join := by decide +kernel
theorem inX0_join_7 : ∀ w ∈ wsX70, w ∈ wsX0_join := by decide +kernel
def vX0_join_c77 (E : Nat → Int32) (be : Nat → Int32) (parts : Int32) (limit : Int32) (len : Nat → Int32) (p1 : Int32) (Q : Int32 → Prop) (K7 : Int32 → Int32 → Int32 → Prop) (x2 : Int32) (x3 : Int32) (x4 : Int32) (x5 : Int32) (x6 : Int32) : Prop := ((x6 < x5 → (∃ (a_89 : Nat) (b_89 : Nat), preX8_commonMultiple a_89 b_89 x3 x5 ∧ (∀ r_89 : Int32, postX8_commonMultiple a_89 b_89 x3 x5 r_89 → (K7 x2 r_89 (x4 + (1 : Int32)))))) ∧ (¬ x6 < x5 → (Q (-1 : Int32))))
set_option maxHeartbeats 4000000 in
set_option maxRecDepth 100000 in
theorem kX0_join_c77 {p : Program} {l : Launch} {e : Env} {s : State} {m : MethodId} {args : Array Value} {below : List Frame} {meth : Method} {c : Code} {g : GP} {qe : Nat} {qt : Nat} {qh : Nat} {qm : Nat} {qb : Nat} {qx : Nat} {ql : Nat} {qr : Nat} {qv : Nat} {qg : Nat} {E : Nat → Int32} {be : Nat → Int32} {parts : Int32} {limit : Int32} {len : Nat → Int32} {p1 : Int32} {Q : Int32 → Prop} {K7 : Int32 → Int32 → Int32 → Prop} (S : CallFix p m c cX0_join 7 s args wsX0_join RX0) (hr : meth.sig.returnType = (some .int)) (hlocks : meth.locks = false) (hG : GK g s) (hP : va_P g.1 vwCl [(qe, .inr (0, [.ref qt, .ref qh, .ref qm, .ref qb, .ref qx, .int (E 5), .int (E 6), .int (E 7), .int (E 8), .int (E 9), .int (E 10), .int (E 11)])), (qb, .inl (g.2 0, 5, .inl be)), (qt, .inr (7, [.ref ql, .ref qr, .ref qv, .ref qg, .int parts, .int limit])), (ql, .inl (g.2 0, 5, .inl len))] s.heap) (kk7 : ∀ (x2 : Int32) (x3 : Int32) (x4 : Int32), K7 x2 x3 x4 → ∀ (ls : Array Slot), lv_has ls 7 [(0, .ref qe), (1, .int p1), (2, .int x2), (3, .int x3), (4, .int x4)] → W p l e (headSpec wsX0_join rmX0_join).room s m args below meth c s.heap [] 0 0 (MQ below (vp_Si Q) args s 0 0 (fun _ => False)) (F0 m 7 ls [])) : ∀ (x2 : Int32) (x3 : Int32) (x4 : Int32) (x5 : Int32) (x6 : Int32), vX0_join_c77 E be parts limit len p1 Q K7 x2 x3 x4 x5 x6 → ∀ (ls : Array Slot), lv_has ls 7 [(0, .ref qe), (1, .int p1), (2, .int x2), (3, .int x3), (4, .int x4), (5, .int x5), (6, .int x6)] → W p l e (headSpec wsX0_join rmX0_join).room s m args below meth c s.heap [] 0 0 (MQ below (vp_Si Q) args s 0 0 (fun _ => False)) (F0 m 77 ls []) := by
  obtain ⟨hx, hb, hml, hown, hts⟩ := id S
  have hK := hG.1
  intro x2 x3 x4 x5 x6 hv ls hl
  unfold vX0_join_c77 at hv
  refine lv_iload hx hb dX0_join_77 (lv_at hl 6 rfl) ?_
  refine lv_iload hx hb dX0_join_79 (lv_at hl 5 rfl) ?_
  obtain ⟨hvt, hvf⟩ := hv
  refine lv_icmp_lt (tgt := 86) hx hb dX0_join_81 (by decide) (fun hc => ?_) (fun hc => ?_)
  · have hv := hvt hc
    refine lv_iload_n hx hb dX0_join_86 rfl (lv_at hl 3 rfl) ?_
    refine lv_iload hx hb dX0_join_87 (lv_at hl 5 rfl) ?_
    obtain ⟨a_89, b_89, ho_1, hv⟩ := hv
    refine vp_callSi (run_of (va_runSN (As := [.int x3, .int x5]) (rest := []) S (wX8_commonMultiple l g x3 x5 (sX8_commonMultiple a_89 b_89 x3 x5 ho_1)) ⟨va_cnB 2 hts gX0_join_X8_commonMultiple_n139 rfl rfl rfl (hG.2 _ (List.mem_of_getElem? (i := 3) rfl)) (hts (.initialized RX8) (List.mem_of_getElem? (i := 6) rfl)) (by decide +kernel) ⟨Nat.le_of_ble_eq_true rfl, Nat.le_of_ble_eq_true rfl⟩, (hts (.static yX8_commonMultiple) (List.mem_of_getElem? (i := 8) rfl)), trivial⟩ ⟨blindRO, fun U hU hW => ⟨rfl, by rw [hU]; exact hP.sub (ws' := []) [] rfl, hG.warm hW⟩⟩ rfl rfl hl.1 rfl (lv_room (Nat.le_of_ble_eq_true rfl)) dX0_join_89 ⟨Nat.le_of_ble_eq_true rfl, Nat.le_of_ble_eq_true rfl⟩)) (fun r_89 hr_89 => ?_)
    have hv := hv r_89 hr_89
    refine lv_istore_n (lv' := [(3, .int r_89), (0, .ref qe), (1, .int p1), (2, .int x2), (4, .int x4), (5, .int x5), (6, .int x6)]) hx hb dX0_join_92 rfl hl (by decide) rfl (fun ls hl => ?_)
    refine lv_iinc (v := (x4 + (1 : Int32))) (lv' := [(4, .int (x4 + (1 : Int32))), (3, .int r_89), (0, .ref qe), (1, .int p1), (2, .int x2), (5, .int x5), (6, .int x6)]) hx hb dX0_join_93 hl (k := 4) rfl rfl (by decide) rfl (fun ls hl => ?_)
    refine lv_goto (tgt := 7) hx hb dX0_join_96 (by decide) ?_
    exact kk7 _ _ _ hv ls (lv_sub hl [2, 3, 4, 1, 0] rfl)
  · have hv := hvf hc
    refine lv_iconst (v := (-1 : Int32)) hx hb dX0_join_84 (by decide) ?_
    exact W.iret (v := (-1 : Int32)) hx hb hr (fun t ht hW => ⟨_, rfl, hv, ht⟩) (fun _ h => by cases h) dX0_join_85
def vX0_join_c44 (E : Nat → Int32) (be : Nat → Int32) (parts : Int32) (limit : Int32) (len : Nat → Int32) (p1 : Int32) (Q : Int32 → Prop) (K7 : Int32 → Int32 → Int32 → Prop) : Nat → Int32 → Int32 → Int32 → Int32 → Int32 → Prop
  | 0, _, _, _, _, _ => False
  | n + 1, x2, x3, x4, x5, x6 => ((x5 ≤ x6 → (vX0_join_c77 E be parts limit len p1 Q K7 x2 x3 x4 x5 x6)) ∧ (¬ x5 ≤ x6 → (preX8_rest x2 x5 ∧ (∀ r_54 : Int32, postX8_rest x2 x5 r_54 → (vp_in x4 5 ∧ ((r_54 = (be x4.toNatClampNeg) → (vX0_join_c77 E be parts limit len p1 Q K7 x2 x3 x4 x5 x6)) ∧ (¬ r_54 = (be x4.toNatClampNeg) → (vX0_join_c44 E be parts limit len p1 Q K7 n (x2 + x3) x3 x4 x5 (x6 + (1 : Int32))))))))))
set_option maxHeartbeats 4000000 in
set_option maxRecDepth 100000 in
theorem kX0_join_c44 {p : Program} {l : Launch} {e : Env} {s : State} {m : MethodId} {args : Array Value} {below : List Frame} {meth : Method} {c : Code} {g : GP} {qe : Nat} {qt : Nat} {qh : Nat} {qm : Nat} {qb : Nat} {qx : Nat} {ql : Nat} {qr : Nat} {qv : Nat} {qg : Nat} {E : Nat → Int32} {be : Nat → Int32} {parts : Int32} {limit : Int32} {len : Nat → Int32} {p1 : Int32} {Q : Int32 → Prop} {K7 : Int32 → Int32 → Int32 → Prop} (S : CallFix p m c cX0_join 7 s args wsX0_join RX0) (hr : meth.sig.returnType = (some .int)) (hlocks : meth.locks = false) (hG : GK g s) (hP : va_P g.1 vwCl [(qe, .inr (0, [.ref qt, .ref qh, .ref qm, .ref qb, .ref qx, .int (E 5), .int (E 6), .int (E 7), .int (E 8), .int (E 9), .int (E 10), .int (E 11)])), (qb, .inl (g.2 0, 5, .inl be)), (qt, .inr (7, [.ref ql, .ref qr, .ref qv, .ref qg, .int parts, .int limit])), (ql, .inl (g.2 0, 5, .inl len))] s.heap) (kk7 : ∀ (x2 : Int32) (x3 : Int32) (x4 : Int32), K7 x2 x3 x4 → ∀ (ls : Array Slot), lv_has ls 7 [(0, .ref qe), (1, .int p1), (2, .int x2), (3, .int x3), (4, .int x4)] → W p l e (headSpec wsX0_join rmX0_join).room s m args below meth c s.heap [] 0 0 (MQ below (vp_Si Q) args s 0 0 (fun _ => False)) (F0 m 7 ls [])) : ∀ (n : Nat), ∀ (x2 : Int32) (x3 : Int32) (x4 : Int32) (x5 : Int32) (x6 : Int32), vX0_join_c44 E be parts limit len p1 Q K7 n x2 x3 x4 x5 x6 → ∀ (ls : Array Slot), lv_has ls 7 [(0, .ref qe), (1, .int p1), (2, .int x2), (3, .int x3), (4, .int x4), (5, .int x5), (6, .int x6)] → W p l e (headSpec wsX0_join rmX0_join).room s m args below meth c s.heap [] 0 0 (MQ below (vp_Si Q) args s 0 0 (fun _ => False)) (F0 m 44 ls []) := by
  obtain ⟨hx, hb, hml, hown, hts⟩ := id S
  have hK := hG.1
  intro n
  induction n with
  | zero => intro x2 x3 x4 x5 x6 hv; exact hv.elim
  | succ n ih =>
    intro x2 x3 x4 x5 x6 hv ls hl
    refine lv_iload hx hb dX0_join_44 (lv_at hl 6 rfl) ?_
    refine lv_iload hx hb dX0_join_46 (lv_at hl 5 rfl) ?_
    obtain ⟨hvt, hvf⟩ := hv
    refine lv_icmp_ge (tgt := 77) hx hb dX0_join_48 (by decide) (fun hc => ?_) (fun hc => ?_)
    · have hv := hvt hc
      exact kX0_join_c77 S hr hlocks hG hP kk7 _ _ _ _ _ hv ls (lv_sub hl [0, 1, 2, 3, 4, 5, 6] rfl)
    · have hv := hvf hc
      refine lv_iload_n hx hb dX0_join_51 rfl (lv_at hl 2 rfl) ?_
      refine lv_iload hx hb dX0_join_52 (lv_at hl 5 rfl) ?_
      obtain ⟨ho_1, hv⟩ := hv
      refine vp_callSi (run_of (va_runSN (As := [.int x2, .int x5]) (rest := []) S (wX8_rest l g x2 x5 (sX8_rest x2 x5 ho_1)) ⟨va_cnB 2 hts gX0_join_X8_rest_n116 rfl rfl rfl (hG.2 _ (List.mem_of_getElem? (i := 2) rfl)) (hts (.initialized RX8) (List.mem_of_getElem? (i := 6) rfl)) (by decide +kernel) ⟨Nat.le_of_ble_eq_true rfl, Nat.le_of_ble_eq_true rfl⟩, (hts (.static yX8_rest) (List.mem_of_getElem? (i := 5) rfl)), trivial⟩ ⟨blindRO, fun U hU hW => ⟨rfl, by rw [hU]; exact hP.sub (ws' := []) [] rfl, hG.warm hW⟩⟩ rfl rfl hl.1 rfl (lv_room (Nat.le_of_ble_eq_true rfl)) dX0_join_54 ⟨Nat.le_of_ble_eq_true rfl, Nat.le_of_ble_eq_true rfl⟩)) (fun r_54 hr_54 => ?_)
      have hv := hv r_54 hr_54
      refine lv_aload_n hx hb dX0_join_57 rfl (lv_at hl 0 rfl) ?_
      refine va_get (D := g.1) (ci := 0) (v := .ref qb) (C := RX0) (T := TX0) (N := 12) hx hb hts inX0_join_0 hown hK hP 0 rfl rfl 3 (by decide) (hts (.fieldLink RX0 20 "RangeCodes$Ear" "bests" "[I") (List.mem_of_getElem? (i := 4) rfl)) (fun _ h9 => h9) rfl dX0_join_58 ?_
      refine lv_iload hx hb dX0_join_61 (lv_at hl 4 rfl) ?_
      obtain ⟨ho_2, hv⟩ := hv
      refine va_iald hx hb hK hP 1 0 rfl rfl ho_2 dX0_join_63 ?_
      obtain ⟨hvt, hvf⟩ := hv
      refine lv_icmp_eq (tgt := 77) hx hb dX0_join_64 (by decide) (fun hc => ?_) (fun hc => ?_)
      · have hv := hvt hc
        exact kX0_join_c77 S hr hlocks hG hP kk7 _ _ _ _ _ hv ls (lv_sub hl [0, 1, 2, 3, 4, 5, 6] rfl)
      · have hv := hvf hc
        refine lv_iload_n hx hb dX0_join_67 rfl (lv_at hl 2 rfl) ?_
        refine lv_iload_n hx hb dX0_join_68 rfl (lv_at hl 3 rfl) ?_
        refine lv_iadd hx hb dX0_join_69 ?_
        refine lv_istore_n (lv' := [(2, .int (x2 + x3)), (0, .ref qe), (1, .int p1), (3, .int x3), (4, .int x4), (5, .int x5), (6, .int x6)]) hx hb dX0_join_70 rfl hl (by decide) rfl (fun ls hl => ?_)
        refine lv_iinc (v := (x6 + (1 : Int32))) (lv' := [(6, .int (x6 + (1 : Int32))), (2, .int (x2 + x3)), (0, .ref qe), (1, .int p1), (3, .int x3), (4, .int x4), (5, .int x5)]) hx hb dX0_join_71 hl (k := 6) rfl rfl (by decide) rfl (fun ls hl => ?_)
        refine lv_goto (tgt := 44) hx hb dX0_join_74 (by decide) ?_
        exact ih _ _ _ _ _ hv ls (lv_sub hl [2, 3, 1, 4, 5, 6, 0] rfl)
def vX0_join_c7 (E : Nat → Int32) (be : Nat → Int32) (parts : Int32) (limit : Int32) (len : Nat → Int32) (p1 : Int32) (Q : Int32 → Prop) : Nat → Int32 → Int32 → Int32 → Prop
  | 0, _, _, _ => False
  | n + 1, x2, x3, x4 => ((parts ≤ x4 → (Q x2)) ∧ (¬ parts ≤ x4 → ((¬ ((p1 >>> (x4 &&& 31)) &&& (1 : Int32)) = (1 : Int32) → (vX0_join_c7 E be parts limit len p1 Q n x2 x3 (x4 + (1 : Int32)))) ∧ (((p1 >>> (x4 &&& 31)) &&& (1 : Int32)) = (1 : Int32) → (vp_in x4 5 ∧ (∃ nn, vX0_join_c44 E be parts limit len p1 Q (vX0_join_c7 E be parts limit len p1 Q n) nn x2 x3 x4 (len x4.toNatClampNeg) (0 : Int32)))))))
set_option maxHeartbeats 4000000 in
set_option maxRecDepth 100000 in
theorem kX0_join_c7 {p : Program} {l : Launch} {e : Env} {s : State} {m : MethodId} {args : Array Value} {below : List Frame} {meth : Method} {c : Code} {g : GP} {qe : Nat} {qt : Nat} {qh : Nat} {qm : Nat} {qb : Nat} {qx : Nat} {ql : Nat} {qr : Nat} {qv : Nat} {qg : Nat} {E : Nat → Int32} {be : Nat → Int32} {parts : Int32} {limit : Int32} {len : Nat → Int32} {p1 : Int32} {Q : Int32 → Prop} (S : CallFix p m c cX0_join 7 s args wsX0_join RX0) (hr : meth.sig.returnType = (some .int)) (hlocks : meth.locks = false) (hG : GK g s) (hP : va_P g.1 vwCl [(qe, .inr (0, [.ref qt, .ref qh, .ref qm, .ref qb, .ref qx, .int (E 5), .int (E 6), .int (E 7), .int (E 8), .int (E 9), .int (E 10), .int (E 11)])), (qb, .inl (g.2 0, 5, .inl be)), (qt, .inr (7, [.ref ql, .ref qr, .ref qv, .ref qg, .int parts, .int limit])), (ql, .inl (g.2 0, 5, .inl len))] s.heap) : ∀ (n : Nat), ∀ (x2 : Int32) (x3 : Int32) (x4 : Int32), vX0_join_c7 E be parts limit len p1 Q n x2 x3 x4 → ∀ (ls : Array Slot), lv_has ls 7 [(0, .ref qe), (1, .int p1), (2, .int x2), (3, .int x3), (4, .int x4)] → W p l e (headSpec wsX0_join rmX0_join).room s m args below meth c s.heap [] 0 0 (MQ below (vp_Si Q) args s 0 0 (fun _ => False)) (F0 m 7 ls []) := by
  obtain ⟨hx, hb, hml, hown, hts⟩ := id S
  have hK := hG.1
  intro n
  induction n with
  | zero => intro x2 x3 x4 hv; exact hv.elim
  | succ n ih =>
    intro x2 x3 x4 hv ls hl
    refine lv_iload hx hb dX0_join_7 (lv_at hl 4 rfl) ?_
    refine lv_aload_n hx hb dX0_join_9 rfl (lv_at hl 0 rfl) ?_
    refine va_get (D := g.1) (ci := 0) (v := .ref qt) (C := RX0) (T := TX0) (N := 12) hx hb hts inX0_join_0 hown hK hP 0 rfl rfl 0 (by decide) (hts (.fieldLink RX0 26 "RangeCodes$Ear" "told" "LRangeCodes$Told;") (List.mem_of_getElem? (i := 1) rfl)) (fun _ h9 => h9) rfl dX0_join_10 ?_
    refine va_get (D := g.1) (ci := 7) (v := .int parts) (C := RX7) (T := TX7) (N := 6) hx hb hts inX0_join_7 hown hK hP 2 rfl rfl 4 (by decide) (hts (.fieldLink RX0 70 "RangeCodes$Told" "parts" "I") (List.mem_of_getElem? (i := 2) rfl)) (fun _ h9 => h9) rfl dX0_join_13 ?_
    obtain ⟨hvt, hvf⟩ := hv
    refine lv_icmp_ge (tgt := 99) hx hb dX0_join_16 (by decide) (fun hc => ?_) (fun hc => ?_)
    · have hv := hvt hc
      refine lv_iload_n hx hb dX0_join_99 rfl (lv_at hl 2 rfl) ?_
      exact W.iret (v := x2) hx hb hr (fun t ht hW => ⟨_, rfl, hv, ht⟩) (fun _ h => by cases h) dX0_join_100
    · have hv := hvf hc
      refine lv_iload_n hx hb dX0_join_19 rfl (lv_at hl 1 rfl) ?_
      refine lv_iload hx hb dX0_join_20 (lv_at hl 4 rfl) ?_
      refine lv_ishr hx hb dX0_join_22 ?_
      refine lv_iconst (v := (1 : Int32)) hx hb dX0_join_23 (by decide) ?_
      refine lv_iand hx hb dX0_join_24 ?_
      refine lv_iconst (v := (1 : Int32)) hx hb dX0_join_25 (by decide) ?_
      obtain ⟨hvt, hvf⟩ := hv
      refine lv_icmp_ne (tgt := 93) hx hb dX0_join_26 (by decide) (fun hc => ?_) (fun hc => ?_)
      · have hv := hvt hc
        refine lv_iinc (v := (x4 + (1 : Int32))) (lv' := [(4, .int (x4 + (1 : Int32))), (0, .ref qe), (1, .int p1), (2, .int x2), (3, .int x3)]) hx hb dX0_join_93 hl (k := 4) rfl rfl (by decide) rfl (fun ls hl => ?_)
        refine lv_goto (tgt := 7) hx hb dX0_join_96 (by decide) ?_
        exact ih _ _ _ hv ls (lv_sub hl [1, 2, 3, 4, 0] rfl)
      · have hv := hvf hc
        refine lv_aload_n hx hb dX0_join_29 rfl (lv_at hl 0 rfl) ?_
        refine va_get (D := g.1) (ci := 0) (v := .ref qt) (C := RX0) (T := TX0) (N := 12) hx hb hts inX0_join_0 hown hK hP 0 rfl rfl 0 (by decide) (hts (.fieldLink RX0 26 "RangeCodes$Ear" "told" "LRangeCodes$Told;") (List.mem_of_getElem? (i := 1) rfl)) (fun _ h9 => h9) rfl dX0_join_30 ?_
        refine va_get (D := g.1) (ci := 7) (v := .ref ql) (C := RX7) (T := TX7) (N := 6) hx hb hts inX0_join_7 hown hK hP 2 rfl rfl 0 (by decide) (hts (.fieldLink RX0 107 "RangeCodes$Told" "lengths" "[I") (List.mem_of_getElem? (i := 3) rfl)) (fun _ h9 => h9) rfl dX0_join_33 ?_
        refine lv_iload hx hb dX0_join_36 (lv_at hl 4 rfl) ?_
        obtain ⟨ho_1, hv⟩ := hv
        refine va_iald hx hb hK hP 3 0 rfl rfl ho_1 dX0_join_38 ?_
        refine lv_istore (lv' := [(5, .int (len x4.toNatClampNeg)), (0, .ref qe), (1, .int p1), (2, .int x2), (3, .int x3), (4, .int x4)]) hx hb dX0_join_39 hl (by decide) rfl (fun ls hl => ?_)
        refine lv_iconst (v := (0 : Int32)) hx hb dX0_join_41 (by decide) ?_
        refine lv_istore (lv' := [(6, .int (0 : Int32)), (5, .int (len x4.toNatClampNeg)), (0, .ref qe), (1, .int p1), (2, .int x2), (3, .int x3), (4, .int x4)]) hx hb dX0_join_42 hl (by decide) rfl (fun ls hl => ?_)
        obtain ⟨nn, hv⟩ := hv
        exact kX0_join_c44 S hr hlocks hG hP ih nn _ _ _ _ _ hv ls (lv_sub hl [2, 3, 4, 5, 6, 1, 0] rfl)
def vX0_join (E : Nat → Int32) (be : Nat → Int32) (parts : Int32) (limit : Int32) (len : Nat → Int32) (p1 : Int32) (Q : Int32 → Prop) : Prop := (∃ nn, vX0_join_c7 E be parts limit len p1 Q nn (0 : Int32) (1 : Int32) (0 : Int32))
set_option maxHeartbeats 4000000 in
set_option maxRecDepth 100000 in
theorem wX0_join (l : Launch) (g : GP) (qe : Nat) (qt : Nat) (qh : Nat) (qm : Nat) (qb : Nat) (qx : Nat) (ql : Nat) (qr : Nat) (qv : Nat) (qg : Nat) (E : Nat → Int32) (be : Nat → Int32) (parts : Int32) (limit : Int32) (len : Nat → Int32) (p1 : Int32) {Q : Int32 → Prop} (hv : vX0_join E be parts limit len p1 Q) : Met l yX0_join wsX0_join rmX0_join (va_Pc [.ref qe, .int p1] (fun U => va_P g.1 vwCl [(qe, .inr (0, [.ref qt, .ref qh, .ref qm, .ref qb, .ref qx, .int (E 5), .int (E 6), .int (E 7), .int (E 8), .int (E 9), .int (E 10), .int (E 11)])), (qb, .inl (g.2 0, 5, .inl be)), (qt, .inr (7, [.ref ql, .ref qr, .ref qv, .ref qg, .int parts, .int limit])), (ql, .inl (g.2 0, 5, .inl len))] U.heap ∧ GK g U)) (vp_Si Q) 0 0 (fun _ => False) := by
  refine Met.ofW (cc := cX0_join) (maxL := 7) (ret := (some .int)) (by decide) rfl ?_
  intro p e s m args below meth c s₁ B hml hv'
  obtain ⟨rfl, hP, hG⟩ := hv'
  have S : CallFix p m c cX0_join 7 s _ wsX0_join RX0 := ⟨B.exec, B.bytes, hml, findClass_of_methodNamed B.named, atoms_spec (ws := wsX0_join) B.pre⟩
  obtain ⟨hx, hb, hml, hown, hts⟩ := id S
  have hK := hG.1
  have hr := B.returns
  have hlocks := B.notSynchronized
  have hl := lv_entry ([.ref qe, .int p1]) (n := 7) (Nat.le_of_ble_eq_true rfl)
  rw [lg_entry_eq]
  generalize (lg_sl ([.ref qe, .int p1]) ++ List.replicate (7 - (lg_sl ([.ref qe, .int p1])).length) Slot.unset).toArray = ls at hl ⊢
  have hl : lv_has ls 7 [(0, .ref qe), (1, .int p1)] := hl
  unfold vX0_join at hv
  refine lv_iconst (v := (0 : Int32)) hx hb dX0_join_0 (by decide) ?_
  refine lv_istore_n (lv' := [(2, .int (0 : Int32)), (0, .ref qe), (1, .int p1)]) hx hb dX0_join_1 rfl hl (by decide) rfl (fun ls hl => ?_)
  refine lv_iconst (v := (1 : Int32)) hx hb dX0_join_2 (by decide) ?_
  refine lv_istore_n (lv' := [(3, .int (1 : Int32)), (2, .int (0 : Int32)), (0, .ref qe), (1, .int p1)]) hx hb dX0_join_3 rfl hl (by decide) rfl (fun ls hl => ?_)
  refine lv_iconst (v := (0 : Int32)) hx hb dX0_join_4 (by decide) ?_
  refine lv_istore (lv' := [(4, .int (0 : Int32)), (3, .int (1 : Int32)), (2, .int (0 : Int32)), (0, .ref qe), (1, .int p1)]) hx hb dX0_join_5 hl (by decide) rfl (fun ls hl => ?_)
  obtain ⟨nn, hv⟩ := hv
  exact kX0_join_c7 S hr hlocks hG hP nn _ _ _ hv ls (lv_sub hl [3, 4, 2, 1, 0] rfl)
abbrev isB (T : Cd) (b : Nat → Nat) (be : Nat → Int32) : Prop := ∀ p, p < cn T → (be p).toInt = (b p : Int)
abbrev preX0_join (T : Cd) (b : Nat → Nat) (s : Nat) (_ be : Nat → Int32) (parts _ : Int32) (len : Nat → Int32) (p1 : Int32) : Prop := isN T parts ∧ isL T len ∧ isB T b be ∧ p1.toInt = (s : Int)
abbrev postX0_join (T : Cd) (b : Nat → Nat) (s : Nat) (_ _ : Nat → Int32) (_ _ : Int32) (_ : Nat → Int32) (_ r : Int32) : Prop := isO (joS T b s (cn T)) r
theorem sX0_join_44 (T : Cd) (b : Nat → Nat) (s : Nat) (E be : Nat → Int32) (parts limit : Int32) (len : Nat → Int32) (p1 : Int32) (H : preX0_join T b s E be parts limit len p1) (K : Int32 → Int32 → Int32 → Prop) (p n0 : Nat) (hp : p < cn T) (hb : s.testBit p = true) (hjo : joS T b s p = some n0) (x3 x4 x5 : Int32) (h3 : x3.toInt = ((lcS T s p : Nat) : Int)) (h4 : x4.toInt = (p : Int)) (h5 : x5.toInt = (cL T p : Int))
    (hK : ∀ (d : Nat) (y z : Int32), joS T b s (p + 1) = some d → y.toInt = (d : Int) → z.toInt = ((lcS T s (p + 1) : Nat) : Int) → K y z (x4 + (1 : Int32))) : ∀ (n i : Nat) (x2 x6 : Int32), x2.toInt = ((n0 + i * lcS T s p : Nat) : Int) → x6.toInt = (i : Int) → i ≤ cL T p → cL T p + 1 ≤ i + n → (∀ j, j < i → (n0 + j * lcS T s p) % cL T p ≠ b p) → vX0_join_c44 E be parts limit len p1 (postX0_join T b s E be parts limit len p1) K n x2 x3 x4 x5 x6
  | 0, i, x2, x6, _, _, hi, hn, _ => absurd hn (by omega)
  | n + 1, i, x2, x6, h2, h6, hi, hn, hno => by
    obtain ⟨hN, hL, hB, h1⟩ := id H
    have hl := hL p hp
    have hn5 := hN.2
    have hlp := lcS_pos (fun q hq => (hL q hq).2.1) s p (by omega)
    have hle := lcS_le (fun q hq => (hL q hq).2.2) s p (by omega)
    have hle2 := p5_le (k := p) (by omega)
    have hn0 := joS_lt (fun q hq => (hL q hq).2.1) b s p (by omega) n0 hjo
    have hil : i * lcS T s p ≤ 13 * 371293 := Nat.mul_le_mul (by omega) (by omega)
    have hml : lcS T s p * cL T p ≤ 371293 * 13 := Nat.mul_le_mul (by omega) (by omega)
    rw [vX0_join_c44, q_le h5 h6]
    refine ⟨fun hc => ?_, fun hc => ?_⟩
    · -- all tried: none
      unfold vX0_join_c77
      rw [q_lt h6 h5]
      refine ⟨fun q => absurd q (by omega), fun _ => ?_⟩
      have hff : fa_first (fun j => decide ((n0 + j * lcS T s p) % cL T p = b p)) (cL T p) = cL T p := ff_none (fun j hj => by simp; exact hno j (by omega))
      have hd : joS T b s (p + 1) = none := by
        rw [joS, hjo]
        simp only [hb, if_true]
        rw [hff, if_neg (by omega)]
      have : joS T b s (cn T) = none := joS_none_up T _ s hd (cn T) (by omega)
      show isO _ _
      rw [this]; rfl
    · refine ⟨by show 0 < x5.toInt; omega, fun r hr => ⟨q_in h4 (by omega), ?_⟩⟩
      have hr : r.toInt = x2.toInt % x5.toInt := hr
      have hr : r.toInt = (((n0 + i * lcS T s p) % cL T p : Nat) : Int) := by rw [hr, h2, h5]; rfl
      rw [q_cl h4, q_eq hr (hB p hp)]
      refine ⟨fun hq => ?_, fun hq => ?_⟩
      · unfold vX0_join_c77
        rw [q_lt h6 h5]
        refine ⟨fun _ => ⟨lcS T s p, cL T p, ⟨h3, h5, hlp, by omega, by omega⟩, fun r4 hr4 => ?_⟩, fun q => absurd (by omega) q⟩
        have hi2 : i < cL T p := by omega
        have hff : fa_first (fun j => decide ((n0 + j * lcS T s p) % cL T p = b p)) (cL T p) = i := ff_eq hi2 (by simp; omega) (fun j hj => by simp; exact hno j hj)
        have hd : joS T b s (p + 1) = some (n0 + i * lcS T s p) := by
          rw [joS, hjo]
          simp only [hb, if_true]
          rw [hff, if_pos hi2]
        have hlc : lcS T s (p + 1) = Nat.lcm (lcS T s p) (cL T p) := by rw [lcS, if_pos hb]
        exact hK _ _ _ hd h2 (by rw [hlc]; exact hr4)
      · have e2 : n0 + i * lcS T s p + lcS T s p = n0 + (i + 1) * lcS T s p := by rw [Nat.add_mul]; omega
        have h22 := q_addN h2 h3 (by omega)
        rw [e2] at h22
        exact sX0_join_44 T b s E be parts limit len p1 H K p n0 hp hb hjo x3 x4 x5 h3 h4 h5 hK n (i + 1) _ _ h22 (q_1 h6 (by omega)) (by omega) (by omega) (fun j hj => by
          rcases Nat.lt_or_ge j i with z | z
          · exact hno j z
          · have : j = i := by omega
            subst this
            omega)
theorem sX0_join_7 (T : Cd) (b : Nat → Nat) (s : Nat) (E be : Nat → Int32) (parts limit : Int32) (len : Nat → Int32) (p1 : Int32) (H : preX0_join T b s E be parts limit len p1) : ∀ (n p d : Nat) (x2 x3 x4 : Int32), joS T b s p = some d → x2.toInt = (d : Int) → x3.toInt = ((lcS T s p : Nat) : Int) → x4.toInt = (p : Int) → p ≤ cn T → cn T + 1 ≤ p + n → vX0_join_c7 E be parts limit len p1 (postX0_join T b s E be parts limit len p1) n x2 x3 x4
  | 0, p, d, x2, x3, x4, _, _, _, _, hi, hn => absurd hn (by omega)
  | n + 1, p, d, x2, x3, x4, hj, h2, h3, h4, hi, hn => by
    obtain ⟨hN, hL, hB, h1⟩ := id H
    have hn5 := hN.2
    rw [vX0_join_c7, q_le hN.1 h4]
    refine ⟨fun hc => ?_, fun hc => ?_⟩
    · have : p = cn T := by omega
      subst this
      show isO _ _
      rw [hj]; exact h2
    · have h4s := q_1 h4 (by omega)
      rw [q_bitB h1 h4 (by omega)]
      refine ⟨fun hb => ?_, fun hb => ⟨q_in h4 (by omega), cL T p + 1, ?_⟩⟩
      · refine sX0_join_7 T b s E be parts limit len p1 H n (p + 1) d x2 x3 _ ?_ h2 ?_ h4s (by omega) (by omega)
        · rw [joS, hj]; simp [hb]
        · rw [lcS, if_neg hb]; exact h3
      · rw [q_cl h4]
        exact sX0_join_44 T b s E be parts limit len p1 H _ p d (by omega) hb hj x3 x4 _ h3 h4 (hL p (by omega)).1 (fun d2 y z hd hy hz => sX0_join_7 T b s E be parts limit len p1 H n (p + 1) d2 y z _ hd hy hz h4s (by omega) (by omega)) (cL T p + 1) 0 x2 0 (by rw [h2]; simp) rfl (by omega) (by omega) (fun j hj => absurd hj (by omega))
theorem sX0_join (T : Cd) (b : Nat → Nat) (s : Nat) (E be : Nat → Int32) (parts limit : Int32) (len : Nat → Int32) (p1 : Int32) (H : preX0_join T b s E be parts limit len p1) : vX0_join E be parts limit len p1 (postX0_join T b s E be parts limit len p1) :=
  ⟨cn T + 1, sX0_join_7 T b s E be parts limit len p1 H (cn T + 1) 0 0 0 1 0 rfl rfl rfl rfl (by omega) (by omega)⟩
