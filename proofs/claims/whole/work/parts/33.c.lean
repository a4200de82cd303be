set_option maxHeartbeats 800000 in
set_option maxRecDepth 100000 in
theorem lwk_8 {p : Program} {l : Launch} {e : Env} {s : State} {m : MethodId} {below : List Frame} {meth : Method} {c : Code} {g : GP} {v : GV} {z : Nat × Nat} {b L : Nat} {xs : Nat → Int32} {qX qM qo : Nat} {i : Int32} {cells slots : Nat} (C : LwC p l s m meth c g v z b L xs) (hi : 0 ≤ i.toInt ∧ i.toInt + 5 ≤ (L : Int) ∧ L ≤ 2560) (hroom : cells + 40 ≤ 601024 ∧ slots + 900 ≤ 7293034) (kk : LwN p l e s m below meth c g b qX qM qo i (cells + 40) (slots + 900) 1776) : LwN p l e s m below meth c g b qX qM qo i cells slots 504 := by
  intro st wx wm fo H locs ls ok hXw hMw hP hD hS hl
  obtain ⟨hx, hb, hr, hml, hown, hts, hXs, hbl, hlocks, hG, hE, hO, hX, hst⟩ := id C
  have hK := hG.1
  have S : CallFix p m c cL_law 7 s #[Value.ref b] wsLw RL := ⟨hx, hb, hml, hown, hts⟩
  have hA : ∀ q : Nat, s.heap.size ≤ q → lwA s q := fun _ h => h
  have hbA : ¬ lwA s b := Nat.not_le.mpr hbl
  obtain ⟨fx, h0x⟩ := hXw.hd
  obtain ⟨fm, h0m⟩ := hMw.hd
  refine lv_aload_n hx hb dL_law_504 rfl (lv_at hl 1 rfl) ?_
  refine lv_aload_n hx hb dL_law_505 rfl (lv_at hl 0 rfl) ?_
  refine lv_iload hx hb dL_law_506 (lv_at hl 4 rfl) ?_
  refine lv_iconst (v := (1 : Int32)) hx hb dL_law_508 (by decide) ?_
  refine lv_iadd hx hb dL_law_509 ?_
  refine va_sld hx hb hXs hbl hbA hS (lw_in hi (j := 1) rfl (by decide)) dL_law_510 ?_
  refine lv_aload_n hx hb dL_law_511 rfl (lv_at hl 0 rfl) ?_
  refine lv_iload hx hb dL_law_512 (lv_at hl 4 rfl) ?_
  refine lv_iconst (v := (2 : Int32)) hx hb dL_law_514 (by decide) ?_
  refine lv_iadd hx hb dL_law_515 ?_
  refine va_sld hx hb hXs hbl hbA hS (lw_in hi (j := 2) rfl (by decide)) dL_law_516 ?_
  refine lw_ci (v := v) (av := [.int (xs (i + (1 : Int32)).toNatClampNeg), .int (xs (i + (2 : Int32)).toNatClampNeg)]) (rest := []) S hG hE hO hA (uX_turn l g v qX st (xs (i + (1 : Int32)).toNatClampNeg) (xs (i + (2 : Int32)).toNatClampNeg)) hXw hP hD hS (cwV 2 hts gL_law_X8_turn rfl rfl rfl (by decide +kernel) ⟨(Nat.le_of_ble_eq_true rfl), (Nat.le_of_ble_eq_true rfl)⟩) (va_recv hK (va_P_l hP) (ci := 8) (q0 := 0) rfl h0x) rfl hl.1 rfl (Nat.le_of_ble_eq_true rfl) dL_law_517 ⟨(show cells + 0 ≤ 601024 by omega), (show slots + 0 ≤ 7293034 by omega)⟩ (fun r1 u1 H locs hp hP hD hS => ?_)
  obtain ⟨e1, hXw⟩ := hp
  have hP := rtP hP
  have hD := rtD hD
  refine lv_aload_n hx hb dL_law_520 rfl (lv_at hl 2 rfl) ?_
  refine lv_aload_n hx hb dL_law_521 rfl (lv_at hl 0 rfl) ?_
  refine lv_iload hx hb dL_law_522 (lv_at hl 4 rfl) ?_
  refine lv_iconst (v := (1 : Int32)) hx hb dL_law_524 (by decide) ?_
  refine lv_iadd hx hb dL_law_525 ?_
  refine va_sld hx hb hXs hbl hbA hS (lw_in hi (j := 1) rfl (by decide)) dL_law_526 ?_
  refine lv_aload_n hx hb dL_law_527 rfl (lv_at hl 0 rfl) ?_
  refine lv_iload hx hb dL_law_528 (lv_at hl 4 rfl) ?_
  refine lv_iconst (v := (2 : Int32)) hx hb dL_law_530 (by decide) ?_
  refine lv_iadd hx hb dL_law_531 ?_
  refine va_sld hx hb hXs hbl hbA hS (lw_in hi (j := 2) rfl (by decide)) dL_law_532 ?_
  refine lw_ci (v := v) (av := [.int (xs (i + (1 : Int32)).toNatClampNeg), .int (xs (i + (2 : Int32)).toNatClampNeg)]) (rest := [.int r1]) S hG hE hO hA (uM_turn l g v qM st (xs (i + (1 : Int32)).toNatClampNeg) (xs (i + (2 : Int32)).toNatClampNeg)) hMw hP hD hS (cwV 2 hts gL_law_X9_turn rfl rfl rfl (by decide +kernel) ⟨(Nat.le_of_ble_eq_true rfl), (Nat.le_of_ble_eq_true rfl)⟩) (va_recv hK (va_P_l hP) (ci := 9) (q0 := 0) rfl h0m) rfl hl.1 rfl (Nat.le_of_ble_eq_true rfl) dL_law_533 ⟨(show cells + 0 + 0 ≤ 601024 by omega), (show slots + 0 + 0 ≤ 7293034 by omega)⟩ (fun r2 u2 H locs hp hP hD hS => ?_)
  obtain ⟨e2, hMw⟩ := hp
  have hP := rtP (rtP hP)
  have hD := rtD (rtD hD)
  have ee : r1 = r2 := q_inj (e1.trans e2.symm)
  refine lv_icmp_eq (tgt := 1776) hx hb dL_law_536 (by decide) (fun _ => ?_) (fun hc => absurd ee hc)
  refine W.widen (k := cells + 40) (n := slots + 900) (by omega) (by omega) ?_
  refine kk _ _ _ fo H locs ls ?_ hXw hMw hP hD hS hl
  exact okN ok (okPg_tr ok.1 _ _)
set_option maxHeartbeats 800000 in
set_option maxRecDepth 100000 in
theorem lwk_9 {p : Program} {l : Launch} {e : Env} {s : State} {m : MethodId} {below : List Frame} {meth : Method} {c : Code} {g : GP} {v : GV} {z : Nat × Nat} {b L : Nat} {xs : Nat → Int32} {qX qM qo : Nat} {i : Int32} {cells slots : Nat} (C : LwC p l s m meth c g v z b L xs) (hi : 0 ≤ i.toInt ∧ i.toInt + 5 ≤ (L : Int) ∧ L ≤ 2560) (hroom : cells + 40 ≤ 601024 ∧ slots + 900 ≤ 7293034) (kk : LwN p l e s m below meth c g b qX qM qo i (cells + 40) (slots + 900) 1776) : LwN p l e s m below meth c g b qX qM qo i cells slots 541 := by
  intro st wx wm fo H locs ls ok hXw hMw hP hD hS hl
  obtain ⟨hx, hb, hr, hml, hown, hts, hXs, hbl, hlocks, hG, hE, hO, hX, hst⟩ := id C
  have hK := hG.1
  have S : CallFix p m c cL_law 7 s #[Value.ref b] wsLw RL := ⟨hx, hb, hml, hown, hts⟩
  have hA : ∀ q : Nat, s.heap.size ≤ q → lwA s q := fun _ h => h
  have hbA : ¬ lwA s b := Nat.not_le.mpr hbl
  obtain ⟨fx, h0x⟩ := hXw.hd
  obtain ⟨fm, h0m⟩ := hMw.hd
  refine lv_aload_n hx hb dL_law_541 rfl (lv_at hl 1 rfl) ?_
  refine lv_aload_n hx hb dL_law_542 rfl (lv_at hl 0 rfl) ?_
  refine lv_iload hx hb dL_law_543 (lv_at hl 4 rfl) ?_
  refine lv_iconst (v := (1 : Int32)) hx hb dL_law_545 (by decide) ?_
  refine lv_iadd hx hb dL_law_546 ?_
  refine va_sld hx hb hXs hbl hbA hS (lw_in hi (j := 1) rfl (by decide)) dL_law_547 ?_
  refine lv_aload_n hx hb dL_law_548 rfl (lv_at hl 0 rfl) ?_
  refine lv_iload hx hb dL_law_549 (lv_at hl 4 rfl) ?_
  refine lv_iconst (v := (2 : Int32)) hx hb dL_law_551 (by decide) ?_
  refine lv_iadd hx hb dL_law_552 ?_
  refine va_sld hx hb hXs hbl hbA hS (lw_in hi (j := 2) rfl (by decide)) dL_law_553 ?_
  refine lw_ci (v := v) (av := [.int (xs (i + (1 : Int32)).toNatClampNeg), .int (xs (i + (2 : Int32)).toNatClampNeg)]) (rest := []) S hG hE hO hA (uX_swap l g v qX st (xs (i + (1 : Int32)).toNatClampNeg) (xs (i + (2 : Int32)).toNatClampNeg)) hXw hP hD hS (cwV 2 hts gL_law_X8_swap rfl rfl rfl (by decide +kernel) ⟨(Nat.le_of_ble_eq_true rfl), (Nat.le_of_ble_eq_true rfl)⟩) (va_recv hK (va_P_l hP) (ci := 8) (q0 := 0) rfl h0x) rfl hl.1 rfl (Nat.le_of_ble_eq_true rfl) dL_law_554 ⟨(show cells + 0 ≤ 601024 by omega), (show slots + 0 ≤ 7293034 by omega)⟩ (fun r1 u1 H locs hp hP hD hS => ?_)
  obtain ⟨e1, hXw⟩ := hp
  have hP := rtP hP
  have hD := rtD hD
  refine lv_aload_n hx hb dL_law_557 rfl (lv_at hl 2 rfl) ?_
  refine lv_aload_n hx hb dL_law_558 rfl (lv_at hl 0 rfl) ?_
  refine lv_iload hx hb dL_law_559 (lv_at hl 4 rfl) ?_
  refine lv_iconst (v := (1 : Int32)) hx hb dL_law_561 (by decide) ?_
  refine lv_iadd hx hb dL_law_562 ?_
  refine va_sld hx hb hXs hbl hbA hS (lw_in hi (j := 1) rfl (by decide)) dL_law_563 ?_
  refine lv_aload_n hx hb dL_law_564 rfl (lv_at hl 0 rfl) ?_
  refine lv_iload hx hb dL_law_565 (lv_at hl 4 rfl) ?_
  refine lv_iconst (v := (2 : Int32)) hx hb dL_law_567 (by decide) ?_
  refine lv_iadd hx hb dL_law_568 ?_
  refine va_sld hx hb hXs hbl hbA hS (lw_in hi (j := 2) rfl (by decide)) dL_law_569 ?_
  refine lw_ci (v := v) (av := [.int (xs (i + (1 : Int32)).toNatClampNeg), .int (xs (i + (2 : Int32)).toNatClampNeg)]) (rest := [.int r1]) S hG hE hO hA (uM_swap l g v qM st (xs (i + (1 : Int32)).toNatClampNeg) (xs (i + (2 : Int32)).toNatClampNeg)) hMw hP hD hS (cwV 2 hts gL_law_X9_swap rfl rfl rfl (by decide +kernel) ⟨(Nat.le_of_ble_eq_true rfl), (Nat.le_of_ble_eq_true rfl)⟩) (va_recv hK (va_P_l hP) (ci := 9) (q0 := 0) rfl h0m) rfl hl.1 rfl (Nat.le_of_ble_eq_true rfl) dL_law_570 ⟨(show cells + 0 + 0 ≤ 601024 by omega), (show slots + 0 + 0 ≤ 7293034 by omega)⟩ (fun r2 u2 H locs hp hP hD hS => ?_)
  obtain ⟨e2, hMw⟩ := hp
  have hP := rtP (rtP hP)
  have hD := rtD (rtD hD)
  have ee : r1 = r2 := q_inj (e1.trans e2.symm)
  refine lv_icmp_eq (tgt := 1776) hx hb dL_law_573 (by decide) (fun _ => ?_) (fun hc => absurd ee hc)
  refine W.widen (k := cells + 40) (n := slots + 900) (by omega) (by omega) ?_
  refine kk _ _ _ fo H locs ls ?_ hXw hMw hP hD hS hl
  exact okN ok (okPg_sw ok.1 _ _)
set_option maxHeartbeats 800000 in
set_option maxRecDepth 100000 in
theorem lwk_10 {p : Program} {l : Launch} {e : Env} {s : State} {m : MethodId} {below : List Frame} {meth : Method} {c : Code} {g : GP} {v : GV} {z : Nat × Nat} {b L : Nat} {xs : Nat → Int32} {qX qM qo : Nat} {i : Int32} {cells slots : Nat} (C : LwC p l s m meth c g v z b L xs) (hi : 0 ≤ i.toInt ∧ i.toInt + 5 ≤ (L : Int) ∧ L ≤ 2560) (hroom : cells + 40 ≤ 601024 ∧ slots + 900 ≤ 7293034) (kk : LwN p l e s m below meth c g b qX qM qo i (cells + 40) (slots + 900) 1776) : LwN p l e s m below meth c g b qX qM qo i cells slots 578 := by
  intro st wx wm fo H locs ls ok hXw hMw hP hD hS hl
  obtain ⟨hx, hb, hr, hml, hown, hts, hXs, hbl, hlocks, hG, hE, hO, hX, hst⟩ := id C
  have hK := hG.1
  have S : CallFix p m c cL_law 7 s #[Value.ref b] wsLw RL := ⟨hx, hb, hml, hown, hts⟩
  have hA : ∀ q : Nat, s.heap.size ≤ q → lwA s q := fun _ h => h
  have hbA : ¬ lwA s b := Nat.not_le.mpr hbl
  obtain ⟨fx, h0x⟩ := hXw.hd
  obtain ⟨fm, h0m⟩ := hMw.hd
  refine lv_aload_n hx hb dL_law_578 rfl (lv_at hl 1 rfl) ?_
  refine lv_aload_n hx hb dL_law_579 rfl (lv_at hl 0 rfl) ?_
  refine lv_iload hx hb dL_law_580 (lv_at hl 4 rfl) ?_
  refine lv_iconst (v := (1 : Int32)) hx hb dL_law_582 (by decide) ?_
  refine lv_iadd hx hb dL_law_583 ?_
  refine va_sld hx hb hXs hbl hbA hS (lw_in hi (j := 1) rfl (by decide)) dL_law_584 ?_
  refine lw_ci (v := v) (av := [.int (xs (i + (1 : Int32)).toNatClampNeg)]) (rest := []) S hG hE hO hA (uX_enough l g v qX st (xs (i + (1 : Int32)).toNatClampNeg)) hXw hP hD hS (cwV 1 hts gL_law_X8_enough rfl rfl rfl (by decide +kernel) ⟨(Nat.le_of_ble_eq_true rfl), (Nat.le_of_ble_eq_true rfl)⟩) (va_recv hK (va_P_l hP) (ci := 8) (q0 := 0) rfl h0x) rfl hl.1 rfl (Nat.le_of_ble_eq_true rfl) dL_law_585 ⟨(show cells + 0 ≤ 601024 by omega), (show slots + 0 ≤ 7293034 by omega)⟩ (fun r1 u1 H locs hp hP hD hS => ?_)
  obtain ⟨e1, hXw⟩ := hp
  have hP := rtP hP
  have hD := rtD hD
  refine lv_aload_n hx hb dL_law_588 rfl (lv_at hl 2 rfl) ?_
  refine lv_aload_n hx hb dL_law_589 rfl (lv_at hl 0 rfl) ?_
  refine lv_iload hx hb dL_law_590 (lv_at hl 4 rfl) ?_
  refine lv_iconst (v := (1 : Int32)) hx hb dL_law_592 (by decide) ?_
  refine lv_iadd hx hb dL_law_593 ?_
  refine va_sld hx hb hXs hbl hbA hS (lw_in hi (j := 1) rfl (by decide)) dL_law_594 ?_
  refine lw_ci (v := v) (av := [.int (xs (i + (1 : Int32)).toNatClampNeg)]) (rest := [.int r1]) S hG hE hO hA (uM_enough l g v qM st (xs (i + (1 : Int32)).toNatClampNeg)) hMw hP hD hS (cwV 1 hts gL_law_X9_enough rfl rfl rfl (by decide +kernel) ⟨(Nat.le_of_ble_eq_true rfl), (Nat.le_of_ble_eq_true rfl)⟩) (va_recv hK (va_P_l hP) (ci := 9) (q0 := 0) rfl h0m) rfl hl.1 rfl (Nat.le_of_ble_eq_true rfl) dL_law_595 ⟨(show cells + 0 + 0 ≤ 601024 by omega), (show slots + 0 + 0 ≤ 7293034 by omega)⟩ (fun r2 u2 H locs hp hP hD hS => ?_)
  obtain ⟨e2, hMw⟩ := hp
  have hP := rtP (rtP hP)
  have hD := rtD (rtD hD)
  have ee : r1 = r2 := q_inj (e1.trans e2.symm)
  refine lv_icmp_eq (tgt := 1776) hx hb dL_law_598 (by decide) (fun _ => ?_) (fun hc => absurd ee hc)
  refine W.widen (k := cells + 40) (n := slots + 900) (by omega) (by omega) ?_
  refine kk _ _ _ fo H locs ls ?_ hXw hMw hP hD hS hl
  exact ok
set_option maxHeartbeats 800000 in
set_option maxRecDepth 100000 in
theorem lwk_11 {p : Program} {l : Launch} {e : Env} {s : State} {m : MethodId} {below : List Frame} {meth : Method} {c : Code} {g : GP} {v : GV} {z : Nat × Nat} {b L : Nat} {xs : Nat → Int32} {qX qM qo : Nat} {i : Int32} {cells slots : Nat} (C : LwC p l s m meth c g v z b L xs) (hi : 0 ≤ i.toInt ∧ i.toInt + 5 ≤ (L : Int) ∧ L ≤ 2560) (hroom : cells + 40 ≤ 601024 ∧ slots + 900 ≤ 7293034) (kk : LwN p l e s m below meth c g b qX qM qo i (cells + 40) (slots + 900) 1776) : LwN p l e s m below meth c g b qX qM qo i cells slots 603 := by
  intro st wx wm fo H locs ls ok hXw hMw hP hD hS hl
  obtain ⟨hx, hb, hr, hml, hown, hts, hXs, hbl, hlocks, hG, hE, hO, hX, hst⟩ := id C
  have hK := hG.1
  have S : CallFix p m c cL_law 7 s #[Value.ref b] wsLw RL := ⟨hx, hb, hml, hown, hts⟩
  have hA : ∀ q : Nat, s.heap.size ≤ q → lwA s q := fun _ h => h
  have hbA : ¬ lwA s b := Nat.not_le.mpr hbl
  obtain ⟨fx, h0x⟩ := hXw.hd
  obtain ⟨fm, h0m⟩ := hMw.hd
  by_cases hz : (xs (i + (2 : Int32)).toNatClampNeg) = 0
  · skip
    refine lv_aload_n hx hb dL_law_603 rfl (lv_at hl 1 rfl) ?_
    refine lv_aload_n hx hb dL_law_604 rfl (lv_at hl 0 rfl) ?_
    refine lv_iload hx hb dL_law_605 (lv_at hl 4 rfl) ?_
    refine lv_iconst (v := (1 : Int32)) hx hb dL_law_607 (by decide) ?_
    refine lv_iadd hx hb dL_law_608 ?_
    refine va_sld hx hb hXs hbl hbA hS (lw_in hi (j := 1) rfl (by decide)) dL_law_609 ?_
    refine lv_aload_n hx hb dL_law_610 rfl (lv_at hl 0 rfl) ?_
    refine lv_iload hx hb dL_law_611 (lv_at hl 4 rfl) ?_
    refine lv_iconst (v := (2 : Int32)) hx hb dL_law_613 (by decide) ?_
    refine lv_iadd hx hb dL_law_614 ?_
    refine va_sld hx hb hXs hbl hbA hS (lw_in hi (j := 2) rfl (by decide)) dL_law_615 ?_
    refine lv_if_eq (tgt := 623) hx hb dL_law_616 (by decide) (fun _ => ?_) (fun hc => absurd hz hc)
    refine lv_iconst (v := (0 : Int32)) hx hb dL_law_623 (by decide) ?_
    refine lw_ci (v := v) (av := [.int (xs (i + (1 : Int32)).toNatClampNeg), .int (0 : Int32)]) (rest := []) S hG hE hO hA (uX_better l g v qX st (xs (i + (1 : Int32)).toNatClampNeg) (0 : Int32)) hXw hP hD hS (cwV 2 hts gL_law_X8_better rfl rfl rfl (by decide +kernel) ⟨(Nat.le_of_ble_eq_true rfl), (Nat.le_of_ble_eq_true rfl)⟩) (va_recv hK (va_P_l hP) (ci := 8) (q0 := 0) rfl h0x) rfl hl.1 rfl (Nat.le_of_ble_eq_true rfl) dL_law_624 ⟨(show cells + 0 ≤ 601024 by omega), (show slots + 0 ≤ 7293034 by omega)⟩ (fun r1 u1 H locs hp hP hD hS => ?_)
    obtain ⟨e1, hXw⟩ := hp
    have hP := rtP hP
    have hD := rtD hD
    refine lv_aload_n hx hb dL_law_627 rfl (lv_at hl 2 rfl) ?_
    refine lv_aload_n hx hb dL_law_628 rfl (lv_at hl 0 rfl) ?_
    refine lv_iload hx hb dL_law_629 (lv_at hl 4 rfl) ?_
    refine lv_iconst (v := (1 : Int32)) hx hb dL_law_631 (by decide) ?_
    refine lv_iadd hx hb dL_law_632 ?_
    refine va_sld hx hb hXs hbl hbA hS (lw_in hi (j := 1) rfl (by decide)) dL_law_633 ?_
    refine lv_aload_n hx hb dL_law_634 rfl (lv_at hl 0 rfl) ?_
    refine lv_iload hx hb dL_law_635 (lv_at hl 4 rfl) ?_
    refine lv_iconst (v := (2 : Int32)) hx hb dL_law_637 (by decide) ?_
    refine lv_iadd hx hb dL_law_638 ?_
    refine va_sld hx hb hXs hbl hbA hS (lw_in hi (j := 2) rfl (by decide)) dL_law_639 ?_
    refine lv_if_eq (tgt := 647) hx hb dL_law_640 (by decide) (fun _ => ?_) (fun hc => absurd hz hc)
    refine lv_iconst (v := (0 : Int32)) hx hb dL_law_647 (by decide) ?_
    refine lw_ci (v := v) (av := [.int (xs (i + (1 : Int32)).toNatClampNeg), .int (0 : Int32)]) (rest := [.int r1]) S hG hE hO hA (uM_better l g v qM st (xs (i + (1 : Int32)).toNatClampNeg) (0 : Int32)) hMw hP hD hS (cwV 2 hts gL_law_X9_better rfl rfl rfl (by decide +kernel) ⟨(Nat.le_of_ble_eq_true rfl), (Nat.le_of_ble_eq_true rfl)⟩) (va_recv hK (va_P_l hP) (ci := 9) (q0 := 0) rfl h0m) rfl hl.1 rfl (Nat.le_of_ble_eq_true rfl) dL_law_648 ⟨(show cells + 0 + 0 ≤ 601024 by omega), (show slots + 0 + 0 ≤ 7293034 by omega)⟩ (fun r2 u2 H locs hp hP hD hS => ?_)
    obtain ⟨e2, hMw⟩ := hp
    have hP := rtP (rtP hP)
    have hD := rtD (rtD hD)
    have ee : r1 = r2 := q_inj (e1.trans e2.symm)
    refine lv_icmp_eq (tgt := 1776) hx hb dL_law_651 (by decide) (fun _ => ?_) (fun hc => absurd ee hc)
    refine W.widen (k := cells + 40) (n := slots + 900) (by omega) (by omega) ?_
    refine kk _ _ _ fo H locs ls ?_ hXw hMw hP hD hS hl
    exact ok
  · skip
    refine lv_aload_n hx hb dL_law_603 rfl (lv_at hl 1 rfl) ?_
    refine lv_aload_n hx hb dL_law_604 rfl (lv_at hl 0 rfl) ?_
    refine lv_iload hx hb dL_law_605 (lv_at hl 4 rfl) ?_
    refine lv_iconst (v := (1 : Int32)) hx hb dL_law_607 (by decide) ?_
    refine lv_iadd hx hb dL_law_608 ?_
    refine va_sld hx hb hXs hbl hbA hS (lw_in hi (j := 1) rfl (by decide)) dL_law_609 ?_
    refine lv_aload_n hx hb dL_law_610 rfl (lv_at hl 0 rfl) ?_
    refine lv_iload hx hb dL_law_611 (lv_at hl 4 rfl) ?_
    refine lv_iconst (v := (2 : Int32)) hx hb dL_law_613 (by decide) ?_
    refine lv_iadd hx hb dL_law_614 ?_
    refine va_sld hx hb hXs hbl hbA hS (lw_in hi (j := 2) rfl (by decide)) dL_law_615 ?_
    refine lv_if_eq (tgt := 623) hx hb dL_law_616 (by decide) (fun hc => absurd hc hz) (fun _ => ?_)
    refine lv_iconst (v := (1 : Int32)) hx hb dL_law_619 (by decide) ?_
    refine lv_goto (tgt := 624) hx hb dL_law_620 (by decide) ?_
    refine lw_ci (v := v) (av := [.int (xs (i + (1 : Int32)).toNatClampNeg), .int (1 : Int32)]) (rest := []) S hG hE hO hA (uX_better l g v qX st (xs (i + (1 : Int32)).toNatClampNeg) (1 : Int32)) hXw hP hD hS (cwV 2 hts gL_law_X8_better rfl rfl rfl (by decide +kernel) ⟨(Nat.le_of_ble_eq_true rfl), (Nat.le_of_ble_eq_true rfl)⟩) (va_recv hK (va_P_l hP) (ci := 8) (q0 := 0) rfl h0x) rfl hl.1 rfl (Nat.le_of_ble_eq_true rfl) dL_law_624 ⟨(show cells + 0 ≤ 601024 by omega), (show slots + 0 ≤ 7293034 by omega)⟩ (fun r1 u1 H locs hp hP hD hS => ?_)
    obtain ⟨e1, hXw⟩ := hp
    have hP := rtP hP
    have hD := rtD hD
    refine lv_aload_n hx hb dL_law_627 rfl (lv_at hl 2 rfl) ?_
    refine lv_aload_n hx hb dL_law_628 rfl (lv_at hl 0 rfl) ?_
    refine lv_iload hx hb dL_law_629 (lv_at hl 4 rfl) ?_
    refine lv_iconst (v := (1 : Int32)) hx hb dL_law_631 (by decide) ?_
    refine lv_iadd hx hb dL_law_632 ?_
    refine va_sld hx hb hXs hbl hbA hS (lw_in hi (j := 1) rfl (by decide)) dL_law_633 ?_
    refine lv_aload_n hx hb dL_law_634 rfl (lv_at hl 0 rfl) ?_
    refine lv_iload hx hb dL_law_635 (lv_at hl 4 rfl) ?_
    refine lv_iconst (v := (2 : Int32)) hx hb dL_law_637 (by decide) ?_
    refine lv_iadd hx hb dL_law_638 ?_
    refine va_sld hx hb hXs hbl hbA hS (lw_in hi (j := 2) rfl (by decide)) dL_law_639 ?_
    refine lv_if_eq (tgt := 647) hx hb dL_law_640 (by decide) (fun hc => absurd hc hz) (fun _ => ?_)
    refine lv_iconst (v := (1 : Int32)) hx hb dL_law_643 (by decide) ?_
    refine lv_goto (tgt := 648) hx hb dL_law_644 (by decide) ?_
    refine lw_ci (v := v) (av := [.int (xs (i + (1 : Int32)).toNatClampNeg), .int (1 : Int32)]) (rest := [.int r1]) S hG hE hO hA (uM_better l g v qM st (xs (i + (1 : Int32)).toNatClampNeg) (1 : Int32)) hMw hP hD hS (cwV 2 hts gL_law_X9_better rfl rfl rfl (by decide +kernel) ⟨(Nat.le_of_ble_eq_true rfl), (Nat.le_of_ble_eq_true rfl)⟩) (va_recv hK (va_P_l hP) (ci := 9) (q0 := 0) rfl h0m) rfl hl.1 rfl (Nat.le_of_ble_eq_true rfl) dL_law_648 ⟨(show cells + 0 + 0 ≤ 601024 by omega), (show slots + 0 + 0 ≤ 7293034 by omega)⟩ (fun r2 u2 H locs hp hP hD hS => ?_)
    obtain ⟨e2, hMw⟩ := hp
    have hP := rtP (rtP hP)
    have hD := rtD (rtD hD)
    have ee : r1 = r2 := q_inj (e1.trans e2.symm)
    refine lv_icmp_eq (tgt := 1776) hx hb dL_law_651 (by decide) (fun _ => ?_) (fun hc => absurd ee hc)
    refine W.widen (k := cells + 40) (n := slots + 900) (by omega) (by omega) ?_
    refine kk _ _ _ fo H locs ls ?_ hXw hMw hP hD hS hl
    exact ok
set_option maxHeartbeats 800000 in
set_option maxRecDepth 100000 in
theorem lwk_12 {p : Program} {l : Launch} {e : Env} {s : State} {m : MethodId} {below : List Frame} {meth : Method} {c : Code} {g : GP} {v : GV} {z : Nat × Nat} {b L : Nat} {xs : Nat → Int32} {qX qM qo : Nat} {i : Int32} {cells slots : Nat} (C : LwC p l s m meth c g v z b L xs) (hi : 0 ≤ i.toInt ∧ i.toInt + 5 ≤ (L : Int) ∧ L ≤ 2560) (hroom : cells + 40 ≤ 601024 ∧ slots + 900 ≤ 7293034) (kk : LwN p l e s m below meth c g b qX qM qo i (cells + 40) (slots + 900) 1776) : LwN p l e s m below meth c g b qX qM qo i cells slots 656 := by
  intro st wx wm fo H locs ls ok hXw hMw hP hD hS hl
  obtain ⟨hx, hb, hr, hml, hown, hts, hXs, hbl, hlocks, hG, hE, hO, hX, hst⟩ := id C
  have hK := hG.1
  have S : CallFix p m c cL_law 7 s #[Value.ref b] wsLw RL := ⟨hx, hb, hml, hown, hts⟩
  have hA : ∀ q : Nat, s.heap.size ≤ q → lwA s q := fun _ h => h
  have hbA : ¬ lwA s b := Nat.not_le.mpr hbl
  obtain ⟨fx, h0x⟩ := hXw.hd
  obtain ⟨fm, h0m⟩ := hMw.hd
  refine lv_aload_n hx hb dL_law_656 rfl (lv_at hl 1 rfl) ?_
  refine lv_aload_n hx hb dL_law_657 rfl (lv_at hl 0 rfl) ?_
  refine lv_iload hx hb dL_law_658 (lv_at hl 4 rfl) ?_
  refine lv_iconst (v := (1 : Int32)) hx hb dL_law_660 (by decide) ?_
  refine lv_iadd hx hb dL_law_661 ?_
  refine va_sld hx hb hXs hbl hbA hS (lw_in hi (j := 1) rfl (by decide)) dL_law_662 ?_
  refine lw_ci (v := v) (av := [.int (xs (i + (1 : Int32)).toNatClampNeg)]) (rest := []) S hG hE hO hA (uX_code l g v qX st (xs (i + (1 : Int32)).toNatClampNeg)) hXw hP hD hS (cwV 1 hts gL_law_X8_code rfl rfl rfl (by decide +kernel) ⟨(Nat.le_of_ble_eq_true rfl), (Nat.le_of_ble_eq_true rfl)⟩) (va_recv hK (va_P_l hP) (ci := 8) (q0 := 0) rfl h0x) rfl hl.1 rfl (Nat.le_of_ble_eq_true rfl) dL_law_663 ⟨(show cells + 0 ≤ 601024 by omega), (show slots + 0 ≤ 7293034 by omega)⟩ (fun r1 u1 H locs hp hP hD hS => ?_)
  obtain ⟨e1, hXw⟩ := hp
  have hP := rtP hP
  have hD := rtD hD
  refine lv_aload_n hx hb dL_law_666 rfl (lv_at hl 2 rfl) ?_
  refine lv_aload_n hx hb dL_law_667 rfl (lv_at hl 0 rfl) ?_
  refine lv_iload hx hb dL_law_668 (lv_at hl 4 rfl) ?_
  refine lv_iconst (v := (1 : Int32)) hx hb dL_law_670 (by decide) ?_
  refine lv_iadd hx hb dL_law_671 ?_
  refine va_sld hx hb hXs hbl hbA hS (lw_in hi (j := 1) rfl (by decide)) dL_law_672 ?_
  refine lw_ci (v := v) (av := [.int (xs (i + (1 : Int32)).toNatClampNeg)]) (rest := [.int r1]) S hG hE hO hA (uM_code l g v qM st (xs (i + (1 : Int32)).toNatClampNeg)) hMw hP hD hS (cwV 1 hts gL_law_X9_code rfl rfl rfl (by decide +kernel) ⟨(Nat.le_of_ble_eq_true rfl), (Nat.le_of_ble_eq_true rfl)⟩) (va_recv hK (va_P_l hP) (ci := 9) (q0 := 0) rfl h0m) rfl hl.1 rfl (Nat.le_of_ble_eq_true rfl) dL_law_673 ⟨(show cells + 0 + 0 ≤ 601024 by omega), (show slots + 0 + 0 ≤ 7293034 by omega)⟩ (fun r2 u2 H locs hp hP hD hS => ?_)
  obtain ⟨e2, hMw⟩ := hp
  have hP := rtP (rtP hP)
  have hD := rtD (rtD hD)
  have ee : r1 = r2 := q_inj (e1.trans e2.symm)
  refine lv_icmp_eq (tgt := 1776) hx hb dL_law_676 (by decide) (fun _ => ?_) (fun hc => absurd ee hc)
  refine W.widen (k := cells + 40) (n := slots + 900) (by omega) (by omega) ?_
  refine kk _ _ _ fo H locs ls ?_ hXw hMw hP hD hS hl
  exact ok
set_option maxHeartbeats 800000 in
set_option maxRecDepth 100000 in
theorem lwk_14 {p : Program} {l : Launch} {e : Env} {s : State} {m : MethodId} {below : List Frame} {meth : Method} {c : Code} {g : GP} {v : GV} {z : Nat × Nat} {b L : Nat} {xs : Nat → Int32} {qX qM qo : Nat} {i : Int32} {cells slots : Nat} (C : LwC p l s m meth c g v z b L xs) (hi : 0 ≤ i.toInt ∧ i.toInt + 5 ≤ (L : Int) ∧ L ≤ 2560) (hroom : cells + 40 ≤ 601024 ∧ slots + 900 ≤ 7293034) (kk : LwN p l e s m below meth c g b qX qM qo i (cells + 40) (slots + 900) 1776) : LwN p l e s m below meth c g b qX qM qo i cells slots 749 := by
  intro st wx wm fo H locs ls ok hXw hMw hP hD hS hl
  obtain ⟨hx, hb, hr, hml, hown, hts, hXs, hbl, hlocks, hG, hE, hO, hX, hst⟩ := id C
  have hK := hG.1
  have S : CallFix p m c cL_law 7 s #[Value.ref b] wsLw RL := ⟨hx, hb, hml, hown, hts⟩
  have hA : ∀ q : Nat, s.heap.size ≤ q → lwA s q := fun _ h => h
  have hbA : ¬ lwA s b := Nat.not_le.mpr hbl
  obtain ⟨fx, h0x⟩ := hXw.hd
  obtain ⟨fm, h0m⟩ := hMw.hd
  refine lv_aload_n hx hb dL_law_749 rfl (lv_at hl 1 rfl) ?_
  refine lv_aload_n hx hb dL_law_750 rfl (lv_at hl 0 rfl) ?_
  refine lv_iload hx hb dL_law_751 (lv_at hl 4 rfl) ?_
  refine lv_iconst (v := (1 : Int32)) hx hb dL_law_753 (by decide) ?_
  refine lv_iadd hx hb dL_law_754 ?_
  refine va_sld hx hb hXs hbl hbA hS (lw_in hi (j := 1) rfl (by decide)) dL_law_755 ?_
  refine lw_ci (v := v) (av := [.int (xs (i + (1 : Int32)).toNatClampNeg)]) (rest := []) S hG hE hO hA (uX_chip l g v qX st (xs (i + (1 : Int32)).toNatClampNeg)) hXw hP hD hS (cwV 1 hts gL_law_X8_chip rfl rfl rfl (by decide +kernel) ⟨(Nat.le_of_ble_eq_true rfl), (Nat.le_of_ble_eq_true rfl)⟩) (va_recv hK (va_P_l hP) (ci := 8) (q0 := 0) rfl h0x) rfl hl.1 rfl (Nat.le_of_ble_eq_true rfl) dL_law_756 ⟨(show cells + 0 ≤ 601024 by omega), (show slots + 0 ≤ 7293034 by omega)⟩ (fun r1 u1 H locs hp hP hD hS => ?_)
  obtain ⟨e1, hXw⟩ := hp
  have hP := rtP hP
  have hD := rtD hD
  refine lv_aload_n hx hb dL_law_759 rfl (lv_at hl 2 rfl) ?_
  refine lv_aload_n hx hb dL_law_760 rfl (lv_at hl 0 rfl) ?_
  refine lv_iload hx hb dL_law_761 (lv_at hl 4 rfl) ?_
  refine lv_iconst (v := (1 : Int32)) hx hb dL_law_763 (by decide) ?_
  refine lv_iadd hx hb dL_law_764 ?_
  refine va_sld hx hb hXs hbl hbA hS (lw_in hi (j := 1) rfl (by decide)) dL_law_765 ?_
  refine lw_ci (v := v) (av := [.int (xs (i + (1 : Int32)).toNatClampNeg)]) (rest := [.int r1]) S hG hE hO hA (uM_chip l g v qM st (xs (i + (1 : Int32)).toNatClampNeg)) hMw hP hD hS (cwV 1 hts gL_law_X9_chip rfl rfl rfl (by decide +kernel) ⟨(Nat.le_of_ble_eq_true rfl), (Nat.le_of_ble_eq_true rfl)⟩) (va_recv hK (va_P_l hP) (ci := 9) (q0 := 0) rfl h0m) rfl hl.1 rfl (Nat.le_of_ble_eq_true rfl) dL_law_766 ⟨(show cells + 0 + 0 ≤ 601024 by omega), (show slots + 0 + 0 ≤ 7293034 by omega)⟩ (fun r2 u2 H locs hp hP hD hS => ?_)
  obtain ⟨e2, hMw⟩ := hp
  have hP := rtP (rtP hP)
  have hD := rtD (rtD hD)
  have ee : r1 = r2 := q_inj (e1.trans e2.symm)
  refine lv_icmp_eq (tgt := 1776) hx hb dL_law_769 (by decide) (fun _ => ?_) (fun hc => absurd ee hc)
  refine W.widen (k := cells + 40) (n := slots + 900) (by omega) (by omega) ?_
  refine kk _ _ _ fo H locs ls ?_ hXw hMw hP hD hS hl
  exact ok
set_option maxHeartbeats 800000 in
set_option maxRecDepth 100000 in
theorem lwk_15 {p : Program} {l : Launch} {e : Env} {s : State} {m : MethodId} {below : List Frame} {meth : Method} {c : Code} {g : GP} {v : GV} {z : Nat × Nat} {b L : Nat} {xs : Nat → Int32} {qX qM qo : Nat} {i : Int32} {cells slots : Nat} (C : LwC p l s m meth c g v z b L xs) (hi : 0 ≤ i.toInt ∧ i.toInt + 5 ≤ (L : Int) ∧ L ≤ 2560) (hroom : cells + 40 ≤ 601024 ∧ slots + 900 ≤ 7293034) (kk : LwN p l e s m below meth c g b qX qM qo i (cells + 40) (slots + 900) 1776) : LwN p l e s m below meth c g b qX qM qo i cells slots 774 := by
  intro st wx wm fo H locs ls ok hXw hMw hP hD hS hl
  obtain ⟨hx, hb, hr, hml, hown, hts, hXs, hbl, hlocks, hG, hE, hO, hX, hst⟩ := id C
  have hK := hG.1
  have S : CallFix p m c cL_law 7 s #[Value.ref b] wsLw RL := ⟨hx, hb, hml, hown, hts⟩
  have hA : ∀ q : Nat, s.heap.size ≤ q → lwA s q := fun _ h => h
  have hbA : ¬ lwA s b := Nat.not_le.mpr hbl
  obtain ⟨fx, h0x⟩ := hXw.hd
  obtain ⟨fm, h0m⟩ := hMw.hd
  refine lv_aload_n hx hb dL_law_774 rfl (lv_at hl 1 rfl) ?_
  refine lv_aload_n hx hb dL_law_775 rfl (lv_at hl 0 rfl) ?_
  refine lv_iload hx hb dL_law_776 (lv_at hl 4 rfl) ?_
  refine lv_iconst (v := (1 : Int32)) hx hb dL_law_778 (by decide) ?_
  refine lv_iadd hx hb dL_law_779 ?_
  refine va_sld hx hb hXs hbl hbA hS (lw_in hi (j := 1) rfl (by decide)) dL_law_780 ?_
  refine lv_aload_n hx hb dL_law_781 rfl (lv_at hl 0 rfl) ?_
  refine lv_iload hx hb dL_law_782 (lv_at hl 4 rfl) ?_
  refine lv_iconst (v := (2 : Int32)) hx hb dL_law_784 (by decide) ?_
  refine lv_iadd hx hb dL_law_785 ?_
  refine va_sld hx hb hXs hbl hbA hS (lw_in hi (j := 2) rfl (by decide)) dL_law_786 ?_
  refine lw_ci (v := v) (av := [.int (xs (i + (1 : Int32)).toNatClampNeg), .int (xs (i + (2 : Int32)).toNatClampNeg)]) (rest := []) S hG hE hO hA (uX_full l g v qX st (xs (i + (1 : Int32)).toNatClampNeg) (xs (i + (2 : Int32)).toNatClampNeg)) hXw hP hD hS (cwV 2 hts gL_law_X8_full rfl rfl rfl (by decide +kernel) ⟨(Nat.le_of_ble_eq_true rfl), (Nat.le_of_ble_eq_true rfl)⟩) (va_recv hK (va_P_l hP) (ci := 8) (q0 := 0) rfl h0x) rfl hl.1 rfl (Nat.le_of_ble_eq_true rfl) dL_law_787 ⟨(show cells + 0 ≤ 601024 by omega), (show slots + 0 ≤ 7293034 by omega)⟩ (fun r1 u1 H locs hp hP hD hS => ?_)
  obtain ⟨e1, hXw⟩ := hp
  have hP := rtP hP
  have hD := rtD hD
  refine lv_aload_n hx hb dL_law_790 rfl (lv_at hl 2 rfl) ?_
  refine lv_aload_n hx hb dL_law_791 rfl (lv_at hl 0 rfl) ?_
  refine lv_iload hx hb dL_law_792 (lv_at hl 4 rfl) ?_
  refine lv_iconst (v := (1 : Int32)) hx hb dL_law_794 (by decide) ?_
  refine lv_iadd hx hb dL_law_795 ?_
  refine va_sld hx hb hXs hbl hbA hS (lw_in hi (j := 1) rfl (by decide)) dL_law_796 ?_
  refine lv_aload_n hx hb dL_law_797 rfl (lv_at hl 0 rfl) ?_
  refine lv_iload hx hb dL_law_798 (lv_at hl 4 rfl) ?_
  refine lv_iconst (v := (2 : Int32)) hx hb dL_law_800 (by decide) ?_
  refine lv_iadd hx hb dL_law_801 ?_
  refine va_sld hx hb hXs hbl hbA hS (lw_in hi (j := 2) rfl (by decide)) dL_law_802 ?_
  refine lw_ci (v := v) (av := [.int (xs (i + (1 : Int32)).toNatClampNeg), .int (xs (i + (2 : Int32)).toNatClampNeg)]) (rest := [.int r1]) S hG hE hO hA (uM_full l g v qM st (xs (i + (1 : Int32)).toNatClampNeg) (xs (i + (2 : Int32)).toNatClampNeg)) hMw hP hD hS (cwV 2 hts gL_law_X9_full rfl rfl rfl (by decide +kernel) ⟨(Nat.le_of_ble_eq_true rfl), (Nat.le_of_ble_eq_true rfl)⟩) (va_recv hK (va_P_l hP) (ci := 9) (q0 := 0) rfl h0m) rfl hl.1 rfl (Nat.le_of_ble_eq_true rfl) dL_law_803 ⟨(show cells + 0 + 0 ≤ 601024 by omega), (show slots + 0 + 0 ≤ 7293034 by omega)⟩ (fun r2 u2 H locs hp hP hD hS => ?_)
  obtain ⟨e2, hMw⟩ := hp
  have hP := rtP (rtP hP)
  have hD := rtD (rtD hD)
  have ee : r1 = r2 := q_inj (e1.trans e2.symm)
  refine lv_icmp_eq (tgt := 1776) hx hb dL_law_806 (by decide) (fun _ => ?_) (fun hc => absurd ee hc)
  refine W.widen (k := cells + 40) (n := slots + 900) (by omega) (by omega) ?_
  refine kk _ _ _ fo H locs ls ?_ hXw hMw hP hD hS hl
  exact ok
set_option maxHeartbeats 800000 in
set_option maxRecDepth 100000 in
theorem lwk_16 {p : Program} {l : Launch} {e : Env} {s : State} {m : MethodId} {below : List Frame} {meth : Method} {c : Code} {g : GP} {v : GV} {z : Nat × Nat} {b L : Nat} {xs : Nat → Int32} {qX qM qo : Nat} {i : Int32} {cells slots : Nat} (C : LwC p l s m meth c g v z b L xs) (hi : 0 ≤ i.toInt ∧ i.toInt + 5 ≤ (L : Int) ∧ L ≤ 2560) (hroom : cells + 40 ≤ 601024 ∧ slots + 900 ≤ 7293034) (kk : LwN p l e s m below meth c g b qX qM qo i (cells + 40) (slots + 900) 1776) : LwN p l e s m below meth c g b qX qM qo i cells slots 811 := by
  intro st wx wm fo H locs ls ok hXw hMw hP hD hS hl
  obtain ⟨hx, hb, hr, hml, hown, hts, hXs, hbl, hlocks, hG, hE, hO, hX, hst⟩ := id C
  have hK := hG.1
  have S : CallFix p m c cL_law 7 s #[Value.ref b] wsLw RL := ⟨hx, hb, hml, hown, hts⟩
  have hA : ∀ q : Nat, s.heap.size ≤ q → lwA s q := fun _ h => h
  have hbA : ¬ lwA s b := Nat.not_le.mpr hbl
  obtain ⟨fx, h0x⟩ := hXw.hd
  obtain ⟨fm, h0m⟩ := hMw.hd
  refine lv_aload_n hx hb dL_law_811 rfl (lv_at hl 1 rfl) ?_
  refine lv_aload_n hx hb dL_law_812 rfl (lv_at hl 0 rfl) ?_
  refine lv_iload hx hb dL_law_813 (lv_at hl 4 rfl) ?_
  refine lv_iconst (v := (1 : Int32)) hx hb dL_law_815 (by decide) ?_
  refine lv_iadd hx hb dL_law_816 ?_
  refine va_sld hx hb hXs hbl hbA hS (lw_in hi (j := 1) rfl (by decide)) dL_law_817 ?_
  refine lv_aload_n hx hb dL_law_818 rfl (lv_at hl 0 rfl) ?_
  refine lv_iload hx hb dL_law_819 (lv_at hl 4 rfl) ?_
  refine lv_iconst (v := (2 : Int32)) hx hb dL_law_821 (by decide) ?_
  refine lv_iadd hx hb dL_law_822 ?_
  refine va_sld hx hb hXs hbl hbA hS (lw_in hi (j := 2) rfl (by decide)) dL_law_823 ?_
  refine lw_ci (v := v) (av := [.int (xs (i + (1 : Int32)).toNatClampNeg), .int (xs (i + (2 : Int32)).toNatClampNeg)]) (rest := []) S hG hE hO hA (uX_leg l g v qX st (xs (i + (1 : Int32)).toNatClampNeg) (xs (i + (2 : Int32)).toNatClampNeg)) hXw hP hD hS (cwV 2 hts gL_law_X8_leg rfl rfl rfl (by decide +kernel) ⟨(Nat.le_of_ble_eq_true rfl), (Nat.le_of_ble_eq_true rfl)⟩) (va_recv hK (va_P_l hP) (ci := 8) (q0 := 0) rfl h0x) rfl hl.1 rfl (Nat.le_of_ble_eq_true rfl) dL_law_824 ⟨(show cells + 0 ≤ 601024 by omega), (show slots + 0 ≤ 7293034 by omega)⟩ (fun r1 u1 H locs hp hP hD hS => ?_)
  obtain ⟨e1, hXw⟩ := hp
  have hP := rtP hP
  have hD := rtD hD
  refine lv_aload_n hx hb dL_law_827 rfl (lv_at hl 2 rfl) ?_
  refine lv_aload_n hx hb dL_law_828 rfl (lv_at hl 0 rfl) ?_
  refine lv_iload hx hb dL_law_829 (lv_at hl 4 rfl) ?_
  refine lv_iconst (v := (1 : Int32)) hx hb dL_law_831 (by decide) ?_
  refine lv_iadd hx hb dL_law_832 ?_
  refine va_sld hx hb hXs hbl hbA hS (lw_in hi (j := 1) rfl (by decide)) dL_law_833 ?_
  refine lv_aload_n hx hb dL_law_834 rfl (lv_at hl 0 rfl) ?_
  refine lv_iload hx hb dL_law_835 (lv_at hl 4 rfl) ?_
  refine lv_iconst (v := (2 : Int32)) hx hb dL_law_837 (by decide) ?_
  refine lv_iadd hx hb dL_law_838 ?_
  refine va_sld hx hb hXs hbl hbA hS (lw_in hi (j := 2) rfl (by decide)) dL_law_839 ?_
  refine lw_ci (v := v) (av := [.int (xs (i + (1 : Int32)).toNatClampNeg), .int (xs (i + (2 : Int32)).toNatClampNeg)]) (rest := [.int r1]) S hG hE hO hA (uM_leg l g v qM st (xs (i + (1 : Int32)).toNatClampNeg) (xs (i + (2 : Int32)).toNatClampNeg)) hMw hP hD hS (cwV 2 hts gL_law_X9_leg rfl rfl rfl (by decide +kernel) ⟨(Nat.le_of_ble_eq_true rfl), (Nat.le_of_ble_eq_true rfl)⟩) (va_recv hK (va_P_l hP) (ci := 9) (q0 := 0) rfl h0m) rfl hl.1 rfl (Nat.le_of_ble_eq_true rfl) dL_law_840 ⟨(show cells + 0 + 0 ≤ 601024 by omega), (show slots + 0 + 0 ≤ 7293034 by omega)⟩ (fun r2 u2 H locs hp hP hD hS => ?_)
  obtain ⟨e2, hMw⟩ := hp
  have hP := rtP (rtP hP)
  have hD := rtD (rtD hD)
  have ee : r1 = r2 := q_inj (e1.trans e2.symm)
  refine lv_icmp_eq (tgt := 1776) hx hb dL_law_843 (by decide) (fun _ => ?_) (fun hc => absurd ee hc)
  refine W.widen (k := cells + 40) (n := slots + 900) (by omega) (by omega) ?_
  refine kk _ _ _ fo H locs ls ?_ hXw hMw hP hD hS hl
  exact ok
