set_option maxHeartbeats 800000 in
set_option maxRecDepth 100000 in
theorem lwk_33 {p : Program} {l : Launch} {e : Env} {s : State} {m : MethodId} {below : List Frame} {meth : Method} {c : Code} {g : GP} {v : GV} {z : Nat × Nat} {b L : Nat} {xs : Nat → Int32} {qX qM qo : Nat} {i : Int32} {cells slots : Nat} (C : LwC p l s m meth c g v z b L xs) (hi : 0 ≤ i.toInt ∧ i.toInt + 5 ≤ (L : Int) ∧ L ≤ 2560) (hroom : cells + 40 ≤ 601024 ∧ slots + 900 ≤ 7293034) (kk : LwN p l e s m below meth c g b qX qM qo i (cells + 40) (slots + 900) 1776) : LwN p l e s m below meth c g b qX qM qo i cells slots 1554 := by
  intro st wx wm fo H locs ls ok hXw hMw hP hD hS hl
  obtain ⟨hx, hb, hr, hml, hown, hts, hXs, hbl, hlocks, hG, hE, hO, hX, hst⟩ := id C
  have hK := hG.1
  have S : CallFix p m c cL_law 7 s #[Value.ref b] wsLw RL := ⟨hx, hb, hml, hown, hts⟩
  have hA : ∀ q : Nat, s.heap.size ≤ q → lwA s q := fun _ h => h
  have hbA : ¬ lwA s b := Nat.not_le.mpr hbl
  obtain ⟨fx, h0x⟩ := hXw.hd
  obtain ⟨fm, h0m⟩ := hMw.hd
  refine lv_aload_n hx hb dL_law_1554 rfl (lv_at hl 1 rfl) ?_
  refine lv_aload_n hx hb dL_law_1555 rfl (lv_at hl 0 rfl) ?_
  refine lv_iload hx hb dL_law_1556 (lv_at hl 4 rfl) ?_
  refine lv_iconst (v := (1 : Int32)) hx hb dL_law_1558 (by decide) ?_
  refine lv_iadd hx hb dL_law_1559 ?_
  refine va_sld hx hb hXs hbl hbA hS (lw_in hi (j := 1) rfl (by decide)) dL_law_1560 ?_
  refine lv_aload_n hx hb dL_law_1561 rfl (lv_at hl 0 rfl) ?_
  refine lv_iload hx hb dL_law_1562 (lv_at hl 4 rfl) ?_
  refine lv_iconst (v := (2 : Int32)) hx hb dL_law_1564 (by decide) ?_
  refine lv_iadd hx hb dL_law_1565 ?_
  refine va_sld hx hb hXs hbl hbA hS (lw_in hi (j := 2) rfl (by decide)) dL_law_1566 ?_
  refine lv_aload_n hx hb dL_law_1567 rfl (lv_at hl 0 rfl) ?_
  refine lv_iload hx hb dL_law_1568 (lv_at hl 4 rfl) ?_
  refine lv_iconst (v := (3 : Int32)) hx hb dL_law_1570 (by decide) ?_
  refine lv_iadd hx hb dL_law_1571 ?_
  refine va_sld hx hb hXs hbl hbA hS (lw_in hi (j := 3) rfl (by decide)) dL_law_1572 ?_
  refine lw_ci (v := v) (av := [.int (xs (i + (1 : Int32)).toNatClampNeg), .int (xs (i + (2 : Int32)).toNatClampNeg), .int (xs (i + (3 : Int32)).toNatClampNeg)]) (rest := []) S hG hE hO hA (uX_longer l g v qX st (xs (i + (1 : Int32)).toNatClampNeg) (xs (i + (2 : Int32)).toNatClampNeg) (xs (i + (3 : Int32)).toNatClampNeg)) hXw hP hD hS (cwV 3 hts gL_law_X8_longer rfl rfl rfl (by decide +kernel) ⟨(Nat.le_of_ble_eq_true rfl), (Nat.le_of_ble_eq_true rfl)⟩) (va_recv hK (va_P_l hP) (ci := 8) (q0 := 0) rfl h0x) rfl hl.1 rfl (Nat.le_of_ble_eq_true rfl) dL_law_1573 ⟨(show cells + 0 ≤ 601024 by omega), (show slots + 0 ≤ 7293034 by omega)⟩ (fun r1 u1 H locs hp hP hD hS => ?_)
  obtain ⟨e1, hXw⟩ := hp
  have hP := rtP hP
  have hD := rtD hD
  refine lv_aload_n hx hb dL_law_1576 rfl (lv_at hl 2 rfl) ?_
  refine lv_aload_n hx hb dL_law_1577 rfl (lv_at hl 0 rfl) ?_
  refine lv_iload hx hb dL_law_1578 (lv_at hl 4 rfl) ?_
  refine lv_iconst (v := (1 : Int32)) hx hb dL_law_1580 (by decide) ?_
  refine lv_iadd hx hb dL_law_1581 ?_
  refine va_sld hx hb hXs hbl hbA hS (lw_in hi (j := 1) rfl (by decide)) dL_law_1582 ?_
  refine lv_aload_n hx hb dL_law_1583 rfl (lv_at hl 0 rfl) ?_
  refine lv_iload hx hb dL_law_1584 (lv_at hl 4 rfl) ?_
  refine lv_iconst (v := (2 : Int32)) hx hb dL_law_1586 (by decide) ?_
  refine lv_iadd hx hb dL_law_1587 ?_
  refine va_sld hx hb hXs hbl hbA hS (lw_in hi (j := 2) rfl (by decide)) dL_law_1588 ?_
  refine lv_aload_n hx hb dL_law_1589 rfl (lv_at hl 0 rfl) ?_
  refine lv_iload hx hb dL_law_1590 (lv_at hl 4 rfl) ?_
  refine lv_iconst (v := (3 : Int32)) hx hb dL_law_1592 (by decide) ?_
  refine lv_iadd hx hb dL_law_1593 ?_
  refine va_sld hx hb hXs hbl hbA hS (lw_in hi (j := 3) rfl (by decide)) dL_law_1594 ?_
  refine lw_ci (v := v) (av := [.int (xs (i + (1 : Int32)).toNatClampNeg), .int (xs (i + (2 : Int32)).toNatClampNeg), .int (xs (i + (3 : Int32)).toNatClampNeg)]) (rest := [.int r1]) S hG hE hO hA (uM_longer l g v qM st (xs (i + (1 : Int32)).toNatClampNeg) (xs (i + (2 : Int32)).toNatClampNeg) (xs (i + (3 : Int32)).toNatClampNeg)) hMw hP hD hS (cwV 3 hts gL_law_X9_longer rfl rfl rfl (by decide +kernel) ⟨(Nat.le_of_ble_eq_true rfl), (Nat.le_of_ble_eq_true rfl)⟩) (va_recv hK (va_P_l hP) (ci := 9) (q0 := 0) rfl h0m) rfl hl.1 rfl (Nat.le_of_ble_eq_true rfl) dL_law_1595 ⟨(show cells + 0 + 0 ≤ 601024 by omega), (show slots + 0 + 0 ≤ 7293034 by omega)⟩ (fun r2 u2 H locs hp hP hD hS => ?_)
  obtain ⟨e2, hMw⟩ := hp
  have hP := rtP (rtP hP)
  have hD := rtD (rtD hD)
  have ee : r1 = r2 := q_inj (e1.trans e2.symm)
  refine lv_icmp_eq (tgt := 1776) hx hb dL_law_1598 (by decide) (fun _ => ?_) (fun hc => absurd ee hc)
  refine W.widen (k := cells + 40) (n := slots + 900) (by omega) (by omega) ?_
  refine kk _ _ _ fo H locs ls ?_ hXw hMw hP hD hS hl
  exact ok
set_option maxHeartbeats 800000 in
set_option maxRecDepth 100000 in
theorem lwk_34 {p : Program} {l : Launch} {e : Env} {s : State} {m : MethodId} {below : List Frame} {meth : Method} {c : Code} {g : GP} {v : GV} {z : Nat × Nat} {b L : Nat} {xs : Nat → Int32} {qX qM qo : Nat} {i : Int32} {cells slots : Nat} (C : LwC p l s m meth c g v z b L xs) (hi : 0 ≤ i.toInt ∧ i.toInt + 5 ≤ (L : Int) ∧ L ≤ 2560) (hroom : cells + 40 ≤ 601024 ∧ slots + 900 ≤ 7293034) (kk : LwN p l e s m below meth c g b qX qM qo i (cells + 40) (slots + 900) 1776) : LwN p l e s m below meth c g b qX qM qo i cells slots 1603 := by
  intro st wx wm fo H locs ls ok hXw hMw hP hD hS hl
  obtain ⟨hx, hb, hr, hml, hown, hts, hXs, hbl, hlocks, hG, hE, hO, hX, hst⟩ := id C
  have hK := hG.1
  have S : CallFix p m c cL_law 7 s #[Value.ref b] wsLw RL := ⟨hx, hb, hml, hown, hts⟩
  have hA : ∀ q : Nat, s.heap.size ≤ q → lwA s q := fun _ h => h
  have hbA : ¬ lwA s b := Nat.not_le.mpr hbl
  obtain ⟨fx, h0x⟩ := hXw.hd
  obtain ⟨fm, h0m⟩ := hMw.hd
  refine lv_aload_n hx hb dL_law_1603 rfl (lv_at hl 1 rfl) ?_
  refine lv_aload_n hx hb dL_law_1604 rfl (lv_at hl 0 rfl) ?_
  refine lv_iload hx hb dL_law_1605 (lv_at hl 4 rfl) ?_
  refine lv_iconst (v := (1 : Int32)) hx hb dL_law_1607 (by decide) ?_
  refine lv_iadd hx hb dL_law_1608 ?_
  refine va_sld hx hb hXs hbl hbA hS (lw_in hi (j := 1) rfl (by decide)) dL_law_1609 ?_
  refine lv_aload_n hx hb dL_law_1610 rfl (lv_at hl 0 rfl) ?_
  refine lv_iload hx hb dL_law_1611 (lv_at hl 4 rfl) ?_
  refine lv_iconst (v := (2 : Int32)) hx hb dL_law_1613 (by decide) ?_
  refine lv_iadd hx hb dL_law_1614 ?_
  refine va_sld hx hb hXs hbl hbA hS (lw_in hi (j := 2) rfl (by decide)) dL_law_1615 ?_
  refine lw_ci (v := v) (av := [.int (xs (i + (1 : Int32)).toNatClampNeg), .int (xs (i + (2 : Int32)).toNatClampNeg)]) (rest := []) S hG hE hO hA (uX_needs l g v qX st (xs (i + (1 : Int32)).toNatClampNeg) (xs (i + (2 : Int32)).toNatClampNeg)) hXw hP hD hS (cwV 2 hts gL_law_X8_needs rfl rfl rfl (by decide +kernel) ⟨(Nat.le_of_ble_eq_true rfl), (Nat.le_of_ble_eq_true rfl)⟩) (va_recv hK (va_P_l hP) (ci := 8) (q0 := 0) rfl h0x) rfl hl.1 rfl (Nat.le_of_ble_eq_true rfl) dL_law_1616 ⟨(show cells + 0 ≤ 601024 by omega), (show slots + 0 ≤ 7293034 by omega)⟩ (fun r1 u1 H locs hp hP hD hS => ?_)
  obtain ⟨e1, hXw⟩ := hp
  have hP := rtP hP
  have hD := rtD hD
  refine lv_aload_n hx hb dL_law_1619 rfl (lv_at hl 2 rfl) ?_
  refine lv_aload_n hx hb dL_law_1620 rfl (lv_at hl 0 rfl) ?_
  refine lv_iload hx hb dL_law_1621 (lv_at hl 4 rfl) ?_
  refine lv_iconst (v := (1 : Int32)) hx hb dL_law_1623 (by decide) ?_
  refine lv_iadd hx hb dL_law_1624 ?_
  refine va_sld hx hb hXs hbl hbA hS (lw_in hi (j := 1) rfl (by decide)) dL_law_1625 ?_
  refine lv_aload_n hx hb dL_law_1626 rfl (lv_at hl 0 rfl) ?_
  refine lv_iload hx hb dL_law_1627 (lv_at hl 4 rfl) ?_
  refine lv_iconst (v := (2 : Int32)) hx hb dL_law_1629 (by decide) ?_
  refine lv_iadd hx hb dL_law_1630 ?_
  refine va_sld hx hb hXs hbl hbA hS (lw_in hi (j := 2) rfl (by decide)) dL_law_1631 ?_
  refine lw_ci (v := v) (av := [.int (xs (i + (1 : Int32)).toNatClampNeg), .int (xs (i + (2 : Int32)).toNatClampNeg)]) (rest := [.int r1]) S hG hE hO hA (uM_needs l g v qM st (xs (i + (1 : Int32)).toNatClampNeg) (xs (i + (2 : Int32)).toNatClampNeg)) hMw hP hD hS (cwV 2 hts gL_law_X9_needs rfl rfl rfl (by decide +kernel) ⟨(Nat.le_of_ble_eq_true rfl), (Nat.le_of_ble_eq_true rfl)⟩) (va_recv hK (va_P_l hP) (ci := 9) (q0 := 0) rfl h0m) rfl hl.1 rfl (Nat.le_of_ble_eq_true rfl) dL_law_1632 ⟨(show cells + 0 + 0 ≤ 601024 by omega), (show slots + 0 + 0 ≤ 7293034 by omega)⟩ (fun r2 u2 H locs hp hP hD hS => ?_)
  obtain ⟨e2, hMw⟩ := hp
  have hP := rtP (rtP hP)
  have hD := rtD (rtD hD)
  have ee : r1 = r2 := q_inj (e1.trans e2.symm)
  refine lv_icmp_eq (tgt := 1776) hx hb dL_law_1635 (by decide) (fun _ => ?_) (fun hc => absurd ee hc)
  refine W.widen (k := cells + 40) (n := slots + 900) (by omega) (by omega) ?_
  refine kk _ _ _ fo H locs ls ?_ hXw hMw hP hD hS hl
  exact ok
set_option maxHeartbeats 800000 in
set_option maxRecDepth 100000 in
theorem lwk_35 {p : Program} {l : Launch} {e : Env} {s : State} {m : MethodId} {below : List Frame} {meth : Method} {c : Code} {g : GP} {v : GV} {z : Nat × Nat} {b L : Nat} {xs : Nat → Int32} {qX qM qo : Nat} {i : Int32} {cells slots : Nat} (C : LwC p l s m meth c g v z b L xs) (hi : 0 ≤ i.toInt ∧ i.toInt + 5 ≤ (L : Int) ∧ L ≤ 2560) (hroom : cells + 40 ≤ 601024 ∧ slots + 900 ≤ 7293034) (kk : LwN p l e s m below meth c g b qX qM qo i (cells + 40) (slots + 900) 1776) : LwN p l e s m below meth c g b qX qM qo i cells slots 1640 := by
  intro st wx wm fo H locs ls ok hXw hMw hP hD hS hl
  obtain ⟨hx, hb, hr, hml, hown, hts, hXs, hbl, hlocks, hG, hE, hO, hX, hst⟩ := id C
  have hK := hG.1
  have S : CallFix p m c cL_law 7 s #[Value.ref b] wsLw RL := ⟨hx, hb, hml, hown, hts⟩
  have hA : ∀ q : Nat, s.heap.size ≤ q → lwA s q := fun _ h => h
  have hbA : ¬ lwA s b := Nat.not_le.mpr hbl
  obtain ⟨fx, h0x⟩ := hXw.hd
  obtain ⟨fm, h0m⟩ := hMw.hd
  refine lv_aload_n hx hb dL_law_1640 rfl (lv_at hl 1 rfl) ?_
  refine lv_aload_n hx hb dL_law_1641 rfl (lv_at hl 0 rfl) ?_
  refine lv_iload hx hb dL_law_1642 (lv_at hl 4 rfl) ?_
  refine lv_iconst (v := (1 : Int32)) hx hb dL_law_1644 (by decide) ?_
  refine lv_iadd hx hb dL_law_1645 ?_
  refine va_sld hx hb hXs hbl hbA hS (lw_in hi (j := 1) rfl (by decide)) dL_law_1646 ?_
  refine lv_aload_n hx hb dL_law_1647 rfl (lv_at hl 0 rfl) ?_
  refine lv_iload hx hb dL_law_1648 (lv_at hl 4 rfl) ?_
  refine lv_iconst (v := (2 : Int32)) hx hb dL_law_1650 (by decide) ?_
  refine lv_iadd hx hb dL_law_1651 ?_
  refine va_sld hx hb hXs hbl hbA hS (lw_in hi (j := 2) rfl (by decide)) dL_law_1652 ?_
  refine lv_aload_n hx hb dL_law_1653 rfl (lv_at hl 0 rfl) ?_
  refine lv_iload hx hb dL_law_1654 (lv_at hl 4 rfl) ?_
  refine lv_iconst (v := (3 : Int32)) hx hb dL_law_1656 (by decide) ?_
  refine lv_iadd hx hb dL_law_1657 ?_
  refine va_sld hx hb hXs hbl hbA hS (lw_in hi (j := 3) rfl (by decide)) dL_law_1658 ?_
  refine lw_ci (v := v) (av := [.int (xs (i + (1 : Int32)).toNatClampNeg), .int (xs (i + (2 : Int32)).toNatClampNeg), .int (xs (i + (3 : Int32)).toNatClampNeg)]) (rest := []) S hG hE hO hA (uX_track l g v qX st (xs (i + (1 : Int32)).toNatClampNeg) (xs (i + (2 : Int32)).toNatClampNeg) (xs (i + (3 : Int32)).toNatClampNeg) ok) hXw hP hD hS (cwV 3 hts gL_law_X8_track rfl rfl rfl (by decide +kernel) ⟨(Nat.le_of_ble_eq_true rfl), (Nat.le_of_ble_eq_true rfl)⟩) (va_recv hK (va_P_l hP) (ci := 8) (q0 := 0) rfl h0x) rfl hl.1 rfl (Nat.le_of_ble_eq_true rfl) dL_law_1659 ⟨(show cells + 0 ≤ 601024 by omega), (show slots + 0 ≤ 7293034 by omega)⟩ (fun r1 u1 H locs hp hP hD hS => ?_)
  obtain ⟨e1, hXw⟩ := hp
  have hP := rtP hP
  have hD := rtD hD
  refine lv_aload_n hx hb dL_law_1662 rfl (lv_at hl 2 rfl) ?_
  refine lv_aload_n hx hb dL_law_1663 rfl (lv_at hl 0 rfl) ?_
  refine lv_iload hx hb dL_law_1664 (lv_at hl 4 rfl) ?_
  refine lv_iconst (v := (1 : Int32)) hx hb dL_law_1666 (by decide) ?_
  refine lv_iadd hx hb dL_law_1667 ?_
  refine va_sld hx hb hXs hbl hbA hS (lw_in hi (j := 1) rfl (by decide)) dL_law_1668 ?_
  refine lv_aload_n hx hb dL_law_1669 rfl (lv_at hl 0 rfl) ?_
  refine lv_iload hx hb dL_law_1670 (lv_at hl 4 rfl) ?_
  refine lv_iconst (v := (2 : Int32)) hx hb dL_law_1672 (by decide) ?_
  refine lv_iadd hx hb dL_law_1673 ?_
  refine va_sld hx hb hXs hbl hbA hS (lw_in hi (j := 2) rfl (by decide)) dL_law_1674 ?_
  refine lv_aload_n hx hb dL_law_1675 rfl (lv_at hl 0 rfl) ?_
  refine lv_iload hx hb dL_law_1676 (lv_at hl 4 rfl) ?_
  refine lv_iconst (v := (3 : Int32)) hx hb dL_law_1678 (by decide) ?_
  refine lv_iadd hx hb dL_law_1679 ?_
  refine va_sld hx hb hXs hbl hbA hS (lw_in hi (j := 3) rfl (by decide)) dL_law_1680 ?_
  refine lw_ci (v := v) (av := [.int (xs (i + (1 : Int32)).toNatClampNeg), .int (xs (i + (2 : Int32)).toNatClampNeg), .int (xs (i + (3 : Int32)).toNatClampNeg)]) (rest := [.int r1]) S hG hE hO hA (uM_track l g v qM st (xs (i + (1 : Int32)).toNatClampNeg) (xs (i + (2 : Int32)).toNatClampNeg) (xs (i + (3 : Int32)).toNatClampNeg) ok) hMw hP hD hS (cwV 3 hts gL_law_X9_track rfl rfl rfl (by decide +kernel) ⟨(Nat.le_of_ble_eq_true rfl), (Nat.le_of_ble_eq_true rfl)⟩) (va_recv hK (va_P_l hP) (ci := 9) (q0 := 0) rfl h0m) rfl hl.1 rfl (Nat.le_of_ble_eq_true rfl) dL_law_1681 ⟨(show cells + 0 + 0 ≤ 601024 by omega), (show slots + 0 + 0 ≤ 7293034 by omega)⟩ (fun r2 u2 H locs hp hP hD hS => ?_)
  obtain ⟨e2, hMw⟩ := hp
  have hP := rtP (rtP hP)
  have hD := rtD (rtD hD)
  have ee : r1 = r2 := q_inj (e1.trans e2.symm)
  refine lv_icmp_eq (tgt := 1776) hx hb dL_law_1684 (by decide) (fun _ => ?_) (fun hc => absurd ee hc)
  refine W.widen (k := cells + 40) (n := slots + 900) (by omega) (by omega) ?_
  refine kk _ _ _ fo H locs ls ?_ hXw hMw hP hD hS hl
  exact ok
set_option maxHeartbeats 800000 in
set_option maxRecDepth 100000 in
theorem lwk_36 {p : Program} {l : Launch} {e : Env} {s : State} {m : MethodId} {below : List Frame} {meth : Method} {c : Code} {g : GP} {v : GV} {z : Nat × Nat} {b L : Nat} {xs : Nat → Int32} {qX qM qo : Nat} {i : Int32} {cells slots : Nat} (C : LwC p l s m meth c g v z b L xs) (hi : 0 ≤ i.toInt ∧ i.toInt + 5 ≤ (L : Int) ∧ L ≤ 2560) (hroom : cells + 40 ≤ 601024 ∧ slots + 900 ≤ 7293034) (kk : LwN p l e s m below meth c g b qX qM qo i (cells + 40) (slots + 900) 1776) : LwN p l e s m below meth c g b qX qM qo i cells slots 1689 := by
  intro st wx wm fo H locs ls ok hXw hMw hP hD hS hl
  obtain ⟨hx, hb, hr, hml, hown, hts, hXs, hbl, hlocks, hG, hE, hO, hX, hst⟩ := id C
  have hK := hG.1
  have S : CallFix p m c cL_law 7 s #[Value.ref b] wsLw RL := ⟨hx, hb, hml, hown, hts⟩
  have hA : ∀ q : Nat, s.heap.size ≤ q → lwA s q := fun _ h => h
  have hbA : ¬ lwA s b := Nat.not_le.mpr hbl
  obtain ⟨fx, h0x⟩ := hXw.hd
  obtain ⟨fm, h0m⟩ := hMw.hd
  refine lv_aload_n hx hb dL_law_1689 rfl (lv_at hl 1 rfl) ?_
  refine lv_aload_n hx hb dL_law_1690 rfl (lv_at hl 0 rfl) ?_
  refine lv_iload hx hb dL_law_1691 (lv_at hl 4 rfl) ?_
  refine lv_iconst (v := (1 : Int32)) hx hb dL_law_1693 (by decide) ?_
  refine lv_iadd hx hb dL_law_1694 ?_
  refine va_sld hx hb hXs hbl hbA hS (lw_in hi (j := 1) rfl (by decide)) dL_law_1695 ?_
  refine lv_aload_n hx hb dL_law_1696 rfl (lv_at hl 0 rfl) ?_
  refine lv_iload hx hb dL_law_1697 (lv_at hl 4 rfl) ?_
  refine lv_iconst (v := (2 : Int32)) hx hb dL_law_1699 (by decide) ?_
  refine lv_iadd hx hb dL_law_1700 ?_
  refine va_sld hx hb hXs hbl hbA hS (lw_in hi (j := 2) rfl (by decide)) dL_law_1701 ?_
  refine lw_ci (v := v) (av := [.int (xs (i + (1 : Int32)).toNatClampNeg), .int (xs (i + (2 : Int32)).toNatClampNeg)]) (rest := []) S hG hE hO hA (uX_silent l g v qX st (xs (i + (1 : Int32)).toNatClampNeg) (xs (i + (2 : Int32)).toNatClampNeg)) hXw hP hD hS (cwV 2 hts gL_law_X8_silent rfl rfl rfl (by decide +kernel) ⟨(Nat.le_of_ble_eq_true rfl), (Nat.le_of_ble_eq_true rfl)⟩) (va_recv hK (va_P_l hP) (ci := 8) (q0 := 0) rfl h0x) rfl hl.1 rfl (Nat.le_of_ble_eq_true rfl) dL_law_1702 ⟨(show cells + 0 ≤ 601024 by omega), (show slots + 0 ≤ 7293034 by omega)⟩ (fun r1 u1 H locs hp hP hD hS => ?_)
  obtain ⟨e1, hXw⟩ := hp
  have hP := rtP hP
  have hD := rtD hD
  refine lv_aload_n hx hb dL_law_1705 rfl (lv_at hl 2 rfl) ?_
  refine lv_aload_n hx hb dL_law_1706 rfl (lv_at hl 0 rfl) ?_
  refine lv_iload hx hb dL_law_1707 (lv_at hl 4 rfl) ?_
  refine lv_iconst (v := (1 : Int32)) hx hb dL_law_1709 (by decide) ?_
  refine lv_iadd hx hb dL_law_1710 ?_
  refine va_sld hx hb hXs hbl hbA hS (lw_in hi (j := 1) rfl (by decide)) dL_law_1711 ?_
  refine lv_aload_n hx hb dL_law_1712 rfl (lv_at hl 0 rfl) ?_
  refine lv_iload hx hb dL_law_1713 (lv_at hl 4 rfl) ?_
  refine lv_iconst (v := (2 : Int32)) hx hb dL_law_1715 (by decide) ?_
  refine lv_iadd hx hb dL_law_1716 ?_
  refine va_sld hx hb hXs hbl hbA hS (lw_in hi (j := 2) rfl (by decide)) dL_law_1717 ?_
  refine lw_ci (v := v) (av := [.int (xs (i + (1 : Int32)).toNatClampNeg), .int (xs (i + (2 : Int32)).toNatClampNeg)]) (rest := [.int r1]) S hG hE hO hA (uM_silent l g v qM st (xs (i + (1 : Int32)).toNatClampNeg) (xs (i + (2 : Int32)).toNatClampNeg)) hMw hP hD hS (cwV 2 hts gL_law_X9_silent rfl rfl rfl (by decide +kernel) ⟨(Nat.le_of_ble_eq_true rfl), (Nat.le_of_ble_eq_true rfl)⟩) (va_recv hK (va_P_l hP) (ci := 9) (q0 := 0) rfl h0m) rfl hl.1 rfl (Nat.le_of_ble_eq_true rfl) dL_law_1718 ⟨(show cells + 0 + 0 ≤ 601024 by omega), (show slots + 0 + 0 ≤ 7293034 by omega)⟩ (fun r2 u2 H locs hp hP hD hS => ?_)
  obtain ⟨e2, hMw⟩ := hp
  have hP := rtP (rtP hP)
  have hD := rtD (rtD hD)
  have ee : r1 = r2 := q_inj (e1.trans e2.symm)
  refine lv_icmp_eq (tgt := 1776) hx hb dL_law_1721 (by decide) (fun _ => ?_) (fun hc => absurd ee hc)
  refine W.widen (k := cells + 40) (n := slots + 900) (by omega) (by omega) ?_
  refine kk _ _ _ fo H locs ls ?_ hXw hMw hP hD hS hl
  exact ok
set_option maxHeartbeats 800000 in
set_option maxRecDepth 100000 in
theorem lwk_37 {p : Program} {l : Launch} {e : Env} {s : State} {m : MethodId} {below : List Frame} {meth : Method} {c : Code} {g : GP} {v : GV} {z : Nat × Nat} {b L : Nat} {xs : Nat → Int32} {qX qM qo : Nat} {i : Int32} {cells slots : Nat} (C : LwC p l s m meth c g v z b L xs) (hi : 0 ≤ i.toInt ∧ i.toInt + 5 ≤ (L : Int) ∧ L ≤ 2560) (hroom : cells + 40 ≤ 601024 ∧ slots + 900 ≤ 7293034) (kk : LwN p l e s m below meth c g b qX qM qo i (cells + 40) (slots + 900) 1776) : LwN p l e s m below meth c g b qX qM qo i cells slots 1726 := by
  intro st wx wm fo H locs ls ok hXw hMw hP hD hS hl
  obtain ⟨hx, hb, hr, hml, hown, hts, hXs, hbl, hlocks, hG, hE, hO, hX, hst⟩ := id C
  have hK := hG.1
  have S : CallFix p m c cL_law 7 s #[Value.ref b] wsLw RL := ⟨hx, hb, hml, hown, hts⟩
  have hA : ∀ q : Nat, s.heap.size ≤ q → lwA s q := fun _ h => h
  have hbA : ¬ lwA s b := Nat.not_le.mpr hbl
  obtain ⟨fx, h0x⟩ := hXw.hd
  obtain ⟨fm, h0m⟩ := hMw.hd
  by_cases hk : 0 ≤ (xs (i + (1 : Int32)).toNatClampNeg).toInt ∧ (xs (i + (1 : Int32)).toNatClampNeg).toInt ≤ 2
  · cases hPk : st.2 (xs (i + (1 : Int32)).toNatClampNeg).toInt.toNat with
    | none =>
      refine lv_aload_n hx hb dL_law_1726 rfl (lv_at hl 1 rfl) ?_
      refine lv_aload_n hx hb dL_law_1727 rfl (lv_at hl 0 rfl) ?_
      refine lv_iload hx hb dL_law_1728 (lv_at hl 4 rfl) ?_
      refine lv_iconst (v := (1 : Int32)) hx hb dL_law_1730 (by decide) ?_
      refine lv_iadd hx hb dL_law_1731 ?_
      refine va_sld hx hb hXs hbl hbA hS (lw_in hi (j := 1) rfl (by decide)) dL_law_1732 ?_
      refine lw_ci (v := v) (av := [.int (xs (i + (1 : Int32)).toNatClampNeg)]) (rest := []) S hG hE hO hA (uX_image_n l g v qX st (xs (i + (1 : Int32)).toNatClampNeg) hk hPk) hXw hP hD hS (cwV 1 hts gL_law_X8_image rfl rfl rfl (by decide +kernel) ⟨(Nat.le_of_ble_eq_true rfl), (Nat.le_of_ble_eq_true rfl)⟩) (va_recv hK (va_P_l hP) (ci := 8) (q0 := 0) rfl h0x) rfl hl.1 rfl (Nat.le_of_ble_eq_true rfl) dL_law_1733 ⟨(show cells + 17 ≤ 601024 by omega), (show slots + 610 ≤ 7293034 by omega)⟩ (fun r1 u1 H locs hp hP hD hS => ?_)
      obtain ⟨e1, hXw⟩ := hp
      have hP := rtP hP
      have hD := rtD hD
      refine lv_aload_n hx hb dL_law_1736 rfl (lv_at hl 2 rfl) ?_
      refine lv_aload_n hx hb dL_law_1737 rfl (lv_at hl 0 rfl) ?_
      refine lv_iload hx hb dL_law_1738 (lv_at hl 4 rfl) ?_
      refine lv_iconst (v := (1 : Int32)) hx hb dL_law_1740 (by decide) ?_
      refine lv_iadd hx hb dL_law_1741 ?_
      refine va_sld hx hb hXs hbl hbA hS (lw_in hi (j := 1) rfl (by decide)) dL_law_1742 ?_
      refine lw_ci (v := v) (av := [.int (xs (i + (1 : Int32)).toNatClampNeg)]) (rest := [.int r1]) S hG hE hO hA (uM_image l g v qM st (xs (i + (1 : Int32)).toNatClampNeg)) hMw hP hD hS (cwV 1 hts gL_law_X9_image rfl rfl rfl (by decide +kernel) ⟨(Nat.le_of_ble_eq_true rfl), (Nat.le_of_ble_eq_true rfl)⟩) (va_recv hK (va_P_l hP) (ci := 9) (q0 := 0) rfl h0m) rfl hl.1 rfl (Nat.le_of_ble_eq_true rfl) dL_law_1743 ⟨(show cells + 17 + 0 ≤ 601024 by omega), (show slots + 610 + 0 ≤ 7293034 by omega)⟩ (fun r2 u2 H locs hp hP hD hS => ?_)
      obtain ⟨e2, hMw⟩ := hp
      have hP := rtP (rtP hP)
      have hD := rtD (rtD hD)
      have ee : r1 = r2 := q_inj (e1.trans e2.symm)
      refine lv_icmp_eq (tgt := 1776) hx hb dL_law_1746 (by decide) (fun _ => ?_) (fun hc => absurd ee hc)
      refine W.widen (k := cells + 40) (n := slots + 900) (by omega) (by omega) ?_
      refine kk _ _ _ fo H locs ls ?_ hXw hMw hP hD hS hl
      exact okS_im ok _
    | some P1 =>
      refine lv_aload_n hx hb dL_law_1726 rfl (lv_at hl 1 rfl) ?_
      refine lv_aload_n hx hb dL_law_1727 rfl (lv_at hl 0 rfl) ?_
      refine lv_iload hx hb dL_law_1728 (lv_at hl 4 rfl) ?_
      refine lv_iconst (v := (1 : Int32)) hx hb dL_law_1730 (by decide) ?_
      refine lv_iadd hx hb dL_law_1731 ?_
      refine va_sld hx hb hXs hbl hbA hS (lw_in hi (j := 1) rfl (by decide)) dL_law_1732 ?_
      refine lw_ci (v := v) (av := [.int (xs (i + (1 : Int32)).toNatClampNeg)]) (rest := []) S hG hE hO hA (uX_image_o l g v qX st (xs (i + (1 : Int32)).toNatClampNeg) hk P1 hPk) hXw hP hD hS (cwV 1 hts gL_law_X8_image rfl rfl rfl (by decide +kernel) ⟨(Nat.le_of_ble_eq_true rfl), (Nat.le_of_ble_eq_true rfl)⟩) (va_recv hK (va_P_l hP) (ci := 8) (q0 := 0) rfl h0x) rfl hl.1 rfl (Nat.le_of_ble_eq_true rfl) dL_law_1733 ⟨(show cells + 0 ≤ 601024 by omega), (show slots + 0 ≤ 7293034 by omega)⟩ (fun r1 u1 H locs hp hP hD hS => ?_)
      obtain ⟨e1, hXw⟩ := hp
      have hP := rtP hP
      have hD := rtD hD
      refine lv_aload_n hx hb dL_law_1736 rfl (lv_at hl 2 rfl) ?_
      refine lv_aload_n hx hb dL_law_1737 rfl (lv_at hl 0 rfl) ?_
      refine lv_iload hx hb dL_law_1738 (lv_at hl 4 rfl) ?_
      refine lv_iconst (v := (1 : Int32)) hx hb dL_law_1740 (by decide) ?_
      refine lv_iadd hx hb dL_law_1741 ?_
      refine va_sld hx hb hXs hbl hbA hS (lw_in hi (j := 1) rfl (by decide)) dL_law_1742 ?_
      refine lw_ci (v := v) (av := [.int (xs (i + (1 : Int32)).toNatClampNeg)]) (rest := [.int r1]) S hG hE hO hA (uM_image l g v qM st (xs (i + (1 : Int32)).toNatClampNeg)) hMw hP hD hS (cwV 1 hts gL_law_X9_image rfl rfl rfl (by decide +kernel) ⟨(Nat.le_of_ble_eq_true rfl), (Nat.le_of_ble_eq_true rfl)⟩) (va_recv hK (va_P_l hP) (ci := 9) (q0 := 0) rfl h0m) rfl hl.1 rfl (Nat.le_of_ble_eq_true rfl) dL_law_1743 ⟨(show cells + 0 + 0 ≤ 601024 by omega), (show slots + 0 + 0 ≤ 7293034 by omega)⟩ (fun r2 u2 H locs hp hP hD hS => ?_)
      obtain ⟨e2, hMw⟩ := hp
      have hP := rtP (rtP hP)
      have hD := rtD (rtD hD)
      have ee : r1 = r2 := q_inj (e1.trans e2.symm)
      refine lv_icmp_eq (tgt := 1776) hx hb dL_law_1746 (by decide) (fun _ => ?_) (fun hc => absurd ee hc)
      refine W.widen (k := cells + 40) (n := slots + 900) (by omega) (by omega) ?_
      refine kk _ _ _ fo H locs ls ?_ hXw hMw hP hD hS hl
      exact okS_im ok _
  · skip
    refine lv_aload_n hx hb dL_law_1726 rfl (lv_at hl 1 rfl) ?_
    refine lv_aload_n hx hb dL_law_1727 rfl (lv_at hl 0 rfl) ?_
    refine lv_iload hx hb dL_law_1728 (lv_at hl 4 rfl) ?_
    refine lv_iconst (v := (1 : Int32)) hx hb dL_law_1730 (by decide) ?_
    refine lv_iadd hx hb dL_law_1731 ?_
    refine va_sld hx hb hXs hbl hbA hS (lw_in hi (j := 1) rfl (by decide)) dL_law_1732 ?_
    refine lw_ci (v := v) (av := [.int (xs (i + (1 : Int32)).toNatClampNeg)]) (rest := []) S hG hE hO hA (uX_image_x l g v qX st (xs (i + (1 : Int32)).toNatClampNeg) hk) hXw hP hD hS (cwV 1 hts gL_law_X8_image rfl rfl rfl (by decide +kernel) ⟨(Nat.le_of_ble_eq_true rfl), (Nat.le_of_ble_eq_true rfl)⟩) (va_recv hK (va_P_l hP) (ci := 8) (q0 := 0) rfl h0x) rfl hl.1 rfl (Nat.le_of_ble_eq_true rfl) dL_law_1733 ⟨(show cells + 0 ≤ 601024 by omega), (show slots + 0 ≤ 7293034 by omega)⟩ (fun r1 u1 H locs hp hP hD hS => ?_)
    obtain ⟨e1, hXw⟩ := hp
    have hP := rtP hP
    have hD := rtD hD
    refine lv_aload_n hx hb dL_law_1736 rfl (lv_at hl 2 rfl) ?_
    refine lv_aload_n hx hb dL_law_1737 rfl (lv_at hl 0 rfl) ?_
    refine lv_iload hx hb dL_law_1738 (lv_at hl 4 rfl) ?_
    refine lv_iconst (v := (1 : Int32)) hx hb dL_law_1740 (by decide) ?_
    refine lv_iadd hx hb dL_law_1741 ?_
    refine va_sld hx hb hXs hbl hbA hS (lw_in hi (j := 1) rfl (by decide)) dL_law_1742 ?_
    refine lw_ci (v := v) (av := [.int (xs (i + (1 : Int32)).toNatClampNeg)]) (rest := [.int r1]) S hG hE hO hA (uM_image l g v qM st (xs (i + (1 : Int32)).toNatClampNeg)) hMw hP hD hS (cwV 1 hts gL_law_X9_image rfl rfl rfl (by decide +kernel) ⟨(Nat.le_of_ble_eq_true rfl), (Nat.le_of_ble_eq_true rfl)⟩) (va_recv hK (va_P_l hP) (ci := 9) (q0 := 0) rfl h0m) rfl hl.1 rfl (Nat.le_of_ble_eq_true rfl) dL_law_1743 ⟨(show cells + 0 + 0 ≤ 601024 by omega), (show slots + 0 + 0 ≤ 7293034 by omega)⟩ (fun r2 u2 H locs hp hP hD hS => ?_)
    obtain ⟨e2, hMw⟩ := hp
    have hP := rtP (rtP hP)
    have hD := rtD (rtD hD)
    have ee : r1 = r2 := q_inj (e1.trans e2.symm)
    refine lv_icmp_eq (tgt := 1776) hx hb dL_law_1746 (by decide) (fun _ => ?_) (fun hc => absurd ee hc)
    refine W.widen (k := cells + 40) (n := slots + 900) (by omega) (by omega) ?_
    refine kk _ _ _ fo H locs ls ?_ hXw hMw hP hD hS hl
    exact okS_im ok _
set_option maxHeartbeats 800000 in
set_option maxRecDepth 100000 in
theorem lwk_38 {p : Program} {l : Launch} {e : Env} {s : State} {m : MethodId} {below : List Frame} {meth : Method} {c : Code} {g : GP} {v : GV} {z : Nat × Nat} {b L : Nat} {xs : Nat → Int32} {qX qM qo : Nat} {i : Int32} {cells slots : Nat} (C : LwC p l s m meth c g v z b L xs) (hi : 0 ≤ i.toInt ∧ i.toInt + 5 ≤ (L : Int) ∧ L ≤ 2560) (hroom : cells + 40 ≤ 601024 ∧ slots + 900 ≤ 7293034) (kk : LwN p l e s m below meth c g b qX qM qo i (cells + 40) (slots + 900) 1776) : LwN p l e s m below meth c g b qX qM qo i cells slots 1751 := by
  intro st wx wm fo H locs ls ok hXw hMw hP hD hS hl
  obtain ⟨hx, hb, hr, hml, hown, hts, hXs, hbl, hlocks, hG, hE, hO, hX, hst⟩ := id C
  have hK := hG.1
  have S : CallFix p m c cL_law 7 s #[Value.ref b] wsLw RL := ⟨hx, hb, hml, hown, hts⟩
  have hA : ∀ q : Nat, s.heap.size ≤ q → lwA s q := fun _ h => h
  have hbA : ¬ lwA s b := Nat.not_le.mpr hbl
  obtain ⟨fx, h0x⟩ := hXw.hd
  obtain ⟨fm, h0m⟩ := hMw.hd
  by_cases hk : 0 ≤ (xs (i + (1 : Int32)).toNatClampNeg).toInt ∧ (xs (i + (1 : Int32)).toNatClampNeg).toInt ≤ 2
  · cases hPk : st.2 (xs (i + (1 : Int32)).toNatClampNeg).toInt.toNat with
    | none =>
      refine lv_aload_n hx hb dL_law_1751 rfl (lv_at hl 1 rfl) ?_
      refine lv_aload_n hx hb dL_law_1752 rfl (lv_at hl 0 rfl) ?_
      refine lv_iload hx hb dL_law_1753 (lv_at hl 4 rfl) ?_
      refine lv_iconst (v := (1 : Int32)) hx hb dL_law_1755 (by decide) ?_
      refine lv_iadd hx hb dL_law_1756 ?_
      refine va_sld hx hb hXs hbl hbA hS (lw_in hi (j := 1) rfl (by decide)) dL_law_1757 ?_
      refine lw_ci (v := v) (av := [.int (xs (i + (1 : Int32)).toNatClampNeg)]) (rest := []) S hG hE hO hA (uX_again_n l g v qX st (xs (i + (1 : Int32)).toNatClampNeg) hk hPk) hXw hP hD hS (cwV 1 hts gL_law_X8_again rfl rfl rfl (by decide +kernel) ⟨(Nat.le_of_ble_eq_true rfl), (Nat.le_of_ble_eq_true rfl)⟩) (va_recv hK (va_P_l hP) (ci := 8) (q0 := 0) rfl h0x) rfl hl.1 rfl (Nat.le_of_ble_eq_true rfl) dL_law_1758 ⟨(show cells + 0 ≤ 601024 by omega), (show slots + 0 ≤ 7293034 by omega)⟩ (fun r1 u1 H locs hp hP hD hS => ?_)
      obtain ⟨e1, hXw⟩ := hp
      have hP := rtP hP
      have hD := rtD hD
      refine lv_aload_n hx hb dL_law_1761 rfl (lv_at hl 2 rfl) ?_
      refine lv_aload_n hx hb dL_law_1762 rfl (lv_at hl 0 rfl) ?_
      refine lv_iload hx hb dL_law_1763 (lv_at hl 4 rfl) ?_
      refine lv_iconst (v := (1 : Int32)) hx hb dL_law_1765 (by decide) ?_
      refine lv_iadd hx hb dL_law_1766 ?_
      refine va_sld hx hb hXs hbl hbA hS (lw_in hi (j := 1) rfl (by decide)) dL_law_1767 ?_
      refine lw_ci (v := v) (av := [.int (xs (i + (1 : Int32)).toNatClampNeg)]) (rest := [.int r1]) S hG hE hO hA (uM_again l g v qM st (xs (i + (1 : Int32)).toNatClampNeg)) hMw hP hD hS (cwV 1 hts gL_law_X9_again rfl rfl rfl (by decide +kernel) ⟨(Nat.le_of_ble_eq_true rfl), (Nat.le_of_ble_eq_true rfl)⟩) (va_recv hK (va_P_l hP) (ci := 9) (q0 := 0) rfl h0m) rfl hl.1 rfl (Nat.le_of_ble_eq_true rfl) dL_law_1768 ⟨(show cells + 0 + 0 ≤ 601024 by omega), (show slots + 0 + 0 ≤ 7293034 by omega)⟩ (fun r2 u2 H locs hp hP hD hS => ?_)
      obtain ⟨e2, hMw⟩ := hp
      have hP := rtP (rtP hP)
      have hD := rtD (rtD hD)
      have ee : r1 = r2 := q_inj (e1.trans e2.symm)
      refine lv_icmp_eq (tgt := 1776) hx hb dL_law_1771 (by decide) (fun _ => ?_) (fun hc => absurd ee hc)
      refine W.widen (k := cells + 40) (n := slots + 900) (by omega) (by omega) ?_
      refine kk _ _ _ fo H locs ls ?_ hXw hMw hP hD hS hl
      exact okS_ag ok _
    | some P1 =>
      refine lv_aload_n hx hb dL_law_1751 rfl (lv_at hl 1 rfl) ?_
      refine lv_aload_n hx hb dL_law_1752 rfl (lv_at hl 0 rfl) ?_
      refine lv_iload hx hb dL_law_1753 (lv_at hl 4 rfl) ?_
      refine lv_iconst (v := (1 : Int32)) hx hb dL_law_1755 (by decide) ?_
      refine lv_iadd hx hb dL_law_1756 ?_
      refine va_sld hx hb hXs hbl hbA hS (lw_in hi (j := 1) rfl (by decide)) dL_law_1757 ?_
      refine lw_ci (v := v) (av := [.int (xs (i + (1 : Int32)).toNatClampNeg)]) (rest := []) S hG hE hO hA (uX_again_o l g v qX st (xs (i + (1 : Int32)).toNatClampNeg) hk P1 hPk) hXw hP hD hS (cwV 1 hts gL_law_X8_again rfl rfl rfl (by decide +kernel) ⟨(Nat.le_of_ble_eq_true rfl), (Nat.le_of_ble_eq_true rfl)⟩) (va_recv hK (va_P_l hP) (ci := 8) (q0 := 0) rfl h0x) rfl hl.1 rfl (Nat.le_of_ble_eq_true rfl) dL_law_1758 ⟨(show cells + 0 ≤ 601024 by omega), (show slots + 0 ≤ 7293034 by omega)⟩ (fun r1 u1 H locs hp hP hD hS => ?_)
      obtain ⟨e1, hXw⟩ := hp
      have hP := rtP hP
      have hD := rtD hD
      refine lv_aload_n hx hb dL_law_1761 rfl (lv_at hl 2 rfl) ?_
      refine lv_aload_n hx hb dL_law_1762 rfl (lv_at hl 0 rfl) ?_
      refine lv_iload hx hb dL_law_1763 (lv_at hl 4 rfl) ?_
      refine lv_iconst (v := (1 : Int32)) hx hb dL_law_1765 (by decide) ?_
      refine lv_iadd hx hb dL_law_1766 ?_
      refine va_sld hx hb hXs hbl hbA hS (lw_in hi (j := 1) rfl (by decide)) dL_law_1767 ?_
      refine lw_ci (v := v) (av := [.int (xs (i + (1 : Int32)).toNatClampNeg)]) (rest := [.int r1]) S hG hE hO hA (uM_again l g v qM st (xs (i + (1 : Int32)).toNatClampNeg)) hMw hP hD hS (cwV 1 hts gL_law_X9_again rfl rfl rfl (by decide +kernel) ⟨(Nat.le_of_ble_eq_true rfl), (Nat.le_of_ble_eq_true rfl)⟩) (va_recv hK (va_P_l hP) (ci := 9) (q0 := 0) rfl h0m) rfl hl.1 rfl (Nat.le_of_ble_eq_true rfl) dL_law_1768 ⟨(show cells + 0 + 0 ≤ 601024 by omega), (show slots + 0 + 0 ≤ 7293034 by omega)⟩ (fun r2 u2 H locs hp hP hD hS => ?_)
      obtain ⟨e2, hMw⟩ := hp
      have hP := rtP (rtP hP)
      have hD := rtD (rtD hD)
      have ee : r1 = r2 := q_inj (e1.trans e2.symm)
      refine lv_icmp_eq (tgt := 1776) hx hb dL_law_1771 (by decide) (fun _ => ?_) (fun hc => absurd ee hc)
      refine W.widen (k := cells + 40) (n := slots + 900) (by omega) (by omega) ?_
      refine kk _ _ _ fo H locs ls ?_ hXw hMw hP hD hS hl
      exact okS_ag ok _
  · skip
    refine lv_aload_n hx hb dL_law_1751 rfl (lv_at hl 1 rfl) ?_
    refine lv_aload_n hx hb dL_law_1752 rfl (lv_at hl 0 rfl) ?_
    refine lv_iload hx hb dL_law_1753 (lv_at hl 4 rfl) ?_
    refine lv_iconst (v := (1 : Int32)) hx hb dL_law_1755 (by decide) ?_
    refine lv_iadd hx hb dL_law_1756 ?_
    refine va_sld hx hb hXs hbl hbA hS (lw_in hi (j := 1) rfl (by decide)) dL_law_1757 ?_
    refine lw_ci (v := v) (av := [.int (xs (i + (1 : Int32)).toNatClampNeg)]) (rest := []) S hG hE hO hA (uX_again_x l g v qX st (xs (i + (1 : Int32)).toNatClampNeg) hk) hXw hP hD hS (cwV 1 hts gL_law_X8_again rfl rfl rfl (by decide +kernel) ⟨(Nat.le_of_ble_eq_true rfl), (Nat.le_of_ble_eq_true rfl)⟩) (va_recv hK (va_P_l hP) (ci := 8) (q0 := 0) rfl h0x) rfl hl.1 rfl (Nat.le_of_ble_eq_true rfl) dL_law_1758 ⟨(show cells + 0 ≤ 601024 by omega), (show slots + 0 ≤ 7293034 by omega)⟩ (fun r1 u1 H locs hp hP hD hS => ?_)
    obtain ⟨e1, hXw⟩ := hp
    have hP := rtP hP
    have hD := rtD hD
    refine lv_aload_n hx hb dL_law_1761 rfl (lv_at hl 2 rfl) ?_
    refine lv_aload_n hx hb dL_law_1762 rfl (lv_at hl 0 rfl) ?_
    refine lv_iload hx hb dL_law_1763 (lv_at hl 4 rfl) ?_
    refine lv_iconst (v := (1 : Int32)) hx hb dL_law_1765 (by decide) ?_
    refine lv_iadd hx hb dL_law_1766 ?_
    refine va_sld hx hb hXs hbl hbA hS (lw_in hi (j := 1) rfl (by decide)) dL_law_1767 ?_
    refine lw_ci (v := v) (av := [.int (xs (i + (1 : Int32)).toNatClampNeg)]) (rest := [.int r1]) S hG hE hO hA (uM_again l g v qM st (xs (i + (1 : Int32)).toNatClampNeg)) hMw hP hD hS (cwV 1 hts gL_law_X9_again rfl rfl rfl (by decide +kernel) ⟨(Nat.le_of_ble_eq_true rfl), (Nat.le_of_ble_eq_true rfl)⟩) (va_recv hK (va_P_l hP) (ci := 9) (q0 := 0) rfl h0m) rfl hl.1 rfl (Nat.le_of_ble_eq_true rfl) dL_law_1768 ⟨(show cells + 0 + 0 ≤ 601024 by omega), (show slots + 0 + 0 ≤ 7293034 by omega)⟩ (fun r2 u2 H locs hp hP hD hS => ?_)
    obtain ⟨e2, hMw⟩ := hp
    have hP := rtP (rtP hP)
    have hD := rtD (rtD hD)
    have ee : r1 = r2 := q_inj (e1.trans e2.symm)
    refine lv_icmp_eq (tgt := 1776) hx hb dL_law_1771 (by decide) (fun _ => ?_) (fun hc => absurd ee hc)
    refine W.widen (k := cells + 40) (n := slots + 900) (by omega) (by omega) ?_
    refine kk _ _ _ fo H locs ls ?_ hXw hMw hP hD hS hl
    exact okS_ag ok _
