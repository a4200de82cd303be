set_option maxHeartbeats 800000 in
set_option maxRecDepth 100000 in
theorem lwk_13 {p : Program} {l : Launch} {e : Env} {s : State} {m : MethodId} {below : List Frame} {meth : Method} {c : Code} {g : GP} {v : GV} {z : Nat × Nat} {b L : Nat} {xs : Nat → Int32} {qX qM qo : Nat} {i : Int32} {cells slots : Nat} (C : LwC p l s m meth c g v z b L xs) (hi : 0 ≤ i.toInt ∧ i.toInt + 5 ≤ (L : Int) ∧ L ≤ 2560) (hroom : cells + 40 ≤ 601024 ∧ slots + 900 ≤ 7293034) (kk : LwN p l e s m below meth c g b qX qM qo i (cells + 40) (slots + 900) 1776) : LwN p l e s m below meth c g b qX qM qo i cells slots 681 := by
  intro st wx wm fo H locs ls ok hXw hMw hP hD hS hl
  obtain ⟨hx, hb, hr, hml, hown, hts, hXs, hbl, hlocks, hG, hE, hO, hX, hst⟩ := id C
  have hK := hG.1
  have S : CallFix p m c cL_law 7 s #[Value.ref b] wsLw RL := ⟨hx, hb, hml, hown, hts⟩
  have hA : ∀ q : Nat, s.heap.size ≤ q → lwA s q := fun _ h => h
  have hbA : ¬ lwA s b := Nat.not_le.mpr hbl
  obtain ⟨fx, h0x⟩ := hXw.hd
  obtain ⟨fm, h0m⟩ := hMw.hd
  have hP := rtP (rtP hP)
  have hD := rtD (rtD hD)
  have hP : va_P g.1 vwCl ((ouC g qo fo :: wx) ++ wm) H := hP
  have hD : va_D (lwA s) ((ouC g qo fo :: wx) ++ wm) := hD
  refine lv_aload_n hx hb dL_law_681 rfl (lv_at hl 1 rfl) ?_
  refine lv_aload_n hx hb dL_law_682 rfl (lv_at hl 0 rfl) ?_
  refine lv_iload hx hb dL_law_683 (lv_at hl 4 rfl) ?_
  refine lv_iconst (v := (1 : Int32)) hx hb dL_law_685 (by decide) ?_
  refine lv_iadd hx hb dL_law_686 ?_
  refine va_sld hx hb hXs hbl hbA hS (lw_in hi (j := 1) rfl (by decide)) dL_law_687 ?_
  refine lv_aload_n hx hb dL_law_688 rfl (lv_at hl 0 rfl) ?_
  refine lv_iload hx hb dL_law_689 (lv_at hl 4 rfl) ?_
  refine lv_iconst (v := (2 : Int32)) hx hb dL_law_691 (by decide) ?_
  refine lv_iadd hx hb dL_law_692 ?_
  refine va_sld hx hb hXs hbl hbA hS (lw_in hi (j := 2) rfl (by decide)) dL_law_693 ?_
  refine lv_aload_n hx hb dL_law_694 rfl (lv_at hl 3 rfl) ?_
  refine lw_cp (v := v) (av := [.ref qX, .int (xs (i + (1 : Int32)).toNatClampNeg), .int (xs (i + (2 : Int32)).toNatClampNeg), .ref qo]) (rest := []) S hG hX hA (uX_part2 l g v z hst qX st qo fo (xs (i + (1 : Int32)).toNatClampNeg) (xs (i + (2 : Int32)).toNatClampNeg) wx H.size hXw) hP hD hS (vx_cwSW 4 hts gL_law_L_part rfl rfl rfl (by decide +kernel) ⟨(Nat.le_of_ble_eq_true rfl), (Nat.le_of_ble_eq_true rfl)⟩) rfl hl.1 rfl (Nat.le_of_ble_eq_true rfl) dL_law_695 ⟨(show cells + 1 ≤ 601024 by omega), (show slots + 6 ≤ 7293034 by omega)⟩ (fun r1 u1 H locs hp hP hD hS => ?_)
  obtain ⟨fo1, rfl, hpx⟩ := hp
  have hP : va_P g.1 vwCl ([ouC g qo fo1] ++ (wx ++ wm)) H := hP
  have hD : va_D (lwA s) ([ouC g qo fo1] ++ (wx ++ wm)) := hD
  have hP := rtP (rtP hP)
  have hD := rtD (rtD hD)
  refine lv_istore (lv' := [(5, .int r1), (0, .ref b), (1, .ref qX), (2, .ref qM), (3, .ref qo), (4, .int i)]) hx hb dL_law_698 hl (by decide) rfl (fun ls hl => ?_)
  refine lv_aload_n hx hb dL_law_700 rfl (lv_at hl 3 rfl) ?_
  refine lv_aload_n hx hb dL_law_701 rfl (lv_at hl 1 rfl) ?_
  refine lv_iload hx hb dL_law_702 (lv_at hl 5 rfl) ?_
  refine lv_iconst (v := (1 : Int32)) hx hb dL_law_704 (by decide) ?_
  refine lv_iadd hx hb dL_law_705 ?_
  refine va_sld hx hb hXs hbl hbA hS (lw_in hi (j := 1) rfl (by decide)) dL_law_706 ?_
  refine lv_aload_n hx hb dL_law_707 rfl (lv_at hl 1 rfl) ?_
  refine lv_iload hx hb dL_law_708 (lv_at hl 5 rfl) ?_
  refine lv_iconst (v := (2 : Int32)) hx hb dL_law_710 (by decide) ?_
  refine lv_iadd hx hb dL_law_711 ?_
  refine va_sld hx hb hXs hbl hbA hS (lw_in hi (j := 2) rfl (by decide)) dL_law_712 ?_
  refine lw_ci (v := v) (av := [.int (xs (i + (1 : Int32)).toNatClampNeg), .int (xs (i + (2 : Int32)).toNatClampNeg)]) (rest := []) S hG hE hO hA (uM_part l g v qM st (xs (i + (1 : Int32)).toNatClampNeg) (xs (i + (2 : Int32)).toNatClampNeg)) hMw hP hD hS (cwV 2 hts gL_law_X9_part rfl rfl rfl (by decide +kernel) ⟨(Nat.le_of_ble_eq_true rfl), (Nat.le_of_ble_eq_true rfl)⟩) (va_recv hK (va_P_l hP) (ci := 9) (q0 := 0) rfl h0m) rfl hl.1 rfl (Nat.le_of_ble_eq_true rfl) dL_law_713 ⟨(show cells + 1 + 0 ≤ 601024 by omega), (show slots + 6 + 0 ≤ 7293034 by omega)⟩ (fun r2 u2 H locs hp hP hD hS => ?_)
  have hMp := hp
  obtain ⟨fm, h0m⟩ := hMp.hd
  refine lv_istore (lv' := [(6, .int r2), (5, .int r1), (0, .ref b), (1, .ref qX), (2, .ref qM), (3, .ref qo), (4, .int i)]) hx hb dL_law_716 hl (by decide) rfl (fun ls hl => ?_)
  refine lv_aload_n hx hb dL_law_718 rfl (lv_at hl 4 rfl) ?_
  refine lw_ci (v := v) (av := []) (rest := []) S hG hE hO hA (uM_thrown l g v qM st _ _) hMp hP hD hS (cwV 0 hts gL_law_X9_thrown rfl rfl rfl (by decide +kernel) ⟨(Nat.le_of_ble_eq_true rfl), (Nat.le_of_ble_eq_true rfl)⟩) (va_recv hK (va_P_l hP) (ci := 9) (q0 := 0) rfl h0m) rfl hl.1 rfl (Nat.le_of_ble_eq_true rfl) dL_law_719 ⟨(show cells + 1 + 0 + 0 ≤ 601024 by omega), (show slots + 6 + 0 + 0 ≤ 7293034 by omega)⟩ (fun r3 u3 H locs hp hP hD hS => ?_)
  obtain ⟨hMw, hq1, hq2⟩ := hp
  have hP := rtP (rtP hP)
  have hD := rtD (rtD hD)
  have e3 : r3 = r1 := by
    rcases hpx with ⟨h1, h2, h3⟩ | ⟨h1, h2⟩
    · rw [h1, (hq1 h2).1]
    · rw [h1, hq2 h2]
  refine lv_iload hx hb dL_law_722 (lv_at hl 1 rfl) ?_
  refine lv_icmp_eq (tgt := 729) hx hb dL_law_724 (by decide) (fun _ => ?_) (fun hc => absurd e3 hc)
  refine lv_iload hx hb dL_law_729 (lv_at hl 1 rfl) ?_
  have fin : W p l e room_1 s m #[Value.ref b] below meth c H locs (cells + 1 + 0 + 0) (slots + 6 + 0 + 0) (lw_Z below #[Value.ref b] s) (F0 m 746 ls []) := by
    refine lv_goto (tgt := 1776) hx hb dL_law_746 (by decide) ?_
    refine W.widen (k := cells + 40) (n := slots + 900) (by omega) (by omega) ?_
    exact kk _ _ _ fo1 H locs ls ok hXw hMw hP hD hS (lv_sub hl [2, 3, 4, 5, 6] rfl)
  refine lv_if_ne (tgt := 746) hx hb dL_law_731 (by decide) (fun _ => fin) (fun hc => ?_)
  refine lv_aload_n hx hb dL_law_734 rfl (lv_at hl 5 rfl) ?_
  refine lv_iconst (v := (0 : Int32)) hx hb dL_law_735 (by decide) ?_
  have hPo := va_P_l (rtP (rtP hP))
  refine va_lald hx hb hK hPo 0 3 rfl rfl (by unfold vp_in; decide) dL_law_736 ?_
  refine lv_iload hx hb dL_law_737 (lv_at hl 0 rfl) ?_
  refine lv_i2l (v := (r2.toInt64)) hx hb dL_law_739 rfl ?_
  refine W.lcmp hx hb dL_law_740 ?_
  have e4 : fo1 (0 : Int32).toNatClampNeg = r2.toInt64 := by
    rcases hpx with ⟨h1, h2, h3⟩ | ⟨h1, h2⟩
    · apply q_injL
      rw [Int32.toInt_toInt64, (hq1 h2).2]
      exact h3
    · exact absurd hc (by rw [h1]; decide)
  refine lv_if_eq (tgt := 746) hx hb dL_law_741 (by decide) (fun _ => fin) (fun hc => absurd (by rw [e4]; exact cmp_same _) hc)
