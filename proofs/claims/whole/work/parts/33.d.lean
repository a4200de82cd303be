set_option maxHeartbeats 800000 in
set_option maxRecDepth 100000 in
theorem lwk_17 {p : Program} {l : Launch} {e : Env} {s : State} {m : MethodId} {below : List Frame} {meth : Method} {c : Code} {g : GP} {v : GV} {z : Nat × Nat} {b L : Nat} {xs : Nat → Int32} {qX qM qo : Nat} {i : Int32} {cells slots : Nat} (C : LwC p l s m meth c g v z b L xs) (hi : 0 ≤ i.toInt ∧ i.toInt + 5 ≤ (L : Int) ∧ L ≤ 2560) (hroom : cells + 40 ≤ 601024 ∧ slots + 900 ≤ 7293034) (kk : LwN p l e s m below meth c g b qX qM qo i (cells + 40) (slots + 900) 1776) : LwN p l e s m below meth c g b qX qM qo i cells slots 848 := by
  intro st wx wm fo H locs ls ok hXw hMw hP hD hS hl
  obtain ⟨hx, hb, hr, hml, hown, hts, hXs, hbl, hlocks, hG, hE, hO, hX, hst⟩ := id C
  have hK := hG.1
  have S : CallFix p m c cL_law 7 s #[Value.ref b] wsLw RL := ⟨hx, hb, hml, hown, hts⟩
  have hA : ∀ q : Nat, s.heap.size ≤ q → lwA s q := fun _ h => h
  have hbA : ¬ lwA s b := Nat.not_le.mpr hbl
  obtain ⟨fx, h0x⟩ := hXw.hd
  obtain ⟨fm, h0m⟩ := hMw.hd
  refine lv_aload_n hx hb dL_law_848 rfl (lv_at hl 1 rfl) ?_
  refine lv_aload_n hx hb dL_law_849 rfl (lv_at hl 0 rfl) ?_
  refine lv_iload hx hb dL_law_850 (lv_at hl 4 rfl) ?_
  refine lv_iconst (v := (1 : Int32)) hx hb dL_law_852 (by decide) ?_
  refine lv_iadd hx hb dL_law_853 ?_
  refine va_sld hx hb hXs hbl hbA hS (lw_in hi (j := 1) rfl (by decide)) dL_law_854 ?_
  refine lv_aload_n hx hb dL_law_855 rfl (lv_at hl 0 rfl) ?_
  refine lv_iload hx hb dL_law_856 (lv_at hl 4 rfl) ?_
  refine lv_iconst (v := (2 : Int32)) hx hb dL_law_858 (by decide) ?_
  refine lv_iadd hx hb dL_law_859 ?_
  refine va_sld hx hb hXs hbl hbA hS (lw_in hi (j := 2) rfl (by decide)) dL_law_860 ?_
  refine lw_ci (v := v) (av := [.int (xs (i + (1 : Int32)).toNatClampNeg), .int (xs (i + (2 : Int32)).toNatClampNeg)]) (rest := []) S hG hE hO hA (uX_heard l g v qX st (xs (i + (1 : Int32)).toNatClampNeg) (xs (i + (2 : Int32)).toNatClampNeg)) hXw hP hD hS (cwV 2 hts gL_law_X8_heard rfl rfl rfl (by decide +kernel) ⟨(Nat.le_of_ble_eq_true rfl), (Nat.le_of_ble_eq_true rfl)⟩) (va_recv hK (va_P_l hP) (ci := 8) (q0 := 0) rfl h0x) rfl hl.1 rfl (Nat.le_of_ble_eq_true rfl) dL_law_861 ⟨(show cells + 0 ≤ 601024 by omega), (show slots + 0 ≤ 7293034 by omega)⟩ (fun r1 u1 H locs hp hP hD hS => ?_)
  obtain ⟨e1, hXw⟩ := hp
  have hP := rtP hP
  have hD := rtD hD
  refine lv_aload_n hx hb dL_law_864 rfl (lv_at hl 2 rfl) ?_
  refine lv_aload_n hx hb dL_law_865 rfl (lv_at hl 0 rfl) ?_
  refine lv_iload hx hb dL_law_866 (lv_at hl 4 rfl) ?_
  refine lv_iconst (v := (1 : Int32)) hx hb dL_law_868 (by decide) ?_
  refine lv_iadd hx hb dL_law_869 ?_
  refine va_sld hx hb hXs hbl hbA hS (lw_in hi (j := 1) rfl (by decide)) dL_law_870 ?_
  refine lv_aload_n hx hb dL_law_871 rfl (lv_at hl 0 rfl) ?_
  refine lv_iload hx hb dL_law_872 (lv_at hl 4 rfl) ?_
  refine lv_iconst (v := (2 : Int32)) hx hb dL_law_874 (by decide) ?_
  refine lv_iadd hx hb dL_law_875 ?_
  refine va_sld hx hb hXs hbl hbA hS (lw_in hi (j := 2) rfl (by decide)) dL_law_876 ?_
  refine lw_ci (v := v) (av := [.int (xs (i + (1 : Int32)).toNatClampNeg), .int (xs (i + (2 : Int32)).toNatClampNeg)]) (rest := [.int r1]) S hG hE hO hA (uM_heard l g v qM st (xs (i + (1 : Int32)).toNatClampNeg) (xs (i + (2 : Int32)).toNatClampNeg)) hMw hP hD hS (cwV 2 hts gL_law_X9_heard rfl rfl rfl (by decide +kernel) ⟨(Nat.le_of_ble_eq_true rfl), (Nat.le_of_ble_eq_true rfl)⟩) (va_recv hK (va_P_l hP) (ci := 9) (q0 := 0) rfl h0m) rfl hl.1 rfl (Nat.le_of_ble_eq_true rfl) dL_law_877 ⟨(show cells + 0 + 0 ≤ 601024 by omega), (show slots + 0 + 0 ≤ 7293034 by omega)⟩ (fun r2 u2 H locs hp hP hD hS => ?_)
  obtain ⟨e2, hMw⟩ := hp
  have hP := rtP (rtP hP)
  have hD := rtD (rtD hD)
  have ee : r1 = r2 := q_inj (e1.trans e2.symm)
  refine lv_icmp_eq (tgt := 1776) hx hb dL_law_880 (by decide) (fun _ => ?_) (fun hc => absurd ee hc)
  refine W.widen (k := cells + 40) (n := slots + 900) (by omega) (by omega) ?_
  refine kk _ _ _ fo H locs ls ?_ hXw hMw hP hD hS hl
  exact ok
set_option maxHeartbeats 800000 in
set_option maxRecDepth 100000 in
theorem lwk_18 {p : Program} {l : Launch} {e : Env} {s : State} {m : MethodId} {below : List Frame} {meth : Method} {c : Code} {g : GP} {v : GV} {z : Nat × Nat} {b L : Nat} {xs : Nat → Int32} {qX qM qo : Nat} {i : Int32} {cells slots : Nat} (C : LwC p l s m meth c g v z b L xs) (hi : 0 ≤ i.toInt ∧ i.toInt + 5 ≤ (L : Int) ∧ L ≤ 2560) (hroom : cells + 40 ≤ 601024 ∧ slots + 900 ≤ 7293034) (kk : LwN p l e s m below meth c g b qX qM qo i (cells + 40) (slots + 900) 1776) : LwN p l e s m below meth c g b qX qM qo i cells slots 885 := by
  intro st wx wm fo H locs ls ok hXw hMw hP hD hS hl
  obtain ⟨hx, hb, hr, hml, hown, hts, hXs, hbl, hlocks, hG, hE, hO, hX, hst⟩ := id C
  have hK := hG.1
  have S : CallFix p m c cL_law 7 s #[Value.ref b] wsLw RL := ⟨hx, hb, hml, hown, hts⟩
  have hA : ∀ q : Nat, s.heap.size ≤ q → lwA s q := fun _ h => h
  have hbA : ¬ lwA s b := Nat.not_le.mpr hbl
  obtain ⟨fx, h0x⟩ := hXw.hd
  obtain ⟨fm, h0m⟩ := hMw.hd
  refine lv_aload_n hx hb dL_law_885 rfl (lv_at hl 1 rfl) ?_
  refine lv_aload_n hx hb dL_law_886 rfl (lv_at hl 0 rfl) ?_
  refine lv_iload hx hb dL_law_887 (lv_at hl 4 rfl) ?_
  refine lv_iconst (v := (1 : Int32)) hx hb dL_law_889 (by decide) ?_
  refine lv_iadd hx hb dL_law_890 ?_
  refine va_sld hx hb hXs hbl hbA hS (lw_in hi (j := 1) rfl (by decide)) dL_law_891 ?_
  refine lv_aload_n hx hb dL_law_892 rfl (lv_at hl 0 rfl) ?_
  refine lv_iload hx hb dL_law_893 (lv_at hl 4 rfl) ?_
  refine lv_iconst (v := (2 : Int32)) hx hb dL_law_895 (by decide) ?_
  refine lv_iadd hx hb dL_law_896 ?_
  refine va_sld hx hb hXs hbl hbA hS (lw_in hi (j := 2) rfl (by decide)) dL_law_897 ?_
  refine lw_ci (v := v) (av := [.int (xs (i + (1 : Int32)).toNatClampNeg), .int (xs (i + (2 : Int32)).toNatClampNeg)]) (rest := []) S hG hE hO hA (uX_behind l g v qX st (xs (i + (1 : Int32)).toNatClampNeg) (xs (i + (2 : Int32)).toNatClampNeg)) hXw hP hD hS (cwV 2 hts gL_law_X8_behind rfl rfl rfl (by decide +kernel) ⟨(Nat.le_of_ble_eq_true rfl), (Nat.le_of_ble_eq_true rfl)⟩) (va_recv hK (va_P_l hP) (ci := 8) (q0 := 0) rfl h0x) rfl hl.1 rfl (Nat.le_of_ble_eq_true rfl) dL_law_898 ⟨(show cells + 0 ≤ 601024 by omega), (show slots + 0 ≤ 7293034 by omega)⟩ (fun r1 u1 H locs hp hP hD hS => ?_)
  obtain ⟨e1, hXw⟩ := hp
  have hP := rtP hP
  have hD := rtD hD
  refine lv_aload_n hx hb dL_law_901 rfl (lv_at hl 2 rfl) ?_
  refine lv_aload_n hx hb dL_law_902 rfl (lv_at hl 0 rfl) ?_
  refine lv_iload hx hb dL_law_903 (lv_at hl 4 rfl) ?_
  refine lv_iconst (v := (1 : Int32)) hx hb dL_law_905 (by decide) ?_
  refine lv_iadd hx hb dL_law_906 ?_
  refine va_sld hx hb hXs hbl hbA hS (lw_in hi (j := 1) rfl (by decide)) dL_law_907 ?_
  refine lv_aload_n hx hb dL_law_908 rfl (lv_at hl 0 rfl) ?_
  refine lv_iload hx hb dL_law_909 (lv_at hl 4 rfl) ?_
  refine lv_iconst (v := (2 : Int32)) hx hb dL_law_911 (by decide) ?_
  refine lv_iadd hx hb dL_law_912 ?_
  refine va_sld hx hb hXs hbl hbA hS (lw_in hi (j := 2) rfl (by decide)) dL_law_913 ?_
  refine lw_ci (v := v) (av := [.int (xs (i + (1 : Int32)).toNatClampNeg), .int (xs (i + (2 : Int32)).toNatClampNeg)]) (rest := [.int r1]) S hG hE hO hA (uM_behind l g v qM st (xs (i + (1 : Int32)).toNatClampNeg) (xs (i + (2 : Int32)).toNatClampNeg)) hMw hP hD hS (cwV 2 hts gL_law_X9_behind rfl rfl rfl (by decide +kernel) ⟨(Nat.le_of_ble_eq_true rfl), (Nat.le_of_ble_eq_true rfl)⟩) (va_recv hK (va_P_l hP) (ci := 9) (q0 := 0) rfl h0m) rfl hl.1 rfl (Nat.le_of_ble_eq_true rfl) dL_law_914 ⟨(show cells + 0 + 0 ≤ 601024 by omega), (show slots + 0 + 0 ≤ 7293034 by omega)⟩ (fun r2 u2 H locs hp hP hD hS => ?_)
  obtain ⟨e2, hMw⟩ := hp
  have hP := rtP (rtP hP)
  have hD := rtD (rtD hD)
  have ee : r1 = r2 := q_inj (e1.trans e2.symm)
  refine lv_icmp_eq (tgt := 1776) hx hb dL_law_917 (by decide) (fun _ => ?_) (fun hc => absurd ee hc)
  refine W.widen (k := cells + 40) (n := slots + 900) (by omega) (by omega) ?_
  refine kk _ _ _ fo H locs ls ?_ hXw hMw hP hD hS hl
  exact ok
set_option maxHeartbeats 800000 in
set_option maxRecDepth 100000 in
theorem lwk_19 {p : Program} {l : Launch} {e : Env} {s : State} {m : MethodId} {below : List Frame} {meth : Method} {c : Code} {g : GP} {v : GV} {z : Nat × Nat} {b L : Nat} {xs : Nat → Int32} {qX qM qo : Nat} {i : Int32} {cells slots : Nat} (C : LwC p l s m meth c g v z b L xs) (hi : 0 ≤ i.toInt ∧ i.toInt + 5 ≤ (L : Int) ∧ L ≤ 2560) (hroom : cells + 40 ≤ 601024 ∧ slots + 900 ≤ 7293034) (kk : LwN p l e s m below meth c g b qX qM qo i (cells + 40) (slots + 900) 1776) : LwN p l e s m below meth c g b qX qM qo i cells slots 922 := by
  intro st wx wm fo H locs ls ok hXw hMw hP hD hS hl
  obtain ⟨hx, hb, hr, hml, hown, hts, hXs, hbl, hlocks, hG, hE, hO, hX, hst⟩ := id C
  have hK := hG.1
  have S : CallFix p m c cL_law 7 s #[Value.ref b] wsLw RL := ⟨hx, hb, hml, hown, hts⟩
  have hA : ∀ q : Nat, s.heap.size ≤ q → lwA s q := fun _ h => h
  have hbA : ¬ lwA s b := Nat.not_le.mpr hbl
  obtain ⟨fx, h0x⟩ := hXw.hd
  obtain ⟨fm, h0m⟩ := hMw.hd
  refine lv_aload_n hx hb dL_law_922 rfl (lv_at hl 1 rfl) ?_
  refine lv_aload_n hx hb dL_law_923 rfl (lv_at hl 0 rfl) ?_
  refine lv_iload hx hb dL_law_924 (lv_at hl 4 rfl) ?_
  refine lv_iconst (v := (1 : Int32)) hx hb dL_law_926 (by decide) ?_
  refine lv_iadd hx hb dL_law_927 ?_
  refine va_sld hx hb hXs hbl hbA hS (lw_in hi (j := 1) rfl (by decide)) dL_law_928 ?_
  refine lv_aload_n hx hb dL_law_929 rfl (lv_at hl 0 rfl) ?_
  refine lv_iload hx hb dL_law_930 (lv_at hl 4 rfl) ?_
  refine lv_iconst (v := (2 : Int32)) hx hb dL_law_932 (by decide) ?_
  refine lv_iadd hx hb dL_law_933 ?_
  refine va_sld hx hb hXs hbl hbA hS (lw_in hi (j := 2) rfl (by decide)) dL_law_934 ?_
  refine lv_aload_n hx hb dL_law_935 rfl (lv_at hl 0 rfl) ?_
  refine lv_iload hx hb dL_law_936 (lv_at hl 4 rfl) ?_
  refine lv_iconst (v := (3 : Int32)) hx hb dL_law_938 (by decide) ?_
  refine lv_iadd hx hb dL_law_939 ?_
  refine va_sld hx hb hXs hbl hbA hS (lw_in hi (j := 3) rfl (by decide)) dL_law_940 ?_
  refine lw_ci (v := v) (av := [.int (xs (i + (1 : Int32)).toNatClampNeg), .int (xs (i + (2 : Int32)).toNatClampNeg), .int (xs (i + (3 : Int32)).toNatClampNeg)]) (rest := []) S hG hE hO hA (uX_match l g v qX st (xs (i + (1 : Int32)).toNatClampNeg) (xs (i + (2 : Int32)).toNatClampNeg) (xs (i + (3 : Int32)).toNatClampNeg)) hXw hP hD hS (cwV 3 hts gL_law_X8_match rfl rfl rfl (by decide +kernel) ⟨(Nat.le_of_ble_eq_true rfl), (Nat.le_of_ble_eq_true rfl)⟩) (va_recv hK (va_P_l hP) (ci := 8) (q0 := 0) rfl h0x) rfl hl.1 rfl (Nat.le_of_ble_eq_true rfl) dL_law_941 ⟨(show cells + 0 ≤ 601024 by omega), (show slots + 0 ≤ 7293034 by omega)⟩ (fun r1 u1 H locs hp hP hD hS => ?_)
  obtain ⟨e1, hXw⟩ := hp
  have hP := rtP hP
  have hD := rtD hD
  refine lv_aload_n hx hb dL_law_944 rfl (lv_at hl 2 rfl) ?_
  refine lv_aload_n hx hb dL_law_945 rfl (lv_at hl 0 rfl) ?_
  refine lv_iload hx hb dL_law_946 (lv_at hl 4 rfl) ?_
  refine lv_iconst (v := (1 : Int32)) hx hb dL_law_948 (by decide) ?_
  refine lv_iadd hx hb dL_law_949 ?_
  refine va_sld hx hb hXs hbl hbA hS (lw_in hi (j := 1) rfl (by decide)) dL_law_950 ?_
  refine lv_aload_n hx hb dL_law_951 rfl (lv_at hl 0 rfl) ?_
  refine lv_iload hx hb dL_law_952 (lv_at hl 4 rfl) ?_
  refine lv_iconst (v := (2 : Int32)) hx hb dL_law_954 (by decide) ?_
  refine lv_iadd hx hb dL_law_955 ?_
  refine va_sld hx hb hXs hbl hbA hS (lw_in hi (j := 2) rfl (by decide)) dL_law_956 ?_
  refine lv_aload_n hx hb dL_law_957 rfl (lv_at hl 0 rfl) ?_
  refine lv_iload hx hb dL_law_958 (lv_at hl 4 rfl) ?_
  refine lv_iconst (v := (3 : Int32)) hx hb dL_law_960 (by decide) ?_
  refine lv_iadd hx hb dL_law_961 ?_
  refine va_sld hx hb hXs hbl hbA hS (lw_in hi (j := 3) rfl (by decide)) dL_law_962 ?_
  refine lw_ci (v := v) (av := [.int (xs (i + (1 : Int32)).toNatClampNeg), .int (xs (i + (2 : Int32)).toNatClampNeg), .int (xs (i + (3 : Int32)).toNatClampNeg)]) (rest := [.int r1]) S hG hE hO hA (uM_match l g v qM st (xs (i + (1 : Int32)).toNatClampNeg) (xs (i + (2 : Int32)).toNatClampNeg) (xs (i + (3 : Int32)).toNatClampNeg)) hMw hP hD hS (cwV 3 hts gL_law_X9_match rfl rfl rfl (by decide +kernel) ⟨(Nat.le_of_ble_eq_true rfl), (Nat.le_of_ble_eq_true rfl)⟩) (va_recv hK (va_P_l hP) (ci := 9) (q0 := 0) rfl h0m) rfl hl.1 rfl (Nat.le_of_ble_eq_true rfl) dL_law_963 ⟨(show cells + 0 + 0 ≤ 601024 by omega), (show slots + 0 + 0 ≤ 7293034 by omega)⟩ (fun r2 u2 H locs hp hP hD hS => ?_)
  obtain ⟨e2, hMw⟩ := hp
  have hP := rtP (rtP hP)
  have hD := rtD (rtD hD)
  have ee : r1 = r2 := q_inj (e1.trans e2.symm)
  refine lv_icmp_eq (tgt := 1776) hx hb dL_law_966 (by decide) (fun _ => ?_) (fun hc => absurd ee hc)
  refine W.widen (k := cells + 40) (n := slots + 900) (by omega) (by omega) ?_
  refine kk _ _ _ fo H locs ls ?_ hXw hMw hP hD hS hl
  exact ok
set_option maxHeartbeats 800000 in
set_option maxRecDepth 100000 in
theorem lwk_20 {p : Program} {l : Launch} {e : Env} {s : State} {m : MethodId} {below : List Frame} {meth : Method} {c : Code} {g : GP} {v : GV} {z : Nat × Nat} {b L : Nat} {xs : Nat → Int32} {qX qM qo : Nat} {i : Int32} {cells slots : Nat} (C : LwC p l s m meth c g v z b L xs) (hi : 0 ≤ i.toInt ∧ i.toInt + 5 ≤ (L : Int) ∧ L ≤ 2560) (hroom : cells + 40 ≤ 601024 ∧ slots + 900 ≤ 7293034) (kk : LwN p l e s m below meth c g b qX qM qo i (cells + 40) (slots + 900) 1776) : LwN p l e s m below meth c g b qX qM qo i cells slots 971 := by
  intro st wx wm fo H locs ls ok hXw hMw hP hD hS hl
  obtain ⟨hx, hb, hr, hml, hown, hts, hXs, hbl, hlocks, hG, hE, hO, hX, hst⟩ := id C
  have hK := hG.1
  have S : CallFix p m c cL_law 7 s #[Value.ref b] wsLw RL := ⟨hx, hb, hml, hown, hts⟩
  have hA : ∀ q : Nat, s.heap.size ≤ q → lwA s q := fun _ h => h
  have hbA : ¬ lwA s b := Nat.not_le.mpr hbl
  obtain ⟨fx, h0x⟩ := hXw.hd
  obtain ⟨fm, h0m⟩ := hMw.hd
  refine lv_aload_n hx hb dL_law_971 rfl (lv_at hl 1 rfl) ?_
  refine lv_aload_n hx hb dL_law_972 rfl (lv_at hl 0 rfl) ?_
  refine lv_iload hx hb dL_law_973 (lv_at hl 4 rfl) ?_
  refine lv_iconst (v := (1 : Int32)) hx hb dL_law_975 (by decide) ?_
  refine lv_iadd hx hb dL_law_976 ?_
  refine va_sld hx hb hXs hbl hbA hS (lw_in hi (j := 1) rfl (by decide)) dL_law_977 ?_
  refine lv_aload_n hx hb dL_law_978 rfl (lv_at hl 0 rfl) ?_
  refine lv_iload hx hb dL_law_979 (lv_at hl 4 rfl) ?_
  refine lv_iconst (v := (2 : Int32)) hx hb dL_law_981 (by decide) ?_
  refine lv_iadd hx hb dL_law_982 ?_
  refine va_sld hx hb hXs hbl hbA hS (lw_in hi (j := 2) rfl (by decide)) dL_law_983 ?_
  refine lv_aload_n hx hb dL_law_984 rfl (lv_at hl 0 rfl) ?_
  refine lv_iload hx hb dL_law_985 (lv_at hl 4 rfl) ?_
  refine lv_iconst (v := (3 : Int32)) hx hb dL_law_987 (by decide) ?_
  refine lv_iadd hx hb dL_law_988 ?_
  refine va_sld hx hb hXs hbl hbA hS (lw_in hi (j := 3) rfl (by decide)) dL_law_989 ?_
  refine lw_ci (v := v) (av := [.int (xs (i + (1 : Int32)).toNatClampNeg), .int (xs (i + (2 : Int32)).toNatClampNeg), .int (xs (i + (3 : Int32)).toNatClampNeg)]) (rest := []) S hG hE hO hA (uX_best l g v qX st (xs (i + (1 : Int32)).toNatClampNeg) (xs (i + (2 : Int32)).toNatClampNeg) (xs (i + (3 : Int32)).toNatClampNeg)) hXw hP hD hS (cwV 3 hts gL_law_X8_best rfl rfl rfl (by decide +kernel) ⟨(Nat.le_of_ble_eq_true rfl), (Nat.le_of_ble_eq_true rfl)⟩) (va_recv hK (va_P_l hP) (ci := 8) (q0 := 0) rfl h0x) rfl hl.1 rfl (Nat.le_of_ble_eq_true rfl) dL_law_990 ⟨(show cells + 0 ≤ 601024 by omega), (show slots + 0 ≤ 7293034 by omega)⟩ (fun r1 u1 H locs hp hP hD hS => ?_)
  obtain ⟨e1, hXw⟩ := hp
  have hP := rtP hP
  have hD := rtD hD
  refine lv_aload_n hx hb dL_law_993 rfl (lv_at hl 2 rfl) ?_
  refine lv_aload_n hx hb dL_law_994 rfl (lv_at hl 0 rfl) ?_
  refine lv_iload hx hb dL_law_995 (lv_at hl 4 rfl) ?_
  refine lv_iconst (v := (1 : Int32)) hx hb dL_law_997 (by decide) ?_
  refine lv_iadd hx hb dL_law_998 ?_
  refine va_sld hx hb hXs hbl hbA hS (lw_in hi (j := 1) rfl (by decide)) dL_law_999 ?_
  refine lv_aload_n hx hb dL_law_1000 rfl (lv_at hl 0 rfl) ?_
  refine lv_iload hx hb dL_law_1001 (lv_at hl 4 rfl) ?_
  refine lv_iconst (v := (2 : Int32)) hx hb dL_law_1003 (by decide) ?_
  refine lv_iadd hx hb dL_law_1004 ?_
  refine va_sld hx hb hXs hbl hbA hS (lw_in hi (j := 2) rfl (by decide)) dL_law_1005 ?_
  refine lv_aload_n hx hb dL_law_1006 rfl (lv_at hl 0 rfl) ?_
  refine lv_iload hx hb dL_law_1007 (lv_at hl 4 rfl) ?_
  refine lv_iconst (v := (3 : Int32)) hx hb dL_law_1009 (by decide) ?_
  refine lv_iadd hx hb dL_law_1010 ?_
  refine va_sld hx hb hXs hbl hbA hS (lw_in hi (j := 3) rfl (by decide)) dL_law_1011 ?_
  refine lw_ci (v := v) (av := [.int (xs (i + (1 : Int32)).toNatClampNeg), .int (xs (i + (2 : Int32)).toNatClampNeg), .int (xs (i + (3 : Int32)).toNatClampNeg)]) (rest := [.int r1]) S hG hE hO hA (uM_best l g v qM st (xs (i + (1 : Int32)).toNatClampNeg) (xs (i + (2 : Int32)).toNatClampNeg) (xs (i + (3 : Int32)).toNatClampNeg)) hMw hP hD hS (cwV 3 hts gL_law_X9_best rfl rfl rfl (by decide +kernel) ⟨(Nat.le_of_ble_eq_true rfl), (Nat.le_of_ble_eq_true rfl)⟩) (va_recv hK (va_P_l hP) (ci := 9) (q0 := 0) rfl h0m) rfl hl.1 rfl (Nat.le_of_ble_eq_true rfl) dL_law_1012 ⟨(show cells + 0 + 0 ≤ 601024 by omega), (show slots + 0 + 0 ≤ 7293034 by omega)⟩ (fun r2 u2 H locs hp hP hD hS => ?_)
  obtain ⟨e2, hMw⟩ := hp
  have hP := rtP (rtP hP)
  have hD := rtD (rtD hD)
  have ee : r1 = r2 := q_inj (e1.trans e2.symm)
  refine lv_icmp_eq (tgt := 1776) hx hb dL_law_1015 (by decide) (fun _ => ?_) (fun hc => absurd ee hc)
  refine W.widen (k := cells + 40) (n := slots + 900) (by omega) (by omega) ?_
  refine kk _ _ _ fo H locs ls ?_ hXw hMw hP hD hS hl
  exact ok
set_option maxHeartbeats 800000 in
set_option maxRecDepth 100000 in
theorem lwk_21 {p : Program} {l : Launch} {e : Env} {s : State} {m : MethodId} {below : List Frame} {meth : Method} {c : Code} {g : GP} {v : GV} {z : Nat × Nat} {b L : Nat} {xs : Nat → Int32} {qX qM qo : Nat} {i : Int32} {cells slots : Nat} (C : LwC p l s m meth c g v z b L xs) (hi : 0 ≤ i.toInt ∧ i.toInt + 5 ≤ (L : Int) ∧ L ≤ 2560) (hroom : cells + 40 ≤ 601024 ∧ slots + 900 ≤ 7293034) (kk : LwN p l e s m below meth c g b qX qM qo i (cells + 40) (slots + 900) 1776) : LwN p l e s m below meth c g b qX qM qo i cells slots 1020 := by
  intro st wx wm fo H locs ls ok hXw hMw hP hD hS hl
  obtain ⟨hx, hb, hr, hml, hown, hts, hXs, hbl, hlocks, hG, hE, hO, hX, hst⟩ := id C
  have hK := hG.1
  have S : CallFix p m c cL_law 7 s #[Value.ref b] wsLw RL := ⟨hx, hb, hml, hown, hts⟩
  have hA : ∀ q : Nat, s.heap.size ≤ q → lwA s q := fun _ h => h
  have hbA : ¬ lwA s b := Nat.not_le.mpr hbl
  obtain ⟨fx, h0x⟩ := hXw.hd
  obtain ⟨fm, h0m⟩ := hMw.hd
  refine lv_aload_n hx hb dL_law_1020 rfl (lv_at hl 1 rfl) ?_
  refine lv_aload_n hx hb dL_law_1021 rfl (lv_at hl 0 rfl) ?_
  refine lv_iload hx hb dL_law_1022 (lv_at hl 4 rfl) ?_
  refine lv_iconst (v := (1 : Int32)) hx hb dL_law_1024 (by decide) ?_
  refine lv_iadd hx hb dL_law_1025 ?_
  refine va_sld hx hb hXs hbl hbA hS (lw_in hi (j := 1) rfl (by decide)) dL_law_1026 ?_
  refine lv_aload_n hx hb dL_law_1027 rfl (lv_at hl 0 rfl) ?_
  refine lv_iload hx hb dL_law_1028 (lv_at hl 4 rfl) ?_
  refine lv_iconst (v := (2 : Int32)) hx hb dL_law_1030 (by decide) ?_
  refine lv_iadd hx hb dL_law_1031 ?_
  refine va_sld hx hb hXs hbl hbA hS (lw_in hi (j := 2) rfl (by decide)) dL_law_1032 ?_
  refine lw_ci (v := v) (av := [.int (xs (i + (1 : Int32)).toNatClampNeg), .int (xs (i + (2 : Int32)).toNatClampNeg)]) (rest := []) S hG hE hO hA (uX_fragile l g v qX st (xs (i + (1 : Int32)).toNatClampNeg) (xs (i + (2 : Int32)).toNatClampNeg)) hXw hP hD hS (cwV 2 hts gL_law_X8_fragile rfl rfl rfl (by decide +kernel) ⟨(Nat.le_of_ble_eq_true rfl), (Nat.le_of_ble_eq_true rfl)⟩) (va_recv hK (va_P_l hP) (ci := 8) (q0 := 0) rfl h0x) rfl hl.1 rfl (Nat.le_of_ble_eq_true rfl) dL_law_1033 ⟨(show cells + 0 ≤ 601024 by omega), (show slots + 0 ≤ 7293034 by omega)⟩ (fun r1 u1 H locs hp hP hD hS => ?_)
  obtain ⟨e1, hXw⟩ := hp
  have hP := rtP hP
  have hD := rtD hD
  refine lv_aload_n hx hb dL_law_1036 rfl (lv_at hl 2 rfl) ?_
  refine lv_aload_n hx hb dL_law_1037 rfl (lv_at hl 0 rfl) ?_
  refine lv_iload hx hb dL_law_1038 (lv_at hl 4 rfl) ?_
  refine lv_iconst (v := (1 : Int32)) hx hb dL_law_1040 (by decide) ?_
  refine lv_iadd hx hb dL_law_1041 ?_
  refine va_sld hx hb hXs hbl hbA hS (lw_in hi (j := 1) rfl (by decide)) dL_law_1042 ?_
  refine lv_aload_n hx hb dL_law_1043 rfl (lv_at hl 0 rfl) ?_
  refine lv_iload hx hb dL_law_1044 (lv_at hl 4 rfl) ?_
  refine lv_iconst (v := (2 : Int32)) hx hb dL_law_1046 (by decide) ?_
  refine lv_iadd hx hb dL_law_1047 ?_
  refine va_sld hx hb hXs hbl hbA hS (lw_in hi (j := 2) rfl (by decide)) dL_law_1048 ?_
  refine lw_ci (v := v) (av := [.int (xs (i + (1 : Int32)).toNatClampNeg), .int (xs (i + (2 : Int32)).toNatClampNeg)]) (rest := [.int r1]) S hG hE hO hA (uM_fragile l g v qM st (xs (i + (1 : Int32)).toNatClampNeg) (xs (i + (2 : Int32)).toNatClampNeg)) hMw hP hD hS (cwV 2 hts gL_law_X9_fragile rfl rfl rfl (by decide +kernel) ⟨(Nat.le_of_ble_eq_true rfl), (Nat.le_of_ble_eq_true rfl)⟩) (va_recv hK (va_P_l hP) (ci := 9) (q0 := 0) rfl h0m) rfl hl.1 rfl (Nat.le_of_ble_eq_true rfl) dL_law_1049 ⟨(show cells + 0 + 0 ≤ 601024 by omega), (show slots + 0 + 0 ≤ 7293034 by omega)⟩ (fun r2 u2 H locs hp hP hD hS => ?_)
  obtain ⟨e2, hMw⟩ := hp
  have hP := rtP (rtP hP)
  have hD := rtD (rtD hD)
  have ee : r1 = r2 := q_inj (e1.trans e2.symm)
  refine lv_icmp_eq (tgt := 1776) hx hb dL_law_1052 (by decide) (fun _ => ?_) (fun hc => absurd ee hc)
  refine W.widen (k := cells + 40) (n := slots + 900) (by omega) (by omega) ?_
  refine kk _ _ _ fo H locs ls ?_ hXw hMw hP hD hS hl
  exact ok
set_option maxHeartbeats 800000 in
set_option maxRecDepth 100000 in
theorem lwk_22 {p : Program} {l : Launch} {e : Env} {s : State} {m : MethodId} {below : List Frame} {meth : Method} {c : Code} {g : GP} {v : GV} {z : Nat × Nat} {b L : Nat} {xs : Nat → Int32} {qX qM qo : Nat} {i : Int32} {cells slots : Nat} (C : LwC p l s m meth c g v z b L xs) (hi : 0 ≤ i.toInt ∧ i.toInt + 5 ≤ (L : Int) ∧ L ≤ 2560) (hroom : cells + 40 ≤ 601024 ∧ slots + 900 ≤ 7293034) (kk : LwN p l e s m below meth c g b qX qM qo i (cells + 40) (slots + 900) 1776) : LwN p l e s m below meth c g b qX qM qo i cells slots 1057 := by
  intro st wx wm fo H locs ls ok hXw hMw hP hD hS hl
  obtain ⟨hx, hb, hr, hml, hown, hts, hXs, hbl, hlocks, hG, hE, hO, hX, hst⟩ := id C
  have hK := hG.1
  have S : CallFix p m c cL_law 7 s #[Value.ref b] wsLw RL := ⟨hx, hb, hml, hown, hts⟩
  have hA : ∀ q : Nat, s.heap.size ≤ q → lwA s q := fun _ h => h
  have hbA : ¬ lwA s b := Nat.not_le.mpr hbl
  obtain ⟨fx, h0x⟩ := hXw.hd
  obtain ⟨fm, h0m⟩ := hMw.hd
  refine lv_aload_n hx hb dL_law_1057 rfl (lv_at hl 1 rfl) ?_
  refine lv_aload_n hx hb dL_law_1058 rfl (lv_at hl 0 rfl) ?_
  refine lv_iload hx hb dL_law_1059 (lv_at hl 4 rfl) ?_
  refine lv_iconst (v := (1 : Int32)) hx hb dL_law_1061 (by decide) ?_
  refine lv_iadd hx hb dL_law_1062 ?_
  refine va_sld hx hb hXs hbl hbA hS (lw_in hi (j := 1) rfl (by decide)) dL_law_1063 ?_
  refine lw_ci (v := v) (av := [.int (xs (i + (1 : Int32)).toNatClampNeg)]) (rest := []) S hG hE hO hA (uX_right l g v qX st (xs (i + (1 : Int32)).toNatClampNeg)) hXw hP hD hS (cwV 1 hts gL_law_X8_right rfl rfl rfl (by decide +kernel) ⟨(Nat.le_of_ble_eq_true rfl), (Nat.le_of_ble_eq_true rfl)⟩) (va_recv hK (va_P_l hP) (ci := 8) (q0 := 0) rfl h0x) rfl hl.1 rfl (Nat.le_of_ble_eq_true rfl) dL_law_1064 ⟨(show cells + 0 ≤ 601024 by omega), (show slots + 0 ≤ 7293034 by omega)⟩ (fun r1 u1 H locs hp hP hD hS => ?_)
  obtain ⟨e1, hXw⟩ := hp
  have hP := rtP hP
  have hD := rtD hD
  refine lv_aload_n hx hb dL_law_1067 rfl (lv_at hl 2 rfl) ?_
  refine lv_aload_n hx hb dL_law_1068 rfl (lv_at hl 0 rfl) ?_
  refine lv_iload hx hb dL_law_1069 (lv_at hl 4 rfl) ?_
  refine lv_iconst (v := (1 : Int32)) hx hb dL_law_1071 (by decide) ?_
  refine lv_iadd hx hb dL_law_1072 ?_
  refine va_sld hx hb hXs hbl hbA hS (lw_in hi (j := 1) rfl (by decide)) dL_law_1073 ?_
  refine lw_ci (v := v) (av := [.int (xs (i + (1 : Int32)).toNatClampNeg)]) (rest := [.int r1]) S hG hE hO hA (uM_right l g v qM st (xs (i + (1 : Int32)).toNatClampNeg)) hMw hP hD hS (cwV 1 hts gL_law_X9_right rfl rfl rfl (by decide +kernel) ⟨(Nat.le_of_ble_eq_true rfl), (Nat.le_of_ble_eq_true rfl)⟩) (va_recv hK (va_P_l hP) (ci := 9) (q0 := 0) rfl h0m) rfl hl.1 rfl (Nat.le_of_ble_eq_true rfl) dL_law_1074 ⟨(show cells + 0 + 0 ≤ 601024 by omega), (show slots + 0 + 0 ≤ 7293034 by omega)⟩ (fun r2 u2 H locs hp hP hD hS => ?_)
  obtain ⟨e2, hMw⟩ := hp
  have hP := rtP (rtP hP)
  have hD := rtD (rtD hD)
  have ee : r1 = r2 := q_inj (e1.trans e2.symm)
  refine lv_icmp_eq (tgt := 1776) hx hb dL_law_1077 (by decide) (fun _ => ?_) (fun hc => absurd ee hc)
  refine W.widen (k := cells + 40) (n := slots + 900) (by omega) (by omega) ?_
  refine kk _ _ _ fo H locs ls ?_ hXw hMw hP hD hS hl
  exact ok
set_option maxHeartbeats 800000 in
set_option maxRecDepth 100000 in
theorem lwk_23 {p : Program} {l : Launch} {e : Env} {s : State} {m : MethodId} {below : List Frame} {meth : Method} {c : Code} {g : GP} {v : GV} {z : Nat × Nat} {b L : Nat} {xs : Nat → Int32} {qX qM qo : Nat} {i : Int32} {cells slots : Nat} (C : LwC p l s m meth c g v z b L xs) (hi : 0 ≤ i.toInt ∧ i.toInt + 5 ≤ (L : Int) ∧ L ≤ 2560) (hroom : cells + 40 ≤ 601024 ∧ slots + 900 ≤ 7293034) (kk : LwN p l e s m below meth c g b qX qM qo i (cells + 40) (slots + 900) 1776) : LwN p l e s m below meth c g b qX qM qo i cells slots 1082 := by
  intro st wx wm fo H locs ls ok hXw hMw hP hD hS hl
  obtain ⟨hx, hb, hr, hml, hown, hts, hXs, hbl, hlocks, hG, hE, hO, hX, hst⟩ := id C
  have hK := hG.1
  have S : CallFix p m c cL_law 7 s #[Value.ref b] wsLw RL := ⟨hx, hb, hml, hown, hts⟩
  have hA : ∀ q : Nat, s.heap.size ≤ q → lwA s q := fun _ h => h
  have hbA : ¬ lwA s b := Nat.not_le.mpr hbl
  obtain ⟨fx, h0x⟩ := hXw.hd
  obtain ⟨fm, h0m⟩ := hMw.hd
  refine lv_aload_n hx hb dL_law_1082 rfl (lv_at hl 1 rfl) ?_
  refine lv_aload_n hx hb dL_law_1083 rfl (lv_at hl 0 rfl) ?_
  refine lv_iload hx hb dL_law_1084 (lv_at hl 4 rfl) ?_
  refine lv_iconst (v := (1 : Int32)) hx hb dL_law_1086 (by decide) ?_
  refine lv_iadd hx hb dL_law_1087 ?_
  refine va_sld hx hb hXs hbl hbA hS (lw_in hi (j := 1) rfl (by decide)) dL_law_1088 ?_
  refine lv_aload_n hx hb dL_law_1089 rfl (lv_at hl 0 rfl) ?_
  refine lv_iload hx hb dL_law_1090 (lv_at hl 4 rfl) ?_
  refine lv_iconst (v := (2 : Int32)) hx hb dL_law_1092 (by decide) ?_
  refine lv_iadd hx hb dL_law_1093 ?_
  refine va_sld hx hb hXs hbl hbA hS (lw_in hi (j := 2) rfl (by decide)) dL_law_1094 ?_
  refine lw_ci (v := v) (av := [.int (xs (i + (1 : Int32)).toNatClampNeg), .int (xs (i + (2 : Int32)).toNatClampNeg)]) (rest := []) S hG hE hO hA (uX_joined l g v qX st (xs (i + (1 : Int32)).toNatClampNeg) (xs (i + (2 : Int32)).toNatClampNeg)) hXw hP hD hS (cwV 2 hts gL_law_X8_joined rfl rfl rfl (by decide +kernel) ⟨(Nat.le_of_ble_eq_true rfl), (Nat.le_of_ble_eq_true rfl)⟩) (va_recv hK (va_P_l hP) (ci := 8) (q0 := 0) rfl h0x) rfl hl.1 rfl (Nat.le_of_ble_eq_true rfl) dL_law_1095 ⟨(show cells + 0 ≤ 601024 by omega), (show slots + 0 ≤ 7293034 by omega)⟩ (fun r1 u1 H locs hp hP hD hS => ?_)
  obtain ⟨e1, hXw⟩ := hp
  have hP := rtP hP
  have hD := rtD hD
  refine lv_aload_n hx hb dL_law_1098 rfl (lv_at hl 2 rfl) ?_
  refine lv_aload_n hx hb dL_law_1099 rfl (lv_at hl 0 rfl) ?_
  refine lv_iload hx hb dL_law_1100 (lv_at hl 4 rfl) ?_
  refine lv_iconst (v := (1 : Int32)) hx hb dL_law_1102 (by decide) ?_
  refine lv_iadd hx hb dL_law_1103 ?_
  refine va_sld hx hb hXs hbl hbA hS (lw_in hi (j := 1) rfl (by decide)) dL_law_1104 ?_
  refine lv_aload_n hx hb dL_law_1105 rfl (lv_at hl 0 rfl) ?_
  refine lv_iload hx hb dL_law_1106 (lv_at hl 4 rfl) ?_
  refine lv_iconst (v := (2 : Int32)) hx hb dL_law_1108 (by decide) ?_
  refine lv_iadd hx hb dL_law_1109 ?_
  refine va_sld hx hb hXs hbl hbA hS (lw_in hi (j := 2) rfl (by decide)) dL_law_1110 ?_
  refine lw_ci (v := v) (av := [.int (xs (i + (1 : Int32)).toNatClampNeg), .int (xs (i + (2 : Int32)).toNatClampNeg)]) (rest := [.int r1]) S hG hE hO hA (uM_joined l g v qM st (xs (i + (1 : Int32)).toNatClampNeg) (xs (i + (2 : Int32)).toNatClampNeg)) hMw hP hD hS (cwV 2 hts gL_law_X9_joined rfl rfl rfl (by decide +kernel) ⟨(Nat.le_of_ble_eq_true rfl), (Nat.le_of_ble_eq_true rfl)⟩) (va_recv hK (va_P_l hP) (ci := 9) (q0 := 0) rfl h0m) rfl hl.1 rfl (Nat.le_of_ble_eq_true rfl) dL_law_1111 ⟨(show cells + 0 + 0 ≤ 601024 by omega), (show slots + 0 + 0 ≤ 7293034 by omega)⟩ (fun r2 u2 H locs hp hP hD hS => ?_)
  obtain ⟨e2, hMw⟩ := hp
  have hP := rtP (rtP hP)
  have hD := rtD (rtD hD)
  have ee : r1 = r2 := q_inj (e1.trans e2.symm)
  refine lv_icmp_eq (tgt := 1776) hx hb dL_law_1114 (by decide) (fun _ => ?_) (fun hc => absurd ee hc)
  refine W.widen (k := cells + 40) (n := slots + 900) (by omega) (by omega) ?_
  refine kk _ _ _ fo H locs ls ?_ hXw hMw hP hD hS hl
  exact ok
set_option maxHeartbeats 800000 in
set_option maxRecDepth 100000 in
theorem lwk_24 {p : Program} {l : Launch} {e : Env} {s : State} {m : MethodId} {below : List Frame} {meth : Method} {c : Code} {g : GP} {v : GV} {z : Nat × Nat} {b L : Nat} {xs : Nat → Int32} {qX qM qo : Nat} {i : Int32} {cells slots : Nat} (C : LwC p l s m meth c g v z b L xs) (hi : 0 ≤ i.toInt ∧ i.toInt + 5 ≤ (L : Int) ∧ L ≤ 2560) (hroom : cells + 40 ≤ 601024 ∧ slots + 900 ≤ 7293034) (kk : LwN p l e s m below meth c g b qX qM qo i (cells + 40) (slots + 900) 1776) : LwN p l e s m below meth c g b qX qM qo i cells slots 1119 := by
  intro st wx wm fo H locs ls ok hXw hMw hP hD hS hl
  obtain ⟨hx, hb, hr, hml, hown, hts, hXs, hbl, hlocks, hG, hE, hO, hX, hst⟩ := id C
  have hK := hG.1
  have S : CallFix p m c cL_law 7 s #[Value.ref b] wsLw RL := ⟨hx, hb, hml, hown, hts⟩
  have hA : ∀ q : Nat, s.heap.size ≤ q → lwA s q := fun _ h => h
  have hbA : ¬ lwA s b := Nat.not_le.mpr hbl
  obtain ⟨fx, h0x⟩ := hXw.hd
  obtain ⟨fm, h0m⟩ := hMw.hd
  refine lv_aload_n hx hb dL_law_1119 rfl (lv_at hl 1 rfl) ?_
  refine lv_aload_n hx hb dL_law_1120 rfl (lv_at hl 0 rfl) ?_
  refine lv_iload hx hb dL_law_1121 (lv_at hl 4 rfl) ?_
  refine lv_iconst (v := (1 : Int32)) hx hb dL_law_1123 (by decide) ?_
  refine lv_iadd hx hb dL_law_1124 ?_
  refine va_sld hx hb hXs hbl hbA hS (lw_in hi (j := 1) rfl (by decide)) dL_law_1125 ?_
  refine lv_aload_n hx hb dL_law_1126 rfl (lv_at hl 0 rfl) ?_
  refine lv_iload hx hb dL_law_1127 (lv_at hl 4 rfl) ?_
  refine lv_iconst (v := (2 : Int32)) hx hb dL_law_1129 (by decide) ?_
  refine lv_iadd hx hb dL_law_1130 ?_
  refine va_sld hx hb hXs hbl hbA hS (lw_in hi (j := 2) rfl (by decide)) dL_law_1131 ?_
  refine lw_ci (v := v) (av := [.int (xs (i + (1 : Int32)).toNatClampNeg), .int (xs (i + (2 : Int32)).toNatClampNeg)]) (rest := []) S hG hE hO hA (uX_found l g v qX st (xs (i + (1 : Int32)).toNatClampNeg) (xs (i + (2 : Int32)).toNatClampNeg)) hXw hP hD hS (cwV 2 hts gL_law_X8_found rfl rfl rfl (by decide +kernel) ⟨(Nat.le_of_ble_eq_true rfl), (Nat.le_of_ble_eq_true rfl)⟩) (va_recv hK (va_P_l hP) (ci := 8) (q0 := 0) rfl h0x) rfl hl.1 rfl (Nat.le_of_ble_eq_true rfl) dL_law_1132 ⟨(show cells + 0 ≤ 601024 by omega), (show slots + 0 ≤ 7293034 by omega)⟩ (fun r1 u1 H locs hp hP hD hS => ?_)
  obtain ⟨e1, hXw⟩ := hp
  have hP := rtP hP
  have hD := rtD hD
  refine lv_aload_n hx hb dL_law_1135 rfl (lv_at hl 2 rfl) ?_
  refine lv_aload_n hx hb dL_law_1136 rfl (lv_at hl 0 rfl) ?_
  refine lv_iload hx hb dL_law_1137 (lv_at hl 4 rfl) ?_
  refine lv_iconst (v := (1 : Int32)) hx hb dL_law_1139 (by decide) ?_
  refine lv_iadd hx hb dL_law_1140 ?_
  refine va_sld hx hb hXs hbl hbA hS (lw_in hi (j := 1) rfl (by decide)) dL_law_1141 ?_
  refine lv_aload_n hx hb dL_law_1142 rfl (lv_at hl 0 rfl) ?_
  refine lv_iload hx hb dL_law_1143 (lv_at hl 4 rfl) ?_
  refine lv_iconst (v := (2 : Int32)) hx hb dL_law_1145 (by decide) ?_
  refine lv_iadd hx hb dL_law_1146 ?_
  refine va_sld hx hb hXs hbl hbA hS (lw_in hi (j := 2) rfl (by decide)) dL_law_1147 ?_
  refine lw_ci (v := v) (av := [.int (xs (i + (1 : Int32)).toNatClampNeg), .int (xs (i + (2 : Int32)).toNatClampNeg)]) (rest := [.int r1]) S hG hE hO hA (uM_found l g v qM st (xs (i + (1 : Int32)).toNatClampNeg) (xs (i + (2 : Int32)).toNatClampNeg)) hMw hP hD hS (cwV 2 hts gL_law_X9_found rfl rfl rfl (by decide +kernel) ⟨(Nat.le_of_ble_eq_true rfl), (Nat.le_of_ble_eq_true rfl)⟩) (va_recv hK (va_P_l hP) (ci := 9) (q0 := 0) rfl h0m) rfl hl.1 rfl (Nat.le_of_ble_eq_true rfl) dL_law_1148 ⟨(show cells + 0 + 0 ≤ 601024 by omega), (show slots + 0 + 0 ≤ 7293034 by omega)⟩ (fun r2 u2 H locs hp hP hD hS => ?_)
  obtain ⟨e2, hMw⟩ := hp
  have hP := rtP (rtP hP)
  have hD := rtD (rtD hD)
  have ee : r1 = r2 := q_inj (e1.trans e2.symm)
  refine lv_icmp_eq (tgt := 1776) hx hb dL_law_1151 (by decide) (fun _ => ?_) (fun hc => absurd ee hc)
  refine W.widen (k := cells + 40) (n := slots + 900) (by omega) (by omega) ?_
  refine kk _ _ _ fo H locs ls ?_ hXw hMw hP hD hS hl
  exact ok
