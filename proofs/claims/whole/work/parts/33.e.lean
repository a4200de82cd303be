set_option maxHeartbeats 800000 in
set_option maxRecDepth 100000 in
theorem lwk_25 {p : Program} {l : Launch} {e : Env} {s : State} {m : MethodId} {below : List Frame} {meth : Method} {c : Code} {g : GP} {v : GV} {z : Nat × Nat} {b L : Nat} {xs : Nat → Int32} {qX qM qo : Nat} {i : Int32} {cells slots : Nat} (C : LwC p l s m meth c g v z b L xs) (hi : 0 ≤ i.toInt ∧ i.toInt + 5 ≤ (L : Int) ∧ L ≤ 2560) (hroom : cells + 40 ≤ 601024 ∧ slots + 900 ≤ 7293034) (kk : LwN p l e s m below meth c g b qX qM qo i (cells + 40) (slots + 900) 1776) : LwN p l e s m below meth c g b qX qM qo i cells slots 1156 := by
  intro st wx wm fo H locs ls ok hXw hMw hP hD hS hl
  obtain ⟨hx, hb, hr, hml, hown, hts, hXs, hbl, hlocks, hG, hE, hO, hX, hst⟩ := id C
  have hK := hG.1
  have S : CallFix p m c cL_law 7 s #[Value.ref b] wsLw RL := ⟨hx, hb, hml, hown, hts⟩
  have hA : ∀ q : Nat, s.heap.size ≤ q → lwA s q := fun _ h => h
  have hbA : ¬ lwA s b := Nat.not_le.mpr hbl
  obtain ⟨fx, h0x⟩ := hXw.hd
  obtain ⟨fm, h0m⟩ := hMw.hd
  refine lv_aload_n hx hb dL_law_1156 rfl (lv_at hl 1 rfl) ?_
  refine lv_aload_n hx hb dL_law_1157 rfl (lv_at hl 0 rfl) ?_
  refine lv_iload hx hb dL_law_1158 (lv_at hl 4 rfl) ?_
  refine lv_iconst (v := (1 : Int32)) hx hb dL_law_1160 (by decide) ?_
  refine lv_iadd hx hb dL_law_1161 ?_
  refine va_sld hx hb hXs hbl hbA hS (lw_in hi (j := 1) rfl (by decide)) dL_law_1162 ?_
  refine lv_aload_n hx hb dL_law_1163 rfl (lv_at hl 0 rfl) ?_
  refine lv_iload hx hb dL_law_1164 (lv_at hl 4 rfl) ?_
  refine lv_iconst (v := (2 : Int32)) hx hb dL_law_1166 (by decide) ?_
  refine lv_iadd hx hb dL_law_1167 ?_
  refine va_sld hx hb hXs hbl hbA hS (lw_in hi (j := 2) rfl (by decide)) dL_law_1168 ?_
  refine lw_ci (v := v) (av := [.int (xs (i + (1 : Int32)).toNatClampNeg), .int (xs (i + (2 : Int32)).toNatClampNeg)]) (rest := []) S hG hE hO hA (uX_guess l g v qX st (xs (i + (1 : Int32)).toNatClampNeg) (xs (i + (2 : Int32)).toNatClampNeg)) hXw hP hD hS (cwV 2 hts gL_law_X8_guess rfl rfl rfl (by decide +kernel) ⟨(Nat.le_of_ble_eq_true rfl), (Nat.le_of_ble_eq_true rfl)⟩) (va_recv hK (va_P_l hP) (ci := 8) (q0 := 0) rfl h0x) rfl hl.1 rfl (Nat.le_of_ble_eq_true rfl) dL_law_1169 ⟨(show cells + 0 ≤ 601024 by omega), (show slots + 0 ≤ 7293034 by omega)⟩ (fun r1 u1 H locs hp hP hD hS => ?_)
  obtain ⟨e1, hXw⟩ := hp
  have hP := rtP hP
  have hD := rtD hD
  refine lv_aload_n hx hb dL_law_1172 rfl (lv_at hl 2 rfl) ?_
  refine lv_aload_n hx hb dL_law_1173 rfl (lv_at hl 0 rfl) ?_
  refine lv_iload hx hb dL_law_1174 (lv_at hl 4 rfl) ?_
  refine lv_iconst (v := (1 : Int32)) hx hb dL_law_1176 (by decide) ?_
  refine lv_iadd hx hb dL_law_1177 ?_
  refine va_sld hx hb hXs hbl hbA hS (lw_in hi (j := 1) rfl (by decide)) dL_law_1178 ?_
  refine lv_aload_n hx hb dL_law_1179 rfl (lv_at hl 0 rfl) ?_
  refine lv_iload hx hb dL_law_1180 (lv_at hl 4 rfl) ?_
  refine lv_iconst (v := (2 : Int32)) hx hb dL_law_1182 (by decide) ?_
  refine lv_iadd hx hb dL_law_1183 ?_
  refine va_sld hx hb hXs hbl hbA hS (lw_in hi (j := 2) rfl (by decide)) dL_law_1184 ?_
  refine lw_ci (v := v) (av := [.int (xs (i + (1 : Int32)).toNatClampNeg), .int (xs (i + (2 : Int32)).toNatClampNeg)]) (rest := [.int r1]) S hG hE hO hA (uM_guess l g v qM st (xs (i + (1 : Int32)).toNatClampNeg) (xs (i + (2 : Int32)).toNatClampNeg)) hMw hP hD hS (cwV 2 hts gL_law_X9_guess rfl rfl rfl (by decide +kernel) ⟨(Nat.le_of_ble_eq_true rfl), (Nat.le_of_ble_eq_true rfl)⟩) (va_recv hK (va_P_l hP) (ci := 9) (q0 := 0) rfl h0m) rfl hl.1 rfl (Nat.le_of_ble_eq_true rfl) dL_law_1185 ⟨(show cells + 0 + 0 ≤ 601024 by omega), (show slots + 0 + 0 ≤ 7293034 by omega)⟩ (fun r2 u2 H locs hp hP hD hS => ?_)
  obtain ⟨e2, hMw⟩ := hp
  have hP := rtP (rtP hP)
  have hD := rtD (rtD hD)
  have ee : r1 = r2 := q_inj (e1.trans e2.symm)
  refine lv_icmp_eq (tgt := 1776) hx hb dL_law_1188 (by decide) (fun _ => ?_) (fun hc => absurd ee hc)
  refine W.widen (k := cells + 40) (n := slots + 900) (by omega) (by omega) ?_
  refine kk _ _ _ fo H locs ls ?_ hXw hMw hP hD hS hl
  exact ok
set_option maxHeartbeats 800000 in
set_option maxRecDepth 100000 in
theorem lwk_26 {p : Program} {l : Launch} {e : Env} {s : State} {m : MethodId} {below : List Frame} {meth : Method} {c : Code} {g : GP} {v : GV} {z : Nat × Nat} {b L : Nat} {xs : Nat → Int32} {qX qM qo : Nat} {i : Int32} {cells slots : Nat} (C : LwC p l s m meth c g v z b L xs) (hi : 0 ≤ i.toInt ∧ i.toInt + 5 ≤ (L : Int) ∧ L ≤ 2560) (hroom : cells + 40 ≤ 601024 ∧ slots + 900 ≤ 7293034) (kk : LwN p l e s m below meth c g b qX qM qo i (cells + 40) (slots + 900) 1776) : LwN p l e s m below meth c g b qX qM qo i cells slots 1193 := by
  intro st wx wm fo H locs ls ok hXw hMw hP hD hS hl
  obtain ⟨hx, hb, hr, hml, hown, hts, hXs, hbl, hlocks, hG, hE, hO, hX, hst⟩ := id C
  have hK := hG.1
  have S : CallFix p m c cL_law 7 s #[Value.ref b] wsLw RL := ⟨hx, hb, hml, hown, hts⟩
  have hA : ∀ q : Nat, s.heap.size ≤ q → lwA s q := fun _ h => h
  have hbA : ¬ lwA s b := Nat.not_le.mpr hbl
  obtain ⟨fx, h0x⟩ := hXw.hd
  obtain ⟨fm, h0m⟩ := hMw.hd
  by_cases hz : (xs (i + (3 : Int32)).toNatClampNeg) = 0
  · skip
    refine lv_aload_n hx hb dL_law_1193 rfl (lv_at hl 1 rfl) ?_
    refine lv_aload_n hx hb dL_law_1194 rfl (lv_at hl 0 rfl) ?_
    refine lv_iload hx hb dL_law_1195 (lv_at hl 4 rfl) ?_
    refine lv_iconst (v := (1 : Int32)) hx hb dL_law_1197 (by decide) ?_
    refine lv_iadd hx hb dL_law_1198 ?_
    refine va_sld hx hb hXs hbl hbA hS (lw_in hi (j := 1) rfl (by decide)) dL_law_1199 ?_
    refine lv_aload_n hx hb dL_law_1200 rfl (lv_at hl 0 rfl) ?_
    refine lv_iload hx hb dL_law_1201 (lv_at hl 4 rfl) ?_
    refine lv_iconst (v := (2 : Int32)) hx hb dL_law_1203 (by decide) ?_
    refine lv_iadd hx hb dL_law_1204 ?_
    refine va_sld hx hb hXs hbl hbA hS (lw_in hi (j := 2) rfl (by decide)) dL_law_1205 ?_
    refine lv_aload_n hx hb dL_law_1206 rfl (lv_at hl 0 rfl) ?_
    refine lv_iload hx hb dL_law_1207 (lv_at hl 4 rfl) ?_
    refine lv_iconst (v := (3 : Int32)) hx hb dL_law_1209 (by decide) ?_
    refine lv_iadd hx hb dL_law_1210 ?_
    refine va_sld hx hb hXs hbl hbA hS (lw_in hi (j := 3) rfl (by decide)) dL_law_1211 ?_
    refine lv_if_eq (tgt := 1219) hx hb dL_law_1212 (by decide) (fun _ => ?_) (fun hc => absurd hz hc)
    refine lv_iconst (v := (0 : Int32)) hx hb dL_law_1219 (by decide) ?_
    refine lw_ci (v := v) (av := [.int (xs (i + (1 : Int32)).toNatClampNeg), .int (xs (i + (2 : Int32)).toNatClampNeg), .int (0 : Int32)]) (rest := []) S hG hE hO hA (uX_likely l g v qX st (xs (i + (1 : Int32)).toNatClampNeg) (xs (i + (2 : Int32)).toNatClampNeg) (0 : Int32)) hXw hP hD hS (cwV 3 hts gL_law_X8_likely rfl rfl rfl (by decide +kernel) ⟨(Nat.le_of_ble_eq_true rfl), (Nat.le_of_ble_eq_true rfl)⟩) (va_recv hK (va_P_l hP) (ci := 8) (q0 := 0) rfl h0x) rfl hl.1 rfl (Nat.le_of_ble_eq_true rfl) dL_law_1220 ⟨(show cells + 0 ≤ 601024 by omega), (show slots + 0 ≤ 7293034 by omega)⟩ (fun r1 u1 H locs hp hP hD hS => ?_)
    obtain ⟨e1, hXw⟩ := hp
    have hP := rtP hP
    have hD := rtD hD
    refine lv_aload_n hx hb dL_law_1223 rfl (lv_at hl 2 rfl) ?_
    refine lv_aload_n hx hb dL_law_1224 rfl (lv_at hl 0 rfl) ?_
    refine lv_iload hx hb dL_law_1225 (lv_at hl 4 rfl) ?_
    refine lv_iconst (v := (1 : Int32)) hx hb dL_law_1227 (by decide) ?_
    refine lv_iadd hx hb dL_law_1228 ?_
    refine va_sld hx hb hXs hbl hbA hS (lw_in hi (j := 1) rfl (by decide)) dL_law_1229 ?_
    refine lv_aload_n hx hb dL_law_1230 rfl (lv_at hl 0 rfl) ?_
    refine lv_iload hx hb dL_law_1231 (lv_at hl 4 rfl) ?_
    refine lv_iconst (v := (2 : Int32)) hx hb dL_law_1233 (by decide) ?_
    refine lv_iadd hx hb dL_law_1234 ?_
    refine va_sld hx hb hXs hbl hbA hS (lw_in hi (j := 2) rfl (by decide)) dL_law_1235 ?_
    refine lv_aload_n hx hb dL_law_1236 rfl (lv_at hl 0 rfl) ?_
    refine lv_iload hx hb dL_law_1237 (lv_at hl 4 rfl) ?_
    refine lv_iconst (v := (3 : Int32)) hx hb dL_law_1239 (by decide) ?_
    refine lv_iadd hx hb dL_law_1240 ?_
    refine va_sld hx hb hXs hbl hbA hS (lw_in hi (j := 3) rfl (by decide)) dL_law_1241 ?_
    refine lv_if_eq (tgt := 1249) hx hb dL_law_1242 (by decide) (fun _ => ?_) (fun hc => absurd hz hc)
    refine lv_iconst (v := (0 : Int32)) hx hb dL_law_1249 (by decide) ?_
    refine lw_ci (v := v) (av := [.int (xs (i + (1 : Int32)).toNatClampNeg), .int (xs (i + (2 : Int32)).toNatClampNeg), .int (0 : Int32)]) (rest := [.int r1]) S hG hE hO hA (uM_likely l g v qM st (xs (i + (1 : Int32)).toNatClampNeg) (xs (i + (2 : Int32)).toNatClampNeg) (0 : Int32)) hMw hP hD hS (cwV 3 hts gL_law_X9_likely rfl rfl rfl (by decide +kernel) ⟨(Nat.le_of_ble_eq_true rfl), (Nat.le_of_ble_eq_true rfl)⟩) (va_recv hK (va_P_l hP) (ci := 9) (q0 := 0) rfl h0m) rfl hl.1 rfl (Nat.le_of_ble_eq_true rfl) dL_law_1250 ⟨(show cells + 0 + 0 ≤ 601024 by omega), (show slots + 0 + 0 ≤ 7293034 by omega)⟩ (fun r2 u2 H locs hp hP hD hS => ?_)
    obtain ⟨e2, hMw⟩ := hp
    have hP := rtP (rtP hP)
    have hD := rtD (rtD hD)
    have ee : r1 = r2 := q_inj (e1.trans e2.symm)
    refine lv_icmp_eq (tgt := 1776) hx hb dL_law_1253 (by decide) (fun _ => ?_) (fun hc => absurd ee hc)
    refine W.widen (k := cells + 40) (n := slots + 900) (by omega) (by omega) ?_
    refine kk _ _ _ fo H locs ls ?_ hXw hMw hP hD hS hl
    exact ok
  · skip
    refine lv_aload_n hx hb dL_law_1193 rfl (lv_at hl 1 rfl) ?_
    refine lv_aload_n hx hb dL_law_1194 rfl (lv_at hl 0 rfl) ?_
    refine lv_iload hx hb dL_law_1195 (lv_at hl 4 rfl) ?_
    refine lv_iconst (v := (1 : Int32)) hx hb dL_law_1197 (by decide) ?_
    refine lv_iadd hx hb dL_law_1198 ?_
    refine va_sld hx hb hXs hbl hbA hS (lw_in hi (j := 1) rfl (by decide)) dL_law_1199 ?_
    refine lv_aload_n hx hb dL_law_1200 rfl (lv_at hl 0 rfl) ?_
    refine lv_iload hx hb dL_law_1201 (lv_at hl 4 rfl) ?_
    refine lv_iconst (v := (2 : Int32)) hx hb dL_law_1203 (by decide) ?_
    refine lv_iadd hx hb dL_law_1204 ?_
    refine va_sld hx hb hXs hbl hbA hS (lw_in hi (j := 2) rfl (by decide)) dL_law_1205 ?_
    refine lv_aload_n hx hb dL_law_1206 rfl (lv_at hl 0 rfl) ?_
    refine lv_iload hx hb dL_law_1207 (lv_at hl 4 rfl) ?_
    refine lv_iconst (v := (3 : Int32)) hx hb dL_law_1209 (by decide) ?_
    refine lv_iadd hx hb dL_law_1210 ?_
    refine va_sld hx hb hXs hbl hbA hS (lw_in hi (j := 3) rfl (by decide)) dL_law_1211 ?_
    refine lv_if_eq (tgt := 1219) hx hb dL_law_1212 (by decide) (fun hc => absurd hc hz) (fun _ => ?_)
    refine lv_iconst (v := (1 : Int32)) hx hb dL_law_1215 (by decide) ?_
    refine lv_goto (tgt := 1220) hx hb dL_law_1216 (by decide) ?_
    refine lw_ci (v := v) (av := [.int (xs (i + (1 : Int32)).toNatClampNeg), .int (xs (i + (2 : Int32)).toNatClampNeg), .int (1 : Int32)]) (rest := []) S hG hE hO hA (uX_likely l g v qX st (xs (i + (1 : Int32)).toNatClampNeg) (xs (i + (2 : Int32)).toNatClampNeg) (1 : Int32)) hXw hP hD hS (cwV 3 hts gL_law_X8_likely rfl rfl rfl (by decide +kernel) ⟨(Nat.le_of_ble_eq_true rfl), (Nat.le_of_ble_eq_true rfl)⟩) (va_recv hK (va_P_l hP) (ci := 8) (q0 := 0) rfl h0x) rfl hl.1 rfl (Nat.le_of_ble_eq_true rfl) dL_law_1220 ⟨(show cells + 0 ≤ 601024 by omega), (show slots + 0 ≤ 7293034 by omega)⟩ (fun r1 u1 H locs hp hP hD hS => ?_)
    obtain ⟨e1, hXw⟩ := hp
    have hP := rtP hP
    have hD := rtD hD
    refine lv_aload_n hx hb dL_law_1223 rfl (lv_at hl 2 rfl) ?_
    refine lv_aload_n hx hb dL_law_1224 rfl (lv_at hl 0 rfl) ?_
    refine lv_iload hx hb dL_law_1225 (lv_at hl 4 rfl) ?_
    refine lv_iconst (v := (1 : Int32)) hx hb dL_law_1227 (by decide) ?_
    refine lv_iadd hx hb dL_law_1228 ?_
    refine va_sld hx hb hXs hbl hbA hS (lw_in hi (j := 1) rfl (by decide)) dL_law_1229 ?_
    refine lv_aload_n hx hb dL_law_1230 rfl (lv_at hl 0 rfl) ?_
    refine lv_iload hx hb dL_law_1231 (lv_at hl 4 rfl) ?_
    refine lv_iconst (v := (2 : Int32)) hx hb dL_law_1233 (by decide) ?_
    refine lv_iadd hx hb dL_law_1234 ?_
    refine va_sld hx hb hXs hbl hbA hS (lw_in hi (j := 2) rfl (by decide)) dL_law_1235 ?_
    refine lv_aload_n hx hb dL_law_1236 rfl (lv_at hl 0 rfl) ?_
    refine lv_iload hx hb dL_law_1237 (lv_at hl 4 rfl) ?_
    refine lv_iconst (v := (3 : Int32)) hx hb dL_law_1239 (by decide) ?_
    refine lv_iadd hx hb dL_law_1240 ?_
    refine va_sld hx hb hXs hbl hbA hS (lw_in hi (j := 3) rfl (by decide)) dL_law_1241 ?_
    refine lv_if_eq (tgt := 1249) hx hb dL_law_1242 (by decide) (fun hc => absurd hc hz) (fun _ => ?_)
    refine lv_iconst (v := (1 : Int32)) hx hb dL_law_1245 (by decide) ?_
    refine lv_goto (tgt := 1250) hx hb dL_law_1246 (by decide) ?_
    refine lw_ci (v := v) (av := [.int (xs (i + (1 : Int32)).toNatClampNeg), .int (xs (i + (2 : Int32)).toNatClampNeg), .int (1 : Int32)]) (rest := [.int r1]) S hG hE hO hA (uM_likely l g v qM st (xs (i + (1 : Int32)).toNatClampNeg) (xs (i + (2 : Int32)).toNatClampNeg) (1 : Int32)) hMw hP hD hS (cwV 3 hts gL_law_X9_likely rfl rfl rfl (by decide +kernel) ⟨(Nat.le_of_ble_eq_true rfl), (Nat.le_of_ble_eq_true rfl)⟩) (va_recv hK (va_P_l hP) (ci := 9) (q0 := 0) rfl h0m) rfl hl.1 rfl (Nat.le_of_ble_eq_true rfl) dL_law_1250 ⟨(show cells + 0 + 0 ≤ 601024 by omega), (show slots + 0 + 0 ≤ 7293034 by omega)⟩ (fun r2 u2 H locs hp hP hD hS => ?_)
    obtain ⟨e2, hMw⟩ := hp
    have hP := rtP (rtP hP)
    have hD := rtD (rtD hD)
    have ee : r1 = r2 := q_inj (e1.trans e2.symm)
    refine lv_icmp_eq (tgt := 1776) hx hb dL_law_1253 (by decide) (fun _ => ?_) (fun hc => absurd ee hc)
    refine W.widen (k := cells + 40) (n := slots + 900) (by omega) (by omega) ?_
    refine kk _ _ _ fo H locs ls ?_ hXw hMw hP hD hS hl
    exact ok
set_option maxHeartbeats 800000 in
set_option maxRecDepth 100000 in
theorem lwk_27 {p : Program} {l : Launch} {e : Env} {s : State} {m : MethodId} {below : List Frame} {meth : Method} {c : Code} {g : GP} {v : GV} {z : Nat × Nat} {b L : Nat} {xs : Nat → Int32} {qX qM qo : Nat} {i : Int32} {cells slots : Nat} (C : LwC p l s m meth c g v z b L xs) (hi : 0 ≤ i.toInt ∧ i.toInt + 5 ≤ (L : Int) ∧ L ≤ 2560) (hroom : cells + 40 ≤ 601024 ∧ slots + 900 ≤ 7293034) (kk : LwN p l e s m below meth c g b qX qM qo i (cells + 40) (slots + 900) 1776) : LwN p l e s m below meth c g b qX qM qo i cells slots 1258 := by
  intro st wx wm fo H locs ls ok hXw hMw hP hD hS hl
  obtain ⟨hx, hb, hr, hml, hown, hts, hXs, hbl, hlocks, hG, hE, hO, hX, hst⟩ := id C
  have hK := hG.1
  have S : CallFix p m c cL_law 7 s #[Value.ref b] wsLw RL := ⟨hx, hb, hml, hown, hts⟩
  have hA : ∀ q : Nat, s.heap.size ≤ q → lwA s q := fun _ h => h
  have hbA : ¬ lwA s b := Nat.not_le.mpr hbl
  obtain ⟨fx, h0x⟩ := hXw.hd
  obtain ⟨fm, h0m⟩ := hMw.hd
  refine lv_aload_n hx hb dL_law_1258 rfl (lv_at hl 1 rfl) ?_
  refine lv_aload_n hx hb dL_law_1259 rfl (lv_at hl 0 rfl) ?_
  refine lv_iload hx hb dL_law_1260 (lv_at hl 4 rfl) ?_
  refine lv_iconst (v := (1 : Int32)) hx hb dL_law_1262 (by decide) ?_
  refine lv_iadd hx hb dL_law_1263 ?_
  refine va_sld hx hb hXs hbl hbA hS (lw_in hi (j := 1) rfl (by decide)) dL_law_1264 ?_
  refine lv_aload_n hx hb dL_law_1265 rfl (lv_at hl 0 rfl) ?_
  refine lv_iload hx hb dL_law_1266 (lv_at hl 4 rfl) ?_
  refine lv_iconst (v := (2 : Int32)) hx hb dL_law_1268 (by decide) ?_
  refine lv_iadd hx hb dL_law_1269 ?_
  refine va_sld hx hb hXs hbl hbA hS (lw_in hi (j := 2) rfl (by decide)) dL_law_1270 ?_
  refine lw_ci (v := v) (av := [.int (xs (i + (1 : Int32)).toNatClampNeg), .int (xs (i + (2 : Int32)).toNatClampNeg)]) (rest := []) S hG hE hO hA (uX_rank l g v qX st (xs (i + (1 : Int32)).toNatClampNeg) (xs (i + (2 : Int32)).toNatClampNeg)) hXw hP hD hS (cwV 2 hts gL_law_X8_rank rfl rfl rfl (by decide +kernel) ⟨(Nat.le_of_ble_eq_true rfl), (Nat.le_of_ble_eq_true rfl)⟩) (va_recv hK (va_P_l hP) (ci := 8) (q0 := 0) rfl h0x) rfl hl.1 rfl (Nat.le_of_ble_eq_true rfl) dL_law_1271 ⟨(show cells + 0 ≤ 601024 by omega), (show slots + 0 ≤ 7293034 by omega)⟩ (fun r1 u1 H locs hp hP hD hS => ?_)
  obtain ⟨e1, hXw⟩ := hp
  have hP := rtP hP
  have hD := rtD hD
  refine lv_aload_n hx hb dL_law_1274 rfl (lv_at hl 2 rfl) ?_
  refine lv_aload_n hx hb dL_law_1275 rfl (lv_at hl 0 rfl) ?_
  refine lv_iload hx hb dL_law_1276 (lv_at hl 4 rfl) ?_
  refine lv_iconst (v := (1 : Int32)) hx hb dL_law_1278 (by decide) ?_
  refine lv_iadd hx hb dL_law_1279 ?_
  refine va_sld hx hb hXs hbl hbA hS (lw_in hi (j := 1) rfl (by decide)) dL_law_1280 ?_
  refine lv_aload_n hx hb dL_law_1281 rfl (lv_at hl 0 rfl) ?_
  refine lv_iload hx hb dL_law_1282 (lv_at hl 4 rfl) ?_
  refine lv_iconst (v := (2 : Int32)) hx hb dL_law_1284 (by decide) ?_
  refine lv_iadd hx hb dL_law_1285 ?_
  refine va_sld hx hb hXs hbl hbA hS (lw_in hi (j := 2) rfl (by decide)) dL_law_1286 ?_
  refine lw_ci (v := v) (av := [.int (xs (i + (1 : Int32)).toNatClampNeg), .int (xs (i + (2 : Int32)).toNatClampNeg)]) (rest := [.int r1]) S hG hE hO hA (uM_rank l g v qM st (xs (i + (1 : Int32)).toNatClampNeg) (xs (i + (2 : Int32)).toNatClampNeg)) hMw hP hD hS (cwV 2 hts gL_law_X9_rank rfl rfl rfl (by decide +kernel) ⟨(Nat.le_of_ble_eq_true rfl), (Nat.le_of_ble_eq_true rfl)⟩) (va_recv hK (va_P_l hP) (ci := 9) (q0 := 0) rfl h0m) rfl hl.1 rfl (Nat.le_of_ble_eq_true rfl) dL_law_1287 ⟨(show cells + 0 + 0 ≤ 601024 by omega), (show slots + 0 + 0 ≤ 7293034 by omega)⟩ (fun r2 u2 H locs hp hP hD hS => ?_)
  obtain ⟨e2, hMw⟩ := hp
  have hP := rtP (rtP hP)
  have hD := rtD (rtD hD)
  have ee : r1 = r2 := q_inj (e1.trans e2.symm)
  refine lv_icmp_eq (tgt := 1776) hx hb dL_law_1290 (by decide) (fun _ => ?_) (fun hc => absurd ee hc)
  refine W.widen (k := cells + 40) (n := slots + 900) (by omega) (by omega) ?_
  refine kk _ _ _ fo H locs ls ?_ hXw hMw hP hD hS hl
  exact ok
set_option maxHeartbeats 800000 in
set_option maxRecDepth 100000 in
theorem lwk_28 {p : Program} {l : Launch} {e : Env} {s : State} {m : MethodId} {below : List Frame} {meth : Method} {c : Code} {g : GP} {v : GV} {z : Nat × Nat} {b L : Nat} {xs : Nat → Int32} {qX qM qo : Nat} {i : Int32} {cells slots : Nat} (C : LwC p l s m meth c g v z b L xs) (hi : 0 ≤ i.toInt ∧ i.toInt + 5 ≤ (L : Int) ∧ L ≤ 2560) (hroom : cells + 40 ≤ 601024 ∧ slots + 900 ≤ 7293034) (kk : LwN p l e s m below meth c g b qX qM qo i (cells + 40) (slots + 900) 1776) : LwN p l e s m below meth c g b qX qM qo i cells slots 1295 := by
  intro st wx wm fo H locs ls ok hXw hMw hP hD hS hl
  obtain ⟨hx, hb, hr, hml, hown, hts, hXs, hbl, hlocks, hG, hE, hO, hX, hst⟩ := id C
  have hK := hG.1
  have S : CallFix p m c cL_law 7 s #[Value.ref b] wsLw RL := ⟨hx, hb, hml, hown, hts⟩
  have hA : ∀ q : Nat, s.heap.size ≤ q → lwA s q := fun _ h => h
  have hbA : ¬ lwA s b := Nat.not_le.mpr hbl
  obtain ⟨fx, h0x⟩ := hXw.hd
  obtain ⟨fm, h0m⟩ := hMw.hd
  refine lv_aload_n hx hb dL_law_1295 rfl (lv_at hl 1 rfl) ?_
  refine lv_aload_n hx hb dL_law_1296 rfl (lv_at hl 0 rfl) ?_
  refine lv_iload hx hb dL_law_1297 (lv_at hl 4 rfl) ?_
  refine lv_iconst (v := (1 : Int32)) hx hb dL_law_1299 (by decide) ?_
  refine lv_iadd hx hb dL_law_1300 ?_
  refine va_sld hx hb hXs hbl hbA hS (lw_in hi (j := 1) rfl (by decide)) dL_law_1301 ?_
  refine lv_aload_n hx hb dL_law_1302 rfl (lv_at hl 0 rfl) ?_
  refine lv_iload hx hb dL_law_1303 (lv_at hl 4 rfl) ?_
  refine lv_iconst (v := (2 : Int32)) hx hb dL_law_1305 (by decide) ?_
  refine lv_iadd hx hb dL_law_1306 ?_
  refine va_sld hx hb hXs hbl hbA hS (lw_in hi (j := 2) rfl (by decide)) dL_law_1307 ?_
  refine lv_aload_n hx hb dL_law_1308 rfl (lv_at hl 0 rfl) ?_
  refine lv_iload hx hb dL_law_1309 (lv_at hl 4 rfl) ?_
  refine lv_iconst (v := (3 : Int32)) hx hb dL_law_1311 (by decide) ?_
  refine lv_iadd hx hb dL_law_1312 ?_
  refine va_sld hx hb hXs hbl hbA hS (lw_in hi (j := 3) rfl (by decide)) dL_law_1313 ?_
  refine lw_ci (v := v) (av := [.int (xs (i + (1 : Int32)).toNatClampNeg), .int (xs (i + (2 : Int32)).toNatClampNeg), .int (xs (i + (3 : Int32)).toNatClampNeg)]) (rest := []) S hG hE hO hA (uX_broken l g v qX st (xs (i + (1 : Int32)).toNatClampNeg) (xs (i + (2 : Int32)).toNatClampNeg) (xs (i + (3 : Int32)).toNatClampNeg)) hXw hP hD hS (cwV 3 hts gL_law_X8_broken rfl rfl rfl (by decide +kernel) ⟨(Nat.le_of_ble_eq_true rfl), (Nat.le_of_ble_eq_true rfl)⟩) (va_recv hK (va_P_l hP) (ci := 8) (q0 := 0) rfl h0x) rfl hl.1 rfl (Nat.le_of_ble_eq_true rfl) dL_law_1314 ⟨(show cells + 0 ≤ 601024 by omega), (show slots + 0 ≤ 7293034 by omega)⟩ (fun r1 u1 H locs hp hP hD hS => ?_)
  obtain ⟨e1, hXw⟩ := hp
  have hP := rtP hP
  have hD := rtD hD
  refine lv_aload_n hx hb dL_law_1317 rfl (lv_at hl 2 rfl) ?_
  refine lv_aload_n hx hb dL_law_1318 rfl (lv_at hl 0 rfl) ?_
  refine lv_iload hx hb dL_law_1319 (lv_at hl 4 rfl) ?_
  refine lv_iconst (v := (1 : Int32)) hx hb dL_law_1321 (by decide) ?_
  refine lv_iadd hx hb dL_law_1322 ?_
  refine va_sld hx hb hXs hbl hbA hS (lw_in hi (j := 1) rfl (by decide)) dL_law_1323 ?_
  refine lv_aload_n hx hb dL_law_1324 rfl (lv_at hl 0 rfl) ?_
  refine lv_iload hx hb dL_law_1325 (lv_at hl 4 rfl) ?_
  refine lv_iconst (v := (2 : Int32)) hx hb dL_law_1327 (by decide) ?_
  refine lv_iadd hx hb dL_law_1328 ?_
  refine va_sld hx hb hXs hbl hbA hS (lw_in hi (j := 2) rfl (by decide)) dL_law_1329 ?_
  refine lv_aload_n hx hb dL_law_1330 rfl (lv_at hl 0 rfl) ?_
  refine lv_iload hx hb dL_law_1331 (lv_at hl 4 rfl) ?_
  refine lv_iconst (v := (3 : Int32)) hx hb dL_law_1333 (by decide) ?_
  refine lv_iadd hx hb dL_law_1334 ?_
  refine va_sld hx hb hXs hbl hbA hS (lw_in hi (j := 3) rfl (by decide)) dL_law_1335 ?_
  refine lw_ci (v := v) (av := [.int (xs (i + (1 : Int32)).toNatClampNeg), .int (xs (i + (2 : Int32)).toNatClampNeg), .int (xs (i + (3 : Int32)).toNatClampNeg)]) (rest := [.int r1]) S hG hE hO hA (uM_broken l g v qM st (xs (i + (1 : Int32)).toNatClampNeg) (xs (i + (2 : Int32)).toNatClampNeg) (xs (i + (3 : Int32)).toNatClampNeg)) hMw hP hD hS (cwV 3 hts gL_law_X9_broken rfl rfl rfl (by decide +kernel) ⟨(Nat.le_of_ble_eq_true rfl), (Nat.le_of_ble_eq_true rfl)⟩) (va_recv hK (va_P_l hP) (ci := 9) (q0 := 0) rfl h0m) rfl hl.1 rfl (Nat.le_of_ble_eq_true rfl) dL_law_1336 ⟨(show cells + 0 + 0 ≤ 601024 by omega), (show slots + 0 + 0 ≤ 7293034 by omega)⟩ (fun r2 u2 H locs hp hP hD hS => ?_)
  obtain ⟨e2, hMw⟩ := hp
  have hP := rtP (rtP hP)
  have hD := rtD (rtD hD)
  have ee : r1 = r2 := q_inj (e1.trans e2.symm)
  refine lv_icmp_eq (tgt := 1776) hx hb dL_law_1339 (by decide) (fun _ => ?_) (fun hc => absurd ee hc)
  refine W.widen (k := cells + 40) (n := slots + 900) (by omega) (by omega) ?_
  refine kk _ _ _ fo H locs ls ?_ hXw hMw hP hD hS hl
  exact ok
set_option maxHeartbeats 800000 in
set_option maxRecDepth 100000 in
theorem lwk_29 {p : Program} {l : Launch} {e : Env} {s : State} {m : MethodId} {below : List Frame} {meth : Method} {c : Code} {g : GP} {v : GV} {z : Nat × Nat} {b L : Nat} {xs : Nat → Int32} {qX qM qo : Nat} {i : Int32} {cells slots : Nat} (C : LwC p l s m meth c g v z b L xs) (hi : 0 ≤ i.toInt ∧ i.toInt + 5 ≤ (L : Int) ∧ L ≤ 2560) (hroom : cells + 40 ≤ 601024 ∧ slots + 900 ≤ 7293034) (kk : LwN p l e s m below meth c g b qX qM qo i (cells + 40) (slots + 900) 1776) : LwN p l e s m below meth c g b qX qM qo i cells slots 1344 := by
  intro st wx wm fo H locs ls ok hXw hMw hP hD hS hl
  obtain ⟨hx, hb, hr, hml, hown, hts, hXs, hbl, hlocks, hG, hE, hO, hX, hst⟩ := id C
  have hK := hG.1
  have S : CallFix p m c cL_law 7 s #[Value.ref b] wsLw RL := ⟨hx, hb, hml, hown, hts⟩
  have hA : ∀ q : Nat, s.heap.size ≤ q → lwA s q := fun _ h => h
  have hbA : ¬ lwA s b := Nat.not_le.mpr hbl
  obtain ⟨fx, h0x⟩ := hXw.hd
  obtain ⟨fm, h0m⟩ := hMw.hd
  refine lv_aload_n hx hb dL_law_1344 rfl (lv_at hl 1 rfl) ?_
  refine lv_aload_n hx hb dL_law_1345 rfl (lv_at hl 0 rfl) ?_
  refine lv_iload hx hb dL_law_1346 (lv_at hl 4 rfl) ?_
  refine lv_iconst (v := (1 : Int32)) hx hb dL_law_1348 (by decide) ?_
  refine lv_iadd hx hb dL_law_1349 ?_
  refine va_sld hx hb hXs hbl hbA hS (lw_in hi (j := 1) rfl (by decide)) dL_law_1350 ?_
  refine lw_ci (v := v) (av := [.int (xs (i + (1 : Int32)).toNatClampNeg)]) (rest := []) S hG hE hO hA (uX_both l g v qX st (xs (i + (1 : Int32)).toNatClampNeg)) hXw hP hD hS (cwV 1 hts gL_law_X8_both rfl rfl rfl (by decide +kernel) ⟨(Nat.le_of_ble_eq_true rfl), (Nat.le_of_ble_eq_true rfl)⟩) (va_recv hK (va_P_l hP) (ci := 8) (q0 := 0) rfl h0x) rfl hl.1 rfl (Nat.le_of_ble_eq_true rfl) dL_law_1351 ⟨(show cells + 0 ≤ 601024 by omega), (show slots + 0 ≤ 7293034 by omega)⟩ (fun r1 u1 H locs hp hP hD hS => ?_)
  obtain ⟨e1, hXw⟩ := hp
  have hP := rtP hP
  have hD := rtD hD
  refine lv_aload_n hx hb dL_law_1354 rfl (lv_at hl 2 rfl) ?_
  refine lv_aload_n hx hb dL_law_1355 rfl (lv_at hl 0 rfl) ?_
  refine lv_iload hx hb dL_law_1356 (lv_at hl 4 rfl) ?_
  refine lv_iconst (v := (1 : Int32)) hx hb dL_law_1358 (by decide) ?_
  refine lv_iadd hx hb dL_law_1359 ?_
  refine va_sld hx hb hXs hbl hbA hS (lw_in hi (j := 1) rfl (by decide)) dL_law_1360 ?_
  refine lw_ci (v := v) (av := [.int (xs (i + (1 : Int32)).toNatClampNeg)]) (rest := [.int r1]) S hG hE hO hA (uM_both l g v qM st (xs (i + (1 : Int32)).toNatClampNeg)) hMw hP hD hS (cwV 1 hts gL_law_X9_both rfl rfl rfl (by decide +kernel) ⟨(Nat.le_of_ble_eq_true rfl), (Nat.le_of_ble_eq_true rfl)⟩) (va_recv hK (va_P_l hP) (ci := 9) (q0 := 0) rfl h0m) rfl hl.1 rfl (Nat.le_of_ble_eq_true rfl) dL_law_1361 ⟨(show cells + 0 + 0 ≤ 601024 by omega), (show slots + 0 + 0 ≤ 7293034 by omega)⟩ (fun r2 u2 H locs hp hP hD hS => ?_)
  obtain ⟨e2, hMw⟩ := hp
  have hP := rtP (rtP hP)
  have hD := rtD (rtD hD)
  have ee : r1 = r2 := q_inj (e1.trans e2.symm)
  refine lv_icmp_eq (tgt := 1776) hx hb dL_law_1364 (by decide) (fun _ => ?_) (fun hc => absurd ee hc)
  refine W.widen (k := cells + 40) (n := slots + 900) (by omega) (by omega) ?_
  refine kk _ _ _ fo H locs ls ?_ hXw hMw hP hD hS hl
  exact ok
set_option maxHeartbeats 800000 in
set_option maxRecDepth 100000 in
theorem lwk_30 {p : Program} {l : Launch} {e : Env} {s : State} {m : MethodId} {below : List Frame} {meth : Method} {c : Code} {g : GP} {v : GV} {z : Nat × Nat} {b L : Nat} {xs : Nat → Int32} {qX qM qo : Nat} {i : Int32} {cells slots : Nat} (C : LwC p l s m meth c g v z b L xs) (hi : 0 ≤ i.toInt ∧ i.toInt + 5 ≤ (L : Int) ∧ L ≤ 2560) (hroom : cells + 40 ≤ 601024 ∧ slots + 900 ≤ 7293034) (kk : LwN p l e s m below meth c g b qX qM qo i (cells + 40) (slots + 900) 1776) : LwN p l e s m below meth c g b qX qM qo i cells slots 1369 := by
  intro st wx wm fo H locs ls ok hXw hMw hP hD hS hl
  obtain ⟨hx, hb, hr, hml, hown, hts, hXs, hbl, hlocks, hG, hE, hO, hX, hst⟩ := id C
  have hK := hG.1
  have S : CallFix p m c cL_law 7 s #[Value.ref b] wsLw RL := ⟨hx, hb, hml, hown, hts⟩
  have hA : ∀ q : Nat, s.heap.size ≤ q → lwA s q := fun _ h => h
  have hbA : ¬ lwA s b := Nat.not_le.mpr hbl
  obtain ⟨fx, h0x⟩ := hXw.hd
  obtain ⟨fm, h0m⟩ := hMw.hd
  by_cases hz : (xs (i + (4 : Int32)).toNatClampNeg) = 0
  · skip
    refine lv_aload_n hx hb dL_law_1369 rfl (lv_at hl 1 rfl) ?_
    refine lv_aload_n hx hb dL_law_1370 rfl (lv_at hl 0 rfl) ?_
    refine lv_iload hx hb dL_law_1371 (lv_at hl 4 rfl) ?_
    refine lv_iconst (v := (1 : Int32)) hx hb dL_law_1373 (by decide) ?_
    refine lv_iadd hx hb dL_law_1374 ?_
    refine va_sld hx hb hXs hbl hbA hS (lw_in hi (j := 1) rfl (by decide)) dL_law_1375 ?_
    refine lv_aload_n hx hb dL_law_1376 rfl (lv_at hl 0 rfl) ?_
    refine lv_iload hx hb dL_law_1377 (lv_at hl 4 rfl) ?_
    refine lv_iconst (v := (2 : Int32)) hx hb dL_law_1379 (by decide) ?_
    refine lv_iadd hx hb dL_law_1380 ?_
    refine va_sld hx hb hXs hbl hbA hS (lw_in hi (j := 2) rfl (by decide)) dL_law_1381 ?_
    refine lv_aload_n hx hb dL_law_1382 rfl (lv_at hl 0 rfl) ?_
    refine lv_iload hx hb dL_law_1383 (lv_at hl 4 rfl) ?_
    refine lv_iconst (v := (3 : Int32)) hx hb dL_law_1385 (by decide) ?_
    refine lv_iadd hx hb dL_law_1386 ?_
    refine va_sld hx hb hXs hbl hbA hS (lw_in hi (j := 3) rfl (by decide)) dL_law_1387 ?_
    refine lv_aload_n hx hb dL_law_1388 rfl (lv_at hl 0 rfl) ?_
    refine lv_iload hx hb dL_law_1389 (lv_at hl 4 rfl) ?_
    refine lv_iconst (v := (4 : Int32)) hx hb dL_law_1391 (by decide) ?_
    refine lv_iadd hx hb dL_law_1392 ?_
    refine va_sld hx hb hXs hbl hbA hS (lw_in hi (j := 4) rfl (by decide)) dL_law_1393 ?_
    refine lv_if_eq (tgt := 1401) hx hb dL_law_1394 (by decide) (fun _ => ?_) (fun hc => absurd hz hc)
    refine lv_iconst (v := (0 : Int32)) hx hb dL_law_1401 (by decide) ?_
    refine lw_cl (v := v) (av := [.int (xs (i + (1 : Int32)).toNatClampNeg), .int (xs (i + (2 : Int32)).toNatClampNeg), .int (xs (i + (3 : Int32)).toNatClampNeg), .int (0 : Int32)]) (rest := []) S hG hE hO hA (uX_chance l g v qX st (xs (i + (1 : Int32)).toNatClampNeg) (xs (i + (2 : Int32)).toNatClampNeg) (xs (i + (3 : Int32)).toNatClampNeg) (0 : Int32)) hXw hP hD hS (cwV 4 hts gL_law_X8_chance rfl rfl rfl (by decide +kernel) ⟨(Nat.le_of_ble_eq_true rfl), (Nat.le_of_ble_eq_true rfl)⟩) (va_recv hK (va_P_l hP) (ci := 8) (q0 := 0) rfl h0x) rfl hl.1 rfl (Nat.le_of_ble_eq_true rfl) dL_law_1402 ⟨(show cells + 0 ≤ 601024 by omega), (show slots + 0 ≤ 7293034 by omega)⟩ (fun r1 u1 H locs hp hP hD hS => ?_)
    obtain ⟨e1, hXw⟩ := hp
    have hP := rtP hP
    have hD := rtD hD
    refine lv_aload_n hx hb dL_law_1405 rfl (lv_at hl 2 rfl) ?_
    refine lv_aload_n hx hb dL_law_1406 rfl (lv_at hl 0 rfl) ?_
    refine lv_iload hx hb dL_law_1407 (lv_at hl 4 rfl) ?_
    refine lv_iconst (v := (1 : Int32)) hx hb dL_law_1409 (by decide) ?_
    refine lv_iadd hx hb dL_law_1410 ?_
    refine va_sld hx hb hXs hbl hbA hS (lw_in hi (j := 1) rfl (by decide)) dL_law_1411 ?_
    refine lv_aload_n hx hb dL_law_1412 rfl (lv_at hl 0 rfl) ?_
    refine lv_iload hx hb dL_law_1413 (lv_at hl 4 rfl) ?_
    refine lv_iconst (v := (2 : Int32)) hx hb dL_law_1415 (by decide) ?_
    refine lv_iadd hx hb dL_law_1416 ?_
    refine va_sld hx hb hXs hbl hbA hS (lw_in hi (j := 2) rfl (by decide)) dL_law_1417 ?_
    refine lv_aload_n hx hb dL_law_1418 rfl (lv_at hl 0 rfl) ?_
    refine lv_iload hx hb dL_law_1419 (lv_at hl 4 rfl) ?_
    refine lv_iconst (v := (3 : Int32)) hx hb dL_law_1421 (by decide) ?_
    refine lv_iadd hx hb dL_law_1422 ?_
    refine va_sld hx hb hXs hbl hbA hS (lw_in hi (j := 3) rfl (by decide)) dL_law_1423 ?_
    refine lv_aload_n hx hb dL_law_1424 rfl (lv_at hl 0 rfl) ?_
    refine lv_iload hx hb dL_law_1425 (lv_at hl 4 rfl) ?_
    refine lv_iconst (v := (4 : Int32)) hx hb dL_law_1427 (by decide) ?_
    refine lv_iadd hx hb dL_law_1428 ?_
    refine va_sld hx hb hXs hbl hbA hS (lw_in hi (j := 4) rfl (by decide)) dL_law_1429 ?_
    refine lv_if_eq (tgt := 1437) hx hb dL_law_1430 (by decide) (fun _ => ?_) (fun hc => absurd hz hc)
    refine lv_iconst (v := (0 : Int32)) hx hb dL_law_1437 (by decide) ?_
    refine lw_cl (v := v) (av := [.int (xs (i + (1 : Int32)).toNatClampNeg), .int (xs (i + (2 : Int32)).toNatClampNeg), .int (xs (i + (3 : Int32)).toNatClampNeg), .int (0 : Int32)]) (rest := [.long r1]) S hG hE hO hA (uM_chance l g v qM st (xs (i + (1 : Int32)).toNatClampNeg) (xs (i + (2 : Int32)).toNatClampNeg) (xs (i + (3 : Int32)).toNatClampNeg) (0 : Int32)) hMw hP hD hS (cwV 4 hts gL_law_X9_chance rfl rfl rfl (by decide +kernel) ⟨(Nat.le_of_ble_eq_true rfl), (Nat.le_of_ble_eq_true rfl)⟩) (va_recv hK (va_P_l hP) (ci := 9) (q0 := 0) rfl h0m) rfl hl.1 rfl (Nat.le_of_ble_eq_true rfl) dL_law_1438 ⟨(show cells + 0 + 0 ≤ 601024 by omega), (show slots + 0 + 0 ≤ 7293034 by omega)⟩ (fun r2 u2 H locs hp hP hD hS => ?_)
    obtain ⟨e2, hMw⟩ := hp
    have hP := rtP (rtP hP)
    have hD := rtD (rtD hD)
    have ee : r1 = r2 := q_injL (e1.trans e2.symm)
    refine W.lcmp hx hb dL_law_1441 ?_
    refine lv_if_eq (tgt := 1776) hx hb dL_law_1442 (by decide) (fun _ => ?_) (fun hc => absurd (by rw [ee]; exact cmp_same r2) hc)
    refine W.widen (k := cells + 40) (n := slots + 900) (by omega) (by omega) ?_
    refine kk _ _ _ fo H locs ls ?_ hXw hMw hP hD hS hl
    exact ok
  · skip
    refine lv_aload_n hx hb dL_law_1369 rfl (lv_at hl 1 rfl) ?_
    refine lv_aload_n hx hb dL_law_1370 rfl (lv_at hl 0 rfl) ?_
    refine lv_iload hx hb dL_law_1371 (lv_at hl 4 rfl) ?_
    refine lv_iconst (v := (1 : Int32)) hx hb dL_law_1373 (by decide) ?_
    refine lv_iadd hx hb dL_law_1374 ?_
    refine va_sld hx hb hXs hbl hbA hS (lw_in hi (j := 1) rfl (by decide)) dL_law_1375 ?_
    refine lv_aload_n hx hb dL_law_1376 rfl (lv_at hl 0 rfl) ?_
    refine lv_iload hx hb dL_law_1377 (lv_at hl 4 rfl) ?_
    refine lv_iconst (v := (2 : Int32)) hx hb dL_law_1379 (by decide) ?_
    refine lv_iadd hx hb dL_law_1380 ?_
    refine va_sld hx hb hXs hbl hbA hS (lw_in hi (j := 2) rfl (by decide)) dL_law_1381 ?_
    refine lv_aload_n hx hb dL_law_1382 rfl (lv_at hl 0 rfl) ?_
    refine lv_iload hx hb dL_law_1383 (lv_at hl 4 rfl) ?_
    refine lv_iconst (v := (3 : Int32)) hx hb dL_law_1385 (by decide) ?_
    refine lv_iadd hx hb dL_law_1386 ?_
    refine va_sld hx hb hXs hbl hbA hS (lw_in hi (j := 3) rfl (by decide)) dL_law_1387 ?_
    refine lv_aload_n hx hb dL_law_1388 rfl (lv_at hl 0 rfl) ?_
    refine lv_iload hx hb dL_law_1389 (lv_at hl 4 rfl) ?_
    refine lv_iconst (v := (4 : Int32)) hx hb dL_law_1391 (by decide) ?_
    refine lv_iadd hx hb dL_law_1392 ?_
    refine va_sld hx hb hXs hbl hbA hS (lw_in hi (j := 4) rfl (by decide)) dL_law_1393 ?_
    refine lv_if_eq (tgt := 1401) hx hb dL_law_1394 (by decide) (fun hc => absurd hc hz) (fun _ => ?_)
    refine lv_iconst (v := (1 : Int32)) hx hb dL_law_1397 (by decide) ?_
    refine lv_goto (tgt := 1402) hx hb dL_law_1398 (by decide) ?_
    refine lw_cl (v := v) (av := [.int (xs (i + (1 : Int32)).toNatClampNeg), .int (xs (i + (2 : Int32)).toNatClampNeg), .int (xs (i + (3 : Int32)).toNatClampNeg), .int (1 : Int32)]) (rest := []) S hG hE hO hA (uX_chance l g v qX st (xs (i + (1 : Int32)).toNatClampNeg) (xs (i + (2 : Int32)).toNatClampNeg) (xs (i + (3 : Int32)).toNatClampNeg) (1 : Int32)) hXw hP hD hS (cwV 4 hts gL_law_X8_chance rfl rfl rfl (by decide +kernel) ⟨(Nat.le_of_ble_eq_true rfl), (Nat.le_of_ble_eq_true rfl)⟩) (va_recv hK (va_P_l hP) (ci := 8) (q0 := 0) rfl h0x) rfl hl.1 rfl (Nat.le_of_ble_eq_true rfl) dL_law_1402 ⟨(show cells + 0 ≤ 601024 by omega), (show slots + 0 ≤ 7293034 by omega)⟩ (fun r1 u1 H locs hp hP hD hS => ?_)
    obtain ⟨e1, hXw⟩ := hp
    have hP := rtP hP
    have hD := rtD hD
    refine lv_aload_n hx hb dL_law_1405 rfl (lv_at hl 2 rfl) ?_
    refine lv_aload_n hx hb dL_law_1406 rfl (lv_at hl 0 rfl) ?_
    refine lv_iload hx hb dL_law_1407 (lv_at hl 4 rfl) ?_
    refine lv_iconst (v := (1 : Int32)) hx hb dL_law_1409 (by decide) ?_
    refine lv_iadd hx hb dL_law_1410 ?_
    refine va_sld hx hb hXs hbl hbA hS (lw_in hi (j := 1) rfl (by decide)) dL_law_1411 ?_
    refine lv_aload_n hx hb dL_law_1412 rfl (lv_at hl 0 rfl) ?_
    refine lv_iload hx hb dL_law_1413 (lv_at hl 4 rfl) ?_
    refine lv_iconst (v := (2 : Int32)) hx hb dL_law_1415 (by decide) ?_
    refine lv_iadd hx hb dL_law_1416 ?_
    refine va_sld hx hb hXs hbl hbA hS (lw_in hi (j := 2) rfl (by decide)) dL_law_1417 ?_
    refine lv_aload_n hx hb dL_law_1418 rfl (lv_at hl 0 rfl) ?_
    refine lv_iload hx hb dL_law_1419 (lv_at hl 4 rfl) ?_
    refine lv_iconst (v := (3 : Int32)) hx hb dL_law_1421 (by decide) ?_
    refine lv_iadd hx hb dL_law_1422 ?_
    refine va_sld hx hb hXs hbl hbA hS (lw_in hi (j := 3) rfl (by decide)) dL_law_1423 ?_
    refine lv_aload_n hx hb dL_law_1424 rfl (lv_at hl 0 rfl) ?_
    refine lv_iload hx hb dL_law_1425 (lv_at hl 4 rfl) ?_
    refine lv_iconst (v := (4 : Int32)) hx hb dL_law_1427 (by decide) ?_
    refine lv_iadd hx hb dL_law_1428 ?_
    refine va_sld hx hb hXs hbl hbA hS (lw_in hi (j := 4) rfl (by decide)) dL_law_1429 ?_
    refine lv_if_eq (tgt := 1437) hx hb dL_law_1430 (by decide) (fun hc => absurd hc hz) (fun _ => ?_)
    refine lv_iconst (v := (1 : Int32)) hx hb dL_law_1433 (by decide) ?_
    refine lv_goto (tgt := 1438) hx hb dL_law_1434 (by decide) ?_
    refine lw_cl (v := v) (av := [.int (xs (i + (1 : Int32)).toNatClampNeg), .int (xs (i + (2 : Int32)).toNatClampNeg), .int (xs (i + (3 : Int32)).toNatClampNeg), .int (1 : Int32)]) (rest := [.long r1]) S hG hE hO hA (uM_chance l g v qM st (xs (i + (1 : Int32)).toNatClampNeg) (xs (i + (2 : Int32)).toNatClampNeg) (xs (i + (3 : Int32)).toNatClampNeg) (1 : Int32)) hMw hP hD hS (cwV 4 hts gL_law_X9_chance rfl rfl rfl (by decide +kernel) ⟨(Nat.le_of_ble_eq_true rfl), (Nat.le_of_ble_eq_true rfl)⟩) (va_recv hK (va_P_l hP) (ci := 9) (q0 := 0) rfl h0m) rfl hl.1 rfl (Nat.le_of_ble_eq_true rfl) dL_law_1438 ⟨(show cells + 0 + 0 ≤ 601024 by omega), (show slots + 0 + 0 ≤ 7293034 by omega)⟩ (fun r2 u2 H locs hp hP hD hS => ?_)
    obtain ⟨e2, hMw⟩ := hp
    have hP := rtP (rtP hP)
    have hD := rtD (rtD hD)
    have ee : r1 = r2 := q_injL (e1.trans e2.symm)
    refine W.lcmp hx hb dL_law_1441 ?_
    refine lv_if_eq (tgt := 1776) hx hb dL_law_1442 (by decide) (fun _ => ?_) (fun hc => absurd (by rw [ee]; exact cmp_same r2) hc)
    refine W.widen (k := cells + 40) (n := slots + 900) (by omega) (by omega) ?_
    refine kk _ _ _ fo H locs ls ?_ hXw hMw hP hD hS hl
    exact ok
set_option maxHeartbeats 800000 in
set_option maxRecDepth 100000 in
theorem lwk_31 {p : Program} {l : Launch} {e : Env} {s : State} {m : MethodId} {below : List Frame} {meth : Method} {c : Code} {g : GP} {v : GV} {z : Nat × Nat} {b L : Nat} {xs : Nat → Int32} {qX qM qo : Nat} {i : Int32} {cells slots : Nat} (C : LwC p l s m meth c g v z b L xs) (hi : 0 ≤ i.toInt ∧ i.toInt + 5 ≤ (L : Int) ∧ L ≤ 2560) (hroom : cells + 40 ≤ 601024 ∧ slots + 900 ≤ 7293034) (kk : LwN p l e s m below meth c g b qX qM qo i (cells + 40) (slots + 900) 1776) : LwN p l e s m below meth c g b qX qM qo i cells slots 1447 := by
  intro st wx wm fo H locs ls ok hXw hMw hP hD hS hl
  obtain ⟨hx, hb, hr, hml, hown, hts, hXs, hbl, hlocks, hG, hE, hO, hX, hst⟩ := id C
  have hK := hG.1
  have S : CallFix p m c cL_law 7 s #[Value.ref b] wsLw RL := ⟨hx, hb, hml, hown, hts⟩
  have hA : ∀ q : Nat, s.heap.size ≤ q → lwA s q := fun _ h => h
  have hbA : ¬ lwA s b := Nat.not_le.mpr hbl
  obtain ⟨fx, h0x⟩ := hXw.hd
  obtain ⟨fm, h0m⟩ := hMw.hd
  refine lv_aload_n hx hb dL_law_1447 rfl (lv_at hl 1 rfl) ?_
  refine lv_aload_n hx hb dL_law_1448 rfl (lv_at hl 0 rfl) ?_
  refine lv_iload hx hb dL_law_1449 (lv_at hl 4 rfl) ?_
  refine lv_iconst (v := (1 : Int32)) hx hb dL_law_1451 (by decide) ?_
  refine lv_iadd hx hb dL_law_1452 ?_
  refine va_sld hx hb hXs hbl hbA hS (lw_in hi (j := 1) rfl (by decide)) dL_law_1453 ?_
  refine lv_aload_n hx hb dL_law_1454 rfl (lv_at hl 0 rfl) ?_
  refine lv_iload hx hb dL_law_1455 (lv_at hl 4 rfl) ?_
  refine lv_iconst (v := (2 : Int32)) hx hb dL_law_1457 (by decide) ?_
  refine lv_iadd hx hb dL_law_1458 ?_
  refine va_sld hx hb hXs hbl hbA hS (lw_in hi (j := 2) rfl (by decide)) dL_law_1459 ?_
  refine lw_ci (v := v) (av := [.int (xs (i + (1 : Int32)).toNatClampNeg), .int (xs (i + (2 : Int32)).toNatClampNeg)]) (rest := []) S hG hE hO hA (uX_bar l g v qX st (xs (i + (1 : Int32)).toNatClampNeg) (xs (i + (2 : Int32)).toNatClampNeg)) hXw hP hD hS (cwV 2 hts gL_law_X8_bar rfl rfl rfl (by decide +kernel) ⟨(Nat.le_of_ble_eq_true rfl), (Nat.le_of_ble_eq_true rfl)⟩) (va_recv hK (va_P_l hP) (ci := 8) (q0 := 0) rfl h0x) rfl hl.1 rfl (Nat.le_of_ble_eq_true rfl) dL_law_1460 ⟨(show cells + 0 ≤ 601024 by omega), (show slots + 0 ≤ 7293034 by omega)⟩ (fun r1 u1 H locs hp hP hD hS => ?_)
  obtain ⟨e1, hXw⟩ := hp
  have hP := rtP hP
  have hD := rtD hD
  refine lv_aload_n hx hb dL_law_1463 rfl (lv_at hl 2 rfl) ?_
  refine lv_aload_n hx hb dL_law_1464 rfl (lv_at hl 0 rfl) ?_
  refine lv_iload hx hb dL_law_1465 (lv_at hl 4 rfl) ?_
  refine lv_iconst (v := (1 : Int32)) hx hb dL_law_1467 (by decide) ?_
  refine lv_iadd hx hb dL_law_1468 ?_
  refine va_sld hx hb hXs hbl hbA hS (lw_in hi (j := 1) rfl (by decide)) dL_law_1469 ?_
  refine lv_aload_n hx hb dL_law_1470 rfl (lv_at hl 0 rfl) ?_
  refine lv_iload hx hb dL_law_1471 (lv_at hl 4 rfl) ?_
  refine lv_iconst (v := (2 : Int32)) hx hb dL_law_1473 (by decide) ?_
  refine lv_iadd hx hb dL_law_1474 ?_
  refine va_sld hx hb hXs hbl hbA hS (lw_in hi (j := 2) rfl (by decide)) dL_law_1475 ?_
  refine lw_ci (v := v) (av := [.int (xs (i + (1 : Int32)).toNatClampNeg), .int (xs (i + (2 : Int32)).toNatClampNeg)]) (rest := [.int r1]) S hG hE hO hA (uM_bar l g v qM st (xs (i + (1 : Int32)).toNatClampNeg) (xs (i + (2 : Int32)).toNatClampNeg)) hMw hP hD hS (cwV 2 hts gL_law_X9_bar rfl rfl rfl (by decide +kernel) ⟨(Nat.le_of_ble_eq_true rfl), (Nat.le_of_ble_eq_true rfl)⟩) (va_recv hK (va_P_l hP) (ci := 9) (q0 := 0) rfl h0m) rfl hl.1 rfl (Nat.le_of_ble_eq_true rfl) dL_law_1476 ⟨(show cells + 0 + 0 ≤ 601024 by omega), (show slots + 0 + 0 ≤ 7293034 by omega)⟩ (fun r2 u2 H locs hp hP hD hS => ?_)
  obtain ⟨e2, hMw⟩ := hp
  have hP := rtP (rtP hP)
  have hD := rtD (rtD hD)
  have ee : r1 = r2 := q_inj (e1.trans e2.symm)
  refine lv_icmp_eq (tgt := 1776) hx hb dL_law_1479 (by decide) (fun _ => ?_) (fun hc => absurd ee hc)
  refine W.widen (k := cells + 40) (n := slots + 900) (by omega) (by omega) ?_
  refine kk _ _ _ fo H locs ls ?_ hXw hMw hP hD hS hl
  exact ok
set_option maxHeartbeats 800000 in
set_option maxRecDepth 100000 in
theorem lwk_32 {p : Program} {l : Launch} {e : Env} {s : State} {m : MethodId} {below : List Frame} {meth : Method} {c : Code} {g : GP} {v : GV} {z : Nat × Nat} {b L : Nat} {xs : Nat → Int32} {qX qM qo : Nat} {i : Int32} {cells slots : Nat} (C : LwC p l s m meth c g v z b L xs) (hi : 0 ≤ i.toInt ∧ i.toInt + 5 ≤ (L : Int) ∧ L ≤ 2560) (hroom : cells + 40 ≤ 601024 ∧ slots + 900 ≤ 7293034) (kk : LwN p l e s m below meth c g b qX qM qo i (cells + 40) (slots + 900) 1776) : LwN p l e s m below meth c g b qX qM qo i cells slots 1484 := by
  intro st wx wm fo H locs ls ok hXw hMw hP hD hS hl
  obtain ⟨hx, hb, hr, hml, hown, hts, hXs, hbl, hlocks, hG, hE, hO, hX, hst⟩ := id C
  have hK := hG.1
  have S : CallFix p m c cL_law 7 s #[Value.ref b] wsLw RL := ⟨hx, hb, hml, hown, hts⟩
  have hA : ∀ q : Nat, s.heap.size ≤ q → lwA s q := fun _ h => h
  have hbA : ¬ lwA s b := Nat.not_le.mpr hbl
  obtain ⟨fx, h0x⟩ := hXw.hd
  obtain ⟨fm, h0m⟩ := hMw.hd
  refine lv_aload_n hx hb dL_law_1484 rfl (lv_at hl 1 rfl) ?_
  refine lv_aload_n hx hb dL_law_1485 rfl (lv_at hl 0 rfl) ?_
  refine lv_iload hx hb dL_law_1486 (lv_at hl 4 rfl) ?_
  refine lv_iconst (v := (1 : Int32)) hx hb dL_law_1488 (by decide) ?_
  refine lv_iadd hx hb dL_law_1489 ?_
  refine va_sld hx hb hXs hbl hbA hS (lw_in hi (j := 1) rfl (by decide)) dL_law_1490 ?_
  refine lv_aload_n hx hb dL_law_1491 rfl (lv_at hl 0 rfl) ?_
  refine lv_iload hx hb dL_law_1492 (lv_at hl 4 rfl) ?_
  refine lv_iconst (v := (2 : Int32)) hx hb dL_law_1494 (by decide) ?_
  refine lv_iadd hx hb dL_law_1495 ?_
  refine va_sld hx hb hXs hbl hbA hS (lw_in hi (j := 2) rfl (by decide)) dL_law_1496 ?_
  refine lv_i2l (v := ((xs (i + (2 : Int32)).toNatClampNeg).toInt64)) hx hb dL_law_1497 rfl ?_
  refine lv_bipush (v := (32 : Int32)) hx hb dL_law_1498 (by decide) ?_
  refine lv_lshl (v := (((xs (i + (2 : Int32)).toNatClampNeg).toInt64) <<< ((32 : Int32).toInt64 &&& 63))) hx hb dL_law_1500 rfl ?_
  refine lv_aload_n hx hb dL_law_1501 rfl (lv_at hl 0 rfl) ?_
  refine lv_iload hx hb dL_law_1502 (lv_at hl 4 rfl) ?_
  refine lv_iconst (v := (3 : Int32)) hx hb dL_law_1504 (by decide) ?_
  refine lv_iadd hx hb dL_law_1505 ?_
  refine va_sld hx hb hXs hbl hbA hS (lw_in hi (j := 3) rfl (by decide)) dL_law_1506 ?_
  refine lv_i2l (v := ((xs (i + (3 : Int32)).toNatClampNeg).toInt64)) hx hb dL_law_1507 rfl ?_
  refine lv_ldc2 (v := (4294967295 : Int64)) hx hb hown (hts (.constantLong RL 19 (4294967295)) (List.mem_of_getElem? (i := 7) (by decide +kernel))) dL_law_1508 ?_
  refine lv_land hx hb dL_law_1511 ?_
  refine lv_lor hx hb dL_law_1512 ?_
  refine lw_cl (v := v) (av := [.int (xs (i + (1 : Int32)).toNatClampNeg), .long ((((xs (i + (2 : Int32)).toNatClampNeg).toInt64) <<< ((32 : Int32).toInt64 &&& 63)) ||| (((xs (i + (3 : Int32)).toNatClampNeg).toInt64) &&& (4294967295 : Int64)))]) (rest := []) S hG hE hO hA (uX_metres l g v qX st (xs (i + (1 : Int32)).toNatClampNeg) ((((xs (i + (2 : Int32)).toNatClampNeg).toInt64) <<< ((32 : Int32).toInt64 &&& 63)) ||| (((xs (i + (3 : Int32)).toNatClampNeg).toInt64) &&& (4294967295 : Int64)))) hXw hP hD hS (cwV 2 hts gL_law_X8_metres rfl rfl rfl (by decide +kernel) ⟨(Nat.le_of_ble_eq_true rfl), (Nat.le_of_ble_eq_true rfl)⟩) (va_recv hK (va_P_l hP) (ci := 8) (q0 := 0) rfl h0x) rfl hl.1 rfl (Nat.le_of_ble_eq_true rfl) dL_law_1513 ⟨(show cells + 0 ≤ 601024 by omega), (show slots + 0 ≤ 7293034 by omega)⟩ (fun r1 u1 H locs hp hP hD hS => ?_)
  obtain ⟨e1, hXw⟩ := hp
  have hP := rtP hP
  have hD := rtD hD
  refine lv_aload_n hx hb dL_law_1516 rfl (lv_at hl 2 rfl) ?_
  refine lv_aload_n hx hb dL_law_1517 rfl (lv_at hl 0 rfl) ?_
  refine lv_iload hx hb dL_law_1518 (lv_at hl 4 rfl) ?_
  refine lv_iconst (v := (1 : Int32)) hx hb dL_law_1520 (by decide) ?_
  refine lv_iadd hx hb dL_law_1521 ?_
  refine va_sld hx hb hXs hbl hbA hS (lw_in hi (j := 1) rfl (by decide)) dL_law_1522 ?_
  refine lv_aload_n hx hb dL_law_1523 rfl (lv_at hl 0 rfl) ?_
  refine lv_iload hx hb dL_law_1524 (lv_at hl 4 rfl) ?_
  refine lv_iconst (v := (2 : Int32)) hx hb dL_law_1526 (by decide) ?_
  refine lv_iadd hx hb dL_law_1527 ?_
  refine va_sld hx hb hXs hbl hbA hS (lw_in hi (j := 2) rfl (by decide)) dL_law_1528 ?_
  refine lv_i2l (v := ((xs (i + (2 : Int32)).toNatClampNeg).toInt64)) hx hb dL_law_1529 rfl ?_
  refine lv_bipush (v := (32 : Int32)) hx hb dL_law_1530 (by decide) ?_
  refine lv_lshl (v := (((xs (i + (2 : Int32)).toNatClampNeg).toInt64) <<< ((32 : Int32).toInt64 &&& 63))) hx hb dL_law_1532 rfl ?_
  refine lv_aload_n hx hb dL_law_1533 rfl (lv_at hl 0 rfl) ?_
  refine lv_iload hx hb dL_law_1534 (lv_at hl 4 rfl) ?_
  refine lv_iconst (v := (3 : Int32)) hx hb dL_law_1536 (by decide) ?_
  refine lv_iadd hx hb dL_law_1537 ?_
  refine va_sld hx hb hXs hbl hbA hS (lw_in hi (j := 3) rfl (by decide)) dL_law_1538 ?_
  refine lv_i2l (v := ((xs (i + (3 : Int32)).toNatClampNeg).toInt64)) hx hb dL_law_1539 rfl ?_
  refine lv_ldc2 (v := (4294967295 : Int64)) hx hb hown (hts (.constantLong RL 19 (4294967295)) (List.mem_of_getElem? (i := 7) (by decide +kernel))) dL_law_1540 ?_
  refine lv_land hx hb dL_law_1543 ?_
  refine lv_lor hx hb dL_law_1544 ?_
  refine lw_cl (v := v) (av := [.int (xs (i + (1 : Int32)).toNatClampNeg), .long ((((xs (i + (2 : Int32)).toNatClampNeg).toInt64) <<< ((32 : Int32).toInt64 &&& 63)) ||| (((xs (i + (3 : Int32)).toNatClampNeg).toInt64) &&& (4294967295 : Int64)))]) (rest := [.long r1]) S hG hE hO hA (uM_metres l g v qM st (xs (i + (1 : Int32)).toNatClampNeg) ((((xs (i + (2 : Int32)).toNatClampNeg).toInt64) <<< ((32 : Int32).toInt64 &&& 63)) ||| (((xs (i + (3 : Int32)).toNatClampNeg).toInt64) &&& (4294967295 : Int64)))) hMw hP hD hS (cwV 2 hts gL_law_X9_metres rfl rfl rfl (by decide +kernel) ⟨(Nat.le_of_ble_eq_true rfl), (Nat.le_of_ble_eq_true rfl)⟩) (va_recv hK (va_P_l hP) (ci := 9) (q0 := 0) rfl h0m) rfl hl.1 rfl (Nat.le_of_ble_eq_true rfl) dL_law_1545 ⟨(show cells + 0 + 0 ≤ 601024 by omega), (show slots + 0 + 0 ≤ 7293034 by omega)⟩ (fun r2 u2 H locs hp hP hD hS => ?_)
  obtain ⟨e2, hMw⟩ := hp
  have hP := rtP (rtP hP)
  have hD := rtD (rtD hD)
  have ee : r1 = r2 := q_injL (e1.trans e2.symm)
  refine W.lcmp hx hb dL_law_1548 ?_
  refine lv_if_eq (tgt := 1776) hx hb dL_law_1549 (by decide) (fun _ => ?_) (fun hc => absurd (by rw [ee]; exact cmp_same r2) hc)
  refine W.widen (k := cells + 40) (n := slots + 900) (by omega) (by omega) ?_
  refine kk _ _ _ fo H locs ls ?_ hXw hMw hP hD hS hl
  exact ok
