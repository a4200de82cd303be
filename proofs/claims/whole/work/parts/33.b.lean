set_option maxHeartbeats 800000 in
set_option maxRecDepth 100000 in
theorem lwk_0 {p : Program} {l : Launch} {e : Env} {s : State} {m : MethodId} {below : List Frame} {meth : Method} {c : Code} {g : GP} {v : GV} {z : Nat × Nat} {b L : Nat} {xs : Nat → Int32} {qX qM qo : Nat} {i : Int32} {cells slots : Nat} (C : LwC p l s m meth c g v z b L xs) (hi : 0 ≤ i.toInt ∧ i.toInt + 5 ≤ (L : Int) ∧ L ≤ 2560) (hroom : cells + 40 ≤ 601024 ∧ slots + 900 ≤ 7293034) (kk : LwN p l e s m below meth c g b qX qM qo i (cells + 40) (slots + 900) 1776) : LwN p l e s m below meth c g b qX qM qo i cells slots 208 := by
  intro st wx wm fo H locs ls ok hXw hMw hP hD hS hl
  obtain ⟨hx, hb, hr, hml, hown, hts, hXs, hbl, hlocks, hG, hE, hO, hX, hst⟩ := id C
  have hK := hG.1
  have S : CallFix p m c cL_law 7 s #[Value.ref b] wsLw RL := ⟨hx, hb, hml, hown, hts⟩
  have hA : ∀ q : Nat, s.heap.size ≤ q → lwA s q := fun _ h => h
  have hbA : ¬ lwA s b := Nat.not_le.mpr hbl
  obtain ⟨fx, h0x⟩ := hXw.hd
  obtain ⟨fm, h0m⟩ := hMw.hd
  refine lv_aload_n hx hb dL_law_208 rfl (lv_at hl 1 rfl) ?_
  refine lv_aload_n hx hb dL_law_209 rfl (lv_at hl 0 rfl) ?_
  refine lv_iload hx hb dL_law_210 (lv_at hl 4 rfl) ?_
  refine lv_iconst (v := (1 : Int32)) hx hb dL_law_212 (by decide) ?_
  refine lv_iadd hx hb dL_law_213 ?_
  refine va_sld hx hb hXs hbl hbA hS (lw_in hi (j := 1) rfl (by decide)) dL_law_214 ?_
  refine lv_i2l (v := ((xs (i + (1 : Int32)).toNatClampNeg).toInt64)) hx hb dL_law_215 rfl ?_
  refine lv_bipush (v := (32 : Int32)) hx hb dL_law_216 (by decide) ?_
  refine lv_lshl (v := (((xs (i + (1 : Int32)).toNatClampNeg).toInt64) <<< ((32 : Int32).toInt64 &&& 63))) hx hb dL_law_218 rfl ?_
  refine lv_aload_n hx hb dL_law_219 rfl (lv_at hl 0 rfl) ?_
  refine lv_iload hx hb dL_law_220 (lv_at hl 4 rfl) ?_
  refine lv_iconst (v := (2 : Int32)) hx hb dL_law_222 (by decide) ?_
  refine lv_iadd hx hb dL_law_223 ?_
  refine va_sld hx hb hXs hbl hbA hS (lw_in hi (j := 2) rfl (by decide)) dL_law_224 ?_
  refine lv_i2l (v := ((xs (i + (2 : Int32)).toNatClampNeg).toInt64)) hx hb dL_law_225 rfl ?_
  refine lv_ldc2 (v := (4294967295 : Int64)) hx hb hown (hts (.constantLong RL 19 (4294967295)) (List.mem_of_getElem? (i := 7) (by decide +kernel))) dL_law_226 ?_
  refine lv_land hx hb dL_law_229 ?_
  refine lv_lor hx hb dL_law_230 ?_
  refine lw_ci (v := v) (av := [.long ((((xs (i + (1 : Int32)).toNatClampNeg).toInt64) <<< ((32 : Int32).toInt64 &&& 63)) ||| (((xs (i + (2 : Int32)).toNatClampNeg).toInt64) &&& (4294967295 : Int64)))]) (rest := []) S hG hE hO hA (uX_write l g v qX st ((((xs (i + (1 : Int32)).toNatClampNeg).toInt64) <<< ((32 : Int32).toInt64 &&& 63)) ||| (((xs (i + (2 : Int32)).toNatClampNeg).toInt64) &&& (4294967295 : Int64)))) hXw hP hD hS (cwV 1 hts gL_law_X8_write rfl rfl rfl (by decide +kernel) ⟨(Nat.le_of_ble_eq_true rfl), (Nat.le_of_ble_eq_true rfl)⟩) (va_recv hK (va_P_l hP) (ci := 8) (q0 := 0) rfl h0x) rfl hl.1 rfl (Nat.le_of_ble_eq_true rfl) dL_law_231 ⟨(show cells + 0 ≤ 601024 by omega), (show slots + 0 ≤ 7293034 by omega)⟩ (fun r1 u1 H locs hp hP hD hS => ?_)
  obtain ⟨e1, hXw⟩ := hp
  have hP := rtP hP
  have hD := rtD hD
  refine lv_aload_n hx hb dL_law_234 rfl (lv_at hl 2 rfl) ?_
  refine lv_aload_n hx hb dL_law_235 rfl (lv_at hl 0 rfl) ?_
  refine lv_iload hx hb dL_law_236 (lv_at hl 4 rfl) ?_
  refine lv_iconst (v := (1 : Int32)) hx hb dL_law_238 (by decide) ?_
  refine lv_iadd hx hb dL_law_239 ?_
  refine va_sld hx hb hXs hbl hbA hS (lw_in hi (j := 1) rfl (by decide)) dL_law_240 ?_
  refine lv_i2l (v := ((xs (i + (1 : Int32)).toNatClampNeg).toInt64)) hx hb dL_law_241 rfl ?_
  refine lv_bipush (v := (32 : Int32)) hx hb dL_law_242 (by decide) ?_
  refine lv_lshl (v := (((xs (i + (1 : Int32)).toNatClampNeg).toInt64) <<< ((32 : Int32).toInt64 &&& 63))) hx hb dL_law_244 rfl ?_
  refine lv_aload_n hx hb dL_law_245 rfl (lv_at hl 0 rfl) ?_
  refine lv_iload hx hb dL_law_246 (lv_at hl 4 rfl) ?_
  refine lv_iconst (v := (2 : Int32)) hx hb dL_law_248 (by decide) ?_
  refine lv_iadd hx hb dL_law_249 ?_
  refine va_sld hx hb hXs hbl hbA hS (lw_in hi (j := 2) rfl (by decide)) dL_law_250 ?_
  refine lv_i2l (v := ((xs (i + (2 : Int32)).toNatClampNeg).toInt64)) hx hb dL_law_251 rfl ?_
  refine lv_ldc2 (v := (4294967295 : Int64)) hx hb hown (hts (.constantLong RL 19 (4294967295)) (List.mem_of_getElem? (i := 7) (by decide +kernel))) dL_law_252 ?_
  refine lv_land hx hb dL_law_255 ?_
  refine lv_lor hx hb dL_law_256 ?_
  refine lw_ci (v := v) (av := [.long ((((xs (i + (1 : Int32)).toNatClampNeg).toInt64) <<< ((32 : Int32).toInt64 &&& 63)) ||| (((xs (i + (2 : Int32)).toNatClampNeg).toInt64) &&& (4294967295 : Int64)))]) (rest := [.int r1]) S hG hE hO hA (uM_write l g v qM st ((((xs (i + (1 : Int32)).toNatClampNeg).toInt64) <<< ((32 : Int32).toInt64 &&& 63)) ||| (((xs (i + (2 : Int32)).toNatClampNeg).toInt64) &&& (4294967295 : Int64)))) hMw hP hD hS (cwV 1 hts gL_law_X9_write rfl rfl rfl (by decide +kernel) ⟨(Nat.le_of_ble_eq_true rfl), (Nat.le_of_ble_eq_true rfl)⟩) (va_recv hK (va_P_l hP) (ci := 9) (q0 := 0) rfl h0m) rfl hl.1 rfl (Nat.le_of_ble_eq_true rfl) dL_law_257 ⟨(show cells + 0 + 0 ≤ 601024 by omega), (show slots + 0 + 0 ≤ 7293034 by omega)⟩ (fun r2 u2 H locs hp hP hD hS => ?_)
  obtain ⟨e2, hMw⟩ := hp
  have hP := rtP (rtP hP)
  have hD := rtD (rtD hD)
  have ee : r1 = r2 := q_inj (e1.trans e2.symm)
  refine lv_icmp_eq (tgt := 1776) hx hb dL_law_260 (by decide) (fun _ => ?_) (fun hc => absurd ee hc)
  refine W.widen (k := cells + 40) (n := slots + 900) (by omega) (by omega) ?_
  refine kk _ _ _ fo H locs ls ?_ hXw hMw hP hD hS hl
  exact okN ok (okPg_wr ok.1 _)
set_option maxHeartbeats 800000 in
set_option maxRecDepth 100000 in
theorem lwk_1 {p : Program} {l : Launch} {e : Env} {s : State} {m : MethodId} {below : List Frame} {meth : Method} {c : Code} {g : GP} {v : GV} {z : Nat × Nat} {b L : Nat} {xs : Nat → Int32} {qX qM qo : Nat} {i : Int32} {cells slots : Nat} (C : LwC p l s m meth c g v z b L xs) (hi : 0 ≤ i.toInt ∧ i.toInt + 5 ≤ (L : Int) ∧ L ≤ 2560) (hroom : cells + 40 ≤ 601024 ∧ slots + 900 ≤ 7293034) (kk : LwN p l e s m below meth c g b qX qM qo i (cells + 40) (slots + 900) 1776) : LwN p l e s m below meth c g b qX qM qo i cells slots 265 := by
  intro st wx wm fo H locs ls ok hXw hMw hP hD hS hl
  obtain ⟨hx, hb, hr, hml, hown, hts, hXs, hbl, hlocks, hG, hE, hO, hX, hst⟩ := id C
  have hK := hG.1
  have S : CallFix p m c cL_law 7 s #[Value.ref b] wsLw RL := ⟨hx, hb, hml, hown, hts⟩
  have hA : ∀ q : Nat, s.heap.size ≤ q → lwA s q := fun _ h => h
  have hbA : ¬ lwA s b := Nat.not_le.mpr hbl
  obtain ⟨fx, h0x⟩ := hXw.hd
  obtain ⟨fm, h0m⟩ := hMw.hd
  refine lv_aload_n hx hb dL_law_265 rfl (lv_at hl 1 rfl) ?_
  refine lw_ci (v := v) (av := []) (rest := []) S hG hE hO hA (uX_tune l g v qX st ) hXw hP hD hS (cwV 0 hts gL_law_X8_tune rfl rfl rfl (by decide +kernel) ⟨(Nat.le_of_ble_eq_true rfl), (Nat.le_of_ble_eq_true rfl)⟩) (va_recv hK (va_P_l hP) (ci := 8) (q0 := 0) rfl h0x) rfl hl.1 rfl (Nat.le_of_ble_eq_true rfl) dL_law_266 ⟨(show cells + 0 ≤ 601024 by omega), (show slots + 0 ≤ 7293034 by omega)⟩ (fun r1 u1 H locs hp hP hD hS => ?_)
  obtain ⟨e1, hXw⟩ := hp
  have hP := rtP hP
  have hD := rtD hD
  refine lv_aload_n hx hb dL_law_269 rfl (lv_at hl 2 rfl) ?_
  refine lw_ci (v := v) (av := []) (rest := [.int r1]) S hG hE hO hA (uM_tune l g v qM st ) hMw hP hD hS (cwV 0 hts gL_law_X9_tune rfl rfl rfl (by decide +kernel) ⟨(Nat.le_of_ble_eq_true rfl), (Nat.le_of_ble_eq_true rfl)⟩) (va_recv hK (va_P_l hP) (ci := 9) (q0 := 0) rfl h0m) rfl hl.1 rfl (Nat.le_of_ble_eq_true rfl) dL_law_270 ⟨(show cells + 0 + 0 ≤ 601024 by omega), (show slots + 0 + 0 ≤ 7293034 by omega)⟩ (fun r2 u2 H locs hp hP hD hS => ?_)
  obtain ⟨e2, hMw⟩ := hp
  have hP := rtP (rtP hP)
  have hD := rtD (rtD hD)
  have ee : r1 = r2 := q_inj (e1.trans e2.symm)
  refine lv_icmp_eq (tgt := 1776) hx hb dL_law_273 (by decide) (fun _ => ?_) (fun hc => absurd ee hc)
  refine W.widen (k := cells + 40) (n := slots + 900) (by omega) (by omega) ?_
  refine kk _ _ _ fo H locs ls ?_ hXw hMw hP hD hS hl
  exact okN ok (okPg_tu ok.1)
set_option maxHeartbeats 800000 in
set_option maxRecDepth 100000 in
theorem lwk_2 {p : Program} {l : Launch} {e : Env} {s : State} {m : MethodId} {below : List Frame} {meth : Method} {c : Code} {g : GP} {v : GV} {z : Nat × Nat} {b L : Nat} {xs : Nat → Int32} {qX qM qo : Nat} {i : Int32} {cells slots : Nat} (C : LwC p l s m meth c g v z b L xs) (hi : 0 ≤ i.toInt ∧ i.toInt + 5 ≤ (L : Int) ∧ L ≤ 2560) (hroom : cells + 40 ≤ 601024 ∧ slots + 900 ≤ 7293034) (kk : LwN p l e s m below meth c g b qX qM qo i (cells + 40) (slots + 900) 1776) : LwN p l e s m below meth c g b qX qM qo i cells slots 278 := by
  intro st wx wm fo H locs ls ok hXw hMw hP hD hS hl
  obtain ⟨hx, hb, hr, hml, hown, hts, hXs, hbl, hlocks, hG, hE, hO, hX, hst⟩ := id C
  have hK := hG.1
  have S : CallFix p m c cL_law 7 s #[Value.ref b] wsLw RL := ⟨hx, hb, hml, hown, hts⟩
  have hA : ∀ q : Nat, s.heap.size ≤ q → lwA s q := fun _ h => h
  have hbA : ¬ lwA s b := Nat.not_le.mpr hbl
  obtain ⟨fx, h0x⟩ := hXw.hd
  obtain ⟨fm, h0m⟩ := hMw.hd
  by_cases hz : (xs (i + (1 : Int32)).toNatClampNeg) = 0
  · skip
    refine lv_aload_n hx hb dL_law_278 rfl (lv_at hl 1 rfl) ?_
    refine lv_aload_n hx hb dL_law_279 rfl (lv_at hl 0 rfl) ?_
    refine lv_iload hx hb dL_law_280 (lv_at hl 4 rfl) ?_
    refine lv_iconst (v := (1 : Int32)) hx hb dL_law_282 (by decide) ?_
    refine lv_iadd hx hb dL_law_283 ?_
    refine va_sld hx hb hXs hbl hbA hS (lw_in hi (j := 1) rfl (by decide)) dL_law_284 ?_
    refine lv_if_eq (tgt := 292) hx hb dL_law_285 (by decide) (fun _ => ?_) (fun hc => absurd hz hc)
    refine lv_iconst (v := (0 : Int32)) hx hb dL_law_292 (by decide) ?_
    refine lw_ci (v := v) (av := [.int (0 : Int32)]) (rest := []) S hG hE hO hA (uX_fault l g v qX st (0 : Int32)) hXw hP hD hS (cwV 1 hts gL_law_X8_fault rfl rfl rfl (by decide +kernel) ⟨(Nat.le_of_ble_eq_true rfl), (Nat.le_of_ble_eq_true rfl)⟩) (va_recv hK (va_P_l hP) (ci := 8) (q0 := 0) rfl h0x) rfl hl.1 rfl (Nat.le_of_ble_eq_true rfl) dL_law_293 ⟨(show cells + 0 ≤ 601024 by omega), (show slots + 0 ≤ 7293034 by omega)⟩ (fun r1 u1 H locs hp hP hD hS => ?_)
    obtain ⟨e1, hXw⟩ := hp
    have hP := rtP hP
    have hD := rtD hD
    refine lv_aload_n hx hb dL_law_296 rfl (lv_at hl 2 rfl) ?_
    refine lv_aload_n hx hb dL_law_297 rfl (lv_at hl 0 rfl) ?_
    refine lv_iload hx hb dL_law_298 (lv_at hl 4 rfl) ?_
    refine lv_iconst (v := (1 : Int32)) hx hb dL_law_300 (by decide) ?_
    refine lv_iadd hx hb dL_law_301 ?_
    refine va_sld hx hb hXs hbl hbA hS (lw_in hi (j := 1) rfl (by decide)) dL_law_302 ?_
    refine lv_if_eq (tgt := 310) hx hb dL_law_303 (by decide) (fun _ => ?_) (fun hc => absurd hz hc)
    refine lv_iconst (v := (0 : Int32)) hx hb dL_law_310 (by decide) ?_
    refine lw_ci (v := v) (av := [.int (0 : Int32)]) (rest := [.int r1]) S hG hE hO hA (uM_fault l g v qM st (0 : Int32)) hMw hP hD hS (cwV 1 hts gL_law_X9_fault rfl rfl rfl (by decide +kernel) ⟨(Nat.le_of_ble_eq_true rfl), (Nat.le_of_ble_eq_true rfl)⟩) (va_recv hK (va_P_l hP) (ci := 9) (q0 := 0) rfl h0m) rfl hl.1 rfl (Nat.le_of_ble_eq_true rfl) dL_law_311 ⟨(show cells + 0 + 0 ≤ 601024 by omega), (show slots + 0 + 0 ≤ 7293034 by omega)⟩ (fun r2 u2 H locs hp hP hD hS => ?_)
    obtain ⟨e2, hMw⟩ := hp
    have hP := rtP (rtP hP)
    have hD := rtD (rtD hD)
    have ee : r1 = r2 := q_inj (e1.trans e2.symm)
    refine lv_icmp_eq (tgt := 1776) hx hb dL_law_314 (by decide) (fun _ => ?_) (fun hc => absurd ee hc)
    refine W.widen (k := cells + 40) (n := slots + 900) (by omega) (by omega) ?_
    refine kk _ _ _ fo H locs ls ?_ hXw hMw hP hD hS hl
    exact ok
  · skip
    refine lv_aload_n hx hb dL_law_278 rfl (lv_at hl 1 rfl) ?_
    refine lv_aload_n hx hb dL_law_279 rfl (lv_at hl 0 rfl) ?_
    refine lv_iload hx hb dL_law_280 (lv_at hl 4 rfl) ?_
    refine lv_iconst (v := (1 : Int32)) hx hb dL_law_282 (by decide) ?_
    refine lv_iadd hx hb dL_law_283 ?_
    refine va_sld hx hb hXs hbl hbA hS (lw_in hi (j := 1) rfl (by decide)) dL_law_284 ?_
    refine lv_if_eq (tgt := 292) hx hb dL_law_285 (by decide) (fun hc => absurd hc hz) (fun _ => ?_)
    refine lv_iconst (v := (1 : Int32)) hx hb dL_law_288 (by decide) ?_
    refine lv_goto (tgt := 293) hx hb dL_law_289 (by decide) ?_
    refine lw_ci (v := v) (av := [.int (1 : Int32)]) (rest := []) S hG hE hO hA (uX_fault l g v qX st (1 : Int32)) hXw hP hD hS (cwV 1 hts gL_law_X8_fault rfl rfl rfl (by decide +kernel) ⟨(Nat.le_of_ble_eq_true rfl), (Nat.le_of_ble_eq_true rfl)⟩) (va_recv hK (va_P_l hP) (ci := 8) (q0 := 0) rfl h0x) rfl hl.1 rfl (Nat.le_of_ble_eq_true rfl) dL_law_293 ⟨(show cells + 0 ≤ 601024 by omega), (show slots + 0 ≤ 7293034 by omega)⟩ (fun r1 u1 H locs hp hP hD hS => ?_)
    obtain ⟨e1, hXw⟩ := hp
    have hP := rtP hP
    have hD := rtD hD
    refine lv_aload_n hx hb dL_law_296 rfl (lv_at hl 2 rfl) ?_
    refine lv_aload_n hx hb dL_law_297 rfl (lv_at hl 0 rfl) ?_
    refine lv_iload hx hb dL_law_298 (lv_at hl 4 rfl) ?_
    refine lv_iconst (v := (1 : Int32)) hx hb dL_law_300 (by decide) ?_
    refine lv_iadd hx hb dL_law_301 ?_
    refine va_sld hx hb hXs hbl hbA hS (lw_in hi (j := 1) rfl (by decide)) dL_law_302 ?_
    refine lv_if_eq (tgt := 310) hx hb dL_law_303 (by decide) (fun hc => absurd hc hz) (fun _ => ?_)
    refine lv_iconst (v := (1 : Int32)) hx hb dL_law_306 (by decide) ?_
    refine lv_goto (tgt := 311) hx hb dL_law_307 (by decide) ?_
    refine lw_ci (v := v) (av := [.int (1 : Int32)]) (rest := [.int r1]) S hG hE hO hA (uM_fault l g v qM st (1 : Int32)) hMw hP hD hS (cwV 1 hts gL_law_X9_fault rfl rfl rfl (by decide +kernel) ⟨(Nat.le_of_ble_eq_true rfl), (Nat.le_of_ble_eq_true rfl)⟩) (va_recv hK (va_P_l hP) (ci := 9) (q0 := 0) rfl h0m) rfl hl.1 rfl (Nat.le_of_ble_eq_true rfl) dL_law_311 ⟨(show cells + 0 + 0 ≤ 601024 by omega), (show slots + 0 + 0 ≤ 7293034 by omega)⟩ (fun r2 u2 H locs hp hP hD hS => ?_)
    obtain ⟨e2, hMw⟩ := hp
    have hP := rtP (rtP hP)
    have hD := rtD (rtD hD)
    have ee : r1 = r2 := q_inj (e1.trans e2.symm)
    refine lv_icmp_eq (tgt := 1776) hx hb dL_law_314 (by decide) (fun _ => ?_) (fun hc => absurd ee hc)
    refine W.widen (k := cells + 40) (n := slots + 900) (by omega) (by omega) ?_
    refine kk _ _ _ fo H locs ls ?_ hXw hMw hP hD hS hl
    exact ok
set_option maxHeartbeats 800000 in
set_option maxRecDepth 100000 in
theorem lwk_3 {p : Program} {l : Launch} {e : Env} {s : State} {m : MethodId} {below : List Frame} {meth : Method} {c : Code} {g : GP} {v : GV} {z : Nat × Nat} {b L : Nat} {xs : Nat → Int32} {qX qM qo : Nat} {i : Int32} {cells slots : Nat} (C : LwC p l s m meth c g v z b L xs) (hi : 0 ≤ i.toInt ∧ i.toInt + 5 ≤ (L : Int) ∧ L ≤ 2560) (hroom : cells + 40 ≤ 601024 ∧ slots + 900 ≤ 7293034) (kk : LwN p l e s m below meth c g b qX qM qo i (cells + 40) (slots + 900) 1776) : LwN p l e s m below meth c g b qX qM qo i cells slots 319 := by
  intro st wx wm fo H locs ls ok hXw hMw hP hD hS hl
  obtain ⟨hx, hb, hr, hml, hown, hts, hXs, hbl, hlocks, hG, hE, hO, hX, hst⟩ := id C
  have hK := hG.1
  have S : CallFix p m c cL_law 7 s #[Value.ref b] wsLw RL := ⟨hx, hb, hml, hown, hts⟩
  have hA : ∀ q : Nat, s.heap.size ≤ q → lwA s q := fun _ h => h
  have hbA : ¬ lwA s b := Nat.not_le.mpr hbl
  obtain ⟨fx, h0x⟩ := hXw.hd
  obtain ⟨fm, h0m⟩ := hMw.hd
  refine lv_aload_n hx hb dL_law_319 rfl (lv_at hl 1 rfl) ?_
  refine lv_aload_n hx hb dL_law_320 rfl (lv_at hl 0 rfl) ?_
  refine lv_iload hx hb dL_law_321 (lv_at hl 4 rfl) ?_
  refine lv_iconst (v := (1 : Int32)) hx hb dL_law_323 (by decide) ?_
  refine lv_iadd hx hb dL_law_324 ?_
  refine va_sld hx hb hXs hbl hbA hS (lw_in hi (j := 1) rfl (by decide)) dL_law_325 ?_
  refine lv_aload_n hx hb dL_law_326 rfl (lv_at hl 0 rfl) ?_
  refine lv_iload hx hb dL_law_327 (lv_at hl 4 rfl) ?_
  refine lv_iconst (v := (2 : Int32)) hx hb dL_law_329 (by decide) ?_
  refine lv_iadd hx hb dL_law_330 ?_
  refine va_sld hx hb hXs hbl hbA hS (lw_in hi (j := 2) rfl (by decide)) dL_law_331 ?_
  refine lv_aload_n hx hb dL_law_332 rfl (lv_at hl 0 rfl) ?_
  refine lv_iload hx hb dL_law_333 (lv_at hl 4 rfl) ?_
  refine lv_iconst (v := (3 : Int32)) hx hb dL_law_335 (by decide) ?_
  refine lv_iadd hx hb dL_law_336 ?_
  refine va_sld hx hb hXs hbl hbA hS (lw_in hi (j := 3) rfl (by decide)) dL_law_337 ?_
  refine lw_ci (v := v) (av := [.int (xs (i + (1 : Int32)).toNatClampNeg), .int (xs (i + (2 : Int32)).toNatClampNeg), .int (xs (i + (3 : Int32)).toNatClampNeg)]) (rest := []) S hG hE hO hA (uX_set l g v qX st (xs (i + (1 : Int32)).toNatClampNeg) (xs (i + (2 : Int32)).toNatClampNeg) (xs (i + (3 : Int32)).toNatClampNeg)) hXw hP hD hS (cwV 3 hts gL_law_X8_set rfl rfl rfl (by decide +kernel) ⟨(Nat.le_of_ble_eq_true rfl), (Nat.le_of_ble_eq_true rfl)⟩) (va_recv hK (va_P_l hP) (ci := 8) (q0 := 0) rfl h0x) rfl hl.1 rfl (Nat.le_of_ble_eq_true rfl) dL_law_338 ⟨(show cells + 0 ≤ 601024 by omega), (show slots + 0 ≤ 7293034 by omega)⟩ (fun r1 u1 H locs hp hP hD hS => ?_)
  obtain ⟨e1, hXw⟩ := hp
  have hP := rtP hP
  have hD := rtD hD
  refine lv_aload_n hx hb dL_law_341 rfl (lv_at hl 2 rfl) ?_
  refine lv_aload_n hx hb dL_law_342 rfl (lv_at hl 0 rfl) ?_
  refine lv_iload hx hb dL_law_343 (lv_at hl 4 rfl) ?_
  refine lv_iconst (v := (1 : Int32)) hx hb dL_law_345 (by decide) ?_
  refine lv_iadd hx hb dL_law_346 ?_
  refine va_sld hx hb hXs hbl hbA hS (lw_in hi (j := 1) rfl (by decide)) dL_law_347 ?_
  refine lv_aload_n hx hb dL_law_348 rfl (lv_at hl 0 rfl) ?_
  refine lv_iload hx hb dL_law_349 (lv_at hl 4 rfl) ?_
  refine lv_iconst (v := (2 : Int32)) hx hb dL_law_351 (by decide) ?_
  refine lv_iadd hx hb dL_law_352 ?_
  refine va_sld hx hb hXs hbl hbA hS (lw_in hi (j := 2) rfl (by decide)) dL_law_353 ?_
  refine lv_aload_n hx hb dL_law_354 rfl (lv_at hl 0 rfl) ?_
  refine lv_iload hx hb dL_law_355 (lv_at hl 4 rfl) ?_
  refine lv_iconst (v := (3 : Int32)) hx hb dL_law_357 (by decide) ?_
  refine lv_iadd hx hb dL_law_358 ?_
  refine va_sld hx hb hXs hbl hbA hS (lw_in hi (j := 3) rfl (by decide)) dL_law_359 ?_
  refine lw_ci (v := v) (av := [.int (xs (i + (1 : Int32)).toNatClampNeg), .int (xs (i + (2 : Int32)).toNatClampNeg), .int (xs (i + (3 : Int32)).toNatClampNeg)]) (rest := [.int r1]) S hG hE hO hA (uM_set l g v qM st (xs (i + (1 : Int32)).toNatClampNeg) (xs (i + (2 : Int32)).toNatClampNeg) (xs (i + (3 : Int32)).toNatClampNeg)) hMw hP hD hS (cwV 3 hts gL_law_X9_set rfl rfl rfl (by decide +kernel) ⟨(Nat.le_of_ble_eq_true rfl), (Nat.le_of_ble_eq_true rfl)⟩) (va_recv hK (va_P_l hP) (ci := 9) (q0 := 0) rfl h0m) rfl hl.1 rfl (Nat.le_of_ble_eq_true rfl) dL_law_360 ⟨(show cells + 0 + 0 ≤ 601024 by omega), (show slots + 0 + 0 ≤ 7293034 by omega)⟩ (fun r2 u2 H locs hp hP hD hS => ?_)
  obtain ⟨e2, hMw⟩ := hp
  have hP := rtP (rtP hP)
  have hD := rtD (rtD hD)
  have ee : r1 = r2 := q_inj (e1.trans e2.symm)
  refine lv_icmp_eq (tgt := 1776) hx hb dL_law_363 (by decide) (fun _ => ?_) (fun hc => absurd ee hc)
  refine W.widen (k := cells + 40) (n := slots + 900) (by omega) (by omega) ?_
  refine kk _ _ _ fo H locs ls ?_ hXw hMw hP hD hS hl
  exact okN ok (okPg_se ok.1 _ _ _)
set_option maxHeartbeats 800000 in
set_option maxRecDepth 100000 in
theorem lwk_4 {p : Program} {l : Launch} {e : Env} {s : State} {m : MethodId} {below : List Frame} {meth : Method} {c : Code} {g : GP} {v : GV} {z : Nat × Nat} {b L : Nat} {xs : Nat → Int32} {qX qM qo : Nat} {i : Int32} {cells slots : Nat} (C : LwC p l s m meth c g v z b L xs) (hi : 0 ≤ i.toInt ∧ i.toInt + 5 ≤ (L : Int) ∧ L ≤ 2560) (hroom : cells + 40 ≤ 601024 ∧ slots + 900 ≤ 7293034) (kk : LwN p l e s m below meth c g b qX qM qo i (cells + 40) (slots + 900) 1776) : LwN p l e s m below meth c g b qX qM qo i cells slots 368 := by
  intro st wx wm fo H locs ls ok hXw hMw hP hD hS hl
  obtain ⟨hx, hb, hr, hml, hown, hts, hXs, hbl, hlocks, hG, hE, hO, hX, hst⟩ := id C
  have hK := hG.1
  have S : CallFix p m c cL_law 7 s #[Value.ref b] wsLw RL := ⟨hx, hb, hml, hown, hts⟩
  have hA : ∀ q : Nat, s.heap.size ≤ q → lwA s q := fun _ h => h
  have hbA : ¬ lwA s b := Nat.not_le.mpr hbl
  obtain ⟨fx, h0x⟩ := hXw.hd
  obtain ⟨fm, h0m⟩ := hMw.hd
  refine lv_aload_n hx hb dL_law_368 rfl (lv_at hl 1 rfl) ?_
  refine lv_aload_n hx hb dL_law_369 rfl (lv_at hl 0 rfl) ?_
  refine lv_iload hx hb dL_law_370 (lv_at hl 4 rfl) ?_
  refine lv_iconst (v := (1 : Int32)) hx hb dL_law_372 (by decide) ?_
  refine lv_iadd hx hb dL_law_373 ?_
  refine va_sld hx hb hXs hbl hbA hS (lw_in hi (j := 1) rfl (by decide)) dL_law_374 ?_
  refine lv_aload_n hx hb dL_law_375 rfl (lv_at hl 0 rfl) ?_
  refine lv_iload hx hb dL_law_376 (lv_at hl 4 rfl) ?_
  refine lv_iconst (v := (2 : Int32)) hx hb dL_law_378 (by decide) ?_
  refine lv_iadd hx hb dL_law_379 ?_
  refine va_sld hx hb hXs hbl hbA hS (lw_in hi (j := 2) rfl (by decide)) dL_law_380 ?_
  refine lw_ci (v := v) (av := [.int (xs (i + (1 : Int32)).toNatClampNeg), .int (xs (i + (2 : Int32)).toNatClampNeg)]) (rest := []) S hG hE hO hA (uX_vote l g v qX st (xs (i + (1 : Int32)).toNatClampNeg) (xs (i + (2 : Int32)).toNatClampNeg)) hXw hP hD hS (cwV 2 hts gL_law_X8_vote rfl rfl rfl (by decide +kernel) ⟨(Nat.le_of_ble_eq_true rfl), (Nat.le_of_ble_eq_true rfl)⟩) (va_recv hK (va_P_l hP) (ci := 8) (q0 := 0) rfl h0x) rfl hl.1 rfl (Nat.le_of_ble_eq_true rfl) dL_law_381 ⟨(show cells + 0 ≤ 601024 by omega), (show slots + 0 ≤ 7293034 by omega)⟩ (fun r1 u1 H locs hp hP hD hS => ?_)
  obtain ⟨e1, hXw⟩ := hp
  have hP := rtP hP
  have hD := rtD hD
  refine lv_aload_n hx hb dL_law_384 rfl (lv_at hl 2 rfl) ?_
  refine lv_aload_n hx hb dL_law_385 rfl (lv_at hl 0 rfl) ?_
  refine lv_iload hx hb dL_law_386 (lv_at hl 4 rfl) ?_
  refine lv_iconst (v := (1 : Int32)) hx hb dL_law_388 (by decide) ?_
  refine lv_iadd hx hb dL_law_389 ?_
  refine va_sld hx hb hXs hbl hbA hS (lw_in hi (j := 1) rfl (by decide)) dL_law_390 ?_
  refine lv_aload_n hx hb dL_law_391 rfl (lv_at hl 0 rfl) ?_
  refine lv_iload hx hb dL_law_392 (lv_at hl 4 rfl) ?_
  refine lv_iconst (v := (2 : Int32)) hx hb dL_law_394 (by decide) ?_
  refine lv_iadd hx hb dL_law_395 ?_
  refine va_sld hx hb hXs hbl hbA hS (lw_in hi (j := 2) rfl (by decide)) dL_law_396 ?_
  refine lw_ci (v := v) (av := [.int (xs (i + (1 : Int32)).toNatClampNeg), .int (xs (i + (2 : Int32)).toNatClampNeg)]) (rest := [.int r1]) S hG hE hO hA (uM_vote l g v qM st (xs (i + (1 : Int32)).toNatClampNeg) (xs (i + (2 : Int32)).toNatClampNeg)) hMw hP hD hS (cwV 2 hts gL_law_X9_vote rfl rfl rfl (by decide +kernel) ⟨(Nat.le_of_ble_eq_true rfl), (Nat.le_of_ble_eq_true rfl)⟩) (va_recv hK (va_P_l hP) (ci := 9) (q0 := 0) rfl h0m) rfl hl.1 rfl (Nat.le_of_ble_eq_true rfl) dL_law_397 ⟨(show cells + 0 + 0 ≤ 601024 by omega), (show slots + 0 + 0 ≤ 7293034 by omega)⟩ (fun r2 u2 H locs hp hP hD hS => ?_)
  obtain ⟨e2, hMw⟩ := hp
  have hP := rtP (rtP hP)
  have hD := rtD (rtD hD)
  have ee : r1 = r2 := q_inj (e1.trans e2.symm)
  refine lv_icmp_eq (tgt := 1776) hx hb dL_law_400 (by decide) (fun _ => ?_) (fun hc => absurd ee hc)
  refine W.widen (k := cells + 40) (n := slots + 900) (by omega) (by omega) ?_
  refine kk _ _ _ fo H locs ls ?_ hXw hMw hP hD hS hl
  exact okN ok (okPg_vo ok.1 _ _)
set_option maxHeartbeats 800000 in
set_option maxRecDepth 100000 in
theorem lwk_5 {p : Program} {l : Launch} {e : Env} {s : State} {m : MethodId} {below : List Frame} {meth : Method} {c : Code} {g : GP} {v : GV} {z : Nat × Nat} {b L : Nat} {xs : Nat → Int32} {qX qM qo : Nat} {i : Int32} {cells slots : Nat} (C : LwC p l s m meth c g v z b L xs) (hi : 0 ≤ i.toInt ∧ i.toInt + 5 ≤ (L : Int) ∧ L ≤ 2560) (hroom : cells + 40 ≤ 601024 ∧ slots + 900 ≤ 7293034) (kk : LwN p l e s m below meth c g b qX qM qo i (cells + 40) (slots + 900) 1776) : LwN p l e s m below meth c g b qX qM qo i cells slots 405 := by
  intro st wx wm fo H locs ls ok hXw hMw hP hD hS hl
  obtain ⟨hx, hb, hr, hml, hown, hts, hXs, hbl, hlocks, hG, hE, hO, hX, hst⟩ := id C
  have hK := hG.1
  have S : CallFix p m c cL_law 7 s #[Value.ref b] wsLw RL := ⟨hx, hb, hml, hown, hts⟩
  have hA : ∀ q : Nat, s.heap.size ≤ q → lwA s q := fun _ h => h
  have hbA : ¬ lwA s b := Nat.not_le.mpr hbl
  obtain ⟨fx, h0x⟩ := hXw.hd
  obtain ⟨fm, h0m⟩ := hMw.hd
  refine lv_aload_n hx hb dL_law_405 rfl (lv_at hl 1 rfl) ?_
  refine lv_aload_n hx hb dL_law_406 rfl (lv_at hl 0 rfl) ?_
  refine lv_iload hx hb dL_law_407 (lv_at hl 4 rfl) ?_
  refine lv_iconst (v := (1 : Int32)) hx hb dL_law_409 (by decide) ?_
  refine lv_iadd hx hb dL_law_410 ?_
  refine va_sld hx hb hXs hbl hbA hS (lw_in hi (j := 1) rfl (by decide)) dL_law_411 ?_
  refine lw_ci (v := v) (av := [.int (xs (i + (1 : Int32)).toNatClampNeg)]) (rest := []) S hG hE hO hA (uX_limit l g v qX st (xs (i + (1 : Int32)).toNatClampNeg)) hXw hP hD hS (cwV 1 hts gL_law_X8_limit rfl rfl rfl (by decide +kernel) ⟨(Nat.le_of_ble_eq_true rfl), (Nat.le_of_ble_eq_true rfl)⟩) (va_recv hK (va_P_l hP) (ci := 8) (q0 := 0) rfl h0x) rfl hl.1 rfl (Nat.le_of_ble_eq_true rfl) dL_law_412 ⟨(show cells + 0 ≤ 601024 by omega), (show slots + 0 ≤ 7293034 by omega)⟩ (fun r1 u1 H locs hp hP hD hS => ?_)
  obtain ⟨e1, hXw⟩ := hp
  have hP := rtP hP
  have hD := rtD hD
  refine lv_aload_n hx hb dL_law_415 rfl (lv_at hl 2 rfl) ?_
  refine lv_aload_n hx hb dL_law_416 rfl (lv_at hl 0 rfl) ?_
  refine lv_iload hx hb dL_law_417 (lv_at hl 4 rfl) ?_
  refine lv_iconst (v := (1 : Int32)) hx hb dL_law_419 (by decide) ?_
  refine lv_iadd hx hb dL_law_420 ?_
  refine va_sld hx hb hXs hbl hbA hS (lw_in hi (j := 1) rfl (by decide)) dL_law_421 ?_
  refine lw_ci (v := v) (av := [.int (xs (i + (1 : Int32)).toNatClampNeg)]) (rest := [.int r1]) S hG hE hO hA (uM_limit l g v qM st (xs (i + (1 : Int32)).toNatClampNeg)) hMw hP hD hS (cwV 1 hts gL_law_X9_limit rfl rfl rfl (by decide +kernel) ⟨(Nat.le_of_ble_eq_true rfl), (Nat.le_of_ble_eq_true rfl)⟩) (va_recv hK (va_P_l hP) (ci := 9) (q0 := 0) rfl h0m) rfl hl.1 rfl (Nat.le_of_ble_eq_true rfl) dL_law_422 ⟨(show cells + 0 + 0 ≤ 601024 by omega), (show slots + 0 + 0 ≤ 7293034 by omega)⟩ (fun r2 u2 H locs hp hP hD hS => ?_)
  obtain ⟨e2, hMw⟩ := hp
  have hP := rtP (rtP hP)
  have hD := rtD (rtD hD)
  have ee : r1 = r2 := q_inj (e1.trans e2.symm)
  refine lv_icmp_eq (tgt := 1776) hx hb dL_law_425 (by decide) (fun _ => ?_) (fun hc => absurd ee hc)
  refine W.widen (k := cells + 40) (n := slots + 900) (by omega) (by omega) ?_
  refine kk _ _ _ fo H locs ls ?_ hXw hMw hP hD hS hl
  exact okN ok (okPg_li ok.1 _)
set_option maxHeartbeats 800000 in
set_option maxRecDepth 100000 in
theorem lwk_6 {p : Program} {l : Launch} {e : Env} {s : State} {m : MethodId} {below : List Frame} {meth : Method} {c : Code} {g : GP} {v : GV} {z : Nat × Nat} {b L : Nat} {xs : Nat → Int32} {qX qM qo : Nat} {i : Int32} {cells slots : Nat} (C : LwC p l s m meth c g v z b L xs) (hi : 0 ≤ i.toInt ∧ i.toInt + 5 ≤ (L : Int) ∧ L ≤ 2560) (hroom : cells + 40 ≤ 601024 ∧ slots + 900 ≤ 7293034) (kk : LwN p l e s m below meth c g b qX qM qo i (cells + 40) (slots + 900) 1776) : LwN p l e s m below meth c g b qX qM qo i cells slots 430 := by
  intro st wx wm fo H locs ls ok hXw hMw hP hD hS hl
  obtain ⟨hx, hb, hr, hml, hown, hts, hXs, hbl, hlocks, hG, hE, hO, hX, hst⟩ := id C
  have hK := hG.1
  have S : CallFix p m c cL_law 7 s #[Value.ref b] wsLw RL := ⟨hx, hb, hml, hown, hts⟩
  have hA : ∀ q : Nat, s.heap.size ≤ q → lwA s q := fun _ h => h
  have hbA : ¬ lwA s b := Nat.not_le.mpr hbl
  obtain ⟨fx, h0x⟩ := hXw.hd
  obtain ⟨fm, h0m⟩ := hMw.hd
  refine lv_aload_n hx hb dL_law_430 rfl (lv_at hl 1 rfl) ?_
  refine lv_aload_n hx hb dL_law_431 rfl (lv_at hl 0 rfl) ?_
  refine lv_iload hx hb dL_law_432 (lv_at hl 4 rfl) ?_
  refine lv_iconst (v := (1 : Int32)) hx hb dL_law_434 (by decide) ?_
  refine lv_iadd hx hb dL_law_435 ?_
  refine va_sld hx hb hXs hbl hbA hS (lw_in hi (j := 1) rfl (by decide)) dL_law_436 ?_
  refine lv_aload_n hx hb dL_law_437 rfl (lv_at hl 0 rfl) ?_
  refine lv_iload hx hb dL_law_438 (lv_at hl 4 rfl) ?_
  refine lv_iconst (v := (2 : Int32)) hx hb dL_law_440 (by decide) ?_
  refine lv_iadd hx hb dL_law_441 ?_
  refine va_sld hx hb hXs hbl hbA hS (lw_in hi (j := 2) rfl (by decide)) dL_law_442 ?_
  refine lv_aload_n hx hb dL_law_443 rfl (lv_at hl 0 rfl) ?_
  refine lv_iload hx hb dL_law_444 (lv_at hl 4 rfl) ?_
  refine lv_iconst (v := (3 : Int32)) hx hb dL_law_446 (by decide) ?_
  refine lv_iadd hx hb dL_law_447 ?_
  refine va_sld hx hb hXs hbl hbA hS (lw_in hi (j := 3) rfl (by decide)) dL_law_448 ?_
  refine lw_ci (v := v) (av := [.int (xs (i + (1 : Int32)).toNatClampNeg), .int (xs (i + (2 : Int32)).toNatClampNeg), .int (xs (i + (3 : Int32)).toNatClampNeg)]) (rest := []) S hG hE hO hA (uX_mark l g v qX st (xs (i + (1 : Int32)).toNatClampNeg) (xs (i + (2 : Int32)).toNatClampNeg) (xs (i + (3 : Int32)).toNatClampNeg)) hXw hP hD hS (cwV 3 hts gL_law_X8_mark rfl rfl rfl (by decide +kernel) ⟨(Nat.le_of_ble_eq_true rfl), (Nat.le_of_ble_eq_true rfl)⟩) (va_recv hK (va_P_l hP) (ci := 8) (q0 := 0) rfl h0x) rfl hl.1 rfl (Nat.le_of_ble_eq_true rfl) dL_law_449 ⟨(show cells + 0 ≤ 601024 by omega), (show slots + 0 ≤ 7293034 by omega)⟩ (fun r1 u1 H locs hp hP hD hS => ?_)
  obtain ⟨e1, hXw⟩ := hp
  have hP := rtP hP
  have hD := rtD hD
  refine lv_aload_n hx hb dL_law_452 rfl (lv_at hl 2 rfl) ?_
  refine lv_aload_n hx hb dL_law_453 rfl (lv_at hl 0 rfl) ?_
  refine lv_iload hx hb dL_law_454 (lv_at hl 4 rfl) ?_
  refine lv_iconst (v := (1 : Int32)) hx hb dL_law_456 (by decide) ?_
  refine lv_iadd hx hb dL_law_457 ?_
  refine va_sld hx hb hXs hbl hbA hS (lw_in hi (j := 1) rfl (by decide)) dL_law_458 ?_
  refine lv_aload_n hx hb dL_law_459 rfl (lv_at hl 0 rfl) ?_
  refine lv_iload hx hb dL_law_460 (lv_at hl 4 rfl) ?_
  refine lv_iconst (v := (2 : Int32)) hx hb dL_law_462 (by decide) ?_
  refine lv_iadd hx hb dL_law_463 ?_
  refine va_sld hx hb hXs hbl hbA hS (lw_in hi (j := 2) rfl (by decide)) dL_law_464 ?_
  refine lv_aload_n hx hb dL_law_465 rfl (lv_at hl 0 rfl) ?_
  refine lv_iload hx hb dL_law_466 (lv_at hl 4 rfl) ?_
  refine lv_iconst (v := (3 : Int32)) hx hb dL_law_468 (by decide) ?_
  refine lv_iadd hx hb dL_law_469 ?_
  refine va_sld hx hb hXs hbl hbA hS (lw_in hi (j := 3) rfl (by decide)) dL_law_470 ?_
  refine lw_ci (v := v) (av := [.int (xs (i + (1 : Int32)).toNatClampNeg), .int (xs (i + (2 : Int32)).toNatClampNeg), .int (xs (i + (3 : Int32)).toNatClampNeg)]) (rest := [.int r1]) S hG hE hO hA (uM_mark l g v qM st (xs (i + (1 : Int32)).toNatClampNeg) (xs (i + (2 : Int32)).toNatClampNeg) (xs (i + (3 : Int32)).toNatClampNeg)) hMw hP hD hS (cwV 3 hts gL_law_X9_mark rfl rfl rfl (by decide +kernel) ⟨(Nat.le_of_ble_eq_true rfl), (Nat.le_of_ble_eq_true rfl)⟩) (va_recv hK (va_P_l hP) (ci := 9) (q0 := 0) rfl h0m) rfl hl.1 rfl (Nat.le_of_ble_eq_true rfl) dL_law_471 ⟨(show cells + 0 + 0 ≤ 601024 by omega), (show slots + 0 + 0 ≤ 7293034 by omega)⟩ (fun r2 u2 H locs hp hP hD hS => ?_)
  obtain ⟨e2, hMw⟩ := hp
  have hP := rtP (rtP hP)
  have hD := rtD (rtD hD)
  have ee : r1 = r2 := q_inj (e1.trans e2.symm)
  refine lv_icmp_eq (tgt := 1776) hx hb dL_law_474 (by decide) (fun _ => ?_) (fun hc => absurd ee hc)
  refine W.widen (k := cells + 40) (n := slots + 900) (by omega) (by omega) ?_
  refine kk _ _ _ fo H locs ls ?_ hXw hMw hP hD hS hl
  exact okN ok (okPg_ma ok.1 _ _ _)
set_option maxHeartbeats 800000 in
set_option maxRecDepth 100000 in
theorem lwk_7 {p : Program} {l : Launch} {e : Env} {s : State} {m : MethodId} {below : List Frame} {meth : Method} {c : Code} {g : GP} {v : GV} {z : Nat × Nat} {b L : Nat} {xs : Nat → Int32} {qX qM qo : Nat} {i : Int32} {cells slots : Nat} (C : LwC p l s m meth c g v z b L xs) (hi : 0 ≤ i.toInt ∧ i.toInt + 5 ≤ (L : Int) ∧ L ≤ 2560) (hroom : cells + 40 ≤ 601024 ∧ slots + 900 ≤ 7293034) (kk : LwN p l e s m below meth c g b qX qM qo i (cells + 40) (slots + 900) 1776) : LwN p l e s m below meth c g b qX qM qo i cells slots 479 := by
  intro st wx wm fo H locs ls ok hXw hMw hP hD hS hl
  obtain ⟨hx, hb, hr, hml, hown, hts, hXs, hbl, hlocks, hG, hE, hO, hX, hst⟩ := id C
  have hK := hG.1
  have S : CallFix p m c cL_law 7 s #[Value.ref b] wsLw RL := ⟨hx, hb, hml, hown, hts⟩
  have hA : ∀ q : Nat, s.heap.size ≤ q → lwA s q := fun _ h => h
  have hbA : ¬ lwA s b := Nat.not_le.mpr hbl
  obtain ⟨fx, h0x⟩ := hXw.hd
  obtain ⟨fm, h0m⟩ := hMw.hd
  refine lv_aload_n hx hb dL_law_479 rfl (lv_at hl 1 rfl) ?_
  refine lv_aload_n hx hb dL_law_480 rfl (lv_at hl 0 rfl) ?_
  refine lv_iload hx hb dL_law_481 (lv_at hl 4 rfl) ?_
  refine lv_iconst (v := (1 : Int32)) hx hb dL_law_483 (by decide) ?_
  refine lv_iadd hx hb dL_law_484 ?_
  refine va_sld hx hb hXs hbl hbA hS (lw_in hi (j := 1) rfl (by decide)) dL_law_485 ?_
  refine lw_ci (v := v) (av := [.int (xs (i + (1 : Int32)).toNatClampNeg)]) (rest := []) S hG hE hO hA (uX_clean l g v qX st (xs (i + (1 : Int32)).toNatClampNeg)) hXw hP hD hS (cwV 1 hts gL_law_X8_clean rfl rfl rfl (by decide +kernel) ⟨(Nat.le_of_ble_eq_true rfl), (Nat.le_of_ble_eq_true rfl)⟩) (va_recv hK (va_P_l hP) (ci := 8) (q0 := 0) rfl h0x) rfl hl.1 rfl (Nat.le_of_ble_eq_true rfl) dL_law_486 ⟨(show cells + 0 ≤ 601024 by omega), (show slots + 0 ≤ 7293034 by omega)⟩ (fun r1 u1 H locs hp hP hD hS => ?_)
  obtain ⟨e1, hXw⟩ := hp
  have hP := rtP hP
  have hD := rtD hD
  refine lv_aload_n hx hb dL_law_489 rfl (lv_at hl 2 rfl) ?_
  refine lv_aload_n hx hb dL_law_490 rfl (lv_at hl 0 rfl) ?_
  refine lv_iload hx hb dL_law_491 (lv_at hl 4 rfl) ?_
  refine lv_iconst (v := (1 : Int32)) hx hb dL_law_493 (by decide) ?_
  refine lv_iadd hx hb dL_law_494 ?_
  refine va_sld hx hb hXs hbl hbA hS (lw_in hi (j := 1) rfl (by decide)) dL_law_495 ?_
  refine lw_ci (v := v) (av := [.int (xs (i + (1 : Int32)).toNatClampNeg)]) (rest := [.int r1]) S hG hE hO hA (uM_clean l g v qM st (xs (i + (1 : Int32)).toNatClampNeg)) hMw hP hD hS (cwV 1 hts gL_law_X9_clean rfl rfl rfl (by decide +kernel) ⟨(Nat.le_of_ble_eq_true rfl), (Nat.le_of_ble_eq_true rfl)⟩) (va_recv hK (va_P_l hP) (ci := 9) (q0 := 0) rfl h0m) rfl hl.1 rfl (Nat.le_of_ble_eq_true rfl) dL_law_496 ⟨(show cells + 0 + 0 ≤ 601024 by omega), (show slots + 0 + 0 ≤ 7293034 by omega)⟩ (fun r2 u2 H locs hp hP hD hS => ?_)
  obtain ⟨e2, hMw⟩ := hp
  have hP := rtP (rtP hP)
  have hD := rtD (rtD hD)
  have ee : r1 = r2 := q_inj (e1.trans e2.symm)
  refine lv_icmp_eq (tgt := 1776) hx hb dL_law_499 (by decide) (fun _ => ?_) (fun hc => absurd ee hc)
  refine W.widen (k := cells + 40) (n := slots + 900) (by omega) (by omega) ?_
  refine kk _ _ _ fo H locs ls ?_ hXw hMw hP hD hS hl
  exact okN ok (okPg_cl ok.1 _)
