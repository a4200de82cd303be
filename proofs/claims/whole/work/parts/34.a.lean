set_option maxHeartbeats 4000000 in
set_option maxRecDepth 100000 in
theorem lw_back {p : Program} {l : Launch} {e : Env} {s : State} {m : MethodId} {below : List Frame} {meth : Method} {c : Code} {g : GP} {v : GV} {z : Nat × Nat} {b L : Nat} {xs : Nat → Int32} {qX qM qo : Nat} {i : Int32} {cells slots : Nat} (C : LwC p l s m meth c g v z b L xs) (k23 : LwN p l e s m below meth c g b qX qM qo (i + (5 : Int32)) cells slots 23) : LwN p l e s m below meth c g b qX qM qo i cells slots 1776 := by
  intro st wx wm fo H locs ls ok hXw hMw hP hD hS hl
  obtain ⟨hx, hb, -⟩ := id C
  refine lv_iinc (v := (i + (5 : Int32))) (lv' := [(4, .int (i + (5 : Int32))), (0, .ref b), (1, .ref qX), (2, .ref qM), (3, .ref qo)]) hx hb dL_law_1776 hl (k := 4) rfl rfl (by decide) rfl (fun ls hl => ?_)
  refine lv_goto (tgt := 23) hx hb dL_law_1779 (by decide) ?_
  exact k23 st wx wm fo H locs ls ok hXw hMw hP hD hS (lv_sub hl [1, 2, 3, 4, 0] rfl)
set_option maxHeartbeats 8000000 in
set_option maxRecDepth 100000 in
theorem lw_step {p : Program} {l : Launch} {e : Env} {s : State} {m : MethodId} {below : List Frame} {meth : Method} {c : Code} {g : GP} {v : GV} {z : Nat × Nat} {b L : Nat} {xs : Nat → Int32} {qX qM qo : Nat} {i : Int32} {cells slots : Nat} (C : LwC p l s m meth c g v z b L xs) (hi : 0 ≤ i.toInt ∧ i.toInt + 5 ≤ (L : Int) ∧ L ≤ 2560) (hroom : cells + 40 ≤ 601024 ∧ slots + 900 ≤ 7293034) (kk : LwN p l e s m below meth c g b qX qM qo i (cells + 40) (slots + 900) 1776) : LwN p l e s m below meth c g b qX qM qo i cells slots 32 := by
  intro st wx wm fo H locs ls ok hXw hMw hP hD hS hl
  obtain ⟨hx, hb, hr, hml, hown, hts, hXs, hbl, hlocks, hG, hE, hO, hX, hst⟩ := id C
  have hbA : ¬ lwA s b := Nat.not_le.mpr hbl
  refine lv_aload_n hx hb dL_law_32 rfl (lv_at hl 0 rfl) ?_
  refine lv_iload hx hb dL_law_33 (lv_at hl 4 rfl) ?_
  refine va_sld hx hb hXs hbl hbA hS (q_in (n := i.toInt.toNat) (by omega) (by omega)) dL_law_35 ?_
  refine lv_bipush (v := (63 : Int32)) hx hb dL_law_36 (by decide) ?_
  refine lv_iand hx hb dL_law_38 ?_
  generalize (xs i.toNatClampNeg &&& (63 : Int32)) = x
  by_cases hs0 : x = (0 : Int32)
  · refine lv_tableIn (tgt := 208) hx hb dL_law_39 (by rw [hs0]; decide) (by rw [hs0]; decide) (by rw [hs0]; rfl) (by decide) ?_
    exact lwk_0 C hi hroom kk st wx wm fo H locs ls ok hXw hMw hP hD hS hl
  by_cases hs1 : x = (1 : Int32)
  · refine lv_tableIn (tgt := 265) hx hb dL_law_39 (by rw [hs1]; decide) (by rw [hs1]; decide) (by rw [hs1]; rfl) (by decide) ?_
    exact lwk_1 C hi hroom kk st wx wm fo H locs ls ok hXw hMw hP hD hS hl
  by_cases hs2 : x = (2 : Int32)
  · refine lv_tableIn (tgt := 278) hx hb dL_law_39 (by rw [hs2]; decide) (by rw [hs2]; decide) (by rw [hs2]; rfl) (by decide) ?_
    exact lwk_2 C hi hroom kk st wx wm fo H locs ls ok hXw hMw hP hD hS hl
  by_cases hs3 : x = (3 : Int32)
  · refine lv_tableIn (tgt := 319) hx hb dL_law_39 (by rw [hs3]; decide) (by rw [hs3]; decide) (by rw [hs3]; rfl) (by decide) ?_
    exact lwk_3 C hi hroom kk st wx wm fo H locs ls ok hXw hMw hP hD hS hl
  by_cases hs4 : x = (4 : Int32)
  · refine lv_tableIn (tgt := 368) hx hb dL_law_39 (by rw [hs4]; decide) (by rw [hs4]; decide) (by rw [hs4]; rfl) (by decide) ?_
    exact lwk_4 C hi hroom kk st wx wm fo H locs ls ok hXw hMw hP hD hS hl
  by_cases hs5 : x = (5 : Int32)
  · refine lv_tableIn (tgt := 405) hx hb dL_law_39 (by rw [hs5]; decide) (by rw [hs5]; decide) (by rw [hs5]; rfl) (by decide) ?_
    exact lwk_5 C hi hroom kk st wx wm fo H locs ls ok hXw hMw hP hD hS hl
  by_cases hs6 : x = (6 : Int32)
  · refine lv_tableIn (tgt := 430) hx hb dL_law_39 (by rw [hs6]; decide) (by rw [hs6]; decide) (by rw [hs6]; rfl) (by decide) ?_
    exact lwk_6 C hi hroom kk st wx wm fo H locs ls ok hXw hMw hP hD hS hl
  by_cases hs7 : x = (7 : Int32)
  · refine lv_tableIn (tgt := 479) hx hb dL_law_39 (by rw [hs7]; decide) (by rw [hs7]; decide) (by rw [hs7]; rfl) (by decide) ?_
    exact lwk_7 C hi hroom kk st wx wm fo H locs ls ok hXw hMw hP hD hS hl
  by_cases hs8 : x = (8 : Int32)
  · refine lv_tableIn (tgt := 504) hx hb dL_law_39 (by rw [hs8]; decide) (by rw [hs8]; decide) (by rw [hs8]; rfl) (by decide) ?_
    exact lwk_8 C hi hroom kk st wx wm fo H locs ls ok hXw hMw hP hD hS hl
  by_cases hs9 : x = (9 : Int32)
  · refine lv_tableIn (tgt := 541) hx hb dL_law_39 (by rw [hs9]; decide) (by rw [hs9]; decide) (by rw [hs9]; rfl) (by decide) ?_
    exact lwk_9 C hi hroom kk st wx wm fo H locs ls ok hXw hMw hP hD hS hl
  by_cases hs10 : x = (10 : Int32)
  · refine lv_tableIn (tgt := 578) hx hb dL_law_39 (by rw [hs10]; decide) (by rw [hs10]; decide) (by rw [hs10]; rfl) (by decide) ?_
    exact lwk_10 C hi hroom kk st wx wm fo H locs ls ok hXw hMw hP hD hS hl
  by_cases hs11 : x = (11 : Int32)
  · refine lv_tableIn (tgt := 603) hx hb dL_law_39 (by rw [hs11]; decide) (by rw [hs11]; decide) (by rw [hs11]; rfl) (by decide) ?_
    exact lwk_11 C hi hroom kk st wx wm fo H locs ls ok hXw hMw hP hD hS hl
  by_cases hs12 : x = (12 : Int32)
  · refine lv_tableIn (tgt := 656) hx hb dL_law_39 (by rw [hs12]; decide) (by rw [hs12]; decide) (by rw [hs12]; rfl) (by decide) ?_
    exact lwk_12 C hi hroom kk st wx wm fo H locs ls ok hXw hMw hP hD hS hl
  by_cases hs13 : x = (13 : Int32)
  · refine lv_tableIn (tgt := 681) hx hb dL_law_39 (by rw [hs13]; decide) (by rw [hs13]; decide) (by rw [hs13]; rfl) (by decide) ?_
    exact lwk_13 C hi hroom kk st wx wm fo H locs ls ok hXw hMw hP hD hS hl
  by_cases hs14 : x = (14 : Int32)
  · refine lv_tableIn (tgt := 749) hx hb dL_law_39 (by rw [hs14]; decide) (by rw [hs14]; decide) (by rw [hs14]; rfl) (by decide) ?_
    exact lwk_14 C hi hroom kk st wx wm fo H locs ls ok hXw hMw hP hD hS hl
  by_cases hs15 : x = (15 : Int32)
  · refine lv_tableIn (tgt := 774) hx hb dL_law_39 (by rw [hs15]; decide) (by rw [hs15]; decide) (by rw [hs15]; rfl) (by decide) ?_
    exact lwk_15 C hi hroom kk st wx wm fo H locs ls ok hXw hMw hP hD hS hl
  by_cases hs16 : x = (16 : Int32)
  · refine lv_tableIn (tgt := 811) hx hb dL_law_39 (by rw [hs16]; decide) (by rw [hs16]; decide) (by rw [hs16]; rfl) (by decide) ?_
    exact lwk_16 C hi hroom kk st wx wm fo H locs ls ok hXw hMw hP hD hS hl
  by_cases hs17 : x = (17 : Int32)
  · refine lv_tableIn (tgt := 848) hx hb dL_law_39 (by rw [hs17]; decide) (by rw [hs17]; decide) (by rw [hs17]; rfl) (by decide) ?_
    exact lwk_17 C hi hroom kk st wx wm fo H locs ls ok hXw hMw hP hD hS hl
  by_cases hs18 : x = (18 : Int32)
  · refine lv_tableIn (tgt := 885) hx hb dL_law_39 (by rw [hs18]; decide) (by rw [hs18]; decide) (by rw [hs18]; rfl) (by decide) ?_
    exact lwk_18 C hi hroom kk st wx wm fo H locs ls ok hXw hMw hP hD hS hl
  by_cases hs19 : x = (19 : Int32)
  · refine lv_tableIn (tgt := 922) hx hb dL_law_39 (by rw [hs19]; decide) (by rw [hs19]; decide) (by rw [hs19]; rfl) (by decide) ?_
    exact lwk_19 C hi hroom kk st wx wm fo H locs ls ok hXw hMw hP hD hS hl
  by_cases hs20 : x = (20 : Int32)
  · refine lv_tableIn (tgt := 971) hx hb dL_law_39 (by rw [hs20]; decide) (by rw [hs20]; decide) (by rw [hs20]; rfl) (by decide) ?_
    exact lwk_20 C hi hroom kk st wx wm fo H locs ls ok hXw hMw hP hD hS hl
  by_cases hs21 : x = (21 : Int32)
  · refine lv_tableIn (tgt := 1020) hx hb dL_law_39 (by rw [hs21]; decide) (by rw [hs21]; decide) (by rw [hs21]; rfl) (by decide) ?_
    exact lwk_21 C hi hroom kk st wx wm fo H locs ls ok hXw hMw hP hD hS hl
  by_cases hs22 : x = (22 : Int32)
  · refine lv_tableIn (tgt := 1057) hx hb dL_law_39 (by rw [hs22]; decide) (by rw [hs22]; decide) (by rw [hs22]; rfl) (by decide) ?_
    exact lwk_22 C hi hroom kk st wx wm fo H locs ls ok hXw hMw hP hD hS hl
  by_cases hs23 : x = (23 : Int32)
  · refine lv_tableIn (tgt := 1082) hx hb dL_law_39 (by rw [hs23]; decide) (by rw [hs23]; decide) (by rw [hs23]; rfl) (by decide) ?_
    exact lwk_23 C hi hroom kk st wx wm fo H locs ls ok hXw hMw hP hD hS hl
  by_cases hs24 : x = (24 : Int32)
  · refine lv_tableIn (tgt := 1119) hx hb dL_law_39 (by rw [hs24]; decide) (by rw [hs24]; decide) (by rw [hs24]; rfl) (by decide) ?_
    exact lwk_24 C hi hroom kk st wx wm fo H locs ls ok hXw hMw hP hD hS hl
  by_cases hs25 : x = (25 : Int32)
  · refine lv_tableIn (tgt := 1156) hx hb dL_law_39 (by rw [hs25]; decide) (by rw [hs25]; decide) (by rw [hs25]; rfl) (by decide) ?_
    exact lwk_25 C hi hroom kk st wx wm fo H locs ls ok hXw hMw hP hD hS hl
  by_cases hs26 : x = (26 : Int32)
  · refine lv_tableIn (tgt := 1193) hx hb dL_law_39 (by rw [hs26]; decide) (by rw [hs26]; decide) (by rw [hs26]; rfl) (by decide) ?_
    exact lwk_26 C hi hroom kk st wx wm fo H locs ls ok hXw hMw hP hD hS hl
  by_cases hs27 : x = (27 : Int32)
  · refine lv_tableIn (tgt := 1258) hx hb dL_law_39 (by rw [hs27]; decide) (by rw [hs27]; decide) (by rw [hs27]; rfl) (by decide) ?_
    exact lwk_27 C hi hroom kk st wx wm fo H locs ls ok hXw hMw hP hD hS hl
  by_cases hs28 : x = (28 : Int32)
  · refine lv_tableIn (tgt := 1295) hx hb dL_law_39 (by rw [hs28]; decide) (by rw [hs28]; decide) (by rw [hs28]; rfl) (by decide) ?_
    exact lwk_28 C hi hroom kk st wx wm fo H locs ls ok hXw hMw hP hD hS hl
  by_cases hs29 : x = (29 : Int32)
  · refine lv_tableIn (tgt := 1344) hx hb dL_law_39 (by rw [hs29]; decide) (by rw [hs29]; decide) (by rw [hs29]; rfl) (by decide) ?_
    exact lwk_29 C hi hroom kk st wx wm fo H locs ls ok hXw hMw hP hD hS hl
  by_cases hs30 : x = (30 : Int32)
  · refine lv_tableIn (tgt := 1369) hx hb dL_law_39 (by rw [hs30]; decide) (by rw [hs30]; decide) (by rw [hs30]; rfl) (by decide) ?_
    exact lwk_30 C hi hroom kk st wx wm fo H locs ls ok hXw hMw hP hD hS hl
  by_cases hs31 : x = (31 : Int32)
  · refine lv_tableIn (tgt := 1447) hx hb dL_law_39 (by rw [hs31]; decide) (by rw [hs31]; decide) (by rw [hs31]; rfl) (by decide) ?_
    exact lwk_31 C hi hroom kk st wx wm fo H locs ls ok hXw hMw hP hD hS hl
  by_cases hs32 : x = (32 : Int32)
  · refine lv_tableIn (tgt := 1484) hx hb dL_law_39 (by rw [hs32]; decide) (by rw [hs32]; decide) (by rw [hs32]; rfl) (by decide) ?_
    exact lwk_32 C hi hroom kk st wx wm fo H locs ls ok hXw hMw hP hD hS hl
  by_cases hs33 : x = (33 : Int32)
  · refine lv_tableIn (tgt := 1554) hx hb dL_law_39 (by rw [hs33]; decide) (by rw [hs33]; decide) (by rw [hs33]; rfl) (by decide) ?_
    exact lwk_33 C hi hroom kk st wx wm fo H locs ls ok hXw hMw hP hD hS hl
  by_cases hs34 : x = (34 : Int32)
  · refine lv_tableIn (tgt := 1603) hx hb dL_law_39 (by rw [hs34]; decide) (by rw [hs34]; decide) (by rw [hs34]; rfl) (by decide) ?_
    exact lwk_34 C hi hroom kk st wx wm fo H locs ls ok hXw hMw hP hD hS hl
  by_cases hs35 : x = (35 : Int32)
  · refine lv_tableIn (tgt := 1640) hx hb dL_law_39 (by rw [hs35]; decide) (by rw [hs35]; decide) (by rw [hs35]; rfl) (by decide) ?_
    exact lwk_35 C hi hroom kk st wx wm fo H locs ls ok hXw hMw hP hD hS hl
  by_cases hs36 : x = (36 : Int32)
  · refine lv_tableIn (tgt := 1689) hx hb dL_law_39 (by rw [hs36]; decide) (by rw [hs36]; decide) (by rw [hs36]; rfl) (by decide) ?_
    exact lwk_36 C hi hroom kk st wx wm fo H locs ls ok hXw hMw hP hD hS hl
  by_cases hs37 : x = (37 : Int32)
  · refine lv_tableIn (tgt := 1726) hx hb dL_law_39 (by rw [hs37]; decide) (by rw [hs37]; decide) (by rw [hs37]; rfl) (by decide) ?_
    exact lwk_37 C hi hroom kk st wx wm fo H locs ls ok hXw hMw hP hD hS hl
  by_cases hs38 : x = (38 : Int32)
  · refine lv_tableIn (tgt := 1751) hx hb dL_law_39 (by rw [hs38]; decide) (by rw [hs38]; decide) (by rw [hs38]; rfl) (by decide) ?_
    exact lwk_38 C hi hroom kk st wx wm fo H locs ls ok hXw hMw hP hD hS hl
  have hsT : x.toInt < 0 ∨ 38 < x.toInt := by
    have ht0 := lv_neT (a := 0) hs0 (by decide)
    have ht1 := lv_neT (a := 1) hs1 (by decide)
    have ht2 := lv_neT (a := 2) hs2 (by decide)
    have ht3 := lv_neT (a := 3) hs3 (by decide)
    have ht4 := lv_neT (a := 4) hs4 (by decide)
    have ht5 := lv_neT (a := 5) hs5 (by decide)
    have ht6 := lv_neT (a := 6) hs6 (by decide)
    have ht7 := lv_neT (a := 7) hs7 (by decide)
    have ht8 := lv_neT (a := 8) hs8 (by decide)
    have ht9 := lv_neT (a := 9) hs9 (by decide)
    have ht10 := lv_neT (a := 10) hs10 (by decide)
    have ht11 := lv_neT (a := 11) hs11 (by decide)
    have ht12 := lv_neT (a := 12) hs12 (by decide)
    have ht13 := lv_neT (a := 13) hs13 (by decide)
    have ht14 := lv_neT (a := 14) hs14 (by decide)
    have ht15 := lv_neT (a := 15) hs15 (by decide)
    have ht16 := lv_neT (a := 16) hs16 (by decide)
    have ht17 := lv_neT (a := 17) hs17 (by decide)
    have ht18 := lv_neT (a := 18) hs18 (by decide)
    have ht19 := lv_neT (a := 19) hs19 (by decide)
    have ht20 := lv_neT (a := 20) hs20 (by decide)
    have ht21 := lv_neT (a := 21) hs21 (by decide)
    have ht22 := lv_neT (a := 22) hs22 (by decide)
    have ht23 := lv_neT (a := 23) hs23 (by decide)
    have ht24 := lv_neT (a := 24) hs24 (by decide)
    have ht25 := lv_neT (a := 25) hs25 (by decide)
    have ht26 := lv_neT (a := 26) hs26 (by decide)
    have ht27 := lv_neT (a := 27) hs27 (by decide)
    have ht28 := lv_neT (a := 28) hs28 (by decide)
    have ht29 := lv_neT (a := 29) hs29 (by decide)
    have ht30 := lv_neT (a := 30) hs30 (by decide)
    have ht31 := lv_neT (a := 31) hs31 (by decide)
    have ht32 := lv_neT (a := 32) hs32 (by decide)
    have ht33 := lv_neT (a := 33) hs33 (by decide)
    have ht34 := lv_neT (a := 34) hs34 (by decide)
    have ht35 := lv_neT (a := 35) hs35 (by decide)
    have ht36 := lv_neT (a := 36) hs36 (by decide)
    have ht37 := lv_neT (a := 37) hs37 (by decide)
    have ht38 := lv_neT (a := 38) hs38 (by decide)
    omega
  refine lv_tableOut (tgt := 1776) hx hb dL_law_39 hsT (by decide) ?_
  refine W.widen (k := cells + 40) (n := slots + 900) (by omega) (by omega) ?_
  exact kk st wx wm fo H locs ls ok hXw hMw hP hD hS hl
set_option maxHeartbeats 4000000 in
set_option maxRecDepth 100000 in
theorem lw_loop {p : Program} {l : Launch} {e : Env} {s : State} {m : MethodId} {below : List Frame} {meth : Method} {c : Code} {g : GP} {v : GV} {z : Nat × Nat} {b L : Nat} {xs : Nat → Int32} {qX qM qo : Nat} (C : LwC p l s m meth c g v z b L xs) (hL : L ≤ 2560) : ∀ (n : Nat) (i : Int32) (cells slots : Nat), 0 ≤ i.toInt → i.toInt ≤ (L : Int) → (L : Int) < i.toInt + 5 * (n + 1 : Nat) → cells + 40 * n ≤ 601024 → slots + 900 * n ≤ 7293034 → LwN p l e s m below meth c g b qX qM qo i cells slots 23
  | 0, i, cells, slots, h0, h1, h2, h3, h4 => by
    intro st wx wm fo H locs ls ok hXw hMw hP hD hS hl
    obtain ⟨hx, hb, hr, hml, hown, hts, hXs, hbl, hlocks, hG, hE, hO, hX, hst⟩ := id C
    have hbA : ¬ lwA s b := Nat.not_le.mpr hbl
    have eL : (Int32.ofNat L).toInt = (L : Int) := q_nI (by omega)
    have e5 : (Int32.ofNat L - (5 : Int32)).toInt = (L : Int) - 5 := q_sub eL z5 (by omega) (by omega)
    refine lv_iload hx hb dL_law_23 (lv_at hl 4 rfl) ?_
    refine lv_aload_n hx hb dL_law_25 rfl (lv_at hl 0 rfl) ?_
    refine va_slen hx hb hXs hbl hbA hS dL_law_26 ?_
    refine lv_iconst (v := (5 : Int32)) hx hb dL_law_27 (by decide) ?_
    refine lv_isub hx hb dL_law_28 ?_
    refine lv_icmp_gt (tgt := 1782) hx hb dL_law_29 (by decide) (fun hc => ?_) (fun hc => ?_)
    · refine lv_iconst (v := (1 : Int32)) hx hb dL_law_1782 (by decide) ?_
      refine va_forget hS.2.2 ?_
      refine W.widen (k := 601024) (n := 7293034) (by omega) (by omega) ?_
      exact lw_ret hx hb hr hlocks dL_law_1783
    · rw [fa_lt, e5] at hc
      exact absurd (show (L : Int) - 5 < i.toInt by omega) hc
  | n + 1, i, cells, slots, h0, h1, h2, h3, h4 => by
    intro st wx wm fo H locs ls ok hXw hMw hP hD hS hl
    obtain ⟨hx, hb, hr, hml, hown, hts, hXs, hbl, hlocks, hG, hE, hO, hX, hst⟩ := id C
    have hbA : ¬ lwA s b := Nat.not_le.mpr hbl
    have eL : (Int32.ofNat L).toInt = (L : Int) := q_nI (by omega)
    have e5 : (Int32.ofNat L - (5 : Int32)).toInt = (L : Int) - 5 := q_sub eL z5 (by omega) (by omega)
    refine lv_iload hx hb dL_law_23 (lv_at hl 4 rfl) ?_
    refine lv_aload_n hx hb dL_law_25 rfl (lv_at hl 0 rfl) ?_
    refine va_slen hx hb hXs hbl hbA hS dL_law_26 ?_
    refine lv_iconst (v := (5 : Int32)) hx hb dL_law_27 (by decide) ?_
    refine lv_isub hx hb dL_law_28 ?_
    refine lv_icmp_gt (tgt := 1782) hx hb dL_law_29 (by decide) (fun hc => ?_) (fun hc => ?_)
    · refine lv_iconst (v := (1 : Int32)) hx hb dL_law_1782 (by decide) ?_
      refine va_forget hS.2.2 ?_
      refine W.widen (k := 601024) (n := 7293034) (by omega) (by omega) ?_
      exact lw_ret hx hb hr hlocks dL_law_1783
    · rw [fa_lt, e5] at hc
      have e6 : (i + (5 : Int32)).toInt = i.toInt + 5 := q_add rfl z5 (by omega) (by omega)
      exact lw_step C ⟨h0, by omega, hL⟩ ⟨by omega, by omega⟩ (lw_back C (lw_loop C hL n (i + (5 : Int32)) (cells + 40) (slots + 900) (by rw [e6]; omega) (by rw [e6]; omega) (by rw [e6]; omega) (by omega) (by omega))) st wx wm fo H locs ls ok hXw hMw hP hD hS hl
