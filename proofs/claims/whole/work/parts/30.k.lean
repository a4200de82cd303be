def wsXp : List Cond := .code yX8_part cX8_part 3 (some .int) :: ((wsX8_part_r1 ++ wsX8_part_r2) ++ wsX80 ++ wsX70 ++ xAt.filter goodWord)
def wsLp : List Cond := .codeWith yL_part cL_part 5 (some .int) [(0, 10, 13, 13)] :: ((wsL_part_r1 ++ wsL_part_r2) ++ wsX80 ++ wsX70 ++ xAt.filter goodWord)
def wsLw : List Cond := wsL_law0 ++ xAt.filter goodWord
set_option maxRecDepth 20000 in
theorem ggXp_X7_hasPart : GoodIn wsXp wsX7_hasPart := goodIn_r _ [11, 12, 41, 42, 43, 44, 45, 46] (by decide +kernel) (by decide +kernel)
set_option maxRecDepth 20000 in
theorem gXp_X7_hasPart : GoodIn wsXp (wsV RX8 119 RX7 yX7_hasPart wsX7_hasPart) := goodIn_app (goodIn_of _ (by decide +kernel)) ggXp_X7_hasPart
set_option maxRecDepth 20000 in
theorem ggXp_X7_hasPlace : GoodIn wsXp wsX7_hasPlace := goodIn_r _ [16, 17, 41, 42, 43, 44, 45, 46] (by decide +kernel) (by decide +kernel)
set_option maxRecDepth 20000 in
theorem gXp_X7_hasPlace : GoodIn wsXp (wsV RX8 186 RX7 yX7_hasPlace wsX7_hasPlace) := goodIn_app (goodIn_of _ (by decide +kernel)) ggXp_X7_hasPlace
set_option maxRecDepth 20000 in
theorem ggXp_X7_chipOf : GoodIn wsXp wsX7_chipOf := goodIn_r _ [21, 22, 17, 23, 24, 25, 41, 42, 43, 44, 45, 46] (by decide +kernel) (by decide +kernel)
set_option maxRecDepth 20000 in
theorem gXp_X7_chipOf : GoodIn wsXp (wsV RX8 190 RX7 yX7_chipOf wsX7_chipOf) := goodIn_app (goodIn_of _ (by decide +kernel)) ggXp_X7_chipOf
set_option maxRecDepth 20000 in
theorem ggXp_J6_bitCount_0f7a4 : GoodIn wsXp wsJ6_bitCount_0f7a4 := goodIn_r _ [29, 30, 31, 32] (by decide +kernel) (by decide +kernel)
set_option maxRecDepth 20000 in
theorem gXp_J6_bitCount_0f7a4 : GoodIn wsXp (va_wsS RX8 153 yJ6_bitCount_0f7a4 wsJ6_bitCount_0f7a4) := goodIn_app (goodIn_of _ (by decide +kernel)) ggXp_J6_bitCount_0f7a4
theorem inXp_7 : ∀ w ∈ wsX70, w ∈ wsXp := by decide +kernel
theorem inXp_8 : ∀ w ∈ wsX80, w ∈ wsXp := by decide +kernel
set_option maxHeartbeats 4000000 in
set_option maxRecDepth 100000 in
theorem wXp (l : Launch) (g : GP) (qX : Nat) (qP : Nat) (qI : Nat) (qt : Nat) (qd : Nat) (qe : Nat) (qsp : Nat) (qrk : Nat) (qty : Nat) (ql : Nat) (qr : Nat) (qv : Nat) (qg : Nat) (sz : Nat) (parts : Int32) (limit : Int32) (len : Nat → Int32) (row : Nat → Int32) (vot : Nat → Int32) (p1 : Int32) (p2 : Int32) {Q : Int32 → Prop} {QX : Prop} (z : Nat × Nat) (hst : l.stackTraces = false) (hv : vX8_part parts limit len row vot p1 p2 Q QX) : vx_Met l yX8_part wsXp rmX8_part (va_Pc [.ref qX, .int p1, .int p2] (fun U => U.heap.size = sz ∧ va_P g.1 vwCl [(qX, .inr (8, [.ref qP, .ref qI, .ref qt, .ref qd, .ref qe, .ref qsp, .ref qrk, .ref qty])), (qt, .inr (7, [.ref ql, .ref qr, .ref qv, .ref qg, .int parts, .int limit])), (ql, .inl (g.2 0, 5, .inl len)), (qr, .inl (g.2 0, 5, .inl row)), (qv, .inl (g.2 0, 5, .inl vot))] U.heap ∧ GK g U ∧ va_D (fun _ => True) [(qX, .inr (8, [.ref qP, .ref qI, .ref qt, .ref qd, .ref qe, .ref qsp, .ref qrk, .ref qty])), (qt, .inr (7, [.ref ql, .ref qr, .ref qv, .ref qg, .int parts, .int limit])), (ql, .inl (g.2 0, 5, .inl len)), (qr, .inl (g.2 0, 5, .inl row)), (qv, .inl (g.2 0, 5, .inl vot))] ∧ GX z (va_A [(qX, .inr (8, [.ref qP, .ref qI, .ref qt, .ref qd, .ref qe, .ref qsp, .ref qrk, .ref qty])), (qt, .inr (7, [.ref ql, .ref qr, .ref qv, .ref qg, .int parts, .int limit])), (ql, .inl (g.2 0, 5, .inl len)), (qr, .inl (g.2 0, 5, .inl row)), (qv, .inl (g.2 0, 5, .inl vot))] sz) U U.heap)) (va_Qi (fun (r : Int32) (u : Unit) => Q r) (fun (u : Unit) t => va_P g.1 vwCl [(qX, .inr (8, [.ref qP, .ref qI, .ref qt, .ref qd, .ref qe, .ref qsp, .ref qrk, .ref qty])), (qt, .inr (7, [.ref ql, .ref qr, .ref qv, .ref qg, .int parts, .int limit])), (ql, .inl (g.2 0, 5, .inl len)), (qr, .inl (g.2 0, 5, .inl row)), (qv, .inl (g.2 0, 5, .inl vot))] t.heap ∧ va_D (va_A [(qX, .inr (8, [.ref qP, .ref qI, .ref qt, .ref qd, .ref qe, .ref qsp, .ref qrk, .ref qty])), (qt, .inr (7, [.ref ql, .ref qr, .ref qv, .ref qg, .int parts, .int limit])), (ql, .inl (g.2 0, 5, .inl len)), (qr, .inl (g.2 0, 5, .inl row)), (qv, .inl (g.2 0, 5, .inl vot))] sz) [(qX, .inr (8, [.ref qP, .ref qI, .ref qt, .ref qd, .ref qe, .ref qsp, .ref qrk, .ref qty])), (qt, .inr (7, [.ref ql, .ref qr, .ref qv, .ref qg, .int parts, .int limit])), (ql, .inl (g.2 0, 5, .inl len)), (qr, .inl (g.2 0, 5, .inl row)), (qv, .inl (g.2 0, 5, .inl vot))]) (va_A [(qX, .inr (8, [.ref qP, .ref qI, .ref qt, .ref qd, .ref qe, .ref qsp, .ref qrk, .ref qty])), (qt, .inr (7, [.ref ql, .ref qr, .ref qv, .ref qg, .int parts, .int limit])), (ql, .inl (g.2 0, 5, .inl len)), (qr, .inl (g.2 0, 5, .inl row)), (qv, .inl (g.2 0, 5, .inl vot))] sz)) (vx_X (S := Unit) (fun _ => QX) (fun E _ t => E = "java/util/NoSuchElementException" ∧ va_P g.1 vwCl [(qX, .inr (8, [.ref qP, .ref qI, .ref qt, .ref qd, .ref qe, .ref qsp, .ref qrk, .ref qty])), (qt, .inr (7, [.ref ql, .ref qr, .ref qv, .ref qg, .int parts, .int limit])), (ql, .inl (g.2 0, 5, .inl len)), (qr, .inl (g.2 0, 5, .inl row)), (qv, .inl (g.2 0, 5, .inl vot))] t.heap ∧ va_D (va_A [(qX, .inr (8, [.ref qP, .ref qI, .ref qt, .ref qd, .ref qe, .ref qsp, .ref qrk, .ref qty])), (qt, .inr (7, [.ref ql, .ref qr, .ref qv, .ref qg, .int parts, .int limit])), (ql, .inl (g.2 0, 5, .inl len)), (qr, .inl (g.2 0, 5, .inl row)), (qv, .inl (g.2 0, 5, .inl vot))] sz) [(qX, .inr (8, [.ref qP, .ref qI, .ref qt, .ref qd, .ref qe, .ref qsp, .ref qrk, .ref qty])), (qt, .inr (7, [.ref ql, .ref qr, .ref qv, .ref qg, .int parts, .int limit])), (ql, .inl (g.2 0, 5, .inl len)), (qr, .inl (g.2 0, 5, .inl row)), (qv, .inl (g.2 0, 5, .inl vot))]) (va_A [(qX, .inr (8, [.ref qP, .ref qI, .ref qt, .ref qd, .ref qe, .ref qsp, .ref qrk, .ref qty])), (qt, .inr (7, [.ref ql, .ref qr, .ref qv, .ref qg, .int parts, .int limit])), (ql, .inl (g.2 0, 5, .inl len)), (qr, .inl (g.2 0, 5, .inl row)), (qv, .inl (g.2 0, 5, .inl vot))] sz)) 1 6 (va_A [(qX, .inr (8, [.ref qP, .ref qI, .ref qt, .ref qd, .ref qe, .ref qsp, .ref qrk, .ref qty])), (qt, .inr (7, [.ref ql, .ref qr, .ref qv, .ref qg, .int parts, .int limit])), (ql, .inl (g.2 0, 5, .inl len)), (qr, .inl (g.2 0, 5, .inl row)), (qv, .inl (g.2 0, 5, .inl vot))] sz) := by
  refine vx_ofW (cc := cX8_part) (maxL := 3) (ret := (some .int)) (by decide) rfl ?_
  intro p e s m args below meth c s₁ B hml htab hv'
  obtain ⟨rfl, hsz, hP, hG, hD0, hX⟩ := hv'
  have S : CallFix p m c cX8_part 3 s _ wsXp RX8 := ⟨B.exec, B.bytes, hml, findClass_of_methodNamed B.named, atoms_spec (ws := wsXp) B.pre⟩
  obtain ⟨hx, hb, hml, hown, hts⟩ := id S
  have hK := hG.1
  have hr := B.returns
  have hlocks := B.notSynchronized
  subst hsz
  have hD := hD0.self (sz := s.heap.size)
  generalize hAe : va_A [(qX, .inr (8, [.ref qP, .ref qI, .ref qt, .ref qd, .ref qe, .ref qsp, .ref qrk, .ref qty])), (qt, .inr (7, [.ref ql, .ref qr, .ref qv, .ref qg, .int parts, .int limit])), (ql, .inl (g.2 0, 5, .inl len)), (qr, .inl (g.2 0, 5, .inl row)), (qv, .inl (g.2 0, 5, .inl vot))] s.heap.size = A at hD hX ⊢
  have hA : ∀ q : Nat, s.heap.size ≤ q → A q := fun q h => by rw [← hAe]; exact Or.inr h
  have hS : va_S A s.heap s.heap [] := va_S.rf
  clear hD0 hAe
  have hl := lv_entry ([.ref qX, .int p1, .int p2]) (n := 3) (Nat.le_of_ble_eq_true rfl)
  rw [lg_entry_eq]
  generalize (lg_sl ([.ref qX, .int p1, .int p2]) ++ List.replicate (3 - (lg_sl ([.ref qX, .int p1, .int p2])).length) Slot.unset).toArray = ls at hl ⊢
  have hl : lv_has ls 3 [(0, .ref qX), (1, .int p1), (2, .int p2)] := hl
  unfold vX8_part at hv
  refine lv_aload_n hx hb dX8_part_0 rfl (lv_at hl 0 rfl) ?_
  refine va_get (D := g.1) (ci := 8) (v := .ref qt) (C := RX8) (T := TX8) (N := 8) hx hb hts inXp_8 hown hK hP 0 rfl rfl 2 (by decide) (hts (.fieldLink RX8 24 "RangeCodes" "told" "LRangeCodes$Told;") (List.mem_of_getElem? (i := 3) rfl)) (fun _ h9 => h9) rfl dX8_part_1 ?_
  refine lv_iload_n hx hb dX8_part_4 rfl (lv_at hl 1 rfl) ?_
  obtain ⟨ho_1, hv⟩ := hv
  refine vp_callSi (W.runV (As := [.int p1]) (rest := []) S (wX7_hasPart l g qt ql qr qv qg parts limit p1 (sX7_hasPart parts limit p1 ho_1)) (cwV 1 hts gXp_X7_hasPart rfl rfl rfl (by decide +kernel) ⟨Nat.le_of_ble_eq_true rfl, Nat.le_of_ble_eq_true rfl⟩) ⟨blindRO, va_recv hK hP (ci := 7) (q0 := 1) rfl rfl, fun U hU hW => ⟨rfl, by rw [hU]; exact hP.sub (ws' := [(qt, .inr (7, [.ref ql, .ref qr, .ref qv, .ref qg, .int parts, .int limit]))]) [1] rfl, hG.warm hW⟩⟩ rfl rfl hl.1 rfl (lv_room (Nat.le_of_ble_eq_true rfl)) dX8_part_5 ⟨Nat.le_of_ble_eq_true rfl, Nat.le_of_ble_eq_true rfl⟩) (fun r_5 hr_5 => ?_)
  have hv := hv r_5 hr_5
  obtain ⟨hvt, hvf⟩ := hv
  refine lv_if_ne (tgt := 21) hx hb dX8_part_8 (by decide) (fun hc => ?_) (fun hc => ?_)
  · have hv := hvt hc
    refine lv_iload_n hx hb dX8_part_21 rfl (lv_at hl 2 rfl) ?_
    refine lv_bipush (v := (10 : Int32)) hx hb dX8_part_22 (by decide) ?_
    obtain ⟨hvt, hvf⟩ := hv
    refine lv_icmp_lt (tgt := 55) hx hb dX8_part_24 (by decide) (fun hc => ?_) (fun hc => ?_)
    · have hv := hvt hc
      refine lv_iload_n hx hb dX8_part_55 rfl (lv_at hl 2 rfl) ?_
      obtain ⟨hvc, hv⟩ := hv
      by_cases hs0 : p2 = (0 : Int32)
      · have hv := hvc hs0
        refine lv_tableIn (tgt := 84) hx hb dX8_part_56 (by rw [hs0]; decide) (by rw [hs0]; decide) (by rw [hs0]; rfl) (by decide) ?_
        refine lv_aload_n hx hb dX8_part_84 rfl (lv_at hl 0 rfl) ?_
        refine va_get (D := g.1) (ci := 8) (v := .ref qt) (C := RX8) (T := TX8) (N := 8) hx hb hts inXp_8 hown hK hP 0 rfl rfl 2 (by decide) (hts (.fieldLink RX8 24 "RangeCodes" "told" "LRangeCodes$Told;") (List.mem_of_getElem? (i := 3) rfl)) (fun _ h9 => h9) rfl dX8_part_85 ?_
        refine va_get (D := g.1) (ci := 7) (v := .ref ql) (C := RX7) (T := TX7) (N := 6) hx hb hts inXp_7 hown hK hP 1 rfl rfl 0 (by decide) (hts (.fieldLink RX8 135 "RangeCodes$Told" "lengths" "[I") (List.mem_of_getElem? (i := 4) rfl)) (fun _ h9 => h9) rfl dX8_part_88 ?_
        refine lv_iload_n hx hb dX8_part_91 rfl (lv_at hl 1 rfl) ?_
        obtain ⟨ho_2, hv⟩ := hv
        refine va_iald hx hb hK hP 2 0 rfl rfl ho_2 dX8_part_92 ?_
        have hP9 := hP.sub (ws' := [(qX, .inr (8, [.ref qP, .ref qI, .ref qt, .ref qd, .ref qe, .ref qsp, .ref qrk, .ref qty])), (qt, .inr (7, [.ref ql, .ref qr, .ref qv, .ref qg, .int parts, .int limit])), (ql, .inl (g.2 0, 5, .inl len)), (qr, .inl (g.2 0, 5, .inl row)), (qv, .inl (g.2 0, 5, .inl vot))]) [0, 1, 2, 3, 4] rfl
        have hD9 := hD.sub (ws' := [(qX, .inr (8, [.ref qP, .ref qI, .ref qt, .ref qd, .ref qe, .ref qsp, .ref qrk, .ref qty])), (qt, .inr (7, [.ref ql, .ref qr, .ref qv, .ref qg, .int parts, .int limit])), (ql, .inl (g.2 0, 5, .inl len)), (qr, .inl (g.2 0, 5, .inl row)), (qv, .inl (g.2 0, 5, .inl vot))]) [0, 1, 2, 3, 4] (by decide) rfl
        refine W.widen (k := 1) (n := 6) (by decide) (by decide) ?_
        exact vx_ret (W.iret (v := (len p1.toNatClampNeg)) hx hb hr (fun t ht hW => ⟨⟨_, (), rfl, hv, by rw [ht]; exact hP9, hD9⟩, hS.F ht⟩) hS.2.2 dX8_part_93)
      obtain ⟨hvc, hv⟩ := hv
      by_cases hs1 : p2 = (1 : Int32)
      · have hv := hvc hs1
        refine lv_tableIn (tgt := 94) hx hb dX8_part_56 (by rw [hs1]; decide) (by rw [hs1]; decide) (by rw [hs1]; rfl) (by decide) ?_
        refine lv_aload_n hx hb dX8_part_94 rfl (lv_at hl 0 rfl) ?_
        refine va_get (D := g.1) (ci := 8) (v := .ref qt) (C := RX8) (T := TX8) (N := 8) hx hb hts inXp_8 hown hK hP 0 rfl rfl 2 (by decide) (hts (.fieldLink RX8 24 "RangeCodes" "told" "LRangeCodes$Told;") (List.mem_of_getElem? (i := 3) rfl)) (fun _ h9 => h9) rfl dX8_part_95 ?_
        refine va_get (D := g.1) (ci := 7) (v := .ref qv) (C := RX7) (T := TX7) (N := 6) hx hb hts inXp_7 hown hK hP 1 rfl rfl 2 (by decide) (hts (.fieldLink RX8 122 "RangeCodes$Told" "votes" "[I") (List.mem_of_getElem? (i := 5) rfl)) (fun _ h9 => h9) rfl dX8_part_98 ?_
        refine lv_iload_n hx hb dX8_part_101 rfl (lv_at hl 1 rfl) ?_
        obtain ⟨ho_3, hv⟩ := hv
        refine va_iald hx hb hK hP 4 0 rfl rfl ho_3 dX8_part_102 ?_
        have hP9 := hP.sub (ws' := [(qX, .inr (8, [.ref qP, .ref qI, .ref qt, .ref qd, .ref qe, .ref qsp, .ref qrk, .ref qty])), (qt, .inr (7, [.ref ql, .ref qr, .ref qv, .ref qg, .int parts, .int limit])), (ql, .inl (g.2 0, 5, .inl len)), (qr, .inl (g.2 0, 5, .inl row)), (qv, .inl (g.2 0, 5, .inl vot))]) [0, 1, 2, 3, 4] rfl
        have hD9 := hD.sub (ws' := [(qX, .inr (8, [.ref qP, .ref qI, .ref qt, .ref qd, .ref qe, .ref qsp, .ref qrk, .ref qty])), (qt, .inr (7, [.ref ql, .ref qr, .ref qv, .ref qg, .int parts, .int limit])), (ql, .inl (g.2 0, 5, .inl len)), (qr, .inl (g.2 0, 5, .inl row)), (qv, .inl (g.2 0, 5, .inl vot))]) [0, 1, 2, 3, 4] (by decide) rfl
        refine W.widen (k := 1) (n := 6) (by decide) (by decide) ?_
        exact vx_ret (W.iret (v := (vot p1.toNatClampNeg)) hx hb hr (fun t ht hW => ⟨⟨_, (), rfl, hv, by rw [ht]; exact hP9, hD9⟩, hS.F ht⟩) hS.2.2 dX8_part_103)
      obtain ⟨hvc, hv⟩ := hv
      by_cases hs2 : p2 = (2 : Int32)
      · have hv := hvc hs2
        refine lv_tableIn (tgt := 104) hx hb dX8_part_56 (by rw [hs2]; decide) (by rw [hs2]; decide) (by rw [hs2]; rfl) (by decide) ?_
        refine lv_aload_n hx hb dX8_part_104 rfl (lv_at hl 0 rfl) ?_
        refine va_get (D := g.1) (ci := 8) (v := .ref qt) (C := RX8) (T := TX8) (N := 8) hx hb hts inXp_8 hown hK hP 0 rfl rfl 2 (by decide) (hts (.fieldLink RX8 24 "RangeCodes" "told" "LRangeCodes$Told;") (List.mem_of_getElem? (i := 3) rfl)) (fun _ h9 => h9) rfl dX8_part_105 ?_
        refine va_get (D := g.1) (ci := 7) (v := .ref qr) (C := RX7) (T := TX7) (N := 6) hx hb hts inXp_7 hown hK hP 1 rfl rfl 1 (by decide) (hts (.fieldLink RX8 138 "RangeCodes$Told" "rows" "[I") (List.mem_of_getElem? (i := 6) rfl)) (fun _ h9 => h9) rfl dX8_part_108 ?_
        refine lv_iload_n hx hb dX8_part_111 rfl (lv_at hl 1 rfl) ?_
        obtain ⟨ho_4, hv⟩ := hv
        refine va_iald hx hb hK hP 3 0 rfl rfl ho_4 dX8_part_112 ?_
        obtain ⟨s_113, ho_5, hv⟩ := hv
        refine vp_callSi (W.runS (As := [.int (row p1.toNatClampNeg)]) (rest := []) S (wJ6_bitCount_0f7a4 l g (row p1.toNatClampNeg) (sJ6_bitCount_0f7a4 s_113 (row p1.toNatClampNeg) ho_5)) (va_cwS 1 hts gXp_J6_bitCount_0f7a4 rfl rfl rfl (by decide +kernel) ⟨Nat.le_of_ble_eq_true rfl, Nat.le_of_ble_eq_true rfl⟩) ⟨blindRO, fun U hU hW => ⟨rfl, by rw [hU]; exact hP.sub (ws' := []) [] rfl, hG.warm hW⟩⟩ rfl rfl hl.1 rfl (lv_room (Nat.le_of_ble_eq_true rfl)) dX8_part_113 ⟨Nat.le_of_ble_eq_true rfl, Nat.le_of_ble_eq_true rfl⟩) (fun r_113 hr_113 => ?_)
        have hv := hv r_113 hr_113
        have hP9 := hP.sub (ws' := [(qX, .inr (8, [.ref qP, .ref qI, .ref qt, .ref qd, .ref qe, .ref qsp, .ref qrk, .ref qty])), (qt, .inr (7, [.ref ql, .ref qr, .ref qv, .ref qg, .int parts, .int limit])), (ql, .inl (g.2 0, 5, .inl len)), (qr, .inl (g.2 0, 5, .inl row)), (qv, .inl (g.2 0, 5, .inl vot))]) [0, 1, 2, 3, 4] rfl
        have hD9 := hD.sub (ws' := [(qX, .inr (8, [.ref qP, .ref qI, .ref qt, .ref qd, .ref qe, .ref qsp, .ref qrk, .ref qty])), (qt, .inr (7, [.ref ql, .ref qr, .ref qv, .ref qg, .int parts, .int limit])), (ql, .inl (g.2 0, 5, .inl len)), (qr, .inl (g.2 0, 5, .inl row)), (qv, .inl (g.2 0, 5, .inl vot))]) [0, 1, 2, 3, 4] (by decide) rfl
        refine W.widen (k := 1) (n := 6) (by decide) (by decide) ?_
        exact vx_ret (W.iret (v := r_113) hx hb hr (fun t ht hW => ⟨⟨_, (), rfl, hv, by rw [ht]; exact hP9, hD9⟩, hS.F ht⟩) hS.2.2 dX8_part_116)
      have hv := hv hs0 hs1 hs2
      have hsT : p2.toInt < 0 ∨ 2 < p2.toInt := by
        have ht0 := lv_neT (a := 0) hs0 (by decide)
        have ht1 := lv_neT (a := 1) hs1 (by decide)
        have ht2 := lv_neT (a := 2) hs2 (by decide)
        omega
      refine lv_tableOut (tgt := 117) hx hb dX8_part_56 hsT (by decide) ?_
      have hat : ∀ w ∈ xAt, w.before _ s = true := vx_hat (L := xAt) (B := xwL) (fun w hw => hts w ((by decide +kernel : ∀ w ∈ xAt.filter goodWord, w ∈ wsXp) w hw)) (by decide +kernel) (GX.words hX)
      exact throw13 hx hb hst (text := "no such chip, or another what") (is := 193) (sa := z.2) (A := A) hown (hts (.classLink RX8 179 "java/util/NoSuchElementException") (List.mem_of_getElem? (i := 1) rfl)) (hts (.initialized "java/util/NoSuchElementException") (List.mem_of_getElem? (i := 2) rfl)) hX.2.2.2.1 hat (by decide +kernel) hX.1 hX.2.1 hS (hl.1.trans hml.symm) dX8_part_117 dX8_part_120 dX8_part_121 dX8_part_123 dX8_part_126 (fun x9 h9 => (htab x9 h9).elim) (by decide) (by decide) (by decide) (by decide) hlocks (fun t _ h1 h2 => ⟨(), hv, ⟨rfl, hP.kept (fun k q hk => h2 _ (vx_lt hP hk)), hD⟩, ⟨Nat.le_trans hS.1 h1, fun q a b => (h2 q (Nat.lt_of_lt_of_le a hS.1)).trans (hS.2.1 q a b)⟩⟩) hS.2.2 (by decide) (by decide)
    · have hv := hvf hc
      refine lv_aload_n hx hb dX8_part_27 rfl (lv_at hl 0 rfl) ?_
      refine va_get (D := g.1) (ci := 8) (v := .ref qt) (C := RX8) (T := TX8) (N := 8) hx hb hts inXp_8 hown hK hP 0 rfl rfl 2 (by decide) (hts (.fieldLink RX8 24 "RangeCodes" "told" "LRangeCodes$Told;") (List.mem_of_getElem? (i := 3) rfl)) (fun _ h9 => h9) rfl dX8_part_28 ?_
      refine lv_iload_n hx hb dX8_part_31 rfl (lv_at hl 1 rfl) ?_
      refine lv_iload_n hx hb dX8_part_32 rfl (lv_at hl 2 rfl) ?_
      refine lv_bipush (v := (10 : Int32)) hx hb dX8_part_33 (by decide) ?_
      refine lv_isub hx hb dX8_part_35 ?_
      obtain ⟨T_36, pp_36, ho_6, hv⟩ := hv
      refine vp_callSi (W.runV (As := [.int p1, .int (p2 - (10 : Int32))]) (rest := []) S (wX7_hasPlace l g qt ql qr qv qg parts limit len p1 (p2 - (10 : Int32)) (sX7_hasPlace T_36 pp_36 parts limit len p1 (p2 - (10 : Int32)) ho_6)) (cwV 2 hts gXp_X7_hasPlace rfl rfl rfl (by decide +kernel) ⟨Nat.le_of_ble_eq_true rfl, Nat.le_of_ble_eq_true rfl⟩) ⟨blindRO, va_recv hK hP (ci := 7) (q0 := 1) rfl rfl, fun U hU hW => ⟨rfl, by rw [hU]; exact hP.sub (ws' := [(qt, .inr (7, [.ref ql, .ref qr, .ref qv, .ref qg, .int parts, .int limit])), (ql, .inl (g.2 0, 5, .inl len))]) [1, 2] rfl, hG.warm hW⟩⟩ rfl rfl hl.1 rfl (lv_room (Nat.le_of_ble_eq_true rfl)) dX8_part_36 ⟨Nat.le_of_ble_eq_true rfl, Nat.le_of_ble_eq_true rfl⟩) (fun r_36 hr_36 => ?_)
      have hv := hv r_36 hr_36
      obtain ⟨hvt, hvf⟩ := hv
      refine lv_if_eq (tgt := 55) hx hb dX8_part_39 (by decide) (fun hc => ?_) (fun hc => ?_)
      · have hv := hvt hc
        refine lv_iload_n hx hb dX8_part_55 rfl (lv_at hl 2 rfl) ?_
        obtain ⟨hvc, hv⟩ := hv
        by_cases hs0 : p2 = (0 : Int32)
        · have hv := hvc hs0
          refine lv_tableIn (tgt := 84) hx hb dX8_part_56 (by rw [hs0]; decide) (by rw [hs0]; decide) (by rw [hs0]; rfl) (by decide) ?_
          refine lv_aload_n hx hb dX8_part_84 rfl (lv_at hl 0 rfl) ?_
          refine va_get (D := g.1) (ci := 8) (v := .ref qt) (C := RX8) (T := TX8) (N := 8) hx hb hts inXp_8 hown hK hP 0 rfl rfl 2 (by decide) (hts (.fieldLink RX8 24 "RangeCodes" "told" "LRangeCodes$Told;") (List.mem_of_getElem? (i := 3) rfl)) (fun _ h9 => h9) rfl dX8_part_85 ?_
          refine va_get (D := g.1) (ci := 7) (v := .ref ql) (C := RX7) (T := TX7) (N := 6) hx hb hts inXp_7 hown hK hP 1 rfl rfl 0 (by decide) (hts (.fieldLink RX8 135 "RangeCodes$Told" "lengths" "[I") (List.mem_of_getElem? (i := 4) rfl)) (fun _ h9 => h9) rfl dX8_part_88 ?_
          refine lv_iload_n hx hb dX8_part_91 rfl (lv_at hl 1 rfl) ?_
          obtain ⟨ho_7, hv⟩ := hv
          refine va_iald hx hb hK hP 2 0 rfl rfl ho_7 dX8_part_92 ?_
          have hP9 := hP.sub (ws' := [(qX, .inr (8, [.ref qP, .ref qI, .ref qt, .ref qd, .ref qe, .ref qsp, .ref qrk, .ref qty])), (qt, .inr (7, [.ref ql, .ref qr, .ref qv, .ref qg, .int parts, .int limit])), (ql, .inl (g.2 0, 5, .inl len)), (qr, .inl (g.2 0, 5, .inl row)), (qv, .inl (g.2 0, 5, .inl vot))]) [0, 1, 2, 3, 4] rfl
          have hD9 := hD.sub (ws' := [(qX, .inr (8, [.ref qP, .ref qI, .ref qt, .ref qd, .ref qe, .ref qsp, .ref qrk, .ref qty])), (qt, .inr (7, [.ref ql, .ref qr, .ref qv, .ref qg, .int parts, .int limit])), (ql, .inl (g.2 0, 5, .inl len)), (qr, .inl (g.2 0, 5, .inl row)), (qv, .inl (g.2 0, 5, .inl vot))]) [0, 1, 2, 3, 4] (by decide) rfl
          refine W.widen (k := 1) (n := 6) (by decide) (by decide) ?_
          exact vx_ret (W.iret (v := (len p1.toNatClampNeg)) hx hb hr (fun t ht hW => ⟨⟨_, (), rfl, hv, by rw [ht]; exact hP9, hD9⟩, hS.F ht⟩) hS.2.2 dX8_part_93)
        obtain ⟨hvc, hv⟩ := hv
        by_cases hs1 : p2 = (1 : Int32)
        · have hv := hvc hs1
          refine lv_tableIn (tgt := 94) hx hb dX8_part_56 (by rw [hs1]; decide) (by rw [hs1]; decide) (by rw [hs1]; rfl) (by decide) ?_
          refine lv_aload_n hx hb dX8_part_94 rfl (lv_at hl 0 rfl) ?_
          refine va_get (D := g.1) (ci := 8) (v := .ref qt) (C := RX8) (T := TX8) (N := 8) hx hb hts inXp_8 hown hK hP 0 rfl rfl 2 (by decide) (hts (.fieldLink RX8 24 "RangeCodes" "told" "LRangeCodes$Told;") (List.mem_of_getElem? (i := 3) rfl)) (fun _ h9 => h9) rfl dX8_part_95 ?_
          refine va_get (D := g.1) (ci := 7) (v := .ref qv) (C := RX7) (T := TX7) (N := 6) hx hb hts inXp_7 hown hK hP 1 rfl rfl 2 (by decide) (hts (.fieldLink RX8 122 "RangeCodes$Told" "votes" "[I") (List.mem_of_getElem? (i := 5) rfl)) (fun _ h9 => h9) rfl dX8_part_98 ?_
          refine lv_iload_n hx hb dX8_part_101 rfl (lv_at hl 1 rfl) ?_
          obtain ⟨ho_8, hv⟩ := hv
          refine va_iald hx hb hK hP 4 0 rfl rfl ho_8 dX8_part_102 ?_
          have hP9 := hP.sub (ws' := [(qX, .inr (8, [.ref qP, .ref qI, .ref qt, .ref qd, .ref qe, .ref qsp, .ref qrk, .ref qty])), (qt, .inr (7, [.ref ql, .ref qr, .ref qv, .ref qg, .int parts, .int limit])), (ql, .inl (g.2 0, 5, .inl len)), (qr, .inl (g.2 0, 5, .inl row)), (qv, .inl (g.2 0, 5, .inl vot))]) [0, 1, 2, 3, 4] rfl
          have hD9 := hD.sub (ws' := [(qX, .inr (8, [.ref qP, .ref qI, .ref qt, .ref qd, .ref qe, .ref qsp, .ref qrk, .ref qty])), (qt, .inr (7, [.ref ql, .ref qr, .ref qv, .ref qg, .int parts, .int limit])), (ql, .inl (g.2 0, 5, .inl len)), (qr, .inl (g.2 0, 5, .inl row)), (qv, .inl (g.2 0, 5, .inl vot))]) [0, 1, 2, 3, 4] (by decide) rfl
          refine W.widen (k := 1) (n := 6) (by decide) (by decide) ?_
          exact vx_ret (W.iret (v := (vot p1.toNatClampNeg)) hx hb hr (fun t ht hW => ⟨⟨_, (), rfl, hv, by rw [ht]; exact hP9, hD9⟩, hS.F ht⟩) hS.2.2 dX8_part_103)
        obtain ⟨hvc, hv⟩ := hv
        by_cases hs2 : p2 = (2 : Int32)
        · have hv := hvc hs2
          refine lv_tableIn (tgt := 104) hx hb dX8_part_56 (by rw [hs2]; decide) (by rw [hs2]; decide) (by rw [hs2]; rfl) (by decide) ?_
          refine lv_aload_n hx hb dX8_part_104 rfl (lv_at hl 0 rfl) ?_
          refine va_get (D := g.1) (ci := 8) (v := .ref qt) (C := RX8) (T := TX8) (N := 8) hx hb hts inXp_8 hown hK hP 0 rfl rfl 2 (by decide) (hts (.fieldLink RX8 24 "RangeCodes" "told" "LRangeCodes$Told;") (List.mem_of_getElem? (i := 3) rfl)) (fun _ h9 => h9) rfl dX8_part_105 ?_
          refine va_get (D := g.1) (ci := 7) (v := .ref qr) (C := RX7) (T := TX7) (N := 6) hx hb hts inXp_7 hown hK hP 1 rfl rfl 1 (by decide) (hts (.fieldLink RX8 138 "RangeCodes$Told" "rows" "[I") (List.mem_of_getElem? (i := 6) rfl)) (fun _ h9 => h9) rfl dX8_part_108 ?_
          refine lv_iload_n hx hb dX8_part_111 rfl (lv_at hl 1 rfl) ?_
          obtain ⟨ho_9, hv⟩ := hv
          refine va_iald hx hb hK hP 3 0 rfl rfl ho_9 dX8_part_112 ?_
          obtain ⟨s_113, ho_10, hv⟩ := hv
          refine vp_callSi (W.runS (As := [.int (row p1.toNatClampNeg)]) (rest := []) S (wJ6_bitCount_0f7a4 l g (row p1.toNatClampNeg) (sJ6_bitCount_0f7a4 s_113 (row p1.toNatClampNeg) ho_10)) (va_cwS 1 hts gXp_J6_bitCount_0f7a4 rfl rfl rfl (by decide +kernel) ⟨Nat.le_of_ble_eq_true rfl, Nat.le_of_ble_eq_true rfl⟩) ⟨blindRO, fun U hU hW => ⟨rfl, by rw [hU]; exact hP.sub (ws' := []) [] rfl, hG.warm hW⟩⟩ rfl rfl hl.1 rfl (lv_room (Nat.le_of_ble_eq_true rfl)) dX8_part_113 ⟨Nat.le_of_ble_eq_true rfl, Nat.le_of_ble_eq_true rfl⟩) (fun r_113 hr_113 => ?_)
          have hv := hv r_113 hr_113
          have hP9 := hP.sub (ws' := [(qX, .inr (8, [.ref qP, .ref qI, .ref qt, .ref qd, .ref qe, .ref qsp, .ref qrk, .ref qty])), (qt, .inr (7, [.ref ql, .ref qr, .ref qv, .ref qg, .int parts, .int limit])), (ql, .inl (g.2 0, 5, .inl len)), (qr, .inl (g.2 0, 5, .inl row)), (qv, .inl (g.2 0, 5, .inl vot))]) [0, 1, 2, 3, 4] rfl
          have hD9 := hD.sub (ws' := [(qX, .inr (8, [.ref qP, .ref qI, .ref qt, .ref qd, .ref qe, .ref qsp, .ref qrk, .ref qty])), (qt, .inr (7, [.ref ql, .ref qr, .ref qv, .ref qg, .int parts, .int limit])), (ql, .inl (g.2 0, 5, .inl len)), (qr, .inl (g.2 0, 5, .inl row)), (qv, .inl (g.2 0, 5, .inl vot))]) [0, 1, 2, 3, 4] (by decide) rfl
          refine W.widen (k := 1) (n := 6) (by decide) (by decide) ?_
          exact vx_ret (W.iret (v := r_113) hx hb hr (fun t ht hW => ⟨⟨_, (), rfl, hv, by rw [ht]; exact hP9, hD9⟩, hS.F ht⟩) hS.2.2 dX8_part_116)
        have hv := hv hs0 hs1 hs2
        have hsT : p2.toInt < 0 ∨ 2 < p2.toInt := by
          have ht0 := lv_neT (a := 0) hs0 (by decide)
          have ht1 := lv_neT (a := 1) hs1 (by decide)
          have ht2 := lv_neT (a := 2) hs2 (by decide)
          omega
        refine lv_tableOut (tgt := 117) hx hb dX8_part_56 hsT (by decide) ?_
        have hat : ∀ w ∈ xAt, w.before _ s = true := vx_hat (L := xAt) (B := xwL) (fun w hw => hts w ((by decide +kernel : ∀ w ∈ xAt.filter goodWord, w ∈ wsXp) w hw)) (by decide +kernel) (GX.words hX)
        exact throw13 hx hb hst (text := "no such chip, or another what") (is := 193) (sa := z.2) (A := A) hown (hts (.classLink RX8 179 "java/util/NoSuchElementException") (List.mem_of_getElem? (i := 1) rfl)) (hts (.initialized "java/util/NoSuchElementException") (List.mem_of_getElem? (i := 2) rfl)) hX.2.2.2.1 hat (by decide +kernel) hX.1 hX.2.1 hS (hl.1.trans hml.symm) dX8_part_117 dX8_part_120 dX8_part_121 dX8_part_123 dX8_part_126 (fun x9 h9 => (htab x9 h9).elim) (by decide) (by decide) (by decide) (by decide) hlocks (fun t _ h1 h2 => ⟨(), hv, ⟨rfl, hP.kept (fun k q hk => h2 _ (vx_lt hP hk)), hD⟩, ⟨Nat.le_trans hS.1 h1, fun q a b => (h2 q (Nat.lt_of_lt_of_le a hS.1)).trans (hS.2.1 q a b)⟩⟩) hS.2.2 (by decide) (by decide)
      · have hv := hvf hc
        refine lv_aload_n hx hb dX8_part_42 rfl (lv_at hl 0 rfl) ?_
        refine va_get (D := g.1) (ci := 8) (v := .ref qt) (C := RX8) (T := TX8) (N := 8) hx hb hts inXp_8 hown hK hP 0 rfl rfl 2 (by decide) (hts (.fieldLink RX8 24 "RangeCodes" "told" "LRangeCodes$Told;") (List.mem_of_getElem? (i := 3) rfl)) (fun _ h9 => h9) rfl dX8_part_43 ?_
        refine lv_iload_n hx hb dX8_part_46 rfl (lv_at hl 1 rfl) ?_
        refine lv_iload_n hx hb dX8_part_47 rfl (lv_at hl 2 rfl) ?_
        refine lv_bipush (v := (10 : Int32)) hx hb dX8_part_48 (by decide) ?_
        refine lv_isub hx hb dX8_part_50 ?_
        obtain ⟨T_51, pp_51, ho_11, hv⟩ := hv
        refine vp_callSi (W.runV (As := [.int p1, .int (p2 - (10 : Int32))]) (rest := []) S (wX7_chipOf l g qt ql qr qv qg parts limit len row p1 (p2 - (10 : Int32)) (sX7_chipOf T_51 pp_51 parts limit len row p1 (p2 - (10 : Int32)) ho_11)) (cwV 2 hts gXp_X7_chipOf rfl rfl rfl (by decide +kernel) ⟨Nat.le_of_ble_eq_true rfl, Nat.le_of_ble_eq_true rfl⟩) ⟨blindRO, va_recv hK hP (ci := 7) (q0 := 1) rfl rfl, fun U hU hW => ⟨rfl, by rw [hU]; exact hP.sub (ws' := [(qt, .inr (7, [.ref ql, .ref qr, .ref qv, .ref qg, .int parts, .int limit])), (ql, .inl (g.2 0, 5, .inl len)), (qr, .inl (g.2 0, 5, .inl row))]) [1, 2, 3] rfl, hG.warm hW⟩⟩ rfl rfl hl.1 rfl (lv_room (Nat.le_of_ble_eq_true rfl)) dX8_part_51 ⟨Nat.le_of_ble_eq_true rfl, Nat.le_of_ble_eq_true rfl⟩) (fun r_51 hr_51 => ?_)
        have hv := hv r_51 hr_51
        have hP9 := hP.sub (ws' := [(qX, .inr (8, [.ref qP, .ref qI, .ref qt, .ref qd, .ref qe, .ref qsp, .ref qrk, .ref qty])), (qt, .inr (7, [.ref ql, .ref qr, .ref qv, .ref qg, .int parts, .int limit])), (ql, .inl (g.2 0, 5, .inl len)), (qr, .inl (g.2 0, 5, .inl row)), (qv, .inl (g.2 0, 5, .inl vot))]) [0, 1, 2, 3, 4] rfl
        have hD9 := hD.sub (ws' := [(qX, .inr (8, [.ref qP, .ref qI, .ref qt, .ref qd, .ref qe, .ref qsp, .ref qrk, .ref qty])), (qt, .inr (7, [.ref ql, .ref qr, .ref qv, .ref qg, .int parts, .int limit])), (ql, .inl (g.2 0, 5, .inl len)), (qr, .inl (g.2 0, 5, .inl row)), (qv, .inl (g.2 0, 5, .inl vot))]) [0, 1, 2, 3, 4] (by decide) rfl
        refine W.widen (k := 1) (n := 6) (by decide) (by decide) ?_
        exact vx_ret (W.iret (v := r_51) hx hb hr (fun t ht hW => ⟨⟨_, (), rfl, hv, by rw [ht]; exact hP9, hD9⟩, hS.F ht⟩) hS.2.2 dX8_part_54)
  · have hv := hvf hc
    have hat : ∀ w ∈ xAt, w.before _ s = true := vx_hat (L := xAt) (B := xwL) (fun w hw => hts w ((by decide +kernel : ∀ w ∈ xAt.filter goodWord, w ∈ wsXp) w hw)) (by decide +kernel) (GX.words hX)
    exact throw13 hx hb hst (text := "no such part") (is := 181) (sa := z.1) (A := A) hown (hts (.classLink RX8 179 "java/util/NoSuchElementException") (List.mem_of_getElem? (i := 1) rfl)) (hts (.initialized "java/util/NoSuchElementException") (List.mem_of_getElem? (i := 2) rfl)) hX.2.2.1 hat (by decide +kernel) hX.1 hX.2.1 hS (hl.1.trans hml.symm) dX8_part_11 dX8_part_14 dX8_part_15 dX8_part_17 dX8_part_20 (fun x9 h9 => (htab x9 h9).elim) (by decide) (by decide) (by decide) (by decide) hlocks (fun t _ h1 h2 => ⟨(), hv, ⟨rfl, hP.kept (fun k q hk => h2 _ (vx_lt hP hk)), hD⟩, ⟨Nat.le_trans hS.1 h1, fun q a b => (h2 q (Nat.lt_of_lt_of_le a hS.1)).trans (hS.2.1 q a b)⟩⟩) hS.2.2 (by decide) (by decide)
set_option maxRecDepth 20000 in
theorem ggLp_X8_part : GoodIn wsLp wsXp := goodIn_ca (goodIn_r _ [6, 7, 8, 9, 10, 11, 12, 13, 14, 15, 16, 17, 18, 19, 20, 21, 22, 23, 24, 25, 26, 27, 28, 29, 5, 30, 31, 32, 33, 34, 35, 36, 37, 38, 39, 40, 41, 42, 43, 44, 45, 46, 47, 48, 49, 50, 51] (by decide +kernel) (by decide +kernel)) (goodIn_sub (fun _ h => List.mem_cons_of_mem _ (List.mem_append_right _ h)) (by decide +kernel))
set_option maxRecDepth 20000 in
theorem gLp_X8_part : GoodIn wsLp (wsV RL 7 RX8 yX8_part wsXp) := goodIn_app (goodIn_of _ (by decide +kernel)) ggLp_X8_part
set_option maxHeartbeats 4000000 in
set_option maxRecDepth 100000 in
theorem wLp (l : Launch) (g : GP) (z : Nat × Nat) (hst : l.stackTraces = false) (qX : Nat) (qP : Nat) (qI : Nat) (qt : Nat) (qd : Nat) (qe : Nat) (qsp : Nat) (qrk : Nat) (qty : Nat) (ql : Nat) (qr : Nat) (qv : Nat) (qg : Nat) (qo sz : Nat) (parts : Int32) (limit : Int32) (len : Nat → Int32) (row : Nat → Int32) (vot : Nat → Int32) (fo : Nat → Int64) (p1 p2 : Int32) {Q : Int32 → Prop} {QX : Prop} (hv : vX8_part parts limit len row vot p1 p2 Q QX) : Met l yL_part wsLp rmL_part (va_Pc [.ref qX, .int p1, .int p2, .ref qo] (fun U => U.heap.size = sz ∧ va_P g.1 vwCl [(qX, .inr (8, [.ref qP, .ref qI, .ref qt, .ref qd, .ref qe, .ref qsp, .ref qrk, .ref qty])), (qt, .inr (7, [.ref ql, .ref qr, .ref qv, .ref qg, .int parts, .int limit])), (ql, .inl (g.2 0, 5, .inl len)), (qr, .inl (g.2 0, 5, .inl row)), (qv, .inl (g.2 0, 5, .inl vot)), (qo, .inl (g.2 3, 1, .inr (.inl fo)))] U.heap ∧ GK g U ∧ va_D (fun _ => True) [(qX, .inr (8, [.ref qP, .ref qI, .ref qt, .ref qd, .ref qe, .ref qsp, .ref qrk, .ref qty])), (qt, .inr (7, [.ref ql, .ref qr, .ref qv, .ref qg, .int parts, .int limit])), (ql, .inl (g.2 0, 5, .inl len)), (qr, .inl (g.2 0, 5, .inl row)), (qv, .inl (g.2 0, 5, .inl vot)), (qo, .inl (g.2 3, 1, .inr (.inl fo)))] ∧ GX z (va_A [(qX, .inr (8, [.ref qP, .ref qI, .ref qt, .ref qd, .ref qe, .ref qsp, .ref qrk, .ref qty])), (qt, .inr (7, [.ref ql, .ref qr, .ref qv, .ref qg, .int parts, .int limit])), (ql, .inl (g.2 0, 5, .inl len)), (qr, .inl (g.2 0, 5, .inl row)), (qv, .inl (g.2 0, 5, .inl vot)), (qo, .inl (g.2 3, 1, .inr (.inl fo)))] sz) U U.heap)) (va_Qi (fun (r : Int32) (u : Nat → Int64) => (r = 0 ∧ ∃ a : Int32, Q a ∧ u = vp_updL fo 0 a.toInt64) ∨ (r = 1 ∧ QX)) (fun (u : Nat → Int64) t => va_P g.1 vwCl [(qX, .inr (8, [.ref qP, .ref qI, .ref qt, .ref qd, .ref qe, .ref qsp, .ref qrk, .ref qty])), (qt, .inr (7, [.ref ql, .ref qr, .ref qv, .ref qg, .int parts, .int limit])), (ql, .inl (g.2 0, 5, .inl len)), (qr, .inl (g.2 0, 5, .inl row)), (qv, .inl (g.2 0, 5, .inl vot)), (qo, .inl (g.2 3, 1, .inr (.inl u)))] t.heap ∧ va_D (va_A [(qX, .inr (8, [.ref qP, .ref qI, .ref qt, .ref qd, .ref qe, .ref qsp, .ref qrk, .ref qty])), (qt, .inr (7, [.ref ql, .ref qr, .ref qv, .ref qg, .int parts, .int limit])), (ql, .inl (g.2 0, 5, .inl len)), (qr, .inl (g.2 0, 5, .inl row)), (qv, .inl (g.2 0, 5, .inl vot)), (qo, .inl (g.2 3, 1, .inr (.inl fo)))] sz) [(qX, .inr (8, [.ref qP, .ref qI, .ref qt, .ref qd, .ref qe, .ref qsp, .ref qrk, .ref qty])), (qt, .inr (7, [.ref ql, .ref qr, .ref qv, .ref qg, .int parts, .int limit])), (ql, .inl (g.2 0, 5, .inl len)), (qr, .inl (g.2 0, 5, .inl row)), (qv, .inl (g.2 0, 5, .inl vot)), (qo, .inl (g.2 3, 1, .inr (.inl u)))]) (va_A [(qX, .inr (8, [.ref qP, .ref qI, .ref qt, .ref qd, .ref qe, .ref qsp, .ref qrk, .ref qty])), (qt, .inr (7, [.ref ql, .ref qr, .ref qv, .ref qg, .int parts, .int limit])), (ql, .inl (g.2 0, 5, .inl len)), (qr, .inl (g.2 0, 5, .inl row)), (qv, .inl (g.2 0, 5, .inl vot)), (qo, .inl (g.2 3, 1, .inr (.inl fo)))] sz)) 1 6 (va_A [(qX, .inr (8, [.ref qP, .ref qI, .ref qt, .ref qd, .ref qe, .ref qsp, .ref qrk, .ref qty])), (qt, .inr (7, [.ref ql, .ref qr, .ref qv, .ref qg, .int parts, .int limit])), (ql, .inl (g.2 0, 5, .inl len)), (qr, .inl (g.2 0, 5, .inl row)), (qv, .inl (g.2 0, 5, .inl vot)), (qo, .inl (g.2 3, 1, .inr (.inl fo)))] sz) := by
  refine met_ofWH (cc := cL_part) (maxL := 5) (ret := some .int) (hh := [(0, 10, 13, 13)]) (by decide) rfl ?_
  intro p e s m args below meth c s₁ B hml hv'
  obtain ⟨rfl, hsz, hP, hG, hD0, hX⟩ := hv'
  have S : CallFix p m c cL_part 5 s _ wsLp RL := ⟨B.exec, B.bytes, hml, findClass_of_methodNamed B.named, atoms_spec (ws := wsLp) B.pre⟩
  obtain ⟨hx, hb, hml, hown, hts⟩ := id S
  have hK := hG.1
  have hr := B.returns
  have hlocks := B.notSynchronized
  have htab := vx_table (x := yL_part) B (hts (.codeWith yL_part cL_part 5 (some .int) [(0, 10, 13, 13)]) (List.mem_of_getElem? (i := 0) rfl))
  subst hsz
  have hD := hD0.self (sz := s.heap.size)
  generalize hAe : va_A [(qX, .inr (8, [.ref qP, .ref qI, .ref qt, .ref qd, .ref qe, .ref qsp, .ref qrk, .ref qty])), (qt, .inr (7, [.ref ql, .ref qr, .ref qv, .ref qg, .int parts, .int limit])), (ql, .inl (g.2 0, 5, .inl len)), (qr, .inl (g.2 0, 5, .inl row)), (qv, .inl (g.2 0, 5, .inl vot)), (qo, .inl (g.2 3, 1, .inr (.inl fo)))] s.heap.size = A at hD hX ⊢
  have hA : ∀ q : Nat, s.heap.size ≤ q → A q := fun q h => by rw [← hAe]; exact Or.inr h
  have hS : va_S A s.heap s.heap [] := va_S.rf
  clear hD0 hAe
  have hl := lv_entry ([.ref qX, .int p1, .int p2, .ref qo]) (n := 5) (Nat.le_of_ble_eq_true rfl)
  rw [lg_entry_eq]
  generalize (lg_sl ([.ref qX, .int p1, .int p2, .ref qo]) ++ List.replicate (5 - (lg_sl ([.ref qX, .int p1, .int p2, .ref qo])).length) Slot.unset).toArray = ls at hl ⊢
  have hl : lv_has ls 5 [(0, .ref qX), (1, .int p1), (2, .int p2), (3, .ref qo)] := hl
  refine lv_aload_n hx hb dL_part_0 rfl (lv_at hl 3 rfl) ?_
  refine lv_iconst (v := (0 : Int32)) hx hb dL_part_1 (by decide) ?_
  refine lv_aload_n hx hb dL_part_2 rfl (lv_at hl 0 rfl) ?_
  refine lv_iload_n hx hb dL_part_3 rfl (lv_at hl 1 rfl) ?_
  refine lv_iload_n hx hb dL_part_4 rfl (lv_at hl 2 rfl) ?_
  have hPc := hP.sub (ws' := [(qX, .inr (8, [.ref qP, .ref qI, .ref qt, .ref qd, .ref qe, .ref qsp, .ref qrk, .ref qty])), (qt, .inr (7, [.ref ql, .ref qr, .ref qv, .ref qg, .int parts, .int limit])), (ql, .inl (g.2 0, 5, .inl len)), (qr, .inl (g.2 0, 5, .inl row)), (qv, .inl (g.2 0, 5, .inl vot))]) [0, 1, 2, 3, 4] rfl
  have hDc := hD.sub (ws' := [(qX, .inr (8, [.ref qP, .ref qI, .ref qt, .ref qd, .ref qe, .ref qsp, .ref qrk, .ref qty])), (qt, .inr (7, [.ref ql, .ref qr, .ref qv, .ref qg, .int parts, .int limit])), (ql, .inl (g.2 0, 5, .inl len)), (qr, .inl (g.2 0, 5, .inl row)), (qv, .inl (g.2 0, 5, .inl vot))]) [0, 1, 2, 3, 4] (by decide) rfl
  have hFc := va_free (wc := [(qX, .inr (8, [.ref qP, .ref qI, .ref qt, .ref qd, .ref qe, .ref qsp, .ref qrk, .ref qty])), (qt, .inr (7, [.ref ql, .ref qr, .ref qv, .ref qg, .int parts, .int limit])), (ql, .inl (g.2 0, 5, .inl len)), (qr, .inl (g.2 0, 5, .inl row)), (qv, .inl (g.2 0, 5, .inl vot))]) hD hS hA [0, 1, 2, 3, 4] rfl
  refine vx_calli (vx_runV (As := [.int p1, .int p2]) (rest := [.int (0 : Int32), .ref qo]) S (wXp l g qX qP qI qt qd qe qsp qrk qty ql qr qv qg s.heap.size parts limit len row vot p1 p2 z hst hv) (cwV 2 hts gLp_X8_part rfl rfl rfl (by decide +kernel) ⟨(Nat.le_of_ble_eq_true rfl), (Nat.le_of_ble_eq_true rfl)⟩) ⟨blindRWX, va_recv hK hP (ci := 8) (q0 := 0) rfl rfl, fun U hU hW => ⟨rfl, by rw [hU], by rw [hU]; exact hPc, hG.warm hW, hDc.weaken (fun _ _ _ _ => trivial), by rw [hU]; exact ((hX.kept hS.2.1).narrow hFc).warm hW⟩⟩ rfl rfl hl.1 rfl (lv_room (Nat.le_of_ble_eq_true rfl)) dL_part_5 ⟨(Nat.le_of_ble_eq_true rfl), (Nat.le_of_ble_eq_true rfl)⟩) hS (fun q _ h => hFc q h) hFc (fun q _ h => hFc q h) (fun E ce q9 u t H1 locs ht hvm hw hB hz1 hk1 hS hce hcv hcl => ?_) (fun r u t H1 locs ht hvm hw hB hz1 hk1 hS => ?_)
  · obtain ⟨rfl, hP1, hD1⟩ := hB
    rw [ht] at hP1
    obtain ⟨hP, hD⟩ := va_join (wr := [(qo, .inl (g.2 3, 1, .inr (.inl fo)))]) (w1 := [(qX, .inr (8, [.ref qP, .ref qI, .ref qt, .ref qd, .ref qe, .ref qsp, .ref qrk, .ref qty])), (qt, .inr (7, [.ref ql, .ref qr, .ref qv, .ref qg, .int parts, .int limit])), (ql, .inl (g.2 0, 5, .inl len)), (qr, .inl (g.2 0, 5, .inl row)), (qv, .inl (g.2 0, 5, .inl vot))]) hP hD [0, 1, 2, 3, 4] [5] rfl rfl (by decide) (by decide) hk1 hFc hP1 hD1
    refine vx_catch (own := RL) (name := "java/util/NoSuchElementException") hown [] ⟨0, 10, 13, 13⟩ [] (by rw [htab]; rfl) (fun z hz => nomatch hz) (by decide) (by decide) (hts (.classLink RL 13 "java/util/NoSuchElementException") (List.mem_of_getElem? (i := 1) rfl)) (va_Nw.use rfl hX.2.2.2.2.1) hce hcv hcl ?_
    refine W.eq (g2 := F0 m 13 ls [.ref q9]) rfl ?_
    refine lv_astore (lv' := [(4, .ref q9), (0, .ref qX), (1, .int p1), (2, .int p2), (3, .ref qo)]) hx hb dL_part_13 hl (by decide) rfl (fun ls hl => ?_)
    refine lv_iconst (v := (1 : Int32)) hx hb dL_part_15 (by decide) ?_
    refine W.widen (k := 1) (n := 6) (Nat.le_of_ble_eq_true rfl) (Nat.le_of_ble_eq_true rfl) ?_
    have hP9 := hP.sub (ws' := [(qX, .inr (8, [.ref qP, .ref qI, .ref qt, .ref qd, .ref qe, .ref qsp, .ref qrk, .ref qty])), (qt, .inr (7, [.ref ql, .ref qr, .ref qv, .ref qg, .int parts, .int limit])), (ql, .inl (g.2 0, 5, .inl len)), (qr, .inl (g.2 0, 5, .inl row)), (qv, .inl (g.2 0, 5, .inl vot)), (qo, .inl (g.2 3, 1, .inr (.inl fo)))]) [1, 2, 3, 4, 5, 0] rfl
    have hD9 := hD.sub (ws' := [(qX, .inr (8, [.ref qP, .ref qI, .ref qt, .ref qd, .ref qe, .ref qsp, .ref qrk, .ref qty])), (qt, .inr (7, [.ref ql, .ref qr, .ref qv, .ref qg, .int parts, .int limit])), (ql, .inl (g.2 0, 5, .inl len)), (qr, .inl (g.2 0, 5, .inl row)), (qv, .inl (g.2 0, 5, .inl vot)), (qo, .inl (g.2 3, 1, .inr (.inl fo)))]) [1, 2, 3, 4, 5, 0] (by decide) rfl
    exact W.iret (v := (1 : Int32)) hx hb hr (fun t ht hW => ⟨⟨_, fo, rfl, Or.inr ⟨rfl, hw⟩, by rw [ht]; exact hP9, hD9⟩, hS.F ht⟩) hS.2.2 dL_part_16
  · obtain ⟨hP1, hD1⟩ := hB
    rw [ht] at hP1
    obtain ⟨hP, hD⟩ := va_join (wr := [(qo, .inl (g.2 3, 1, .inr (.inl fo)))]) (w1 := [(qX, .inr (8, [.ref qP, .ref qI, .ref qt, .ref qd, .ref qe, .ref qsp, .ref qrk, .ref qty])), (qt, .inr (7, [.ref ql, .ref qr, .ref qv, .ref qg, .int parts, .int limit])), (ql, .inl (g.2 0, 5, .inl len)), (qr, .inl (g.2 0, 5, .inl row)), (qv, .inl (g.2 0, 5, .inl vot))]) hP hD [0, 1, 2, 3, 4] [5] rfl rfl (by decide) (by decide) hk1 hFc hP1 hD1
    clear hP1 hD1 hPc hDc hFc hk1
    generalize H1 = H at hP hS ⊢
    have hP : va_P g.1 vwCl [(qo, .inl (g.2 3, 1, .inr (.inl fo))), (qX, .inr (8, [.ref qP, .ref qI, .ref qt, .ref qd, .ref qe, .ref qsp, .ref qrk, .ref qty])), (qt, .inr (7, [.ref ql, .ref qr, .ref qv, .ref qg, .int parts, .int limit])), (ql, .inl (g.2 0, 5, .inl len)), (qr, .inl (g.2 0, 5, .inl row)), (qv, .inl (g.2 0, 5, .inl vot))] H := hP
    have hD : va_D A [(qo, .inl (g.2 3, 1, .inr (.inl fo))), (qX, .inr (8, [.ref qP, .ref qI, .ref qt, .ref qd, .ref qe, .ref qsp, .ref qrk, .ref qty])), (qt, .inr (7, [.ref ql, .ref qr, .ref qv, .ref qg, .int parts, .int limit])), (ql, .inl (g.2 0, 5, .inl len)), (qr, .inl (g.2 0, 5, .inl row)), (qv, .inl (g.2 0, 5, .inl vot))] := hD
    refine lv_i2l (v := (r.toInt64)) hx hb dL_part_8 rfl ?_
    refine va_last hx hb hK hP hD hS 0 3 rfl rfl (by unfold vp_in; decide) dL_part_9 (fun H locs hP hD hS => ?_)
    have hP : va_P g.1 vwCl [(qo, .inl (g.2 3, 1, .inr (.inl (vp_updL fo 0 (r.toInt64))))), (qX, .inr (8, [.ref qP, .ref qI, .ref qt, .ref qd, .ref qe, .ref qsp, .ref qrk, .ref qty])), (qt, .inr (7, [.ref ql, .ref qr, .ref qv, .ref qg, .int parts, .int limit])), (ql, .inl (g.2 0, 5, .inl len)), (qr, .inl (g.2 0, 5, .inl row)), (qv, .inl (g.2 0, 5, .inl vot))] H := hP
    have hD : va_D A [(qo, .inl (g.2 3, 1, .inr (.inl (vp_updL fo 0 (r.toInt64))))), (qX, .inr (8, [.ref qP, .ref qI, .ref qt, .ref qd, .ref qe, .ref qsp, .ref qrk, .ref qty])), (qt, .inr (7, [.ref ql, .ref qr, .ref qv, .ref qg, .int parts, .int limit])), (ql, .inl (g.2 0, 5, .inl len)), (qr, .inl (g.2 0, 5, .inl row)), (qv, .inl (g.2 0, 5, .inl vot))] := hD
    refine lv_goto (tgt := 17) hx hb dL_part_10 (by decide) ?_
    refine lv_iconst (v := (0 : Int32)) hx hb dL_part_17 (by decide) ?_
    refine W.widen (k := 1) (n := 6) (Nat.le_of_ble_eq_true rfl) (Nat.le_of_ble_eq_true rfl) ?_
    have hP9 := hP.sub (ws' := [(qX, .inr (8, [.ref qP, .ref qI, .ref qt, .ref qd, .ref qe, .ref qsp, .ref qrk, .ref qty])), (qt, .inr (7, [.ref ql, .ref qr, .ref qv, .ref qg, .int parts, .int limit])), (ql, .inl (g.2 0, 5, .inl len)), (qr, .inl (g.2 0, 5, .inl row)), (qv, .inl (g.2 0, 5, .inl vot)), (qo, .inl (g.2 3, 1, .inr (.inl (vp_updL fo 0 (r.toInt64)))))]) [1, 2, 3, 4, 5, 0] rfl
    have hD9 := hD.sub (ws' := [(qX, .inr (8, [.ref qP, .ref qI, .ref qt, .ref qd, .ref qe, .ref qsp, .ref qrk, .ref qty])), (qt, .inr (7, [.ref ql, .ref qr, .ref qv, .ref qg, .int parts, .int limit])), (ql, .inl (g.2 0, 5, .inl len)), (qr, .inl (g.2 0, 5, .inl row)), (qv, .inl (g.2 0, 5, .inl vot)), (qo, .inl (g.2 3, 1, .inr (.inl (vp_updL fo 0 (r.toInt64)))))]) [1, 2, 3, 4, 5, 0] (by decide) rfl
    exact W.iret (v := (0 : Int32)) hx hb hr (fun t ht hW => ⟨⟨_, (vp_updL fo 0 r.toInt64), rfl, Or.inl ⟨rfl, r, hw, rfl⟩, by rw [ht]; exact hP9, hD9⟩, hS.F ht⟩) hS.2.2 dL_part_18
set_option maxHeartbeats 4000000 in
set_option maxRecDepth 100000 in
theorem uX_part2 (l : Launch) (g : GP) (v : GV) (z : Nat × Nat) (hst : l.stackTraces = false) (qX : Nat) (s : St) (qo : Nat) (fo : Nat → Int64) (p1 p2 : Int32) : ∀ (w : va_W) (sz : Nat), XAt g qX s w → Met l yL_part wsLp rmL_part (va_Pc [.ref qX, .int p1, .int p2, .ref qo] (XPreX g v z (ouC g qo fo :: w) sz)) (va_Qi (fun r u => ∃ fo1 : Nat → Int64, u = ouC g qo fo1 :: w ∧ ((r = 0 ∧ okPa (pgT s.1) p1.toInt p2.toInt ∧ (fo1 0).toInt = spPa (pgT s.1) p1.toInt p2.toInt) ∨ (r = 1 ∧ ¬ okPa (pgT s.1) p1.toInt p2.toInt))) (XPst g (va_A (ouC g qo fo :: w) sz)) (va_A (ouC g qo fo :: w) sz)) 1 6 (va_A (ouC g qo fo :: w) sz) := by
  rintro w sz ⟨a, aM, c, f, M, im, pl, rfl, hT, hPg, hI⟩
  refine mxIX (X := ((qo, .inl (g.2 3, 1, .inr (.inl fo))) :: (xC g qX a aM c f M im))) (pl := pl) (w2 := fun u => ((qo, .inl (g.2 3, 1, .inr (.inl u))) :: (xC g qX a aM c f M im))) (wLp l g z hst qX (a 0) (a 1) (a 2) (a 3) (a 4) (a 5) (a 6) (a 7) (a 9) (a 10) (a 11) (a 12) qo sz (c 3) (c 4) (f 1) (f 2) (f 3) fo p1 p2 (sX8_part (pgT s.1) (pgA s.1) (pgB s.1) (pgL s.1) (c 3) (c 4) (f 1) (f 2) (f 3) p1 p2 ⟨hT.1, hT.2.1, hT.2.2.1, hT.2.2.2.1⟩)) [1, 4, 5, 6, 7, 0] [2, 3, 8, 9, 10, 11, 12, 13, 14, 15, 16, 17, 18, 19, 20, 21, 22, 23, 24, 25, 26, 27, 28, 29, 30, 31, 32, 33, 34, 35, 36, 37, 38, 39, 40, 41, 42, 43, 44, 45, 46, 47, 48, 49, 50, 51, 52, 53, 54, 55, 56, 57, 58] [58, 53, 0, 1, 54, 55, 56, 57, 2, 3, 4, 5, 6, 7, 8, 9, 10, 11, 12, 13, 14, 15, 16, 17, 18, 19, 20, 21, 22, 23, 24, 25, 26, 27, 28, 29, 30, 31, 32, 33, 34, 35, 36, 37, 38, 39, 40, 41, 42, 43, 44, 45, 46, 47, 48, 49, 50, 51, 52] rfl rfl rfl (by decide) (by decide) (by decide) (by decide) (fun u => rfl) (fun r u h => ?_)
  refine ⟨u, rfl, ?_⟩
  rcases h with ⟨h1, a1, h2, h3⟩ | ⟨h1, h2⟩
  · refine Or.inl ⟨h1, h2.1, ?_⟩
    rw [h3]
    show (vp_updL fo 0 a1.toInt64 0).toInt = _
    unfold vp_updL
    rw [if_pos rfl, Int32.toInt_toInt64]
    exact h2.2
  · exact Or.inr ⟨h1, h2⟩
