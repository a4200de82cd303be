theorem dX0_bestMatch_0 : decode cX0_bestMatch 0 = .ok (.aload_n 0, 1) := by decide +kernel
theorem dX0_bestMatch_1 : decode cX0_bestMatch 1 = .ok (.getfield 17, 3) := by decide +kernel
theorem dX0_bestMatch_4 : decode cX0_bestMatch 4 = .ok (.iload_n 1, 1) := by decide +kernel
theorem dX0_bestMatch_5 : decode cX0_bestMatch 5 = .ok (.aaload, 1) := by decide +kernel
theorem dX0_bestMatch_6 : decode cX0_bestMatch 6 = .ok (.aload_n 0, 1) := by decide +kernel
theorem dX0_bestMatch_7 : decode cX0_bestMatch 7 = .ok (.getfield 20, 3) := by decide +kernel
theorem dX0_bestMatch_10 : decode cX0_bestMatch 10 = .ok (.iload_n 1, 1) := by decide +kernel
theorem dX0_bestMatch_11 : decode cX0_bestMatch 11 = .ok (.iaload, 1) := by decide +kernel
theorem dX0_bestMatch_12 : decode cX0_bestMatch 12 = .ok (.iaload, 1) := by decide +kernel
theorem dX0_bestMatch_13 : decode cX0_bestMatch 13 = .ok (.ireturn, 1) := by decide +kernel
abbrev rmX0_bestMatch : Room := { frames := 0, cells := 0, slots := 0, locals := 0 }
theorem inX0_bestMatch_0 : ∀ w ∈ wsX00, w ∈ wsX0_bestMatch := by decide +kernel
def vX0_bestMatch (E : Nat → Int32) (M : Nat → Nat → Int32) (be : Nat → Int32) (p1 : Int32) (Q : Int32 → Prop) : Prop := (vp_in p1 5 ∧ (∀ j_5 : Nat, j_5 < 5 → p1 = nI j_5 → (vp_in p1 5 ∧ (vp_in (be p1.toNatClampNeg) 13 ∧ (Q (M j_5 (be p1.toNatClampNeg).toNatClampNeg))))))
set_option maxHeartbeats 4000000 in
set_option maxRecDepth 100000 in
theorem wX0_bestMatch (l : Launch) (g : GP) (qe : Nat) (qt : Nat) (qh : Nat) (qm : Nat) (qb : Nat) (qx : Nat) (aM : Nat → Nat) (E : Nat → Int32) (M : Nat → Nat → Int32) (be : Nat → Int32) (p1 : Int32) {Q : Int32 → Prop} (hv : vX0_bestMatch E M be p1 Q) : Met l yX0_bestMatch wsX0_bestMatch rmX0_bestMatch (va_Pc [.ref qe, .int p1] (fun U => va_P g.1 vwCl [(qe, .inr (0, [.ref qt, .ref qh, .ref qm, .ref qb, .ref qx, .int (E 5), .int (E 6), .int (E 7), .int (E 8), .int (E 9), .int (E 10), .int (E 11)])), (qm, .inl (g.2 6, 5, .inr (.inr (.inr (.inr (rwM aM)))))), ((aM 0), .inl (g.2 0, 13, .inl (M 0))), ((aM 1), .inl (g.2 0, 13, .inl (M 1))), ((aM 2), .inl (g.2 0, 13, .inl (M 2))), ((aM 3), .inl (g.2 0, 13, .inl (M 3))), ((aM 4), .inl (g.2 0, 13, .inl (M 4))), (qb, .inl (g.2 0, 5, .inl be))] U.heap ∧ GK g U)) (vp_Si Q) 0 0 (fun _ => False) := by
  refine Met.ofW (cc := cX0_bestMatch) (maxL := 2) (ret := (some .int)) (by decide) rfl ?_
  intro p e s m args below meth c s₁ B hml hv'
  obtain ⟨rfl, hP, hG⟩ := hv'
  have S : CallFix p m c cX0_bestMatch 2 s _ wsX0_bestMatch RX0 := ⟨B.exec, B.bytes, hml, findClass_of_methodNamed B.named, atoms_spec (ws := wsX0_bestMatch) B.pre⟩
  obtain ⟨hx, hb, hml, hown, hts⟩ := id S
  have hK := hG.1
  have hr := B.returns
  have hlocks := B.notSynchronized
  have hl := lv_entry ([.ref qe, .int p1]) (n := 2) (Nat.le_of_ble_eq_true rfl)
  rw [lg_entry_eq]
  generalize (lg_sl ([.ref qe, .int p1]) ++ List.replicate (2 - (lg_sl ([.ref qe, .int p1])).length) Slot.unset).toArray = ls at hl ⊢
  have hl : lv_has ls 2 [(0, .ref qe), (1, .int p1)] := hl
  unfold vX0_bestMatch at hv
  refine lv_aload_n hx hb dX0_bestMatch_0 rfl (lv_at hl 0 rfl) ?_
  refine va_get (D := g.1) (ci := 0) (v := .ref qm) (C := RX0) (T := TX0) (N := 12) hx hb hts inX0_bestMatch_0 hown hK hP 0 rfl rfl 2 (by decide) (hts (.fieldLink RX0 17 "RangeCodes$Ear" "matches" "[[I") (List.mem_of_getElem? (i := 1) rfl)) (fun _ h9 => h9) rfl dX0_bestMatch_1 ?_
  refine lv_iload_n hx hb dX0_bestMatch_4 rfl (lv_at hl 1 rfl) ?_
  obtain ⟨ho_1, hv⟩ := hv
  obtain ⟨j_5, hj_5, ej_5⟩ := vp_in_of ho_1 (by decide)
  have hv := hv j_5 hj_5 ej_5
  refine va_ldM hx hb hK hP 1 6 j_5 rfl rfl ej_5 hj_5 dX0_bestMatch_5 ?_
  refine lv_aload_n hx hb dX0_bestMatch_6 rfl (lv_at hl 0 rfl) ?_
  refine va_get (D := g.1) (ci := 0) (v := .ref qb) (C := RX0) (T := TX0) (N := 12) hx hb hts inX0_bestMatch_0 hown hK hP 0 rfl rfl 3 (by decide) (hts (.fieldLink RX0 20 "RangeCodes$Ear" "bests" "[I") (List.mem_of_getElem? (i := 2) rfl)) (fun _ h9 => h9) rfl dX0_bestMatch_7 ?_
  refine lv_iload_n hx hb dX0_bestMatch_10 rfl (lv_at hl 1 rfl) ?_
  obtain ⟨ho_2, hv⟩ := hv
  refine va_iald hx hb hK hP 7 0 rfl rfl ho_2 dX0_bestMatch_11 ?_
  obtain ⟨ho_3, hv⟩ := hv
  refine va_iald hx hb hK hP (2 + j_5) 0 (co_5 (P := fun k => ([(qe, .inr (0, [.ref qt, .ref qh, .ref qm, .ref qb, .ref qx, .int (E 5), .int (E 6), .int (E 7), .int (E 8), .int (E 9), .int (E 10), .int (E 11)])), (qm, .inl (g.2 6, 5, .inr (.inr (.inr (.inr (rwM aM)))))), ((aM 0), .inl (g.2 0, 13, .inl (M 0))), ((aM 1), .inl (g.2 0, 13, .inl (M 1))), ((aM 2), .inl (g.2 0, 13, .inl (M 2))), ((aM 3), .inl (g.2 0, 13, .inl (M 3))), ((aM 4), .inl (g.2 0, 13, .inl (M 4))), (qb, .inl (g.2 0, 5, .inl be))] : va_W)[2 + k]? = some (aM k, .inl (g.2 0, 13, .inl (M k)))) rfl rfl rfl rfl rfl hj_5) rfl ho_3 dX0_bestMatch_12 ?_
  exact W.iret (v := (M j_5 (be p1.toNatClampNeg).toNatClampNeg)) hx hb hr (fun t ht hW => ⟨_, rfl, hv, ht⟩) (fun _ h => by cases h) dX0_bestMatch_13
abbrev preX0_bestMatch (m : Nat → Nat → Int) (p b : Nat) (_ : Nat → Int32) (M : Nat → Nat → Int32) (be : Nat → Int32) (p1 : Int32) : Prop := p1.toInt = (p : Int) ∧ p < 5 ∧ (be p).toInt = (b : Int) ∧ b < 13 ∧ (M p b).toInt = m p b
abbrev postX0_bestMatch (m : Nat → Nat → Int) (p b : Nat) (_ : Nat → Int32) (_ : Nat → Nat → Int32) (_ : Nat → Int32) (_ r : Int32) : Prop := r.toInt = m p b
theorem nI_at {x : Int32} {p j : Nat} (h : x.toInt = (p : Int)) (hj : j < 5) (e : x = nI j) : j = p := by
  rw [e, q_nI (by omega)] at h; omega
theorem sX0_bestMatch (m : Nat → Nat → Int) (p b : Nat) (E : Nat → Int32) (M : Nat → Nat → Int32) (be : Nat → Int32) (p1 : Int32) (H : preX0_bestMatch m p b E M be p1) : vX0_bestMatch E M be p1 (postX0_bestMatch m p b E M be p1) := by
  obtain ⟨h1, hp, hb, hb2, hm⟩ := H
  refine ⟨q_in h1 hp, fun j hj e => ?_⟩
  have := nI_at h1 hj e
  subst this
  refine ⟨q_in h1 hp, ?_⟩
  rw [q_cl h1]
  refine ⟨q_in hb hb2, ?_⟩
  rw [q_cl hb]
  exact hm
set_option maxRecDepth 20000 in
theorem ggX0_edge_X0_greatest : GoodIn wsX0_edge wsX0_greatest := goodIn_r _ [8] (by decide +kernel) (by decide +kernel)
set_option maxRecDepth 20000 in
theorem gX0_edge_X0_greatest : GoodIn wsX0_edge (va_wsS RX0 129 yX0_greatest wsX0_greatest) := goodIn_app (goodIn_of _ (by decide +kernel)) ggX0_edge_X0_greatest
set_option maxRecDepth 20000 in
theorem ggX0_edge_X0_bestMatch : GoodIn wsX0_edge wsX0_bestMatch := goodIn_r _ [12, 1, 4, 13, 14, 15, 16, 17, 18, 19, 20, 21, 22, 23, 24] (by decide +kernel) (by decide +kernel)
set_option maxRecDepth 20000 in
theorem gX0_edge_X0_bestMatch : GoodIn wsX0_edge (wsV RX0 133 RX0 yX0_bestMatch wsX0_bestMatch) := goodIn_app (goodIn_of _ (by decide +kernel)) ggX0_edge_X0_bestMatch
theorem dX0_edge_0 : decode cX0_edge 0 = .ok (.aload_n 0, 1) := by decide +kernel
theorem dX0_edge_1 : decode cX0_edge 1 = .ok (.getfield 17, 3) := by decide +kernel
theorem dX0_edge_4 : decode cX0_edge 4 = .ok (.iload_n 1, 1) := by decide +kernel
theorem dX0_edge_5 : decode cX0_edge 5 = .ok (.aaload, 1) := by decide +kernel
theorem dX0_edge_6 : decode cX0_edge 6 = .ok (.aload_n 0, 1) := by decide +kernel
theorem dX0_edge_7 : decode cX0_edge 7 = .ok (.getfield 26, 3) := by decide +kernel
theorem dX0_edge_10 : decode cX0_edge 10 = .ok (.getfield 107, 3) := by decide +kernel
theorem dX0_edge_13 : decode cX0_edge 13 = .ok (.iload_n 1, 1) := by decide +kernel
theorem dX0_edge_14 : decode cX0_edge 14 = .ok (.iaload, 1) := by decide +kernel
theorem dX0_edge_15 : decode cX0_edge 15 = .ok (.aload_n 0, 1) := by decide +kernel
theorem dX0_edge_16 : decode cX0_edge 16 = .ok (.getfield 20, 3) := by decide +kernel
theorem dX0_edge_19 : decode cX0_edge 19 = .ok (.iload_n 1, 1) := by decide +kernel
theorem dX0_edge_20 : decode cX0_edge 20 = .ok (.iaload, 1) := by decide +kernel
theorem dX0_edge_21 : decode cX0_edge 21 = .ok (.invokestatic 129, 3) := by decide +kernel
theorem dX0_edge_24 : decode cX0_edge 24 = .ok (.istore_n 2, 1) := by decide +kernel
theorem dX0_edge_25 : decode cX0_edge 25 = .ok (.aload_n 0, 1) := by decide +kernel
theorem dX0_edge_26 : decode cX0_edge 26 = .ok (.iload_n 1, 1) := by decide +kernel
theorem dX0_edge_27 : decode cX0_edge 27 = .ok (.invokevirtual 133, 3) := by decide +kernel
theorem dX0_edge_30 : decode cX0_edge 30 = .ok (.aload_n 0, 1) := by decide +kernel
theorem dX0_edge_31 : decode cX0_edge 31 = .ok (.getfield 17, 3) := by decide +kernel
theorem dX0_edge_34 : decode cX0_edge 34 = .ok (.iload_n 1, 1) := by decide +kernel
theorem dX0_edge_35 : decode cX0_edge 35 = .ok (.aaload, 1) := by decide +kernel
theorem dX0_edge_36 : decode cX0_edge 36 = .ok (.iload_n 2, 1) := by decide +kernel
theorem dX0_edge_37 : decode cX0_edge 37 = .ok (.iaload, 1) := by decide +kernel
theorem dX0_edge_38 : decode cX0_edge 38 = .ok (.isub, 1) := by decide +kernel
theorem dX0_edge_39 : decode cX0_edge 39 = .ok (.ireturn, 1) := by decide +kernel
abbrev rmX0_edge : Room := { frames := 1, cells := 0, slots := 0, locals := 24 }
theorem inX0_edge_0 : ∀ w ∈ wsX00, w ∈ wsX0_edge := by decide +kernel
theorem inX0_edge_7 : ∀ w ∈ wsX70, w ∈ wsX0_edge := by decide +kernel
def vX0_edge (E : Nat → Int32) (M : Nat → Nat → Int32) (be : Nat → Int32) (parts : Int32) (limit : Int32) (len : Nat → Int32) (p1 : Int32) (Q : Int32 → Prop) : Prop := (vp_in p1 5 ∧ (∀ j_5 : Nat, j_5 < 5 → p1 = nI j_5 → (vp_in p1 5 ∧ (vp_in p1 5 ∧ (∃ (m_21 : Nat → Int) (n_21 : Nat) (bu_21 : Int), preX0_greatest m_21 n_21 bu_21 13 (M j_5) (len p1.toNatClampNeg) (be p1.toNatClampNeg) ∧ (∀ r_21 : Int32, postX0_greatest m_21 n_21 bu_21 13 (M j_5) (len p1.toNatClampNeg) (be p1.toNatClampNeg) r_21 → (∃ (m_27 : Nat → Nat → Int) (p_27 : Nat) (b_27 : Nat), preX0_bestMatch m_27 p_27 b_27 E M be p1 ∧ (∀ r_27 : Int32, postX0_bestMatch m_27 p_27 b_27 E M be p1 r_27 → (vp_in p1 5 ∧ (∀ j_35 : Nat, j_35 < 5 → p1 = nI j_35 → (vp_in r_21 13 ∧ (Q (r_27 - (M j_35 r_21.toNatClampNeg))))))))))))))
set_option maxHeartbeats 4000000 in
set_option maxRecDepth 100000 in
theorem wX0_edge (l : Launch) (g : GP) (qe : Nat) (qt : Nat) (qh : Nat) (qm : Nat) (qb : Nat) (qx : Nat) (ql : Nat) (qr : Nat) (qv : Nat) (qg : Nat) (aM : Nat → Nat) (E : Nat → Int32) (M : Nat → Nat → Int32) (be : Nat → Int32) (parts : Int32) (limit : Int32) (len : Nat → Int32) (p1 : Int32) {Q : Int32 → Prop} (hv : vX0_edge E M be parts limit len p1 Q) : Met l yX0_edge wsX0_edge rmX0_edge (va_Pc [.ref qe, .int p1] (fun U => va_P g.1 vwCl [(qe, .inr (0, [.ref qt, .ref qh, .ref qm, .ref qb, .ref qx, .int (E 5), .int (E 6), .int (E 7), .int (E 8), .int (E 9), .int (E 10), .int (E 11)])), (qm, .inl (g.2 6, 5, .inr (.inr (.inr (.inr (rwM aM)))))), ((aM 0), .inl (g.2 0, 13, .inl (M 0))), ((aM 1), .inl (g.2 0, 13, .inl (M 1))), ((aM 2), .inl (g.2 0, 13, .inl (M 2))), ((aM 3), .inl (g.2 0, 13, .inl (M 3))), ((aM 4), .inl (g.2 0, 13, .inl (M 4))), (qb, .inl (g.2 0, 5, .inl be)), (qt, .inr (7, [.ref ql, .ref qr, .ref qv, .ref qg, .int parts, .int limit])), (ql, .inl (g.2 0, 5, .inl len))] U.heap ∧ GK g U)) (vp_Si Q) 0 0 (fun _ => False) := by
  refine Met.ofW (cc := cX0_edge) (maxL := 3) (ret := (some .int)) (by decide) rfl ?_
  intro p e s m args below meth c s₁ B hml hv'
  obtain ⟨rfl, hP, hG⟩ := hv'
  have S : CallFix p m c cX0_edge 3 s _ wsX0_edge RX0 := ⟨B.exec, B.bytes, hml, findClass_of_methodNamed B.named, atoms_spec (ws := wsX0_edge) B.pre⟩
  obtain ⟨hx, hb, hml, hown, hts⟩ := id S
  have hK := hG.1
  have hr := B.returns
  have hlocks := B.notSynchronized
  have hl := lv_entry ([.ref qe, .int p1]) (n := 3) (Nat.le_of_ble_eq_true rfl)
  rw [lg_entry_eq]
  generalize (lg_sl ([.ref qe, .int p1]) ++ List.replicate (3 - (lg_sl ([.ref qe, .int p1])).length) Slot.unset).toArray = ls at hl ⊢
  have hl : lv_has ls 3 [(0, .ref qe), (1, .int p1)] := hl
  unfold vX0_edge at hv
  refine lv_aload_n hx hb dX0_edge_0 rfl (lv_at hl 0 rfl) ?_
  refine va_get (D := g.1) (ci := 0) (v := .ref qm) (C := RX0) (T := TX0) (N := 12) hx hb hts inX0_edge_0 hown hK hP 0 rfl rfl 2 (by decide) (hts (.fieldLink RX0 17 "RangeCodes$Ear" "matches" "[[I") (List.mem_of_getElem? (i := 1) rfl)) (fun _ h9 => h9) rfl dX0_edge_1 ?_
  refine lv_iload_n hx hb dX0_edge_4 rfl (lv_at hl 1 rfl) ?_
  obtain ⟨ho_1, hv⟩ := hv
  obtain ⟨j_5, hj_5, ej_5⟩ := vp_in_of ho_1 (by decide)
  have hv := hv j_5 hj_5 ej_5
  refine va_ldM hx hb hK hP 1 6 j_5 rfl rfl ej_5 hj_5 dX0_edge_5 ?_
  refine lv_aload_n hx hb dX0_edge_6 rfl (lv_at hl 0 rfl) ?_
  refine va_get (D := g.1) (ci := 0) (v := .ref qt) (C := RX0) (T := TX0) (N := 12) hx hb hts inX0_edge_0 hown hK hP 0 rfl rfl 0 (by decide) (hts (.fieldLink RX0 26 "RangeCodes$Ear" "told" "LRangeCodes$Told;") (List.mem_of_getElem? (i := 2) rfl)) (fun _ h9 => h9) rfl dX0_edge_7 ?_
  refine va_get (D := g.1) (ci := 7) (v := .ref ql) (C := RX7) (T := TX7) (N := 6) hx hb hts inX0_edge_7 hown hK hP 8 rfl rfl 0 (by decide) (hts (.fieldLink RX0 107 "RangeCodes$Told" "lengths" "[I") (List.mem_of_getElem? (i := 3) rfl)) (fun _ h9 => h9) rfl dX0_edge_10 ?_
  refine lv_iload_n hx hb dX0_edge_13 rfl (lv_at hl 1 rfl) ?_
  obtain ⟨ho_2, hv⟩ := hv
  refine va_iald hx hb hK hP 9 0 rfl rfl ho_2 dX0_edge_14 ?_
  refine lv_aload_n hx hb dX0_edge_15 rfl (lv_at hl 0 rfl) ?_
  refine va_get (D := g.1) (ci := 0) (v := .ref qb) (C := RX0) (T := TX0) (N := 12) hx hb hts inX0_edge_0 hown hK hP 0 rfl rfl 3 (by decide) (hts (.fieldLink RX0 20 "RangeCodes$Ear" "bests" "[I") (List.mem_of_getElem? (i := 4) rfl)) (fun _ h9 => h9) rfl dX0_edge_16 ?_
  refine lv_iload_n hx hb dX0_edge_19 rfl (lv_at hl 1 rfl) ?_
  obtain ⟨ho_3, hv⟩ := hv
  refine va_iald hx hb hK hP 7 0 rfl rfl ho_3 dX0_edge_20 ?_
  obtain ⟨m_21, n_21, bu_21, ho_4, hv⟩ := hv
  have hPr : va_P g.1 vwCl [((aM j_5), .inl (g.2 0, 13, .inl (M j_5)))] s.heap := by
    rcases (show j_5 = 0 ∨ j_5 = 1 ∨ j_5 = 2 ∨ j_5 = 3 ∨ j_5 = 4 by omega) with rfl | rfl | rfl | rfl | rfl
    · exact hP.sub [2] rfl
    · exact hP.sub [3] rfl
    · exact hP.sub [4] rfl
    · exact hP.sub [5] rfl
    · exact hP.sub [6] rfl
  refine vp_callSi (W.runS (As := [.ref (aM j_5), .int (len p1.toNatClampNeg), .int (be p1.toNatClampNeg)]) (rest := []) S (wX0_greatest l g (aM j_5) 13 (M j_5) (len p1.toNatClampNeg) (be p1.toNatClampNeg) (sX0_greatest m_21 n_21 bu_21 13 (M j_5) (len p1.toNatClampNeg) (be p1.toNatClampNeg) ho_4)) (va_cwS 3 hts gX0_edge_X0_greatest rfl rfl rfl (by decide +kernel) ⟨Nat.le_of_ble_eq_true rfl, Nat.le_of_ble_eq_true rfl⟩) ⟨blindRO, fun U hU hW => ⟨rfl, by rw [hU]; exact hPr, hG.warm hW⟩⟩ rfl rfl hl.1 rfl (lv_room (Nat.le_of_ble_eq_true rfl)) dX0_edge_21 ⟨Nat.le_of_ble_eq_true rfl, Nat.le_of_ble_eq_true rfl⟩) (fun r_21 hr_21 => ?_)
  have hv := hv r_21 hr_21
  refine lv_istore_n (lv' := [(2, .int r_21), (0, .ref qe), (1, .int p1)]) hx hb dX0_edge_24 rfl hl (by decide) rfl (fun ls hl => ?_)
  refine lv_aload_n hx hb dX0_edge_25 rfl (lv_at hl 1 rfl) ?_
  refine lv_iload_n hx hb dX0_edge_26 rfl (lv_at hl 2 rfl) ?_
  obtain ⟨m_27, p_27, b_27, ho_5, hv⟩ := hv
  refine vp_callSi (W.runV (As := [.int p1]) (rest := []) S (wX0_bestMatch l g qe qt qh qm qb qx aM E M be p1 (sX0_bestMatch m_27 p_27 b_27 E M be p1 ho_5)) (cwV 1 hts gX0_edge_X0_bestMatch rfl rfl rfl (by decide +kernel) ⟨Nat.le_of_ble_eq_true rfl, Nat.le_of_ble_eq_true rfl⟩) ⟨blindRO, va_recv hK hP (ci := 0) (q0 := 0) rfl rfl, fun U hU hW => ⟨rfl, by rw [hU]; exact hP.sub (ws' := [(qe, .inr (0, [.ref qt, .ref qh, .ref qm, .ref qb, .ref qx, .int (E 5), .int (E 6), .int (E 7), .int (E 8), .int (E 9), .int (E 10), .int (E 11)])), (qm, .inl (g.2 6, 5, .inr (.inr (.inr (.inr (rwM aM)))))), ((aM 0), .inl (g.2 0, 13, .inl (M 0))), ((aM 1), .inl (g.2 0, 13, .inl (M 1))), ((aM 2), .inl (g.2 0, 13, .inl (M 2))), ((aM 3), .inl (g.2 0, 13, .inl (M 3))), ((aM 4), .inl (g.2 0, 13, .inl (M 4))), (qb, .inl (g.2 0, 5, .inl be))]) [0, 1, 2, 3, 4, 5, 6, 7] rfl, hG.warm hW⟩⟩ rfl rfl hl.1 rfl (lv_room (Nat.le_of_ble_eq_true rfl)) dX0_edge_27 ⟨Nat.le_of_ble_eq_true rfl, Nat.le_of_ble_eq_true rfl⟩) (fun r_27 hr_27 => ?_)
  have hv := hv r_27 hr_27
  refine lv_aload_n hx hb dX0_edge_30 rfl (lv_at hl 1 rfl) ?_
  refine va_get (D := g.1) (ci := 0) (v := .ref qm) (C := RX0) (T := TX0) (N := 12) hx hb hts inX0_edge_0 hown hK hP 0 rfl rfl 2 (by decide) (hts (.fieldLink RX0 17 "RangeCodes$Ear" "matches" "[[I") (List.mem_of_getElem? (i := 1) rfl)) (fun _ h9 => h9) rfl dX0_edge_31 ?_
  refine lv_iload_n hx hb dX0_edge_34 rfl (lv_at hl 2 rfl) ?_
  obtain ⟨ho_6, hv⟩ := hv
  obtain ⟨j_35, hj_35, ej_35⟩ := vp_in_of ho_6 (by decide)
  have hv := hv j_35 hj_35 ej_35
  refine va_ldM hx hb hK hP 1 6 j_35 rfl rfl ej_35 hj_35 dX0_edge_35 ?_
  refine lv_iload_n hx hb dX0_edge_36 rfl (lv_at hl 0 rfl) ?_
  obtain ⟨ho_7, hv⟩ := hv
  refine va_iald hx hb hK hP (2 + j_35) 0 (co_5 (P := fun k => ([(qe, .inr (0, [.ref qt, .ref qh, .ref qm, .ref qb, .ref qx, .int (E 5), .int (E 6), .int (E 7), .int (E 8), .int (E 9), .int (E 10), .int (E 11)])), (qm, .inl (g.2 6, 5, .inr (.inr (.inr (.inr (rwM aM)))))), ((aM 0), .inl (g.2 0, 13, .inl (M 0))), ((aM 1), .inl (g.2 0, 13, .inl (M 1))), ((aM 2), .inl (g.2 0, 13, .inl (M 2))), ((aM 3), .inl (g.2 0, 13, .inl (M 3))), ((aM 4), .inl (g.2 0, 13, .inl (M 4))), (qb, .inl (g.2 0, 5, .inl be)), (qt, .inr (7, [.ref ql, .ref qr, .ref qv, .ref qg, .int parts, .int limit])), (ql, .inl (g.2 0, 5, .inl len))] : va_W)[2 + k]? = some (aM k, .inl (g.2 0, 13, .inl (M k)))) rfl rfl rfl rfl rfl hj_35) rfl ho_7 dX0_edge_37 ?_
  refine lv_isub hx hb dX0_edge_38 ?_
  exact W.iret (v := (r_27 - (M j_35 r_21.toNatClampNeg))) hx hb hr (fun t ht hW => ⟨_, rfl, hv, ht⟩) (fun _ h => by cases h) dX0_edge_39
/-- the ear's matches and bests -/
def isE (T : Cd) (m : Nat → Nat → Int) (M : Nat → Nat → Int32) (be : Nat → Int32) : Prop := ∀ p, p < cn T → (be p).toInt = ((bst (m p) (cL T p) : Nat) : Int) ∧ ∀ w, w < cL T p → (M p w).toInt = m p w
abbrev preX0_edge (T : Cd) (m : Nat → Nat → Int) (p b : Nat) (_ : Nat → Int32) (M : Nat → Nat → Int32) (be : Nat → Int32) (parts _ : Int32) (len : Nat → Int32) (p1 : Int32) : Prop := cn T ≤ 5 ∧ isL T len ∧ isE T m M be ∧ p1.toInt = (p : Int) ∧ p < cn T ∧ b = bst (m p) (cL T p) ∧ ∀ w, w < cL T p → -10000 ≤ m p w ∧ m p w ≤ 10000
abbrev postX0_edge (T : Cd) (m : Nat → Nat → Int) (p b : Nat) (_ : Nat → Int32) (_ : Nat → Nat → Int32) (_ : Nat → Int32) (_ _ : Int32) (_ : Nat → Int32) (_ r : Int32) : Prop := r.toInt = m p b - m p (bsx (m p) b (cL T p))
theorem sX0_edge (T : Cd) (m : Nat → Nat → Int) (p b : Nat) (E : Nat → Int32) (M : Nat → Nat → Int32) (be : Nat → Int32) (parts limit : Int32) (len : Nat → Int32) (p1 : Int32) (H : preX0_edge T m p b E M be parts limit len p1) : vX0_edge E M be parts limit len p1 (postX0_edge T m p b E M be parts limit len p1) := by
  obtain ⟨hn5, hL, hE, h1, hp, hb, hbd⟩ := H
  have hl := hL p hp
  have he := hE p hp
  have hbl := bst_lt (m p) (cL T p) (by omega)
  have hin : vp_in p1 5 := q_in h1 (by omega)
  rw [← hb] at he hbl
  refine ⟨hin, fun j hj e => ?_⟩
  have := nI_at h1 hj e
  subst this
  refine ⟨hin, hin, ?_⟩
  rw [q_cl h1]
  refine ⟨m j, cL T j, (b : Int), ⟨hl.1, by omega, by omega, by omega, fun _ => by omega, he.1, he.2⟩, fun r hr => ⟨m, j, b, ⟨h1, by omega, he.1, by omega, he.2 b hbl⟩, fun r2 hr2 => ⟨hin, fun j2 hj2 e2 => ?_⟩⟩⟩
  have := nI_at h1 hj2 e2
  subst this
  have hx := bsx_lt (m j2) (b : Int) (cL T j2) (by omega) (fun _ => by omega)
  refine ⟨q_in hr (by omega), ?_⟩
  rw [q_cl hr]
  have b1 := hbd b hbl
  have b2 := hbd _ hx
  exact q_sub hr2 (he.2 _ hx) (by omega) (by omega)
set_option maxRecDepth 20000 in
theorem ggX0_alike_X0_bestMatch : GoodIn wsX0_alike wsX0_bestMatch := goodIn_r _ [8, 3, 9, 10, 11, 12, 13, 14, 15, 16, 17, 18, 19, 20, 21] (by decide +kernel) (by decide +kernel)
set_option maxRecDepth 20000 in
theorem gX0_alike_X0_bestMatch : GoodIn wsX0_alike (wsV RX0 133 RX0 yX0_bestMatch wsX0_bestMatch) := goodIn_app (goodIn_of _ (by decide +kernel)) ggX0_alike_X0_bestMatch
theorem dX0_alike_0 : decode cX0_alike 0 = .ok (.iconst 0, 1) := by decide +kernel
theorem dX0_alike_1 : decode cX0_alike 1 = .ok (.istore_n 2, 1) := by decide +kernel
theorem dX0_alike_2 : decode cX0_alike 2 = .ok (.iconst 0, 1) := by decide +kernel
theorem dX0_alike_3 : decode cX0_alike 3 = .ok (.istore_n 3, 1) := by decide +kernel
theorem dX0_alike_4 : decode cX0_alike 4 = .ok (.iload_n 3, 1) := by decide +kernel
theorem dX0_alike_5 : decode cX0_alike 5 = .ok (.aload_n 0, 1) := by decide +kernel
theorem dX0_alike_6 : decode cX0_alike 6 = .ok (.getfield 26, 3) := by decide +kernel
theorem dX0_alike_9 : decode cX0_alike 9 = .ok (.getfield 107, 3) := by decide +kernel
theorem dX0_alike_12 : decode cX0_alike 12 = .ok (.iload_n 1, 1) := by decide +kernel
theorem dX0_alike_13 : decode cX0_alike 13 = .ok (.iaload, 1) := by decide +kernel
theorem dX0_alike_14 : decode cX0_alike 14 = .ok (.if_icmp .ge 28, 3) := by decide +kernel
theorem dX0_alike_17 : decode cX0_alike 17 = .ok (.aload_n 0, 1) := by decide +kernel
theorem dX0_alike_18 : decode cX0_alike 18 = .ok (.getfield 17, 3) := by decide +kernel
theorem dX0_alike_21 : decode cX0_alike 21 = .ok (.iload_n 1, 1) := by decide +kernel
theorem dX0_alike_22 : decode cX0_alike 22 = .ok (.aaload, 1) := by decide +kernel
theorem dX0_alike_23 : decode cX0_alike 23 = .ok (.iload_n 3, 1) := by decide +kernel
theorem dX0_alike_24 : decode cX0_alike 24 = .ok (.iaload, 1) := by decide +kernel
theorem dX0_alike_25 : decode cX0_alike 25 = .ok (.aload_n 0, 1) := by decide +kernel
theorem dX0_alike_26 : decode cX0_alike 26 = .ok (.iload_n 1, 1) := by decide +kernel
theorem dX0_alike_27 : decode cX0_alike 27 = .ok (.invokevirtual 133, 3) := by decide +kernel
theorem dX0_alike_30 : decode cX0_alike 30 = .ok (.if_icmp .ne 6, 3) := by decide +kernel
theorem dX0_alike_33 : decode cX0_alike 33 = .ok (.iinc 2 1, 3) := by decide +kernel
theorem dX0_alike_36 : decode cX0_alike 36 = .ok (.iinc 3 1, 3) := by decide +kernel
theorem dX0_alike_39 : decode cX0_alike 39 = .ok (.goto (-35), 3) := by decide +kernel
theorem dX0_alike_42 : decode cX0_alike 42 = .ok (.iload_n 2, 1) := by decide +kernel
theorem dX0_alike_43 : decode cX0_alike 43 = .ok (.ireturn, 1) := by decide +kernel
abbrev rmX0_alike : Room := { frames := 1, cells := 0, slots := 0, locals := 21 }
theorem inX0_alike_0 : ∀ w ∈ wsX00, w ∈ wsX0_alike := by decide +kernel
theorem inX0_alike_7 : ∀ w ∈ wsX70, w ∈ wsX0_alike := by decide +kernel
def vX0_alike_c4 (E : Nat → Int32) (M : Nat → Nat → Int32) (be : Nat → Int32) (parts : Int32) (limit : Int32) (len : Nat → Int32) (p1 : Int32) (Q : Int32 → Prop) : Nat → Int32 → Int32 → Prop
  | 0, _, _ => False
  | n + 1, x2, x3 => (vp_in p1 5 ∧ (((len p1.toNatClampNeg) ≤ x3 → (Q x2)) ∧ (¬ (len p1.toNatClampNeg) ≤ x3 → (vp_in p1 5 ∧ (∀ j_22 : Nat, j_22 < 5 → p1 = nI j_22 → (vp_in x3 13 ∧ (∃ (m_27 : Nat → Nat → Int) (p_27 : Nat) (b_27 : Nat), preX0_bestMatch m_27 p_27 b_27 E M be p1 ∧ (∀ r_27 : Int32, postX0_bestMatch m_27 p_27 b_27 E M be p1 r_27 → ((¬ (M j_22 x3.toNatClampNeg) = r_27 → (vX0_alike_c4 E M be parts limit len p1 Q n x2 (x3 + (1 : Int32)))) ∧ ((M j_22 x3.toNatClampNeg) = r_27 → (vX0_alike_c4 E M be parts limit len p1 Q n (x2 + (1 : Int32)) (x3 + (1 : Int32)))))))))))))
set_option maxHeartbeats 4000000 in
set_option maxRecDepth 100000 in
theorem kX0_alike_c4 {p : Program} {l : Launch} {e : Env} {s : State} {m : MethodId} {args : Array Value} {below : List Frame} {meth : Method} {c : Code} {g : GP} {qe : Nat} {qt : Nat} {qh : Nat} {qm : Nat} {qb : Nat} {qx : Nat} {ql : Nat} {qr : Nat} {qv : Nat} {qg : Nat} {aM : Nat → Nat} {E : Nat → Int32} {M : Nat → Nat → Int32} {be : Nat → Int32} {parts : Int32} {limit : Int32} {len : Nat → Int32} {p1 : Int32} {Q : Int32 → Prop} (S : CallFix p m c cX0_alike 4 s args wsX0_alike RX0) (hr : meth.sig.returnType = (some .int)) (hlocks : meth.locks = false) (hG : GK g s) (hP : va_P g.1 vwCl [(qe, .inr (0, [.ref qt, .ref qh, .ref qm, .ref qb, .ref qx, .int (E 5), .int (E 6), .int (E 7), .int (E 8), .int (E 9), .int (E 10), .int (E 11)])), (qm, .inl (g.2 6, 5, .inr (.inr (.inr (.inr (rwM aM)))))), ((aM 0), .inl (g.2 0, 13, .inl (M 0))), ((aM 1), .inl (g.2 0, 13, .inl (M 1))), ((aM 2), .inl (g.2 0, 13, .inl (M 2))), ((aM 3), .inl (g.2 0, 13, .inl (M 3))), ((aM 4), .inl (g.2 0, 13, .inl (M 4))), (qb, .inl (g.2 0, 5, .inl be)), (qt, .inr (7, [.ref ql, .ref qr, .ref qv, .ref qg, .int parts, .int limit])), (ql, .inl (g.2 0, 5, .inl len))] s.heap) : ∀ (n : Nat), ∀ (x2 : Int32) (x3 : Int32), vX0_alike_c4 E M be parts limit len p1 Q n x2 x3 → ∀ (ls : Array Slot), lv_has ls 4 [(0, .ref qe), (1, .int p1), (2, .int x2), (3, .int x3)] → W p l e (headSpec wsX0_alike rmX0_alike).room s m args below meth c s.heap [] 0 0 (MQ below (vp_Si Q) args s 0 0 (fun _ => False)) (F0 m 4 ls []) := by
  obtain ⟨hx, hb, hml, hown, hts⟩ := id S
  have hK := hG.1
  intro n
  induction n with
  | zero => intro x2 x3 hv; exact hv.elim
  | succ n ih =>
    intro x2 x3 hv ls hl
    refine lv_iload_n hx hb dX0_alike_4 rfl (lv_at hl 3 rfl) ?_
    refine lv_aload_n hx hb dX0_alike_5 rfl (lv_at hl 0 rfl) ?_
    refine va_get (D := g.1) (ci := 0) (v := .ref qt) (C := RX0) (T := TX0) (N := 12) hx hb hts inX0_alike_0 hown hK hP 0 rfl rfl 0 (by decide) (hts (.fieldLink RX0 26 "RangeCodes$Ear" "told" "LRangeCodes$Told;") (List.mem_of_getElem? (i := 1) rfl)) (fun _ h9 => h9) rfl dX0_alike_6 ?_
    refine va_get (D := g.1) (ci := 7) (v := .ref ql) (C := RX7) (T := TX7) (N := 6) hx hb hts inX0_alike_7 hown hK hP 8 rfl rfl 0 (by decide) (hts (.fieldLink RX0 107 "RangeCodes$Told" "lengths" "[I") (List.mem_of_getElem? (i := 2) rfl)) (fun _ h9 => h9) rfl dX0_alike_9 ?_
    refine lv_iload_n hx hb dX0_alike_12 rfl (lv_at hl 1 rfl) ?_
    obtain ⟨ho_1, hv⟩ := hv
    refine va_iald hx hb hK hP 9 0 rfl rfl ho_1 dX0_alike_13 ?_
    obtain ⟨hvt, hvf⟩ := hv
    refine lv_icmp_ge (tgt := 42) hx hb dX0_alike_14 (by decide) (fun hc => ?_) (fun hc => ?_)
    · have hv := hvt hc
      refine lv_iload_n hx hb dX0_alike_42 rfl (lv_at hl 2 rfl) ?_
      exact W.iret (v := x2) hx hb hr (fun t ht hW => ⟨_, rfl, hv, ht⟩) (fun _ h => by cases h) dX0_alike_43
    · have hv := hvf hc
      refine lv_aload_n hx hb dX0_alike_17 rfl (lv_at hl 0 rfl) ?_
      refine va_get (D := g.1) (ci := 0) (v := .ref qm) (C := RX0) (T := TX0) (N := 12) hx hb hts inX0_alike_0 hown hK hP 0 rfl rfl 2 (by decide) (hts (.fieldLink RX0 17 "RangeCodes$Ear" "matches" "[[I") (List.mem_of_getElem? (i := 3) rfl)) (fun _ h9 => h9) rfl dX0_alike_18 ?_
      refine lv_iload_n hx hb dX0_alike_21 rfl (lv_at hl 1 rfl) ?_
      obtain ⟨ho_2, hv⟩ := hv
      obtain ⟨j_22, hj_22, ej_22⟩ := vp_in_of ho_2 (by decide)
      have hv := hv j_22 hj_22 ej_22
      refine va_ldM hx hb hK hP 1 6 j_22 rfl rfl ej_22 hj_22 dX0_alike_22 ?_
      refine lv_iload_n hx hb dX0_alike_23 rfl (lv_at hl 3 rfl) ?_
      obtain ⟨ho_3, hv⟩ := hv
      refine va_iald hx hb hK hP (2 + j_22) 0 (co_5 (P := fun k => ([(qe, .inr (0, [.ref qt, .ref qh, .ref qm, .ref qb, .ref qx, .int (E 5), .int (E 6), .int (E 7), .int (E 8), .int (E 9), .int (E 10), .int (E 11)])), (qm, .inl (g.2 6, 5, .inr (.inr (.inr (.inr (rwM aM)))))), ((aM 0), .inl (g.2 0, 13, .inl (M 0))), ((aM 1), .inl (g.2 0, 13, .inl (M 1))), ((aM 2), .inl (g.2 0, 13, .inl (M 2))), ((aM 3), .inl (g.2 0, 13, .inl (M 3))), ((aM 4), .inl (g.2 0, 13, .inl (M 4))), (qb, .inl (g.2 0, 5, .inl be)), (qt, .inr (7, [.ref ql, .ref qr, .ref qv, .ref qg, .int parts, .int limit])), (ql, .inl (g.2 0, 5, .inl len))] : va_W)[2 + k]? = some (aM k, .inl (g.2 0, 13, .inl (M k)))) rfl rfl rfl rfl rfl hj_22) rfl ho_3 dX0_alike_24 ?_
      refine lv_aload_n hx hb dX0_alike_25 rfl (lv_at hl 0 rfl) ?_
      refine lv_iload_n hx hb dX0_alike_26 rfl (lv_at hl 1 rfl) ?_
      obtain ⟨m_27, p_27, b_27, ho_4, hv⟩ := hv
      refine vp_callSi (W.runV (As := [.int p1]) (rest := [.int (M j_22 x3.toNatClampNeg)]) S (wX0_bestMatch l g qe qt qh qm qb qx aM E M be p1 (sX0_bestMatch m_27 p_27 b_27 E M be p1 ho_4)) (cwV 1 hts gX0_alike_X0_bestMatch rfl rfl rfl (by decide +kernel) ⟨Nat.le_of_ble_eq_true rfl, Nat.le_of_ble_eq_true rfl⟩) ⟨blindRO, va_recv hK hP (ci := 0) (q0 := 0) rfl rfl, fun U hU hW => ⟨rfl, by rw [hU]; exact hP.sub (ws' := [(qe, .inr (0, [.ref qt, .ref qh, .ref qm, .ref qb, .ref qx, .int (E 5), .int (E 6), .int (E 7), .int (E 8), .int (E 9), .int (E 10), .int (E 11)])), (qm, .inl (g.2 6, 5, .inr (.inr (.inr (.inr (rwM aM)))))), ((aM 0), .inl (g.2 0, 13, .inl (M 0))), ((aM 1), .inl (g.2 0, 13, .inl (M 1))), ((aM 2), .inl (g.2 0, 13, .inl (M 2))), ((aM 3), .inl (g.2 0, 13, .inl (M 3))), ((aM 4), .inl (g.2 0, 13, .inl (M 4))), (qb, .inl (g.2 0, 5, .inl be))]) [0, 1, 2, 3, 4, 5, 6, 7] rfl, hG.warm hW⟩⟩ rfl rfl hl.1 rfl (lv_room (Nat.le_of_ble_eq_true rfl)) dX0_alike_27 ⟨Nat.le_of_ble_eq_true rfl, Nat.le_of_ble_eq_true rfl⟩) (fun r_27 hr_27 => ?_)
      have hv := hv r_27 hr_27
      obtain ⟨hvt, hvf⟩ := hv
      refine lv_icmp_ne (tgt := 36) hx hb dX0_alike_30 (by decide) (fun hc => ?_) (fun hc => ?_)
      · have hv := hvt hc
        refine lv_iinc (v := (x3 + (1 : Int32))) (lv' := [(3, .int (x3 + (1 : Int32))), (0, .ref qe), (1, .int p1), (2, .int x2)]) hx hb dX0_alike_36 hl (k := 3) rfl rfl (by decide) rfl (fun ls hl => ?_)
        refine lv_goto (tgt := 4) hx hb dX0_alike_39 (by decide) ?_
        exact ih _ _ hv ls (lv_sub hl [1, 2, 3, 0] rfl)
      · have hv := hvf hc
        refine lv_iinc (v := (x2 + (1 : Int32))) (lv' := [(2, .int (x2 + (1 : Int32))), (0, .ref qe), (1, .int p1), (3, .int x3)]) hx hb dX0_alike_33 hl (k := 2) rfl rfl (by decide) rfl (fun ls hl => ?_)
        refine lv_iinc (v := (x3 + (1 : Int32))) (lv' := [(3, .int (x3 + (1 : Int32))), (2, .int (x2 + (1 : Int32))), (0, .ref qe), (1, .int p1)]) hx hb dX0_alike_36 hl (k := 3) rfl rfl (by decide) rfl (fun ls hl => ?_)
        refine lv_goto (tgt := 4) hx hb dX0_alike_39 (by decide) ?_
        exact ih _ _ hv ls (lv_sub hl [2, 3, 1, 0] rfl)
def vX0_alike (E : Nat → Int32) (M : Nat → Nat → Int32) (be : Nat → Int32) (parts : Int32) (limit : Int32) (len : Nat → Int32) (p1 : Int32) (Q : Int32 → Prop) : Prop := (∃ nn, vX0_alike_c4 E M be parts limit len p1 Q nn (0 : Int32) (0 : Int32))
set_option maxHeartbeats 4000000 in
set_option maxRecDepth 100000 in
theorem wX0_alike (l : Launch) (g : GP) (qe : Nat) (qt : Nat) (qh : Nat) (qm : Nat) (qb : Nat) (qx : Nat) (ql : Nat) (qr : Nat) (qv : Nat) (qg : Nat) (aM : Nat → Nat) (E : Nat → Int32) (M : Nat → Nat → Int32) (be : Nat → Int32) (parts : Int32) (limit : Int32) (len : Nat → Int32) (p1 : Int32) {Q : Int32 → Prop} (hv : vX0_alike E M be parts limit len p1 Q) : Met l yX0_alike wsX0_alike rmX0_alike (va_Pc [.ref qe, .int p1] (fun U => va_P g.1 vwCl [(qe, .inr (0, [.ref qt, .ref qh, .ref qm, .ref qb, .ref qx, .int (E 5), .int (E 6), .int (E 7), .int (E 8), .int (E 9), .int (E 10), .int (E 11)])), (qm, .inl (g.2 6, 5, .inr (.inr (.inr (.inr (rwM aM)))))), ((aM 0), .inl (g.2 0, 13, .inl (M 0))), ((aM 1), .inl (g.2 0, 13, .inl (M 1))), ((aM 2), .inl (g.2 0, 13, .inl (M 2))), ((aM 3), .inl (g.2 0, 13, .inl (M 3))), ((aM 4), .inl (g.2 0, 13, .inl (M 4))), (qb, .inl (g.2 0, 5, .inl be)), (qt, .inr (7, [.ref ql, .ref qr, .ref qv, .ref qg, .int parts, .int limit])), (ql, .inl (g.2 0, 5, .inl len))] U.heap ∧ GK g U)) (vp_Si Q) 0 0 (fun _ => False) := by
  refine Met.ofW (cc := cX0_alike) (maxL := 4) (ret := (some .int)) (by decide) rfl ?_
  intro p e s m args below meth c s₁ B hml hv'
  obtain ⟨rfl, hP, hG⟩ := hv'
  have S : CallFix p m c cX0_alike 4 s _ wsX0_alike RX0 := ⟨B.exec, B.bytes, hml, findClass_of_methodNamed B.named, atoms_spec (ws := wsX0_alike) B.pre⟩
  obtain ⟨hx, hb, hml, hown, hts⟩ := id S
  have hK := hG.1
  have hr := B.returns
  have hlocks := B.notSynchronized
  have hl := lv_entry ([.ref qe, .int p1]) (n := 4) (Nat.le_of_ble_eq_true rfl)
  rw [lg_entry_eq]
  generalize (lg_sl ([.ref qe, .int p1]) ++ List.replicate (4 - (lg_sl ([.ref qe, .int p1])).length) Slot.unset).toArray = ls at hl ⊢
  have hl : lv_has ls 4 [(0, .ref qe), (1, .int p1)] := hl
  unfold vX0_alike at hv
  refine lv_iconst (v := (0 : Int32)) hx hb dX0_alike_0 (by decide) ?_
  refine lv_istore_n (lv' := [(2, .int (0 : Int32)), (0, .ref qe), (1, .int p1)]) hx hb dX0_alike_1 rfl hl (by decide) rfl (fun ls hl => ?_)
  refine lv_iconst (v := (0 : Int32)) hx hb dX0_alike_2 (by decide) ?_
  refine lv_istore_n (lv' := [(3, .int (0 : Int32)), (2, .int (0 : Int32)), (0, .ref qe), (1, .int p1)]) hx hb dX0_alike_3 rfl hl (by decide) rfl (fun ls hl => ?_)
  obtain ⟨nn, hv⟩ := hv
  exact kX0_alike_c4 S hr hlocks hG hP nn _ _ hv ls (lv_sub hl [2, 3, 1, 0] rfl)
/-- how many places have a value -/
def alN (m : Nat → Int) (v : Int) : Nat → Nat
  | 0 => 0
  | k + 1 => alN m v k + if m k = v then 1 else 0
theorem alN_le (m : Nat → Int) (v : Int) : ∀ k, alN m v k ≤ k
  | 0 => Nat.le_refl 0
  | k + 1 => by have := alN_le m v k; rw [alN]; split <;> omega
abbrev preX0_alike (T : Cd) (m : Nat → Nat → Int) (p b : Nat) (E : Nat → Int32) (M : Nat → Nat → Int32) (be : Nat → Int32) (parts limit : Int32) (len : Nat → Int32) (p1 : Int32) : Prop := preX0_edge T m p b E M be parts limit len p1
abbrev postX0_alike (T : Cd) (m : Nat → Nat → Int) (p b : Nat) (_ : Nat → Int32) (_ : Nat → Nat → Int32) (_ : Nat → Int32) (_ _ : Int32) (_ : Nat → Int32) (_ r : Int32) : Prop := r.toInt = ((alN (m p) (m p b) (cL T p) : Nat) : Int)
theorem sX0_alike_1 (T : Cd) (m : Nat → Nat → Int) (p b : Nat) (E : Nat → Int32) (M : Nat → Nat → Int32) (be : Nat → Int32) (parts limit : Int32) (len : Nat → Int32) (p1 : Int32) (H : preX0_alike T m p b E M be parts limit len p1) : ∀ (n i : Nat) (x2 x3 : Int32), x2.toInt = ((alN (m p) (m p b) i : Nat) : Int) → x3.toInt = (i : Int) → i ≤ cL T p → cL T p + 1 ≤ i + n → vX0_alike_c4 E M be parts limit len p1 (postX0_alike T m p b E M be parts limit len p1) n x2 x3
  | 0, i, x2, x3, _, _, hi, hn => absurd hn (by omega)
  | n + 1, i, x2, x3, h2, h3, hi, hn => by
    obtain ⟨hn5, hL, hE, h1, hp, hb, hbd⟩ := id H
    have hl := hL p hp
    have he := hE p hp
    have hbl := bst_lt (m p) (cL T p) (by omega)
    have hin : vp_in p1 5 := q_in h1 (by omega)
    have hle := alN_le (m p) (m p b) i
    rw [← hb] at he hbl
    rw [vX0_alike_c4]
    refine ⟨hin, ?_⟩
    rw [q_cl h1, q_le hl.1 h3]
    refine ⟨fun hc => ?_, fun hc => ⟨hin, fun j hj e => ?_⟩⟩
    · have : i = cL T p := by omega
      subst this
      exact h2
    · have := nI_at h1 hj e
      subst this
      have h3s := q_1 h3 (by omega)
      refine ⟨q_in h3 (by omega), m, j, b, ⟨h1, by omega, he.1, by omega, he.2 b hbl⟩, fun r hr => ?_⟩
      rw [q_cl h3, q_eq (he.2 i (by omega)) hr]
      refine ⟨fun hq => sX0_alike_1 T m j b E M be parts limit len p1 H n (i + 1) _ _ ?_ h3s (by omega) (by omega), fun hq => sX0_alike_1 T m j b E M be parts limit len p1 H n (i + 1) _ _ ?_ h3s (by omega) (by omega)⟩
      · rw [alN, if_neg hq]; exact h2
      · rw [alN, if_pos hq]; exact q_1 h2 (by omega)
theorem sX0_alike (T : Cd) (m : Nat → Nat → Int) (p b : Nat) (E : Nat → Int32) (M : Nat → Nat → Int32) (be : Nat → Int32) (parts limit : Int32) (len : Nat → Int32) (p1 : Int32) (H : preX0_alike T m p b E M be parts limit len p1) : vX0_alike E M be parts limit len p1 (postX0_alike T m p b E M be parts limit len p1) :=
  ⟨cL T p + 1, sX0_alike_1 T m p b E M be parts limit len p1 H (cL T p + 1) 0 0 0 rfl rfl (by omega) (by omega)⟩
set_option maxRecDepth 20000 in
theorem ggX0_pickBests_X0_greatest : GoodIn wsX0_pickBests wsX0_greatest := goodIn_r _ [9] (by decide +kernel) (by decide +kernel)
set_option maxRecDepth 20000 in
theorem gX0_pickBests_X0_greatest : GoodIn wsX0_pickBests (va_wsS RX0 129 yX0_greatest wsX0_greatest) := goodIn_app (goodIn_of _ (by decide +kernel)) ggX0_pickBests_X0_greatest
theorem dX0_pickBests_0 : decode cX0_pickBests 0 = .ok (.iconst 0, 1) := by decide +kernel
theorem dX0_pickBests_1 : decode cX0_pickBests 1 = .ok (.istore_n 1, 1) := by decide +kernel
theorem dX0_pickBests_2 : decode cX0_pickBests 2 = .ok (.iload_n 1, 1) := by decide +kernel
theorem dX0_pickBests_3 : decode cX0_pickBests 3 = .ok (.aload_n 0, 1) := by decide +kernel
theorem dX0_pickBests_4 : decode cX0_pickBests 4 = .ok (.getfield 26, 3) := by decide +kernel
theorem dX0_pickBests_7 : decode cX0_pickBests 7 = .ok (.getfield 70, 3) := by decide +kernel
theorem dX0_pickBests_10 : decode cX0_pickBests 10 = .ok (.if_icmp .ge 34, 3) := by decide +kernel
theorem dX0_pickBests_13 : decode cX0_pickBests 13 = .ok (.aload_n 0, 1) := by decide +kernel
theorem dX0_pickBests_14 : decode cX0_pickBests 14 = .ok (.getfield 20, 3) := by decide +kernel
theorem dX0_pickBests_17 : decode cX0_pickBests 17 = .ok (.iload_n 1, 1) := by decide +kernel
theorem dX0_pickBests_18 : decode cX0_pickBests 18 = .ok (.aload_n 0, 1) := by decide +kernel
theorem dX0_pickBests_19 : decode cX0_pickBests 19 = .ok (.getfield 17, 3) := by decide +kernel
theorem dX0_pickBests_22 : decode cX0_pickBests 22 = .ok (.iload_n 1, 1) := by decide +kernel
theorem dX0_pickBests_23 : decode cX0_pickBests 23 = .ok (.aaload, 1) := by decide +kernel
theorem dX0_pickBests_24 : decode cX0_pickBests 24 = .ok (.aload_n 0, 1) := by decide +kernel
theorem dX0_pickBests_25 : decode cX0_pickBests 25 = .ok (.getfield 26, 3) := by decide +kernel
theorem dX0_pickBests_28 : decode cX0_pickBests 28 = .ok (.getfield 107, 3) := by decide +kernel
theorem dX0_pickBests_31 : decode cX0_pickBests 31 = .ok (.iload_n 1, 1) := by decide +kernel
theorem dX0_pickBests_32 : decode cX0_pickBests 32 = .ok (.iaload, 1) := by decide +kernel
theorem dX0_pickBests_33 : decode cX0_pickBests 33 = .ok (.iconst (-1), 1) := by decide +kernel
theorem dX0_pickBests_34 : decode cX0_pickBests 34 = .ok (.invokestatic 129, 3) := by decide +kernel
theorem dX0_pickBests_37 : decode cX0_pickBests 37 = .ok (.iastore, 1) := by decide +kernel
theorem dX0_pickBests_38 : decode cX0_pickBests 38 = .ok (.iinc 1 1, 3) := by decide +kernel
theorem dX0_pickBests_41 : decode cX0_pickBests 41 = .ok (.goto (-39), 3) := by decide +kernel
theorem dX0_pickBests_44 : decode cX0_pickBests 44 = .ok (.return_, 1) := by decide +kernel
abbrev rmX0_pickBests : Room := { frames := 1, cells := 0, slots := 0, locals := 24 }
theorem inX0_pickBests_0 : ∀ w ∈ wsX00, w ∈ wsX0_pickBests := by decide +kernel
theorem inX0_pickBests_7 : ∀ w ∈ wsX70, w ∈ wsX0_pickBests := by decide +kernel
def vX0_pickBests_c2 (E : Nat → Int32) (M : Nat → Nat → Int32) (parts : Int32) (limit : Int32) (len : Nat → Int32) (Q : (Nat → Int32) → Prop) : Nat → Int32 → (Nat → Int32) → Prop
  | 0, _, _ => False
  | n + 1, x1, be => ((parts ≤ x1 → (Q be)) ∧ (¬ parts ≤ x1 → (vp_in x1 5 ∧ (∀ j_23 : Nat, j_23 < 5 → x1 = nI j_23 → (vp_in x1 5 ∧ (∃ (m_34 : Nat → Int) (n_34 : Nat) (bu_34 : Int), preX0_greatest m_34 n_34 bu_34 13 (M j_23) (len x1.toNatClampNeg) (-1 : Int32) ∧ (∀ r_34 : Int32, postX0_greatest m_34 n_34 bu_34 13 (M j_23) (len x1.toNatClampNeg) (-1 : Int32) r_34 → (vp_in x1 5 ∧ (vX0_pickBests_c2 E M parts limit len Q n (x1 + (1 : Int32)) (upd be x1.toNatClampNeg r_34))))))))))
set_option maxHeartbeats 4000000 in
set_option maxRecDepth 100000 in
theorem kX0_pickBests_c2 {p : Program} {l : Launch} {e : Env} {s : State} {m : MethodId} {args : Array Value} {below : List Frame} {meth : Method} {c : Code} {g : GP} {qe : Nat} {qt : Nat} {qh : Nat} {qm : Nat} {qb : Nat} {qx : Nat} {ql : Nat} {qr : Nat} {qv : Nat} {qg : Nat} {aM : Nat → Nat} {E : Nat → Int32} {M : Nat → Nat → Int32} {parts : Int32} {limit : Int32} {len : Nat → Int32}  {Q : (Nat → Int32) → Prop} {A : Nat → Prop} (S : CallFix p m c cX0_pickBests 2 s args wsX0_pickBests RX0) (hr : meth.sig.returnType = none) (hlocks : meth.locks = false) (hG : GK g s) (hA : ∀ q : Nat, s.heap.size ≤ q → A q) : ∀ (n : Nat), ∀ (x1 : Int32) (be : Nat → Int32), vX0_pickBests_c2 E M parts limit len Q n x1 be → ∀ (H : Heap) (locs : List Loc), va_P g.1 vwCl [(qe, .inr (0, [.ref qt, .ref qh, .ref qm, .ref qb, .ref qx, .int (E 5), .int (E 6), .int (E 7), .int (E 8), .int (E 9), .int (E 10), .int (E 11)])), (qm, .inl (g.2 6, 5, .inr (.inr (.inr (.inr (rwM aM)))))), ((aM 0), .inl (g.2 0, 13, .inl (M 0))), ((aM 1), .inl (g.2 0, 13, .inl (M 1))), ((aM 2), .inl (g.2 0, 13, .inl (M 2))), ((aM 3), .inl (g.2 0, 13, .inl (M 3))), ((aM 4), .inl (g.2 0, 13, .inl (M 4))), (qb, .inl (g.2 0, 5, .inl be)), (qt, .inr (7, [.ref ql, .ref qr, .ref qv, .ref qg, .int parts, .int limit])), (ql, .inl (g.2 0, 5, .inl len))] H → va_D A [(qe, .inr (0, [.ref qt, .ref qh, .ref qm, .ref qb, .ref qx, .int (E 5), .int (E 6), .int (E 7), .int (E 8), .int (E 9), .int (E 10), .int (E 11)])), (qm, .inl (g.2 6, 5, .inr (.inr (.inr (.inr (rwM aM)))))), ((aM 0), .inl (g.2 0, 13, .inl (M 0))), ((aM 1), .inl (g.2 0, 13, .inl (M 1))), ((aM 2), .inl (g.2 0, 13, .inl (M 2))), ((aM 3), .inl (g.2 0, 13, .inl (M 3))), ((aM 4), .inl (g.2 0, 13, .inl (M 4))), (qb, .inl (g.2 0, 5, .inl be)), (qt, .inr (7, [.ref ql, .ref qr, .ref qv, .ref qg, .int parts, .int limit])), (ql, .inl (g.2 0, 5, .inl len))] → va_S A s.heap H locs → ∀ (ls : Array Slot), lv_has ls 2 [(0, .ref qe), (1, .int x1)] → W p l e (headSpec wsX0_pickBests rmX0_pickBests).room s m args below meth c H locs 0 0 (MQ below (va_Qv (fun (u : (Nat → Int32)) => Q u) (fun (u : (Nat → Int32)) t => va_P g.1 vwCl [(qe, .inr (0, [.ref qt, .ref qh, .ref qm, .ref qb, .ref qx, .int (E 5), .int (E 6), .int (E 7), .int (E 8), .int (E 9), .int (E 10), .int (E 11)])), (qm, .inl (g.2 6, 5, .inr (.inr (.inr (.inr (rwM aM)))))), ((aM 0), .inl (g.2 0, 13, .inl (M 0))), ((aM 1), .inl (g.2 0, 13, .inl (M 1))), ((aM 2), .inl (g.2 0, 13, .inl (M 2))), ((aM 3), .inl (g.2 0, 13, .inl (M 3))), ((aM 4), .inl (g.2 0, 13, .inl (M 4))), (qb, .inl (g.2 0, 5, .inl u)), (qt, .inr (7, [.ref ql, .ref qr, .ref qv, .ref qg, .int parts, .int limit])), (ql, .inl (g.2 0, 5, .inl len))] t.heap ∧ va_D A [(qe, .inr (0, [.ref qt, .ref qh, .ref qm, .ref qb, .ref qx, .int (E 5), .int (E 6), .int (E 7), .int (E 8), .int (E 9), .int (E 10), .int (E 11)])), (qm, .inl (g.2 6, 5, .inr (.inr (.inr (.inr (rwM aM)))))), ((aM 0), .inl (g.2 0, 13, .inl (M 0))), ((aM 1), .inl (g.2 0, 13, .inl (M 1))), ((aM 2), .inl (g.2 0, 13, .inl (M 2))), ((aM 3), .inl (g.2 0, 13, .inl (M 3))), ((aM 4), .inl (g.2 0, 13, .inl (M 4))), (qb, .inl (g.2 0, 5, .inl u)), (qt, .inr (7, [.ref ql, .ref qr, .ref qv, .ref qg, .int parts, .int limit])), (ql, .inl (g.2 0, 5, .inl len))]) A) args s 0 0 A) (F0 m 2 ls []) := by
  obtain ⟨hx, hb, hml, hown, hts⟩ := id S
  have hK := hG.1
  intro n
  induction n with
  | zero => intro x1 be hv; exact hv.elim
  | succ n ih =>
    intro x1 be hv H locs hP hD hS ls hl
    refine lv_iload_n hx hb dX0_pickBests_2 rfl (lv_at hl 1 rfl) ?_
    refine lv_aload_n hx hb dX0_pickBests_3 rfl (lv_at hl 0 rfl) ?_
    refine va_get (D := g.1) (ci := 0) (v := .ref qt) (C := RX0) (T := TX0) (N := 12) hx hb hts inX0_pickBests_0 hown hK hP 0 rfl rfl 0 (by decide) (hts (.fieldLink RX0 26 "RangeCodes$Ear" "told" "LRangeCodes$Told;") (List.mem_of_getElem? (i := 1) rfl)) (fun _ h9 => h9) rfl dX0_pickBests_4 ?_
    refine va_get (D := g.1) (ci := 7) (v := .int parts) (C := RX7) (T := TX7) (N := 6) hx hb hts inX0_pickBests_7 hown hK hP 8 rfl rfl 4 (by decide) (hts (.fieldLink RX0 70 "RangeCodes$Told" "parts" "I") (List.mem_of_getElem? (i := 2) rfl)) (fun _ h9 => h9) rfl dX0_pickBests_7 ?_
    obtain ⟨hvt, hvf⟩ := hv
    refine lv_icmp_ge (tgt := 44) hx hb dX0_pickBests_10 (by decide) (fun hc => ?_) (fun hc => ?_)
    · have hv := hvt hc
      have hP9 := hP.sub (ws' := [(qe, .inr (0, [.ref qt, .ref qh, .ref qm, .ref qb, .ref qx, .int (E 5), .int (E 6), .int (E 7), .int (E 8), .int (E 9), .int (E 10), .int (E 11)])), (qm, .inl (g.2 6, 5, .inr (.inr (.inr (.inr (rwM aM)))))), ((aM 0), .inl (g.2 0, 13, .inl (M 0))), ((aM 1), .inl (g.2 0, 13, .inl (M 1))), ((aM 2), .inl (g.2 0, 13, .inl (M 2))), ((aM 3), .inl (g.2 0, 13, .inl (M 3))), ((aM 4), .inl (g.2 0, 13, .inl (M 4))), (qb, .inl (g.2 0, 5, .inl be)), (qt, .inr (7, [.ref ql, .ref qr, .ref qv, .ref qg, .int parts, .int limit])), (ql, .inl (g.2 0, 5, .inl len))]) [0, 1, 2, 3, 4, 5, 6, 7, 8, 9] rfl
      have hD9 := hD.sub (ws' := [(qe, .inr (0, [.ref qt, .ref qh, .ref qm, .ref qb, .ref qx, .int (E 5), .int (E 6), .int (E 7), .int (E 8), .int (E 9), .int (E 10), .int (E 11)])), (qm, .inl (g.2 6, 5, .inr (.inr (.inr (.inr (rwM aM)))))), ((aM 0), .inl (g.2 0, 13, .inl (M 0))), ((aM 1), .inl (g.2 0, 13, .inl (M 1))), ((aM 2), .inl (g.2 0, 13, .inl (M 2))), ((aM 3), .inl (g.2 0, 13, .inl (M 3))), ((aM 4), .inl (g.2 0, 13, .inl (M 4))), (qb, .inl (g.2 0, 5, .inl be)), (qt, .inr (7, [.ref ql, .ref qr, .ref qv, .ref qg, .int parts, .int limit])), (ql, .inl (g.2 0, 5, .inl len))]) [0, 1, 2, 3, 4, 5, 6, 7, 8, 9] (by decide) rfl
      exact W.vret hx hb hr (fun t ht hW => ⟨⟨(be), rfl, hv, by rw [ht]; exact hP9, hD9⟩, hS.F ht⟩) hS.2.2 dX0_pickBests_44
    · have hv := hvf hc
      refine lv_aload_n hx hb dX0_pickBests_13 rfl (lv_at hl 0 rfl) ?_
      refine va_get (D := g.1) (ci := 0) (v := .ref qb) (C := RX0) (T := TX0) (N := 12) hx hb hts inX0_pickBests_0 hown hK hP 0 rfl rfl 3 (by decide) (hts (.fieldLink RX0 20 "RangeCodes$Ear" "bests" "[I") (List.mem_of_getElem? (i := 3) rfl)) (fun _ h9 => h9) rfl dX0_pickBests_14 ?_
      refine lv_iload_n hx hb dX0_pickBests_17 rfl (lv_at hl 1 rfl) ?_
      refine lv_aload_n hx hb dX0_pickBests_18 rfl (lv_at hl 0 rfl) ?_
      refine va_get (D := g.1) (ci := 0) (v := .ref qm) (C := RX0) (T := TX0) (N := 12) hx hb hts inX0_pickBests_0 hown hK hP 0 rfl rfl 2 (by decide) (hts (.fieldLink RX0 17 "RangeCodes$Ear" "matches" "[[I") (List.mem_of_getElem? (i := 4) rfl)) (fun _ h9 => h9) rfl dX0_pickBests_19 ?_
      refine lv_iload_n hx hb dX0_pickBests_22 rfl (lv_at hl 1 rfl) ?_
      obtain ⟨ho_1, hv⟩ := hv
      obtain ⟨j_23, hj_23, ej_23⟩ := vp_in_of ho_1 (by decide)
      have hv := hv j_23 hj_23 ej_23
      refine va_ldM hx hb hK hP 1 6 j_23 rfl rfl ej_23 hj_23 dX0_pickBests_23 ?_
      refine lv_aload_n hx hb dX0_pickBests_24 rfl (lv_at hl 0 rfl) ?_
      refine va_get (D := g.1) (ci := 0) (v := .ref qt) (C := RX0) (T := TX0) (N := 12) hx hb hts inX0_pickBests_0 hown hK hP 0 rfl rfl 0 (by decide) (hts (.fieldLink RX0 26 "RangeCodes$Ear" "told" "LRangeCodes$Told;") (List.mem_of_getElem? (i := 1) rfl)) (fun _ h9 => h9) rfl dX0_pickBests_25 ?_
      refine va_get (D := g.1) (ci := 7) (v := .ref ql) (C := RX7) (T := TX7) (N := 6) hx hb hts inX0_pickBests_7 hown hK hP 8 rfl rfl 0 (by decide) (hts (.fieldLink RX0 107 "RangeCodes$Told" "lengths" "[I") (List.mem_of_getElem? (i := 5) rfl)) (fun _ h9 => h9) rfl dX0_pickBests_28 ?_
      refine lv_iload_n hx hb dX0_pickBests_31 rfl (lv_at hl 1 rfl) ?_
      obtain ⟨ho_2, hv⟩ := hv
      refine va_iald hx hb hK hP 9 0 rfl rfl ho_2 dX0_pickBests_32 ?_
      refine lv_iconst (v := (-1 : Int32)) hx hb dX0_pickBests_33 (by decide) ?_
      obtain ⟨m_34, n_34, bu_34, ho_3, hv⟩ := hv
      have hPr : va_P g.1 vwCl [((aM j_23), .inl (g.2 0, 13, .inl (M j_23)))] H := by
        rcases (show j_23 = 0 ∨ j_23 = 1 ∨ j_23 = 2 ∨ j_23 = 3 ∨ j_23 = 4 by omega) with rfl | rfl | rfl | rfl | rfl
        · exact hP.sub [2] rfl
        · exact hP.sub [3] rfl
        · exact hP.sub [4] rfl
        · exact hP.sub [5] rfl
        · exact hP.sub [6] rfl
      refine vp_callSi (W.runS (As := [.ref (aM j_23), .int (len x1.toNatClampNeg), .int (-1 : Int32)]) (rest := [.int x1, .ref qb]) S (wX0_greatest l g (aM j_23) 13 (M j_23) (len x1.toNatClampNeg) (-1 : Int32) (sX0_greatest m_34 n_34 bu_34 13 (M j_23) (len x1.toNatClampNeg) (-1 : Int32) ho_3)) (va_cwS 3 hts gX0_pickBests_X0_greatest rfl rfl rfl (by decide +kernel) ⟨Nat.le_of_ble_eq_true rfl, Nat.le_of_ble_eq_true rfl⟩) ⟨blindRO, fun U hU hW => ⟨rfl, by rw [hU]; exact hPr, hG.warm hW⟩⟩ rfl rfl hl.1 rfl (lv_room (Nat.le_of_ble_eq_true rfl)) dX0_pickBests_34 ⟨Nat.le_of_ble_eq_true rfl, Nat.le_of_ble_eq_true rfl⟩) (fun r_34 hr_34 => ?_)
      have hv := hv r_34 hr_34
      obtain ⟨ho_4, hv⟩ := hv
      refine va_iast hx hb hK hP hD hS 7 0 rfl rfl ho_4 dX0_pickBests_37 (fun H locs hP hD hS => ?_)
      have hP : va_P g.1 vwCl [(qe, .inr (0, [.ref qt, .ref qh, .ref qm, .ref qb, .ref qx, .int (E 5), .int (E 6), .int (E 7), .int (E 8), .int (E 9), .int (E 10), .int (E 11)])), (qm, .inl (g.2 6, 5, .inr (.inr (.inr (.inr (rwM aM)))))), ((aM 0), .inl (g.2 0, 13, .inl (M 0))), ((aM 1), .inl (g.2 0, 13, .inl (M 1))), ((aM 2), .inl (g.2 0, 13, .inl (M 2))), ((aM 3), .inl (g.2 0, 13, .inl (M 3))), ((aM 4), .inl (g.2 0, 13, .inl (M 4))), (qb, .inl (g.2 0, 5, .inl (upd be x1.toNatClampNeg r_34))), (qt, .inr (7, [.ref ql, .ref qr, .ref qv, .ref qg, .int parts, .int limit])), (ql, .inl (g.2 0, 5, .inl len))] H := hP
      have hD : va_D A [(qe, .inr (0, [.ref qt, .ref qh, .ref qm, .ref qb, .ref qx, .int (E 5), .int (E 6), .int (E 7), .int (E 8), .int (E 9), .int (E 10), .int (E 11)])), (qm, .inl (g.2 6, 5, .inr (.inr (.inr (.inr (rwM aM)))))), ((aM 0), .inl (g.2 0, 13, .inl (M 0))), ((aM 1), .inl (g.2 0, 13, .inl (M 1))), ((aM 2), .inl (g.2 0, 13, .inl (M 2))), ((aM 3), .inl (g.2 0, 13, .inl (M 3))), ((aM 4), .inl (g.2 0, 13, .inl (M 4))), (qb, .inl (g.2 0, 5, .inl (upd be x1.toNatClampNeg r_34))), (qt, .inr (7, [.ref ql, .ref qr, .ref qv, .ref qg, .int parts, .int limit])), (ql, .inl (g.2 0, 5, .inl len))] := hD
      refine lv_iinc (v := (x1 + (1 : Int32))) (lv' := [(1, .int (x1 + (1 : Int32))), (0, .ref qe)]) hx hb dX0_pickBests_38 hl (k := 1) rfl rfl (by decide) rfl (fun ls hl => ?_)
      refine lv_goto (tgt := 2) hx hb dX0_pickBests_41 (by decide) ?_
      exact ih _ _ hv _ _ (hP.sub (ws' := [(qe, .inr (0, [.ref qt, .ref qh, .ref qm, .ref qb, .ref qx, .int (E 5), .int (E 6), .int (E 7), .int (E 8), .int (E 9), .int (E 10), .int (E 11)])), (qm, .inl (g.2 6, 5, .inr (.inr (.inr (.inr (rwM aM)))))), ((aM 0), .inl (g.2 0, 13, .inl (M 0))), ((aM 1), .inl (g.2 0, 13, .inl (M 1))), ((aM 2), .inl (g.2 0, 13, .inl (M 2))), ((aM 3), .inl (g.2 0, 13, .inl (M 3))), ((aM 4), .inl (g.2 0, 13, .inl (M 4))), (qb, .inl (g.2 0, 5, .inl (upd be x1.toNatClampNeg r_34))), (qt, .inr (7, [.ref ql, .ref qr, .ref qv, .ref qg, .int parts, .int limit])), (ql, .inl (g.2 0, 5, .inl len))]) [0, 1, 2, 3, 4, 5, 6, 7, 8, 9] rfl) (hD.sub (ws' := [(qe, .inr (0, [.ref qt, .ref qh, .ref qm, .ref qb, .ref qx, .int (E 5), .int (E 6), .int (E 7), .int (E 8), .int (E 9), .int (E 10), .int (E 11)])), (qm, .inl (g.2 6, 5, .inr (.inr (.inr (.inr (rwM aM)))))), ((aM 0), .inl (g.2 0, 13, .inl (M 0))), ((aM 1), .inl (g.2 0, 13, .inl (M 1))), ((aM 2), .inl (g.2 0, 13, .inl (M 2))), ((aM 3), .inl (g.2 0, 13, .inl (M 3))), ((aM 4), .inl (g.2 0, 13, .inl (M 4))), (qb, .inl (g.2 0, 5, .inl (upd be x1.toNatClampNeg r_34))), (qt, .inr (7, [.ref ql, .ref qr, .ref qv, .ref qg, .int parts, .int limit])), (ql, .inl (g.2 0, 5, .inl len))]) [0, 1, 2, 3, 4, 5, 6, 7, 8, 9] (by decide) rfl) hS ls (lv_sub hl [1, 0] rfl)
def vX0_pickBests (E : Nat → Int32) (M : Nat → Nat → Int32) (be : Nat → Int32) (parts : Int32) (limit : Int32) (len : Nat → Int32) (Q : (Nat → Int32) → Prop) : Prop := (∃ nn, vX0_pickBests_c2 E M parts limit len Q nn (0 : Int32) be)
set_option maxHeartbeats 4000000 in
set_option maxRecDepth 100000 in
theorem wX0_pickBests (l : Launch) (g : GP) (qe : Nat) (qt : Nat) (qh : Nat) (qm : Nat) (qb : Nat) (qx : Nat) (ql : Nat) (qr : Nat) (qv : Nat) (qg : Nat) (aM : Nat → Nat) (sz : Nat) (E : Nat → Int32) (M : Nat → Nat → Int32) (be : Nat → Int32) (parts : Int32) (limit : Int32) (len : Nat → Int32) {Q : (Nat → Int32) → Prop} (hv : vX0_pickBests E M be parts limit len Q) : Met l yX0_pickBests wsX0_pickBests rmX0_pickBests (va_Pc [.ref qe] (fun U => U.heap.size = sz ∧ va_P g.1 vwCl [(qe, .inr (0, [.ref qt, .ref qh, .ref qm, .ref qb, .ref qx, .int (E 5), .int (E 6), .int (E 7), .int (E 8), .int (E 9), .int (E 10), .int (E 11)])), (qm, .inl (g.2 6, 5, .inr (.inr (.inr (.inr (rwM aM)))))), ((aM 0), .inl (g.2 0, 13, .inl (M 0))), ((aM 1), .inl (g.2 0, 13, .inl (M 1))), ((aM 2), .inl (g.2 0, 13, .inl (M 2))), ((aM 3), .inl (g.2 0, 13, .inl (M 3))), ((aM 4), .inl (g.2 0, 13, .inl (M 4))), (qb, .inl (g.2 0, 5, .inl be)), (qt, .inr (7, [.ref ql, .ref qr, .ref qv, .ref qg, .int parts, .int limit])), (ql, .inl (g.2 0, 5, .inl len))] U.heap ∧ GK g U ∧ va_D (fun _ => True) [(qe, .inr (0, [.ref qt, .ref qh, .ref qm, .ref qb, .ref qx, .int (E 5), .int (E 6), .int (E 7), .int (E 8), .int (E 9), .int (E 10), .int (E 11)])), (qm, .inl (g.2 6, 5, .inr (.inr (.inr (.inr (rwM aM)))))), ((aM 0), .inl (g.2 0, 13, .inl (M 0))), ((aM 1), .inl (g.2 0, 13, .inl (M 1))), ((aM 2), .inl (g.2 0, 13, .inl (M 2))), ((aM 3), .inl (g.2 0, 13, .inl (M 3))), ((aM 4), .inl (g.2 0, 13, .inl (M 4))), (qb, .inl (g.2 0, 5, .inl be)), (qt, .inr (7, [.ref ql, .ref qr, .ref qv, .ref qg, .int parts, .int limit])), (ql, .inl (g.2 0, 5, .inl len))])) (va_Qv (fun (u : (Nat → Int32)) => Q u) (fun (u : (Nat → Int32)) t => va_P g.1 vwCl [(qe, .inr (0, [.ref qt, .ref qh, .ref qm, .ref qb, .ref qx, .int (E 5), .int (E 6), .int (E 7), .int (E 8), .int (E 9), .int (E 10), .int (E 11)])), (qm, .inl (g.2 6, 5, .inr (.inr (.inr (.inr (rwM aM)))))), ((aM 0), .inl (g.2 0, 13, .inl (M 0))), ((aM 1), .inl (g.2 0, 13, .inl (M 1))), ((aM 2), .inl (g.2 0, 13, .inl (M 2))), ((aM 3), .inl (g.2 0, 13, .inl (M 3))), ((aM 4), .inl (g.2 0, 13, .inl (M 4))), (qb, .inl (g.2 0, 5, .inl u)), (qt, .inr (7, [.ref ql, .ref qr, .ref qv, .ref qg, .int parts, .int limit])), (ql, .inl (g.2 0, 5, .inl len))] t.heap ∧ va_D (va_A [(qe, .inr (0, [.ref qt, .ref qh, .ref qm, .ref qb, .ref qx, .int (E 5), .int (E 6), .int (E 7), .int (E 8), .int (E 9), .int (E 10), .int (E 11)])), (qm, .inl (g.2 6, 5, .inr (.inr (.inr (.inr (rwM aM)))))), ((aM 0), .inl (g.2 0, 13, .inl (M 0))), ((aM 1), .inl (g.2 0, 13, .inl (M 1))), ((aM 2), .inl (g.2 0, 13, .inl (M 2))), ((aM 3), .inl (g.2 0, 13, .inl (M 3))), ((aM 4), .inl (g.2 0, 13, .inl (M 4))), (qb, .inl (g.2 0, 5, .inl be)), (qt, .inr (7, [.ref ql, .ref qr, .ref qv, .ref qg, .int parts, .int limit])), (ql, .inl (g.2 0, 5, .inl len))] sz) [(qe, .inr (0, [.ref qt, .ref qh, .ref qm, .ref qb, .ref qx, .int (E 5), .int (E 6), .int (E 7), .int (E 8), .int (E 9), .int (E 10), .int (E 11)])), (qm, .inl (g.2 6, 5, .inr (.inr (.inr (.inr (rwM aM)))))), ((aM 0), .inl (g.2 0, 13, .inl (M 0))), ((aM 1), .inl (g.2 0, 13, .inl (M 1))), ((aM 2), .inl (g.2 0, 13, .inl (M 2))), ((aM 3), .inl (g.2 0, 13, .inl (M 3))), ((aM 4), .inl (g.2 0, 13, .inl (M 4))), (qb, .inl (g.2 0, 5, .inl u)), (qt, .inr (7, [.ref ql, .ref qr, .ref qv, .ref qg, .int parts, .int limit])), (ql, .inl (g.2 0, 5, .inl len))]) (va_A [(qe, .inr (0, [.ref qt, .ref qh, .ref qm, .ref qb, .ref qx, .int (E 5), .int (E 6), .int (E 7), .int (E 8), .int (E 9), .int (E 10), .int (E 11)])), (qm, .inl (g.2 6, 5, .inr (.inr (.inr (.inr (rwM aM)))))), ((aM 0), .inl (g.2 0, 13, .inl (M 0))), ((aM 1), .inl (g.2 0, 13, .inl (M 1))), ((aM 2), .inl (g.2 0, 13, .inl (M 2))), ((aM 3), .inl (g.2 0, 13, .inl (M 3))), ((aM 4), .inl (g.2 0, 13, .inl (M 4))), (qb, .inl (g.2 0, 5, .inl be)), (qt, .inr (7, [.ref ql, .ref qr, .ref qv, .ref qg, .int parts, .int limit])), (ql, .inl (g.2 0, 5, .inl len))] sz)) 0 0 (va_A [(qe, .inr (0, [.ref qt, .ref qh, .ref qm, .ref qb, .ref qx, .int (E 5), .int (E 6), .int (E 7), .int (E 8), .int (E 9), .int (E 10), .int (E 11)])), (qm, .inl (g.2 6, 5, .inr (.inr (.inr (.inr (rwM aM)))))), ((aM 0), .inl (g.2 0, 13, .inl (M 0))), ((aM 1), .inl (g.2 0, 13, .inl (M 1))), ((aM 2), .inl (g.2 0, 13, .inl (M 2))), ((aM 3), .inl (g.2 0, 13, .inl (M 3))), ((aM 4), .inl (g.2 0, 13, .inl (M 4))), (qb, .inl (g.2 0, 5, .inl be)), (qt, .inr (7, [.ref ql, .ref qr, .ref qv, .ref qg, .int parts, .int limit])), (ql, .inl (g.2 0, 5, .inl len))] sz) := by
  refine Met.ofW (cc := cX0_pickBests) (maxL := 2) (ret := none) (by decide) rfl ?_
  intro p e s m args below meth c s₁ B hml hv'
  obtain ⟨rfl, hsz, hP, hG, hD0⟩ := hv'
  have S : CallFix p m c cX0_pickBests 2 s _ wsX0_pickBests RX0 := ⟨B.exec, B.bytes, hml, findClass_of_methodNamed B.named, atoms_spec (ws := wsX0_pickBests) B.pre⟩
  obtain ⟨hx, hb, hml, hown, hts⟩ := id S
  have hK := hG.1
  have hr := B.returns
  have hlocks := B.notSynchronized
  subst hsz
  have hD := hD0.self (sz := s.heap.size)
  generalize hAe : va_A [(qe, .inr (0, [.ref qt, .ref qh, .ref qm, .ref qb, .ref qx, .int (E 5), .int (E 6), .int (E 7), .int (E 8), .int (E 9), .int (E 10), .int (E 11)])), (qm, .inl (g.2 6, 5, .inr (.inr (.inr (.inr (rwM aM)))))), ((aM 0), .inl (g.2 0, 13, .inl (M 0))), ((aM 1), .inl (g.2 0, 13, .inl (M 1))), ((aM 2), .inl (g.2 0, 13, .inl (M 2))), ((aM 3), .inl (g.2 0, 13, .inl (M 3))), ((aM 4), .inl (g.2 0, 13, .inl (M 4))), (qb, .inl (g.2 0, 5, .inl be)), (qt, .inr (7, [.ref ql, .ref qr, .ref qv, .ref qg, .int parts, .int limit])), (ql, .inl (g.2 0, 5, .inl len))] s.heap.size = A at hD ⊢
  have hA : ∀ q : Nat, s.heap.size ≤ q → A q := fun q h => by rw [← hAe]; exact Or.inr h
  have hS : va_S A s.heap s.heap [] := va_S.rf
  clear hD0 hAe
  have hl := lv_entry ([.ref qe]) (n := 2) (Nat.le_of_ble_eq_true rfl)
  rw [lg_entry_eq]
  generalize (lg_sl ([.ref qe]) ++ List.replicate (2 - (lg_sl ([.ref qe])).length) Slot.unset).toArray = ls at hl ⊢
  have hl : lv_has ls 2 [(0, .ref qe)] := hl
  unfold vX0_pickBests at hv
  refine lv_iconst (v := (0 : Int32)) hx hb dX0_pickBests_0 (by decide) ?_
  refine lv_istore_n (lv' := [(1, .int (0 : Int32)), (0, .ref qe)]) hx hb dX0_pickBests_1 rfl hl (by decide) rfl (fun ls hl => ?_)
  obtain ⟨nn, hv⟩ := hv
  exact kX0_pickBests_c2 S hr hlocks hG hA nn _ _ hv _ _ (hP.sub (ws' := [(qe, .inr (0, [.ref qt, .ref qh, .ref qm, .ref qb, .ref qx, .int (E 5), .int (E 6), .int (E 7), .int (E 8), .int (E 9), .int (E 10), .int (E 11)])), (qm, .inl (g.2 6, 5, .inr (.inr (.inr (.inr (rwM aM)))))), ((aM 0), .inl (g.2 0, 13, .inl (M 0))), ((aM 1), .inl (g.2 0, 13, .inl (M 1))), ((aM 2), .inl (g.2 0, 13, .inl (M 2))), ((aM 3), .inl (g.2 0, 13, .inl (M 3))), ((aM 4), .inl (g.2 0, 13, .inl (M 4))), (qb, .inl (g.2 0, 5, .inl be)), (qt, .inr (7, [.ref ql, .ref qr, .ref qv, .ref qg, .int parts, .int limit])), (ql, .inl (g.2 0, 5, .inl len))]) [0, 1, 2, 3, 4, 5, 6, 7, 8, 9] rfl) (hD.sub (ws' := [(qe, .inr (0, [.ref qt, .ref qh, .ref qm, .ref qb, .ref qx, .int (E 5), .int (E 6), .int (E 7), .int (E 8), .int (E 9), .int (E 10), .int (E 11)])), (qm, .inl (g.2 6, 5, .inr (.inr (.inr (.inr (rwM aM)))))), ((aM 0), .inl (g.2 0, 13, .inl (M 0))), ((aM 1), .inl (g.2 0, 13, .inl (M 1))), ((aM 2), .inl (g.2 0, 13, .inl (M 2))), ((aM 3), .inl (g.2 0, 13, .inl (M 3))), ((aM 4), .inl (g.2 0, 13, .inl (M 4))), (qb, .inl (g.2 0, 5, .inl be)), (qt, .inr (7, [.ref ql, .ref qr, .ref qv, .ref qg, .int parts, .int limit])), (ql, .inl (g.2 0, 5, .inl len))]) [0, 1, 2, 3, 4, 5, 6, 7, 8, 9] (by decide) rfl) hS ls (lv_sub hl [1, 0] rfl)
abbrev preX0_pickBests (T : Cd) (m : Nat → Nat → Int) (_ : Nat → Int32) (M : Nat → Nat → Int32) (_ : Nat → Int32) (parts _ : Int32) (len : Nat → Int32) : Prop := isN T parts ∧ isL T len ∧ ∀ p, p < cn T → ∀ w, w < cL T p → (M p w).toInt = m p w
abbrev postX0_pickBests (T : Cd) (m : Nat → Nat → Int) (_ : Nat → Int32) (_ : Nat → Nat → Int32) (_ : Nat → Int32) (_ _ : Int32) (_ : Nat → Int32) (be' : Nat → Int32) : Prop := ∀ p, p < cn T → (be' p).toInt = ((bst (m p) (cL T p) : Nat) : Int)
theorem sX0_pickBests_1 (T : Cd) (m : Nat → Nat → Int) (E : Nat → Int32) (M : Nat → Nat → Int32) (be0 : Nat → Int32) (parts limit : Int32) (len : Nat → Int32) (H : preX0_pickBests T m E M be0 parts limit len) : ∀ (n i : Nat) (x1 : Int32) (be : Nat → Int32), x1.toInt = (i : Int) → i ≤ cn T → cn T + 1 ≤ i + n → (∀ p, p < i → (be p).toInt = ((bst (m p) (cL T p) : Nat) : Int)) → vX0_pickBests_c2 E M parts limit len (postX0_pickBests T m E M be0 parts limit len) n x1 be
  | 0, i, x1, be, _, hi, hn, _ => absurd hn (by omega)
  | n + 1, i, x1, be, h1, hi, hn, hb => by
    obtain ⟨hN, hL, hM⟩ := id H
    have hn5 := hN.2
    rw [vX0_pickBests_c2, q_le hN.1 h1]
    refine ⟨fun hc => ?_, fun hc => ?_⟩
    · have : i = cn T := by omega
      subst this
      exact hb
    · have hin : vp_in x1 5 := q_in h1 (by omega)
      refine ⟨hin, fun j hj e => ?_⟩
      have := nI_at h1 hj e
      subst this
      have hl := hL j (by omega)
      refine ⟨hin, m j, cL T j, -1, ⟨by rw [q_cl h1]; exact hl.1, by omega, by omega, by omega, fun q => absurd q (by omega), rfl, hM j (by omega)⟩, fun r hr => ⟨hin, ?_⟩⟩
      refine sX0_pickBests_1 T m E M be0 parts limit len H n (j + 1) _ _ (q_1 h1 (by omega)) (by omega) (by omega) (fun p hp => ?_)
      rw [q_cl h1]
      unfold upd
      by_cases e2 : p = j
      · subst e2
        rw [if_pos rfl, ← bsx_bst]; exact hr
      · rw [if_neg e2]; exact hb p (by omega)
theorem sX0_pickBests (T : Cd) (m : Nat → Nat → Int) (E : Nat → Int32) (M : Nat → Nat → Int32) (be : Nat → Int32) (parts limit : Int32) (len : Nat → Int32) (H : preX0_pickBests T m E M be parts limit len) : vX0_pickBests E M be parts limit len (postX0_pickBests T m E M be parts limit len) :=
  ⟨cn T + 1, sX0_pickBests_1 T m E M be parts limit len H (cn T + 1) 0 0 be rfl (by omega) (by omega) (fun p hp => absurd hp (by omega))⟩
set_option maxRecDepth 20000 in
theorem ggX0_matchAll_J7_fill_53178 : GoodIn wsX0_matchAll wsJ7_fill_53178 := goodIn_r _ [10] (by decide +kernel) (by decide +kernel)
set_option maxRecDepth 20000 in
theorem gX0_matchAll_J7_fill_53178 : GoodIn wsX0_matchAll (va_wsS RX0 110 yJ7_fill_53178 wsJ7_fill_53178) := goodIn_app (goodIn_of _ (by decide +kernel)) ggX0_matchAll_J7_fill_53178
set_option maxRecDepth 20000 in
theorem ggX0_matchAll_X8_rest : GoodIn wsX0_matchAll wsX8_rest := goodIn_r _ [13] (by decide +kernel) (by decide +kernel)
set_option maxRecDepth 20000 in
theorem gX0_matchAll_X8_rest_n116 : GoodIn wsX0_matchAll (wsX8_rest) := ggX0_matchAll_X8_rest
set_option maxRecDepth 20000 in
theorem ggX0_matchAll_X0_sign : GoodIn wsX0_matchAll wsX0_sign := goodIn_r _ [18, 19, 31, 32, 33, 34, 35, 36, 37, 38, 39, 40, 41, 42] (by decide +kernel) (by decide +kernel)
set_option maxRecDepth 20000 in
theorem gX0_matchAll_X0_sign : GoodIn wsX0_matchAll (wsV RX0 119 RX0 yX0_sign wsX0_sign) := goodIn_app (goodIn_of _ (by decide +kernel)) ggX0_matchAll_X0_sign
set_option maxRecDepth 20000 in
theorem ggX0_matchAll_X0_addMatches : GoodIn wsX0_matchAll wsX0_addMatches := goodIn_r _ [23, 1, 2, 24, 25, 26, 27, 28, 29, 30, 11, 12, 13, 31, 32, 33, 34, 35, 36, 37, 38, 39, 40, 41, 42, 43, 44, 45, 46, 47, 48] (by decide +kernel) (by decide +kernel)
set_option maxRecDepth 20000 in
theorem gX0_matchAll_X0_addMatches : GoodIn wsX0_matchAll (wsV RX0 122 RX0 yX0_addMatches wsX0_addMatches) := goodIn_app (goodIn_of _ (by decide +kernel)) ggX0_matchAll_X0_addMatches
theorem dX0_matchAll_0 : decode cX0_matchAll 0 = .ok (.aload_n 0, 1) := by decide +kernel
theorem dX0_matchAll_1 : decode cX0_matchAll 1 = .ok (.getfield 26, 3) := by decide +kernel
theorem dX0_matchAll_4 : decode cX0_matchAll 4 = .ok (.getfield 107, 3) := by decide +kernel
theorem dX0_matchAll_7 : decode cX0_matchAll 7 = .ok (.iload_n 1, 1) := by decide +kernel
theorem dX0_matchAll_8 : decode cX0_matchAll 8 = .ok (.iaload, 1) := by decide +kernel
theorem dX0_matchAll_9 : decode cX0_matchAll 9 = .ok (.istore_n 2, 1) := by decide +kernel
theorem dX0_matchAll_10 : decode cX0_matchAll 10 = .ok (.aload_n 0, 1) := by decide +kernel
theorem dX0_matchAll_11 : decode cX0_matchAll 11 = .ok (.getfield 23, 3) := by decide +kernel
theorem dX0_matchAll_14 : decode cX0_matchAll 14 = .ok (.iconst 0, 1) := by decide +kernel
theorem dX0_matchAll_15 : decode cX0_matchAll 15 = .ok (.invokestatic 110, 3) := by decide +kernel
theorem dX0_matchAll_18 : decode cX0_matchAll 18 = .ok (.aload_n 0, 1) := by decide +kernel
theorem dX0_matchAll_19 : decode cX0_matchAll 19 = .ok (.getfield 60, 3) := by decide +kernel
theorem dX0_matchAll_22 : decode cX0_matchAll 22 = .ok (.iload_n 2, 1) := by decide +kernel
theorem dX0_matchAll_23 : decode cX0_matchAll 23 = .ok (.invokestatic 116, 3) := by decide +kernel
theorem dX0_matchAll_26 : decode cX0_matchAll 26 = .ok (.istore_n 3, 1) := by decide +kernel
theorem dX0_matchAll_27 : decode cX0_matchAll 27 = .ok (.iconst 0, 1) := by decide +kernel
theorem dX0_matchAll_28 : decode cX0_matchAll 28 = .ok (.istore 4, 2) := by decide +kernel
theorem dX0_matchAll_30 : decode cX0_matchAll 30 = .ok (.iload 4, 2) := by decide +kernel
theorem dX0_matchAll_32 : decode cX0_matchAll 32 = .ok (.aload_n 0, 1) := by decide +kernel
theorem dX0_matchAll_33 : decode cX0_matchAll 33 = .ok (.getfield 63, 3) := by decide +kernel
theorem dX0_matchAll_36 : decode cX0_matchAll 36 = .ok (.if_icmp .ge 39, 3) := by decide +kernel
theorem dX0_matchAll_39 : decode cX0_matchAll 39 = .ok (.aload_n 0, 1) := by decide +kernel
theorem dX0_matchAll_40 : decode cX0_matchAll 40 = .ok (.getfield 23, 3) := by decide +kernel
theorem dX0_matchAll_43 : decode cX0_matchAll 43 = .ok (.iload_n 3, 1) := by decide +kernel
theorem dX0_matchAll_44 : decode cX0_matchAll 44 = .ok (.dup2, 1) := by decide +kernel
theorem dX0_matchAll_45 : decode cX0_matchAll 45 = .ok (.iaload, 1) := by decide +kernel
theorem dX0_matchAll_46 : decode cX0_matchAll 46 = .ok (.aload_n 0, 1) := by decide +kernel
theorem dX0_matchAll_47 : decode cX0_matchAll 47 = .ok (.iload 4, 2) := by decide +kernel
theorem dX0_matchAll_49 : decode cX0_matchAll 49 = .ok (.invokevirtual 119, 3) := by decide +kernel
theorem dX0_matchAll_52 : decode cX0_matchAll 52 = .ok (.iadd, 1) := by decide +kernel
theorem dX0_matchAll_53 : decode cX0_matchAll 53 = .ok (.iastore, 1) := by decide +kernel
theorem dX0_matchAll_54 : decode cX0_matchAll 54 = .ok (.iload_n 3, 1) := by decide +kernel
theorem dX0_matchAll_55 : decode cX0_matchAll 55 = .ok (.iconst 1, 1) := by decide +kernel
theorem dX0_matchAll_56 : decode cX0_matchAll 56 = .ok (.iadd, 1) := by decide +kernel
theorem dX0_matchAll_57 : decode cX0_matchAll 57 = .ok (.iload_n 2, 1) := by decide +kernel
theorem dX0_matchAll_58 : decode cX0_matchAll 58 = .ok (.if_icmp .ge 9, 3) := by decide +kernel
theorem dX0_matchAll_61 : decode cX0_matchAll 61 = .ok (.iload_n 3, 1) := by decide +kernel
theorem dX0_matchAll_62 : decode cX0_matchAll 62 = .ok (.iconst 1, 1) := by decide +kernel
theorem dX0_matchAll_63 : decode cX0_matchAll 63 = .ok (.iadd, 1) := by decide +kernel
theorem dX0_matchAll_64 : decode cX0_matchAll 64 = .ok (.goto 4, 3) := by decide +kernel
theorem dX0_matchAll_67 : decode cX0_matchAll 67 = .ok (.iconst 0, 1) := by decide +kernel
theorem dX0_matchAll_68 : decode cX0_matchAll 68 = .ok (.istore_n 3, 1) := by decide +kernel
theorem dX0_matchAll_69 : decode cX0_matchAll 69 = .ok (.iinc 4 1, 3) := by decide +kernel
theorem dX0_matchAll_72 : decode cX0_matchAll 72 = .ok (.goto (-42), 3) := by decide +kernel
theorem dX0_matchAll_75 : decode cX0_matchAll 75 = .ok (.aload_n 0, 1) := by decide +kernel
theorem dX0_matchAll_76 : decode cX0_matchAll 76 = .ok (.getfield 17, 3) := by decide +kernel
theorem dX0_matchAll_79 : decode cX0_matchAll 79 = .ok (.iload_n 1, 1) := by decide +kernel
theorem dX0_matchAll_80 : decode cX0_matchAll 80 = .ok (.aaload, 1) := by decide +kernel
theorem dX0_matchAll_81 : decode cX0_matchAll 81 = .ok (.iconst 0, 1) := by decide +kernel
theorem dX0_matchAll_82 : decode cX0_matchAll 82 = .ok (.invokestatic 110, 3) := by decide +kernel
theorem dX0_matchAll_85 : decode cX0_matchAll 85 = .ok (.iconst 0, 1) := by decide +kernel
theorem dX0_matchAll_86 : decode cX0_matchAll 86 = .ok (.istore 4, 2) := by decide +kernel
theorem dX0_matchAll_88 : decode cX0_matchAll 88 = .ok (.iload 4, 2) := by decide +kernel
theorem dX0_matchAll_90 : decode cX0_matchAll 90 = .ok (.iload_n 2, 1) := by decide +kernel
theorem dX0_matchAll_91 : decode cX0_matchAll 91 = .ok (.if_icmp .ge 29, 3) := by decide +kernel
theorem dX0_matchAll_94 : decode cX0_matchAll 94 = .ok (.aload_n 0, 1) := by decide +kernel
theorem dX0_matchAll_95 : decode cX0_matchAll 95 = .ok (.aload_n 0, 1) := by decide +kernel
theorem dX0_matchAll_96 : decode cX0_matchAll 96 = .ok (.getfield 17, 3) := by decide +kernel
theorem dX0_matchAll_99 : decode cX0_matchAll 99 = .ok (.iload_n 1, 1) := by decide +kernel
theorem dX0_matchAll_100 : decode cX0_matchAll 100 = .ok (.aaload, 1) := by decide +kernel
theorem dX0_matchAll_101 : decode cX0_matchAll 101 = .ok (.iload_n 1, 1) := by decide +kernel
theorem dX0_matchAll_102 : decode cX0_matchAll 102 = .ok (.iload 4, 2) := by decide +kernel
theorem dX0_matchAll_104 : decode cX0_matchAll 104 = .ok (.aload_n 0, 1) := by decide +kernel
theorem dX0_matchAll_105 : decode cX0_matchAll 105 = .ok (.getfield 23, 3) := by decide +kernel
theorem dX0_matchAll_108 : decode cX0_matchAll 108 = .ok (.iload 4, 2) := by decide +kernel
theorem dX0_matchAll_110 : decode cX0_matchAll 110 = .ok (.iaload, 1) := by decide +kernel
theorem dX0_matchAll_111 : decode cX0_matchAll 111 = .ok (.invokevirtual 122, 3) := by decide +kernel
theorem dX0_matchAll_114 : decode cX0_matchAll 114 = .ok (.iinc 4 1, 3) := by decide +kernel
theorem dX0_matchAll_117 : decode cX0_matchAll 117 = .ok (.goto (-29), 3) := by decide +kernel
theorem dX0_matchAll_120 : decode cX0_matchAll 120 = .ok (.return_, 1) := by decide +kernel
abbrev rmX0_matchAll : Room := { frames := 3, cells := 0, slots := 0, locals := 69 }
theorem inX0_matchAll_0 : ∀ w ∈ wsX00, w ∈ wsX0_matchAll := by decide +kernel
theorem inX0_matchAll_7 : ∀ w ∈ wsX70, w ∈ wsX0_matchAll := by decide +kernel
def vX0_matchAll_c88 (E : Nat → Int32) (he : Nat → Int32) (parts : Int32) (limit : Int32) (len : Nat → Int32) (row : Nat → Int32) (p1 : Int32) (Q : (Nat → Nat → Int32) → (Nat → Int32) → Prop) : Nat → Int32 → Int32 → (Nat → Nat → Int32) → (Nat → Int32) → Prop
  | 0, _, _, _, _ => False
  | n + 1, x2, x4, M, su => ((x2 ≤ x4 → (Q M su)) ∧ (¬ x2 ≤ x4 → (vp_in p1 5 ∧ (∀ j_100 : Nat, j_100 < 5 → p1 = nI j_100 → (vp_in x4 13 ∧ (∃ (T_111 : Cd) (p_111 : Nat), preX0_addMatches T_111 p_111 E parts limit len row (M j_100) p1 x4 (su x4.toNatClampNeg) ∧ (∀ (fc_111 : Nat → Int32), postX0_addMatches T_111 p_111 E parts limit len row (M j_100) p1 x4 (su x4.toNatClampNeg) fc_111 → (vX0_matchAll_c88 E he parts limit len row p1 Q n x2 (x4 + (1 : Int32)) (va_up M j_100 fc_111) su))))))))
set_option maxHeartbeats 4000000 in
set_option maxRecDepth 100000 in
theorem kX0_matchAll_c88 {p : Program} {l : Launch} {e : Env} {s : State} {m : MethodId} {args : Array Value} {below : List Frame} {meth : Method} {c : Code} {g : GP} {qe : Nat} {qt : Nat} {qh : Nat} {qm : Nat} {qb : Nat} {qx : Nat} {ql : Nat} {qr : Nat} {qv : Nat} {qg : Nat} {aM : Nat → Nat} {E : Nat → Int32} {he : Nat → Int32} {parts : Int32} {limit : Int32} {len : Nat → Int32} {row : Nat → Int32} {p1 : Int32} {Q : (Nat → Nat → Int32) → (Nat → Int32) → Prop} {A : Nat → Prop} (S : CallFix p m c cX0_matchAll 5 s args wsX0_matchAll RX0) (hr : meth.sig.returnType = none) (hlocks : meth.locks = false) (hG : GK g s) (hA : ∀ q : Nat, s.heap.size ≤ q → A q) : ∀ (n : Nat), ∀ (x2 : Int32) (x4 : Int32) (M : Nat → Nat → Int32) (su : Nat → Int32), vX0_matchAll_c88 E he parts limit len row p1 Q n x2 x4 M su → ∀ (H : Heap) (locs : List Loc), va_P g.1 vwCl [(qe, .inr (0, [.ref qt, .ref qh, .ref qm, .ref qb, .ref qx, .int (E 5), .int (E 6), .int (E 7), .int (E 8), .int (E 9), .int (E 10), .int (E 11)])), (qh, .inl (g.2 0, 200, .inl he)), (qm, .inl (g.2 6, 5, .inr (.inr (.inr (.inr (rwM aM)))))), ((aM 0), .inl (g.2 0, 13, .inl (M 0))), ((aM 1), .inl (g.2 0, 13, .inl (M 1))), ((aM 2), .inl (g.2 0, 13, .inl (M 2))), ((aM 3), .inl (g.2 0, 13, .inl (M 3))), ((aM 4), .inl (g.2 0, 13, .inl (M 4))), (qx, .inl (g.2 0, 13, .inl su)), (qt, .inr (7, [.ref ql, .ref qr, .ref qv, .ref qg, .int parts, .int limit])), (ql, .inl (g.2 0, 5, .inl len)), (qr, .inl (g.2 0, 5, .inl row))] H → va_D A [(qe, .inr (0, [.ref qt, .ref qh, .ref qm, .ref qb, .ref qx, .int (E 5), .int (E 6), .int (E 7), .int (E 8), .int (E 9), .int (E 10), .int (E 11)])), (qh, .inl (g.2 0, 200, .inl he)), (qm, .inl (g.2 6, 5, .inr (.inr (.inr (.inr (rwM aM)))))), ((aM 0), .inl (g.2 0, 13, .inl (M 0))), ((aM 1), .inl (g.2 0, 13, .inl (M 1))), ((aM 2), .inl (g.2 0, 13, .inl (M 2))), ((aM 3), .inl (g.2 0, 13, .inl (M 3))), ((aM 4), .inl (g.2 0, 13, .inl (M 4))), (qx, .inl (g.2 0, 13, .inl su)), (qt, .inr (7, [.ref ql, .ref qr, .ref qv, .ref qg, .int parts, .int limit])), (ql, .inl (g.2 0, 5, .inl len)), (qr, .inl (g.2 0, 5, .inl row))] → va_S A s.heap H locs → ∀ (ls : Array Slot), lv_has ls 5 [(0, .ref qe), (1, .int p1), (2, .int x2), (4, .int x4)] → W p l e (headSpec wsX0_matchAll rmX0_matchAll).room s m args below meth c H locs 0 0 (MQ below (va_Qv (fun (u : (Nat → Nat → Int32) × (Nat → Int32)) => Q u.1 u.2) (fun (u : (Nat → Nat → Int32) × (Nat → Int32)) t => va_P g.1 vwCl [(qe, .inr (0, [.ref qt, .ref qh, .ref qm, .ref qb, .ref qx, .int (E 5), .int (E 6), .int (E 7), .int (E 8), .int (E 9), .int (E 10), .int (E 11)])), (qh, .inl (g.2 0, 200, .inl he)), (qm, .inl (g.2 6, 5, .inr (.inr (.inr (.inr (rwM aM)))))), ((aM 0), .inl (g.2 0, 13, .inl (u.1 0))), ((aM 1), .inl (g.2 0, 13, .inl (u.1 1))), ((aM 2), .inl (g.2 0, 13, .inl (u.1 2))), ((aM 3), .inl (g.2 0, 13, .inl (u.1 3))), ((aM 4), .inl (g.2 0, 13, .inl (u.1 4))), (qx, .inl (g.2 0, 13, .inl u.2)), (qt, .inr (7, [.ref ql, .ref qr, .ref qv, .ref qg, .int parts, .int limit])), (ql, .inl (g.2 0, 5, .inl len)), (qr, .inl (g.2 0, 5, .inl row))] t.heap ∧ va_D A [(qe, .inr (0, [.ref qt, .ref qh, .ref qm, .ref qb, .ref qx, .int (E 5), .int (E 6), .int (E 7), .int (E 8), .int (E 9), .int (E 10), .int (E 11)])), (qh, .inl (g.2 0, 200, .inl he)), (qm, .inl (g.2 6, 5, .inr (.inr (.inr (.inr (rwM aM)))))), ((aM 0), .inl (g.2 0, 13, .inl (u.1 0))), ((aM 1), .inl (g.2 0, 13, .inl (u.1 1))), ((aM 2), .inl (g.2 0, 13, .inl (u.1 2))), ((aM 3), .inl (g.2 0, 13, .inl (u.1 3))), ((aM 4), .inl (g.2 0, 13, .inl (u.1 4))), (qx, .inl (g.2 0, 13, .inl u.2)), (qt, .inr (7, [.ref ql, .ref qr, .ref qv, .ref qg, .int parts, .int limit])), (ql, .inl (g.2 0, 5, .inl len)), (qr, .inl (g.2 0, 5, .inl row))]) A) args s 0 0 A) (F0 m 88 ls []) := by
  obtain ⟨hx, hb, hml, hown, hts⟩ := id S
  have hK := hG.1
  intro n
  induction n with
  | zero => intro x2 x4 M su hv; exact hv.elim
  | succ n ih =>
    intro x2 x4 M su hv H locs hP hD hS ls hl
    refine lv_iload hx hb dX0_matchAll_88 (lv_at hl 3 rfl) ?_
    refine lv_iload_n hx hb dX0_matchAll_90 rfl (lv_at hl 2 rfl) ?_
    obtain ⟨hvt, hvf⟩ := hv
    refine lv_icmp_ge (tgt := 120) hx hb dX0_matchAll_91 (by decide) (fun hc => ?_) (fun hc => ?_)
    · have hv := hvt hc
      have hP9 := hP.sub (ws' := [(qe, .inr (0, [.ref qt, .ref qh, .ref qm, .ref qb, .ref qx, .int (E 5), .int (E 6), .int (E 7), .int (E 8), .int (E 9), .int (E 10), .int (E 11)])), (qh, .inl (g.2 0, 200, .inl he)), (qm, .inl (g.2 6, 5, .inr (.inr (.inr (.inr (rwM aM)))))), ((aM 0), .inl (g.2 0, 13, .inl (M 0))), ((aM 1), .inl (g.2 0, 13, .inl (M 1))), ((aM 2), .inl (g.2 0, 13, .inl (M 2))), ((aM 3), .inl (g.2 0, 13, .inl (M 3))), ((aM 4), .inl (g.2 0, 13, .inl (M 4))), (qx, .inl (g.2 0, 13, .inl su)), (qt, .inr (7, [.ref ql, .ref qr, .ref qv, .ref qg, .int parts, .int limit])), (ql, .inl (g.2 0, 5, .inl len)), (qr, .inl (g.2 0, 5, .inl row))]) [0, 1, 2, 3, 4, 5, 6, 7, 8, 9, 10, 11] rfl
      have hD9 := hD.sub (ws' := [(qe, .inr (0, [.ref qt, .ref qh, .ref qm, .ref qb, .ref qx, .int (E 5), .int (E 6), .int (E 7), .int (E 8), .int (E 9), .int (E 10), .int (E 11)])), (qh, .inl (g.2 0, 200, .inl he)), (qm, .inl (g.2 6, 5, .inr (.inr (.inr (.inr (rwM aM)))))), ((aM 0), .inl (g.2 0, 13, .inl (M 0))), ((aM 1), .inl (g.2 0, 13, .inl (M 1))), ((aM 2), .inl (g.2 0, 13, .inl (M 2))), ((aM 3), .inl (g.2 0, 13, .inl (M 3))), ((aM 4), .inl (g.2 0, 13, .inl (M 4))), (qx, .inl (g.2 0, 13, .inl su)), (qt, .inr (7, [.ref ql, .ref qr, .ref qv, .ref qg, .int parts, .int limit])), (ql, .inl (g.2 0, 5, .inl len)), (qr, .inl (g.2 0, 5, .inl row))]) [0, 1, 2, 3, 4, 5, 6, 7, 8, 9, 10, 11] (by decide) rfl
      exact W.vret hx hb hr (fun t ht hW => ⟨⟨(M, su), rfl, hv, by rw [ht]; exact hP9, hD9⟩, hS.F ht⟩) hS.2.2 dX0_matchAll_120
    · have hv := hvf hc
      refine lv_aload_n hx hb dX0_matchAll_94 rfl (lv_at hl 0 rfl) ?_
      refine lv_aload_n hx hb dX0_matchAll_95 rfl (lv_at hl 0 rfl) ?_
      refine va_get (D := g.1) (ci := 0) (v := .ref qm) (C := RX0) (T := TX0) (N := 12) hx hb hts inX0_matchAll_0 hown hK hP 0 rfl rfl 2 (by decide) (hts (.fieldLink RX0 17 "RangeCodes$Ear" "matches" "[[I") (List.mem_of_getElem? (i := 6) rfl)) (fun _ h9 => h9) rfl dX0_matchAll_96 ?_
      refine lv_iload_n hx hb dX0_matchAll_99 rfl (lv_at hl 1 rfl) ?_
      obtain ⟨ho_1, hv⟩ := hv
      obtain ⟨j_100, hj_100, ej_100⟩ := vp_in_of ho_1 (by decide)
      have hv := hv j_100 hj_100 ej_100
      refine va_ldM hx hb hK hP 2 6 j_100 rfl rfl ej_100 hj_100 dX0_matchAll_100 ?_
      refine lv_iload_n hx hb dX0_matchAll_101 rfl (lv_at hl 1 rfl) ?_
      refine lv_iload hx hb dX0_matchAll_102 (lv_at hl 3 rfl) ?_
      refine lv_aload_n hx hb dX0_matchAll_104 rfl (lv_at hl 0 rfl) ?_
      refine va_get (D := g.1) (ci := 0) (v := .ref qx) (C := RX0) (T := TX0) (N := 12) hx hb hts inX0_matchAll_0 hown hK hP 0 rfl rfl 4 (by decide) (hts (.fieldLink RX0 23 "RangeCodes$Ear" "sums" "[I") (List.mem_of_getElem? (i := 3) rfl)) (fun _ h9 => h9) rfl dX0_matchAll_105 ?_
      refine lv_iload hx hb dX0_matchAll_108 (lv_at hl 3 rfl) ?_
      obtain ⟨ho_2, hv⟩ := hv
      refine va_iald hx hb hK hP 8 0 rfl rfl ho_2 dX0_matchAll_110 ?_
      obtain ⟨T_111, p_111, ho_3, hv⟩ := hv
      have hPc : va_P g.1 vwCl [(qe, .inr (0, [.ref qt, .ref qh, .ref qm, .ref qb, .ref qx, .int (E 5), .int (E 6), .int (E 7), .int (E 8), .int (E 9), .int (E 10), .int (E 11)])), (qt, .inr (7, [.ref ql, .ref qr, .ref qv, .ref qg, .int parts, .int limit])), (ql, .inl (g.2 0, 5, .inl len)), (qr, .inl (g.2 0, 5, .inl row)), ((aM j_100), .inl (g.2 0, 13, .inl (M j_100)))] H := by
        rcases (show j_100 = 0 ∨ j_100 = 1 ∨ j_100 = 2 ∨ j_100 = 3 ∨ j_100 = 4 by omega) with rfl | rfl | rfl | rfl | rfl
        · exact hP.sub [0, 9, 10, 11, 3] rfl
        · exact hP.sub [0, 9, 10, 11, 4] rfl
        · exact hP.sub [0, 9, 10, 11, 5] rfl
        · exact hP.sub [0, 9, 10, 11, 6] rfl
        · exact hP.sub [0, 9, 10, 11, 7] rfl
      have hDc : va_D A [(qe, .inr (0, [.ref qt, .ref qh, .ref qm, .ref qb, .ref qx, .int (E 5), .int (E 6), .int (E 7), .int (E 8), .int (E 9), .int (E 10), .int (E 11)])), (qt, .inr (7, [.ref ql, .ref qr, .ref qv, .ref qg, .int parts, .int limit])), (ql, .inl (g.2 0, 5, .inl len)), (qr, .inl (g.2 0, 5, .inl row)), ((aM j_100), .inl (g.2 0, 13, .inl (M j_100)))] := by
        rcases (show j_100 = 0 ∨ j_100 = 1 ∨ j_100 = 2 ∨ j_100 = 3 ∨ j_100 = 4 by omega) with rfl | rfl | rfl | rfl | rfl
        · exact hD.sub [0, 9, 10, 11, 3] (by decide) rfl
        · exact hD.sub [0, 9, 10, 11, 4] (by decide) rfl
        · exact hD.sub [0, 9, 10, 11, 5] (by decide) rfl
        · exact hD.sub [0, 9, 10, 11, 6] (by decide) rfl
        · exact hD.sub [0, 9, 10, 11, 7] (by decide) rfl
      have hFc : ∀ q, va_A [(qe, .inr (0, [.ref qt, .ref qh, .ref qm, .ref qb, .ref qx, .int (E 5), .int (E 6), .int (E 7), .int (E 8), .int (E 9), .int (E 10), .int (E 11)])), (qt, .inr (7, [.ref ql, .ref qr, .ref qv, .ref qg, .int parts, .int limit])), (ql, .inl (g.2 0, 5, .inl len)), (qr, .inl (g.2 0, 5, .inl row)), ((aM j_100), .inl (g.2 0, 13, .inl (M j_100)))] H.size q → A q := by
        rcases (show j_100 = 0 ∨ j_100 = 1 ∨ j_100 = 2 ∨ j_100 = 3 ∨ j_100 = 4 by omega) with rfl | rfl | rfl | rfl | rfl
        · exact va_free hD hS hA [0, 9, 10, 11, 3] rfl
        · exact va_free hD hS hA [0, 9, 10, 11, 4] rfl
        · exact va_free hD hS hA [0, 9, 10, 11, 5] rfl
        · exact va_free hD hS hA [0, 9, 10, 11, 6] rfl
        · exact va_free hD hS hA [0, 9, 10, 11, 7] rfl
      refine va_callv (va_runV (As := [.ref (aM j_100), .int p1, .int x4, .int (su x4.toNatClampNeg)]) (rest := []) S (wX0_addMatches l g qe qt qh qm qb qx ql qr qv qg (aM j_100) H.size E parts limit len row (M j_100) p1 x4 (su x4.toNatClampNeg) (sX0_addMatches T_111 p_111 E parts limit len row (M j_100) p1 x4 (su x4.toNatClampNeg) ho_3)) (cwV 4 hts gX0_matchAll_X0_addMatches rfl rfl rfl (by decide +kernel) ⟨Nat.le_of_ble_eq_true rfl, Nat.le_of_ble_eq_true rfl⟩) ⟨blindRW, va_recv hK hP (ci := 0) (q0 := 0) rfl rfl, fun U hU hW => ⟨rfl, by rw [hU], by rw [hU]; exact hPc, hG.warm hW, hDc.weaken (fun _ _ _ _ => trivial)⟩⟩ rfl rfl hl.1 rfl (lv_room (Nat.le_of_ble_eq_true rfl)) dX0_matchAll_111 ⟨Nat.le_of_ble_eq_true rfl, Nat.le_of_ble_eq_true rfl⟩) hS (fun q _ h => hFc q h) hFc (fun u t H1 locs ht hvm hw hB hz1 hk1 hS => ?_)
      obtain ⟨fc_111, rfl⟩ : ∃ z, z = u := ⟨_, rfl⟩
      obtain ⟨hP1, hD1⟩ := hB
      rw [ht] at hP1
      have hv := hv fc_111 hw
      have hPD : va_P g.1 vwCl [(qh, .inl (g.2 0, 200, .inl he)), (qm, .inl (g.2 6, 5, .inr (.inr (.inr (.inr (rwM aM)))))), (qx, .inl (g.2 0, 13, .inl su)), ((aM 0), .inl (g.2 0, 13, .inl ((va_up M j_100 fc_111) 0))), ((aM 1), .inl (g.2 0, 13, .inl ((va_up M j_100 fc_111) 1))), ((aM 2), .inl (g.2 0, 13, .inl ((va_up M j_100 fc_111) 2))), ((aM 3), .inl (g.2 0, 13, .inl ((va_up M j_100 fc_111) 3))), ((aM 4), .inl (g.2 0, 13, .inl ((va_up M j_100 fc_111) 4))), (qe, .inr (0, [.ref qt, .ref qh, .ref qm, .ref qb, .ref qx, .int (E 5), .int (E 6), .int (E 7), .int (E 8), .int (E 9), .int (E 10), .int (E 11)])), (qt, .inr (7, [.ref ql, .ref qr, .ref qv, .ref qg, .int parts, .int limit])), (ql, .inl (g.2 0, 5, .inl len)), (qr, .inl (g.2 0, 5, .inl row))] H1 ∧ va_D A [(qh, .inl (g.2 0, 200, .inl he)), (qm, .inl (g.2 6, 5, .inr (.inr (.inr (.inr (rwM aM)))))), (qx, .inl (g.2 0, 13, .inl su)), ((aM 0), .inl (g.2 0, 13, .inl ((va_up M j_100 fc_111) 0))), ((aM 1), .inl (g.2 0, 13, .inl ((va_up M j_100 fc_111) 1))), ((aM 2), .inl (g.2 0, 13, .inl ((va_up M j_100 fc_111) 2))), ((aM 3), .inl (g.2 0, 13, .inl ((va_up M j_100 fc_111) 3))), ((aM 4), .inl (g.2 0, 13, .inl ((va_up M j_100 fc_111) 4))), (qe, .inr (0, [.ref qt, .ref qh, .ref qm, .ref qb, .ref qx, .int (E 5), .int (E 6), .int (E 7), .int (E 8), .int (E 9), .int (E 10), .int (E 11)])), (qt, .inr (7, [.ref ql, .ref qr, .ref qv, .ref qg, .int parts, .int limit])), (ql, .inl (g.2 0, 5, .inl len)), (qr, .inl (g.2 0, 5, .inl row))] := by
        rcases (show j_100 = 0 ∨ j_100 = 1 ∨ j_100 = 2 ∨ j_100 = 3 ∨ j_100 = 4 by omega) with rfl | rfl | rfl | rfl | rfl
        · obtain ⟨hP, hD⟩ := va_join (wr := [(qh, .inl (g.2 0, 200, .inl he)), (qm, .inl (g.2 6, 5, .inr (.inr (.inr (.inr (rwM aM)))))), (qx, .inl (g.2 0, 13, .inl su)), ((aM 1), .inl (g.2 0, 13, .inl (M 1))), ((aM 2), .inl (g.2 0, 13, .inl (M 2))), ((aM 3), .inl (g.2 0, 13, .inl (M 3))), ((aM 4), .inl (g.2 0, 13, .inl (M 4)))]) (w1 := [(qe, .inr (0, [.ref qt, .ref qh, .ref qm, .ref qb, .ref qx, .int (E 5), .int (E 6), .int (E 7), .int (E 8), .int (E 9), .int (E 10), .int (E 11)])), (qt, .inr (7, [.ref ql, .ref qr, .ref qv, .ref qg, .int parts, .int limit])), (ql, .inl (g.2 0, 5, .inl len)), (qr, .inl (g.2 0, 5, .inl row)), ((aM 0), .inl (g.2 0, 13, .inl fc_111))]) hP hD [0, 9, 10, 11, 3] [1, 2, 8, 4, 5, 6, 7] rfl rfl (by decide) (by decide) hk1 hFc hP1 hD1
          exact ⟨hP.sub [0, 1, 2, 11, 3, 4, 5, 6, 7, 8, 9, 10] rfl, hD.sub [0, 1, 2, 11, 3, 4, 5, 6, 7, 8, 9, 10] (by decide) rfl⟩
        · obtain ⟨hP, hD⟩ := va_join (wr := [(qh, .inl (g.2 0, 200, .inl he)), (qm, .inl (g.2 6, 5, .inr (.inr (.inr (.inr (rwM aM)))))), (qx, .inl (g.2 0, 13, .inl su)), ((aM 0), .inl (g.2 0, 13, .inl (M 0))), ((aM 2), .inl (g.2 0, 13, .inl (M 2))), ((aM 3), .inl (g.2 0, 13, .inl (M 3))), ((aM 4), .inl (g.2 0, 13, .inl (M 4)))]) (w1 := [(qe, .inr (0, [.ref qt, .ref qh, .ref qm, .ref qb, .ref qx, .int (E 5), .int (E 6), .int (E 7), .int (E 8), .int (E 9), .int (E 10), .int (E 11)])), (qt, .inr (7, [.ref ql, .ref qr, .ref qv, .ref qg, .int parts, .int limit])), (ql, .inl (g.2 0, 5, .inl len)), (qr, .inl (g.2 0, 5, .inl row)), ((aM 1), .inl (g.2 0, 13, .inl fc_111))]) hP hD [0, 9, 10, 11, 4] [1, 2, 8, 3, 5, 6, 7] rfl rfl (by decide) (by decide) hk1 hFc hP1 hD1
          exact ⟨hP.sub [0, 1, 2, 3, 11, 4, 5, 6, 7, 8, 9, 10] rfl, hD.sub [0, 1, 2, 3, 11, 4, 5, 6, 7, 8, 9, 10] (by decide) rfl⟩
        · obtain ⟨hP, hD⟩ := va_join (wr := [(qh, .inl (g.2 0, 200, .inl he)), (qm, .inl (g.2 6, 5, .inr (.inr (.inr (.inr (rwM aM)))))), (qx, .inl (g.2 0, 13, .inl su)), ((aM 0), .inl (g.2 0, 13, .inl (M 0))), ((aM 1), .inl (g.2 0, 13, .inl (M 1))), ((aM 3), .inl (g.2 0, 13, .inl (M 3))), ((aM 4), .inl (g.2 0, 13, .inl (M 4)))]) (w1 := [(qe, .inr (0, [.ref qt, .ref qh, .ref qm, .ref qb, .ref qx, .int (E 5), .int (E 6), .int (E 7), .int (E 8), .int (E 9), .int (E 10), .int (E 11)])), (qt, .inr (7, [.ref ql, .ref qr, .ref qv, .ref qg, .int parts, .int limit])), (ql, .inl (g.2 0, 5, .inl len)), (qr, .inl (g.2 0, 5, .inl row)), ((aM 2), .inl (g.2 0, 13, .inl fc_111))]) hP hD [0, 9, 10, 11, 5] [1, 2, 8, 3, 4, 6, 7] rfl rfl (by decide) (by decide) hk1 hFc hP1 hD1
          exact ⟨hP.sub [0, 1, 2, 3, 4, 11, 5, 6, 7, 8, 9, 10] rfl, hD.sub [0, 1, 2, 3, 4, 11, 5, 6, 7, 8, 9, 10] (by decide) rfl⟩
        · obtain ⟨hP, hD⟩ := va_join (wr := [(qh, .inl (g.2 0, 200, .inl he)), (qm, .inl (g.2 6, 5, .inr (.inr (.inr (.inr (rwM aM)))))), (qx, .inl (g.2 0, 13, .inl su)), ((aM 0), .inl (g.2 0, 13, .inl (M 0))), ((aM 1), .inl (g.2 0, 13, .inl (M 1))), ((aM 2), .inl (g.2 0, 13, .inl (M 2))), ((aM 4), .inl (g.2 0, 13, .inl (M 4)))]) (w1 := [(qe, .inr (0, [.ref qt, .ref qh, .ref qm, .ref qb, .ref qx, .int (E 5), .int (E 6), .int (E 7), .int (E 8), .int (E 9), .int (E 10), .int (E 11)])), (qt, .inr (7, [.ref ql, .ref qr, .ref qv, .ref qg, .int parts, .int limit])), (ql, .inl (g.2 0, 5, .inl len)), (qr, .inl (g.2 0, 5, .inl row)), ((aM 3), .inl (g.2 0, 13, .inl fc_111))]) hP hD [0, 9, 10, 11, 6] [1, 2, 8, 3, 4, 5, 7] rfl rfl (by decide) (by decide) hk1 hFc hP1 hD1
          exact ⟨hP.sub [0, 1, 2, 3, 4, 5, 11, 6, 7, 8, 9, 10] rfl, hD.sub [0, 1, 2, 3, 4, 5, 11, 6, 7, 8, 9, 10] (by decide) rfl⟩
        · obtain ⟨hP, hD⟩ := va_join (wr := [(qh, .inl (g.2 0, 200, .inl he)), (qm, .inl (g.2 6, 5, .inr (.inr (.inr (.inr (rwM aM)))))), (qx, .inl (g.2 0, 13, .inl su)), ((aM 0), .inl (g.2 0, 13, .inl (M 0))), ((aM 1), .inl (g.2 0, 13, .inl (M 1))), ((aM 2), .inl (g.2 0, 13, .inl (M 2))), ((aM 3), .inl (g.2 0, 13, .inl (M 3)))]) (w1 := [(qe, .inr (0, [.ref qt, .ref qh, .ref qm, .ref qb, .ref qx, .int (E 5), .int (E 6), .int (E 7), .int (E 8), .int (E 9), .int (E 10), .int (E 11)])), (qt, .inr (7, [.ref ql, .ref qr, .ref qv, .ref qg, .int parts, .int limit])), (ql, .inl (g.2 0, 5, .inl len)), (qr, .inl (g.2 0, 5, .inl row)), ((aM 4), .inl (g.2 0, 13, .inl fc_111))]) hP hD [0, 9, 10, 11, 7] [1, 2, 8, 3, 4, 5, 6] rfl rfl (by decide) (by decide) hk1 hFc hP1 hD1
          exact ⟨hP.sub [0, 1, 2, 3, 4, 5, 6, 11, 7, 8, 9, 10] rfl, hD.sub [0, 1, 2, 3, 4, 5, 6, 11, 7, 8, 9, 10] (by decide) rfl⟩
      obtain ⟨hP, hD⟩ := hPD
      clear hP1 hD1 hPc hDc hFc hk1
      generalize H1 = H at hP hS ⊢
      have hP : va_P g.1 vwCl [(qh, .inl (g.2 0, 200, .inl he)), (qm, .inl (g.2 6, 5, .inr (.inr (.inr (.inr (rwM aM)))))), (qx, .inl (g.2 0, 13, .inl su)), ((aM 0), .inl (g.2 0, 13, .inl ((va_up M j_100 fc_111) 0))), ((aM 1), .inl (g.2 0, 13, .inl ((va_up M j_100 fc_111) 1))), ((aM 2), .inl (g.2 0, 13, .inl ((va_up M j_100 fc_111) 2))), ((aM 3), .inl (g.2 0, 13, .inl ((va_up M j_100 fc_111) 3))), ((aM 4), .inl (g.2 0, 13, .inl ((va_up M j_100 fc_111) 4))), (qe, .inr (0, [.ref qt, .ref qh, .ref qm, .ref qb, .ref qx, .int (E 5), .int (E 6), .int (E 7), .int (E 8), .int (E 9), .int (E 10), .int (E 11)])), (qt, .inr (7, [.ref ql, .ref qr, .ref qv, .ref qg, .int parts, .int limit])), (ql, .inl (g.2 0, 5, .inl len)), (qr, .inl (g.2 0, 5, .inl row))] H := hP
      have hD : va_D A [(qh, .inl (g.2 0, 200, .inl he)), (qm, .inl (g.2 6, 5, .inr (.inr (.inr (.inr (rwM aM)))))), (qx, .inl (g.2 0, 13, .inl su)), ((aM 0), .inl (g.2 0, 13, .inl ((va_up M j_100 fc_111) 0))), ((aM 1), .inl (g.2 0, 13, .inl ((va_up M j_100 fc_111) 1))), ((aM 2), .inl (g.2 0, 13, .inl ((va_up M j_100 fc_111) 2))), ((aM 3), .inl (g.2 0, 13, .inl ((va_up M j_100 fc_111) 3))), ((aM 4), .inl (g.2 0, 13, .inl ((va_up M j_100 fc_111) 4))), (qe, .inr (0, [.ref qt, .ref qh, .ref qm, .ref qb, .ref qx, .int (E 5), .int (E 6), .int (E 7), .int (E 8), .int (E 9), .int (E 10), .int (E 11)])), (qt, .inr (7, [.ref ql, .ref qr, .ref qv, .ref qg, .int parts, .int limit])), (ql, .inl (g.2 0, 5, .inl len)), (qr, .inl (g.2 0, 5, .inl row))] := hD
      refine lv_iinc (v := (x4 + (1 : Int32))) (lv' := [(4, .int (x4 + (1 : Int32))), (0, .ref qe), (1, .int p1), (2, .int x2)]) hx hb dX0_matchAll_114 hl (k := 3) rfl rfl (by decide) rfl (fun ls hl => ?_)
      refine lv_goto (tgt := 88) hx hb dX0_matchAll_117 (by decide) ?_
      exact ih _ _ _ _ hv _ _ (hP.sub (ws' := [(qe, .inr (0, [.ref qt, .ref qh, .ref qm, .ref qb, .ref qx, .int (E 5), .int (E 6), .int (E 7), .int (E 8), .int (E 9), .int (E 10), .int (E 11)])), (qh, .inl (g.2 0, 200, .inl he)), (qm, .inl (g.2 6, 5, .inr (.inr (.inr (.inr (rwM aM)))))), ((aM 0), .inl (g.2 0, 13, .inl ((va_up M j_100 fc_111) 0))), ((aM 1), .inl (g.2 0, 13, .inl ((va_up M j_100 fc_111) 1))), ((aM 2), .inl (g.2 0, 13, .inl ((va_up M j_100 fc_111) 2))), ((aM 3), .inl (g.2 0, 13, .inl ((va_up M j_100 fc_111) 3))), ((aM 4), .inl (g.2 0, 13, .inl ((va_up M j_100 fc_111) 4))), (qx, .inl (g.2 0, 13, .inl su)), (qt, .inr (7, [.ref ql, .ref qr, .ref qv, .ref qg, .int parts, .int limit])), (ql, .inl (g.2 0, 5, .inl len)), (qr, .inl (g.2 0, 5, .inl row))]) [8, 0, 1, 3, 4, 5, 6, 7, 2, 9, 10, 11] rfl) (hD.sub (ws' := [(qe, .inr (0, [.ref qt, .ref qh, .ref qm, .ref qb, .ref qx, .int (E 5), .int (E 6), .int (E 7), .int (E 8), .int (E 9), .int (E 10), .int (E 11)])), (qh, .inl (g.2 0, 200, .inl he)), (qm, .inl (g.2 6, 5, .inr (.inr (.inr (.inr (rwM aM)))))), ((aM 0), .inl (g.2 0, 13, .inl ((va_up M j_100 fc_111) 0))), ((aM 1), .inl (g.2 0, 13, .inl ((va_up M j_100 fc_111) 1))), ((aM 2), .inl (g.2 0, 13, .inl ((va_up M j_100 fc_111) 2))), ((aM 3), .inl (g.2 0, 13, .inl ((va_up M j_100 fc_111) 3))), ((aM 4), .inl (g.2 0, 13, .inl ((va_up M j_100 fc_111) 4))), (qx, .inl (g.2 0, 13, .inl su)), (qt, .inr (7, [.ref ql, .ref qr, .ref qv, .ref qg, .int parts, .int limit])), (ql, .inl (g.2 0, 5, .inl len)), (qr, .inl (g.2 0, 5, .inl row))]) [8, 0, 1, 3, 4, 5, 6, 7, 2, 9, 10, 11] (by decide) rfl) hS ls (lv_sub hl [1, 2, 3, 0] rfl)
def vX0_matchAll_c30 (E : Nat → Int32) (he : Nat → Int32) (parts : Int32) (limit : Int32) (len : Nat → Int32) (row : Nat → Int32) (p1 : Int32) (Q : (Nat → Nat → Int32) → (Nat → Int32) → Prop) : Nat → Int32 → Int32 → Int32 → (Nat → Nat → Int32) → (Nat → Int32) → Prop
  | 0, _, _, _, _, _ => False
  | n + 1, x2, x3, x4, M, su => (((E 6) ≤ x4 → (vp_in p1 5 ∧ (∀ j_80 : Nat, j_80 < 5 → p1 = nI j_80 → (preJ7_fill_53178 13 (M j_80) (0 : Int32) ∧ (∀ (fA_82 : Nat → Int32), postJ7_fill_53178 13 (M j_80) (0 : Int32) fA_82 → (∃ nn, vX0_matchAll_c88 E he parts limit len row p1 Q nn x2 (0 : Int32) (va_up M j_80 fA_82) su)))))) ∧ (¬ (E 6) ≤ x4 → (vp_in x3 13 ∧ (∃ (h_49 : Nat → Nat) (i_49 : Nat), preX0_sign h_49 i_49 E he x4 ∧ (∀ r_49 : Int32, postX0_sign h_49 i_49 E he x4 r_49 → (∀ a_53 : Int32, a_53 = ((su x3.toNatClampNeg) + r_49) → (vp_in x3 13 ∧ ((x2 ≤ (x3 + (1 : Int32)) → (vX0_matchAll_c30 E he parts limit len row p1 Q n x2 (0 : Int32) (x4 + (1 : Int32)) M (upd su x3.toNatClampNeg a_53))) ∧ (¬ x2 ≤ (x3 + (1 : Int32)) → (vX0_matchAll_c30 E he parts limit len row p1 Q n x2 (x3 + (1 : Int32)) (x4 + (1 : Int32)) M (upd su x3.toNatClampNeg a_53)))))))))))
set_option maxHeartbeats 4000000 in
set_option maxRecDepth 100000 in
theorem kX0_matchAll_c30 {p : Program} {l : Launch} {e : Env} {s : State} {m : MethodId} {args : Array Value} {below : List Frame} {meth : Method} {c : Code} {g : GP} {qe : Nat} {qt : Nat} {qh : Nat} {qm : Nat} {qb : Nat} {qx : Nat} {ql : Nat} {qr : Nat} {qv : Nat} {qg : Nat} {aM : Nat → Nat} {E : Nat → Int32} {he : Nat → Int32} {parts : Int32} {limit : Int32} {len : Nat → Int32} {row : Nat → Int32} {p1 : Int32} {Q : (Nat → Nat → Int32) → (Nat → Int32) → Prop} {A : Nat → Prop} (S : CallFix p m c cX0_matchAll 5 s args wsX0_matchAll RX0) (hr : meth.sig.returnType = none) (hlocks : meth.locks = false) (hG : GK g s) (hA : ∀ q : Nat, s.heap.size ≤ q → A q) : ∀ (n : Nat), ∀ (x2 : Int32) (x3 : Int32) (x4 : Int32) (M : Nat → Nat → Int32) (su : Nat → Int32), vX0_matchAll_c30 E he parts limit len row p1 Q n x2 x3 x4 M su → ∀ (H : Heap) (locs : List Loc), va_P g.1 vwCl [(qe, .inr (0, [.ref qt, .ref qh, .ref qm, .ref qb, .ref qx, .int (E 5), .int (E 6), .int (E 7), .int (E 8), .int (E 9), .int (E 10), .int (E 11)])), (qh, .inl (g.2 0, 200, .inl he)), (qm, .inl (g.2 6, 5, .inr (.inr (.inr (.inr (rwM aM)))))), ((aM 0), .inl (g.2 0, 13, .inl (M 0))), ((aM 1), .inl (g.2 0, 13, .inl (M 1))), ((aM 2), .inl (g.2 0, 13, .inl (M 2))), ((aM 3), .inl (g.2 0, 13, .inl (M 3))), ((aM 4), .inl (g.2 0, 13, .inl (M 4))), (qx, .inl (g.2 0, 13, .inl su)), (qt, .inr (7, [.ref ql, .ref qr, .ref qv, .ref qg, .int parts, .int limit])), (ql, .inl (g.2 0, 5, .inl len)), (qr, .inl (g.2 0, 5, .inl row))] H → va_D A [(qe, .inr (0, [.ref qt, .ref qh, .ref qm, .ref qb, .ref qx, .int (E 5), .int (E 6), .int (E 7), .int (E 8), .int (E 9), .int (E 10), .int (E 11)])), (qh, .inl (g.2 0, 200, .inl he)), (qm, .inl (g.2 6, 5, .inr (.inr (.inr (.inr (rwM aM)))))), ((aM 0), .inl (g.2 0, 13, .inl (M 0))), ((aM 1), .inl (g.2 0, 13, .inl (M 1))), ((aM 2), .inl (g.2 0, 13, .inl (M 2))), ((aM 3), .inl (g.2 0, 13, .inl (M 3))), ((aM 4), .inl (g.2 0, 13, .inl (M 4))), (qx, .inl (g.2 0, 13, .inl su)), (qt, .inr (7, [.ref ql, .ref qr, .ref qv, .ref qg, .int parts, .int limit])), (ql, .inl (g.2 0, 5, .inl len)), (qr, .inl (g.2 0, 5, .inl row))] → va_S A s.heap H locs → ∀ (ls : Array Slot), lv_has ls 5 [(0, .ref qe), (1, .int p1), (2, .int x2), (3, .int x3), (4, .int x4)] → W p l e (headSpec wsX0_matchAll rmX0_matchAll).room s m args below meth c H locs 0 0 (MQ below (va_Qv (fun (u : (Nat → Nat → Int32) × (Nat → Int32)) => Q u.1 u.2) (fun (u : (Nat → Nat → Int32) × (Nat → Int32)) t => va_P g.1 vwCl [(qe, .inr (0, [.ref qt, .ref qh, .ref qm, .ref qb, .ref qx, .int (E 5), .int (E 6), .int (E 7), .int (E 8), .int (E 9), .int (E 10), .int (E 11)])), (qh, .inl (g.2 0, 200, .inl he)), (qm, .inl (g.2 6, 5, .inr (.inr (.inr (.inr (rwM aM)))))), ((aM 0), .inl (g.2 0, 13, .inl (u.1 0))), ((aM 1), .inl (g.2 0, 13, .inl (u.1 1))), ((aM 2), .inl (g.2 0, 13, .inl (u.1 2))), ((aM 3), .inl (g.2 0, 13, .inl (u.1 3))), ((aM 4), .inl (g.2 0, 13, .inl (u.1 4))), (qx, .inl (g.2 0, 13, .inl u.2)), (qt, .inr (7, [.ref ql, .ref qr, .ref qv, .ref qg, .int parts, .int limit])), (ql, .inl (g.2 0, 5, .inl len)), (qr, .inl (g.2 0, 5, .inl row))] t.heap ∧ va_D A [(qe, .inr (0, [.ref qt, .ref qh, .ref qm, .ref qb, .ref qx, .int (E 5), .int (E 6), .int (E 7), .int (E 8), .int (E 9), .int (E 10), .int (E 11)])), (qh, .inl (g.2 0, 200, .inl he)), (qm, .inl (g.2 6, 5, .inr (.inr (.inr (.inr (rwM aM)))))), ((aM 0), .inl (g.2 0, 13, .inl (u.1 0))), ((aM 1), .inl (g.2 0, 13, .inl (u.1 1))), ((aM 2), .inl (g.2 0, 13, .inl (u.1 2))), ((aM 3), .inl (g.2 0, 13, .inl (u.1 3))), ((aM 4), .inl (g.2 0, 13, .inl (u.1 4))), (qx, .inl (g.2 0, 13, .inl u.2)), (qt, .inr (7, [.ref ql, .ref qr, .ref qv, .ref qg, .int parts, .int limit])), (ql, .inl (g.2 0, 5, .inl len)), (qr, .inl (g.2 0, 5, .inl row))]) A) args s 0 0 A) (F0 m 30 ls []) := by
  obtain ⟨hx, hb, hml, hown, hts⟩ := id S
  have hK := hG.1
  intro n
  induction n with
  | zero => intro x2 x3 x4 M su hv; exact hv.elim
  | succ n ih =>
    intro x2 x3 x4 M su hv H locs hP hD hS ls hl
    refine lv_iload hx hb dX0_matchAll_30 (lv_at hl 4 rfl) ?_
    refine lv_aload_n hx hb dX0_matchAll_32 rfl (lv_at hl 0 rfl) ?_
    refine va_get (D := g.1) (ci := 0) (v := .int (E 6)) (C := RX0) (T := TX0) (N := 12) hx hb hts inX0_matchAll_0 hown hK hP 0 rfl rfl 6 (by decide) (hts (.fieldLink RX0 63 "RangeCodes$Ear" "many" "I") (List.mem_of_getElem? (i := 5) rfl)) (fun _ h9 => h9) rfl dX0_matchAll_33 ?_
    obtain ⟨hvt, hvf⟩ := hv
    refine lv_icmp_ge (tgt := 75) hx hb dX0_matchAll_36 (by decide) (fun hc => ?_) (fun hc => ?_)
    · have hv := hvt hc
      refine lv_aload_n hx hb dX0_matchAll_75 rfl (lv_at hl 0 rfl) ?_
      refine va_get (D := g.1) (ci := 0) (v := .ref qm) (C := RX0) (T := TX0) (N := 12) hx hb hts inX0_matchAll_0 hown hK hP 0 rfl rfl 2 (by decide) (hts (.fieldLink RX0 17 "RangeCodes$Ear" "matches" "[[I") (List.mem_of_getElem? (i := 6) rfl)) (fun _ h9 => h9) rfl dX0_matchAll_76 ?_
      refine lv_iload_n hx hb dX0_matchAll_79 rfl (lv_at hl 1 rfl) ?_
      obtain ⟨ho_1, hv⟩ := hv
      obtain ⟨j_80, hj_80, ej_80⟩ := vp_in_of ho_1 (by decide)
      have hv := hv j_80 hj_80 ej_80
      refine va_ldM hx hb hK hP 2 6 j_80 rfl rfl ej_80 hj_80 dX0_matchAll_80 ?_
      refine lv_iconst (v := (0 : Int32)) hx hb dX0_matchAll_81 (by decide) ?_
      obtain ⟨ho_2, hv⟩ := hv
      have hPc : va_P g.1 vwCl [((aM j_80), .inl (g.2 0, 13, .inl (M j_80)))] H := by
        rcases (show j_80 = 0 ∨ j_80 = 1 ∨ j_80 = 2 ∨ j_80 = 3 ∨ j_80 = 4 by omega) with rfl | rfl | rfl | rfl | rfl
        · exact hP.sub [3] rfl
        · exact hP.sub [4] rfl
        · exact hP.sub [5] rfl
        · exact hP.sub [6] rfl
        · exact hP.sub [7] rfl
      have hDc : va_D A [((aM j_80), .inl (g.2 0, 13, .inl (M j_80)))] := by
        rcases (show j_80 = 0 ∨ j_80 = 1 ∨ j_80 = 2 ∨ j_80 = 3 ∨ j_80 = 4 by omega) with rfl | rfl | rfl | rfl | rfl
        · exact hD.sub [3] (by decide) rfl
        · exact hD.sub [4] (by decide) rfl
        · exact hD.sub [5] (by decide) rfl
        · exact hD.sub [6] (by decide) rfl
        · exact hD.sub [7] (by decide) rfl
      have hFc : ∀ q, va_A [((aM j_80), .inl (g.2 0, 13, .inl (M j_80)))] H.size q → A q := by
        rcases (show j_80 = 0 ∨ j_80 = 1 ∨ j_80 = 2 ∨ j_80 = 3 ∨ j_80 = 4 by omega) with rfl | rfl | rfl | rfl | rfl
        · exact va_free hD hS hA [3] rfl
        · exact va_free hD hS hA [4] rfl
        · exact va_free hD hS hA [5] rfl
        · exact va_free hD hS hA [6] rfl
        · exact va_free hD hS hA [7] rfl
      refine va_callv (va_runS (As := [.ref (aM j_80), .int (0 : Int32)]) (rest := []) S (wJ7_fill_53178 l g (aM j_80) H.size 13 (M j_80) (0 : Int32) (sJ7_fill_53178 13 (M j_80) (0 : Int32) ho_2)) (va_cwS 2 hts gX0_matchAll_J7_fill_53178 rfl rfl rfl (by decide +kernel) ⟨Nat.le_of_ble_eq_true rfl, Nat.le_of_ble_eq_true rfl⟩) ⟨blindRW, fun U hU hW => ⟨rfl, by rw [hU], by rw [hU]; exact hPc, hG.warm hW, hDc.weaken (fun _ _ _ _ => trivial)⟩⟩ rfl rfl hl.1 rfl (lv_room (Nat.le_of_ble_eq_true rfl)) dX0_matchAll_82 ⟨Nat.le_of_ble_eq_true rfl, Nat.le_of_ble_eq_true rfl⟩) hS (fun q _ h => hFc q h) hFc (fun u t H1 locs ht hvm hw hB hz1 hk1 hS => ?_)
      obtain ⟨fA_82, rfl⟩ : ∃ z, z = u := ⟨_, rfl⟩
      obtain ⟨hP1, hD1⟩ := hB
      rw [ht] at hP1
      have hv := hv fA_82 hw
      have hPD : va_P g.1 vwCl [(qe, .inr (0, [.ref qt, .ref qh, .ref qm, .ref qb, .ref qx, .int (E 5), .int (E 6), .int (E 7), .int (E 8), .int (E 9), .int (E 10), .int (E 11)])), (qh, .inl (g.2 0, 200, .inl he)), (qm, .inl (g.2 6, 5, .inr (.inr (.inr (.inr (rwM aM)))))), (qx, .inl (g.2 0, 13, .inl su)), (qt, .inr (7, [.ref ql, .ref qr, .ref qv, .ref qg, .int parts, .int limit])), (ql, .inl (g.2 0, 5, .inl len)), (qr, .inl (g.2 0, 5, .inl row)), ((aM 0), .inl (g.2 0, 13, .inl ((va_up M j_80 fA_82) 0))), ((aM 1), .inl (g.2 0, 13, .inl ((va_up M j_80 fA_82) 1))), ((aM 2), .inl (g.2 0, 13, .inl ((va_up M j_80 fA_82) 2))), ((aM 3), .inl (g.2 0, 13, .inl ((va_up M j_80 fA_82) 3))), ((aM 4), .inl (g.2 0, 13, .inl ((va_up M j_80 fA_82) 4)))] H1 ∧ va_D A [(qe, .inr (0, [.ref qt, .ref qh, .ref qm, .ref qb, .ref qx, .int (E 5), .int (E 6), .int (E 7), .int (E 8), .int (E 9), .int (E 10), .int (E 11)])), (qh, .inl (g.2 0, 200, .inl he)), (qm, .inl (g.2 6, 5, .inr (.inr (.inr (.inr (rwM aM)))))), (qx, .inl (g.2 0, 13, .inl su)), (qt, .inr (7, [.ref ql, .ref qr, .ref qv, .ref qg, .int parts, .int limit])), (ql, .inl (g.2 0, 5, .inl len)), (qr, .inl (g.2 0, 5, .inl row)), ((aM 0), .inl (g.2 0, 13, .inl ((va_up M j_80 fA_82) 0))), ((aM 1), .inl (g.2 0, 13, .inl ((va_up M j_80 fA_82) 1))), ((aM 2), .inl (g.2 0, 13, .inl ((va_up M j_80 fA_82) 2))), ((aM 3), .inl (g.2 0, 13, .inl ((va_up M j_80 fA_82) 3))), ((aM 4), .inl (g.2 0, 13, .inl ((va_up M j_80 fA_82) 4)))] := by
        rcases (show j_80 = 0 ∨ j_80 = 1 ∨ j_80 = 2 ∨ j_80 = 3 ∨ j_80 = 4 by omega) with rfl | rfl | rfl | rfl | rfl
        · obtain ⟨hP, hD⟩ := va_join (wr := [(qe, .inr (0, [.ref qt, .ref qh, .ref qm, .ref qb, .ref qx, .int (E 5), .int (E 6), .int (E 7), .int (E 8), .int (E 9), .int (E 10), .int (E 11)])), (qh, .inl (g.2 0, 200, .inl he)), (qm, .inl (g.2 6, 5, .inr (.inr (.inr (.inr (rwM aM)))))), (qx, .inl (g.2 0, 13, .inl su)), (qt, .inr (7, [.ref ql, .ref qr, .ref qv, .ref qg, .int parts, .int limit])), (ql, .inl (g.2 0, 5, .inl len)), (qr, .inl (g.2 0, 5, .inl row)), ((aM 1), .inl (g.2 0, 13, .inl (M 1))), ((aM 2), .inl (g.2 0, 13, .inl (M 2))), ((aM 3), .inl (g.2 0, 13, .inl (M 3))), ((aM 4), .inl (g.2 0, 13, .inl (M 4)))]) (w1 := [((aM 0), .inl (g.2 0, 13, .inl fA_82))]) hP hD [3] [0, 1, 2, 8, 9, 10, 11, 4, 5, 6, 7] rfl rfl (by decide) (by decide) hk1 hFc hP1 hD1
          exact ⟨hP.sub [0, 1, 2, 3, 4, 5, 6, 11, 7, 8, 9, 10] rfl, hD.sub [0, 1, 2, 3, 4, 5, 6, 11, 7, 8, 9, 10] (by decide) rfl⟩
        · obtain ⟨hP, hD⟩ := va_join (wr := [(qe, .inr (0, [.ref qt, .ref qh, .ref qm, .ref qb, .ref qx, .int (E 5), .int (E 6), .int (E 7), .int (E 8), .int (E 9), .int (E 10), .int (E 11)])), (qh, .inl (g.2 0, 200, .inl he)), (qm, .inl (g.2 6, 5, .inr (.inr (.inr (.inr (rwM aM)))))), (qx, .inl (g.2 0, 13, .inl su)), (qt, .inr (7, [.ref ql, .ref qr, .ref qv, .ref qg, .int parts, .int limit])), (ql, .inl (g.2 0, 5, .inl len)), (qr, .inl (g.2 0, 5, .inl row)), ((aM 0), .inl (g.2 0, 13, .inl (M 0))), ((aM 2), .inl (g.2 0, 13, .inl (M 2))), ((aM 3), .inl (g.2 0, 13, .inl (M 3))), ((aM 4), .inl (g.2 0, 13, .inl (M 4)))]) (w1 := [((aM 1), .inl (g.2 0, 13, .inl fA_82))]) hP hD [4] [0, 1, 2, 8, 9, 10, 11, 3, 5, 6, 7] rfl rfl (by decide) (by decide) hk1 hFc hP1 hD1
          exact ⟨hP.sub [0, 1, 2, 3, 4, 5, 6, 7, 11, 8, 9, 10] rfl, hD.sub [0, 1, 2, 3, 4, 5, 6, 7, 11, 8, 9, 10] (by decide) rfl⟩
        · obtain ⟨hP, hD⟩ := va_join (wr := [(qe, .inr (0, [.ref qt, .ref qh, .ref qm, .ref qb, .ref qx, .int (E 5), .int (E 6), .int (E 7), .int (E 8), .int (E 9), .int (E 10), .int (E 11)])), (qh, .inl (g.2 0, 200, .inl he)), (qm, .inl (g.2 6, 5, .inr (.inr (.inr (.inr (rwM aM)))))), (qx, .inl (g.2 0, 13, .inl su)), (qt, .inr (7, [.ref ql, .ref qr, .ref qv, .ref qg, .int parts, .int limit])), (ql, .inl (g.2 0, 5, .inl len)), (qr, .inl (g.2 0, 5, .inl row)), ((aM 0), .inl (g.2 0, 13, .inl (M 0))), ((aM 1), .inl (g.2 0, 13, .inl (M 1))), ((aM 3), .inl (g.2 0, 13, .inl (M 3))), ((aM 4), .inl (g.2 0, 13, .inl (M 4)))]) (w1 := [((aM 2), .inl (g.2 0, 13, .inl fA_82))]) hP hD [5] [0, 1, 2, 8, 9, 10, 11, 3, 4, 6, 7] rfl rfl (by decide) (by decide) hk1 hFc hP1 hD1
          exact ⟨hP.sub [0, 1, 2, 3, 4, 5, 6, 7, 8, 11, 9, 10] rfl, hD.sub [0, 1, 2, 3, 4, 5, 6, 7, 8, 11, 9, 10] (by decide) rfl⟩
        · obtain ⟨hP, hD⟩ := va_join (wr := [(qe, .inr (0, [.ref qt, .ref qh, .ref qm, .ref qb, .ref qx, .int (E 5), .int (E 6), .int (E 7), .int (E 8), .int (E 9), .int (E 10), .int (E 11)])), (qh, .inl (g.2 0, 200, .inl he)), (qm, .inl (g.2 6, 5, .inr (.inr (.inr (.inr (rwM aM)))))), (qx, .inl (g.2 0, 13, .inl su)), (qt, .inr (7, [.ref ql, .ref qr, .ref qv, .ref qg, .int parts, .int limit])), (ql, .inl (g.2 0, 5, .inl len)), (qr, .inl (g.2 0, 5, .inl row)), ((aM 0), .inl (g.2 0, 13, .inl (M 0))), ((aM 1), .inl (g.2 0, 13, .inl (M 1))), ((aM 2), .inl (g.2 0, 13, .inl (M 2))), ((aM 4), .inl (g.2 0, 13, .inl (M 4)))]) (w1 := [((aM 3), .inl (g.2 0, 13, .inl fA_82))]) hP hD [6] [0, 1, 2, 8, 9, 10, 11, 3, 4, 5, 7] rfl rfl (by decide) (by decide) hk1 hFc hP1 hD1
          exact ⟨hP.sub [0, 1, 2, 3, 4, 5, 6, 7, 8, 9, 11, 10] rfl, hD.sub [0, 1, 2, 3, 4, 5, 6, 7, 8, 9, 11, 10] (by decide) rfl⟩
        · obtain ⟨hP, hD⟩ := va_join (wr := [(qe, .inr (0, [.ref qt, .ref qh, .ref qm, .ref qb, .ref qx, .int (E 5), .int (E 6), .int (E 7), .int (E 8), .int (E 9), .int (E 10), .int (E 11)])), (qh, .inl (g.2 0, 200, .inl he)), (qm, .inl (g.2 6, 5, .inr (.inr (.inr (.inr (rwM aM)))))), (qx, .inl (g.2 0, 13, .inl su)), (qt, .inr (7, [.ref ql, .ref qr, .ref qv, .ref qg, .int parts, .int limit])), (ql, .inl (g.2 0, 5, .inl len)), (qr, .inl (g.2 0, 5, .inl row)), ((aM 0), .inl (g.2 0, 13, .inl (M 0))), ((aM 1), .inl (g.2 0, 13, .inl (M 1))), ((aM 2), .inl (g.2 0, 13, .inl (M 2))), ((aM 3), .inl (g.2 0, 13, .inl (M 3)))]) (w1 := [((aM 4), .inl (g.2 0, 13, .inl fA_82))]) hP hD [7] [0, 1, 2, 8, 9, 10, 11, 3, 4, 5, 6] rfl rfl (by decide) (by decide) hk1 hFc hP1 hD1
          exact ⟨hP.sub [0, 1, 2, 3, 4, 5, 6, 7, 8, 9, 10, 11] rfl, hD.sub [0, 1, 2, 3, 4, 5, 6, 7, 8, 9, 10, 11] (by decide) rfl⟩
      obtain ⟨hP, hD⟩ := hPD
      clear hP1 hD1 hPc hDc hFc hk1
      generalize H1 = H at hP hS ⊢
      have hP : va_P g.1 vwCl [(qe, .inr (0, [.ref qt, .ref qh, .ref qm, .ref qb, .ref qx, .int (E 5), .int (E 6), .int (E 7), .int (E 8), .int (E 9), .int (E 10), .int (E 11)])), (qh, .inl (g.2 0, 200, .inl he)), (qm, .inl (g.2 6, 5, .inr (.inr (.inr (.inr (rwM aM)))))), (qx, .inl (g.2 0, 13, .inl su)), (qt, .inr (7, [.ref ql, .ref qr, .ref qv, .ref qg, .int parts, .int limit])), (ql, .inl (g.2 0, 5, .inl len)), (qr, .inl (g.2 0, 5, .inl row)), ((aM 0), .inl (g.2 0, 13, .inl ((va_up M j_80 fA_82) 0))), ((aM 1), .inl (g.2 0, 13, .inl ((va_up M j_80 fA_82) 1))), ((aM 2), .inl (g.2 0, 13, .inl ((va_up M j_80 fA_82) 2))), ((aM 3), .inl (g.2 0, 13, .inl ((va_up M j_80 fA_82) 3))), ((aM 4), .inl (g.2 0, 13, .inl ((va_up M j_80 fA_82) 4)))] H := hP
      have hD : va_D A [(qe, .inr (0, [.ref qt, .ref qh, .ref qm, .ref qb, .ref qx, .int (E 5), .int (E 6), .int (E 7), .int (E 8), .int (E 9), .int (E 10), .int (E 11)])), (qh, .inl (g.2 0, 200, .inl he)), (qm, .inl (g.2 6, 5, .inr (.inr (.inr (.inr (rwM aM)))))), (qx, .inl (g.2 0, 13, .inl su)), (qt, .inr (7, [.ref ql, .ref qr, .ref qv, .ref qg, .int parts, .int limit])), (ql, .inl (g.2 0, 5, .inl len)), (qr, .inl (g.2 0, 5, .inl row)), ((aM 0), .inl (g.2 0, 13, .inl ((va_up M j_80 fA_82) 0))), ((aM 1), .inl (g.2 0, 13, .inl ((va_up M j_80 fA_82) 1))), ((aM 2), .inl (g.2 0, 13, .inl ((va_up M j_80 fA_82) 2))), ((aM 3), .inl (g.2 0, 13, .inl ((va_up M j_80 fA_82) 3))), ((aM 4), .inl (g.2 0, 13, .inl ((va_up M j_80 fA_82) 4)))] := hD
      refine lv_iconst (v := (0 : Int32)) hx hb dX0_matchAll_85 (by decide) ?_
      refine lv_istore (lv' := [(4, .int (0 : Int32)), (0, .ref qe), (1, .int p1), (2, .int x2), (3, .int x3)]) hx hb dX0_matchAll_86 hl (by decide) rfl (fun ls hl => ?_)
      obtain ⟨nn, hv⟩ := hv
      exact kX0_matchAll_c88 S hr hlocks hG hA nn _ _ _ _ hv _ _ (hP.sub (ws' := [(qe, .inr (0, [.ref qt, .ref qh, .ref qm, .ref qb, .ref qx, .int (E 5), .int (E 6), .int (E 7), .int (E 8), .int (E 9), .int (E 10), .int (E 11)])), (qh, .inl (g.2 0, 200, .inl he)), (qm, .inl (g.2 6, 5, .inr (.inr (.inr (.inr (rwM aM)))))), ((aM 0), .inl (g.2 0, 13, .inl ((va_up M j_80 fA_82) 0))), ((aM 1), .inl (g.2 0, 13, .inl ((va_up M j_80 fA_82) 1))), ((aM 2), .inl (g.2 0, 13, .inl ((va_up M j_80 fA_82) 2))), ((aM 3), .inl (g.2 0, 13, .inl ((va_up M j_80 fA_82) 3))), ((aM 4), .inl (g.2 0, 13, .inl ((va_up M j_80 fA_82) 4))), (qx, .inl (g.2 0, 13, .inl su)), (qt, .inr (7, [.ref ql, .ref qr, .ref qv, .ref qg, .int parts, .int limit])), (ql, .inl (g.2 0, 5, .inl len)), (qr, .inl (g.2 0, 5, .inl row))]) [0, 1, 2, 7, 8, 9, 10, 11, 3, 4, 5, 6] rfl) (hD.sub (ws' := [(qe, .inr (0, [.ref qt, .ref qh, .ref qm, .ref qb, .ref qx, .int (E 5), .int (E 6), .int (E 7), .int (E 8), .int (E 9), .int (E 10), .int (E 11)])), (qh, .inl (g.2 0, 200, .inl he)), (qm, .inl (g.2 6, 5, .inr (.inr (.inr (.inr (rwM aM)))))), ((aM 0), .inl (g.2 0, 13, .inl ((va_up M j_80 fA_82) 0))), ((aM 1), .inl (g.2 0, 13, .inl ((va_up M j_80 fA_82) 1))), ((aM 2), .inl (g.2 0, 13, .inl ((va_up M j_80 fA_82) 2))), ((aM 3), .inl (g.2 0, 13, .inl ((va_up M j_80 fA_82) 3))), ((aM 4), .inl (g.2 0, 13, .inl ((va_up M j_80 fA_82) 4))), (qx, .inl (g.2 0, 13, .inl su)), (qt, .inr (7, [.ref ql, .ref qr, .ref qv, .ref qg, .int parts, .int limit])), (ql, .inl (g.2 0, 5, .inl len)), (qr, .inl (g.2 0, 5, .inl row))]) [0, 1, 2, 7, 8, 9, 10, 11, 3, 4, 5, 6] (by decide) rfl) hS ls (lv_sub hl [1, 2, 3, 0] rfl)
    · have hv := hvf hc
      refine lv_aload_n hx hb dX0_matchAll_39 rfl (lv_at hl 0 rfl) ?_
      refine va_get (D := g.1) (ci := 0) (v := .ref qx) (C := RX0) (T := TX0) (N := 12) hx hb hts inX0_matchAll_0 hown hK hP 0 rfl rfl 4 (by decide) (hts (.fieldLink RX0 23 "RangeCodes$Ear" "sums" "[I") (List.mem_of_getElem? (i := 3) rfl)) (fun _ h9 => h9) rfl dX0_matchAll_40 ?_
      refine lv_iload_n hx hb dX0_matchAll_43 rfl (lv_at hl 3 rfl) ?_
      refine lv_dup2_11 hx hb dX0_matchAll_44 rfl rfl ?_
      obtain ⟨ho_3, hv⟩ := hv
      refine va_iald hx hb hK hP 8 0 rfl rfl ho_3 dX0_matchAll_45 ?_
      refine lv_aload_n hx hb dX0_matchAll_46 rfl (lv_at hl 0 rfl) ?_
      refine lv_iload hx hb dX0_matchAll_47 (lv_at hl 4 rfl) ?_
      obtain ⟨h_49, i_49, ho_4, hv⟩ := hv
      refine vp_callSi (W.runV (As := [.int x4]) (rest := [.int (su x3.toNatClampNeg), .int x3, .ref qx]) S (wX0_sign l g qe qt qh qm qb qx E he x4 (sX0_sign h_49 i_49 E he x4 ho_4)) (cwV 1 hts gX0_matchAll_X0_sign rfl rfl rfl (by decide +kernel) ⟨Nat.le_of_ble_eq_true rfl, Nat.le_of_ble_eq_true rfl⟩) ⟨blindRO, va_recv hK hP (ci := 0) (q0 := 0) rfl rfl, fun U hU hW => ⟨rfl, by rw [hU]; exact hP.sub (ws' := [(qe, .inr (0, [.ref qt, .ref qh, .ref qm, .ref qb, .ref qx, .int (E 5), .int (E 6), .int (E 7), .int (E 8), .int (E 9), .int (E 10), .int (E 11)])), (qh, .inl (g.2 0, 200, .inl he))]) [0, 1] rfl, hG.warm hW⟩⟩ rfl rfl hl.1 rfl (lv_room (Nat.le_of_ble_eq_true rfl)) dX0_matchAll_49 ⟨Nat.le_of_ble_eq_true rfl, Nat.le_of_ble_eq_true rfl⟩) (fun r_49 hr_49 => ?_)
      have hv := hv r_49 hr_49
      refine lv_iadd hx hb dX0_matchAll_52 ?_
      refine lv_topi (fun a_53 ea_53 => ?_)
      have hv := hv a_53 ea_53
      obtain ⟨ho_5, hv⟩ := hv
      refine va_iast hx hb hK hP hD hS 8 0 rfl rfl ho_5 dX0_matchAll_53 (fun H locs hP hD hS => ?_)
      have hP : va_P g.1 vwCl [(qe, .inr (0, [.ref qt, .ref qh, .ref qm, .ref qb, .ref qx, .int (E 5), .int (E 6), .int (E 7), .int (E 8), .int (E 9), .int (E 10), .int (E 11)])), (qh, .inl (g.2 0, 200, .inl he)), (qm, .inl (g.2 6, 5, .inr (.inr (.inr (.inr (rwM aM)))))), ((aM 0), .inl (g.2 0, 13, .inl (M 0))), ((aM 1), .inl (g.2 0, 13, .inl (M 1))), ((aM 2), .inl (g.2 0, 13, .inl (M 2))), ((aM 3), .inl (g.2 0, 13, .inl (M 3))), ((aM 4), .inl (g.2 0, 13, .inl (M 4))), (qx, .inl (g.2 0, 13, .inl (upd su x3.toNatClampNeg a_53))), (qt, .inr (7, [.ref ql, .ref qr, .ref qv, .ref qg, .int parts, .int limit])), (ql, .inl (g.2 0, 5, .inl len)), (qr, .inl (g.2 0, 5, .inl row))] H := hP
      have hD : va_D A [(qe, .inr (0, [.ref qt, .ref qh, .ref qm, .ref qb, .ref qx, .int (E 5), .int (E 6), .int (E 7), .int (E 8), .int (E 9), .int (E 10), .int (E 11)])), (qh, .inl (g.2 0, 200, .inl he)), (qm, .inl (g.2 6, 5, .inr (.inr (.inr (.inr (rwM aM)))))), ((aM 0), .inl (g.2 0, 13, .inl (M 0))), ((aM 1), .inl (g.2 0, 13, .inl (M 1))), ((aM 2), .inl (g.2 0, 13, .inl (M 2))), ((aM 3), .inl (g.2 0, 13, .inl (M 3))), ((aM 4), .inl (g.2 0, 13, .inl (M 4))), (qx, .inl (g.2 0, 13, .inl (upd su x3.toNatClampNeg a_53))), (qt, .inr (7, [.ref ql, .ref qr, .ref qv, .ref qg, .int parts, .int limit])), (ql, .inl (g.2 0, 5, .inl len)), (qr, .inl (g.2 0, 5, .inl row))] := hD
      refine lv_iload_n hx hb dX0_matchAll_54 rfl (lv_at hl 3 rfl) ?_
      refine lv_iconst (v := (1 : Int32)) hx hb dX0_matchAll_55 (by decide) ?_
      refine lv_iadd hx hb dX0_matchAll_56 ?_
      refine lv_iload_n hx hb dX0_matchAll_57 rfl (lv_at hl 2 rfl) ?_
      obtain ⟨hvt, hvf⟩ := hv
      refine lv_icmp_ge (tgt := 67) hx hb dX0_matchAll_58 (by decide) (fun hc => ?_) (fun hc => ?_)
      · have hv := hvt hc
        refine lv_iconst (v := (0 : Int32)) hx hb dX0_matchAll_67 (by decide) ?_
        refine lv_istore_n (lv' := [(3, .int (0 : Int32)), (0, .ref qe), (1, .int p1), (2, .int x2), (4, .int x4)]) hx hb dX0_matchAll_68 rfl hl (by decide) rfl (fun ls hl => ?_)
        refine lv_iinc (v := (x4 + (1 : Int32))) (lv' := [(4, .int (x4 + (1 : Int32))), (3, .int (0 : Int32)), (0, .ref qe), (1, .int p1), (2, .int x2)]) hx hb dX0_matchAll_69 hl (k := 4) rfl rfl (by decide) rfl (fun ls hl => ?_)
        refine lv_goto (tgt := 30) hx hb dX0_matchAll_72 (by decide) ?_
        exact ih _ _ _ _ _ hv _ _ (hP.sub (ws' := [(qe, .inr (0, [.ref qt, .ref qh, .ref qm, .ref qb, .ref qx, .int (E 5), .int (E 6), .int (E 7), .int (E 8), .int (E 9), .int (E 10), .int (E 11)])), (qh, .inl (g.2 0, 200, .inl he)), (qm, .inl (g.2 6, 5, .inr (.inr (.inr (.inr (rwM aM)))))), ((aM 0), .inl (g.2 0, 13, .inl (M 0))), ((aM 1), .inl (g.2 0, 13, .inl (M 1))), ((aM 2), .inl (g.2 0, 13, .inl (M 2))), ((aM 3), .inl (g.2 0, 13, .inl (M 3))), ((aM 4), .inl (g.2 0, 13, .inl (M 4))), (qx, .inl (g.2 0, 13, .inl (upd su x3.toNatClampNeg a_53))), (qt, .inr (7, [.ref ql, .ref qr, .ref qv, .ref qg, .int parts, .int limit])), (ql, .inl (g.2 0, 5, .inl len)), (qr, .inl (g.2 0, 5, .inl row))]) [0, 1, 2, 3, 4, 5, 6, 7, 8, 9, 10, 11] rfl) (hD.sub (ws' := [(qe, .inr (0, [.ref qt, .ref qh, .ref qm, .ref qb, .ref qx, .int (E 5), .int (E 6), .int (E 7), .int (E 8), .int (E 9), .int (E 10), .int (E 11)])), (qh, .inl (g.2 0, 200, .inl he)), (qm, .inl (g.2 6, 5, .inr (.inr (.inr (.inr (rwM aM)))))), ((aM 0), .inl (g.2 0, 13, .inl (M 0))), ((aM 1), .inl (g.2 0, 13, .inl (M 1))), ((aM 2), .inl (g.2 0, 13, .inl (M 2))), ((aM 3), .inl (g.2 0, 13, .inl (M 3))), ((aM 4), .inl (g.2 0, 13, .inl (M 4))), (qx, .inl (g.2 0, 13, .inl (upd su x3.toNatClampNeg a_53))), (qt, .inr (7, [.ref ql, .ref qr, .ref qv, .ref qg, .int parts, .int limit])), (ql, .inl (g.2 0, 5, .inl len)), (qr, .inl (g.2 0, 5, .inl row))]) [0, 1, 2, 3, 4, 5, 6, 7, 8, 9, 10, 11] (by decide) rfl) hS ls (lv_sub hl [2, 3, 4, 1, 0] rfl)
      · have hv := hvf hc
        refine lv_iload_n hx hb dX0_matchAll_61 rfl (lv_at hl 3 rfl) ?_
        refine lv_iconst (v := (1 : Int32)) hx hb dX0_matchAll_62 (by decide) ?_
        refine lv_iadd hx hb dX0_matchAll_63 ?_
        refine lv_goto (tgt := 68) hx hb dX0_matchAll_64 (by decide) ?_
        refine lv_istore_n (lv' := [(3, .int (x3 + (1 : Int32))), (0, .ref qe), (1, .int p1), (2, .int x2), (4, .int x4)]) hx hb dX0_matchAll_68 rfl hl (by decide) rfl (fun ls hl => ?_)
        refine lv_iinc (v := (x4 + (1 : Int32))) (lv' := [(4, .int (x4 + (1 : Int32))), (3, .int (x3 + (1 : Int32))), (0, .ref qe), (1, .int p1), (2, .int x2)]) hx hb dX0_matchAll_69 hl (k := 4) rfl rfl (by decide) rfl (fun ls hl => ?_)
        refine lv_goto (tgt := 30) hx hb dX0_matchAll_72 (by decide) ?_
        exact ih _ _ _ _ _ hv _ _ (hP.sub (ws' := [(qe, .inr (0, [.ref qt, .ref qh, .ref qm, .ref qb, .ref qx, .int (E 5), .int (E 6), .int (E 7), .int (E 8), .int (E 9), .int (E 10), .int (E 11)])), (qh, .inl (g.2 0, 200, .inl he)), (qm, .inl (g.2 6, 5, .inr (.inr (.inr (.inr (rwM aM)))))), ((aM 0), .inl (g.2 0, 13, .inl (M 0))), ((aM 1), .inl (g.2 0, 13, .inl (M 1))), ((aM 2), .inl (g.2 0, 13, .inl (M 2))), ((aM 3), .inl (g.2 0, 13, .inl (M 3))), ((aM 4), .inl (g.2 0, 13, .inl (M 4))), (qx, .inl (g.2 0, 13, .inl (upd su x3.toNatClampNeg a_53))), (qt, .inr (7, [.ref ql, .ref qr, .ref qv, .ref qg, .int parts, .int limit])), (ql, .inl (g.2 0, 5, .inl len)), (qr, .inl (g.2 0, 5, .inl row))]) [0, 1, 2, 3, 4, 5, 6, 7, 8, 9, 10, 11] rfl) (hD.sub (ws' := [(qe, .inr (0, [.ref qt, .ref qh, .ref qm, .ref qb, .ref qx, .int (E 5), .int (E 6), .int (E 7), .int (E 8), .int (E 9), .int (E 10), .int (E 11)])), (qh, .inl (g.2 0, 200, .inl he)), (qm, .inl (g.2 6, 5, .inr (.inr (.inr (.inr (rwM aM)))))), ((aM 0), .inl (g.2 0, 13, .inl (M 0))), ((aM 1), .inl (g.2 0, 13, .inl (M 1))), ((aM 2), .inl (g.2 0, 13, .inl (M 2))), ((aM 3), .inl (g.2 0, 13, .inl (M 3))), ((aM 4), .inl (g.2 0, 13, .inl (M 4))), (qx, .inl (g.2 0, 13, .inl (upd su x3.toNatClampNeg a_53))), (qt, .inr (7, [.ref ql, .ref qr, .ref qv, .ref qg, .int parts, .int limit])), (ql, .inl (g.2 0, 5, .inl len)), (qr, .inl (g.2 0, 5, .inl row))]) [0, 1, 2, 3, 4, 5, 6, 7, 8, 9, 10, 11] (by decide) rfl) hS ls (lv_sub hl [2, 3, 4, 1, 0] rfl)
def vX0_matchAll (E : Nat → Int32) (he : Nat → Int32) (M : Nat → Nat → Int32) (su : Nat → Int32) (parts : Int32) (limit : Int32) (len : Nat → Int32) (row : Nat → Int32) (p1 : Int32) (Q : (Nat → Nat → Int32) → (Nat → Int32) → Prop) : Prop := (vp_in p1 5 ∧ (preJ7_fill_53178 13 su (0 : Int32) ∧ (∀ (fA_15 : Nat → Int32), postJ7_fill_53178 13 su (0 : Int32) fA_15 → (preX8_rest (E 5) (len p1.toNatClampNeg) ∧ (∀ r_23 : Int32, postX8_rest (E 5) (len p1.toNatClampNeg) r_23 → (∃ nn, vX0_matchAll_c30 E he parts limit len row p1 Q nn (len p1.toNatClampNeg) r_23 (0 : Int32) M fA_15))))))
set_option maxHeartbeats 4000000 in
set_option maxRecDepth 100000 in
theorem wX0_matchAll (l : Launch) (g : GP) (qe : Nat) (qt : Nat) (qh : Nat) (qm : Nat) (qb : Nat) (qx : Nat) (ql : Nat) (qr : Nat) (qv : Nat) (qg : Nat) (aM : Nat → Nat) (sz : Nat) (E : Nat → Int32) (he : Nat → Int32) (M : Nat → Nat → Int32) (su : Nat → Int32) (parts : Int32) (limit : Int32) (len : Nat → Int32) (row : Nat → Int32) (p1 : Int32) {Q : (Nat → Nat → Int32) → (Nat → Int32) → Prop} (hv : vX0_matchAll E he M su parts limit len row p1 Q) : Met l yX0_matchAll wsX0_matchAll rmX0_matchAll (va_Pc [.ref qe, .int p1] (fun U => U.heap.size = sz ∧ va_P g.1 vwCl [(qe, .inr (0, [.ref qt, .ref qh, .ref qm, .ref qb, .ref qx, .int (E 5), .int (E 6), .int (E 7), .int (E 8), .int (E 9), .int (E 10), .int (E 11)])), (qh, .inl (g.2 0, 200, .inl he)), (qm, .inl (g.2 6, 5, .inr (.inr (.inr (.inr (rwM aM)))))), ((aM 0), .inl (g.2 0, 13, .inl (M 0))), ((aM 1), .inl (g.2 0, 13, .inl (M 1))), ((aM 2), .inl (g.2 0, 13, .inl (M 2))), ((aM 3), .inl (g.2 0, 13, .inl (M 3))), ((aM 4), .inl (g.2 0, 13, .inl (M 4))), (qx, .inl (g.2 0, 13, .inl su)), (qt, .inr (7, [.ref ql, .ref qr, .ref qv, .ref qg, .int parts, .int limit])), (ql, .inl (g.2 0, 5, .inl len)), (qr, .inl (g.2 0, 5, .inl row))] U.heap ∧ GK g U ∧ va_D (fun _ => True) [(qe, .inr (0, [.ref qt, .ref qh, .ref qm, .ref qb, .ref qx, .int (E 5), .int (E 6), .int (E 7), .int (E 8), .int (E 9), .int (E 10), .int (E 11)])), (qh, .inl (g.2 0, 200, .inl he)), (qm, .inl (g.2 6, 5, .inr (.inr (.inr (.inr (rwM aM)))))), ((aM 0), .inl (g.2 0, 13, .inl (M 0))), ((aM 1), .inl (g.2 0, 13, .inl (M 1))), ((aM 2), .inl (g.2 0, 13, .inl (M 2))), ((aM 3), .inl (g.2 0, 13, .inl (M 3))), ((aM 4), .inl (g.2 0, 13, .inl (M 4))), (qx, .inl (g.2 0, 13, .inl su)), (qt, .inr (7, [.ref ql, .ref qr, .ref qv, .ref qg, .int parts, .int limit])), (ql, .inl (g.2 0, 5, .inl len)), (qr, .inl (g.2 0, 5, .inl row))])) (va_Qv (fun (u : (Nat → Nat → Int32) × (Nat → Int32)) => Q u.1 u.2) (fun (u : (Nat → Nat → Int32) × (Nat → Int32)) t => va_P g.1 vwCl [(qe, .inr (0, [.ref qt, .ref qh, .ref qm, .ref qb, .ref qx, .int (E 5), .int (E 6), .int (E 7), .int (E 8), .int (E 9), .int (E 10), .int (E 11)])), (qh, .inl (g.2 0, 200, .inl he)), (qm, .inl (g.2 6, 5, .inr (.inr (.inr (.inr (rwM aM)))))), ((aM 0), .inl (g.2 0, 13, .inl (u.1 0))), ((aM 1), .inl (g.2 0, 13, .inl (u.1 1))), ((aM 2), .inl (g.2 0, 13, .inl (u.1 2))), ((aM 3), .inl (g.2 0, 13, .inl (u.1 3))), ((aM 4), .inl (g.2 0, 13, .inl (u.1 4))), (qx, .inl (g.2 0, 13, .inl u.2)), (qt, .inr (7, [.ref ql, .ref qr, .ref qv, .ref qg, .int parts, .int limit])), (ql, .inl (g.2 0, 5, .inl len)), (qr, .inl (g.2 0, 5, .inl row))] t.heap ∧ va_D (va_A [(qe, .inr (0, [.ref qt, .ref qh, .ref qm, .ref qb, .ref qx, .int (E 5), .int (E 6), .int (E 7), .int (E 8), .int (E 9), .int (E 10), .int (E 11)])), (qh, .inl (g.2 0, 200, .inl he)), (qm, .inl (g.2 6, 5, .inr (.inr (.inr (.inr (rwM aM)))))), ((aM 0), .inl (g.2 0, 13, .inl (M 0))), ((aM 1), .inl (g.2 0, 13, .inl (M 1))), ((aM 2), .inl (g.2 0, 13, .inl (M 2))), ((aM 3), .inl (g.2 0, 13, .inl (M 3))), ((aM 4), .inl (g.2 0, 13, .inl (M 4))), (qx, .inl (g.2 0, 13, .inl su)), (qt, .inr (7, [.ref ql, .ref qr, .ref qv, .ref qg, .int parts, .int limit])), (ql, .inl (g.2 0, 5, .inl len)), (qr, .inl (g.2 0, 5, .inl row))] sz) [(qe, .inr (0, [.ref qt, .ref qh, .ref qm, .ref qb, .ref qx, .int (E 5), .int (E 6), .int (E 7), .int (E 8), .int (E 9), .int (E 10), .int (E 11)])), (qh, .inl (g.2 0, 200, .inl he)), (qm, .inl (g.2 6, 5, .inr (.inr (.inr (.inr (rwM aM)))))), ((aM 0), .inl (g.2 0, 13, .inl (u.1 0))), ((aM 1), .inl (g.2 0, 13, .inl (u.1 1))), ((aM 2), .inl (g.2 0, 13, .inl (u.1 2))), ((aM 3), .inl (g.2 0, 13, .inl (u.1 3))), ((aM 4), .inl (g.2 0, 13, .inl (u.1 4))), (qx, .inl (g.2 0, 13, .inl u.2)), (qt, .inr (7, [.ref ql, .ref qr, .ref qv, .ref qg, .int parts, .int limit])), (ql, .inl (g.2 0, 5, .inl len)), (qr, .inl (g.2 0, 5, .inl row))]) (va_A [(qe, .inr (0, [.ref qt, .ref qh, .ref qm, .ref qb, .ref qx, .int (E 5), .int (E 6), .int (E 7), .int (E 8), .int (E 9), .int (E 10), .int (E 11)])), (qh, .inl (g.2 0, 200, .inl he)), (qm, .inl (g.2 6, 5, .inr (.inr (.inr (.inr (rwM aM)))))), ((aM 0), .inl (g.2 0, 13, .inl (M 0))), ((aM 1), .inl (g.2 0, 13, .inl (M 1))), ((aM 2), .inl (g.2 0, 13, .inl (M 2))), ((aM 3), .inl (g.2 0, 13, .inl (M 3))), ((aM 4), .inl (g.2 0, 13, .inl (M 4))), (qx, .inl (g.2 0, 13, .inl su)), (qt, .inr (7, [.ref ql, .ref qr, .ref qv, .ref qg, .int parts, .int limit])), (ql, .inl (g.2 0, 5, .inl len)), (qr, .inl (g.2 0, 5, .inl row))] sz)) 0 0 (va_A [(qe, .inr (0, [.ref qt, .ref qh, .ref qm, .ref qb, .ref qx, .int (E 5), .int (E 6), .int (E 7), .int (E 8), .int (E 9), .int (E 10), .int (E 11)])), (qh, .inl (g.2 0, 200, .inl he)), (qm, .inl (g.2 6, 5, .inr (.inr (.inr (.inr (rwM aM)))))), ((aM 0), .inl (g.2 0, 13, .inl (M 0))), ((aM 1), .inl (g.2 0, 13, .inl (M 1))), ((aM 2), .inl (g.2 0, 13, .inl (M 2))), ((aM 3), .inl (g.2 0, 13, .inl (M 3))), ((aM 4), .inl (g.2 0, 13, .inl (M 4))), (qx, .inl (g.2 0, 13, .inl su)), (qt, .inr (7, [.ref ql, .ref qr, .ref qv, .ref qg, .int parts, .int limit])), (ql, .inl (g.2 0, 5, .inl len)), (qr, .inl (g.2 0, 5, .inl row))] sz) := by
  refine Met.ofW (cc := cX0_matchAll) (maxL := 5) (ret := none) (by decide) rfl ?_
  intro p e s m args below meth c s₁ B hml hv'
  obtain ⟨rfl, hsz, hP, hG, hD0⟩ := hv'
  have S : CallFix p m c cX0_matchAll 5 s _ wsX0_matchAll RX0 := ⟨B.exec, B.bytes, hml, findClass_of_methodNamed B.named, atoms_spec (ws := wsX0_matchAll) B.pre⟩
  obtain ⟨hx, hb, hml, hown, hts⟩ := id S
  have hK := hG.1
  have hr := B.returns
  have hlocks := B.notSynchronized
  subst hsz
  have hD := hD0.self (sz := s.heap.size)
  generalize hAe : va_A [(qe, .inr (0, [.ref qt, .ref qh, .ref qm, .ref qb, .ref qx, .int (E 5), .int (E 6), .int (E 7), .int (E 8), .int (E 9), .int (E 10), .int (E 11)])), (qh, .inl (g.2 0, 200, .inl he)), (qm, .inl (g.2 6, 5, .inr (.inr (.inr (.inr (rwM aM)))))), ((aM 0), .inl (g.2 0, 13, .inl (M 0))), ((aM 1), .inl (g.2 0, 13, .inl (M 1))), ((aM 2), .inl (g.2 0, 13, .inl (M 2))), ((aM 3), .inl (g.2 0, 13, .inl (M 3))), ((aM 4), .inl (g.2 0, 13, .inl (M 4))), (qx, .inl (g.2 0, 13, .inl su)), (qt, .inr (7, [.ref ql, .ref qr, .ref qv, .ref qg, .int parts, .int limit])), (ql, .inl (g.2 0, 5, .inl len)), (qr, .inl (g.2 0, 5, .inl row))] s.heap.size = A at hD ⊢
  have hA : ∀ q : Nat, s.heap.size ≤ q → A q := fun q h => by rw [← hAe]; exact Or.inr h
  have hS : va_S A s.heap s.heap [] := va_S.rf
  clear hD0 hAe
  have hl := lv_entry ([.ref qe, .int p1]) (n := 5) (Nat.le_of_ble_eq_true rfl)
  rw [lg_entry_eq]
  generalize (lg_sl ([.ref qe, .int p1]) ++ List.replicate (5 - (lg_sl ([.ref qe, .int p1])).length) Slot.unset).toArray = ls at hl ⊢
  have hl : lv_has ls 5 [(0, .ref qe), (1, .int p1)] := hl
  unfold vX0_matchAll at hv
  refine lv_aload_n hx hb dX0_matchAll_0 rfl (lv_at hl 0 rfl) ?_
  refine va_get (D := g.1) (ci := 0) (v := .ref qt) (C := RX0) (T := TX0) (N := 12) hx hb hts inX0_matchAll_0 hown hK hP 0 rfl rfl 0 (by decide) (hts (.fieldLink RX0 26 "RangeCodes$Ear" "told" "LRangeCodes$Told;") (List.mem_of_getElem? (i := 1) rfl)) (fun _ h9 => h9) rfl dX0_matchAll_1 ?_
  refine va_get (D := g.1) (ci := 7) (v := .ref ql) (C := RX7) (T := TX7) (N := 6) hx hb hts inX0_matchAll_7 hown hK hP 9 rfl rfl 0 (by decide) (hts (.fieldLink RX0 107 "RangeCodes$Told" "lengths" "[I") (List.mem_of_getElem? (i := 2) rfl)) (fun _ h9 => h9) rfl dX0_matchAll_4 ?_
  refine lv_iload_n hx hb dX0_matchAll_7 rfl (lv_at hl 1 rfl) ?_
  obtain ⟨ho_1, hv⟩ := hv
  refine va_iald hx hb hK hP 10 0 rfl rfl ho_1 dX0_matchAll_8 ?_
  refine lv_istore_n (lv' := [(2, .int (len p1.toNatClampNeg)), (0, .ref qe), (1, .int p1)]) hx hb dX0_matchAll_9 rfl hl (by decide) rfl (fun ls hl => ?_)
  refine lv_aload_n hx hb dX0_matchAll_10 rfl (lv_at hl 1 rfl) ?_
  refine va_get (D := g.1) (ci := 0) (v := .ref qx) (C := RX0) (T := TX0) (N := 12) hx hb hts inX0_matchAll_0 hown hK hP 0 rfl rfl 4 (by decide) (hts (.fieldLink RX0 23 "RangeCodes$Ear" "sums" "[I") (List.mem_of_getElem? (i := 3) rfl)) (fun _ h9 => h9) rfl dX0_matchAll_11 ?_
  refine lv_iconst (v := (0 : Int32)) hx hb dX0_matchAll_14 (by decide) ?_
  obtain ⟨ho_2, hv⟩ := hv
  have hPc := hP.sub (ws' := [(qx, .inl (g.2 0, 13, .inl su))]) [8] rfl
  have hDc := hD.sub (ws' := [(qx, .inl (g.2 0, 13, .inl su))]) [8] (by decide) rfl
  have hFc := va_free (wc := [(qx, .inl (g.2 0, 13, .inl su))]) hD hS hA [8] rfl
  refine va_callv (va_runS (As := [.ref qx, .int (0 : Int32)]) (rest := []) S (wJ7_fill_53178 l g qx s.heap.size 13 su (0 : Int32) (sJ7_fill_53178 13 su (0 : Int32) ho_2)) (va_cwS 2 hts gX0_matchAll_J7_fill_53178 rfl rfl rfl (by decide +kernel) ⟨Nat.le_of_ble_eq_true rfl, Nat.le_of_ble_eq_true rfl⟩) ⟨blindRW, fun U hU hW => ⟨rfl, by rw [hU], by rw [hU]; exact hPc, hG.warm hW, hDc.weaken (fun _ _ _ _ => trivial)⟩⟩ rfl rfl hl.1 rfl (lv_room (Nat.le_of_ble_eq_true rfl)) dX0_matchAll_15 ⟨Nat.le_of_ble_eq_true rfl, Nat.le_of_ble_eq_true rfl⟩) hS (fun q _ h => hFc q h) hFc (fun u t H1 locs ht hvm hw hB hz1 hk1 hS => ?_)
  obtain ⟨fA_15, rfl⟩ : ∃ z, z = u := ⟨_, rfl⟩
  obtain ⟨hP1, hD1⟩ := hB
  rw [ht] at hP1
  have hv := hv fA_15 hw
  obtain ⟨hP, hD⟩ := va_join (wr := [(qe, .inr (0, [.ref qt, .ref qh, .ref qm, .ref qb, .ref qx, .int (E 5), .int (E 6), .int (E 7), .int (E 8), .int (E 9), .int (E 10), .int (E 11)])), (qh, .inl (g.2 0, 200, .inl he)), (qm, .inl (g.2 6, 5, .inr (.inr (.inr (.inr (rwM aM)))))), ((aM 0), .inl (g.2 0, 13, .inl (M 0))), ((aM 1), .inl (g.2 0, 13, .inl (M 1))), ((aM 2), .inl (g.2 0, 13, .inl (M 2))), ((aM 3), .inl (g.2 0, 13, .inl (M 3))), ((aM 4), .inl (g.2 0, 13, .inl (M 4))), (qt, .inr (7, [.ref ql, .ref qr, .ref qv, .ref qg, .int parts, .int limit])), (ql, .inl (g.2 0, 5, .inl len)), (qr, .inl (g.2 0, 5, .inl row))]) (w1 := [(qx, .inl (g.2 0, 13, .inl fA_15))]) hP hD [8] [0, 1, 2, 3, 4, 5, 6, 7, 9, 10, 11] rfl rfl (by decide) (by decide) hk1 hFc hP1 hD1
  clear hP1 hD1 hPc hDc hFc hk1
  generalize H1 = H at hP hS ⊢
  have hP : va_P g.1 vwCl [(qe, .inr (0, [.ref qt, .ref qh, .ref qm, .ref qb, .ref qx, .int (E 5), .int (E 6), .int (E 7), .int (E 8), .int (E 9), .int (E 10), .int (E 11)])), (qh, .inl (g.2 0, 200, .inl he)), (qm, .inl (g.2 6, 5, .inr (.inr (.inr (.inr (rwM aM)))))), ((aM 0), .inl (g.2 0, 13, .inl (M 0))), ((aM 1), .inl (g.2 0, 13, .inl (M 1))), ((aM 2), .inl (g.2 0, 13, .inl (M 2))), ((aM 3), .inl (g.2 0, 13, .inl (M 3))), ((aM 4), .inl (g.2 0, 13, .inl (M 4))), (qt, .inr (7, [.ref ql, .ref qr, .ref qv, .ref qg, .int parts, .int limit])), (ql, .inl (g.2 0, 5, .inl len)), (qr, .inl (g.2 0, 5, .inl row)), (qx, .inl (g.2 0, 13, .inl fA_15))] H := hP
  have hD : va_D A [(qe, .inr (0, [.ref qt, .ref qh, .ref qm, .ref qb, .ref qx, .int (E 5), .int (E 6), .int (E 7), .int (E 8), .int (E 9), .int (E 10), .int (E 11)])), (qh, .inl (g.2 0, 200, .inl he)), (qm, .inl (g.2 6, 5, .inr (.inr (.inr (.inr (rwM aM)))))), ((aM 0), .inl (g.2 0, 13, .inl (M 0))), ((aM 1), .inl (g.2 0, 13, .inl (M 1))), ((aM 2), .inl (g.2 0, 13, .inl (M 2))), ((aM 3), .inl (g.2 0, 13, .inl (M 3))), ((aM 4), .inl (g.2 0, 13, .inl (M 4))), (qt, .inr (7, [.ref ql, .ref qr, .ref qv, .ref qg, .int parts, .int limit])), (ql, .inl (g.2 0, 5, .inl len)), (qr, .inl (g.2 0, 5, .inl row)), (qx, .inl (g.2 0, 13, .inl fA_15))] := hD
  refine lv_aload_n hx hb dX0_matchAll_18 rfl (lv_at hl 1 rfl) ?_
  refine va_get (D := g.1) (ci := 0) (v := .int (E 5)) (C := RX0) (T := TX0) (N := 12) hx hb hts inX0_matchAll_0 hown hK hP 0 rfl rfl 5 (by decide) (hts (.fieldLink RX0 60 "RangeCodes$Ear" "from" "I") (List.mem_of_getElem? (i := 4) rfl)) (fun _ h9 => h9) rfl dX0_matchAll_19 ?_
  refine lv_iload_n hx hb dX0_matchAll_22 rfl (lv_at hl 0 rfl) ?_
  obtain ⟨ho_3, hv⟩ := hv
  refine vp_callSi (run_of (va_runSN (As := [.int (E 5), .int (len p1.toNatClampNeg)]) (rest := []) S (wX8_rest l g (E 5) (len p1.toNatClampNeg) (sX8_rest (E 5) (len p1.toNatClampNeg) ho_3)) ⟨va_cnB 2 hts gX0_matchAll_X8_rest_n116 rfl rfl rfl (hG.2 _ (List.mem_of_getElem? (i := 2) rfl)) (hts (.initialized RX8) (List.mem_of_getElem? (i := 12) rfl)) (by decide +kernel) ⟨Nat.le_of_ble_eq_true rfl, Nat.le_of_ble_eq_true rfl⟩, (hts (.static yX8_rest) (List.mem_of_getElem? (i := 11) rfl)), trivial⟩ ⟨blindRO, fun U hU hW => ⟨rfl, by rw [hU]; exact hP.sub (ws' := []) [] rfl, hG.warm hW⟩⟩ rfl rfl hl.1 rfl (lv_room (Nat.le_of_ble_eq_true rfl)) dX0_matchAll_23 ⟨Nat.le_of_ble_eq_true rfl, Nat.le_of_ble_eq_true rfl⟩)) (fun r_23 hr_23 => ?_)
  have hv := hv r_23 hr_23
  refine lv_istore_n (lv' := [(3, .int r_23), (2, .int (len p1.toNatClampNeg)), (0, .ref qe), (1, .int p1)]) hx hb dX0_matchAll_26 rfl hl (by decide) rfl (fun ls hl => ?_)
  refine lv_iconst (v := (0 : Int32)) hx hb dX0_matchAll_27 (by decide) ?_
  refine lv_istore (lv' := [(4, .int (0 : Int32)), (3, .int r_23), (2, .int (len p1.toNatClampNeg)), (0, .ref qe), (1, .int p1)]) hx hb dX0_matchAll_28 hl (by decide) rfl (fun ls hl => ?_)
  obtain ⟨nn, hv⟩ := hv
  exact kX0_matchAll_c30 S hr hlocks hG hA nn _ _ _ _ _ hv _ _ (hP.sub (ws' := [(qe, .inr (0, [.ref qt, .ref qh, .ref qm, .ref qb, .ref qx, .int (E 5), .int (E 6), .int (E 7), .int (E 8), .int (E 9), .int (E 10), .int (E 11)])), (qh, .inl (g.2 0, 200, .inl he)), (qm, .inl (g.2 6, 5, .inr (.inr (.inr (.inr (rwM aM)))))), ((aM 0), .inl (g.2 0, 13, .inl (M 0))), ((aM 1), .inl (g.2 0, 13, .inl (M 1))), ((aM 2), .inl (g.2 0, 13, .inl (M 2))), ((aM 3), .inl (g.2 0, 13, .inl (M 3))), ((aM 4), .inl (g.2 0, 13, .inl (M 4))), (qx, .inl (g.2 0, 13, .inl fA_15)), (qt, .inr (7, [.ref ql, .ref qr, .ref qv, .ref qg, .int parts, .int limit])), (ql, .inl (g.2 0, 5, .inl len)), (qr, .inl (g.2 0, 5, .inl row))]) [0, 1, 2, 3, 4, 5, 6, 7, 11, 8, 9, 10] rfl) (hD.sub (ws' := [(qe, .inr (0, [.ref qt, .ref qh, .ref qm, .ref qb, .ref qx, .int (E 5), .int (E 6), .int (E 7), .int (E 8), .int (E 9), .int (E 10), .int (E 11)])), (qh, .inl (g.2 0, 200, .inl he)), (qm, .inl (g.2 6, 5, .inr (.inr (.inr (.inr (rwM aM)))))), ((aM 0), .inl (g.2 0, 13, .inl (M 0))), ((aM 1), .inl (g.2 0, 13, .inl (M 1))), ((aM 2), .inl (g.2 0, 13, .inl (M 2))), ((aM 3), .inl (g.2 0, 13, .inl (M 3))), ((aM 4), .inl (g.2 0, 13, .inl (M 4))), (qx, .inl (g.2 0, 13, .inl fA_15)), (qt, .inr (7, [.ref ql, .ref qr, .ref qv, .ref qg, .int parts, .int limit])), (ql, .inl (g.2 0, 5, .inl len)), (qr, .inl (g.2 0, 5, .inl row))]) [0, 1, 2, 3, 4, 5, 6, 7, 11, 8, 9, 10] (by decide) rfl) hS ls (lv_sub hl [3, 4, 2, 1, 0] rfl)
/-- what is heard, by remainders -/
def suZ (h : Nat → Nat) (fr L r : Nat) : Nat → Int
  | 0 => 0
  | i + 1 => suZ h fr L r i + if (fr + i) % L = r then sgZ (h i) else 0
theorem suZ_le (h : Nat → Nat) (fr L r : Nat) : ∀ k : Nat, -(k : Int) ≤ suZ h fr L r k ∧ suZ h fr L r k ≤ k
  | 0 => by simp [suZ]
  | k + 1 => by
    have := suZ_le h fr L r k
    have := sgZ_le (h k)
    rw [suZ]; split <;> omega
/-- sums over remainders, for or against -/
def rsZ (c : Nat → Bool) (f : Nat → Int) : Nat → Int
  | 0 => 0
  | r + 1 => rsZ c f r + if c r then f r else -f r
theorem rsZ_add (c : Nat → Bool) (f g : Nat → Int) : ∀ n, rsZ c (fun r => f r + g r) n = rsZ c f n + rsZ c g n
  | 0 => by simp [rsZ]
  | n + 1 => by rw [rsZ, rsZ, rsZ, rsZ_add c f g n]; split <;> omega
theorem rsZ_one (c : Nat → Bool) (r0 : Nat) (v : Int) : ∀ n, rsZ c (fun r => if r0 = r then v else 0) n = if r0 < n then (if c r0 then v else -v) else 0
  | 0 => by simp [rsZ]
  | n + 1 => by
    rw [rsZ, rsZ_one c r0 v n]
    by_cases e : r0 = n
    · subst e
      rw [if_neg (Nat.lt_irrefl _), if_pos (Nat.lt_succ_self _), if_pos rfl]; omega
    · rw [if_neg e]
      by_cases z : r0 < n
      · rw [if_pos z, if_pos (Nat.lt_succ_of_lt z)]; simp
      · rw [if_neg z]
        simp [show ¬ r0 < n + 1 by omega]
theorem chB_mod (T : Cd) (p : Nat) {L : Nat} (hL : L = cL T p) (x w : Nat) : chB T p (((x % L : Nat) : Int) - (w : Int)) = chB T p ((x : Int) - (w : Int)) := by
  unfold chB
  congr 2
  rw [← hL]
  have : ((x % L : Nat) : Int) = (x : Int) % (L : Int) := by omega
  rw [this, Int.sub_emod, Int.emod_emod, ← Int.sub_emod]
theorem rsZ_su (T : Cd) (h : Nat → Nat) (fr p w : Nat) (hL : 0 < cL T p) : ∀ k, (∀ i, i < k → h i ≤ 2) → rsZ (fun r => chB T p ((r : Int) - (w : Int))) (fun r => suZ h fr (cL T p) r k) (cL T p) = mtZ T h fr p w k
  | 0, _ => by
    have : ∀ n, rsZ (fun r => chB T p ((r : Int) - (w : Int))) (fun r => suZ h fr (cL T p) r 0) n = 0 := fun n => by
      induction n with
      | zero => rfl
      | succ n ih => rw [rsZ, ih]; simp [suZ]
    rw [this, mtZ]
  | k + 1, hh => by
    have ih := rsZ_su T h fr p w hL k (fun i hi => hh i (by omega))
    have e : (fun r => suZ h fr (cL T p) r (k + 1)) = (fun r => suZ h fr (cL T p) r k + (if (fr + k) % cL T p = r then sgZ (h k) else 0)) := rfl
    rw [e, rsZ_add, ih, rsZ_one, if_pos (Nat.mod_lt _ hL), mtZ, alZ_sg T h fr p w k (hh k (by omega)), chB_mod T p rfl]
abbrev preX0_matchAll (T : Cd) (h : Nat → Nat) (fr mn p : Nat) (E he : Nat → Int32) (_ : Nat → Nat → Int32) (_ : Nat → Int32) (parts _ : Int32) (len row : Nat → Int32) (p1 : Int32) : Prop := cn T ≤ 5 ∧ isL T len ∧ isR T row ∧ p1.toInt = (p : Int) ∧ p < cn T ∧ (E 5).toInt = (fr : Int) ∧ (E 6).toInt = (mn : Int) ∧ mn ≤ 200 ∧ isH h mn he
abbrev postX0_matchAll (T : Cd) (h : Nat → Nat) (fr mn p : Nat) (_ _ : Nat → Int32) (M : Nat → Nat → Int32) (_ : Nat → Int32) (_ _ : Int32) (_ _ : Nat → Int32) (_ : Int32) (M' : Nat → Nat → Int32) (_ : Nat → Int32) : Prop := (∀ w, w < cL T p → (M' p w).toInt = mtZ T h fr p w mn) ∧ ∀ q, q ≠ p → M' q = M q
theorem sX0_matchAll_88 (T : Cd) (h : Nat → Nat) (fr mn p : Nat) (E he : Nat → Int32) (M0 : Nat → Nat → Int32) (su0 : Nat → Int32) (parts limit : Int32) (len row : Nat → Int32) (p1 : Int32) (H : preX0_matchAll T h fr mn p E he M0 su0 parts limit len row p1) (x2 : Int32) (h2 : x2.toInt = (cL T p : Int)) (su : Nat → Int32) (hsu : ∀ r, r < cL T p → (su r).toInt = suZ h fr (cL T p) r mn) : ∀ (n i : Nat) (x4 : Int32) (M : Nat → Nat → Int32), x4.toInt = (i : Int) → i ≤ cL T p → cL T p + 1 ≤ i + n → (∀ w, w < cL T p → (M p w).toInt = rsZ (fun r => chB T p ((r : Int) - (w : Int))) (fun r => suZ h fr (cL T p) r mn) i) → (∀ w, w < cL T p → -((i : Int) * 200) ≤ (M p w).toInt ∧ (M p w).toInt ≤ (i : Int) * 200) → (∀ q, q ≠ p → M q = M0 q) → vX0_matchAll_c88 E he parts limit len row p1 (postX0_matchAll T h fr mn p E he M0 su0 parts limit len row p1) n x2 x4 M su
  | 0, i, x4, M, _, hi, hn, _, _, _ => absurd hn (by omega)
  | n + 1, i, x4, M, h4, hi, hn, hM, hMb, hMo => by
    obtain ⟨hn5, hL, hR, h1, hp, hfr, hmn, hmn2, hH⟩ := id H
    have hl := hL p hp
    rw [vX0_matchAll_c88, q_le h2 h4]
    refine ⟨fun hc => ?_, fun hc => ?_⟩
    · have e : i = cL T p := by omega
      rw [e] at hM
      refine ⟨fun w hw => ?_, hMo⟩
      rw [hM w hw]
      exact rsZ_su T h fr p w (by omega) mn (fun i hi => (hH i hi).2)
    · have hin : vp_in p1 5 := q_in h1 (by omega)
      refine ⟨hin, fun j hj e => ?_⟩
      have := nI_at h1 hj e
      subst this
      have hs := hsu i (by omega)
      have hsl := suZ_le h fr (cL T j) i mn
      refine ⟨q_in h4 (by omega), ?_⟩
      rw [q_cl h4]
      refine ⟨T, j, ⟨hn5, hL, hR, h1, hp, by omega, by omega, by omega, by omega, fun w hw => by have := hMb w hw; omega⟩, fun fc hfc => ?_⟩
      have hu : ∀ w, va_up M j fc j w = fc w := fun w => by unfold va_up; rw [if_pos rfl]
      refine sX0_matchAll_88 T h fr mn j E he M0 su0 parts limit len row p1 H x2 h2 su hsu n (i + 1) _ _ (q_1 h4 (by omega)) (by omega) (by omega) (fun w hw => ?_) (fun w hw => ?_) (fun q hq => ?_)
      · have hw2 := hfc w
        rw [if_pos hw, h4, hs] at hw2
        rw [hu, hw2, hM w hw, rsZ]
      · have hw2 := hfc w
        have hb := hMb w hw
        rw [if_pos hw, h4, hs] at hw2
        rw [hu, hw2]
        split <;> omega
      · unfold va_up
        rw [if_neg hq]; exact hMo q hq
theorem mod_next {a L : Nat} (hL : 0 < L) : (a + 1) % L = if a % L + 1 < L then a % L + 1 else 0 := by
  have h1 := Nat.mod_lt a hL
  rw [Nat.add_mod]
  by_cases h : a % L + 1 < L
  · rw [if_pos h]
    rcases Nat.lt_or_ge 1 L with z | z
    · rw [Nat.mod_eq_of_lt z, Nat.mod_eq_of_lt h]
    · omega
  · rw [if_neg h]
    have e : a % L + 1 = L := by omega
    rcases Nat.lt_or_ge 1 L with z | z
    · rw [Nat.mod_eq_of_lt z, e, Nat.mod_self]
    · have : L = 1 := by omega
      subst this; exact Nat.mod_one _
theorem sX0_matchAll_30 (T : Cd) (h : Nat → Nat) (fr mn p : Nat) (E he : Nat → Int32) (M : Nat → Nat → Int32) (su0 : Nat → Int32) (parts limit : Int32) (len row : Nat → Int32) (p1 : Int32) (H : preX0_matchAll T h fr mn p E he M su0 parts limit len row p1) (x2 : Int32) (h2 : x2.toInt = (cL T p : Int)) : ∀ (n i : Nat) (x3 x4 : Int32) (su : Nat → Int32), x3.toInt = (((fr + i) % cL T p : Nat) : Int) → x4.toInt = (i : Int) → i ≤ mn → mn + 1 ≤ i + n → (∀ r, r < cL T p → (su r).toInt = suZ h fr (cL T p) r i) → vX0_matchAll_c30 E he parts limit len row p1 (postX0_matchAll T h fr mn p E he M su0 parts limit len row p1) n x2 x3 x4 M su
  | 0, i, x3, x4, su, _, _, hi, hn, _ => absurd hn (by omega)
  | n + 1, i, x3, x4, su, h3, h4, hi, hn, hs => by
    obtain ⟨hn5, hL, hR, h1, hp, hfr, hmn, hmn2, hH⟩ := id H
    have hl := hL p hp
    have hmod := Nat.mod_lt (fr + i) (show 0 < cL T p by omega)
    have hin : vp_in p1 5 := q_in h1 (by omega)
    rw [vX0_matchAll_c30, q_le hmn h4]
    refine ⟨fun hc => ⟨hin, fun j hj e => ?_⟩, fun hc => ⟨q_in h3 (by omega), h, i, ⟨h4, by omega, (hH i (by omega)).1⟩, fun r hr a ha => ⟨q_in h3 (by omega), ?_⟩⟩⟩
    · have := nI_at h1 hj e
      subst this
      have e2 : i = mn := by omega
      subst e2
      refine ⟨by show 13 < 2147483647; omega, fun fA hfA => ⟨cL T j + 1, ?_⟩⟩
      have hz : ∀ w, w < cL T j → va_up M j fA j w = 0 := fun w hw => by
        unfold va_up; rw [if_pos rfl, hfA w, if_pos (by omega)]
      refine sX0_matchAll_88 T h fr i j E he M su0 parts limit len row p1 H x2 h2 su hs (cL T j + 1) 0 0 _ rfl (by omega) (by omega) (fun w hw => by rw [hz w hw]; rfl) (fun w hw => by rw [hz w hw]; decide) (fun q hq => by unfold va_up; rw [if_neg hq])
    · have hr : r.toInt = sgZ (h i) := hr
      have hsg := sgZ_le (h i)
      have hsl := suZ_le h fr (cL T p) ((fr + i) % cL T p) i
      have hsi := hs ((fr + i) % cL T p) hmod
      have h3s := q_1 h3 (by omega)
      rw [q_cl h3] at ha ⊢
      have ha2 : a.toInt = suZ h fr (cL T p) ((fr + i) % cL T p) i + sgZ (h i) := by rw [ha]; exact q_add hsi hr (by omega) (by omega)
      have hs2 : ∀ r, r < cL T p → (upd su ((fr + i) % cL T p) a r).toInt = suZ h fr (cL T p) r (i + 1) := by
        intro q hq
        unfold upd
        rw [suZ]
        by_cases e : q = (fr + i) % cL T p
        · rw [if_pos e, if_pos e.symm, ha2, e]
        · rw [if_neg e, if_neg (fun z => e z.symm), hs q hq]; omega
      have hnx := mod_next (a := fr + i) (L := cL T p) (by omega)
      rw [q_le h2 h3s]
      refine ⟨fun hq => ?_, fun hq => ?_⟩
      · exact sX0_matchAll_30 T h fr mn p E he M su0 parts limit len row p1 H x2 h2 n (i + 1) _ _ _ (by rw [← Nat.add_assoc, hnx, if_neg (by omega)]; rfl) (q_1 h4 (by omega)) (by omega) (by omega) hs2
      · exact sX0_matchAll_30 T h fr mn p E he M su0 parts limit len row p1 H x2 h2 n (i + 1) _ _ _ (by rw [← Nat.add_assoc, hnx, if_pos (by omega)]; exact h3s) (q_1 h4 (by omega)) (by omega) (by omega) hs2
theorem sX0_matchAll (T : Cd) (h : Nat → Nat) (fr mn p : Nat) (E he : Nat → Int32) (M : Nat → Nat → Int32) (su : Nat → Int32) (parts limit : Int32) (len row : Nat → Int32) (p1 : Int32) (H : preX0_matchAll T h fr mn p E he M su parts limit len row p1) : vX0_matchAll E he M su parts limit len row p1 (postX0_matchAll T h fr mn p E he M su parts limit len row p1) := by
  obtain ⟨hn5, hL, hR, h1, hp, hfr, hmn, hmn2, hH⟩ := id H
  have hl := hL p hp
  have hin : vp_in p1 5 := q_in h1 (by omega)
  refine ⟨hin, by show 13 < 2147483647; omega, fun fA hfA => ?_⟩
  rw [q_cl h1]
  refine ⟨by show 0 < (len p).toInt; omega, fun r hr => ⟨mn + 1, ?_⟩⟩
  have hr : r.toInt = (E 5).toInt % (len p).toInt := hr
  rw [hfr, hl.1] at hr
  exact sX0_matchAll_30 T h fr mn p E he M su parts limit len row p1 H _ hl.1 (mn + 1) 0 _ 0 fA (by rw [hr, Nat.add_zero]; omega) rfl (by omega) (by omega) (fun q hq => by rw [hfA q, if_pos (by omega)]; rfl)
